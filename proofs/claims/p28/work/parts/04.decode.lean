theorem dX0_init_0 : decode cX0_init 0 = .ok (.aload_n 0, 1) := by decide +kernel
theorem dX0_init_1 : decode cX0_init 1 = .ok (.invokespecial 3, 3) := by decide +kernel
theorem dX0_init_4 : decode cX0_init 4 = .ok (.aload_n 0, 1) := by decide +kernel
theorem dX0_init_5 : decode cX0_init 5 = .ok (.iconst (-1), 1) := by decide +kernel
theorem dX0_init_6 : decode cX0_init 6 = .ok (.putfield 9, 3) := by decide +kernel
theorem dX0_init_9 : decode cX0_init 9 = .ok (.aload_n 0, 1) := by decide +kernel
theorem dX0_init_10 : decode cX0_init 10 = .ok (.aload_n 1, 1) := by decide +kernel
theorem dX0_init_11 : decode cX0_init 11 = .ok (.putfield 15, 3) := by decide +kernel
theorem dX0_init_14 : decode cX0_init 14 = .ok (.aload_n 0, 1) := by decide +kernel
theorem dX0_init_15 : decode cX0_init 15 = .ok (.iload_n 2, 1) := by decide +kernel
theorem dX0_init_16 : decode cX0_init 16 = .ok (.putfield 19, 3) := by decide +kernel
theorem dX0_init_19 : decode cX0_init 19 = .ok (.aload_n 0, 1) := by decide +kernel
theorem dX0_init_20 : decode cX0_init 20 = .ok (.iload_n 3, 1) := by decide +kernel
theorem dX0_init_21 : decode cX0_init 21 = .ok (.putfield 22, 3) := by decide +kernel
theorem dX0_init_24 : decode cX0_init 24 = .ok (.return_, 1) := by decide +kernel
theorem dX1_init_0 : decode cX1_init 0 = .ok (.aload_n 0, 1) := by decide +kernel
theorem dX1_init_1 : decode cX1_init 1 = .ok (.invokespecial 3, 3) := by decide +kernel
theorem dX1_init_4 : decode cX1_init 4 = .ok (.aload_n 0, 1) := by decide +kernel
theorem dX1_init_5 : decode cX1_init 5 = .ok (.bipush 8, 2) := by decide +kernel
theorem dX1_init_7 : decode cX1_init 7 = .ok (.newarray .int, 2) := by decide +kernel
theorem dX1_init_9 : decode cX1_init 9 = .ok (.putfield 9, 3) := by decide +kernel
theorem dX1_init_12 : decode cX1_init 12 = .ok (.aload_n 0, 1) := by decide +kernel
theorem dX1_init_13 : decode cX1_init 13 = .ok (.bipush 6, 2) := by decide +kernel
theorem dX1_init_15 : decode cX1_init 15 = .ok (.newarray .int, 2) := by decide +kernel
theorem dX1_init_17 : decode cX1_init 17 = .ok (.putfield 15, 3) := by decide +kernel
theorem dX1_init_20 : decode cX1_init 20 = .ok (.aload_n 0, 1) := by decide +kernel
theorem dX1_init_21 : decode cX1_init 21 = .ok (.iconst 0, 1) := by decide +kernel
theorem dX1_init_22 : decode cX1_init 22 = .ok (.putfield 18, 3) := by decide +kernel
theorem dX1_init_25 : decode cX1_init 25 = .ok (.aload_n 0, 1) := by decide +kernel
theorem dX1_init_26 : decode cX1_init 26 = .ok (.iconst (-1), 1) := by decide +kernel
theorem dX1_init_27 : decode cX1_init 27 = .ok (.putfield 22, 3) := by decide +kernel
theorem dX1_init_30 : decode cX1_init 30 = .ok (.aload_n 0, 1) := by decide +kernel
theorem dX1_init_31 : decode cX1_init 31 = .ok (.aconst_null, 1) := by decide +kernel
theorem dX1_init_32 : decode cX1_init 32 = .ok (.putfield 25, 3) := by decide +kernel
theorem dX1_init_35 : decode cX1_init 35 = .ok (.aload_n 0, 1) := by decide +kernel
theorem dX1_init_36 : decode cX1_init 36 = .ok (.aload_n 1, 1) := by decide +kernel
theorem dX1_init_37 : decode cX1_init 37 = .ok (.putfield 29, 3) := by decide +kernel
theorem dX1_init_40 : decode cX1_init 40 = .ok (.aload_n 0, 1) := by decide +kernel
theorem dX1_init_41 : decode cX1_init 41 = .ok (.iload_n 2, 1) := by decide +kernel
theorem dX1_init_42 : decode cX1_init 42 = .ok (.putfield 33, 3) := by decide +kernel
theorem dX1_init_45 : decode cX1_init 45 = .ok (.aload_n 0, 1) := by decide +kernel
theorem dX1_init_46 : decode cX1_init 46 = .ok (.iload_n 3, 1) := by decide +kernel
theorem dX1_init_47 : decode cX1_init 47 = .ok (.putfield 36, 3) := by decide +kernel
theorem dX1_init_50 : decode cX1_init 50 = .ok (.return_, 1) := by decide +kernel
theorem dX2_init_0 : decode cX2_init 0 = .ok (.aload_n 0, 1) := by decide +kernel
theorem dX2_init_1 : decode cX2_init 1 = .ok (.invokespecial 3, 3) := by decide +kernel
theorem dX2_init_4 : decode cX2_init 4 = .ok (.aload_n 0, 1) := by decide +kernel
theorem dX2_init_5 : decode cX2_init 5 = .ok (.bipush 8, 2) := by decide +kernel
theorem dX2_init_7 : decode cX2_init 7 = .ok (.newarray .int, 2) := by decide +kernel
theorem dX2_init_9 : decode cX2_init 9 = .ok (.putfield 9, 3) := by decide +kernel
theorem dX2_init_12 : decode cX2_init 12 = .ok (.return_, 1) := by decide +kernel
theorem dX3_init_0 : decode cX3_init 0 = .ok (.aload_n 0, 1) := by decide +kernel
theorem dX3_init_1 : decode cX3_init 1 = .ok (.invokespecial 1, 3) := by decide +kernel
theorem dX3_init_4 : decode cX3_init 4 = .ok (.aload_n 0, 1) := by decide +kernel
theorem dX3_init_5 : decode cX3_init 5 = .ok (.iconst 0, 1) := by decide +kernel
theorem dX3_init_6 : decode cX3_init 6 = .ok (.putfield 7, 3) := by decide +kernel
theorem dX3_init_9 : decode cX3_init 9 = .ok (.aload_n 0, 1) := by decide +kernel
theorem dX3_init_10 : decode cX3_init 10 = .ok (.iload_n 1, 1) := by decide +kernel
theorem dX3_init_11 : decode cX3_init 11 = .ok (.putfield 13, 3) := by decide +kernel
theorem dX3_init_14 : decode cX3_init 14 = .ok (.aload_n 0, 1) := by decide +kernel
theorem dX3_init_15 : decode cX3_init 15 = .ok (.aload_n 2, 1) := by decide +kernel
theorem dX3_init_16 : decode cX3_init 16 = .ok (.putfield 17, 3) := by decide +kernel
theorem dX3_init_19 : decode cX3_init 19 = .ok (.aload_n 0, 1) := by decide +kernel
theorem dX3_init_20 : decode cX3_init 20 = .ok (.aload_n 3, 1) := by decide +kernel
theorem dX3_init_21 : decode cX3_init 21 = .ok (.putfield 21, 3) := by decide +kernel
theorem dX3_init_24 : decode cX3_init 24 = .ok (.aload_n 0, 1) := by decide +kernel
theorem dX3_init_25 : decode cX3_init 25 = .ok (.iload 4, 2) := by decide +kernel
theorem dX3_init_27 : decode cX3_init 27 = .ok (.putfield 25, 3) := by decide +kernel
theorem dX3_init_30 : decode cX3_init 30 = .ok (.return_, 1) := by decide +kernel
theorem dX4_init_0 : decode cX4_init 0 = .ok (.aload_n 0, 1) := by decide +kernel
theorem dX4_init_1 : decode cX4_init 1 = .ok (.invokespecial 1, 3) := by decide +kernel
theorem dX4_init_4 : decode cX4_init 4 = .ok (.aload_n 0, 1) := by decide +kernel
theorem dX4_init_5 : decode cX4_init 5 = .ok (.iload_n 1, 1) := by decide +kernel
theorem dX4_init_6 : decode cX4_init 6 = .ok (.putfield 7, 3) := by decide +kernel
theorem dX4_init_9 : decode cX4_init 9 = .ok (.aload_n 0, 1) := by decide +kernel
theorem dX4_init_10 : decode cX4_init 10 = .ok (.iload_n 2, 1) := by decide +kernel
theorem dX4_init_11 : decode cX4_init 11 = .ok (.putfield 13, 3) := by decide +kernel
theorem dX4_init_14 : decode cX4_init 14 = .ok (.aload_n 0, 1) := by decide +kernel
theorem dX4_init_15 : decode cX4_init 15 = .ok (.iload_n 3, 1) := by decide +kernel
theorem dX4_init_16 : decode cX4_init 16 = .ok (.putfield 16, 3) := by decide +kernel
theorem dX4_init_19 : decode cX4_init 19 = .ok (.aload_n 0, 1) := by decide +kernel
theorem dX4_init_20 : decode cX4_init 20 = .ok (.iload 4, 2) := by decide +kernel
theorem dX4_init_22 : decode cX4_init 22 = .ok (.putfield 19, 3) := by decide +kernel
theorem dX4_init_25 : decode cX4_init 25 = .ok (.return_, 1) := by decide +kernel
theorem dX5_init_0 : decode cX5_init 0 = .ok (.aload_n 0, 1) := by decide +kernel
theorem dX5_init_1 : decode cX5_init 1 = .ok (.invokespecial 1, 3) := by decide +kernel
theorem dX5_init_4 : decode cX5_init 4 = .ok (.aload_n 0, 1) := by decide +kernel
theorem dX5_init_5 : decode cX5_init 5 = .ok (.iconst 0, 1) := by decide +kernel
theorem dX5_init_6 : decode cX5_init 6 = .ok (.putfield 7, 3) := by decide +kernel
theorem dX5_init_9 : decode cX5_init 9 = .ok (.aload_n 0, 1) := by decide +kernel
theorem dX5_init_10 : decode cX5_init 10 = .ok (.iload_n 1, 1) := by decide +kernel
theorem dX5_init_11 : decode cX5_init 11 = .ok (.putfield 13, 3) := by decide +kernel
theorem dX5_init_14 : decode cX5_init 14 = .ok (.aload_n 0, 1) := by decide +kernel
theorem dX5_init_15 : decode cX5_init 15 = .ok (.aload_n 2, 1) := by decide +kernel
theorem dX5_init_16 : decode cX5_init 16 = .ok (.putfield 16, 3) := by decide +kernel
theorem dX5_init_19 : decode cX5_init 19 = .ok (.aload_n 0, 1) := by decide +kernel
theorem dX5_init_20 : decode cX5_init 20 = .ok (.iload_n 3, 1) := by decide +kernel
theorem dX5_init_21 : decode cX5_init 21 = .ok (.putfield 20, 3) := by decide +kernel
theorem dX5_init_24 : decode cX5_init 24 = .ok (.return_, 1) := by decide +kernel
theorem dX6_init_0 : decode cX6_init 0 = .ok (.aload_n 0, 1) := by decide +kernel
theorem dX6_init_1 : decode cX6_init 1 = .ok (.invokespecial 1, 3) := by decide +kernel
theorem dX6_init_4 : decode cX6_init 4 = .ok (.aload_n 0, 1) := by decide +kernel
theorem dX6_init_5 : decode cX6_init 5 = .ok (.new 7, 3) := by decide +kernel
theorem dX6_init_8 : decode cX6_init 8 = .ok (.dup, 1) := by decide +kernel
theorem dX6_init_9 : decode cX6_init 9 = .ok (.invokespecial 9, 3) := by decide +kernel
theorem dX6_init_12 : decode cX6_init 12 = .ok (.putfield 10, 3) := by decide +kernel
theorem dX6_init_15 : decode cX6_init 15 = .ok (.aload_n 0, 1) := by decide +kernel
theorem dX6_init_16 : decode cX6_init 16 = .ok (.new 7, 3) := by decide +kernel
theorem dX6_init_19 : decode cX6_init 19 = .ok (.dup, 1) := by decide +kernel
theorem dX6_init_20 : decode cX6_init 20 = .ok (.invokespecial 9, 3) := by decide +kernel
theorem dX6_init_23 : decode cX6_init 23 = .ok (.putfield 16, 3) := by decide +kernel
theorem dX6_init_26 : decode cX6_init 26 = .ok (.aload_n 0, 1) := by decide +kernel
theorem dX6_init_27 : decode cX6_init 27 = .ok (.new 7, 3) := by decide +kernel
theorem dX6_init_30 : decode cX6_init 30 = .ok (.dup, 1) := by decide +kernel
theorem dX6_init_31 : decode cX6_init 31 = .ok (.invokespecial 9, 3) := by decide +kernel
theorem dX6_init_34 : decode cX6_init 34 = .ok (.putfield 19, 3) := by decide +kernel
theorem dX6_init_37 : decode cX6_init 37 = .ok (.aload_n 0, 1) := by decide +kernel
theorem dX6_init_38 : decode cX6_init 38 = .ok (.new 7, 3) := by decide +kernel
theorem dX6_init_41 : decode cX6_init 41 = .ok (.dup, 1) := by decide +kernel
theorem dX6_init_42 : decode cX6_init 42 = .ok (.invokespecial 9, 3) := by decide +kernel
theorem dX6_init_45 : decode cX6_init 45 = .ok (.putfield 22, 3) := by decide +kernel
theorem dX6_init_48 : decode cX6_init 48 = .ok (.aload_n 0, 1) := by decide +kernel
theorem dX6_init_49 : decode cX6_init 49 = .ok (.new 7, 3) := by decide +kernel
theorem dX6_init_52 : decode cX6_init 52 = .ok (.dup, 1) := by decide +kernel
theorem dX6_init_53 : decode cX6_init 53 = .ok (.invokespecial 9, 3) := by decide +kernel
theorem dX6_init_56 : decode cX6_init 56 = .ok (.putfield 25, 3) := by decide +kernel
theorem dX6_init_59 : decode cX6_init 59 = .ok (.aload_n 0, 1) := by decide +kernel
theorem dX6_init_60 : decode cX6_init 60 = .ok (.new 7, 3) := by decide +kernel
theorem dX6_init_63 : decode cX6_init 63 = .ok (.dup, 1) := by decide +kernel
theorem dX6_init_64 : decode cX6_init 64 = .ok (.invokespecial 9, 3) := by decide +kernel
theorem dX6_init_67 : decode cX6_init 67 = .ok (.putfield 28, 3) := by decide +kernel
theorem dX6_init_70 : decode cX6_init 70 = .ok (.aload_n 0, 1) := by decide +kernel
theorem dX6_init_71 : decode cX6_init 71 = .ok (.iconst 0, 1) := by decide +kernel
theorem dX6_init_72 : decode cX6_init 72 = .ok (.putfield 31, 3) := by decide +kernel
theorem dX6_init_75 : decode cX6_init 75 = .ok (.return_, 1) := by decide +kernel
theorem dX6_pass_0 : decode cX6_pass 0 = .ok (.iload_n 1, 1) := by decide +kernel
theorem dX6_pass_1 : decode cX6_pass 1 = .ok (.iconst 1, 1) := by decide +kernel
theorem dX6_pass_2 : decode cX6_pass 2 = .ok (.sipush 1000, 3) := by decide +kernel
theorem dX6_pass_5 : decode cX6_pass 5 = .ok (.invokestatic 35, 3) := by decide +kernel
theorem dX6_pass_8 : decode cX6_pass 8 = .ok (.iload_n 1, 1) := by decide +kernel
theorem dX6_pass_9 : decode cX6_pass 9 = .ok (.ldc 39, 2) := by decide +kernel
theorem dX6_pass_11 : decode cX6_pass 11 = .ok (.aload_n 0, 1) := by decide +kernel
theorem dX6_pass_12 : decode cX6_pass 12 = .ok (.getfield 31, 3) := by decide +kernel
theorem dX6_pass_15 : decode cX6_pass 15 = .ok (.isub, 1) := by decide +kernel
theorem dX6_pass_16 : decode cX6_pass 16 = .ok (.if_icmp .le 13, 3) := by decide +kernel
theorem dX6_pass_19 : decode cX6_pass 19 = .ok (.new 40, 3) := by decide +kernel
theorem dX6_pass_22 : decode cX6_pass 22 = .ok (.dup, 1) := by decide +kernel
theorem dX6_pass_23 : decode cX6_pass 23 = .ok (.ldc 42, 2) := by decide +kernel
theorem dX6_pass_25 : decode cX6_pass 25 = .ok (.invokespecial 44, 3) := by decide +kernel
theorem dX6_pass_28 : decode cX6_pass 28 = .ok (.athrow, 1) := by decide +kernel
theorem dX6_pass_29 : decode cX6_pass 29 = .ok (.aload_n 0, 1) := by decide +kernel
theorem dX6_pass_30 : decode cX6_pass 30 = .ok (.dup, 1) := by decide +kernel
theorem dX6_pass_31 : decode cX6_pass 31 = .ok (.getfield 31, 3) := by decide +kernel
theorem dX6_pass_34 : decode cX6_pass 34 = .ok (.iload_n 1, 1) := by decide +kernel
theorem dX6_pass_35 : decode cX6_pass 35 = .ok (.iadd, 1) := by decide +kernel
theorem dX6_pass_36 : decode cX6_pass 36 = .ok (.putfield 31, 3) := by decide +kernel
theorem dX6_pass_39 : decode cX6_pass 39 = .ok (.aload_n 0, 1) := by decide +kernel
theorem dX6_pass_40 : decode cX6_pass 40 = .ok (.getfield 31, 3) := by decide +kernel
theorem dX6_pass_43 : decode cX6_pass 43 = .ok (.ireturn, 1) := by decide +kernel
theorem dX6_addAccount_0 : decode cX6_addAccount 0 = .ok (.iload_n 1, 1) := by decide +kernel
theorem dX6_addAccount_1 : decode cX6_addAccount 1 = .ok (.iconst (-1), 1) := by decide +kernel
theorem dX6_addAccount_2 : decode cX6_addAccount 2 = .ok (.if_icmp .ne 7, 3) := by decide +kernel
theorem dX6_addAccount_5 : decode cX6_addAccount 5 = .ok (.aconst_null, 1) := by decide +kernel
theorem dX6_addAccount_6 : decode cX6_addAccount 6 = .ok (.goto 8, 3) := by decide +kernel
theorem dX6_addAccount_9 : decode cX6_addAccount 9 = .ok (.aload_n 0, 1) := by decide +kernel
theorem dX6_addAccount_10 : decode cX6_addAccount 10 = .ok (.iload_n 1, 1) := by decide +kernel
theorem dX6_addAccount_11 : decode cX6_addAccount 11 = .ok (.invokevirtual 47, 3) := by decide +kernel
theorem dX6_addAccount_14 : decode cX6_addAccount 14 = .ok (.astore 4, 2) := by decide +kernel
theorem dX6_addAccount_16 : decode cX6_addAccount 16 = .ok (.iload_n 2, 1) := by decide +kernel
theorem dX6_addAccount_17 : decode cX6_addAccount 17 = .ok (.iconst 0, 1) := by decide +kernel
theorem dX6_addAccount_18 : decode cX6_addAccount 18 = .ok (.bipush 9, 2) := by decide +kernel
theorem dX6_addAccount_20 : decode cX6_addAccount 20 = .ok (.invokestatic 35, 3) := by decide +kernel
theorem dX6_addAccount_23 : decode cX6_addAccount 23 = .ok (.iload_n 3, 1) := by decide +kernel
theorem dX6_addAccount_24 : decode cX6_addAccount 24 = .ok (.iconst 0, 1) := by decide +kernel
theorem dX6_addAccount_25 : decode cX6_addAccount 25 = .ok (.bipush 9, 2) := by decide +kernel
theorem dX6_addAccount_27 : decode cX6_addAccount 27 = .ok (.invokestatic 35, 3) := by decide +kernel
theorem dX6_addAccount_30 : decode cX6_addAccount 30 = .ok (.aload_n 0, 1) := by decide +kernel
theorem dX6_addAccount_31 : decode cX6_addAccount 31 = .ok (.getfield 10, 3) := by decide +kernel
theorem dX6_addAccount_34 : decode cX6_addAccount 34 = .ok (.invokevirtual 51, 3) := by decide +kernel
theorem dX6_addAccount_37 : decode cX6_addAccount 37 = .ok (.bipush 16, 2) := by decide +kernel
theorem dX6_addAccount_39 : decode cX6_addAccount 39 = .ok (.invokestatic 55, 3) := by decide +kernel
theorem dX6_addAccount_42 : decode cX6_addAccount 42 = .ok (.aload_n 0, 1) := by decide +kernel
theorem dX6_addAccount_43 : decode cX6_addAccount 43 = .ok (.getfield 10, 3) := by decide +kernel
theorem dX6_addAccount_46 : decode cX6_addAccount 46 = .ok (.new 59, 3) := by decide +kernel
theorem dX6_addAccount_49 : decode cX6_addAccount 49 = .ok (.dup, 1) := by decide +kernel
theorem dX6_addAccount_50 : decode cX6_addAccount 50 = .ok (.aload 4, 2) := by decide +kernel
theorem dX6_addAccount_52 : decode cX6_addAccount 52 = .ok (.iload_n 2, 1) := by decide +kernel
theorem dX6_addAccount_53 : decode cX6_addAccount 53 = .ok (.iload_n 3, 1) := by decide +kernel
theorem dX6_addAccount_54 : decode cX6_addAccount 54 = .ok (.invokespecial 61, 3) := by decide +kernel
theorem dX6_addAccount_57 : decode cX6_addAccount 57 = .ok (.invokevirtual 64, 3) := by decide +kernel
theorem dX6_addAccount_60 : decode cX6_addAccount 60 = .ok (.pop, 1) := by decide +kernel
theorem dX6_addAccount_61 : decode cX6_addAccount 61 = .ok (.aload_n 0, 1) := by decide +kernel
theorem dX6_addAccount_62 : decode cX6_addAccount 62 = .ok (.getfield 10, 3) := by decide +kernel
theorem dX6_addAccount_65 : decode cX6_addAccount 65 = .ok (.invokevirtual 51, 3) := by decide +kernel
theorem dX6_addAccount_68 : decode cX6_addAccount 68 = .ok (.iconst 1, 1) := by decide +kernel
theorem dX6_addAccount_69 : decode cX6_addAccount 69 = .ok (.isub, 1) := by decide +kernel
theorem dX6_addAccount_70 : decode cX6_addAccount 70 = .ok (.ireturn, 1) := by decide +kernel
theorem dX6_putRule_0 : decode cX6_putRule 0 = .ok (.iload_n 1, 1) := by decide +kernel
theorem dX6_putRule_1 : decode cX6_putRule 1 = .ok (.ifCond .lt 14, 3) := by decide +kernel
theorem dX6_putRule_4 : decode cX6_putRule 4 = .ok (.iload_n 1, 1) := by decide +kernel
theorem dX6_putRule_5 : decode cX6_putRule 5 = .ok (.aload_n 0, 1) := by decide +kernel
theorem dX6_putRule_6 : decode cX6_putRule 6 = .ok (.getfield 16, 3) := by decide +kernel
theorem dX6_putRule_9 : decode cX6_putRule 9 = .ok (.invokevirtual 51, 3) := by decide +kernel
theorem dX6_putRule_12 : decode cX6_putRule 12 = .ok (.if_icmp .le 13, 3) := by decide +kernel
theorem dX6_putRule_15 : decode cX6_putRule 15 = .ok (.new 68, 3) := by decide +kernel
theorem dX6_putRule_18 : decode cX6_putRule 18 = .ok (.dup, 1) := by decide +kernel
theorem dX6_putRule_19 : decode cX6_putRule 19 = .ok (.ldc 70, 2) := by decide +kernel
theorem dX6_putRule_21 : decode cX6_putRule 21 = .ok (.invokespecial 72, 3) := by decide +kernel
theorem dX6_putRule_24 : decode cX6_putRule 24 = .ok (.athrow, 1) := by decide +kernel
theorem dX6_putRule_25 : decode cX6_putRule 25 = .ok (.iload_n 2, 1) := by decide +kernel
theorem dX6_putRule_26 : decode cX6_putRule 26 = .ok (.iconst 0, 1) := by decide +kernel
theorem dX6_putRule_27 : decode cX6_putRule 27 = .ok (.bipush 9, 2) := by decide +kernel
theorem dX6_putRule_29 : decode cX6_putRule 29 = .ok (.invokestatic 35, 3) := by decide +kernel
theorem dX6_putRule_32 : decode cX6_putRule 32 = .ok (.iload_n 3, 1) := by decide +kernel
theorem dX6_putRule_33 : decode cX6_putRule 33 = .ok (.iload_n 2, 1) := by decide +kernel
theorem dX6_putRule_34 : decode cX6_putRule 34 = .ok (.bipush 9, 2) := by decide +kernel
theorem dX6_putRule_36 : decode cX6_putRule 36 = .ok (.invokestatic 35, 3) := by decide +kernel
theorem dX6_putRule_39 : decode cX6_putRule 39 = .ok (.iload 4, 2) := by decide +kernel
theorem dX6_putRule_41 : decode cX6_putRule 41 = .ok (.iconst 0, 1) := by decide +kernel
theorem dX6_putRule_42 : decode cX6_putRule 42 = .ok (.bipush 9, 2) := by decide +kernel
theorem dX6_putRule_44 : decode cX6_putRule 44 = .ok (.invokestatic 35, 3) := by decide +kernel
theorem dX6_putRule_47 : decode cX6_putRule 47 = .ok (.iload 5, 2) := by decide +kernel
theorem dX6_putRule_49 : decode cX6_putRule 49 = .ok (.iconst 0, 1) := by decide +kernel
theorem dX6_putRule_50 : decode cX6_putRule 50 = .ok (.iconst 3, 1) := by decide +kernel
theorem dX6_putRule_51 : decode cX6_putRule 51 = .ok (.invokestatic 35, 3) := by decide +kernel
theorem dX6_putRule_54 : decode cX6_putRule 54 = .ok (.aload_n 0, 1) := by decide +kernel
theorem dX6_putRule_55 : decode cX6_putRule 55 = .ok (.getfield 16, 3) := by decide +kernel
theorem dX6_putRule_58 : decode cX6_putRule 58 = .ok (.invokevirtual 51, 3) := by decide +kernel
theorem dX6_putRule_61 : decode cX6_putRule 61 = .ok (.bipush 8, 2) := by decide +kernel
theorem dX6_putRule_63 : decode cX6_putRule 63 = .ok (.invokestatic 55, 3) := by decide +kernel
theorem dX6_putRule_66 : decode cX6_putRule 66 = .ok (.aload_n 0, 1) := by decide +kernel
theorem dX6_putRule_67 : decode cX6_putRule 67 = .ok (.getfield 16, 3) := by decide +kernel
theorem dX6_putRule_70 : decode cX6_putRule 70 = .ok (.iload_n 1, 1) := by decide +kernel
theorem dX6_putRule_71 : decode cX6_putRule 71 = .ok (.new 73, 3) := by decide +kernel
theorem dX6_putRule_74 : decode cX6_putRule 74 = .ok (.dup, 1) := by decide +kernel
theorem dX6_putRule_75 : decode cX6_putRule 75 = .ok (.iload_n 2, 1) := by decide +kernel
theorem dX6_putRule_76 : decode cX6_putRule 76 = .ok (.iload_n 3, 1) := by decide +kernel
theorem dX6_putRule_77 : decode cX6_putRule 77 = .ok (.iload 4, 2) := by decide +kernel
theorem dX6_putRule_79 : decode cX6_putRule 79 = .ok (.iload 5, 2) := by decide +kernel
theorem dX6_putRule_81 : decode cX6_putRule 81 = .ok (.invokespecial 75, 3) := by decide +kernel
theorem dX6_putRule_84 : decode cX6_putRule 84 = .ok (.invokevirtual 78, 3) := by decide +kernel
theorem dX6_putRule_87 : decode cX6_putRule 87 = .ok (.aload_n 0, 1) := by decide +kernel
theorem dX6_putRule_88 : decode cX6_putRule 88 = .ok (.getfield 16, 3) := by decide +kernel
theorem dX6_putRule_91 : decode cX6_putRule 91 = .ok (.invokevirtual 51, 3) := by decide +kernel
theorem dX6_putRule_94 : decode cX6_putRule 94 = .ok (.ireturn, 1) := by decide +kernel
theorem dX6_removeRule_0 : decode cX6_removeRule 0 = .ok (.iload_n 1, 1) := by decide +kernel
theorem dX6_removeRule_1 : decode cX6_removeRule 1 = .ok (.ifCond .lt 14, 3) := by decide +kernel
theorem dX6_removeRule_4 : decode cX6_removeRule 4 = .ok (.iload_n 1, 1) := by decide +kernel
theorem dX6_removeRule_5 : decode cX6_removeRule 5 = .ok (.aload_n 0, 1) := by decide +kernel
theorem dX6_removeRule_6 : decode cX6_removeRule 6 = .ok (.getfield 16, 3) := by decide +kernel
theorem dX6_removeRule_9 : decode cX6_removeRule 9 = .ok (.invokevirtual 51, 3) := by decide +kernel
theorem dX6_removeRule_12 : decode cX6_removeRule 12 = .ok (.if_icmp .lt 13, 3) := by decide +kernel
theorem dX6_removeRule_15 : decode cX6_removeRule 15 = .ok (.new 68, 3) := by decide +kernel
theorem dX6_removeRule_18 : decode cX6_removeRule 18 = .ok (.dup, 1) := by decide +kernel
theorem dX6_removeRule_19 : decode cX6_removeRule 19 = .ok (.ldc 81, 2) := by decide +kernel
theorem dX6_removeRule_21 : decode cX6_removeRule 21 = .ok (.invokespecial 72, 3) := by decide +kernel
theorem dX6_removeRule_24 : decode cX6_removeRule 24 = .ok (.athrow, 1) := by decide +kernel
theorem dX6_removeRule_25 : decode cX6_removeRule 25 = .ok (.aload_n 0, 1) := by decide +kernel
theorem dX6_removeRule_26 : decode cX6_removeRule 26 = .ok (.getfield 16, 3) := by decide +kernel
theorem dX6_removeRule_29 : decode cX6_removeRule 29 = .ok (.iload_n 1, 1) := by decide +kernel
theorem dX6_removeRule_30 : decode cX6_removeRule 30 = .ok (.invokevirtual 83, 3) := by decide +kernel
theorem dX6_removeRule_33 : decode cX6_removeRule 33 = .ok (.pop, 1) := by decide +kernel
theorem dX6_removeRule_34 : decode cX6_removeRule 34 = .ok (.aload_n 0, 1) := by decide +kernel
theorem dX6_removeRule_35 : decode cX6_removeRule 35 = .ok (.getfield 16, 3) := by decide +kernel
theorem dX6_removeRule_38 : decode cX6_removeRule 38 = .ok (.invokevirtual 51, 3) := by decide +kernel
theorem dX6_removeRule_41 : decode cX6_removeRule 41 = .ok (.ireturn, 1) := by decide +kernel
theorem dX6_except_0 : decode cX6_except 0 = .ok (.aload_n 0, 1) := by decide +kernel
theorem dX6_except_1 : decode cX6_except 1 = .ok (.iload_n 1, 1) := by decide +kernel
theorem dX6_except_2 : decode cX6_except 2 = .ok (.invokevirtual 47, 3) := by decide +kernel
theorem dX6_except_5 : decode cX6_except 5 = .ok (.astore_n 3, 1) := by decide +kernel
theorem dX6_except_6 : decode cX6_except 6 = .ok (.iload_n 2, 1) := by decide +kernel
theorem dX6_except_7 : decode cX6_except 7 = .ok (.iconst (-1), 1) := by decide +kernel
theorem dX6_except_8 : decode cX6_except 8 = .ok (.iconst 3, 1) := by decide +kernel
theorem dX6_except_9 : decode cX6_except 9 = .ok (.invokestatic 35, 3) := by decide +kernel
theorem dX6_except_12 : decode cX6_except 12 = .ok (.aload_n 3, 1) := by decide +kernel
theorem dX6_except_13 : decode cX6_except 13 = .ok (.getfield 87, 3) := by decide +kernel
theorem dX6_except_16 : decode cX6_except 16 = .ok (.istore 4, 2) := by decide +kernel
theorem dX6_except_18 : decode cX6_except 18 = .ok (.aload_n 3, 1) := by decide +kernel
theorem dX6_except_19 : decode cX6_except 19 = .ok (.iload_n 2, 1) := by decide +kernel
theorem dX6_except_20 : decode cX6_except 20 = .ok (.putfield 87, 3) := by decide +kernel
theorem dX6_except_23 : decode cX6_except 23 = .ok (.iload 4, 2) := by decide +kernel
theorem dX6_except_25 : decode cX6_except 25 = .ok (.ireturn, 1) := by decide +kernel
theorem dX6_regionOf_0 : decode cX6_regionOf 0 = .ok (.aload_n 0, 1) := by decide +kernel
theorem dX6_regionOf_1 : decode cX6_regionOf 1 = .ok (.aload_n 0, 1) := by decide +kernel
theorem dX6_regionOf_2 : decode cX6_regionOf 2 = .ok (.iload_n 1, 1) := by decide +kernel
theorem dX6_regionOf_3 : decode cX6_regionOf 3 = .ok (.invokevirtual 47, 3) := by decide +kernel
theorem dX6_regionOf_6 : decode cX6_regionOf 6 = .ok (.invokevirtual 90, 3) := by decide +kernel
theorem dX6_regionOf_9 : decode cX6_regionOf 9 = .ok (.ireturn, 1) := by decide +kernel
theorem dX6_addSeller_0 : decode cX6_addSeller 0 = .ok (.iload_n 1, 1) := by decide +kernel
theorem dX6_addSeller_1 : decode cX6_addSeller 1 = .ok (.iconst (-1), 1) := by decide +kernel
theorem dX6_addSeller_2 : decode cX6_addSeller 2 = .ok (.if_icmp .ne 7, 3) := by decide +kernel
theorem dX6_addSeller_5 : decode cX6_addSeller 5 = .ok (.aconst_null, 1) := by decide +kernel
theorem dX6_addSeller_6 : decode cX6_addSeller 6 = .ok (.goto 8, 3) := by decide +kernel
theorem dX6_addSeller_9 : decode cX6_addSeller 9 = .ok (.aload_n 0, 1) := by decide +kernel
theorem dX6_addSeller_10 : decode cX6_addSeller 10 = .ok (.iload_n 1, 1) := by decide +kernel
theorem dX6_addSeller_11 : decode cX6_addSeller 11 = .ok (.invokevirtual 94, 3) := by decide +kernel
theorem dX6_addSeller_14 : decode cX6_addSeller 14 = .ok (.astore_n 3, 1) := by decide +kernel
theorem dX6_addSeller_15 : decode cX6_addSeller 15 = .ok (.iload_n 2, 1) := by decide +kernel
theorem dX6_addSeller_16 : decode cX6_addSeller 16 = .ok (.iconst 0, 1) := by decide +kernel
theorem dX6_addSeller_17 : decode cX6_addSeller 17 = .ok (.bipush 99, 2) := by decide +kernel
theorem dX6_addSeller_19 : decode cX6_addSeller 19 = .ok (.invokestatic 35, 3) := by decide +kernel
theorem dX6_addSeller_22 : decode cX6_addSeller 22 = .ok (.aload_n 0, 1) := by decide +kernel
theorem dX6_addSeller_23 : decode cX6_addSeller 23 = .ok (.getfield 19, 3) := by decide +kernel
theorem dX6_addSeller_26 : decode cX6_addSeller 26 = .ok (.invokevirtual 51, 3) := by decide +kernel
theorem dX6_addSeller_29 : decode cX6_addSeller 29 = .ok (.bipush 8, 2) := by decide +kernel
theorem dX6_addSeller_31 : decode cX6_addSeller 31 = .ok (.invokestatic 55, 3) := by decide +kernel
theorem dX6_addSeller_34 : decode cX6_addSeller 34 = .ok (.aload_n 0, 1) := by decide +kernel
theorem dX6_addSeller_35 : decode cX6_addSeller 35 = .ok (.getfield 19, 3) := by decide +kernel
theorem dX6_addSeller_38 : decode cX6_addSeller 38 = .ok (.new 98, 3) := by decide +kernel
theorem dX6_addSeller_41 : decode cX6_addSeller 41 = .ok (.dup, 1) := by decide +kernel
theorem dX6_addSeller_42 : decode cX6_addSeller 42 = .ok (.aload_n 0, 1) := by decide +kernel
theorem dX6_addSeller_43 : decode cX6_addSeller 43 = .ok (.getfield 19, 3) := by decide +kernel
theorem dX6_addSeller_46 : decode cX6_addSeller 46 = .ok (.invokevirtual 51, 3) := by decide +kernel
theorem dX6_addSeller_49 : decode cX6_addSeller 49 = .ok (.aload_n 3, 1) := by decide +kernel
theorem dX6_addSeller_50 : decode cX6_addSeller 50 = .ok (.iload_n 2, 1) := by decide +kernel
theorem dX6_addSeller_51 : decode cX6_addSeller 51 = .ok (.invokespecial 100, 3) := by decide +kernel
theorem dX6_addSeller_54 : decode cX6_addSeller 54 = .ok (.invokevirtual 64, 3) := by decide +kernel
theorem dX6_addSeller_57 : decode cX6_addSeller 57 = .ok (.pop, 1) := by decide +kernel
theorem dX6_addSeller_58 : decode cX6_addSeller 58 = .ok (.aload_n 0, 1) := by decide +kernel
theorem dX6_addSeller_59 : decode cX6_addSeller 59 = .ok (.getfield 19, 3) := by decide +kernel
theorem dX6_addSeller_62 : decode cX6_addSeller 62 = .ok (.invokevirtual 51, 3) := by decide +kernel
theorem dX6_addSeller_65 : decode cX6_addSeller 65 = .ok (.iconst 1, 1) := by decide +kernel
theorem dX6_addSeller_66 : decode cX6_addSeller 66 = .ok (.isub, 1) := by decide +kernel
theorem dX6_addSeller_67 : decode cX6_addSeller 67 = .ok (.ireturn, 1) := by decide +kernel
theorem dX6_adjust_0 : decode cX6_adjust 0 = .ok (.aload_n 0, 1) := by decide +kernel
theorem dX6_adjust_1 : decode cX6_adjust 1 = .ok (.iload_n 1, 1) := by decide +kernel
theorem dX6_adjust_2 : decode cX6_adjust 2 = .ok (.invokevirtual 94, 3) := by decide +kernel
theorem dX6_adjust_5 : decode cX6_adjust 5 = .ok (.astore_n 3, 1) := by decide +kernel
theorem dX6_adjust_6 : decode cX6_adjust 6 = .ok (.iload_n 2, 1) := by decide +kernel
theorem dX6_adjust_7 : decode cX6_adjust 7 = .ok (.ldc 103, 2) := by decide +kernel
theorem dX6_adjust_9 : decode cX6_adjust 9 = .ok (.ldc 104, 2) := by decide +kernel
theorem dX6_adjust_11 : decode cX6_adjust 11 = .ok (.invokestatic 35, 3) := by decide +kernel
theorem dX6_adjust_14 : decode cX6_adjust 14 = .ok (.aload_n 3, 1) := by decide +kernel
theorem dX6_adjust_15 : decode cX6_adjust 15 = .ok (.getfield 105, 3) := by decide +kernel
theorem dX6_adjust_18 : decode cX6_adjust 18 = .ok (.istore 4, 2) := by decide +kernel
theorem dX6_adjust_20 : decode cX6_adjust 20 = .ok (.aload_n 3, 1) := by decide +kernel
theorem dX6_adjust_21 : decode cX6_adjust 21 = .ok (.iload_n 2, 1) := by decide +kernel
theorem dX6_adjust_22 : decode cX6_adjust 22 = .ok (.putfield 105, 3) := by decide +kernel
theorem dX6_adjust_25 : decode cX6_adjust 25 = .ok (.iload 4, 2) := by decide +kernel
theorem dX6_adjust_27 : decode cX6_adjust 27 = .ok (.ireturn, 1) := by decide +kernel
theorem dX6_addChance_0 : decode cX6_addChance 0 = .ok (.aload_n 0, 1) := by decide +kernel
theorem dX6_addChance_1 : decode cX6_addChance 1 = .ok (.iload_n 1, 1) := by decide +kernel
theorem dX6_addChance_2 : decode cX6_addChance 2 = .ok (.invokevirtual 47, 3) := by decide +kernel
theorem dX6_addChance_5 : decode cX6_addChance 5 = .ok (.astore 4, 2) := by decide +kernel
theorem dX6_addChance_7 : decode cX6_addChance 7 = .ok (.aload_n 0, 1) := by decide +kernel
theorem dX6_addChance_8 : decode cX6_addChance 8 = .ok (.iload_n 2, 1) := by decide +kernel
theorem dX6_addChance_9 : decode cX6_addChance 9 = .ok (.invokevirtual 94, 3) := by decide +kernel
theorem dX6_addChance_12 : decode cX6_addChance 12 = .ok (.astore 5, 2) := by decide +kernel
theorem dX6_addChance_14 : decode cX6_addChance 14 = .ok (.iload_n 3, 1) := by decide +kernel
theorem dX6_addChance_15 : decode cX6_addChance 15 = .ok (.iconst 1, 1) := by decide +kernel
theorem dX6_addChance_16 : decode cX6_addChance 16 = .ok (.ldc 104, 2) := by decide +kernel
theorem dX6_addChance_18 : decode cX6_addChance 18 = .ok (.invokestatic 35, 3) := by decide +kernel
theorem dX6_addChance_21 : decode cX6_addChance 21 = .ok (.aload_n 0, 1) := by decide +kernel
theorem dX6_addChance_22 : decode cX6_addChance 22 = .ok (.getfield 22, 3) := by decide +kernel
theorem dX6_addChance_25 : decode cX6_addChance 25 = .ok (.invokevirtual 51, 3) := by decide +kernel
theorem dX6_addChance_28 : decode cX6_addChance 28 = .ok (.bipush 30, 2) := by decide +kernel
theorem dX6_addChance_30 : decode cX6_addChance 30 = .ok (.invokestatic 55, 3) := by decide +kernel
theorem dX6_addChance_33 : decode cX6_addChance 33 = .ok (.new 108, 3) := by decide +kernel
theorem dX6_addChance_36 : decode cX6_addChance 36 = .ok (.dup, 1) := by decide +kernel
theorem dX6_addChance_37 : decode cX6_addChance 37 = .ok (.aload 4, 2) := by decide +kernel
theorem dX6_addChance_39 : decode cX6_addChance 39 = .ok (.iload_n 3, 1) := by decide +kernel
theorem dX6_addChance_40 : decode cX6_addChance 40 = .ok (.aload_n 0, 1) := by decide +kernel
theorem dX6_addChance_41 : decode cX6_addChance 41 = .ok (.getfield 31, 3) := by decide +kernel
theorem dX6_addChance_44 : decode cX6_addChance 44 = .ok (.invokespecial 110, 3) := by decide +kernel
theorem dX6_addChance_47 : decode cX6_addChance 47 = .ok (.astore 6, 2) := by decide +kernel
theorem dX6_addChance_49 : decode cX6_addChance 49 = .ok (.aload 6, 2) := by decide +kernel
theorem dX6_addChance_51 : decode cX6_addChance 51 = .ok (.getfield 111, 3) := by decide +kernel
theorem dX6_addChance_54 : decode cX6_addChance 54 = .ok (.aload 5, 2) := by decide +kernel
theorem dX6_addChance_56 : decode cX6_addChance 56 = .ok (.getfield 115, 3) := by decide +kernel
theorem dX6_addChance_59 : decode cX6_addChance 59 = .ok (.bipush 100, 2) := by decide +kernel
theorem dX6_addChance_61 : decode cX6_addChance 61 = .ok (.invokestatic 118, 3) := by decide +kernel
theorem dX6_addChance_64 : decode cX6_addChance 64 = .ok (.aload_n 0, 1) := by decide +kernel
theorem dX6_addChance_65 : decode cX6_addChance 65 = .ok (.getfield 22, 3) := by decide +kernel
theorem dX6_addChance_68 : decode cX6_addChance 68 = .ok (.aload 6, 2) := by decide +kernel
theorem dX6_addChance_70 : decode cX6_addChance 70 = .ok (.invokevirtual 64, 3) := by decide +kernel
theorem dX6_addChance_73 : decode cX6_addChance 73 = .ok (.pop, 1) := by decide +kernel
theorem dX6_addChance_74 : decode cX6_addChance 74 = .ok (.aload_n 0, 1) := by decide +kernel
theorem dX6_addChance_75 : decode cX6_addChance 75 = .ok (.getfield 22, 3) := by decide +kernel
theorem dX6_addChance_78 : decode cX6_addChance 78 = .ok (.invokevirtual 51, 3) := by decide +kernel
theorem dX6_addChance_81 : decode cX6_addChance 81 = .ok (.iconst 1, 1) := by decide +kernel
theorem dX6_addChance_82 : decode cX6_addChance 82 = .ok (.isub, 1) := by decide +kernel
theorem dX6_addChance_83 : decode cX6_addChance 83 = .ok (.ireturn, 1) := by decide +kernel
theorem dX6_giveShare_0 : decode cX6_giveShare 0 = .ok (.aload_n 0, 1) := by decide +kernel
theorem dX6_giveShare_1 : decode cX6_giveShare 1 = .ok (.iload_n 1, 1) := by decide +kernel
theorem dX6_giveShare_2 : decode cX6_giveShare 2 = .ok (.invokevirtual 122, 3) := by decide +kernel
theorem dX6_giveShare_5 : decode cX6_giveShare 5 = .ok (.astore 5, 2) := by decide +kernel
theorem dX6_giveShare_7 : decode cX6_giveShare 7 = .ok (.aload_n 0, 1) := by decide +kernel
theorem dX6_giveShare_8 : decode cX6_giveShare 8 = .ok (.iload_n 2, 1) := by decide +kernel
theorem dX6_giveShare_9 : decode cX6_giveShare 9 = .ok (.invokevirtual 94, 3) := by decide +kernel
theorem dX6_giveShare_12 : decode cX6_giveShare 12 = .ok (.astore 6, 2) := by decide +kernel
theorem dX6_giveShare_14 : decode cX6_giveShare 14 = .ok (.aload_n 0, 1) := by decide +kernel
theorem dX6_giveShare_15 : decode cX6_giveShare 15 = .ok (.iload_n 3, 1) := by decide +kernel
theorem dX6_giveShare_16 : decode cX6_giveShare 16 = .ok (.invokevirtual 94, 3) := by decide +kernel
theorem dX6_giveShare_19 : decode cX6_giveShare 19 = .ok (.astore 7, 2) := by decide +kernel
theorem dX6_giveShare_21 : decode cX6_giveShare 21 = .ok (.iload 4, 2) := by decide +kernel
theorem dX6_giveShare_23 : decode cX6_giveShare 23 = .ok (.iconst 1, 1) := by decide +kernel
theorem dX6_giveShare_24 : decode cX6_giveShare 24 = .ok (.bipush 100, 2) := by decide +kernel
theorem dX6_giveShare_26 : decode cX6_giveShare 26 = .ok (.invokestatic 35, 3) := by decide +kernel
theorem dX6_giveShare_29 : decode cX6_giveShare 29 = .ok (.aload 6, 2) := by decide +kernel
theorem dX6_giveShare_31 : decode cX6_giveShare 31 = .ok (.aload 7, 2) := by decide +kernel
theorem dX6_giveShare_33 : decode cX6_giveShare 33 = .ok (.if_acmp .ne 13, 3) := by decide +kernel
theorem dX6_giveShare_36 : decode cX6_giveShare 36 = .ok (.new 126, 3) := by decide +kernel
theorem dX6_giveShare_39 : decode cX6_giveShare 39 = .ok (.dup, 1) := by decide +kernel
theorem dX6_giveShare_40 : decode cX6_giveShare 40 = .ok (.ldc 128, 2) := by decide +kernel
theorem dX6_giveShare_42 : decode cX6_giveShare 42 = .ok (.invokespecial 130, 3) := by decide +kernel
theorem dX6_giveShare_45 : decode cX6_giveShare 45 = .ok (.athrow, 1) := by decide +kernel
theorem dX6_giveShare_46 : decode cX6_giveShare 46 = .ok (.aload 5, 2) := by decide +kernel
theorem dX6_giveShare_48 : decode cX6_giveShare 48 = .ok (.invokestatic 131, 3) := by decide +kernel
theorem dX6_giveShare_51 : decode cX6_giveShare 51 = .ok (.aload 5, 2) := by decide +kernel
theorem dX6_giveShare_53 : decode cX6_giveShare 53 = .ok (.getfield 111, 3) := by decide +kernel
theorem dX6_giveShare_56 : decode cX6_giveShare 56 = .ok (.aload 6, 2) := by decide +kernel
theorem dX6_giveShare_58 : decode cX6_giveShare 58 = .ok (.getfield 115, 3) := by decide +kernel
theorem dX6_giveShare_61 : decode cX6_giveShare 61 = .ok (.invokestatic 135, 3) := by decide +kernel
theorem dX6_giveShare_64 : decode cX6_giveShare 64 = .ok (.iload 4, 2) := by decide +kernel
theorem dX6_giveShare_66 : decode cX6_giveShare 66 = .ok (.if_icmp .ge 13, 3) := by decide +kernel
theorem dX6_giveShare_69 : decode cX6_giveShare 69 = .ok (.new 40, 3) := by decide +kernel
theorem dX6_giveShare_72 : decode cX6_giveShare 72 = .ok (.dup, 1) := by decide +kernel
theorem dX6_giveShare_73 : decode cX6_giveShare 73 = .ok (.ldc 139, 2) := by decide +kernel
theorem dX6_giveShare_75 : decode cX6_giveShare 75 = .ok (.invokespecial 44, 3) := by decide +kernel
theorem dX6_giveShare_78 : decode cX6_giveShare 78 = .ok (.athrow, 1) := by decide +kernel
theorem dX6_giveShare_79 : decode cX6_giveShare 79 = .ok (.aload 5, 2) := by decide +kernel
theorem dX6_giveShare_81 : decode cX6_giveShare 81 = .ok (.getfield 111, 3) := by decide +kernel
theorem dX6_giveShare_84 : decode cX6_giveShare 84 = .ok (.aload 6, 2) := by decide +kernel
theorem dX6_giveShare_86 : decode cX6_giveShare 86 = .ok (.getfield 115, 3) := by decide +kernel
theorem dX6_giveShare_89 : decode cX6_giveShare 89 = .ok (.iload 4, 2) := by decide +kernel
theorem dX6_giveShare_91 : decode cX6_giveShare 91 = .ok (.ineg, 1) := by decide +kernel
theorem dX6_giveShare_92 : decode cX6_giveShare 92 = .ok (.invokestatic 118, 3) := by decide +kernel
theorem dX6_giveShare_95 : decode cX6_giveShare 95 = .ok (.aload 5, 2) := by decide +kernel
theorem dX6_giveShare_97 : decode cX6_giveShare 97 = .ok (.getfield 111, 3) := by decide +kernel
theorem dX6_giveShare_100 : decode cX6_giveShare 100 = .ok (.aload 7, 2) := by decide +kernel
theorem dX6_giveShare_102 : decode cX6_giveShare 102 = .ok (.getfield 115, 3) := by decide +kernel
theorem dX6_giveShare_105 : decode cX6_giveShare 105 = .ok (.iload 4, 2) := by decide +kernel
theorem dX6_giveShare_107 : decode cX6_giveShare 107 = .ok (.invokestatic 118, 3) := by decide +kernel
theorem dX6_giveShare_110 : decode cX6_giveShare 110 = .ok (.aload 5, 2) := by decide +kernel
theorem dX6_giveShare_112 : decode cX6_giveShare 112 = .ok (.getfield 111, 3) := by decide +kernel
theorem dX6_giveShare_115 : decode cX6_giveShare 115 = .ok (.aload 7, 2) := by decide +kernel
theorem dX6_giveShare_117 : decode cX6_giveShare 117 = .ok (.getfield 115, 3) := by decide +kernel
theorem dX6_giveShare_120 : decode cX6_giveShare 120 = .ok (.invokestatic 135, 3) := by decide +kernel
theorem dX6_giveShare_123 : decode cX6_giveShare 123 = .ok (.ireturn, 1) := by decide +kernel
theorem dX6_move_0 : decode cX6_move 0 = .ok (.aload_n 0, 1) := by decide +kernel
theorem dX6_move_1 : decode cX6_move 1 = .ok (.iload_n 1, 1) := by decide +kernel
theorem dX6_move_2 : decode cX6_move 2 = .ok (.invokevirtual 122, 3) := by decide +kernel
theorem dX6_move_5 : decode cX6_move 5 = .ok (.astore_n 3, 1) := by decide +kernel
theorem dX6_move_6 : decode cX6_move 6 = .ok (.iload_n 2, 1) := by decide +kernel
theorem dX6_move_7 : decode cX6_move 7 = .ok (.invokestatic 141, 3) := by decide +kernel
theorem dX6_move_10 : decode cX6_move 10 = .ok (.aload_n 3, 1) := by decide +kernel
theorem dX6_move_11 : decode cX6_move 11 = .ok (.iload_n 2, 1) := by decide +kernel
theorem dX6_move_12 : decode cX6_move 12 = .ok (.invokestatic 145, 3) := by decide +kernel
theorem dX6_move_15 : decode cX6_move 15 = .ok (.ifCond .ne 13, 3) := by decide +kernel
theorem dX6_move_18 : decode cX6_move 18 = .ok (.new 40, 3) := by decide +kernel
theorem dX6_move_21 : decode cX6_move 21 = .ok (.dup, 1) := by decide +kernel
theorem dX6_move_22 : decode cX6_move 22 = .ok (.ldc 149, 2) := by decide +kernel
theorem dX6_move_24 : decode cX6_move 24 = .ok (.invokespecial 44, 3) := by decide +kernel
theorem dX6_move_27 : decode cX6_move 27 = .ok (.athrow, 1) := by decide +kernel
theorem dX6_move_28 : decode cX6_move 28 = .ok (.aload_n 0, 1) := by decide +kernel
theorem dX6_move_29 : decode cX6_move 29 = .ok (.getfield 31, 3) := by decide +kernel
theorem dX6_move_32 : decode cX6_move 32 = .ok (.aload_n 3, 1) := by decide +kernel
theorem dX6_move_33 : decode cX6_move 33 = .ok (.getfield 151, 3) := by decide +kernel
theorem dX6_move_36 : decode cX6_move 36 = .ok (.isub, 1) := by decide +kernel
theorem dX6_move_37 : decode cX6_move 37 = .ok (.istore 4, 2) := by decide +kernel
theorem dX6_move_39 : decode cX6_move 39 = .ok (.aload_n 3, 1) := by decide +kernel
theorem dX6_move_40 : decode cX6_move 40 = .ok (.getfield 154, 3) := by decide +kernel
theorem dX6_move_43 : decode cX6_move 43 = .ok (.aload_n 3, 1) := by decide +kernel
theorem dX6_move_44 : decode cX6_move 44 = .ok (.getfield 157, 3) := by decide +kernel
theorem dX6_move_47 : decode cX6_move 47 = .ok (.iload 4, 2) := by decide +kernel
theorem dX6_move_49 : decode cX6_move 49 = .ok (.invokestatic 118, 3) := by decide +kernel
theorem dX6_move_52 : decode cX6_move 52 = .ok (.aload_n 3, 1) := by decide +kernel
theorem dX6_move_53 : decode cX6_move 53 = .ok (.iload_n 2, 1) := by decide +kernel
theorem dX6_move_54 : decode cX6_move 54 = .ok (.putfield 157, 3) := by decide +kernel
theorem dX6_move_57 : decode cX6_move 57 = .ok (.aload_n 3, 1) := by decide +kernel
theorem dX6_move_58 : decode cX6_move 58 = .ok (.aload_n 0, 1) := by decide +kernel
theorem dX6_move_59 : decode cX6_move 59 = .ok (.getfield 31, 3) := by decide +kernel
theorem dX6_move_62 : decode cX6_move 62 = .ok (.putfield 151, 3) := by decide +kernel
theorem dX6_move_65 : decode cX6_move 65 = .ok (.aload_n 3, 1) := by decide +kernel
theorem dX6_move_66 : decode cX6_move 66 = .ok (.invokestatic 160, 3) := by decide +kernel
theorem dX6_move_69 : decode cX6_move 69 = .ok (.ifCond .ne 15, 3) := by decide +kernel
theorem dX6_move_72 : decode cX6_move 72 = .ok (.aload_n 3, 1) := by decide +kernel
theorem dX6_move_73 : decode cX6_move 73 = .ok (.aload_n 0, 1) := by decide +kernel
theorem dX6_move_74 : decode cX6_move 74 = .ok (.aload_n 3, 1) := by decide +kernel
theorem dX6_move_75 : decode cX6_move 75 = .ok (.getfield 164, 3) := by decide +kernel
theorem dX6_move_78 : decode cX6_move 78 = .ok (.invokevirtual 90, 3) := by decide +kernel
theorem dX6_move_81 : decode cX6_move 81 = .ok (.putfield 168, 3) := by decide +kernel
theorem dX6_move_84 : decode cX6_move 84 = .ok (.iload 4, 2) := by decide +kernel
theorem dX6_move_86 : decode cX6_move 86 = .ok (.ireturn, 1) := by decide +kernel
theorem dX6_stage_0 : decode cX6_stage 0 = .ok (.aload_n 0, 1) := by decide +kernel
theorem dX6_stage_1 : decode cX6_stage 1 = .ok (.iload_n 1, 1) := by decide +kernel
theorem dX6_stage_2 : decode cX6_stage 2 = .ok (.invokevirtual 122, 3) := by decide +kernel
theorem dX6_stage_5 : decode cX6_stage 5 = .ok (.getfield 157, 3) := by decide +kernel
theorem dX6_stage_8 : decode cX6_stage 8 = .ok (.ireturn, 1) := by decide +kernel
theorem dX6_daysIn_0 : decode cX6_daysIn 0 = .ok (.aload_n 0, 1) := by decide +kernel
theorem dX6_daysIn_1 : decode cX6_daysIn 1 = .ok (.iload_n 1, 1) := by decide +kernel
theorem dX6_daysIn_2 : decode cX6_daysIn 2 = .ok (.invokevirtual 122, 3) := by decide +kernel
theorem dX6_daysIn_5 : decode cX6_daysIn 5 = .ok (.astore_n 3, 1) := by decide +kernel
theorem dX6_daysIn_6 : decode cX6_daysIn 6 = .ok (.iload_n 2, 1) := by decide +kernel
theorem dX6_daysIn_7 : decode cX6_daysIn 7 = .ok (.invokestatic 141, 3) := by decide +kernel
theorem dX6_daysIn_10 : decode cX6_daysIn 10 = .ok (.aload_n 3, 1) := by decide +kernel
theorem dX6_daysIn_11 : decode cX6_daysIn 11 = .ok (.getfield 154, 3) := by decide +kernel
theorem dX6_daysIn_14 : decode cX6_daysIn 14 = .ok (.iload_n 2, 1) := by decide +kernel
theorem dX6_daysIn_15 : decode cX6_daysIn 15 = .ok (.invokestatic 135, 3) := by decide +kernel
theorem dX6_daysIn_18 : decode cX6_daysIn 18 = .ok (.istore 4, 2) := by decide +kernel
theorem dX6_daysIn_20 : decode cX6_daysIn 20 = .ok (.aload_n 3, 1) := by decide +kernel
theorem dX6_daysIn_21 : decode cX6_daysIn 21 = .ok (.getfield 157, 3) := by decide +kernel
theorem dX6_daysIn_24 : decode cX6_daysIn 24 = .ok (.iload_n 2, 1) := by decide +kernel
theorem dX6_daysIn_25 : decode cX6_daysIn 25 = .ok (.if_icmp .ne 18, 3) := by decide +kernel
theorem dX6_daysIn_28 : decode cX6_daysIn 28 = .ok (.iload 4, 2) := by decide +kernel
theorem dX6_daysIn_30 : decode cX6_daysIn 30 = .ok (.aload_n 0, 1) := by decide +kernel
theorem dX6_daysIn_31 : decode cX6_daysIn 31 = .ok (.getfield 31, 3) := by decide +kernel
theorem dX6_daysIn_34 : decode cX6_daysIn 34 = .ok (.iadd, 1) := by decide +kernel
theorem dX6_daysIn_35 : decode cX6_daysIn 35 = .ok (.aload_n 3, 1) := by decide +kernel
theorem dX6_daysIn_36 : decode cX6_daysIn 36 = .ok (.getfield 151, 3) := by decide +kernel
theorem dX6_daysIn_39 : decode cX6_daysIn 39 = .ok (.isub, 1) := by decide +kernel
theorem dX6_daysIn_40 : decode cX6_daysIn 40 = .ok (.goto 5, 3) := by decide +kernel
theorem dX6_daysIn_43 : decode cX6_daysIn 43 = .ok (.iload 4, 2) := by decide +kernel
theorem dX6_daysIn_45 : decode cX6_daysIn 45 = .ok (.ireturn, 1) := by decide +kernel
theorem dX6_stalled_0 : decode cX6_stalled 0 = .ok (.iload_n 1, 1) := by decide +kernel
theorem dX6_stalled_1 : decode cX6_stalled 1 = .ok (.iconst 0, 1) := by decide +kernel
theorem dX6_stalled_2 : decode cX6_stalled 2 = .ok (.ldc 39, 2) := by decide +kernel
theorem dX6_stalled_4 : decode cX6_stalled 4 = .ok (.invokestatic 35, 3) := by decide +kernel
theorem dX6_stalled_7 : decode cX6_stalled 7 = .ok (.iconst 0, 1) := by decide +kernel
theorem dX6_stalled_8 : decode cX6_stalled 8 = .ok (.istore_n 2, 1) := by decide +kernel
theorem dX6_stalled_9 : decode cX6_stalled 9 = .ok (.iconst 0, 1) := by decide +kernel
theorem dX6_stalled_10 : decode cX6_stalled 10 = .ok (.istore_n 3, 1) := by decide +kernel
theorem dX6_stalled_11 : decode cX6_stalled 11 = .ok (.iload_n 3, 1) := by decide +kernel
theorem dX6_stalled_12 : decode cX6_stalled 12 = .ok (.aload_n 0, 1) := by decide +kernel
theorem dX6_stalled_13 : decode cX6_stalled 13 = .ok (.getfield 22, 3) := by decide +kernel
theorem dX6_stalled_16 : decode cX6_stalled 16 = .ok (.invokevirtual 51, 3) := by decide +kernel
theorem dX6_stalled_19 : decode cX6_stalled 19 = .ok (.if_icmp .ge 47, 3) := by decide +kernel
theorem dX6_stalled_22 : decode cX6_stalled 22 = .ok (.aload_n 0, 1) := by decide +kernel
theorem dX6_stalled_23 : decode cX6_stalled 23 = .ok (.getfield 22, 3) := by decide +kernel
theorem dX6_stalled_26 : decode cX6_stalled 26 = .ok (.iload_n 3, 1) := by decide +kernel
theorem dX6_stalled_27 : decode cX6_stalled 27 = .ok (.invokevirtual 171, 3) := by decide +kernel
theorem dX6_stalled_30 : decode cX6_stalled 30 = .ok (.checkcast 108, 3) := by decide +kernel
theorem dX6_stalled_33 : decode cX6_stalled 33 = .ok (.astore 4, 2) := by decide +kernel
theorem dX6_stalled_35 : decode cX6_stalled 35 = .ok (.aload 4, 2) := by decide +kernel
theorem dX6_stalled_37 : decode cX6_stalled 37 = .ok (.invokestatic 160, 3) := by decide +kernel
theorem dX6_stalled_40 : decode cX6_stalled 40 = .ok (.ifCond .eq 20, 3) := by decide +kernel
theorem dX6_stalled_43 : decode cX6_stalled 43 = .ok (.aload_n 0, 1) := by decide +kernel
theorem dX6_stalled_44 : decode cX6_stalled 44 = .ok (.getfield 31, 3) := by decide +kernel
theorem dX6_stalled_47 : decode cX6_stalled 47 = .ok (.aload 4, 2) := by decide +kernel
theorem dX6_stalled_49 : decode cX6_stalled 49 = .ok (.getfield 151, 3) := by decide +kernel
theorem dX6_stalled_52 : decode cX6_stalled 52 = .ok (.isub, 1) := by decide +kernel
theorem dX6_stalled_53 : decode cX6_stalled 53 = .ok (.iload_n 1, 1) := by decide +kernel
theorem dX6_stalled_54 : decode cX6_stalled 54 = .ok (.if_icmp .le 6, 3) := by decide +kernel
theorem dX6_stalled_57 : decode cX6_stalled 57 = .ok (.iinc 2 1, 3) := by decide +kernel
theorem dX6_stalled_60 : decode cX6_stalled 60 = .ok (.iinc 3 1, 3) := by decide +kernel
theorem dX6_stalled_63 : decode cX6_stalled 63 = .ok (.goto (-52), 3) := by decide +kernel
theorem dX6_stalled_66 : decode cX6_stalled 66 = .ok (.iload_n 2, 1) := by decide +kernel
theorem dX6_stalled_67 : decode cX6_stalled 67 = .ok (.ireturn, 1) := by decide +kernel
theorem dX6_worth_0 : decode cX6_worth 0 = .ok (.aload_n 0, 1) := by decide +kernel
theorem dX6_worth_1 : decode cX6_worth 1 = .ok (.iload_n 1, 1) := by decide +kernel
theorem dX6_worth_2 : decode cX6_worth 2 = .ok (.invokevirtual 122, 3) := by decide +kernel
theorem dX6_worth_5 : decode cX6_worth 5 = .ok (.invokestatic 174, 3) := by decide +kernel
theorem dX6_worth_8 : decode cX6_worth 8 = .ok (.ireturn, 1) := by decide +kernel
theorem dX6_inRegion_0 : decode cX6_inRegion 0 = .ok (.iload_n 1, 1) := by decide +kernel
theorem dX6_inRegion_1 : decode cX6_inRegion 1 = .ok (.iconst 0, 1) := by decide +kernel
theorem dX6_inRegion_2 : decode cX6_inRegion 2 = .ok (.iconst 3, 1) := by decide +kernel
theorem dX6_inRegion_3 : decode cX6_inRegion 3 = .ok (.invokestatic 35, 3) := by decide +kernel
theorem dX6_inRegion_6 : decode cX6_inRegion 6 = .ok (.iload_n 2, 1) := by decide +kernel
theorem dX6_inRegion_7 : decode cX6_inRegion 7 = .ok (.invokestatic 141, 3) := by decide +kernel
theorem dX6_inRegion_10 : decode cX6_inRegion 10 = .ok (.iconst 0, 1) := by decide +kernel
theorem dX6_inRegion_11 : decode cX6_inRegion 11 = .ok (.istore_n 3, 1) := by decide +kernel
theorem dX6_inRegion_12 : decode cX6_inRegion 12 = .ok (.iconst 0, 1) := by decide +kernel
theorem dX6_inRegion_13 : decode cX6_inRegion 13 = .ok (.istore 4, 2) := by decide +kernel
theorem dX6_inRegion_15 : decode cX6_inRegion 15 = .ok (.iload 4, 2) := by decide +kernel
theorem dX6_inRegion_17 : decode cX6_inRegion 17 = .ok (.aload_n 0, 1) := by decide +kernel
theorem dX6_inRegion_18 : decode cX6_inRegion 18 = .ok (.getfield 22, 3) := by decide +kernel
theorem dX6_inRegion_21 : decode cX6_inRegion 21 = .ok (.invokevirtual 51, 3) := by decide +kernel
theorem dX6_inRegion_24 : decode cX6_inRegion 24 = .ok (.if_icmp .ge 50, 3) := by decide +kernel
theorem dX6_inRegion_27 : decode cX6_inRegion 27 = .ok (.aload_n 0, 1) := by decide +kernel
theorem dX6_inRegion_28 : decode cX6_inRegion 28 = .ok (.getfield 22, 3) := by decide +kernel
theorem dX6_inRegion_31 : decode cX6_inRegion 31 = .ok (.iload 4, 2) := by decide +kernel
theorem dX6_inRegion_33 : decode cX6_inRegion 33 = .ok (.invokevirtual 171, 3) := by decide +kernel
theorem dX6_inRegion_36 : decode cX6_inRegion 36 = .ok (.checkcast 108, 3) := by decide +kernel
theorem dX6_inRegion_39 : decode cX6_inRegion 39 = .ok (.astore 5, 2) := by decide +kernel
theorem dX6_inRegion_41 : decode cX6_inRegion 41 = .ok (.aload 5, 2) := by decide +kernel
theorem dX6_inRegion_43 : decode cX6_inRegion 43 = .ok (.getfield 157, 3) := by decide +kernel
theorem dX6_inRegion_46 : decode cX6_inRegion 46 = .ok (.iload_n 2, 1) := by decide +kernel
theorem dX6_inRegion_47 : decode cX6_inRegion 47 = .ok (.if_icmp .ne 21, 3) := by decide +kernel
theorem dX6_inRegion_50 : decode cX6_inRegion 50 = .ok (.aload_n 0, 1) := by decide +kernel
theorem dX6_inRegion_51 : decode cX6_inRegion 51 = .ok (.aload 5, 2) := by decide +kernel
theorem dX6_inRegion_53 : decode cX6_inRegion 53 = .ok (.invokevirtual 178, 3) := by decide +kernel
theorem dX6_inRegion_56 : decode cX6_inRegion 56 = .ok (.iload_n 1, 1) := by decide +kernel
theorem dX6_inRegion_57 : decode cX6_inRegion 57 = .ok (.if_icmp .ne 11, 3) := by decide +kernel
theorem dX6_inRegion_60 : decode cX6_inRegion 60 = .ok (.iload_n 3, 1) := by decide +kernel
theorem dX6_inRegion_61 : decode cX6_inRegion 61 = .ok (.aload 5, 2) := by decide +kernel
theorem dX6_inRegion_63 : decode cX6_inRegion 63 = .ok (.invokestatic 174, 3) := by decide +kernel
theorem dX6_inRegion_66 : decode cX6_inRegion 66 = .ok (.iadd, 1) := by decide +kernel
theorem dX6_inRegion_67 : decode cX6_inRegion 67 = .ok (.istore_n 3, 1) := by decide +kernel
theorem dX6_inRegion_68 : decode cX6_inRegion 68 = .ok (.iinc 4 1, 3) := by decide +kernel
theorem dX6_inRegion_71 : decode cX6_inRegion 71 = .ok (.goto (-56), 3) := by decide +kernel
theorem dX6_inRegion_74 : decode cX6_inRegion 74 = .ok (.iload_n 3, 1) := by decide +kernel
theorem dX6_inRegion_75 : decode cX6_inRegion 75 = .ok (.ireturn, 1) := by decide +kernel
theorem dX6_won_0 : decode cX6_won 0 = .ok (.aload_n 0, 1) := by decide +kernel
theorem dX6_won_1 : decode cX6_won 1 = .ok (.iload_n 1, 1) := by decide +kernel
theorem dX6_won_2 : decode cX6_won 2 = .ok (.invokevirtual 47, 3) := by decide +kernel
theorem dX6_won_5 : decode cX6_won 5 = .ok (.astore_n 2, 1) := by decide +kernel
theorem dX6_won_6 : decode cX6_won 6 = .ok (.iconst 0, 1) := by decide +kernel
theorem dX6_won_7 : decode cX6_won 7 = .ok (.istore_n 3, 1) := by decide +kernel
theorem dX6_won_8 : decode cX6_won 8 = .ok (.iconst 0, 1) := by decide +kernel
theorem dX6_won_9 : decode cX6_won 9 = .ok (.istore 4, 2) := by decide +kernel
theorem dX6_won_11 : decode cX6_won 11 = .ok (.iload 4, 2) := by decide +kernel
theorem dX6_won_13 : decode cX6_won 13 = .ok (.aload_n 0, 1) := by decide +kernel
theorem dX6_won_14 : decode cX6_won 14 = .ok (.getfield 22, 3) := by decide +kernel
theorem dX6_won_17 : decode cX6_won 17 = .ok (.invokevirtual 51, 3) := by decide +kernel
theorem dX6_won_20 : decode cX6_won 20 = .ok (.if_icmp .ge 52, 3) := by decide +kernel
theorem dX6_won_23 : decode cX6_won 23 = .ok (.aload_n 0, 1) := by decide +kernel
theorem dX6_won_24 : decode cX6_won 24 = .ok (.getfield 22, 3) := by decide +kernel
theorem dX6_won_27 : decode cX6_won 27 = .ok (.iload 4, 2) := by decide +kernel
theorem dX6_won_29 : decode cX6_won 29 = .ok (.invokevirtual 171, 3) := by decide +kernel
theorem dX6_won_32 : decode cX6_won 32 = .ok (.checkcast 108, 3) := by decide +kernel
theorem dX6_won_35 : decode cX6_won 35 = .ok (.astore 5, 2) := by decide +kernel
theorem dX6_won_37 : decode cX6_won 37 = .ok (.aload 5, 2) := by decide +kernel
theorem dX6_won_39 : decode cX6_won 39 = .ok (.getfield 157, 3) := by decide +kernel
theorem dX6_won_42 : decode cX6_won 42 = .ok (.iconst 4, 1) := by decide +kernel
theorem dX6_won_43 : decode cX6_won 43 = .ok (.if_icmp .ne 23, 3) := by decide +kernel
theorem dX6_won_46 : decode cX6_won 46 = .ok (.aload 5, 2) := by decide +kernel
theorem dX6_won_48 : decode cX6_won 48 = .ok (.getfield 164, 3) := by decide +kernel
theorem dX6_won_51 : decode cX6_won 51 = .ok (.aload_n 2, 1) := by decide +kernel
theorem dX6_won_52 : decode cX6_won 52 = .ok (.invokestatic 181, 3) := by decide +kernel
theorem dX6_won_55 : decode cX6_won 55 = .ok (.ifCond .eq 11, 3) := by decide +kernel
theorem dX6_won_58 : decode cX6_won 58 = .ok (.iload_n 3, 1) := by decide +kernel
theorem dX6_won_59 : decode cX6_won 59 = .ok (.aload 5, 2) := by decide +kernel
theorem dX6_won_61 : decode cX6_won 61 = .ok (.invokestatic 174, 3) := by decide +kernel
theorem dX6_won_64 : decode cX6_won 64 = .ok (.iadd, 1) := by decide +kernel
theorem dX6_won_65 : decode cX6_won 65 = .ok (.istore_n 3, 1) := by decide +kernel
theorem dX6_won_66 : decode cX6_won 66 = .ok (.iinc 4 1, 3) := by decide +kernel
theorem dX6_won_69 : decode cX6_won 69 = .ok (.goto (-58), 3) := by decide +kernel
theorem dX6_won_72 : decode cX6_won 72 = .ok (.iload_n 3, 1) := by decide +kernel
theorem dX6_won_73 : decode cX6_won 73 = .ok (.ireturn, 1) := by decide +kernel
theorem dX6_quote_0 : decode cX6_quote 0 = .ok (.aload_n 0, 1) := by decide +kernel
theorem dX6_quote_1 : decode cX6_quote 1 = .ok (.iload_n 1, 1) := by decide +kernel
theorem dX6_quote_2 : decode cX6_quote 2 = .ok (.invokevirtual 122, 3) := by decide +kernel
theorem dX6_quote_5 : decode cX6_quote 5 = .ok (.astore 4, 2) := by decide +kernel
theorem dX6_quote_7 : decode cX6_quote 7 = .ok (.aload_n 0, 1) := by decide +kernel
theorem dX6_quote_8 : decode cX6_quote 8 = .ok (.iload_n 2, 1) := by decide +kernel
theorem dX6_quote_9 : decode cX6_quote 9 = .ok (.invokevirtual 94, 3) := by decide +kernel
theorem dX6_quote_12 : decode cX6_quote 12 = .ok (.astore 5, 2) := by decide +kernel
theorem dX6_quote_14 : decode cX6_quote 14 = .ok (.iload_n 3, 1) := by decide +kernel
theorem dX6_quote_15 : decode cX6_quote 15 = .ok (.iconst 0, 1) := by decide +kernel
theorem dX6_quote_16 : decode cX6_quote 16 = .ok (.bipush 99, 2) := by decide +kernel
theorem dX6_quote_18 : decode cX6_quote 18 = .ok (.invokestatic 35, 3) := by decide +kernel
theorem dX6_quote_21 : decode cX6_quote 21 = .ok (.aload 4, 2) := by decide +kernel
theorem dX6_quote_23 : decode cX6_quote 23 = .ok (.invokestatic 131, 3) := by decide +kernel
theorem dX6_quote_26 : decode cX6_quote 26 = .ok (.aload_n 0, 1) := by decide +kernel
theorem dX6_quote_27 : decode cX6_quote 27 = .ok (.getfield 25, 3) := by decide +kernel
theorem dX6_quote_30 : decode cX6_quote 30 = .ok (.invokevirtual 51, 3) := by decide +kernel
theorem dX6_quote_33 : decode cX6_quote 33 = .ok (.bipush 40, 2) := by decide +kernel
theorem dX6_quote_35 : decode cX6_quote 35 = .ok (.invokestatic 55, 3) := by decide +kernel
theorem dX6_quote_38 : decode cX6_quote 38 = .ok (.new 185, 3) := by decide +kernel
theorem dX6_quote_41 : decode cX6_quote 41 = .ok (.dup, 1) := by decide +kernel
theorem dX6_quote_42 : decode cX6_quote 42 = .ok (.aload_n 0, 1) := by decide +kernel
theorem dX6_quote_43 : decode cX6_quote 43 = .ok (.getfield 25, 3) := by decide +kernel
theorem dX6_quote_46 : decode cX6_quote 46 = .ok (.invokevirtual 51, 3) := by decide +kernel
theorem dX6_quote_49 : decode cX6_quote 49 = .ok (.aload 4, 2) := by decide +kernel
theorem dX6_quote_51 : decode cX6_quote 51 = .ok (.aload 5, 2) := by decide +kernel
theorem dX6_quote_53 : decode cX6_quote 53 = .ok (.iload_n 3, 1) := by decide +kernel
theorem dX6_quote_54 : decode cX6_quote 54 = .ok (.invokespecial 187, 3) := by decide +kernel
theorem dX6_quote_57 : decode cX6_quote 57 = .ok (.astore 6, 2) := by decide +kernel
theorem dX6_quote_59 : decode cX6_quote 59 = .ok (.aload_n 0, 1) := by decide +kernel
theorem dX6_quote_60 : decode cX6_quote 60 = .ok (.getfield 25, 3) := by decide +kernel
theorem dX6_quote_63 : decode cX6_quote 63 = .ok (.aload 6, 2) := by decide +kernel
theorem dX6_quote_65 : decode cX6_quote 65 = .ok (.invokevirtual 64, 3) := by decide +kernel
theorem dX6_quote_68 : decode cX6_quote 68 = .ok (.pop, 1) := by decide +kernel
theorem dX6_quote_69 : decode cX6_quote 69 = .ok (.iload_n 3, 1) := by decide +kernel
theorem dX6_quote_70 : decode cX6_quote 70 = .ok (.aload 5, 2) := by decide +kernel
theorem dX6_quote_72 : decode cX6_quote 72 = .ok (.getfield 190, 3) := by decide +kernel
theorem dX6_quote_75 : decode cX6_quote 75 = .ok (.if_icmp .gt 8, 3) := by decide +kernel
theorem dX6_quote_78 : decode cX6_quote 78 = .ok (.aload 6, 2) := by decide +kernel
theorem dX6_quote_80 : decode cX6_quote 80 = .ok (.invokestatic 193, 3) := by decide +kernel
theorem dX6_quote_83 : decode cX6_quote 83 = .ok (.aload 6, 2) := by decide +kernel
theorem dX6_quote_85 : decode cX6_quote 85 = .ok (.getfield 197, 3) := by decide +kernel
theorem dX6_quote_88 : decode cX6_quote 88 = .ok (.ireturn, 1) := by decide +kernel
theorem dX6_approve_0 : decode cX6_approve 0 = .ok (.aload_n 0, 1) := by decide +kernel
theorem dX6_approve_1 : decode cX6_approve 1 = .ok (.iload_n 1, 1) := by decide +kernel
theorem dX6_approve_2 : decode cX6_approve 2 = .ok (.invokevirtual 198, 3) := by decide +kernel
theorem dX6_approve_5 : decode cX6_approve 5 = .ok (.astore_n 3, 1) := by decide +kernel
theorem dX6_approve_6 : decode cX6_approve 6 = .ok (.aload_n 0, 1) := by decide +kernel
theorem dX6_approve_7 : decode cX6_approve 7 = .ok (.iload_n 2, 1) := by decide +kernel
theorem dX6_approve_8 : decode cX6_approve 8 = .ok (.invokevirtual 94, 3) := by decide +kernel
theorem dX6_approve_11 : decode cX6_approve 11 = .ok (.astore 4, 2) := by decide +kernel
theorem dX6_approve_13 : decode cX6_approve 13 = .ok (.aload_n 3, 1) := by decide +kernel
theorem dX6_approve_14 : decode cX6_approve 14 = .ok (.getfield 202, 3) := by decide +kernel
theorem dX6_approve_17 : decode cX6_approve 17 = .ok (.invokestatic 131, 3) := by decide +kernel
theorem dX6_approve_20 : decode cX6_approve 20 = .ok (.aload_n 3, 1) := by decide +kernel
theorem dX6_approve_21 : decode cX6_approve 21 = .ok (.getfield 206, 3) := by decide +kernel
theorem dX6_approve_24 : decode cX6_approve 24 = .ok (.ifCond .ne 12, 3) := by decide +kernel
theorem dX6_approve_27 : decode cX6_approve 27 = .ok (.aload_n 3, 1) := by decide +kernel
theorem dX6_approve_28 : decode cX6_approve 28 = .ok (.aload 4, 2) := by decide +kernel
theorem dX6_approve_30 : decode cX6_approve 30 = .ok (.invokestatic 210, 3) := by decide +kernel
theorem dX6_approve_33 : decode cX6_approve 33 = .ok (.ifCond .ne 13, 3) := by decide +kernel
theorem dX6_approve_36 : decode cX6_approve 36 = .ok (.new 40, 3) := by decide +kernel
theorem dX6_approve_39 : decode cX6_approve 39 = .ok (.dup, 1) := by decide +kernel
theorem dX6_approve_40 : decode cX6_approve 40 = .ok (.ldc 214, 2) := by decide +kernel
theorem dX6_approve_42 : decode cX6_approve 42 = .ok (.invokespecial 44, 3) := by decide +kernel
theorem dX6_approve_45 : decode cX6_approve 45 = .ok (.athrow, 1) := by decide +kernel
theorem dX6_approve_46 : decode cX6_approve 46 = .ok (.aload_n 3, 1) := by decide +kernel
theorem dX6_approve_47 : decode cX6_approve 47 = .ok (.invokestatic 193, 3) := by decide +kernel
theorem dX6_approve_50 : decode cX6_approve 50 = .ok (.return_, 1) := by decide +kernel
theorem dX6_counting_0 : decode cX6_counting 0 = .ok (.aload_n 0, 1) := by decide +kernel
theorem dX6_counting_1 : decode cX6_counting 1 = .ok (.iload_n 1, 1) := by decide +kernel
theorem dX6_counting_2 : decode cX6_counting 2 = .ok (.invokevirtual 122, 3) := by decide +kernel
theorem dX6_counting_5 : decode cX6_counting 5 = .ok (.getfield 216, 3) := by decide +kernel
theorem dX6_counting_8 : decode cX6_counting 8 = .ok (.astore_n 2, 1) := by decide +kernel
theorem dX6_counting_9 : decode cX6_counting 9 = .ok (.aload_n 2, 1) := by decide +kernel
theorem dX6_counting_10 : decode cX6_counting 10 = .ok (.ifnonnull 13, 3) := by decide +kernel
theorem dX6_counting_13 : decode cX6_counting 13 = .ok (.new 220, 3) := by decide +kernel
theorem dX6_counting_16 : decode cX6_counting 16 = .ok (.dup, 1) := by decide +kernel
theorem dX6_counting_17 : decode cX6_counting 17 = .ok (.ldc 222, 2) := by decide +kernel
theorem dX6_counting_19 : decode cX6_counting 19 = .ok (.invokespecial 224, 3) := by decide +kernel
theorem dX6_counting_22 : decode cX6_counting 22 = .ok (.athrow, 1) := by decide +kernel
theorem dX6_counting_23 : decode cX6_counting 23 = .ok (.aload_n 2, 1) := by decide +kernel
theorem dX6_counting_24 : decode cX6_counting 24 = .ok (.getfield 197, 3) := by decide +kernel
theorem dX6_counting_27 : decode cX6_counting 27 = .ok (.ireturn, 1) := by decide +kernel
theorem dX6_waiting_0 : decode cX6_waiting 0 = .ok (.iconst 0, 1) := by decide +kernel
theorem dX6_waiting_1 : decode cX6_waiting 1 = .ok (.istore_n 1, 1) := by decide +kernel
theorem dX6_waiting_2 : decode cX6_waiting 2 = .ok (.iconst 0, 1) := by decide +kernel
theorem dX6_waiting_3 : decode cX6_waiting 3 = .ok (.istore_n 2, 1) := by decide +kernel
theorem dX6_waiting_4 : decode cX6_waiting 4 = .ok (.iload_n 2, 1) := by decide +kernel
theorem dX6_waiting_5 : decode cX6_waiting 5 = .ok (.aload_n 0, 1) := by decide +kernel
theorem dX6_waiting_6 : decode cX6_waiting 6 = .ok (.getfield 25, 3) := by decide +kernel
theorem dX6_waiting_9 : decode cX6_waiting 9 = .ok (.invokevirtual 51, 3) := by decide +kernel
theorem dX6_waiting_12 : decode cX6_waiting 12 = .ok (.if_icmp .ge 41, 3) := by decide +kernel
theorem dX6_waiting_15 : decode cX6_waiting 15 = .ok (.aload_n 0, 1) := by decide +kernel
theorem dX6_waiting_16 : decode cX6_waiting 16 = .ok (.getfield 25, 3) := by decide +kernel
theorem dX6_waiting_19 : decode cX6_waiting 19 = .ok (.iload_n 2, 1) := by decide +kernel
theorem dX6_waiting_20 : decode cX6_waiting 20 = .ok (.invokevirtual 171, 3) := by decide +kernel
theorem dX6_waiting_23 : decode cX6_waiting 23 = .ok (.checkcast 185, 3) := by decide +kernel
theorem dX6_waiting_26 : decode cX6_waiting 26 = .ok (.astore_n 3, 1) := by decide +kernel
theorem dX6_waiting_27 : decode cX6_waiting 27 = .ok (.aload_n 3, 1) := by decide +kernel
theorem dX6_waiting_28 : decode cX6_waiting 28 = .ok (.getfield 206, 3) := by decide +kernel
theorem dX6_waiting_31 : decode cX6_waiting 31 = .ok (.ifCond .ne 16, 3) := by decide +kernel
theorem dX6_waiting_34 : decode cX6_waiting 34 = .ok (.aload_n 3, 1) := by decide +kernel
theorem dX6_waiting_35 : decode cX6_waiting 35 = .ok (.getfield 202, 3) := by decide +kernel
theorem dX6_waiting_38 : decode cX6_waiting 38 = .ok (.invokestatic 160, 3) := by decide +kernel
theorem dX6_waiting_41 : decode cX6_waiting 41 = .ok (.ifCond .eq 6, 3) := by decide +kernel
theorem dX6_waiting_44 : decode cX6_waiting 44 = .ok (.iinc 1 1, 3) := by decide +kernel
theorem dX6_waiting_47 : decode cX6_waiting 47 = .ok (.iinc 2 1, 3) := by decide +kernel
theorem dX6_waiting_50 : decode cX6_waiting 50 = .ok (.goto (-46), 3) := by decide +kernel
theorem dX6_waiting_53 : decode cX6_waiting 53 = .ok (.iload_n 1, 1) := by decide +kernel
theorem dX6_waiting_54 : decode cX6_waiting 54 = .ok (.ireturn, 1) := by decide +kernel
theorem dX6_forecast_0 : decode cX6_forecast 0 = .ok (.aload_n 0, 1) := by decide +kernel
theorem dX6_forecast_1 : decode cX6_forecast 1 = .ok (.aload_n 0, 1) := by decide +kernel
theorem dX6_forecast_2 : decode cX6_forecast 2 = .ok (.iload_n 1, 1) := by decide +kernel
theorem dX6_forecast_3 : decode cX6_forecast 3 = .ok (.invokevirtual 94, 3) := by decide +kernel
theorem dX6_forecast_6 : decode cX6_forecast 6 = .ok (.invokevirtual 225, 3) := by decide +kernel
theorem dX6_forecast_9 : decode cX6_forecast 9 = .ok (.ireturn, 1) := by decide +kernel
theorem dX6_own_0 : decode cX6_own 0 = .ok (.aload_n 0, 1) := by decide +kernel
theorem dX6_own_1 : decode cX6_own 1 = .ok (.aload_n 0, 1) := by decide +kernel
theorem dX6_own_2 : decode cX6_own 2 = .ok (.iload_n 1, 1) := by decide +kernel
theorem dX6_own_3 : decode cX6_own 3 = .ok (.invokevirtual 94, 3) := by decide +kernel
theorem dX6_own_6 : decode cX6_own 6 = .ok (.invokevirtual 229, 3) := by decide +kernel
theorem dX6_own_9 : decode cX6_own 9 = .ok (.ireturn, 1) := by decide +kernel
theorem dX6_freeze_0 : decode cX6_freeze 0 = .ok (.aload_n 0, 1) := by decide +kernel
theorem dX6_freeze_1 : decode cX6_freeze 1 = .ok (.getfield 28, 3) := by decide +kernel
theorem dX6_freeze_4 : decode cX6_freeze 4 = .ok (.invokevirtual 51, 3) := by decide +kernel
theorem dX6_freeze_7 : decode cX6_freeze 7 = .ok (.bipush 20, 2) := by decide +kernel
theorem dX6_freeze_9 : decode cX6_freeze 9 = .ok (.invokestatic 55, 3) := by decide +kernel
theorem dX6_freeze_12 : decode cX6_freeze 12 = .ok (.new 232, 3) := by decide +kernel
theorem dX6_freeze_15 : decode cX6_freeze 15 = .ok (.dup, 1) := by decide +kernel
theorem dX6_freeze_16 : decode cX6_freeze 16 = .ok (.invokespecial 234, 3) := by decide +kernel
theorem dX6_freeze_19 : decode cX6_freeze 19 = .ok (.astore_n 1, 1) := by decide +kernel
theorem dX6_freeze_20 : decode cX6_freeze 20 = .ok (.iconst 0, 1) := by decide +kernel
theorem dX6_freeze_21 : decode cX6_freeze 21 = .ok (.istore_n 2, 1) := by decide +kernel
theorem dX6_freeze_22 : decode cX6_freeze 22 = .ok (.iload_n 2, 1) := by decide +kernel
theorem dX6_freeze_23 : decode cX6_freeze 23 = .ok (.aload_n 0, 1) := by decide +kernel
theorem dX6_freeze_24 : decode cX6_freeze 24 = .ok (.getfield 19, 3) := by decide +kernel
theorem dX6_freeze_27 : decode cX6_freeze 27 = .ok (.invokevirtual 51, 3) := by decide +kernel
theorem dX6_freeze_30 : decode cX6_freeze 30 = .ok (.if_icmp .ge 37, 3) := by decide +kernel
theorem dX6_freeze_33 : decode cX6_freeze 33 = .ok (.aload_n 0, 1) := by decide +kernel
theorem dX6_freeze_34 : decode cX6_freeze 34 = .ok (.getfield 19, 3) := by decide +kernel
theorem dX6_freeze_37 : decode cX6_freeze 37 = .ok (.iload_n 2, 1) := by decide +kernel
theorem dX6_freeze_38 : decode cX6_freeze 38 = .ok (.invokevirtual 171, 3) := by decide +kernel
theorem dX6_freeze_41 : decode cX6_freeze 41 = .ok (.checkcast 98, 3) := by decide +kernel
theorem dX6_freeze_44 : decode cX6_freeze 44 = .ok (.astore_n 3, 1) := by decide +kernel
theorem dX6_freeze_45 : decode cX6_freeze 45 = .ok (.aload_n 1, 1) := by decide +kernel
theorem dX6_freeze_46 : decode cX6_freeze 46 = .ok (.getfield 235, 3) := by decide +kernel
theorem dX6_freeze_49 : decode cX6_freeze 49 = .ok (.aload_n 3, 1) := by decide +kernel
theorem dX6_freeze_50 : decode cX6_freeze 50 = .ok (.getfield 115, 3) := by decide +kernel
theorem dX6_freeze_53 : decode cX6_freeze 53 = .ok (.aload_n 0, 1) := by decide +kernel
theorem dX6_freeze_54 : decode cX6_freeze 54 = .ok (.aload_n 3, 1) := by decide +kernel
theorem dX6_freeze_55 : decode cX6_freeze 55 = .ok (.invokevirtual 225, 3) := by decide +kernel
theorem dX6_freeze_58 : decode cX6_freeze 58 = .ok (.invokestatic 118, 3) := by decide +kernel
theorem dX6_freeze_61 : decode cX6_freeze 61 = .ok (.iinc 2 1, 3) := by decide +kernel
theorem dX6_freeze_64 : decode cX6_freeze 64 = .ok (.goto (-42), 3) := by decide +kernel
theorem dX6_freeze_67 : decode cX6_freeze 67 = .ok (.aload_n 0, 1) := by decide +kernel
theorem dX6_freeze_68 : decode cX6_freeze 68 = .ok (.getfield 28, 3) := by decide +kernel
theorem dX6_freeze_71 : decode cX6_freeze 71 = .ok (.aload_n 1, 1) := by decide +kernel
theorem dX6_freeze_72 : decode cX6_freeze 72 = .ok (.invokevirtual 64, 3) := by decide +kernel
theorem dX6_freeze_75 : decode cX6_freeze 75 = .ok (.pop, 1) := by decide +kernel
theorem dX6_freeze_76 : decode cX6_freeze 76 = .ok (.aload_n 0, 1) := by decide +kernel
theorem dX6_freeze_77 : decode cX6_freeze 77 = .ok (.getfield 28, 3) := by decide +kernel
theorem dX6_freeze_80 : decode cX6_freeze 80 = .ok (.invokevirtual 51, 3) := by decide +kernel
theorem dX6_freeze_83 : decode cX6_freeze 83 = .ok (.iconst 1, 1) := by decide +kernel
theorem dX6_freeze_84 : decode cX6_freeze 84 = .ok (.isub, 1) := by decide +kernel
theorem dX6_freeze_85 : decode cX6_freeze 85 = .ok (.ireturn, 1) := by decide +kernel
theorem dX6_since_0 : decode cX6_since 0 = .ok (.iload_n 1, 1) := by decide +kernel
theorem dX6_since_1 : decode cX6_since 1 = .ok (.ifCond .lt 14, 3) := by decide +kernel
theorem dX6_since_4 : decode cX6_since 4 = .ok (.iload_n 1, 1) := by decide +kernel
theorem dX6_since_5 : decode cX6_since 5 = .ok (.aload_n 0, 1) := by decide +kernel
theorem dX6_since_6 : decode cX6_since 6 = .ok (.getfield 28, 3) := by decide +kernel
theorem dX6_since_9 : decode cX6_since 9 = .ok (.invokevirtual 51, 3) := by decide +kernel
theorem dX6_since_12 : decode cX6_since 12 = .ok (.if_icmp .lt 13, 3) := by decide +kernel
theorem dX6_since_15 : decode cX6_since 15 = .ok (.new 68, 3) := by decide +kernel
theorem dX6_since_18 : decode cX6_since 18 = .ok (.dup, 1) := by decide +kernel
theorem dX6_since_19 : decode cX6_since 19 = .ok (.ldc 238, 2) := by decide +kernel
theorem dX6_since_21 : decode cX6_since 21 = .ok (.invokespecial 72, 3) := by decide +kernel
theorem dX6_since_24 : decode cX6_since 24 = .ok (.athrow, 1) := by decide +kernel
theorem dX6_since_25 : decode cX6_since 25 = .ok (.aload_n 0, 1) := by decide +kernel
theorem dX6_since_26 : decode cX6_since 26 = .ok (.iload_n 2, 1) := by decide +kernel
theorem dX6_since_27 : decode cX6_since 27 = .ok (.invokevirtual 94, 3) := by decide +kernel
theorem dX6_since_30 : decode cX6_since 30 = .ok (.astore_n 3, 1) := by decide +kernel
theorem dX6_since_31 : decode cX6_since 31 = .ok (.aload_n 0, 1) := by decide +kernel
theorem dX6_since_32 : decode cX6_since 32 = .ok (.aload_n 3, 1) := by decide +kernel
theorem dX6_since_33 : decode cX6_since 33 = .ok (.invokevirtual 225, 3) := by decide +kernel
theorem dX6_since_36 : decode cX6_since 36 = .ok (.aload_n 0, 1) := by decide +kernel
theorem dX6_since_37 : decode cX6_since 37 = .ok (.getfield 28, 3) := by decide +kernel
theorem dX6_since_40 : decode cX6_since 40 = .ok (.iload_n 1, 1) := by decide +kernel
theorem dX6_since_41 : decode cX6_since 41 = .ok (.invokevirtual 171, 3) := by decide +kernel
theorem dX6_since_44 : decode cX6_since 44 = .ok (.checkcast 232, 3) := by decide +kernel
theorem dX6_since_47 : decode cX6_since 47 = .ok (.getfield 235, 3) := by decide +kernel
theorem dX6_since_50 : decode cX6_since 50 = .ok (.aload_n 3, 1) := by decide +kernel
theorem dX6_since_51 : decode cX6_since 51 = .ok (.getfield 115, 3) := by decide +kernel
theorem dX6_since_54 : decode cX6_since 54 = .ok (.invokestatic 135, 3) := by decide +kernel
theorem dX6_since_57 : decode cX6_since 57 = .ok (.isub, 1) := by decide +kernel
theorem dX6_since_58 : decode cX6_since 58 = .ok (.ireturn, 1) := by decide +kernel
theorem dX6_accountAt_0 : decode cX6_accountAt 0 = .ok (.iload_n 1, 1) := by decide +kernel
theorem dX6_accountAt_1 : decode cX6_accountAt 1 = .ok (.ifCond .lt 14, 3) := by decide +kernel
theorem dX6_accountAt_4 : decode cX6_accountAt 4 = .ok (.iload_n 1, 1) := by decide +kernel
theorem dX6_accountAt_5 : decode cX6_accountAt 5 = .ok (.aload_n 0, 1) := by decide +kernel
theorem dX6_accountAt_6 : decode cX6_accountAt 6 = .ok (.getfield 10, 3) := by decide +kernel
theorem dX6_accountAt_9 : decode cX6_accountAt 9 = .ok (.invokevirtual 51, 3) := by decide +kernel
theorem dX6_accountAt_12 : decode cX6_accountAt 12 = .ok (.if_icmp .lt 13, 3) := by decide +kernel
theorem dX6_accountAt_15 : decode cX6_accountAt 15 = .ok (.new 68, 3) := by decide +kernel
theorem dX6_accountAt_18 : decode cX6_accountAt 18 = .ok (.dup, 1) := by decide +kernel
theorem dX6_accountAt_19 : decode cX6_accountAt 19 = .ok (.ldc 240, 2) := by decide +kernel
theorem dX6_accountAt_21 : decode cX6_accountAt 21 = .ok (.invokespecial 72, 3) := by decide +kernel
theorem dX6_accountAt_24 : decode cX6_accountAt 24 = .ok (.athrow, 1) := by decide +kernel
theorem dX6_accountAt_25 : decode cX6_accountAt 25 = .ok (.aload_n 0, 1) := by decide +kernel
theorem dX6_accountAt_26 : decode cX6_accountAt 26 = .ok (.getfield 10, 3) := by decide +kernel
theorem dX6_accountAt_29 : decode cX6_accountAt 29 = .ok (.iload_n 1, 1) := by decide +kernel
theorem dX6_accountAt_30 : decode cX6_accountAt 30 = .ok (.invokevirtual 171, 3) := by decide +kernel
theorem dX6_accountAt_33 : decode cX6_accountAt 33 = .ok (.checkcast 59, 3) := by decide +kernel
theorem dX6_accountAt_36 : decode cX6_accountAt 36 = .ok (.areturn, 1) := by decide +kernel
theorem dX6_sellerAt_0 : decode cX6_sellerAt 0 = .ok (.iload_n 1, 1) := by decide +kernel
theorem dX6_sellerAt_1 : decode cX6_sellerAt 1 = .ok (.ifCond .lt 14, 3) := by decide +kernel
theorem dX6_sellerAt_4 : decode cX6_sellerAt 4 = .ok (.iload_n 1, 1) := by decide +kernel
theorem dX6_sellerAt_5 : decode cX6_sellerAt 5 = .ok (.aload_n 0, 1) := by decide +kernel
theorem dX6_sellerAt_6 : decode cX6_sellerAt 6 = .ok (.getfield 19, 3) := by decide +kernel
theorem dX6_sellerAt_9 : decode cX6_sellerAt 9 = .ok (.invokevirtual 51, 3) := by decide +kernel
theorem dX6_sellerAt_12 : decode cX6_sellerAt 12 = .ok (.if_icmp .lt 13, 3) := by decide +kernel
theorem dX6_sellerAt_15 : decode cX6_sellerAt 15 = .ok (.new 68, 3) := by decide +kernel
theorem dX6_sellerAt_18 : decode cX6_sellerAt 18 = .ok (.dup, 1) := by decide +kernel
theorem dX6_sellerAt_19 : decode cX6_sellerAt 19 = .ok (.ldc 242, 2) := by decide +kernel
theorem dX6_sellerAt_21 : decode cX6_sellerAt 21 = .ok (.invokespecial 72, 3) := by decide +kernel
theorem dX6_sellerAt_24 : decode cX6_sellerAt 24 = .ok (.athrow, 1) := by decide +kernel
theorem dX6_sellerAt_25 : decode cX6_sellerAt 25 = .ok (.aload_n 0, 1) := by decide +kernel
theorem dX6_sellerAt_26 : decode cX6_sellerAt 26 = .ok (.getfield 19, 3) := by decide +kernel
theorem dX6_sellerAt_29 : decode cX6_sellerAt 29 = .ok (.iload_n 1, 1) := by decide +kernel
theorem dX6_sellerAt_30 : decode cX6_sellerAt 30 = .ok (.invokevirtual 171, 3) := by decide +kernel
theorem dX6_sellerAt_33 : decode cX6_sellerAt 33 = .ok (.checkcast 98, 3) := by decide +kernel
theorem dX6_sellerAt_36 : decode cX6_sellerAt 36 = .ok (.areturn, 1) := by decide +kernel
theorem dX6_chanceAt_0 : decode cX6_chanceAt 0 = .ok (.iload_n 1, 1) := by decide +kernel
theorem dX6_chanceAt_1 : decode cX6_chanceAt 1 = .ok (.ifCond .lt 14, 3) := by decide +kernel
theorem dX6_chanceAt_4 : decode cX6_chanceAt 4 = .ok (.iload_n 1, 1) := by decide +kernel
theorem dX6_chanceAt_5 : decode cX6_chanceAt 5 = .ok (.aload_n 0, 1) := by decide +kernel
theorem dX6_chanceAt_6 : decode cX6_chanceAt 6 = .ok (.getfield 22, 3) := by decide +kernel
theorem dX6_chanceAt_9 : decode cX6_chanceAt 9 = .ok (.invokevirtual 51, 3) := by decide +kernel
theorem dX6_chanceAt_12 : decode cX6_chanceAt 12 = .ok (.if_icmp .lt 13, 3) := by decide +kernel
theorem dX6_chanceAt_15 : decode cX6_chanceAt 15 = .ok (.new 68, 3) := by decide +kernel
theorem dX6_chanceAt_18 : decode cX6_chanceAt 18 = .ok (.dup, 1) := by decide +kernel
theorem dX6_chanceAt_19 : decode cX6_chanceAt 19 = .ok (.ldc 244, 2) := by decide +kernel
theorem dX6_chanceAt_21 : decode cX6_chanceAt 21 = .ok (.invokespecial 72, 3) := by decide +kernel
theorem dX6_chanceAt_24 : decode cX6_chanceAt 24 = .ok (.athrow, 1) := by decide +kernel
theorem dX6_chanceAt_25 : decode cX6_chanceAt 25 = .ok (.aload_n 0, 1) := by decide +kernel
theorem dX6_chanceAt_26 : decode cX6_chanceAt 26 = .ok (.getfield 22, 3) := by decide +kernel
theorem dX6_chanceAt_29 : decode cX6_chanceAt 29 = .ok (.iload_n 1, 1) := by decide +kernel
theorem dX6_chanceAt_30 : decode cX6_chanceAt 30 = .ok (.invokevirtual 171, 3) := by decide +kernel
theorem dX6_chanceAt_33 : decode cX6_chanceAt 33 = .ok (.checkcast 108, 3) := by decide +kernel
theorem dX6_chanceAt_36 : decode cX6_chanceAt 36 = .ok (.areturn, 1) := by decide +kernel
theorem dX6_quoteAt_0 : decode cX6_quoteAt 0 = .ok (.iload_n 1, 1) := by decide +kernel
theorem dX6_quoteAt_1 : decode cX6_quoteAt 1 = .ok (.ifCond .lt 14, 3) := by decide +kernel
theorem dX6_quoteAt_4 : decode cX6_quoteAt 4 = .ok (.iload_n 1, 1) := by decide +kernel
theorem dX6_quoteAt_5 : decode cX6_quoteAt 5 = .ok (.aload_n 0, 1) := by decide +kernel
theorem dX6_quoteAt_6 : decode cX6_quoteAt 6 = .ok (.getfield 25, 3) := by decide +kernel
theorem dX6_quoteAt_9 : decode cX6_quoteAt 9 = .ok (.invokevirtual 51, 3) := by decide +kernel
theorem dX6_quoteAt_12 : decode cX6_quoteAt 12 = .ok (.if_icmp .lt 13, 3) := by decide +kernel
theorem dX6_quoteAt_15 : decode cX6_quoteAt 15 = .ok (.new 68, 3) := by decide +kernel
theorem dX6_quoteAt_18 : decode cX6_quoteAt 18 = .ok (.dup, 1) := by decide +kernel
theorem dX6_quoteAt_19 : decode cX6_quoteAt 19 = .ok (.ldc 246, 2) := by decide +kernel
theorem dX6_quoteAt_21 : decode cX6_quoteAt 21 = .ok (.invokespecial 72, 3) := by decide +kernel
theorem dX6_quoteAt_24 : decode cX6_quoteAt 24 = .ok (.athrow, 1) := by decide +kernel
theorem dX6_quoteAt_25 : decode cX6_quoteAt 25 = .ok (.aload_n 0, 1) := by decide +kernel
theorem dX6_quoteAt_26 : decode cX6_quoteAt 26 = .ok (.getfield 25, 3) := by decide +kernel
theorem dX6_quoteAt_29 : decode cX6_quoteAt 29 = .ok (.iload_n 1, 1) := by decide +kernel
theorem dX6_quoteAt_30 : decode cX6_quoteAt 30 = .ok (.invokevirtual 171, 3) := by decide +kernel
theorem dX6_quoteAt_33 : decode cX6_quoteAt 33 = .ok (.checkcast 185, 3) := by decide +kernel
theorem dX6_quoteAt_36 : decode cX6_quoteAt 36 = .ok (.areturn, 1) := by decide +kernel
theorem dX6_requireRange_0 : decode cX6_requireRange 0 = .ok (.iload_n 0, 1) := by decide +kernel
theorem dX6_requireRange_1 : decode cX6_requireRange 1 = .ok (.iload_n 1, 1) := by decide +kernel
theorem dX6_requireRange_2 : decode cX6_requireRange 2 = .ok (.if_icmp .lt 8, 3) := by decide +kernel
theorem dX6_requireRange_5 : decode cX6_requireRange 5 = .ok (.iload_n 0, 1) := by decide +kernel
theorem dX6_requireRange_6 : decode cX6_requireRange 6 = .ok (.iload_n 2, 1) := by decide +kernel
theorem dX6_requireRange_7 : decode cX6_requireRange 7 = .ok (.if_icmp .le 13, 3) := by decide +kernel
theorem dX6_requireRange_10 : decode cX6_requireRange 10 = .ok (.new 126, 3) := by decide +kernel
theorem dX6_requireRange_13 : decode cX6_requireRange 13 = .ok (.dup, 1) := by decide +kernel
theorem dX6_requireRange_14 : decode cX6_requireRange 14 = .ok (.ldc 248, 2) := by decide +kernel
theorem dX6_requireRange_16 : decode cX6_requireRange 16 = .ok (.invokespecial 130, 3) := by decide +kernel
theorem dX6_requireRange_19 : decode cX6_requireRange 19 = .ok (.athrow, 1) := by decide +kernel
theorem dX6_requireRange_20 : decode cX6_requireRange 20 = .ok (.return_, 1) := by decide +kernel
theorem dX6_requireStage_0 : decode cX6_requireStage 0 = .ok (.iload_n 0, 1) := by decide +kernel
theorem dX6_requireStage_1 : decode cX6_requireStage 1 = .ok (.iconst 0, 1) := by decide +kernel
theorem dX6_requireStage_2 : decode cX6_requireStage 2 = .ok (.iconst 5, 1) := by decide +kernel
theorem dX6_requireStage_3 : decode cX6_requireStage 3 = .ok (.invokestatic 35, 3) := by decide +kernel
theorem dX6_requireStage_6 : decode cX6_requireStage 6 = .ok (.return_, 1) := by decide +kernel
theorem dX6_requireRoom_0 : decode cX6_requireRoom 0 = .ok (.iload_n 0, 1) := by decide +kernel
theorem dX6_requireRoom_1 : decode cX6_requireRoom 1 = .ok (.iload_n 1, 1) := by decide +kernel
theorem dX6_requireRoom_2 : decode cX6_requireRoom 2 = .ok (.if_icmp .lt 13, 3) := by decide +kernel
theorem dX6_requireRoom_5 : decode cX6_requireRoom 5 = .ok (.new 40, 3) := by decide +kernel
theorem dX6_requireRoom_8 : decode cX6_requireRoom 8 = .ok (.dup, 1) := by decide +kernel
theorem dX6_requireRoom_9 : decode cX6_requireRoom 9 = .ok (.ldc 250, 2) := by decide +kernel
theorem dX6_requireRoom_11 : decode cX6_requireRoom 11 = .ok (.invokespecial 44, 3) := by decide +kernel
theorem dX6_requireRoom_14 : decode cX6_requireRoom 14 = .ok (.athrow, 1) := by decide +kernel
theorem dX6_requireRoom_15 : decode cX6_requireRoom 15 = .ok (.return_, 1) := by decide +kernel
theorem dX6_requireOpen_0 : decode cX6_requireOpen 0 = .ok (.aload_n 0, 1) := by decide +kernel
theorem dX6_requireOpen_1 : decode cX6_requireOpen 1 = .ok (.invokestatic 160, 3) := by decide +kernel
theorem dX6_requireOpen_4 : decode cX6_requireOpen 4 = .ok (.ifCond .ne 13, 3) := by decide +kernel
theorem dX6_requireOpen_7 : decode cX6_requireOpen 7 = .ok (.new 40, 3) := by decide +kernel
theorem dX6_requireOpen_10 : decode cX6_requireOpen 10 = .ok (.dup, 1) := by decide +kernel
theorem dX6_requireOpen_11 : decode cX6_requireOpen 11 = .ok (.ldc 252, 2) := by decide +kernel
theorem dX6_requireOpen_13 : decode cX6_requireOpen 13 = .ok (.invokespecial 44, 3) := by decide +kernel
theorem dX6_requireOpen_16 : decode cX6_requireOpen 16 = .ok (.athrow, 1) := by decide +kernel
theorem dX6_requireOpen_17 : decode cX6_requireOpen 17 = .ok (.return_, 1) := by decide +kernel
theorem dX6_regionNow_0 : decode cX6_regionNow 0 = .ok (.aload_n 1, 1) := by decide +kernel
theorem dX6_regionNow_1 : decode cX6_regionNow 1 = .ok (.astore_n 2, 1) := by decide +kernel
theorem dX6_regionNow_2 : decode cX6_regionNow 2 = .ok (.aload_n 2, 1) := by decide +kernel
theorem dX6_regionNow_3 : decode cX6_regionNow 3 = .ok (.ifnull 39, 3) := by decide +kernel
theorem dX6_regionNow_6 : decode cX6_regionNow 6 = .ok (.aload_n 2, 1) := by decide +kernel
theorem dX6_regionNow_7 : decode cX6_regionNow 7 = .ok (.getfield 87, 3) := by decide +kernel
theorem dX6_regionNow_10 : decode cX6_regionNow 10 = .ok (.iconst (-1), 1) := by decide +kernel
theorem dX6_regionNow_11 : decode cX6_regionNow 11 = .ok (.if_icmp .ne 11, 3) := by decide +kernel
theorem dX6_regionNow_14 : decode cX6_regionNow 14 = .ok (.aload_n 0, 1) := by decide +kernel
theorem dX6_regionNow_15 : decode cX6_regionNow 15 = .ok (.aload_n 2, 1) := by decide +kernel
theorem dX6_regionNow_16 : decode cX6_regionNow 16 = .ok (.invokevirtual 254, 3) := by decide +kernel
theorem dX6_regionNow_19 : decode cX6_regionNow 19 = .ok (.goto 7, 3) := by decide +kernel
theorem dX6_regionNow_22 : decode cX6_regionNow 22 = .ok (.aload_n 2, 1) := by decide +kernel
theorem dX6_regionNow_23 : decode cX6_regionNow 23 = .ok (.getfield 87, 3) := by decide +kernel
theorem dX6_regionNow_26 : decode cX6_regionNow 26 = .ok (.istore_n 3, 1) := by decide +kernel
theorem dX6_regionNow_27 : decode cX6_regionNow 27 = .ok (.iload_n 3, 1) := by decide +kernel
theorem dX6_regionNow_28 : decode cX6_regionNow 28 = .ok (.iconst (-1), 1) := by decide +kernel
theorem dX6_regionNow_29 : decode cX6_regionNow 29 = .ok (.if_icmp .eq 5, 3) := by decide +kernel
theorem dX6_regionNow_32 : decode cX6_regionNow 32 = .ok (.iload_n 3, 1) := by decide +kernel
theorem dX6_regionNow_33 : decode cX6_regionNow 33 = .ok (.ireturn, 1) := by decide +kernel
theorem dX6_regionNow_34 : decode cX6_regionNow 34 = .ok (.aload_n 2, 1) := by decide +kernel
theorem dX6_regionNow_35 : decode cX6_regionNow 35 = .ok (.getfield 257, 3) := by decide +kernel
theorem dX6_regionNow_38 : decode cX6_regionNow 38 = .ok (.astore_n 2, 1) := by decide +kernel
theorem dX6_regionNow_39 : decode cX6_regionNow 39 = .ok (.goto (-37), 3) := by decide +kernel
theorem dX6_regionNow_42 : decode cX6_regionNow 42 = .ok (.iconst 0, 1) := by decide +kernel
theorem dX6_regionNow_43 : decode cX6_regionNow 43 = .ok (.ireturn, 1) := by decide +kernel
theorem dX6_ruledRegion_0 : decode cX6_ruledRegion 0 = .ok (.iconst 0, 1) := by decide +kernel
theorem dX6_ruledRegion_1 : decode cX6_ruledRegion 1 = .ok (.istore_n 2, 1) := by decide +kernel
theorem dX6_ruledRegion_2 : decode cX6_ruledRegion 2 = .ok (.iload_n 2, 1) := by decide +kernel
theorem dX6_ruledRegion_3 : decode cX6_ruledRegion 3 = .ok (.aload_n 0, 1) := by decide +kernel
theorem dX6_ruledRegion_4 : decode cX6_ruledRegion 4 = .ok (.getfield 16, 3) := by decide +kernel
theorem dX6_ruledRegion_7 : decode cX6_ruledRegion 7 = .ok (.invokevirtual 51, 3) := by decide +kernel
theorem dX6_ruledRegion_10 : decode cX6_ruledRegion 10 = .ok (.if_icmp .ge 59, 3) := by decide +kernel
theorem dX6_ruledRegion_13 : decode cX6_ruledRegion 13 = .ok (.aload_n 0, 1) := by decide +kernel
theorem dX6_ruledRegion_14 : decode cX6_ruledRegion 14 = .ok (.getfield 16, 3) := by decide +kernel
theorem dX6_ruledRegion_17 : decode cX6_ruledRegion 17 = .ok (.iload_n 2, 1) := by decide +kernel
theorem dX6_ruledRegion_18 : decode cX6_ruledRegion 18 = .ok (.invokevirtual 171, 3) := by decide +kernel
theorem dX6_ruledRegion_21 : decode cX6_ruledRegion 21 = .ok (.checkcast 73, 3) := by decide +kernel
theorem dX6_ruledRegion_24 : decode cX6_ruledRegion 24 = .ok (.astore_n 3, 1) := by decide +kernel
theorem dX6_ruledRegion_25 : decode cX6_ruledRegion 25 = .ok (.aload_n 3, 1) := by decide +kernel
theorem dX6_ruledRegion_26 : decode cX6_ruledRegion 26 = .ok (.getfield 260, 3) := by decide +kernel
theorem dX6_ruledRegion_29 : decode cX6_ruledRegion 29 = .ok (.aload_n 1, 1) := by decide +kernel
theorem dX6_ruledRegion_30 : decode cX6_ruledRegion 30 = .ok (.getfield 263, 3) := by decide +kernel
theorem dX6_ruledRegion_33 : decode cX6_ruledRegion 33 = .ok (.if_icmp .gt 30, 3) := by decide +kernel
theorem dX6_ruledRegion_36 : decode cX6_ruledRegion 36 = .ok (.aload_n 1, 1) := by decide +kernel
theorem dX6_ruledRegion_37 : decode cX6_ruledRegion 37 = .ok (.getfield 263, 3) := by decide +kernel
theorem dX6_ruledRegion_40 : decode cX6_ruledRegion 40 = .ok (.aload_n 3, 1) := by decide +kernel
theorem dX6_ruledRegion_41 : decode cX6_ruledRegion 41 = .ok (.getfield 266, 3) := by decide +kernel
theorem dX6_ruledRegion_44 : decode cX6_ruledRegion 44 = .ok (.if_icmp .gt 19, 3) := by decide +kernel
theorem dX6_ruledRegion_47 : decode cX6_ruledRegion 47 = .ok (.aload_n 3, 1) := by decide +kernel
theorem dX6_ruledRegion_48 : decode cX6_ruledRegion 48 = .ok (.getfield 269, 3) := by decide +kernel
theorem dX6_ruledRegion_51 : decode cX6_ruledRegion 51 = .ok (.aload_n 1, 1) := by decide +kernel
theorem dX6_ruledRegion_52 : decode cX6_ruledRegion 52 = .ok (.getfield 271, 3) := by decide +kernel
theorem dX6_ruledRegion_55 : decode cX6_ruledRegion 55 = .ok (.if_icmp .gt 8, 3) := by decide +kernel
theorem dX6_ruledRegion_58 : decode cX6_ruledRegion 58 = .ok (.aload_n 3, 1) := by decide +kernel
theorem dX6_ruledRegion_59 : decode cX6_ruledRegion 59 = .ok (.getfield 272, 3) := by decide +kernel
theorem dX6_ruledRegion_62 : decode cX6_ruledRegion 62 = .ok (.ireturn, 1) := by decide +kernel
theorem dX6_ruledRegion_63 : decode cX6_ruledRegion 63 = .ok (.iinc 2 1, 3) := by decide +kernel
theorem dX6_ruledRegion_66 : decode cX6_ruledRegion 66 = .ok (.goto (-64), 3) := by decide +kernel
theorem dX6_ruledRegion_69 : decode cX6_ruledRegion 69 = .ok (.iconst (-1), 1) := by decide +kernel
theorem dX6_ruledRegion_70 : decode cX6_ruledRegion 70 = .ok (.ireturn, 1) := by decide +kernel
theorem dX6_regionFor_0 : decode cX6_regionFor 0 = .ok (.aload_n 1, 1) := by decide +kernel
theorem dX6_regionFor_1 : decode cX6_regionFor 1 = .ok (.invokestatic 160, 3) := by decide +kernel
theorem dX6_regionFor_4 : decode cX6_regionFor 4 = .ok (.ifCond .eq 14, 3) := by decide +kernel
theorem dX6_regionFor_7 : decode cX6_regionFor 7 = .ok (.aload_n 0, 1) := by decide +kernel
theorem dX6_regionFor_8 : decode cX6_regionFor 8 = .ok (.aload_n 1, 1) := by decide +kernel
theorem dX6_regionFor_9 : decode cX6_regionFor 9 = .ok (.getfield 164, 3) := by decide +kernel
theorem dX6_regionFor_12 : decode cX6_regionFor 12 = .ok (.invokevirtual 90, 3) := by decide +kernel
theorem dX6_regionFor_15 : decode cX6_regionFor 15 = .ok (.goto 7, 3) := by decide +kernel
theorem dX6_regionFor_18 : decode cX6_regionFor 18 = .ok (.aload_n 1, 1) := by decide +kernel
theorem dX6_regionFor_19 : decode cX6_regionFor 19 = .ok (.getfield 168, 3) := by decide +kernel
theorem dX6_regionFor_22 : decode cX6_regionFor 22 = .ok (.ireturn, 1) := by decide +kernel
theorem dX6_isInTree_0 : decode cX6_isInTree 0 = .ok (.aload_n 0, 1) := by decide +kernel
theorem dX6_isInTree_1 : decode cX6_isInTree 1 = .ok (.astore_n 2, 1) := by decide +kernel
theorem dX6_isInTree_2 : decode cX6_isInTree 2 = .ok (.aload_n 2, 1) := by decide +kernel
theorem dX6_isInTree_3 : decode cX6_isInTree 3 = .ok (.ifnull 18, 3) := by decide +kernel
theorem dX6_isInTree_6 : decode cX6_isInTree 6 = .ok (.aload_n 2, 1) := by decide +kernel
theorem dX6_isInTree_7 : decode cX6_isInTree 7 = .ok (.aload_n 1, 1) := by decide +kernel
theorem dX6_isInTree_8 : decode cX6_isInTree 8 = .ok (.if_acmp .ne 5, 3) := by decide +kernel
theorem dX6_isInTree_11 : decode cX6_isInTree 11 = .ok (.iconst 1, 1) := by decide +kernel
theorem dX6_isInTree_12 : decode cX6_isInTree 12 = .ok (.ireturn, 1) := by decide +kernel
theorem dX6_isInTree_13 : decode cX6_isInTree 13 = .ok (.aload_n 2, 1) := by decide +kernel
theorem dX6_isInTree_14 : decode cX6_isInTree 14 = .ok (.getfield 257, 3) := by decide +kernel
theorem dX6_isInTree_17 : decode cX6_isInTree 17 = .ok (.astore_n 2, 1) := by decide +kernel
theorem dX6_isInTree_18 : decode cX6_isInTree 18 = .ok (.goto (-16), 3) := by decide +kernel
theorem dX6_isInTree_21 : decode cX6_isInTree 21 = .ok (.iconst 0, 1) := by decide +kernel
theorem dX6_isInTree_22 : decode cX6_isInTree 22 = .ok (.ireturn, 1) := by decide +kernel
theorem dX6_isOpen_0 : decode cX6_isOpen 0 = .ok (.aload_n 0, 1) := by decide +kernel
theorem dX6_isOpen_1 : decode cX6_isOpen 1 = .ok (.getfield 157, 3) := by decide +kernel
theorem dX6_isOpen_4 : decode cX6_isOpen 4 = .ok (.iconst 4, 1) := by decide +kernel
theorem dX6_isOpen_5 : decode cX6_isOpen 5 = .ok (.if_icmp .ge 7, 3) := by decide +kernel
theorem dX6_isOpen_8 : decode cX6_isOpen 8 = .ok (.iconst 1, 1) := by decide +kernel
theorem dX6_isOpen_9 : decode cX6_isOpen 9 = .ok (.goto 4, 3) := by decide +kernel
theorem dX6_isOpen_12 : decode cX6_isOpen 12 = .ok (.iconst 0, 1) := by decide +kernel
theorem dX6_isOpen_13 : decode cX6_isOpen 13 = .ok (.ireturn, 1) := by decide +kernel
theorem dX6_canCome_0 : decode cX6_canCome 0 = .ok (.aload_n 0, 1) := by decide +kernel
theorem dX6_canCome_1 : decode cX6_canCome 1 = .ok (.invokestatic 160, 3) := by decide +kernel
theorem dX6_canCome_4 : decode cX6_canCome 4 = .ok (.ifCond .ne 5, 3) := by decide +kernel
theorem dX6_canCome_7 : decode cX6_canCome 7 = .ok (.iconst 0, 1) := by decide +kernel
theorem dX6_canCome_8 : decode cX6_canCome 8 = .ok (.ireturn, 1) := by decide +kernel
theorem dX6_canCome_9 : decode cX6_canCome 9 = .ok (.iload_n 1, 1) := by decide +kernel
theorem dX6_canCome_10 : decode cX6_canCome 10 = .ok (.iconst 5, 1) := by decide +kernel
theorem dX6_canCome_11 : decode cX6_canCome 11 = .ok (.if_icmp .eq 11, 3) := by decide +kernel
theorem dX6_canCome_14 : decode cX6_canCome 14 = .ok (.iload_n 1, 1) := by decide +kernel
theorem dX6_canCome_15 : decode cX6_canCome 15 = .ok (.aload_n 0, 1) := by decide +kernel
theorem dX6_canCome_16 : decode cX6_canCome 16 = .ok (.getfield 157, 3) := by decide +kernel
theorem dX6_canCome_19 : decode cX6_canCome 19 = .ok (.if_icmp .ge 5, 3) := by decide +kernel
theorem dX6_canCome_22 : decode cX6_canCome 22 = .ok (.iconst 1, 1) := by decide +kernel
theorem dX6_canCome_23 : decode cX6_canCome 23 = .ok (.ireturn, 1) := by decide +kernel
theorem dX6_canCome_24 : decode cX6_canCome 24 = .ok (.iload_n 1, 1) := by decide +kernel
theorem dX6_canCome_25 : decode cX6_canCome 25 = .ok (.aload_n 0, 1) := by decide +kernel
theorem dX6_canCome_26 : decode cX6_canCome 26 = .ok (.getfield 157, 3) := by decide +kernel
theorem dX6_canCome_29 : decode cX6_canCome 29 = .ok (.iconst 1, 1) := by decide +kernel
theorem dX6_canCome_30 : decode cX6_canCome 30 = .ok (.iadd, 1) := by decide +kernel
theorem dX6_canCome_31 : decode cX6_canCome 31 = .ok (.if_icmp .eq 5, 3) := by decide +kernel
theorem dX6_canCome_34 : decode cX6_canCome 34 = .ok (.iconst 0, 1) := by decide +kernel
theorem dX6_canCome_35 : decode cX6_canCome 35 = .ok (.ireturn, 1) := by decide +kernel
theorem dX6_canCome_36 : decode cX6_canCome 36 = .ok (.iload_n 1, 1) := by decide +kernel
theorem dX6_canCome_37 : decode cX6_canCome 37 = .ok (.iconst 3, 1) := by decide +kernel
theorem dX6_canCome_38 : decode cX6_canCome 38 = .ok (.if_icmp .ne 10, 3) := by decide +kernel
theorem dX6_canCome_41 : decode cX6_canCome 41 = .ok (.aload_n 0, 1) := by decide +kernel
theorem dX6_canCome_42 : decode cX6_canCome 42 = .ok (.getfield 216, 3) := by decide +kernel
theorem dX6_canCome_45 : decode cX6_canCome 45 = .ok (.ifnull 7, 3) := by decide +kernel
theorem dX6_canCome_48 : decode cX6_canCome 48 = .ok (.iconst 1, 1) := by decide +kernel
theorem dX6_canCome_49 : decode cX6_canCome 49 = .ok (.goto 4, 3) := by decide +kernel
theorem dX6_canCome_52 : decode cX6_canCome 52 = .ok (.iconst 0, 1) := by decide +kernel
theorem dX6_canCome_53 : decode cX6_canCome 53 = .ok (.ireturn, 1) := by decide +kernel
theorem dX6_canApprove_0 : decode cX6_canApprove 0 = .ok (.aload_n 0, 1) := by decide +kernel
theorem dX6_canApprove_1 : decode cX6_canApprove 1 = .ok (.getfield 275, 3) := by decide +kernel
theorem dX6_canApprove_4 : decode cX6_canApprove 4 = .ok (.getfield 279, 3) := by decide +kernel
theorem dX6_canApprove_7 : decode cX6_canApprove 7 = .ok (.aload_n 1, 1) := by decide +kernel
theorem dX6_canApprove_8 : decode cX6_canApprove 8 = .ok (.invokestatic 281, 3) := by decide +kernel
theorem dX6_canApprove_11 : decode cX6_canApprove 11 = .ok (.ifCond .eq 18, 3) := by decide +kernel
theorem dX6_canApprove_14 : decode cX6_canApprove 14 = .ok (.aload_n 0, 1) := by decide +kernel
theorem dX6_canApprove_15 : decode cX6_canApprove 15 = .ok (.getfield 285, 3) := by decide +kernel
theorem dX6_canApprove_18 : decode cX6_canApprove 18 = .ok (.aload_n 1, 1) := by decide +kernel
theorem dX6_canApprove_19 : decode cX6_canApprove 19 = .ok (.getfield 190, 3) := by decide +kernel
theorem dX6_canApprove_22 : decode cX6_canApprove 22 = .ok (.if_icmp .gt 7, 3) := by decide +kernel
theorem dX6_canApprove_25 : decode cX6_canApprove 25 = .ok (.iconst 1, 1) := by decide +kernel
theorem dX6_canApprove_26 : decode cX6_canApprove 26 = .ok (.goto 4, 3) := by decide +kernel
theorem dX6_canApprove_29 : decode cX6_canApprove 29 = .ok (.iconst 0, 1) := by decide +kernel
theorem dX6_canApprove_30 : decode cX6_canApprove 30 = .ok (.ireturn, 1) := by decide +kernel
theorem dX6_letCount_0 : decode cX6_letCount 0 = .ok (.aload_n 0, 1) := by decide +kernel
theorem dX6_letCount_1 : decode cX6_letCount 1 = .ok (.iconst 1, 1) := by decide +kernel
theorem dX6_letCount_2 : decode cX6_letCount 2 = .ok (.putfield 206, 3) := by decide +kernel
theorem dX6_letCount_5 : decode cX6_letCount 5 = .ok (.aload_n 0, 1) := by decide +kernel
theorem dX6_letCount_6 : decode cX6_letCount 6 = .ok (.getfield 202, 3) := by decide +kernel
theorem dX6_letCount_9 : decode cX6_letCount 9 = .ok (.aload_n 0, 1) := by decide +kernel
theorem dX6_letCount_10 : decode cX6_letCount 10 = .ok (.putfield 216, 3) := by decide +kernel
theorem dX6_letCount_13 : decode cX6_letCount 13 = .ok (.return_, 1) := by decide +kernel
theorem dX6_worthNow_0 : decode cX6_worthNow 0 = .ok (.aload_n 0, 1) := by decide +kernel
theorem dX6_worthNow_1 : decode cX6_worthNow 1 = .ok (.getfield 216, 3) := by decide +kernel
theorem dX6_worthNow_4 : decode cX6_worthNow 4 = .ok (.astore_n 1, 1) := by decide +kernel
theorem dX6_worthNow_5 : decode cX6_worthNow 5 = .ok (.aload_n 1, 1) := by decide +kernel
theorem dX6_worthNow_6 : decode cX6_worthNow 6 = .ok (.ifnonnull 10, 3) := by decide +kernel
theorem dX6_worthNow_9 : decode cX6_worthNow 9 = .ok (.aload_n 0, 1) := by decide +kernel
theorem dX6_worthNow_10 : decode cX6_worthNow 10 = .ok (.getfield 288, 3) := by decide +kernel
theorem dX6_worthNow_13 : decode cX6_worthNow 13 = .ok (.goto 17, 3) := by decide +kernel
theorem dX6_worthNow_16 : decode cX6_worthNow 16 = .ok (.aload_n 0, 1) := by decide +kernel
theorem dX6_worthNow_17 : decode cX6_worthNow 17 = .ok (.getfield 288, 3) := by decide +kernel
theorem dX6_worthNow_20 : decode cX6_worthNow 20 = .ok (.bipush 100, 2) := by decide +kernel
theorem dX6_worthNow_22 : decode cX6_worthNow 22 = .ok (.aload_n 1, 1) := by decide +kernel
theorem dX6_worthNow_23 : decode cX6_worthNow 23 = .ok (.getfield 285, 3) := by decide +kernel
theorem dX6_worthNow_26 : decode cX6_worthNow 26 = .ok (.isub, 1) := by decide +kernel
theorem dX6_worthNow_27 : decode cX6_worthNow 27 = .ok (.invokestatic 291, 3) := by decide +kernel
theorem dX6_worthNow_30 : decode cX6_worthNow 30 = .ok (.ireturn, 1) := by decide +kernel
theorem dX6_isInTeam_0 : decode cX6_isInTeam 0 = .ok (.aload_n 0, 1) := by decide +kernel
theorem dX6_isInTeam_1 : decode cX6_isInTeam 1 = .ok (.astore_n 2, 1) := by decide +kernel
theorem dX6_isInTeam_2 : decode cX6_isInTeam 2 = .ok (.aload_n 2, 1) := by decide +kernel
theorem dX6_isInTeam_3 : decode cX6_isInTeam 3 = .ok (.ifnull 18, 3) := by decide +kernel
theorem dX6_isInTeam_6 : decode cX6_isInTeam 6 = .ok (.aload_n 2, 1) := by decide +kernel
theorem dX6_isInTeam_7 : decode cX6_isInTeam 7 = .ok (.aload_n 1, 1) := by decide +kernel
theorem dX6_isInTeam_8 : decode cX6_isInTeam 8 = .ok (.if_acmp .ne 5, 3) := by decide +kernel
theorem dX6_isInTeam_11 : decode cX6_isInTeam 11 = .ok (.iconst 1, 1) := by decide +kernel
theorem dX6_isInTeam_12 : decode cX6_isInTeam 12 = .ok (.ireturn, 1) := by decide +kernel
theorem dX6_isInTeam_13 : decode cX6_isInTeam 13 = .ok (.aload_n 2, 1) := by decide +kernel
theorem dX6_isInTeam_14 : decode cX6_isInTeam 14 = .ok (.getfield 279, 3) := by decide +kernel
theorem dX6_isInTeam_17 : decode cX6_isInTeam 17 = .ok (.astore_n 2, 1) := by decide +kernel
theorem dX6_isInTeam_18 : decode cX6_isInTeam 18 = .ok (.goto (-16), 3) := by decide +kernel
theorem dX6_isInTeam_21 : decode cX6_isInTeam 21 = .ok (.iconst 0, 1) := by decide +kernel
theorem dX6_isInTeam_22 : decode cX6_isInTeam 22 = .ok (.ireturn, 1) := by decide +kernel
theorem dX6_ownNow_0 : decode cX6_ownNow 0 = .ok (.iconst 0, 1) := by decide +kernel
theorem dX6_ownNow_1 : decode cX6_ownNow 1 = .ok (.istore_n 2, 1) := by decide +kernel
theorem dX6_ownNow_2 : decode cX6_ownNow 2 = .ok (.iconst 0, 1) := by decide +kernel
theorem dX6_ownNow_3 : decode cX6_ownNow 3 = .ok (.istore_n 3, 1) := by decide +kernel
theorem dX6_ownNow_4 : decode cX6_ownNow 4 = .ok (.iload_n 3, 1) := by decide +kernel
theorem dX6_ownNow_5 : decode cX6_ownNow 5 = .ok (.aload_n 0, 1) := by decide +kernel
theorem dX6_ownNow_6 : decode cX6_ownNow 6 = .ok (.getfield 22, 3) := by decide +kernel
theorem dX6_ownNow_9 : decode cX6_ownNow 9 = .ok (.invokevirtual 51, 3) := by decide +kernel
theorem dX6_ownNow_12 : decode cX6_ownNow 12 = .ok (.if_icmp .ge 63, 3) := by decide +kernel
theorem dX6_ownNow_15 : decode cX6_ownNow 15 = .ok (.aload_n 0, 1) := by decide +kernel
theorem dX6_ownNow_16 : decode cX6_ownNow 16 = .ok (.getfield 22, 3) := by decide +kernel
theorem dX6_ownNow_19 : decode cX6_ownNow 19 = .ok (.iload_n 3, 1) := by decide +kernel
theorem dX6_ownNow_20 : decode cX6_ownNow 20 = .ok (.invokevirtual 171, 3) := by decide +kernel
theorem dX6_ownNow_23 : decode cX6_ownNow 23 = .ok (.checkcast 108, 3) := by decide +kernel
theorem dX6_ownNow_26 : decode cX6_ownNow 26 = .ok (.astore 4, 2) := by decide +kernel
theorem dX6_ownNow_28 : decode cX6_ownNow 28 = .ok (.aload 4, 2) := by decide +kernel
theorem dX6_ownNow_30 : decode cX6_ownNow 30 = .ok (.invokestatic 174, 3) := by decide +kernel
theorem dX6_ownNow_33 : decode cX6_ownNow 33 = .ok (.aload 4, 2) := by decide +kernel
theorem dX6_ownNow_35 : decode cX6_ownNow 35 = .ok (.getfield 111, 3) := by decide +kernel
theorem dX6_ownNow_38 : decode cX6_ownNow 38 = .ok (.aload_n 1, 1) := by decide +kernel
theorem dX6_ownNow_39 : decode cX6_ownNow 39 = .ok (.getfield 115, 3) := by decide +kernel
theorem dX6_ownNow_42 : decode cX6_ownNow 42 = .ok (.invokestatic 135, 3) := by decide +kernel
theorem dX6_ownNow_45 : decode cX6_ownNow 45 = .ok (.invokestatic 291, 3) := by decide +kernel
theorem dX6_ownNow_48 : decode cX6_ownNow 48 = .ok (.istore 5, 2) := by decide +kernel
theorem dX6_ownNow_50 : decode cX6_ownNow 50 = .ok (.iload_n 2, 1) := by decide +kernel
theorem dX6_ownNow_51 : decode cX6_ownNow 51 = .ok (.iload 5, 2) := by decide +kernel
theorem dX6_ownNow_53 : decode cX6_ownNow 53 = .ok (.getstatic 295, 3) := by decide +kernel
theorem dX6_ownNow_56 : decode cX6_ownNow 56 = .ok (.aload 4, 2) := by decide +kernel
theorem dX6_ownNow_58 : decode cX6_ownNow 58 = .ok (.getfield 157, 3) := by decide +kernel
theorem dX6_ownNow_61 : decode cX6_ownNow 61 = .ok (.invokestatic 135, 3) := by decide +kernel
theorem dX6_ownNow_64 : decode cX6_ownNow 64 = .ok (.invokestatic 291, 3) := by decide +kernel
theorem dX6_ownNow_67 : decode cX6_ownNow 67 = .ok (.iadd, 1) := by decide +kernel
theorem dX6_ownNow_68 : decode cX6_ownNow 68 = .ok (.istore_n 2, 1) := by decide +kernel
theorem dX6_ownNow_69 : decode cX6_ownNow 69 = .ok (.iinc 3 1, 3) := by decide +kernel
theorem dX6_ownNow_72 : decode cX6_ownNow 72 = .ok (.goto (-68), 3) := by decide +kernel
theorem dX6_ownNow_75 : decode cX6_ownNow 75 = .ok (.iload_n 2, 1) := by decide +kernel
theorem dX6_ownNow_76 : decode cX6_ownNow 76 = .ok (.ireturn, 1) := by decide +kernel
theorem dX6_forecastNow_0 : decode cX6_forecastNow 0 = .ok (.iconst 0, 1) := by decide +kernel
theorem dX6_forecastNow_1 : decode cX6_forecastNow 1 = .ok (.istore_n 2, 1) := by decide +kernel
theorem dX6_forecastNow_2 : decode cX6_forecastNow 2 = .ok (.iconst 0, 1) := by decide +kernel
theorem dX6_forecastNow_3 : decode cX6_forecastNow 3 = .ok (.istore_n 3, 1) := by decide +kernel
theorem dX6_forecastNow_4 : decode cX6_forecastNow 4 = .ok (.iload_n 3, 1) := by decide +kernel
theorem dX6_forecastNow_5 : decode cX6_forecastNow 5 = .ok (.aload_n 0, 1) := by decide +kernel
theorem dX6_forecastNow_6 : decode cX6_forecastNow 6 = .ok (.getfield 19, 3) := by decide +kernel
theorem dX6_forecastNow_9 : decode cX6_forecastNow 9 = .ok (.invokevirtual 51, 3) := by decide +kernel
theorem dX6_forecastNow_12 : decode cX6_forecastNow 12 = .ok (.if_icmp .ge 46, 3) := by decide +kernel
theorem dX6_forecastNow_15 : decode cX6_forecastNow 15 = .ok (.aload_n 0, 1) := by decide +kernel
theorem dX6_forecastNow_16 : decode cX6_forecastNow 16 = .ok (.getfield 19, 3) := by decide +kernel
theorem dX6_forecastNow_19 : decode cX6_forecastNow 19 = .ok (.iload_n 3, 1) := by decide +kernel
theorem dX6_forecastNow_20 : decode cX6_forecastNow 20 = .ok (.invokevirtual 171, 3) := by decide +kernel
theorem dX6_forecastNow_23 : decode cX6_forecastNow 23 = .ok (.checkcast 98, 3) := by decide +kernel
theorem dX6_forecastNow_26 : decode cX6_forecastNow 26 = .ok (.astore 4, 2) := by decide +kernel
theorem dX6_forecastNow_28 : decode cX6_forecastNow 28 = .ok (.aload 4, 2) := by decide +kernel
theorem dX6_forecastNow_30 : decode cX6_forecastNow 30 = .ok (.aload_n 1, 1) := by decide +kernel
theorem dX6_forecastNow_31 : decode cX6_forecastNow 31 = .ok (.invokestatic 281, 3) := by decide +kernel
theorem dX6_forecastNow_34 : decode cX6_forecastNow 34 = .ok (.ifCond .eq 18, 3) := by decide +kernel
theorem dX6_forecastNow_37 : decode cX6_forecastNow 37 = .ok (.iload_n 2, 1) := by decide +kernel
theorem dX6_forecastNow_38 : decode cX6_forecastNow 38 = .ok (.aload_n 0, 1) := by decide +kernel
theorem dX6_forecastNow_39 : decode cX6_forecastNow 39 = .ok (.aload 4, 2) := by decide +kernel
theorem dX6_forecastNow_41 : decode cX6_forecastNow 41 = .ok (.invokevirtual 229, 3) := by decide +kernel
theorem dX6_forecastNow_44 : decode cX6_forecastNow 44 = .ok (.aload 4, 2) := by decide +kernel
theorem dX6_forecastNow_46 : decode cX6_forecastNow 46 = .ok (.getfield 105, 3) := by decide +kernel
theorem dX6_forecastNow_49 : decode cX6_forecastNow 49 = .ok (.iadd, 1) := by decide +kernel
theorem dX6_forecastNow_50 : decode cX6_forecastNow 50 = .ok (.iadd, 1) := by decide +kernel
theorem dX6_forecastNow_51 : decode cX6_forecastNow 51 = .ok (.istore_n 2, 1) := by decide +kernel
theorem dX6_forecastNow_52 : decode cX6_forecastNow 52 = .ok (.iinc 3 1, 3) := by decide +kernel
theorem dX6_forecastNow_55 : decode cX6_forecastNow 55 = .ok (.goto (-51), 3) := by decide +kernel
theorem dX6_forecastNow_58 : decode cX6_forecastNow 58 = .ok (.iload_n 2, 1) := by decide +kernel
theorem dX6_forecastNow_59 : decode cX6_forecastNow 59 = .ok (.ireturn, 1) := by decide +kernel
theorem dX6_hundredths_0 : decode cX6_hundredths 0 = .ok (.iload_n 0, 1) := by decide +kernel
theorem dX6_hundredths_1 : decode cX6_hundredths 1 = .ok (.iload_n 1, 1) := by decide +kernel
theorem dX6_hundredths_2 : decode cX6_hundredths 2 = .ok (.imul, 1) := by decide +kernel
theorem dX6_hundredths_3 : decode cX6_hundredths 3 = .ok (.bipush 100, 2) := by decide +kernel
theorem dX6_hundredths_5 : decode cX6_hundredths 5 = .ok (.idiv, 1) := by decide +kernel
theorem dX6_hundredths_6 : decode cX6_hundredths 6 = .ok (.ireturn, 1) := by decide +kernel
theorem dX6_at_0 : decode cX6_at 0 = .ok (.iload_n 1, 1) := by decide +kernel
theorem dX6_at_1 : decode cX6_at 1 = .ok (.ifCond .lt 15, 3) := by decide +kernel
theorem dX6_at_4 : decode cX6_at 4 = .ok (.iload_n 1, 1) := by decide +kernel
theorem dX6_at_5 : decode cX6_at 5 = .ok (.aload_n 0, 1) := by decide +kernel
theorem dX6_at_6 : decode cX6_at 6 = .ok (.arraylength, 1) := by decide +kernel
theorem dX6_at_7 : decode cX6_at 7 = .ok (.if_icmp .ge 9, 3) := by decide +kernel
theorem dX6_at_10 : decode cX6_at 10 = .ok (.aload_n 0, 1) := by decide +kernel
theorem dX6_at_11 : decode cX6_at 11 = .ok (.iload_n 1, 1) := by decide +kernel
theorem dX6_at_12 : decode cX6_at 12 = .ok (.iaload, 1) := by decide +kernel
theorem dX6_at_13 : decode cX6_at 13 = .ok (.goto 4, 3) := by decide +kernel
theorem dX6_at_16 : decode cX6_at 16 = .ok (.iconst 0, 1) := by decide +kernel
theorem dX6_at_17 : decode cX6_at 17 = .ok (.ireturn, 1) := by decide +kernel
theorem dX6_addTo_0 : decode cX6_addTo 0 = .ok (.iload_n 1, 1) := by decide +kernel
theorem dX6_addTo_1 : decode cX6_addTo 1 = .ok (.ifCond .lt 16, 3) := by decide +kernel
theorem dX6_addTo_4 : decode cX6_addTo 4 = .ok (.iload_n 1, 1) := by decide +kernel
theorem dX6_addTo_5 : decode cX6_addTo 5 = .ok (.aload_n 0, 1) := by decide +kernel
theorem dX6_addTo_6 : decode cX6_addTo 6 = .ok (.arraylength, 1) := by decide +kernel
theorem dX6_addTo_7 : decode cX6_addTo 7 = .ok (.if_icmp .ge 10, 3) := by decide +kernel
theorem dX6_addTo_10 : decode cX6_addTo 10 = .ok (.aload_n 0, 1) := by decide +kernel
theorem dX6_addTo_11 : decode cX6_addTo 11 = .ok (.iload_n 1, 1) := by decide +kernel
theorem dX6_addTo_12 : decode cX6_addTo 12 = .ok (.dup2, 1) := by decide +kernel
theorem dX6_addTo_13 : decode cX6_addTo 13 = .ok (.iaload, 1) := by decide +kernel
theorem dX6_addTo_14 : decode cX6_addTo 14 = .ok (.iload_n 2, 1) := by decide +kernel
theorem dX6_addTo_15 : decode cX6_addTo 15 = .ok (.iadd, 1) := by decide +kernel
theorem dX6_addTo_16 : decode cX6_addTo 16 = .ok (.iastore, 1) := by decide +kernel
theorem dX6_addTo_17 : decode cX6_addTo 17 = .ok (.return_, 1) := by decide +kernel
theorem dJxa1e45_init_da8c8_0 : decode cJxa1e45_init_da8c8 0 = .ok (.aload_n 0, 1) := by decide +kernel
theorem dJxa1e45_init_da8c8_1 : decode cJxa1e45_init_da8c8 1 = .ok (.invokespecial 1, 3) := by decide +kernel
theorem dJxa1e45_init_da8c8_4 : decode cJxa1e45_init_da8c8 4 = .ok (.return_, 1) := by decide +kernel
theorem dJxc12de_init_da8c8_0 : decode cJxc12de_init_da8c8 0 = .ok (.aload_n 0, 1) := by decide +kernel
theorem dJxc12de_init_da8c8_1 : decode cJxc12de_init_da8c8 1 = .ok (.invokespecial 1, 3) := by decide +kernel
theorem dJxc12de_init_da8c8_4 : decode cJxc12de_init_da8c8 4 = .ok (.aload_n 0, 1) := by decide +kernel
theorem dJxc12de_init_da8c8_5 : decode cJxc12de_init_da8c8 5 = .ok (.iconst 0, 1) := by decide +kernel
theorem dJxc12de_init_da8c8_6 : decode cJxc12de_init_da8c8 6 = .ok (.putfield 7, 3) := by decide +kernel
theorem dJxc12de_init_da8c8_9 : decode cJxc12de_init_da8c8 9 = .ok (.return_, 1) := by decide +kernel
theorem dJx4a65c_init_da8c8_0 : decode cJx4a65c_init_da8c8 0 = .ok (.aload_n 0, 1) := by decide +kernel
theorem dJx4a65c_init_da8c8_1 : decode cJx4a65c_init_da8c8 1 = .ok (.invokespecial 1, 3) := by decide +kernel
theorem dJx4a65c_init_da8c8_4 : decode cJx4a65c_init_da8c8 4 = .ok (.aload_n 0, 1) := by decide +kernel
theorem dJx4a65c_init_da8c8_5 : decode cJx4a65c_init_da8c8 5 = .ok (.getstatic 39, 3) := by decide +kernel
theorem dJx4a65c_init_da8c8_8 : decode cJx4a65c_init_da8c8 8 = .ok (.putfield 9, 3) := by decide +kernel
theorem dJx4a65c_init_da8c8_11 : decode cJx4a65c_init_da8c8 11 = .ok (.return_, 1) := by decide +kernel
theorem dJx4a65c_grow_92f84_0 : decode cJx4a65c_grow_92f84 0 = .ok (.aload_n 0, 1) := by decide +kernel
theorem dJx4a65c_grow_92f84_1 : decode cJx4a65c_grow_92f84 1 = .ok (.getfield 9, 3) := by decide +kernel
theorem dJx4a65c_grow_92f84_4 : decode cJx4a65c_grow_92f84 4 = .ok (.arraylength, 1) := by decide +kernel
theorem dJx4a65c_grow_92f84_5 : decode cJx4a65c_grow_92f84 5 = .ok (.istore_n 2, 1) := by decide +kernel
theorem dJx4a65c_grow_92f84_6 : decode cJx4a65c_grow_92f84 6 = .ok (.iload_n 2, 1) := by decide +kernel
theorem dJx4a65c_grow_92f84_7 : decode cJx4a65c_grow_92f84 7 = .ok (.ifCond .gt 13, 3) := by decide +kernel
theorem dJx4a65c_grow_92f84_10 : decode cJx4a65c_grow_92f84 10 = .ok (.aload_n 0, 1) := by decide +kernel
theorem dJx4a65c_grow_92f84_11 : decode cJx4a65c_grow_92f84 11 = .ok (.getfield 9, 3) := by decide +kernel
theorem dJx4a65c_grow_92f84_14 : decode cJx4a65c_grow_92f84 14 = .ok (.getstatic 39, 3) := by decide +kernel
theorem dJx4a65c_grow_92f84_17 : decode cJx4a65c_grow_92f84 17 = .ok (.if_acmp .eq 28, 3) := by decide +kernel
theorem dJx4a65c_grow_92f84_20 : decode cJx4a65c_grow_92f84 20 = .ok (.iload_n 2, 1) := by decide +kernel
theorem dJx4a65c_grow_92f84_21 : decode cJx4a65c_grow_92f84 21 = .ok (.iload_n 1, 1) := by decide +kernel
theorem dJx4a65c_grow_92f84_22 : decode cJx4a65c_grow_92f84 22 = .ok (.iload_n 2, 1) := by decide +kernel
theorem dJx4a65c_grow_92f84_23 : decode cJx4a65c_grow_92f84 23 = .ok (.isub, 1) := by decide +kernel
theorem dJx4a65c_grow_92f84_24 : decode cJx4a65c_grow_92f84 24 = .ok (.iload_n 2, 1) := by decide +kernel
theorem dJx4a65c_grow_92f84_25 : decode cJx4a65c_grow_92f84 25 = .ok (.iconst 1, 1) := by decide +kernel
theorem dJx4a65c_grow_92f84_26 : decode cJx4a65c_grow_92f84 26 = .ok (.ishr, 1) := by decide +kernel
theorem dJx4a65c_grow_92f84_27 : decode cJx4a65c_grow_92f84 27 = .ok (.invokestatic 73, 3) := by decide +kernel
theorem dJx4a65c_grow_92f84_30 : decode cJx4a65c_grow_92f84 30 = .ok (.istore_n 3, 1) := by decide +kernel
theorem dJx4a65c_grow_92f84_31 : decode cJx4a65c_grow_92f84 31 = .ok (.aload_n 0, 1) := by decide +kernel
theorem dJx4a65c_grow_92f84_32 : decode cJx4a65c_grow_92f84 32 = .ok (.aload_n 0, 1) := by decide +kernel
theorem dJx4a65c_grow_92f84_33 : decode cJx4a65c_grow_92f84 33 = .ok (.getfield 9, 3) := by decide +kernel
theorem dJx4a65c_grow_92f84_36 : decode cJx4a65c_grow_92f84 36 = .ok (.iload_n 3, 1) := by decide +kernel
theorem dJx4a65c_grow_92f84_37 : decode cJx4a65c_grow_92f84 37 = .ok (.invokestatic 66, 3) := by decide +kernel
theorem dJx4a65c_grow_92f84_40 : decode cJx4a65c_grow_92f84 40 = .ok (.dup_x1, 1) := by decide +kernel
theorem dJx4a65c_grow_92f84_41 : decode cJx4a65c_grow_92f84 41 = .ok (.putfield 9, 3) := by decide +kernel
theorem dJx4a65c_grow_92f84_44 : decode cJx4a65c_grow_92f84 44 = .ok (.areturn, 1) := by decide +kernel
theorem dJx4a65c_grow_92f84_45 : decode cJx4a65c_grow_92f84 45 = .ok (.aload_n 0, 1) := by decide +kernel
theorem dJx4a65c_grow_92f84_46 : decode cJx4a65c_grow_92f84 46 = .ok (.bipush 10, 2) := by decide +kernel
theorem dJx4a65c_grow_92f84_48 : decode cJx4a65c_grow_92f84 48 = .ok (.iload_n 1, 1) := by decide +kernel
theorem dJx4a65c_grow_92f84_49 : decode cJx4a65c_grow_92f84 49 = .ok (.invokestatic 79, 3) := by decide +kernel
theorem dJx4a65c_grow_92f84_52 : decode cJx4a65c_grow_92f84 52 = .ok (.anewarray 7, 3) := by decide +kernel
theorem dJx4a65c_grow_92f84_55 : decode cJx4a65c_grow_92f84 55 = .ok (.dup_x1, 1) := by decide +kernel
theorem dJx4a65c_grow_92f84_56 : decode cJx4a65c_grow_92f84 56 = .ok (.putfield 9, 3) := by decide +kernel
theorem dJx4a65c_grow_92f84_59 : decode cJx4a65c_grow_92f84 59 = .ok (.areturn, 1) := by decide +kernel
theorem dJx4a65c_grow_d5877_0 : decode cJx4a65c_grow_d5877 0 = .ok (.aload_n 0, 1) := by decide +kernel
theorem dJx4a65c_grow_d5877_1 : decode cJx4a65c_grow_d5877 1 = .ok (.aload_n 0, 1) := by decide +kernel
theorem dJx4a65c_grow_d5877_2 : decode cJx4a65c_grow_d5877 2 = .ok (.getfield 48, 3) := by decide +kernel
theorem dJx4a65c_grow_d5877_5 : decode cJx4a65c_grow_d5877 5 = .ok (.iconst 1, 1) := by decide +kernel
theorem dJx4a65c_grow_d5877_6 : decode cJx4a65c_grow_d5877 6 = .ok (.iadd, 1) := by decide +kernel
theorem dJx4a65c_grow_d5877_7 : decode cJx4a65c_grow_d5877 7 = .ok (.invokevirtual 69, 3) := by decide +kernel
theorem dJx4a65c_grow_d5877_10 : decode cJx4a65c_grow_d5877 10 = .ok (.areturn, 1) := by decide +kernel
theorem dJx4a65c_size_8abf5_0 : decode cJx4a65c_size_8abf5 0 = .ok (.aload_n 0, 1) := by decide +kernel
theorem dJx4a65c_size_8abf5_1 : decode cJx4a65c_size_8abf5 1 = .ok (.getfield 48, 3) := by decide +kernel
theorem dJx4a65c_size_8abf5_4 : decode cJx4a65c_size_8abf5 4 = .ok (.ireturn, 1) := by decide +kernel
theorem dJx4a65c_elementData_915e3_0 : decode cJx4a65c_elementData_915e3 0 = .ok (.aload_n 0, 1) := by decide +kernel
theorem dJx4a65c_elementData_915e3_1 : decode cJx4a65c_elementData_915e3 1 = .ok (.getfield 9, 3) := by decide +kernel
theorem dJx4a65c_elementData_915e3_4 : decode cJx4a65c_elementData_915e3 4 = .ok (.iload_n 1, 1) := by decide +kernel
theorem dJx4a65c_elementData_915e3_5 : decode cJx4a65c_elementData_915e3 5 = .ok (.aaload, 1) := by decide +kernel
theorem dJx4a65c_elementData_915e3_6 : decode cJx4a65c_elementData_915e3 6 = .ok (.areturn, 1) := by decide +kernel
theorem dJx4a65c_get_915e3_0 : decode cJx4a65c_get_915e3 0 = .ok (.iload_n 1, 1) := by decide +kernel
theorem dJx4a65c_get_915e3_1 : decode cJx4a65c_get_915e3 1 = .ok (.aload_n 0, 1) := by decide +kernel
theorem dJx4a65c_get_915e3_2 : decode cJx4a65c_get_915e3 2 = .ok (.getfield 48, 3) := by decide +kernel
theorem dJx4a65c_get_915e3_5 : decode cJx4a65c_get_915e3 5 = .ok (.invokestatic 118, 3) := by decide +kernel
theorem dJx4a65c_get_915e3_8 : decode cJx4a65c_get_915e3 8 = .ok (.pop, 1) := by decide +kernel
theorem dJx4a65c_get_915e3_9 : decode cJx4a65c_get_915e3 9 = .ok (.aload_n 0, 1) := by decide +kernel
theorem dJx4a65c_get_915e3_10 : decode cJx4a65c_get_915e3 10 = .ok (.iload_n 1, 1) := by decide +kernel
theorem dJx4a65c_get_915e3_11 : decode cJx4a65c_get_915e3 11 = .ok (.invokevirtual 123, 3) := by decide +kernel
theorem dJx4a65c_get_915e3_14 : decode cJx4a65c_get_915e3 14 = .ok (.areturn, 1) := by decide +kernel
theorem dJx4a65c_add_72be8_0 : decode cJx4a65c_add_72be8 0 = .ok (.iload_n 3, 1) := by decide +kernel
theorem dJx4a65c_add_72be8_1 : decode cJx4a65c_add_72be8 1 = .ok (.aload_n 2, 1) := by decide +kernel
theorem dJx4a65c_add_72be8_2 : decode cJx4a65c_add_72be8 2 = .ok (.arraylength, 1) := by decide +kernel
theorem dJx4a65c_add_72be8_3 : decode cJx4a65c_add_72be8 3 = .ok (.if_icmp .ne 8, 3) := by decide +kernel
theorem dJx4a65c_add_72be8_6 : decode cJx4a65c_add_72be8 6 = .ok (.aload_n 0, 1) := by decide +kernel
theorem dJx4a65c_add_72be8_7 : decode cJx4a65c_add_72be8 7 = .ok (.invokevirtual 129, 3) := by decide +kernel
theorem dJx4a65c_add_72be8_10 : decode cJx4a65c_add_72be8 10 = .ok (.astore_n 2, 1) := by decide +kernel
theorem dJx4a65c_add_72be8_11 : decode cJx4a65c_add_72be8 11 = .ok (.aload_n 2, 1) := by decide +kernel
theorem dJx4a65c_add_72be8_12 : decode cJx4a65c_add_72be8 12 = .ok (.iload_n 3, 1) := by decide +kernel
theorem dJx4a65c_add_72be8_13 : decode cJx4a65c_add_72be8 13 = .ok (.aload_n 1, 1) := by decide +kernel
theorem dJx4a65c_add_72be8_14 : decode cJx4a65c_add_72be8 14 = .ok (.aastore, 1) := by decide +kernel
theorem dJx4a65c_add_72be8_15 : decode cJx4a65c_add_72be8 15 = .ok (.aload_n 0, 1) := by decide +kernel
theorem dJx4a65c_add_72be8_16 : decode cJx4a65c_add_72be8 16 = .ok (.iload_n 3, 1) := by decide +kernel
theorem dJx4a65c_add_72be8_17 : decode cJx4a65c_add_72be8 17 = .ok (.iconst 1, 1) := by decide +kernel
theorem dJx4a65c_add_72be8_18 : decode cJx4a65c_add_72be8 18 = .ok (.iadd, 1) := by decide +kernel
theorem dJx4a65c_add_72be8_19 : decode cJx4a65c_add_72be8 19 = .ok (.putfield 48, 3) := by decide +kernel
theorem dJx4a65c_add_72be8_22 : decode cJx4a65c_add_72be8 22 = .ok (.return_, 1) := by decide +kernel
theorem dJx4a65c_add_9ea2d_0 : decode cJx4a65c_add_9ea2d 0 = .ok (.aload_n 0, 1) := by decide +kernel
theorem dJx4a65c_add_9ea2d_1 : decode cJx4a65c_add_9ea2d 1 = .ok (.dup, 1) := by decide +kernel
theorem dJx4a65c_add_9ea2d_2 : decode cJx4a65c_add_9ea2d 2 = .ok (.getfield 63, 3) := by decide +kernel
theorem dJx4a65c_add_9ea2d_5 : decode cJx4a65c_add_9ea2d 5 = .ok (.iconst 1, 1) := by decide +kernel
theorem dJx4a65c_add_9ea2d_6 : decode cJx4a65c_add_9ea2d 6 = .ok (.iadd, 1) := by decide +kernel
theorem dJx4a65c_add_9ea2d_7 : decode cJx4a65c_add_9ea2d 7 = .ok (.putfield 63, 3) := by decide +kernel
theorem dJx4a65c_add_9ea2d_10 : decode cJx4a65c_add_9ea2d 10 = .ok (.aload_n 0, 1) := by decide +kernel
theorem dJx4a65c_add_9ea2d_11 : decode cJx4a65c_add_9ea2d 11 = .ok (.aload_n 1, 1) := by decide +kernel
theorem dJx4a65c_add_9ea2d_12 : decode cJx4a65c_add_9ea2d 12 = .ok (.aload_n 0, 1) := by decide +kernel
theorem dJx4a65c_add_9ea2d_13 : decode cJx4a65c_add_9ea2d 13 = .ok (.getfield 9, 3) := by decide +kernel
theorem dJx4a65c_add_9ea2d_16 : decode cJx4a65c_add_9ea2d 16 = .ok (.aload_n 0, 1) := by decide +kernel
theorem dJx4a65c_add_9ea2d_17 : decode cJx4a65c_add_9ea2d 17 = .ok (.getfield 48, 3) := by decide +kernel
theorem dJx4a65c_add_9ea2d_20 : decode cJx4a65c_add_9ea2d 20 = .ok (.invokevirtual 131, 3) := by decide +kernel
theorem dJx4a65c_add_9ea2d_23 : decode cJx4a65c_add_9ea2d 23 = .ok (.iconst 1, 1) := by decide +kernel
theorem dJx4a65c_add_9ea2d_24 : decode cJx4a65c_add_9ea2d 24 = .ok (.ireturn, 1) := by decide +kernel
theorem dJx4a65c_add_7a177_0 : decode cJx4a65c_add_7a177 0 = .ok (.aload_n 0, 1) := by decide +kernel
theorem dJx4a65c_add_7a177_1 : decode cJx4a65c_add_7a177 1 = .ok (.iload_n 1, 1) := by decide +kernel
theorem dJx4a65c_add_7a177_2 : decode cJx4a65c_add_7a177 2 = .ok (.invokevirtual 135, 3) := by decide +kernel
theorem dJx4a65c_add_7a177_5 : decode cJx4a65c_add_7a177 5 = .ok (.aload_n 0, 1) := by decide +kernel
theorem dJx4a65c_add_7a177_6 : decode cJx4a65c_add_7a177 6 = .ok (.dup, 1) := by decide +kernel
theorem dJx4a65c_add_7a177_7 : decode cJx4a65c_add_7a177 7 = .ok (.getfield 63, 3) := by decide +kernel
theorem dJx4a65c_add_7a177_10 : decode cJx4a65c_add_7a177 10 = .ok (.iconst 1, 1) := by decide +kernel
theorem dJx4a65c_add_7a177_11 : decode cJx4a65c_add_7a177 11 = .ok (.iadd, 1) := by decide +kernel
theorem dJx4a65c_add_7a177_12 : decode cJx4a65c_add_7a177 12 = .ok (.putfield 63, 3) := by decide +kernel
theorem dJx4a65c_add_7a177_15 : decode cJx4a65c_add_7a177 15 = .ok (.aload_n 0, 1) := by decide +kernel
theorem dJx4a65c_add_7a177_16 : decode cJx4a65c_add_7a177 16 = .ok (.getfield 48, 3) := by decide +kernel
theorem dJx4a65c_add_7a177_19 : decode cJx4a65c_add_7a177 19 = .ok (.dup, 1) := by decide +kernel
theorem dJx4a65c_add_7a177_20 : decode cJx4a65c_add_7a177 20 = .ok (.istore_n 3, 1) := by decide +kernel
theorem dJx4a65c_add_7a177_21 : decode cJx4a65c_add_7a177 21 = .ok (.aload_n 0, 1) := by decide +kernel
theorem dJx4a65c_add_7a177_22 : decode cJx4a65c_add_7a177 22 = .ok (.getfield 9, 3) := by decide +kernel
theorem dJx4a65c_add_7a177_25 : decode cJx4a65c_add_7a177 25 = .ok (.dup, 1) := by decide +kernel
theorem dJx4a65c_add_7a177_26 : decode cJx4a65c_add_7a177 26 = .ok (.astore 4, 2) := by decide +kernel
theorem dJx4a65c_add_7a177_28 : decode cJx4a65c_add_7a177 28 = .ok (.arraylength, 1) := by decide +kernel
theorem dJx4a65c_add_7a177_29 : decode cJx4a65c_add_7a177 29 = .ok (.if_icmp .ne 9, 3) := by decide +kernel
theorem dJx4a65c_add_7a177_32 : decode cJx4a65c_add_7a177 32 = .ok (.aload_n 0, 1) := by decide +kernel
theorem dJx4a65c_add_7a177_33 : decode cJx4a65c_add_7a177 33 = .ok (.invokevirtual 129, 3) := by decide +kernel
theorem dJx4a65c_add_7a177_36 : decode cJx4a65c_add_7a177 36 = .ok (.astore 4, 2) := by decide +kernel
theorem dJx4a65c_add_7a177_38 : decode cJx4a65c_add_7a177 38 = .ok (.aload 4, 2) := by decide +kernel
theorem dJx4a65c_add_7a177_40 : decode cJx4a65c_add_7a177 40 = .ok (.iload_n 1, 1) := by decide +kernel
theorem dJx4a65c_add_7a177_41 : decode cJx4a65c_add_7a177 41 = .ok (.aload 4, 2) := by decide +kernel
theorem dJx4a65c_add_7a177_43 : decode cJx4a65c_add_7a177 43 = .ok (.iload_n 1, 1) := by decide +kernel
theorem dJx4a65c_add_7a177_44 : decode cJx4a65c_add_7a177 44 = .ok (.iconst 1, 1) := by decide +kernel
theorem dJx4a65c_add_7a177_45 : decode cJx4a65c_add_7a177 45 = .ok (.iadd, 1) := by decide +kernel
theorem dJx4a65c_add_7a177_46 : decode cJx4a65c_add_7a177 46 = .ok (.iload_n 3, 1) := by decide +kernel
theorem dJx4a65c_add_7a177_47 : decode cJx4a65c_add_7a177 47 = .ok (.iload_n 1, 1) := by decide +kernel
theorem dJx4a65c_add_7a177_48 : decode cJx4a65c_add_7a177 48 = .ok (.isub, 1) := by decide +kernel
theorem dJx4a65c_add_7a177_49 : decode cJx4a65c_add_7a177 49 = .ok (.invokestatic 112, 3) := by decide +kernel
theorem dJx4a65c_add_7a177_52 : decode cJx4a65c_add_7a177 52 = .ok (.aload 4, 2) := by decide +kernel
theorem dJx4a65c_add_7a177_54 : decode cJx4a65c_add_7a177 54 = .ok (.iload_n 1, 1) := by decide +kernel
theorem dJx4a65c_add_7a177_55 : decode cJx4a65c_add_7a177 55 = .ok (.aload_n 2, 1) := by decide +kernel
theorem dJx4a65c_add_7a177_56 : decode cJx4a65c_add_7a177 56 = .ok (.aastore, 1) := by decide +kernel
theorem dJx4a65c_add_7a177_57 : decode cJx4a65c_add_7a177 57 = .ok (.aload_n 0, 1) := by decide +kernel
theorem dJx4a65c_add_7a177_58 : decode cJx4a65c_add_7a177 58 = .ok (.iload_n 3, 1) := by decide +kernel
theorem dJx4a65c_add_7a177_59 : decode cJx4a65c_add_7a177 59 = .ok (.iconst 1, 1) := by decide +kernel
theorem dJx4a65c_add_7a177_60 : decode cJx4a65c_add_7a177 60 = .ok (.iadd, 1) := by decide +kernel
theorem dJx4a65c_add_7a177_61 : decode cJx4a65c_add_7a177 61 = .ok (.putfield 48, 3) := by decide +kernel
theorem dJx4a65c_add_7a177_64 : decode cJx4a65c_add_7a177 64 = .ok (.return_, 1) := by decide +kernel
theorem dJx4a65c_remove_915e3_0 : decode cJx4a65c_remove_915e3 0 = .ok (.iload_n 1, 1) := by decide +kernel
theorem dJx4a65c_remove_915e3_1 : decode cJx4a65c_remove_915e3 1 = .ok (.aload_n 0, 1) := by decide +kernel
theorem dJx4a65c_remove_915e3_2 : decode cJx4a65c_remove_915e3 2 = .ok (.getfield 48, 3) := by decide +kernel
theorem dJx4a65c_remove_915e3_5 : decode cJx4a65c_remove_915e3 5 = .ok (.invokestatic 118, 3) := by decide +kernel
theorem dJx4a65c_remove_915e3_8 : decode cJx4a65c_remove_915e3 8 = .ok (.pop, 1) := by decide +kernel
theorem dJx4a65c_remove_915e3_9 : decode cJx4a65c_remove_915e3 9 = .ok (.aload_n 0, 1) := by decide +kernel
theorem dJx4a65c_remove_915e3_10 : decode cJx4a65c_remove_915e3 10 = .ok (.getfield 9, 3) := by decide +kernel
theorem dJx4a65c_remove_915e3_13 : decode cJx4a65c_remove_915e3 13 = .ok (.astore_n 2, 1) := by decide +kernel
theorem dJx4a65c_remove_915e3_14 : decode cJx4a65c_remove_915e3 14 = .ok (.aload_n 2, 1) := by decide +kernel
theorem dJx4a65c_remove_915e3_15 : decode cJx4a65c_remove_915e3 15 = .ok (.iload_n 1, 1) := by decide +kernel
theorem dJx4a65c_remove_915e3_16 : decode cJx4a65c_remove_915e3 16 = .ok (.aaload, 1) := by decide +kernel
theorem dJx4a65c_remove_915e3_17 : decode cJx4a65c_remove_915e3 17 = .ok (.astore_n 3, 1) := by decide +kernel
theorem dJx4a65c_remove_915e3_18 : decode cJx4a65c_remove_915e3 18 = .ok (.aload_n 0, 1) := by decide +kernel
theorem dJx4a65c_remove_915e3_19 : decode cJx4a65c_remove_915e3 19 = .ok (.aload_n 2, 1) := by decide +kernel
theorem dJx4a65c_remove_915e3_20 : decode cJx4a65c_remove_915e3 20 = .ok (.iload_n 1, 1) := by decide +kernel
theorem dJx4a65c_remove_915e3_21 : decode cJx4a65c_remove_915e3 21 = .ok (.invokevirtual 144, 3) := by decide +kernel
theorem dJx4a65c_remove_915e3_24 : decode cJx4a65c_remove_915e3 24 = .ok (.aload_n 3, 1) := by decide +kernel
theorem dJx4a65c_remove_915e3_25 : decode cJx4a65c_remove_915e3 25 = .ok (.areturn, 1) := by decide +kernel
theorem dJx4a65c_fastRemove_b59b0_0 : decode cJx4a65c_fastRemove_b59b0 0 = .ok (.aload_n 0, 1) := by decide +kernel
theorem dJx4a65c_fastRemove_b59b0_1 : decode cJx4a65c_fastRemove_b59b0 1 = .ok (.dup, 1) := by decide +kernel
theorem dJx4a65c_fastRemove_b59b0_2 : decode cJx4a65c_fastRemove_b59b0 2 = .ok (.getfield 63, 3) := by decide +kernel
theorem dJx4a65c_fastRemove_b59b0_5 : decode cJx4a65c_fastRemove_b59b0 5 = .ok (.iconst 1, 1) := by decide +kernel
theorem dJx4a65c_fastRemove_b59b0_6 : decode cJx4a65c_fastRemove_b59b0 6 = .ok (.iadd, 1) := by decide +kernel
theorem dJx4a65c_fastRemove_b59b0_7 : decode cJx4a65c_fastRemove_b59b0 7 = .ok (.putfield 63, 3) := by decide +kernel
theorem dJx4a65c_fastRemove_b59b0_10 : decode cJx4a65c_fastRemove_b59b0 10 = .ok (.aload_n 0, 1) := by decide +kernel
theorem dJx4a65c_fastRemove_b59b0_11 : decode cJx4a65c_fastRemove_b59b0 11 = .ok (.getfield 48, 3) := by decide +kernel
theorem dJx4a65c_fastRemove_b59b0_14 : decode cJx4a65c_fastRemove_b59b0 14 = .ok (.iconst 1, 1) := by decide +kernel
theorem dJx4a65c_fastRemove_b59b0_15 : decode cJx4a65c_fastRemove_b59b0 15 = .ok (.isub, 1) := by decide +kernel
theorem dJx4a65c_fastRemove_b59b0_16 : decode cJx4a65c_fastRemove_b59b0 16 = .ok (.dup, 1) := by decide +kernel
theorem dJx4a65c_fastRemove_b59b0_17 : decode cJx4a65c_fastRemove_b59b0 17 = .ok (.istore_n 3, 1) := by decide +kernel
theorem dJx4a65c_fastRemove_b59b0_18 : decode cJx4a65c_fastRemove_b59b0 18 = .ok (.iload_n 2, 1) := by decide +kernel
theorem dJx4a65c_fastRemove_b59b0_19 : decode cJx4a65c_fastRemove_b59b0 19 = .ok (.if_icmp .le 15, 3) := by decide +kernel
theorem dJx4a65c_fastRemove_b59b0_22 : decode cJx4a65c_fastRemove_b59b0 22 = .ok (.aload_n 1, 1) := by decide +kernel
theorem dJx4a65c_fastRemove_b59b0_23 : decode cJx4a65c_fastRemove_b59b0 23 = .ok (.iload_n 2, 1) := by decide +kernel
theorem dJx4a65c_fastRemove_b59b0_24 : decode cJx4a65c_fastRemove_b59b0 24 = .ok (.iconst 1, 1) := by decide +kernel
theorem dJx4a65c_fastRemove_b59b0_25 : decode cJx4a65c_fastRemove_b59b0 25 = .ok (.iadd, 1) := by decide +kernel
theorem dJx4a65c_fastRemove_b59b0_26 : decode cJx4a65c_fastRemove_b59b0 26 = .ok (.aload_n 1, 1) := by decide +kernel
theorem dJx4a65c_fastRemove_b59b0_27 : decode cJx4a65c_fastRemove_b59b0 27 = .ok (.iload_n 2, 1) := by decide +kernel
theorem dJx4a65c_fastRemove_b59b0_28 : decode cJx4a65c_fastRemove_b59b0 28 = .ok (.iload_n 3, 1) := by decide +kernel
theorem dJx4a65c_fastRemove_b59b0_29 : decode cJx4a65c_fastRemove_b59b0 29 = .ok (.iload_n 2, 1) := by decide +kernel
theorem dJx4a65c_fastRemove_b59b0_30 : decode cJx4a65c_fastRemove_b59b0 30 = .ok (.isub, 1) := by decide +kernel
theorem dJx4a65c_fastRemove_b59b0_31 : decode cJx4a65c_fastRemove_b59b0 31 = .ok (.invokestatic 112, 3) := by decide +kernel
theorem dJx4a65c_fastRemove_b59b0_34 : decode cJx4a65c_fastRemove_b59b0 34 = .ok (.aload_n 1, 1) := by decide +kernel
theorem dJx4a65c_fastRemove_b59b0_35 : decode cJx4a65c_fastRemove_b59b0 35 = .ok (.aload_n 0, 1) := by decide +kernel
theorem dJx4a65c_fastRemove_b59b0_36 : decode cJx4a65c_fastRemove_b59b0 36 = .ok (.iload_n 3, 1) := by decide +kernel
theorem dJx4a65c_fastRemove_b59b0_37 : decode cJx4a65c_fastRemove_b59b0 37 = .ok (.dup_x1, 1) := by decide +kernel
theorem dJx4a65c_fastRemove_b59b0_38 : decode cJx4a65c_fastRemove_b59b0 38 = .ok (.putfield 48, 3) := by decide +kernel
theorem dJx4a65c_fastRemove_b59b0_41 : decode cJx4a65c_fastRemove_b59b0 41 = .ok (.aconst_null, 1) := by decide +kernel
theorem dJx4a65c_fastRemove_b59b0_42 : decode cJx4a65c_fastRemove_b59b0 42 = .ok (.aastore, 1) := by decide +kernel
theorem dJx4a65c_fastRemove_b59b0_43 : decode cJx4a65c_fastRemove_b59b0 43 = .ok (.return_, 1) := by decide +kernel
theorem dJx4a65c_rangeCheckForAdd_d00df_0 : decode cJx4a65c_rangeCheckForAdd_d00df 0 = .ok (.iload_n 1, 1) := by decide +kernel
theorem dJx4a65c_rangeCheckForAdd_d00df_1 : decode cJx4a65c_rangeCheckForAdd_d00df 1 = .ok (.aload_n 0, 1) := by decide +kernel
theorem dJx4a65c_rangeCheckForAdd_d00df_2 : decode cJx4a65c_rangeCheckForAdd_d00df 2 = .ok (.getfield 48, 3) := by decide +kernel
theorem dJx4a65c_rangeCheckForAdd_d00df_5 : decode cJx4a65c_rangeCheckForAdd_d00df 5 = .ok (.if_icmp .gt 7, 3) := by decide +kernel
theorem dJx4a65c_rangeCheckForAdd_d00df_8 : decode cJx4a65c_rangeCheckForAdd_d00df 8 = .ok (.iload_n 1, 1) := by decide +kernel
theorem dJx4a65c_rangeCheckForAdd_d00df_9 : decode cJx4a65c_rangeCheckForAdd_d00df 9 = .ok (.ifCond .ge 16, 3) := by decide +kernel
theorem dJx4a65c_rangeCheckForAdd_d00df_12 : decode cJx4a65c_rangeCheckForAdd_d00df 12 = .ok (.new 187, 3) := by decide +kernel
theorem dJx4a65c_rangeCheckForAdd_d00df_15 : decode cJx4a65c_rangeCheckForAdd_d00df 15 = .ok (.dup, 1) := by decide +kernel
theorem dJx4a65c_rangeCheckForAdd_d00df_16 : decode cJx4a65c_rangeCheckForAdd_d00df 16 = .ok (.aload_n 0, 1) := by decide +kernel
theorem dJx4a65c_rangeCheckForAdd_d00df_17 : decode cJx4a65c_rangeCheckForAdd_d00df 17 = .ok (.iload_n 1, 1) := by decide +kernel
theorem dJx4a65c_rangeCheckForAdd_d00df_18 : decode cJx4a65c_rangeCheckForAdd_d00df 18 = .ok (.invokevirtual 198, 3) := by decide +kernel
theorem dJx4a65c_rangeCheckForAdd_d00df_21 : decode cJx4a65c_rangeCheckForAdd_d00df 21 = .ok (.invokespecial 193, 3) := by decide +kernel
theorem dJx4a65c_rangeCheckForAdd_d00df_24 : decode cJx4a65c_rangeCheckForAdd_d00df 24 = .ok (.athrow, 1) := by decide +kernel
theorem dJx4a65c_rangeCheckForAdd_d00df_25 : decode cJx4a65c_rangeCheckForAdd_d00df 25 = .ok (.return_, 1) := by decide +kernel
theorem dJ7_copyOf_1904c_0 : decode cJ7_copyOf_1904c 0 = .ok (.aload_n 0, 1) := by decide +kernel
theorem dJ7_copyOf_1904c_1 : decode cJ7_copyOf_1904c 1 = .ok (.iload_n 1, 1) := by decide +kernel
theorem dJ7_copyOf_1904c_2 : decode cJ7_copyOf_1904c 2 = .ok (.aload_n 0, 1) := by decide +kernel
theorem dJ7_copyOf_1904c_3 : decode cJ7_copyOf_1904c 3 = .ok (.invokevirtual 86, 3) := by decide +kernel
theorem dJ7_copyOf_1904c_6 : decode cJ7_copyOf_1904c 6 = .ok (.invokestatic 300, 3) := by decide +kernel
theorem dJ7_copyOf_1904c_9 : decode cJ7_copyOf_1904c 9 = .ok (.areturn, 1) := by decide +kernel
theorem dJ7_copyOf_6403c_0 : decode cJ7_copyOf_6403c 0 = .ok (.aload_n 2, 1) := by decide +kernel
theorem dJ7_copyOf_6403c_1 : decode cJ7_copyOf_6403c 1 = .ok (.ldc 110, 2) := by decide +kernel
theorem dJ7_copyOf_6403c_3 : decode cJ7_copyOf_6403c 3 = .ok (.if_acmp .ne 10, 3) := by decide +kernel
theorem dJ7_copyOf_6403c_6 : decode cJ7_copyOf_6403c 6 = .ok (.iload_n 1, 1) := by decide +kernel
theorem dJ7_copyOf_6403c_7 : decode cJ7_copyOf_6403c 7 = .ok (.anewarray 2, 3) := by decide +kernel
theorem dJ7_copyOf_6403c_10 : decode cJ7_copyOf_6403c 10 = .ok (.goto 14, 3) := by decide +kernel
theorem dJ7_copyOf_6403c_13 : decode cJ7_copyOf_6403c 13 = .ok (.aload_n 2, 1) := by decide +kernel
theorem dJ7_copyOf_6403c_14 : decode cJ7_copyOf_6403c 14 = .ok (.invokevirtual 90, 3) := by decide +kernel
theorem dJ7_copyOf_6403c_17 : decode cJ7_copyOf_6403c 17 = .ok (.iload_n 1, 1) := by decide +kernel
theorem dJ7_copyOf_6403c_18 : decode cJ7_copyOf_6403c 18 = .ok (.invokestatic 95, 3) := by decide +kernel
theorem dJ7_copyOf_6403c_21 : decode cJ7_copyOf_6403c 21 = .ok (.checkcast 110, 3) := by decide +kernel
theorem dJ7_copyOf_6403c_24 : decode cJ7_copyOf_6403c 24 = .ok (.astore_n 3, 1) := by decide +kernel
theorem dJ7_copyOf_6403c_25 : decode cJ7_copyOf_6403c 25 = .ok (.aload_n 0, 1) := by decide +kernel
theorem dJ7_copyOf_6403c_26 : decode cJ7_copyOf_6403c 26 = .ok (.iconst 0, 1) := by decide +kernel
theorem dJ7_copyOf_6403c_27 : decode cJ7_copyOf_6403c 27 = .ok (.aload_n 3, 1) := by decide +kernel
theorem dJ7_copyOf_6403c_28 : decode cJ7_copyOf_6403c 28 = .ok (.iconst 0, 1) := by decide +kernel
theorem dJ7_copyOf_6403c_29 : decode cJ7_copyOf_6403c 29 = .ok (.aload_n 0, 1) := by decide +kernel
theorem dJ7_copyOf_6403c_30 : decode cJ7_copyOf_6403c 30 = .ok (.arraylength, 1) := by decide +kernel
theorem dJ7_copyOf_6403c_31 : decode cJ7_copyOf_6403c 31 = .ok (.iload_n 1, 1) := by decide +kernel
theorem dJ7_copyOf_6403c_32 : decode cJ7_copyOf_6403c 32 = .ok (.invokestatic 304, 3) := by decide +kernel
theorem dJ7_copyOf_6403c_35 : decode cJ7_copyOf_6403c 35 = .ok (.invokestatic 150, 3) := by decide +kernel
theorem dJ7_copyOf_6403c_38 : decode cJ7_copyOf_6403c 38 = .ok (.aload_n 3, 1) := by decide +kernel
theorem dJ7_copyOf_6403c_39 : decode cJ7_copyOf_6403c 39 = .ok (.areturn, 1) := by decide +kernel
theorem dJ15_checkIndex_7cf53_0 : decode cJ15_checkIndex_7cf53 0 = .ok (.iload_n 0, 1) := by decide +kernel
theorem dJ15_checkIndex_7cf53_1 : decode cJ15_checkIndex_7cf53 1 = .ok (.iload_n 1, 1) := by decide +kernel
theorem dJ15_checkIndex_7cf53_2 : decode cJ15_checkIndex_7cf53 2 = .ok (.aconst_null, 1) := by decide +kernel
theorem dJ15_checkIndex_7cf53_3 : decode cJ15_checkIndex_7cf53 3 = .ok (.invokestatic 105, 3) := by decide +kernel
theorem dJ15_checkIndex_7cf53_6 : decode cJ15_checkIndex_7cf53 6 = .ok (.ireturn, 1) := by decide +kernel
theorem dJ8_newLength_cabcc_0 : decode cJ8_newLength_cabcc 0 = .ok (.iload_n 0, 1) := by decide +kernel
theorem dJ8_newLength_cabcc_1 : decode cJ8_newLength_cabcc 1 = .ok (.iload_n 1, 1) := by decide +kernel
theorem dJ8_newLength_cabcc_2 : decode cJ8_newLength_cabcc 2 = .ok (.iload_n 2, 1) := by decide +kernel
theorem dJ8_newLength_cabcc_3 : decode cJ8_newLength_cabcc 3 = .ok (.invokestatic 194, 3) := by decide +kernel
theorem dJ8_newLength_cabcc_6 : decode cJ8_newLength_cabcc 6 = .ok (.iadd, 1) := by decide +kernel
theorem dJ8_newLength_cabcc_7 : decode cJ8_newLength_cabcc 7 = .ok (.istore_n 3, 1) := by decide +kernel
theorem dJ8_newLength_cabcc_8 : decode cJ8_newLength_cabcc 8 = .ok (.iconst 0, 1) := by decide +kernel
theorem dJ8_newLength_cabcc_9 : decode cJ8_newLength_cabcc 9 = .ok (.iload_n 3, 1) := by decide +kernel
theorem dJ8_newLength_cabcc_10 : decode cJ8_newLength_cabcc 10 = .ok (.if_icmp .ge 11, 3) := by decide +kernel
theorem dJ8_newLength_cabcc_13 : decode cJ8_newLength_cabcc 13 = .ok (.iload_n 3, 1) := by decide +kernel
theorem dJ8_newLength_cabcc_14 : decode cJ8_newLength_cabcc 14 = .ok (.ldc 200, 2) := by decide +kernel
theorem dJ8_newLength_cabcc_16 : decode cJ8_newLength_cabcc 16 = .ok (.if_icmp .gt 5, 3) := by decide +kernel
theorem dJ8_newLength_cabcc_19 : decode cJ8_newLength_cabcc 19 = .ok (.iload_n 3, 1) := by decide +kernel
theorem dJ8_newLength_cabcc_20 : decode cJ8_newLength_cabcc 20 = .ok (.ireturn, 1) := by decide +kernel
theorem dJ8_newLength_cabcc_21 : decode cJ8_newLength_cabcc 21 = .ok (.iload_n 0, 1) := by decide +kernel
theorem dJ8_newLength_cabcc_22 : decode cJ8_newLength_cabcc 22 = .ok (.iload_n 1, 1) := by decide +kernel
theorem dJ8_newLength_cabcc_23 : decode cJ8_newLength_cabcc 23 = .ok (.invokestatic 201, 3) := by decide +kernel
theorem dJ8_newLength_cabcc_26 : decode cJ8_newLength_cabcc 26 = .ok (.ireturn, 1) := by decide +kernel
theorem dJ3_checkIndex_8e157_0 : decode cJ3_checkIndex_8e157 0 = .ok (.iload_n 0, 1) := by decide +kernel
theorem dJ3_checkIndex_8e157_1 : decode cJ3_checkIndex_8e157 1 = .ok (.ifCond .lt 8, 3) := by decide +kernel
theorem dJ3_checkIndex_8e157_4 : decode cJ3_checkIndex_8e157 4 = .ok (.iload_n 0, 1) := by decide +kernel
theorem dJ3_checkIndex_8e157_5 : decode cJ3_checkIndex_8e157 5 = .ok (.iload_n 1, 1) := by decide +kernel
theorem dJ3_checkIndex_8e157_6 : decode cJ3_checkIndex_8e157 6 = .ok (.if_icmp .lt 10, 3) := by decide +kernel
theorem dJ3_checkIndex_8e157_9 : decode cJ3_checkIndex_8e157 9 = .ok (.aload_n 2, 1) := by decide +kernel
theorem dJ3_checkIndex_8e157_10 : decode cJ3_checkIndex_8e157 10 = .ok (.iload_n 0, 1) := by decide +kernel
theorem dJ3_checkIndex_8e157_11 : decode cJ3_checkIndex_8e157 11 = .ok (.iload_n 1, 1) := by decide +kernel
theorem dJ3_checkIndex_8e157_12 : decode cJ3_checkIndex_8e157 12 = .ok (.invokestatic 95, 3) := by decide +kernel
theorem dJ3_checkIndex_8e157_15 : decode cJ3_checkIndex_8e157 15 = .ok (.athrow, 1) := by decide +kernel
theorem dJ3_checkIndex_8e157_16 : decode cJ3_checkIndex_8e157 16 = .ok (.iload_n 0, 1) := by decide +kernel
theorem dJ3_checkIndex_8e157_17 : decode cJ3_checkIndex_8e157 17 = .ok (.ireturn, 1) := by decide +kernel
theorem dL_at_0 : decode cL_at 0 = .ok (.iload_n 1, 1) := by decide +kernel
theorem dL_at_1 : decode cL_at 1 = .ok (.aload_n 0, 1) := by decide +kernel
theorem dL_at_2 : decode cL_at 2 = .ok (.arraylength, 1) := by decide +kernel
theorem dL_at_3 : decode cL_at 3 = .ok (.if_icmp .ge 9, 3) := by decide +kernel
theorem dL_at_6 : decode cL_at 6 = .ok (.aload_n 0, 1) := by decide +kernel
theorem dL_at_7 : decode cL_at 7 = .ok (.iload_n 1, 1) := by decide +kernel
theorem dL_at_8 : decode cL_at 8 = .ok (.iaload, 1) := by decide +kernel
theorem dL_at_9 : decode cL_at 9 = .ok (.goto 12, 3) := by decide +kernel
theorem dL_at_12 : decode cL_at 12 = .ok (.ldc 7, 2) := by decide +kernel
theorem dL_at_14 : decode cL_at 14 = .ok (.iload_n 1, 1) := by decide +kernel
theorem dL_at_15 : decode cL_at 15 = .ok (.iconst 1, 1) := by decide +kernel
theorem dL_at_16 : decode cL_at 16 = .ok (.iadd, 1) := by decide +kernel
theorem dL_at_17 : decode cL_at 17 = .ok (.imul, 1) := by decide +kernel
theorem dL_at_18 : decode cL_at 18 = .ok (.ldc 8, 2) := by decide +kernel
theorem dL_at_20 : decode cL_at 20 = .ok (.iadd, 1) := by decide +kernel
theorem dL_at_21 : decode cL_at 21 = .ok (.ireturn, 1) := by decide +kernel
theorem dL_low_0 : decode cL_low 0 = .ok (.iload_n 0, 1) := by decide +kernel
theorem dL_low_1 : decode cL_low 1 = .ok (.ldc 9, 2) := by decide +kernel
theorem dL_low_3 : decode cL_low 3 = .ok (.iand, 1) := by decide +kernel
theorem dL_low_4 : decode cL_low 4 = .ok (.iload_n 1, 1) := by decide +kernel
theorem dL_low_5 : decode cL_low 5 = .ok (.irem, 1) := by decide +kernel
theorem dL_low_6 : decode cL_low 6 = .ok (.ireturn, 1) := by decide +kernel
theorem dL_pass_0 : decode cL_pass 0 = .ok (.aload_n 0, 1) := by decide +kernel
theorem dL_pass_1 : decode cL_pass 1 = .ok (.iload_n 1, 1) := by decide +kernel
theorem dL_pass_2 : decode cL_pass 2 = .ok (.invokevirtual 10, 3) := by decide +kernel
theorem dL_pass_5 : decode cL_pass 5 = .ok (.ireturn, 1) := by decide +kernel
theorem dL_pass_6 : decode cL_pass 6 = .ok (.astore_n 2, 1) := by decide +kernel
theorem dL_pass_7 : decode cL_pass 7 = .ok (.ldc 18, 2) := by decide +kernel
theorem dL_pass_9 : decode cL_pass 9 = .ok (.ireturn, 1) := by decide +kernel
theorem dL_pass_10 : decode cL_pass 10 = .ok (.astore_n 2, 1) := by decide +kernel
theorem dL_pass_11 : decode cL_pass 11 = .ok (.ldc 21, 2) := by decide +kernel
theorem dL_pass_13 : decode cL_pass 13 = .ok (.ireturn, 1) := by decide +kernel
theorem dL_addAccount_0 : decode cL_addAccount 0 = .ok (.aload_n 0, 1) := by decide +kernel
theorem dL_addAccount_1 : decode cL_addAccount 1 = .ok (.iload_n 1, 1) := by decide +kernel
theorem dL_addAccount_2 : decode cL_addAccount 2 = .ok (.iload_n 2, 1) := by decide +kernel
theorem dL_addAccount_3 : decode cL_addAccount 3 = .ok (.iload_n 3, 1) := by decide +kernel
theorem dL_addAccount_4 : decode cL_addAccount 4 = .ok (.invokevirtual 22, 3) := by decide +kernel
theorem dL_addAccount_7 : decode cL_addAccount 7 = .ok (.ireturn, 1) := by decide +kernel
theorem dL_addAccount_8 : decode cL_addAccount 8 = .ok (.astore 4, 2) := by decide +kernel
theorem dL_addAccount_10 : decode cL_addAccount 10 = .ok (.ldc 28, 2) := by decide +kernel
theorem dL_addAccount_12 : decode cL_addAccount 12 = .ok (.ireturn, 1) := by decide +kernel
theorem dL_addAccount_13 : decode cL_addAccount 13 = .ok (.astore 4, 2) := by decide +kernel
theorem dL_addAccount_15 : decode cL_addAccount 15 = .ok (.ldc 18, 2) := by decide +kernel
theorem dL_addAccount_17 : decode cL_addAccount 17 = .ok (.ireturn, 1) := by decide +kernel
theorem dL_addAccount_18 : decode cL_addAccount 18 = .ok (.astore 4, 2) := by decide +kernel
theorem dL_addAccount_20 : decode cL_addAccount 20 = .ok (.ldc 21, 2) := by decide +kernel
theorem dL_addAccount_22 : decode cL_addAccount 22 = .ok (.ireturn, 1) := by decide +kernel
theorem dL_putRule_0 : decode cL_putRule 0 = .ok (.aload_n 0, 1) := by decide +kernel
theorem dL_putRule_1 : decode cL_putRule 1 = .ok (.iload_n 1, 1) := by decide +kernel
theorem dL_putRule_2 : decode cL_putRule 2 = .ok (.iload_n 2, 1) := by decide +kernel
theorem dL_putRule_3 : decode cL_putRule 3 = .ok (.iload_n 3, 1) := by decide +kernel
theorem dL_putRule_4 : decode cL_putRule 4 = .ok (.iload 4, 2) := by decide +kernel
theorem dL_putRule_6 : decode cL_putRule 6 = .ok (.iload 5, 2) := by decide +kernel
theorem dL_putRule_8 : decode cL_putRule 8 = .ok (.invokevirtual 29, 3) := by decide +kernel
theorem dL_putRule_11 : decode cL_putRule 11 = .ok (.ireturn, 1) := by decide +kernel
theorem dL_putRule_12 : decode cL_putRule 12 = .ok (.astore 6, 2) := by decide +kernel
theorem dL_putRule_14 : decode cL_putRule 14 = .ok (.ldc 28, 2) := by decide +kernel
theorem dL_putRule_16 : decode cL_putRule 16 = .ok (.ireturn, 1) := by decide +kernel
theorem dL_putRule_17 : decode cL_putRule 17 = .ok (.astore 6, 2) := by decide +kernel
theorem dL_putRule_19 : decode cL_putRule 19 = .ok (.ldc 18, 2) := by decide +kernel
theorem dL_putRule_21 : decode cL_putRule 21 = .ok (.ireturn, 1) := by decide +kernel
theorem dL_putRule_22 : decode cL_putRule 22 = .ok (.astore 6, 2) := by decide +kernel
theorem dL_putRule_24 : decode cL_putRule 24 = .ok (.ldc 21, 2) := by decide +kernel
theorem dL_putRule_26 : decode cL_putRule 26 = .ok (.ireturn, 1) := by decide +kernel
theorem dL_removeRule_0 : decode cL_removeRule 0 = .ok (.aload_n 0, 1) := by decide +kernel
theorem dL_removeRule_1 : decode cL_removeRule 1 = .ok (.iload_n 1, 1) := by decide +kernel
theorem dL_removeRule_2 : decode cL_removeRule 2 = .ok (.invokevirtual 33, 3) := by decide +kernel
theorem dL_removeRule_5 : decode cL_removeRule 5 = .ok (.ireturn, 1) := by decide +kernel
theorem dL_removeRule_6 : decode cL_removeRule 6 = .ok (.astore_n 2, 1) := by decide +kernel
theorem dL_removeRule_7 : decode cL_removeRule 7 = .ok (.ldc 28, 2) := by decide +kernel
theorem dL_removeRule_9 : decode cL_removeRule 9 = .ok (.ireturn, 1) := by decide +kernel
theorem dL_except_0 : decode cL_except 0 = .ok (.aload_n 0, 1) := by decide +kernel
theorem dL_except_1 : decode cL_except 1 = .ok (.iload_n 1, 1) := by decide +kernel
theorem dL_except_2 : decode cL_except 2 = .ok (.iload_n 2, 1) := by decide +kernel
theorem dL_except_3 : decode cL_except 3 = .ok (.invokevirtual 36, 3) := by decide +kernel
theorem dL_except_6 : decode cL_except 6 = .ok (.ireturn, 1) := by decide +kernel
theorem dL_except_7 : decode cL_except 7 = .ok (.astore_n 3, 1) := by decide +kernel
theorem dL_except_8 : decode cL_except 8 = .ok (.ldc 28, 2) := by decide +kernel
theorem dL_except_10 : decode cL_except 10 = .ok (.ireturn, 1) := by decide +kernel
theorem dL_except_11 : decode cL_except 11 = .ok (.astore_n 3, 1) := by decide +kernel
theorem dL_except_12 : decode cL_except 12 = .ok (.ldc 18, 2) := by decide +kernel
theorem dL_except_14 : decode cL_except 14 = .ok (.ireturn, 1) := by decide +kernel
theorem dL_regionOf_0 : decode cL_regionOf 0 = .ok (.aload_n 0, 1) := by decide +kernel
theorem dL_regionOf_1 : decode cL_regionOf 1 = .ok (.iload_n 1, 1) := by decide +kernel
theorem dL_regionOf_2 : decode cL_regionOf 2 = .ok (.invokevirtual 40, 3) := by decide +kernel
theorem dL_regionOf_5 : decode cL_regionOf 5 = .ok (.ireturn, 1) := by decide +kernel
theorem dL_regionOf_6 : decode cL_regionOf 6 = .ok (.astore_n 2, 1) := by decide +kernel
theorem dL_regionOf_7 : decode cL_regionOf 7 = .ok (.ldc 28, 2) := by decide +kernel
theorem dL_regionOf_9 : decode cL_regionOf 9 = .ok (.ireturn, 1) := by decide +kernel
theorem dL_addSeller_0 : decode cL_addSeller 0 = .ok (.aload_n 0, 1) := by decide +kernel
theorem dL_addSeller_1 : decode cL_addSeller 1 = .ok (.iload_n 1, 1) := by decide +kernel
theorem dL_addSeller_2 : decode cL_addSeller 2 = .ok (.iload_n 2, 1) := by decide +kernel
theorem dL_addSeller_3 : decode cL_addSeller 3 = .ok (.invokevirtual 43, 3) := by decide +kernel
theorem dL_addSeller_6 : decode cL_addSeller 6 = .ok (.ireturn, 1) := by decide +kernel
theorem dL_addSeller_7 : decode cL_addSeller 7 = .ok (.astore_n 3, 1) := by decide +kernel
theorem dL_addSeller_8 : decode cL_addSeller 8 = .ok (.ldc 28, 2) := by decide +kernel
theorem dL_addSeller_10 : decode cL_addSeller 10 = .ok (.ireturn, 1) := by decide +kernel
theorem dL_addSeller_11 : decode cL_addSeller 11 = .ok (.astore_n 3, 1) := by decide +kernel
theorem dL_addSeller_12 : decode cL_addSeller 12 = .ok (.ldc 18, 2) := by decide +kernel
theorem dL_addSeller_14 : decode cL_addSeller 14 = .ok (.ireturn, 1) := by decide +kernel
theorem dL_addSeller_15 : decode cL_addSeller 15 = .ok (.astore_n 3, 1) := by decide +kernel
theorem dL_addSeller_16 : decode cL_addSeller 16 = .ok (.ldc 21, 2) := by decide +kernel
theorem dL_addSeller_18 : decode cL_addSeller 18 = .ok (.ireturn, 1) := by decide +kernel
theorem dL_adjust_0 : decode cL_adjust 0 = .ok (.aload_n 0, 1) := by decide +kernel
theorem dL_adjust_1 : decode cL_adjust 1 = .ok (.iload_n 1, 1) := by decide +kernel
theorem dL_adjust_2 : decode cL_adjust 2 = .ok (.iload_n 2, 1) := by decide +kernel
theorem dL_adjust_3 : decode cL_adjust 3 = .ok (.invokevirtual 46, 3) := by decide +kernel
theorem dL_adjust_6 : decode cL_adjust 6 = .ok (.ireturn, 1) := by decide +kernel
theorem dL_adjust_7 : decode cL_adjust 7 = .ok (.astore_n 3, 1) := by decide +kernel
theorem dL_adjust_8 : decode cL_adjust 8 = .ok (.ldc 49, 2) := by decide +kernel
theorem dL_adjust_10 : decode cL_adjust 10 = .ok (.ireturn, 1) := by decide +kernel
theorem dL_adjust_11 : decode cL_adjust 11 = .ok (.astore_n 3, 1) := by decide +kernel
theorem dL_adjust_12 : decode cL_adjust 12 = .ok (.ldc 50, 2) := by decide +kernel
theorem dL_adjust_14 : decode cL_adjust 14 = .ok (.ireturn, 1) := by decide +kernel
theorem dL_addChance_0 : decode cL_addChance 0 = .ok (.aload_n 0, 1) := by decide +kernel
theorem dL_addChance_1 : decode cL_addChance 1 = .ok (.iload_n 1, 1) := by decide +kernel
theorem dL_addChance_2 : decode cL_addChance 2 = .ok (.iload_n 2, 1) := by decide +kernel
theorem dL_addChance_3 : decode cL_addChance 3 = .ok (.iload_n 3, 1) := by decide +kernel
theorem dL_addChance_4 : decode cL_addChance 4 = .ok (.invokevirtual 51, 3) := by decide +kernel
theorem dL_addChance_7 : decode cL_addChance 7 = .ok (.ireturn, 1) := by decide +kernel
theorem dL_addChance_8 : decode cL_addChance 8 = .ok (.astore 4, 2) := by decide +kernel
theorem dL_addChance_10 : decode cL_addChance 10 = .ok (.ldc 28, 2) := by decide +kernel
theorem dL_addChance_12 : decode cL_addChance 12 = .ok (.ireturn, 1) := by decide +kernel
theorem dL_addChance_13 : decode cL_addChance 13 = .ok (.astore 4, 2) := by decide +kernel
theorem dL_addChance_15 : decode cL_addChance 15 = .ok (.ldc 18, 2) := by decide +kernel
theorem dL_addChance_17 : decode cL_addChance 17 = .ok (.ireturn, 1) := by decide +kernel
theorem dL_addChance_18 : decode cL_addChance 18 = .ok (.astore 4, 2) := by decide +kernel
theorem dL_addChance_20 : decode cL_addChance 20 = .ok (.ldc 21, 2) := by decide +kernel
theorem dL_addChance_22 : decode cL_addChance 22 = .ok (.ireturn, 1) := by decide +kernel
theorem dL_giveShare_0 : decode cL_giveShare 0 = .ok (.aload_n 0, 1) := by decide +kernel
theorem dL_giveShare_1 : decode cL_giveShare 1 = .ok (.iload_n 1, 1) := by decide +kernel
theorem dL_giveShare_2 : decode cL_giveShare 2 = .ok (.iload_n 2, 1) := by decide +kernel
theorem dL_giveShare_3 : decode cL_giveShare 3 = .ok (.iload_n 3, 1) := by decide +kernel
theorem dL_giveShare_4 : decode cL_giveShare 4 = .ok (.iload 4, 2) := by decide +kernel
theorem dL_giveShare_6 : decode cL_giveShare 6 = .ok (.invokevirtual 54, 3) := by decide +kernel
theorem dL_giveShare_9 : decode cL_giveShare 9 = .ok (.ireturn, 1) := by decide +kernel
theorem dL_giveShare_10 : decode cL_giveShare 10 = .ok (.astore 5, 2) := by decide +kernel
theorem dL_giveShare_12 : decode cL_giveShare 12 = .ok (.ldc 28, 2) := by decide +kernel
theorem dL_giveShare_14 : decode cL_giveShare 14 = .ok (.ireturn, 1) := by decide +kernel
theorem dL_giveShare_15 : decode cL_giveShare 15 = .ok (.astore 5, 2) := by decide +kernel
theorem dL_giveShare_17 : decode cL_giveShare 17 = .ok (.ldc 18, 2) := by decide +kernel
theorem dL_giveShare_19 : decode cL_giveShare 19 = .ok (.ireturn, 1) := by decide +kernel
theorem dL_giveShare_20 : decode cL_giveShare 20 = .ok (.astore 5, 2) := by decide +kernel
theorem dL_giveShare_22 : decode cL_giveShare 22 = .ok (.ldc 21, 2) := by decide +kernel
theorem dL_giveShare_24 : decode cL_giveShare 24 = .ok (.ireturn, 1) := by decide +kernel
theorem dL_move_0 : decode cL_move 0 = .ok (.aload_n 0, 1) := by decide +kernel
theorem dL_move_1 : decode cL_move 1 = .ok (.iload_n 1, 1) := by decide +kernel
theorem dL_move_2 : decode cL_move 2 = .ok (.iload_n 2, 1) := by decide +kernel
theorem dL_move_3 : decode cL_move 3 = .ok (.invokevirtual 58, 3) := by decide +kernel
theorem dL_move_6 : decode cL_move 6 = .ok (.ireturn, 1) := by decide +kernel
theorem dL_move_7 : decode cL_move 7 = .ok (.astore_n 3, 1) := by decide +kernel
theorem dL_move_8 : decode cL_move 8 = .ok (.ldc 28, 2) := by decide +kernel
theorem dL_move_10 : decode cL_move 10 = .ok (.ireturn, 1) := by decide +kernel
theorem dL_move_11 : decode cL_move 11 = .ok (.astore_n 3, 1) := by decide +kernel
theorem dL_move_12 : decode cL_move 12 = .ok (.ldc 18, 2) := by decide +kernel
theorem dL_move_14 : decode cL_move 14 = .ok (.ireturn, 1) := by decide +kernel
theorem dL_move_15 : decode cL_move 15 = .ok (.astore_n 3, 1) := by decide +kernel
theorem dL_move_16 : decode cL_move 16 = .ok (.ldc 21, 2) := by decide +kernel
theorem dL_move_18 : decode cL_move 18 = .ok (.ireturn, 1) := by decide +kernel
theorem dL_stage_0 : decode cL_stage 0 = .ok (.aload_n 0, 1) := by decide +kernel
theorem dL_stage_1 : decode cL_stage 1 = .ok (.iload_n 1, 1) := by decide +kernel
theorem dL_stage_2 : decode cL_stage 2 = .ok (.invokevirtual 61, 3) := by decide +kernel
theorem dL_stage_5 : decode cL_stage 5 = .ok (.ireturn, 1) := by decide +kernel
theorem dL_stage_6 : decode cL_stage 6 = .ok (.astore_n 2, 1) := by decide +kernel
theorem dL_stage_7 : decode cL_stage 7 = .ok (.ldc 28, 2) := by decide +kernel
theorem dL_stage_9 : decode cL_stage 9 = .ok (.ireturn, 1) := by decide +kernel
theorem dL_daysIn_0 : decode cL_daysIn 0 = .ok (.aload_n 0, 1) := by decide +kernel
theorem dL_daysIn_1 : decode cL_daysIn 1 = .ok (.iload_n 1, 1) := by decide +kernel
theorem dL_daysIn_2 : decode cL_daysIn 2 = .ok (.iload_n 2, 1) := by decide +kernel
theorem dL_daysIn_3 : decode cL_daysIn 3 = .ok (.invokevirtual 64, 3) := by decide +kernel
theorem dL_daysIn_6 : decode cL_daysIn 6 = .ok (.ireturn, 1) := by decide +kernel
theorem dL_daysIn_7 : decode cL_daysIn 7 = .ok (.astore_n 3, 1) := by decide +kernel
theorem dL_daysIn_8 : decode cL_daysIn 8 = .ok (.ldc 28, 2) := by decide +kernel
theorem dL_daysIn_10 : decode cL_daysIn 10 = .ok (.ireturn, 1) := by decide +kernel
theorem dL_daysIn_11 : decode cL_daysIn 11 = .ok (.astore_n 3, 1) := by decide +kernel
theorem dL_daysIn_12 : decode cL_daysIn 12 = .ok (.ldc 18, 2) := by decide +kernel
theorem dL_daysIn_14 : decode cL_daysIn 14 = .ok (.ireturn, 1) := by decide +kernel
theorem dL_stalled_0 : decode cL_stalled 0 = .ok (.aload_n 0, 1) := by decide +kernel
theorem dL_stalled_1 : decode cL_stalled 1 = .ok (.iload_n 1, 1) := by decide +kernel
theorem dL_stalled_2 : decode cL_stalled 2 = .ok (.invokevirtual 67, 3) := by decide +kernel
theorem dL_stalled_5 : decode cL_stalled 5 = .ok (.ireturn, 1) := by decide +kernel
theorem dL_stalled_6 : decode cL_stalled 6 = .ok (.astore_n 2, 1) := by decide +kernel
theorem dL_stalled_7 : decode cL_stalled 7 = .ok (.ldc 18, 2) := by decide +kernel
theorem dL_stalled_9 : decode cL_stalled 9 = .ok (.ireturn, 1) := by decide +kernel
theorem dL_worth_0 : decode cL_worth 0 = .ok (.aload_n 0, 1) := by decide +kernel
theorem dL_worth_1 : decode cL_worth 1 = .ok (.iload_n 1, 1) := by decide +kernel
theorem dL_worth_2 : decode cL_worth 2 = .ok (.invokevirtual 70, 3) := by decide +kernel
theorem dL_worth_5 : decode cL_worth 5 = .ok (.ireturn, 1) := by decide +kernel
theorem dL_worth_6 : decode cL_worth 6 = .ok (.astore_n 2, 1) := by decide +kernel
theorem dL_worth_7 : decode cL_worth 7 = .ok (.ldc 28, 2) := by decide +kernel
theorem dL_worth_9 : decode cL_worth 9 = .ok (.ireturn, 1) := by decide +kernel
theorem dL_inRegion_0 : decode cL_inRegion 0 = .ok (.aload_n 0, 1) := by decide +kernel
theorem dL_inRegion_1 : decode cL_inRegion 1 = .ok (.iload_n 1, 1) := by decide +kernel
theorem dL_inRegion_2 : decode cL_inRegion 2 = .ok (.iload_n 2, 1) := by decide +kernel
theorem dL_inRegion_3 : decode cL_inRegion 3 = .ok (.invokevirtual 73, 3) := by decide +kernel
theorem dL_inRegion_6 : decode cL_inRegion 6 = .ok (.ireturn, 1) := by decide +kernel
theorem dL_inRegion_7 : decode cL_inRegion 7 = .ok (.astore_n 3, 1) := by decide +kernel
theorem dL_inRegion_8 : decode cL_inRegion 8 = .ok (.ldc 18, 2) := by decide +kernel
theorem dL_inRegion_10 : decode cL_inRegion 10 = .ok (.ireturn, 1) := by decide +kernel
theorem dL_won_0 : decode cL_won 0 = .ok (.aload_n 0, 1) := by decide +kernel
theorem dL_won_1 : decode cL_won 1 = .ok (.iload_n 1, 1) := by decide +kernel
theorem dL_won_2 : decode cL_won 2 = .ok (.invokevirtual 76, 3) := by decide +kernel
theorem dL_won_5 : decode cL_won 5 = .ok (.ireturn, 1) := by decide +kernel
theorem dL_won_6 : decode cL_won 6 = .ok (.astore_n 2, 1) := by decide +kernel
theorem dL_won_7 : decode cL_won 7 = .ok (.ldc 28, 2) := by decide +kernel
theorem dL_won_9 : decode cL_won 9 = .ok (.ireturn, 1) := by decide +kernel
theorem dL_quote_0 : decode cL_quote 0 = .ok (.aload_n 0, 1) := by decide +kernel
theorem dL_quote_1 : decode cL_quote 1 = .ok (.iload_n 1, 1) := by decide +kernel
theorem dL_quote_2 : decode cL_quote 2 = .ok (.iload_n 2, 1) := by decide +kernel
theorem dL_quote_3 : decode cL_quote 3 = .ok (.iload_n 3, 1) := by decide +kernel
theorem dL_quote_4 : decode cL_quote 4 = .ok (.invokevirtual 79, 3) := by decide +kernel
theorem dL_quote_7 : decode cL_quote 7 = .ok (.ireturn, 1) := by decide +kernel
theorem dL_quote_8 : decode cL_quote 8 = .ok (.astore 4, 2) := by decide +kernel
theorem dL_quote_10 : decode cL_quote 10 = .ok (.ldc 28, 2) := by decide +kernel
theorem dL_quote_12 : decode cL_quote 12 = .ok (.ireturn, 1) := by decide +kernel
theorem dL_quote_13 : decode cL_quote 13 = .ok (.astore 4, 2) := by decide +kernel
theorem dL_quote_15 : decode cL_quote 15 = .ok (.ldc 18, 2) := by decide +kernel
theorem dL_quote_17 : decode cL_quote 17 = .ok (.ireturn, 1) := by decide +kernel
theorem dL_quote_18 : decode cL_quote 18 = .ok (.astore 4, 2) := by decide +kernel
theorem dL_quote_20 : decode cL_quote 20 = .ok (.ldc 21, 2) := by decide +kernel
theorem dL_quote_22 : decode cL_quote 22 = .ok (.ireturn, 1) := by decide +kernel
theorem dL_approve_0 : decode cL_approve 0 = .ok (.aload_n 0, 1) := by decide +kernel
theorem dL_approve_1 : decode cL_approve 1 = .ok (.iload_n 1, 1) := by decide +kernel
theorem dL_approve_2 : decode cL_approve 2 = .ok (.iload_n 2, 1) := by decide +kernel
theorem dL_approve_3 : decode cL_approve 3 = .ok (.invokevirtual 82, 3) := by decide +kernel
theorem dL_approve_6 : decode cL_approve 6 = .ok (.iconst 0, 1) := by decide +kernel
theorem dL_approve_7 : decode cL_approve 7 = .ok (.ireturn, 1) := by decide +kernel
theorem dL_approve_8 : decode cL_approve 8 = .ok (.astore_n 3, 1) := by decide +kernel
theorem dL_approve_9 : decode cL_approve 9 = .ok (.ldc 28, 2) := by decide +kernel
theorem dL_approve_11 : decode cL_approve 11 = .ok (.ireturn, 1) := by decide +kernel
theorem dL_approve_12 : decode cL_approve 12 = .ok (.astore_n 3, 1) := by decide +kernel
theorem dL_approve_13 : decode cL_approve 13 = .ok (.ldc 21, 2) := by decide +kernel
theorem dL_approve_15 : decode cL_approve 15 = .ok (.ireturn, 1) := by decide +kernel
theorem dL_counting_0 : decode cL_counting 0 = .ok (.aload_n 0, 1) := by decide +kernel
theorem dL_counting_1 : decode cL_counting 1 = .ok (.iload_n 1, 1) := by decide +kernel
theorem dL_counting_2 : decode cL_counting 2 = .ok (.invokevirtual 86, 3) := by decide +kernel
theorem dL_counting_5 : decode cL_counting 5 = .ok (.ireturn, 1) := by decide +kernel
theorem dL_counting_6 : decode cL_counting 6 = .ok (.astore_n 2, 1) := by decide +kernel
theorem dL_counting_7 : decode cL_counting 7 = .ok (.ldc 28, 2) := by decide +kernel
theorem dL_counting_9 : decode cL_counting 9 = .ok (.ireturn, 1) := by decide +kernel
theorem dL_counting_10 : decode cL_counting 10 = .ok (.astore_n 2, 1) := by decide +kernel
theorem dL_counting_11 : decode cL_counting 11 = .ok (.ldc 18, 2) := by decide +kernel
theorem dL_counting_13 : decode cL_counting 13 = .ok (.ireturn, 1) := by decide +kernel
theorem dL_forecast_0 : decode cL_forecast 0 = .ok (.aload_n 0, 1) := by decide +kernel
theorem dL_forecast_1 : decode cL_forecast 1 = .ok (.iload_n 1, 1) := by decide +kernel
theorem dL_forecast_2 : decode cL_forecast 2 = .ok (.invokevirtual 91, 3) := by decide +kernel
theorem dL_forecast_5 : decode cL_forecast 5 = .ok (.ireturn, 1) := by decide +kernel
theorem dL_forecast_6 : decode cL_forecast 6 = .ok (.astore_n 2, 1) := by decide +kernel
theorem dL_forecast_7 : decode cL_forecast 7 = .ok (.ldc 94, 2) := by decide +kernel
theorem dL_forecast_9 : decode cL_forecast 9 = .ok (.ireturn, 1) := by decide +kernel
theorem dL_own_0 : decode cL_own 0 = .ok (.aload_n 0, 1) := by decide +kernel
theorem dL_own_1 : decode cL_own 1 = .ok (.iload_n 1, 1) := by decide +kernel
theorem dL_own_2 : decode cL_own 2 = .ok (.invokevirtual 95, 3) := by decide +kernel
theorem dL_own_5 : decode cL_own 5 = .ok (.ireturn, 1) := by decide +kernel
theorem dL_own_6 : decode cL_own 6 = .ok (.astore_n 2, 1) := by decide +kernel
theorem dL_own_7 : decode cL_own 7 = .ok (.ldc 28, 2) := by decide +kernel
theorem dL_own_9 : decode cL_own 9 = .ok (.ireturn, 1) := by decide +kernel
theorem dL_freeze_0 : decode cL_freeze 0 = .ok (.aload_n 0, 1) := by decide +kernel
theorem dL_freeze_1 : decode cL_freeze 1 = .ok (.invokevirtual 98, 3) := by decide +kernel
theorem dL_freeze_4 : decode cL_freeze 4 = .ok (.ireturn, 1) := by decide +kernel
theorem dL_freeze_5 : decode cL_freeze 5 = .ok (.astore_n 1, 1) := by decide +kernel
theorem dL_freeze_6 : decode cL_freeze 6 = .ok (.ldc 21, 2) := by decide +kernel
theorem dL_freeze_8 : decode cL_freeze 8 = .ok (.ireturn, 1) := by decide +kernel
theorem dL_since_0 : decode cL_since 0 = .ok (.aload_n 0, 1) := by decide +kernel
theorem dL_since_1 : decode cL_since 1 = .ok (.iload_n 1, 1) := by decide +kernel
theorem dL_since_2 : decode cL_since 2 = .ok (.iload_n 2, 1) := by decide +kernel
theorem dL_since_3 : decode cL_since 3 = .ok (.invokevirtual 102, 3) := by decide +kernel
theorem dL_since_6 : decode cL_since 6 = .ok (.ireturn, 1) := by decide +kernel
theorem dL_since_7 : decode cL_since 7 = .ok (.astore_n 3, 1) := by decide +kernel
theorem dL_since_8 : decode cL_since 8 = .ok (.ldc 94, 2) := by decide +kernel
theorem dL_since_10 : decode cL_since 10 = .ok (.ireturn, 1) := by decide +kernel
theorem dL_weight_0 : decode cL_weight 0 = .ok (.iload_n 0, 1) := by decide +kernel
theorem dL_weight_1 : decode cL_weight 1 = .ok (.ifCond .ne 8, 3) := by decide +kernel
theorem dL_weight_4 : decode cL_weight 4 = .ok (.bipush 10, 2) := by decide +kernel
theorem dL_weight_6 : decode cL_weight 6 = .ok (.goto 26, 3) := by decide +kernel
theorem dL_weight_9 : decode cL_weight 9 = .ok (.iload_n 0, 1) := by decide +kernel
theorem dL_weight_10 : decode cL_weight 10 = .ok (.iconst 4, 1) := by decide +kernel
theorem dL_weight_11 : decode cL_weight 11 = .ok (.if_icmp .ne 8, 3) := by decide +kernel
theorem dL_weight_14 : decode cL_weight 14 = .ok (.bipush 100, 2) := by decide +kernel
theorem dL_weight_16 : decode cL_weight 16 = .ok (.goto 16, 3) := by decide +kernel
theorem dL_weight_19 : decode cL_weight 19 = .ok (.iload_n 0, 1) := by decide +kernel
theorem dL_weight_20 : decode cL_weight 20 = .ok (.iconst 5, 1) := by decide +kernel
theorem dL_weight_21 : decode cL_weight 21 = .ok (.if_icmp .ne 7, 3) := by decide +kernel
theorem dL_weight_24 : decode cL_weight 24 = .ok (.iconst 0, 1) := by decide +kernel
theorem dL_weight_25 : decode cL_weight 25 = .ok (.goto 7, 3) := by decide +kernel
theorem dL_weight_28 : decode cL_weight 28 = .ok (.bipush 30, 2) := by decide +kernel
theorem dL_weight_30 : decode cL_weight 30 = .ok (.iload_n 0, 1) := by decide +kernel
theorem dL_weight_31 : decode cL_weight 31 = .ok (.imul, 1) := by decide +kernel
theorem dL_weight_32 : decode cL_weight 32 = .ok (.ireturn, 1) := by decide +kernel
