theorem dX0_init_0 : decode cX0_init 0 = .ok (.aload_n 0, 1) := by decide +kernel
theorem dX0_init_1 : decode cX0_init 1 = .ok (.invokespecial 3, 3) := by decide +kernel
theorem dX0_init_4 : decode cX0_init 4 = .ok (.aload_n 0, 1) := by decide +kernel
theorem dX0_init_5 : decode cX0_init 5 = .ok (.iconst (-1), 1) := by decide +kernel
theorem dX0_init_6 : decode cX0_init 6 = .ok (.putfield 9, 3) := by decide +kernel
theorem dX0_init_9 : decode cX0_init 9 = .ok (.aload_n 0, 1) := by decide +kernel
theorem dX0_init_10 : decode cX0_init 10 = .ok (.aload_n 1, 1) := by decide +kernel
theorem dX0_init_11 : decode cX0_init 11 = .ok (.putfield 15, 3) := by decide +kernel
theorem dX0_init_14 : decode cX0_init 14 = .ok (.aload_n 0, 1) := by decide +kernel
theorem dX0_init_15 : decode cX0_init 15 = .ok (.iload_n 2, 1) := by decide +kernel
theorem dX0_init_16 : decode cX0_init 16 = .ok (.putfield 19, 3) := by decide +kernel
theorem dX0_init_19 : decode cX0_init 19 = .ok (.aload_n 0, 1) := by decide +kernel
theorem dX0_init_20 : decode cX0_init 20 = .ok (.iload_n 3, 1) := by decide +kernel
theorem dX0_init_21 : decode cX0_init 21 = .ok (.putfield 22, 3) := by decide +kernel
theorem dX0_init_24 : decode cX0_init 24 = .ok (.return_, 1) := by decide +kernel
theorem dX1_init_0 : decode cX1_init 0 = .ok (.aload_n 0, 1) := by decide +kernel
theorem dX1_init_1 : decode cX1_init 1 = .ok (.invokespecial 3, 3) := by decide +kernel
theorem dX1_init_4 : decode cX1_init 4 = .ok (.aload_n 0, 1) := by decide +kernel
theorem dX1_init_5 : decode cX1_init 5 = .ok (.bipush 8, 2) := by decide +kernel
theorem dX1_init_7 : decode cX1_init 7 = .ok (.newarray .int, 2) := by decide +kernel
theorem dX1_init_9 : decode cX1_init 9 = .ok (.putfield 9, 3) := by decide +kernel
theorem dX1_init_12 : decode cX1_init 12 = .ok (.aload_n 0, 1) := by decide +kernel
theorem dX1_init_13 : decode cX1_init 13 = .ok (.bipush 6, 2) := by decide +kernel
theorem dX1_init_15 : decode cX1_init 15 = .ok (.newarray .int, 2) := by decide +kernel
theorem dX1_init_17 : decode cX1_init 17 = .ok (.putfield 15, 3) := by decide +kernel
theorem dX1_init_20 : decode cX1_init 20 = .ok (.aload_n 0, 1) := by decide +kernel
theorem dX1_init_21 : decode cX1_init 21 = .ok (.iconst 0, 1) := by decide +kernel
theorem dX1_init_22 : decode cX1_init 22 = .ok (.putfield 18, 3) := by decide +kernel
theorem dX1_init_25 : decode cX1_init 25 = .ok (.aload_n 0, 1) := by decide +kernel
theorem dX1_init_26 : decode cX1_init 26 = .ok (.iconst (-1), 1) := by decide +kernel
theorem dX1_init_27 : decode cX1_init 27 = .ok (.putfield 22, 3) := by decide +kernel
theorem dX1_init_30 : decode cX1_init 30 = .ok (.aload_n 0, 1) := by decide +kernel
theorem dX1_init_31 : decode cX1_init 31 = .ok (.aconst_null, 1) := by decide +kernel
theorem dX1_init_32 : decode cX1_init 32 = .ok (.putfield 25, 3) := by decide +kernel
theorem dX1_init_35 : decode cX1_init 35 = .ok (.aload_n 0, 1) := by decide +kernel
theorem dX1_init_36 : decode cX1_init 36 = .ok (.aload_n 1, 1) := by decide +kernel
theorem dX1_init_37 : decode cX1_init 37 = .ok (.putfield 29, 3) := by decide +kernel
theorem dX1_init_40 : decode cX1_init 40 = .ok (.aload_n 0, 1) := by decide +kernel
theorem dX1_init_41 : decode cX1_init 41 = .ok (.iload_n 2, 1) := by decide +kernel
theorem dX1_init_42 : decode cX1_init 42 = .ok (.putfield 33, 3) := by decide +kernel
theorem dX1_init_45 : decode cX1_init 45 = .ok (.aload_n 0, 1) := by decide +kernel
theorem dX1_init_46 : decode cX1_init 46 = .ok (.iload_n 3, 1) := by decide +kernel
theorem dX1_init_47 : decode cX1_init 47 = .ok (.putfield 36, 3) := by decide +kernel
theorem dX1_init_50 : decode cX1_init 50 = .ok (.return_, 1) := by decide +kernel
theorem dX2_init_0 : decode cX2_init 0 = .ok (.aload_n 0, 1) := by decide +kernel
theorem dX2_init_1 : decode cX2_init 1 = .ok (.invokespecial 3, 3) := by decide +kernel
theorem dX2_init_4 : decode cX2_init 4 = .ok (.aload_n 0, 1) := by decide +kernel
theorem dX2_init_5 : decode cX2_init 5 = .ok (.bipush 8, 2) := by decide +kernel
theorem dX2_init_7 : decode cX2_init 7 = .ok (.newarray .int, 2) := by decide +kernel
theorem dX2_init_9 : decode cX2_init 9 = .ok (.putfield 9, 3) := by decide +kernel
theorem dX2_init_12 : decode cX2_init 12 = .ok (.return_, 1) := by decide +kernel
theorem dX3_init_0 : decode cX3_init 0 = .ok (.aload_n 0, 1) := by decide +kernel
theorem dX3_init_1 : decode cX3_init 1 = .ok (.invokespecial 1, 3) := by decide +kernel
theorem dX3_init_4 : decode cX3_init 4 = .ok (.aload_n 0, 1) := by decide +kernel
theorem dX3_init_5 : decode cX3_init 5 = .ok (.iconst 0, 1) := by decide +kernel
theorem dX3_init_6 : decode cX3_init 6 = .ok (.putfield 7, 3) := by decide +kernel
theorem dX3_init_9 : decode cX3_init 9 = .ok (.aload_n 0, 1) := by decide +kernel
theorem dX3_init_10 : decode cX3_init 10 = .ok (.iload_n 1, 1) := by decide +kernel
theorem dX3_init_11 : decode cX3_init 11 = .ok (.putfield 13, 3) := by decide +kernel
theorem dX3_init_14 : decode cX3_init 14 = .ok (.aload_n 0, 1) := by decide +kernel
theorem dX3_init_15 : decode cX3_init 15 = .ok (.aload_n 2, 1) := by decide +kernel
theorem dX3_init_16 : decode cX3_init 16 = .ok (.putfield 17, 3) := by decide +kernel
theorem dX3_init_19 : decode cX3_init 19 = .ok (.aload_n 0, 1) := by decide +kernel
theorem dX3_init_20 : decode cX3_init 20 = .ok (.aload_n 3, 1) := by decide +kernel
theorem dX3_init_21 : decode cX3_init 21 = .ok (.putfield 21, 3) := by decide +kernel
theorem dX3_init_24 : decode cX3_init 24 = .ok (.aload_n 0, 1) := by decide +kernel
theorem dX3_init_25 : decode cX3_init 25 = .ok (.iload 4, 2) := by decide +kernel
theorem dX3_init_27 : decode cX3_init 27 = .ok (.putfield 25, 3) := by decide +kernel
theorem dX3_init_30 : decode cX3_init 30 = .ok (.return_, 1) := by decide +kernel
theorem dX4_init_0 : decode cX4_init 0 = .ok (.aload_n 0, 1) := by decide +kernel
theorem dX4_init_1 : decode cX4_init 1 = .ok (.invokespecial 1, 3) := by decide +kernel
theorem dX4_init_4 : decode cX4_init 4 = .ok (.aload_n 0, 1) := by decide +kernel
theorem dX4_init_5 : decode cX4_init 5 = .ok (.iload_n 1, 1) := by decide +kernel
theorem dX4_init_6 : decode cX4_init 6 = .ok (.putfield 7, 3) := by decide +kernel
theorem dX4_init_9 : decode cX4_init 9 = .ok (.aload_n 0, 1) := by decide +kernel
theorem dX4_init_10 : decode cX4_init 10 = .ok (.iload_n 2, 1) := by decide +kernel
theorem dX4_init_11 : decode cX4_init 11 = .ok (.putfield 13, 3) := by decide +kernel
theorem dX4_init_14 : decode cX4_init 14 = .ok (.aload_n 0, 1) := by decide +kernel
theorem dX4_init_15 : decode cX4_init 15 = .ok (.iload_n 3, 1) := by decide +kernel
theorem dX4_init_16 : decode cX4_init 16 = .ok (.putfield 16, 3) := by decide +kernel
theorem dX4_init_19 : decode cX4_init 19 = .ok (.aload_n 0, 1) := by decide +kernel
theorem dX4_init_20 : decode cX4_init 20 = .ok (.iload 4, 2) := by decide +kernel
theorem dX4_init_22 : decode cX4_init 22 = .ok (.putfield 19, 3) := by decide +kernel
theorem dX4_init_25 : decode cX4_init 25 = .ok (.return_, 1) := by decide +kernel
theorem dX5_init_0 : decode cX5_init 0 = .ok (.aload_n 0, 1) := by decide +kernel
theorem dX5_init_1 : decode cX5_init 1 = .ok (.invokespecial 1, 3) := by decide +kernel
theorem dX5_init_4 : decode cX5_init 4 = .ok (.aload_n 0, 1) := by decide +kernel
theorem dX5_init_5 : decode cX5_init 5 = .ok (.iconst 0, 1) := by decide +kernel
theorem dX5_init_6 : decode cX5_init 6 = .ok (.putfield 7, 3) := by decide +kernel
theorem dX5_init_9 : decode cX5_init 9 = .ok (.aload_n 0, 1) := by decide +kernel
theorem dX5_init_10 : decode cX5_init 10 = .ok (.iload_n 1, 1) := by decide +kernel
theorem dX5_init_11 : decode cX5_init 11 = .ok (.putfield 13, 3) := by decide +kernel
theorem dX5_init_14 : decode cX5_init 14 = .ok (.aload_n 0, 1) := by decide +kernel
theorem dX5_init_15 : decode cX5_init 15 = .ok (.aload_n 2, 1) := by decide +kernel
theorem dX5_init_16 : decode cX5_init 16 = .ok (.putfield 16, 3) := by decide +kernel
theorem dX5_init_19 : decode cX5_init 19 = .ok (.aload_n 0, 1) := by decide +kernel
theorem dX5_init_20 : decode cX5_init 20 = .ok (.iload_n 3, 1) := by decide +kernel
theorem dX5_init_21 : decode cX5_init 21 = .ok (.putfield 20, 3) := by decide +kernel
theorem dX5_init_24 : decode cX5_init 24 = .ok (.return_, 1) := by decide +kernel
theorem dX6_init_0 : decode cX6_init 0 = .ok (.aload_n 0, 1) := by decide +kernel
theorem dX6_init_1 : decode cX6_init 1 = .ok (.invokespecial 1, 3) := by decide +kernel
theorem dX6_init_4 : decode cX6_init 4 = .ok (.aload_n 0, 1) := by decide +kernel
theorem dX6_init_5 : decode cX6_init 5 = .ok (.new 7, 3) := by decide +kernel
theorem dX6_init_8 : decode cX6_init 8 = .ok (.dup, 1) := by decide +kernel
theorem dX6_init_9 : decode cX6_init 9 = .ok (.invokespecial 9, 3) := by decide +kernel
theorem dX6_init_12 : decode cX6_init 12 = .ok (.putfield 10, 3) := by decide +kernel
theorem dX6_init_15 : decode cX6_init 15 = .ok (.aload_n 0, 1) := by decide +kernel
theorem dX6_init_16 : decode cX6_init 16 = .ok (.new 7, 3) := by decide +kernel
theorem dX6_init_19 : decode cX6_init 19 = .ok (.dup, 1) := by decide +kernel
theorem dX6_init_20 : decode cX6_init 20 = .ok (.invokespecial 9, 3) := by decide +kernel
theorem dX6_init_23 : decode cX6_init 23 = .ok (.putfield 16, 3) := by decide +kernel
theorem dX6_init_26 : decode cX6_init 26 = .ok (.aload_n 0, 1) := by decide +kernel
theorem dX6_init_27 : decode cX6_init 27 = .ok (.new 7, 3) := by decide +kernel
theorem dX6_init_30 : decode cX6_init 30 = .ok (.dup, 1) := by decide +kernel
theorem dX6_init_31 : decode cX6_init 31 = .ok (.invokespecial 9, 3) := by decide +kernel
theorem dX6_init_34 : decode cX6_init 34 = .ok (.putfield 19, 3) := by decide +kernel
theorem dX6_init_37 : decode cX6_init 37 = .ok (.aload_n 0, 1) := by decide +kernel
theorem dX6_init_38 : decode cX6_init 38 = .ok (.new 7, 3) := by decide +kernel
theorem dX6_init_41 : decode cX6_init 41 = .ok (.dup, 1) := by decide +kernel
theorem dX6_init_42 : decode cX6_init 42 = .ok (.invokespecial 9, 3) := by decide +kernel
theorem dX6_init_45 : decode cX6_init 45 = .ok (.putfield 22, 3) := by decide +kernel
theorem dX6_init_48 : decode cX6_init 48 = .ok (.aload_n 0, 1) := by decide +kernel
theorem dX6_init_49 : decode cX6_init 49 = .ok (.new 7, 3) := by decide +kernel
theorem dX6_init_52 : decode cX6_init 52 = .ok (.dup, 1) := by decide +kernel
theorem dX6_init_53 : decode cX6_init 53 = .ok (.invokespecial 9, 3) := by decide +kernel
theorem dX6_init_56 : decode cX6_init 56 = .ok (.putfield 25, 3) := by decide +kernel
theorem dX6_init_59 : decode cX6_init 59 = .ok (.aload_n 0, 1) := by decide +kernel
theorem dX6_init_60 : decode cX6_init 60 = .ok (.new 7, 3) := by decide +kernel
theorem dX6_init_63 : decode cX6_init 63 = .ok (.dup, 1) := by decide +kernel
theorem dX6_init_64 : decode cX6_init 64 = .ok (.invokespecial 9, 3) := by decide +kernel
theorem dX6_init_67 : decode cX6_init 67 = .ok (.putfield 28, 3) := by decide +kernel
theorem dX6_init_70 : decode cX6_init 70 = .ok (.aload_n 0, 1) := by decide +kernel
theorem dX6_init_71 : decode cX6_init 71 = .ok (.iconst 0, 1) := by decide +kernel
theorem dX6_init_72 : decode cX6_init 72 = .ok (.putfield 31, 3) := by decide +kernel
theorem dX6_init_75 : decode cX6_init 75 = .ok (.return_, 1) := by decide +kernel
theorem dX6_pass_0 : decode cX6_pass 0 = .ok (.iload_n 1, 1) := by decide +kernel
theorem dX6_pass_1 : decode cX6_pass 1 = .ok (.iconst 1, 1) := by decide +kernel
theorem dX6_pass_2 : decode cX6_pass 2 = .ok (.sipush 1000, 3) := by decide +kernel
theorem dX6_pass_5 : decode cX6_pass 5 = .ok (.invokestatic 35, 3) := by decide +kernel
theorem dX6_pass_8 : decode cX6_pass 8 = .ok (.iload_n 1, 1) := by decide +kernel
theorem dX6_pass_9 : decode cX6_pass 9 = .ok (.ldc 39, 2) := by decide +kernel
theorem dX6_pass_11 : decode cX6_pass 11 = .ok (.aload_n 0, 1) := by decide +kernel
theorem dX6_pass_12 : decode cX6_pass 12 = .ok (.getfield 31, 3) := by decide +kernel
theorem dX6_pass_15 : decode cX6_pass 15 = .ok (.isub, 1) := by decide +kernel
theorem dX6_pass_16 : decode cX6_pass 16 = .ok (.if_icmp .le 13, 3) := by decide +kernel
theorem dX6_pass_19 : decode cX6_pass 19 = .ok (.new 40, 3) := by decide +kernel
theorem dX6_pass_22 : decode cX6_pass 22 = .ok (.dup, 1) := by decide +kernel
theorem dX6_pass_23 : decode cX6_pass 23 = .ok (.ldc 42, 2) := by decide +kernel
theorem dX6_pass_25 : decode cX6_pass 25 = .ok (.invokespecial 44, 3) := by decide +kernel
theorem dX6_pass_28 : decode cX6_pass 28 = .ok (.athrow, 1) := by decide +kernel
theorem dX6_pass_29 : decode cX6_pass 29 = .ok (.aload_n 0, 1) := by decide +kernel
theorem dX6_pass_30 : decode cX6_pass 30 = .ok (.dup, 1) := by decide +kernel
theorem dX6_pass_31 : decode cX6_pass 31 = .ok (.getfield 31, 3) := by decide +kernel
theorem dX6_pass_34 : decode cX6_pass 34 = .ok (.iload_n 1, 1) := by decide +kernel
theorem dX6_pass_35 : decode cX6_pass 35 = .ok (.iadd, 1) := by decide +kernel
theorem dX6_pass_36 : decode cX6_pass 36 = .ok (.putfield 31, 3) := by decide +kernel
theorem dX6_pass_39 : decode cX6_pass 39 = .ok (.aload_n 0, 1) := by decide +kernel
theorem dX6_pass_40 : decode cX6_pass 40 = .ok (.getfield 31, 3) := by decide +kernel
theorem dX6_pass_43 : decode cX6_pass 43 = .ok (.ireturn, 1) := by decide +kernel
theorem dX6_addAccount_0 : decode cX6_addAccount 0 = .ok (.iload_n 1, 1) := by decide +kernel
theorem dX6_addAccount_1 : decode cX6_addAccount 1 = .ok (.iconst (-1), 1) := by decide +kernel
theorem dX6_addAccount_2 : decode cX6_addAccount 2 = .ok (.if_icmp .ne 7, 3) := by decide +kernel
theorem dX6_addAccount_5 : decode cX6_addAccount 5 = .ok (.aconst_null, 1) := by decide +kernel
theorem dX6_addAccount_6 : decode cX6_addAccount 6 = .ok (.goto 8, 3) := by decide +kernel
theorem dX6_addAccount_9 : decode cX6_addAccount 9 = .ok (.aload_n 0, 1) := by decide +kernel
theorem dX6_addAccount_10 : decode cX6_addAccount 10 = .ok (.iload_n 1, 1) := by decide +kernel
theorem dX6_addAccount_11 : decode cX6_addAccount 11 = .ok (.invokevirtual 47, 3) := by decide +kernel
theorem dX6_addAccount_14 : decode cX6_addAccount 14 = .ok (.astore 4, 2) := by decide +kernel
theorem dX6_addAccount_16 : decode cX6_addAccount 16 = .ok (.iload_n 2, 1) := by decide +kernel
theorem dX6_addAccount_17 : decode cX6_addAccount 17 = .ok (.iconst 0, 1) := by decide +kernel
theorem dX6_addAccount_18 : decode cX6_addAccount 18 = .ok (.bipush 9, 2) := by decide +kernel
theorem dX6_addAccount_20 : decode cX6_addAccount 20 = .ok (.invokestatic 35, 3) := by decide +kernel
theorem dX6_addAccount_23 : decode cX6_addAccount 23 = .ok (.iload_n 3, 1) := by decide +kernel
theorem dX6_addAccount_24 : decode cX6_addAccount 24 = .ok (.iconst 0, 1) := by decide +kernel
theorem dX6_addAccount_25 : decode cX6_addAccount 25 = .ok (.bipush 9, 2) := by decide +kernel
theorem dX6_addAccount_27 : decode cX6_addAccount 27 = .ok (.invokestatic 35, 3) := by decide +kernel
theorem dX6_addAccount_30 : decode cX6_addAccount 30 = .ok (.aload_n 0, 1) := by decide +kernel
theorem dX6_addAccount_31 : decode cX6_addAccount 31 = .ok (.getfield 10, 3) := by decide +kernel
theorem dX6_addAccount_34 : decode cX6_addAccount 34 = .ok (.invokevirtual 51, 3) := by decide +kernel
theorem dX6_addAccount_37 : decode cX6_addAccount 37 = .ok (.bipush 16, 2) := by decide +kernel
theorem dX6_addAccount_39 : decode cX6_addAccount 39 = .ok (.invokestatic 55, 3) := by decide +kernel
theorem dX6_addAccount_42 : decode cX6_addAccount 42 = .ok (.aload_n 0, 1) := by decide +kernel
theorem dX6_addAccount_43 : decode cX6_addAccount 43 = .ok (.getfield 10, 3) := by decide +kernel
theorem dX6_addAccount_46 : decode cX6_addAccount 46 = .ok (.new 59, 3) := by decide +kernel
theorem dX6_addAccount_49 : decode cX6_addAccount 49 = .ok (.dup, 1) := by decide +kernel
theorem dX6_addAccount_50 : decode cX6_addAccount 50 = .ok (.aload 4, 2) := by decide +kernel
theorem dX6_addAccount_52 : decode cX6_addAccount 52 = .ok (.iload_n 2, 1) := by decide +kernel
theorem dX6_addAccount_53 : decode cX6_addAccount 53 = .ok (.iload_n 3, 1) := by decide +kernel
theorem dX6_addAccount_54 : decode cX6_addAccount 54 = .ok (.invokespecial 61, 3) := by decide +kernel
theorem dX6_addAccount_57 : decode cX6_addAccount 57 = .ok (.invokevirtual 64, 3) := by decide +kernel
theorem dX6_addAccount_60 : decode cX6_addAccount 60 = .ok (.pop, 1) := by decide +kernel
theorem dX6_addAccount_61 : decode cX6_addAccount 61 = .ok (.aload_n 0, 1) := by decide +kernel
theorem dX6_addAccount_62 : decode cX6_addAccount 62 = .ok (.getfield 10, 3) := by decide +kernel
theorem dX6_addAccount_65 : decode cX6_addAccount 65 = .ok (.invokevirtual 51, 3) := by decide +kernel
theorem dX6_addAccount_68 : decode cX6_addAccount 68 = .ok (.iconst 1, 1) := by decide +kernel
theorem dX6_addAccount_69 : decode cX6_addAccount 69 = .ok (.isub, 1) := by decide +kernel
theorem dX6_addAccount_70 : decode cX6_addAccount 70 = .ok (.ireturn, 1) := by decide +kernel
theorem dX6_putRule_0 : decode cX6_putRule 0 = .ok (.iload_n 1, 1) := by decide +kernel
theorem dX6_putRule_1 : decode cX6_putRule 1 = .ok (.ifCond .lt 14, 3) := by decide +kernel
theorem dX6_putRule_4 : decode cX6_putRule 4 = .ok (.iload_n 1, 1) := by decide +kernel
theorem dX6_putRule_5 : decode cX6_putRule 5 = .ok (.aload_n 0, 1) := by decide +kernel
theorem dX6_putRule_6 : decode cX6_putRule 6 = .ok (.getfield 16, 3) := by decide +kernel
theorem dX6_putRule_9 : decode cX6_putRule 9 = .ok (.invokevirtual 51, 3) := by decide +kernel
theorem dX6_putRule_12 : decode cX6_putRule 12 = .ok (.if_icmp .le 13, 3) := by decide +kernel
theorem dX6_putRule_15 : decode cX6_putRule 15 = .ok (.new 68, 3) := by decide +kernel
theorem dX6_putRule_18 : decode cX6_putRule 18 = .ok (.dup, 1) := by decide +kernel
theorem dX6_putRule_19 : decode cX6_putRule 19 = .ok (.ldc 70, 2) := by decide +kernel
theorem dX6_putRule_21 : decode cX6_putRule 21 = .ok (.invokespecial 72, 3) := by decide +kernel
theorem dX6_putRule_24 : decode cX6_putRule 24 = .ok (.athrow, 1) := by decide +kernel
theorem dX6_putRule_25 : decode cX6_putRule 25 = .ok (.iload_n 2, 1) := by decide +kernel
theorem dX6_putRule_26 : decode cX6_putRule 26 = .ok (.iconst 0, 1) := by decide +kernel
theorem dX6_putRule_27 : decode cX6_putRule 27 = .ok (.bipush 9, 2) := by decide +kernel
theorem dX6_putRule_29 : decode cX6_putRule 29 = .ok (.invokestatic 35, 3) := by decide +kernel
theorem dX6_putRule_32 : decode cX6_putRule 32 = .ok (.iload_n 3, 1) := by decide +kernel
theorem dX6_putRule_33 : decode cX6_putRule 33 = .ok (.iload_n 2, 1) := by decide +kernel
theorem dX6_putRule_34 : decode cX6_putRule 34 = .ok (.bipush 9, 2) := by decide +kernel
theorem dX6_putRule_36 : decode cX6_putRule 36 = .ok (.invokestatic 35, 3) := by decide +kernel
theorem dX6_putRule_39 : decode cX6_putRule 39 = .ok (.iload 4, 2) := by decide +kernel
theorem dX6_putRule_41 : decode cX6_putRule 41 = .ok (.iconst 0, 1) := by decide +kernel
theorem dX6_putRule_42 : decode cX6_putRule 42 = .ok (.bipush 9, 2) := by decide +kernel
theorem dX6_putRule_44 : decode cX6_putRule 44 = .ok (.invokestatic 35, 3) := by decide +kernel
theorem dX6_putRule_47 : decode cX6_putRule 47 = .ok (.iload 5, 2) := by decide +kernel
theorem dX6_putRule_49 : decode cX6_putRule 49 = .ok (.iconst 0, 1) := by decide +kernel
theorem dX6_putRule_50 : decode cX6_putRule 50 = .ok (.iconst 3, 1) := by decide +kernel
theorem dX6_putRule_51 : decode cX6_putRule 51 = .ok (.invokestatic 35, 3) := by decide +kernel
theorem dX6_putRule_54 : decode cX6_putRule 54 = .ok (.aload_n 0, 1) := by decide +kernel
theorem dX6_putRule_55 : decode cX6_putRule 55 = .ok (.getfield 16, 3) := by decide +kernel
theorem dX6_putRule_58 : decode cX6_putRule 58 = .ok (.invokevirtual 51, 3) := by decide +kernel
theorem dX6_putRule_61 : decode cX6_putRule 61 = .ok (.bipush 8, 2) := by decide +kernel
theorem dX6_putRule_63 : decode cX6_putRule 63 = .ok (.invokestatic 55, 3) := by decide +kernel
theorem dX6_putRule_66 : decode cX6_putRule 66 = .ok (.aload_n 0, 1) := by decide +kernel
theorem dX6_putRule_67 : decode cX6_putRule 67 = .ok (.getfield 16, 3) := by decide +kernel
theorem dX6_putRule_70 : decode cX6_putRule 70 = .ok (.iload_n 1, 1) := by decide +kernel
theorem dX6_putRule_71 : decode cX6_putRule 71 = .ok (.new 73, 3) := by decide +kernel
theorem dX6_putRule_74 : decode cX6_putRule 74 = .ok (.dup, 1) := by decide +kernel
theorem dX6_putRule_75 : decode cX6_putRule 75 = .ok (.iload_n 2, 1) := by decide +kernel
theorem dX6_putRule_76 : decode cX6_putRule 76 = .ok (.iload_n 3, 1) := by decide +kernel
theorem dX6_putRule_77 : decode cX6_putRule 77 = .ok (.iload 4, 2) := by decide +kernel
theorem dX6_putRule_79 : decode cX6_putRule 79 = .ok (.iload 5, 2) := by decide +kernel
theorem dX6_putRule_81 : decode cX6_putRule 81 = .ok (.invokespecial 75, 3) := by decide +kernel
theorem dX6_putRule_84 : decode cX6_putRule 84 = .ok (.invokevirtual 78, 3) := by decide +kernel
theorem dX6_putRule_87 : decode cX6_putRule 87 = .ok (.aload_n 0, 1) := by decide +kernel
theorem dX6_putRule_88 : decode cX6_putRule 88 = .ok (.getfield 16, 3) := by decide +kernel
theorem dX6_putRule_91 : decode cX6_putRule 91 = .ok (.invokevirtual 51, 3) := by decide +kernel
theorem dX6_putRule_94 : decode cX6_putRule 94 = .ok (.ireturn, 1) := by decide +kernel
theorem dX6_removeRule_0 : decode cX6_removeRule 0 = .ok (.iload_n 1, 1) := by decide +kernel
theorem dX6_removeRule_1 : decode cX6_removeRule 1 = .ok (.ifCond .lt 14, 3) := by decide +kernel
theorem dX6_removeRule_4 : decode cX6_removeRule 4 = .ok (.iload_n 1, 1) := by decide +kernel
theorem dX6_removeRule_5 : decode cX6_removeRule 5 = .ok (.aload_n 0, 1) := by decide +kernel
theorem dX6_removeRule_6 : decode cX6_removeRule 6 = .ok (.getfield 16, 3) := by decide +kernel
theorem dX6_removeRule_9 : decode cX6_removeRule 9 = .ok (.invokevirtual 51, 3) := by decide +kernel
theorem dX6_removeRule_12 : decode cX6_removeRule 12 = .ok (.if_icmp .lt 13, 3) := by decide +kernel
theorem dX6_removeRule_15 : decode cX6_removeRule 15 = .ok (.new 68, 3) := by decide +kernel
theorem dX6_removeRule_18 : decode cX6_removeRule 18 = .ok (.dup, 1) := by decide +kernel
theorem dX6_removeRule_19 : decode cX6_removeRule 19 = .ok (.ldc 81, 2) := by decide +kernel
theorem dX6_removeRule_21 : decode cX6_removeRule 21 = .ok (.invokespecial 72, 3) := by decide +kernel
theorem dX6_removeRule_24 : decode cX6_removeRule 24 = .ok (.athrow, 1) := by decide +kernel
theorem dX6_removeRule_25 : decode cX6_removeRule 25 = .ok (.aload_n 0, 1) := by decide +kernel
theorem dX6_removeRule_26 : decode cX6_removeRule 26 = .ok (.getfield 16, 3) := by decide +kernel
theorem dX6_removeRule_29 : decode cX6_removeRule 29 = .ok (.iload_n 1, 1) := by decide +kernel
theorem dX6_removeRule_30 : decode cX6_removeRule 30 = .ok (.invokevirtual 83, 3) := by decide +kernel
theorem dX6_removeRule_33 : decode cX6_removeRule 33 = .ok (.pop, 1) := by decide +kernel
theorem dX6_removeRule_34 : decode cX6_removeRule 34 = .ok (.aload_n 0, 1) := by decide +kernel
theorem dX6_removeRule_35 : decode cX6_removeRule 35 = .ok (.getfield 16, 3) := by decide +kernel
theorem dX6_removeRule_38 : decode cX6_removeRule 38 = .ok (.invokevirtual 51, 3) := by decide +kernel
theorem dX6_removeRule_41 : decode cX6_removeRule 41 = .ok (.ireturn, 1) := by decide +kernel
theorem dX6_except_0 : decode cX6_except 0 = .ok (.aload_n 0, 1) := by decide +kernel
theorem dX6_except_1 : decode cX6_except 1 = .ok (.iload_n 1, 1) := by decide +kernel
theorem dX6_except_2 : decode cX6_except 2 = .ok (.invokevirtual 47, 3) := by decide +kernel
theorem dX6_except_5 : decode cX6_except 5 = .ok (.astore_n 3, 1) := by decide +kernel
theorem dX6_except_6 : decode cX6_except 6 = .ok (.iload_n 2, 1) := by decide +kernel
theorem dX6_except_7 : decode cX6_except 7 = .ok (.iconst (-1), 1) := by decide +kernel
theorem dX6_except_8 : decode cX6_except 8 = .ok (.iconst 3, 1) := by decide +kernel
theorem dX6_except_9 : decode cX6_except 9 = .ok (.invokestatic 35, 3) := by decide +kernel
theorem dX6_except_12 : decode cX6_except 12 = .ok (.aload_n 3, 1) := by decide +kernel
theorem dX6_except_13 : decode cX6_except 13 = .ok (.getfield 87, 3) := by decide +kernel
theorem dX6_except_16 : decode cX6_except 16 = .ok (.istore 4, 2) := by decide +kernel
theorem dX6_except_18 : decode cX6_except 18 = .ok (.aload_n 3, 1) := by decide +kernel
theorem dX6_except_19 : decode cX6_except 19 = .ok (.iload_n 2, 1) := by decide +kernel
theorem dX6_except_20 : decode cX6_except 20 = .ok (.putfield 87, 3) := by decide +kernel
theorem dX6_except_23 : decode cX6_except 23 = .ok (.iload 4, 2) := by decide +kernel
theorem dX6_except_25 : decode cX6_except 25 = .ok (.ireturn, 1) := by decide +kernel
theorem dX6_regionOf_0 : decode cX6_regionOf 0 = .ok (.aload_n 0, 1) := by decide +kernel
theorem dX6_regionOf_1 : decode cX6_regionOf 1 = .ok (.aload_n 0, 1) := by decide +kernel
theorem dX6_regionOf_2 : decode cX6_regionOf 2 = .ok (.iload_n 1, 1) := by decide +kernel
theorem dX6_regionOf_3 : decode cX6_regionOf 3 = .ok (.invokevirtual 47, 3) := by decide +kernel
theorem dX6_regionOf_6 : decode cX6_regionOf 6 = .ok (.invokevirtual 90, 3) := by decide +kernel
theorem dX6_regionOf_9 : decode cX6_regionOf 9 = .ok (.ireturn, 1) := by decide +kernel
theorem dX6_addSeller_0 : decode cX6_addSeller 0 = .ok (.iload_n 1, 1) := by decide +kernel
theorem dX6_addSeller_1 : decode cX6_addSeller 1 = .ok (.iconst (-1), 1) := by decide +kernel
theorem dX6_addSeller_2 : decode cX6_addSeller 2 = .ok (.if_icmp .ne 7, 3) := by decide +kernel
theorem dX6_addSeller_5 : decode cX6_addSeller 5 = .ok (.aconst_null, 1) := by decide +kernel
theorem dX6_addSeller_6 : decode cX6_addSeller 6 = .ok (.goto 8, 3) := by decide +kernel
theorem dX6_addSeller_9 : decode cX6_addSeller 9 = .ok (.aload_n 0, 1) := by decide +kernel
theorem dX6_addSeller_10 : decode cX6_addSeller 10 = .ok (.iload_n 1, 1) := by decide +kernel
theorem dX6_addSeller_11 : decode cX6_addSeller 11 = .ok (.invokevirtual 94, 3) := by decide +kernel
theorem dX6_addSeller_14 : decode cX6_addSeller 14 = .ok (.astore_n 3, 1) := by decide +kernel
theorem dX6_addSeller_15 : decode cX6_addSeller 15 = .ok (.iload_n 2, 1) := by decide +kernel
theorem dX6_addSeller_16 : decode cX6_addSeller 16 = .ok (.iconst 0, 1) := by decide +kernel
theorem dX6_addSeller_17 : decode cX6_addSeller 17 = .ok (.bipush 99, 2) := by decide +kernel
theorem dX6_addSeller_19 : decode cX6_addSeller 19 = .ok (.invokestatic 35, 3) := by decide +kernel
theorem dX6_addSeller_22 : decode cX6_addSeller 22 = .ok (.aload_n 0, 1) := by decide +kernel
theorem dX6_addSeller_23 : decode cX6_addSeller 23 = .ok (.getfield 19, 3) := by decide +kernel
theorem dX6_addSeller_26 : decode cX6_addSeller 26 = .ok (.invokevirtual 51, 3) := by decide +kernel
theorem dX6_addSeller_29 : decode cX6_addSeller 29 = .ok (.bipush 8, 2) := by decide +kernel
theorem dX6_addSeller_31 : decode cX6_addSeller 31 = .ok (.invokestatic 55, 3) := by decide +kernel
theorem dX6_addSeller_34 : decode cX6_addSeller 34 = .ok (.aload_n 0, 1) := by decide +kernel
theorem dX6_addSeller_35 : decode cX6_addSeller 35 = .ok (.getfield 19, 3) := by decide +kernel
theorem dX6_addSeller_38 : decode cX6_addSeller 38 = .ok (.new 98, 3) := by decide +kernel
theorem dX6_addSeller_41 : decode cX6_addSeller 41 = .ok (.dup, 1) := by decide +kernel
theorem dX6_addSeller_42 : decode cX6_addSeller 42 = .ok (.aload_n 0, 1) := by decide +kernel
theorem dX6_addSeller_43 : decode cX6_addSeller 43 = .ok (.getfield 19, 3) := by decide +kernel
theorem dX6_addSeller_46 : decode cX6_addSeller 46 = .ok (.invokevirtual 51, 3) := by decide +kernel
theorem dX6_addSeller_49 : decode cX6_addSeller 49 = .ok (.aload_n 3, 1) := by decide +kernel
theorem dX6_addSeller_50 : decode cX6_addSeller 50 = .ok (.iload_n 2, 1) := by decide +kernel
theorem dX6_addSeller_51 : decode cX6_addSeller 51 = .ok (.invokespecial 100, 3) := by decide +kernel
theorem dX6_addSeller_54 : decode cX6_addSeller 54 = .ok (.invokevirtual 64, 3) := by decide +kernel
theorem dX6_addSeller_57 : decode cX6_addSeller 57 = .ok (.pop, 1) := by decide +kernel
theorem dX6_addSeller_58 : decode cX6_addSeller 58 = .ok (.aload_n 0, 1) := by decide +kernel
theorem dX6_addSeller_59 : decode cX6_addSeller 59 = .ok (.getfield 19, 3) := by decide +kernel
theorem dX6_addSeller_62 : decode cX6_addSeller 62 = .ok (.invokevirtual 51, 3) := by decide +kernel
theorem dX6_addSeller_65 : decode cX6_addSeller 65 = .ok (.iconst 1, 1) := by decide +kernel
theorem dX6_addSeller_66 : decode cX6_addSeller 66 = .ok (.isub, 1) := by decide +kernel
theorem dX6_addSeller_67 : decode cX6_addSeller 67 = .ok (.ireturn, 1) := by decide +kernel
theorem dX6_adjust_0 : decode cX6_adjust 0 = .ok (.aload_n 0, 1) := by decide +kernel
theorem dX6_adjust_1 : decode cX6_adjust 1 = .ok (.iload_n 1, 1) := by decide +kernel
theorem dX6_adjust_2 : decode cX6_adjust 2 = .ok (.invokevirtual 94, 3) := by decide +kernel
theorem dX6_adjust_5 : decode cX6_adjust 5 = .ok (.astore_n 3, 1) := by decide +kernel
theorem dX6_adjust_6 : decode cX6_adjust 6 = .ok (.iload_n 2, 1) := by decide +kernel
theorem dX6_adjust_7 : decode cX6_adjust 7 = .ok (.ldc 103, 2) := by decide +kernel
theorem dX6_adjust_9 : decode cX6_adjust 9 = .ok (.ldc 104, 2) := by decide +kernel
theorem dX6_adjust_11 : decode cX6_adjust 11 = .ok (.invokestatic 35, 3) := by decide +kernel
theorem dX6_adjust_14 : decode cX6_adjust 14 = .ok (.aload_n 3, 1) := by decide +kernel
theorem dX6_adjust_15 : decode cX6_adjust 15 = .ok (.getfield 105, 3) := by decide +kernel
theorem dX6_adjust_18 : decode cX6_adjust 18 = .ok (.istore 4, 2) := by decide +kernel
theorem dX6_adjust_20 : decode cX6_adjust 20 = .ok (.aload_n 3, 1) := by decide +kernel
theorem dX6_adjust_21 : decode cX6_adjust 21 = .ok (.iload_n 2, 1) := by decide +kernel
theorem dX6_adjust_22 : decode cX6_adjust 22 = .ok (.putfield 105, 3) := by decide +kernel
theorem dX6_adjust_25 : decode cX6_adjust 25 = .ok (.iload 4, 2) := by decide +kernel
theorem dX6_adjust_27 : decode cX6_adjust 27 = .ok (.ireturn, 1) := by decide +kernel
theorem dX6_addChance_0 : decode cX6_addChance 0 = .ok (.aload_n 0, 1) := by decide +kernel
theorem dX6_addChance_1 : decode cX6_addChance 1 = .ok (.iload_n 1, 1) := by decide +kernel
theorem dX6_addChance_2 : decode cX6_addChance 2 = .ok (.invokevirtual 47, 3) := by decide +kernel
theorem dX6_addChance_5 : decode cX6_addChance 5 = .ok (.astore 4, 2) := by decide +kernel
theorem dX6_addChance_7 : decode cX6_addChance 7 = .ok (.aload_n 0, 1) := by decide +kernel
theorem dX6_addChance_8 : decode cX6_addChance 8 = .ok (.iload_n 2, 1) := by decide +kernel
theorem dX6_addChance_9 : decode cX6_addChance 9 = .ok (.invokevirtual 94, 3) := by decide +kernel
theorem dX6_addChance_12 : decode cX6_addChance 12 = .ok (.astore 5, 2) := by decide +kernel
theorem dX6_addChance_14 : decode cX6_addChance 14 = .ok (.iload_n 3, 1) := by decide +kernel
theorem dX6_addChance_15 : decode cX6_addChance 15 = .ok (.iconst 1, 1) := by decide +kernel
theorem dX6_addChance_16 : decode cX6_addChance 16 = .ok (.ldc 104, 2) := by decide +kernel
theorem dX6_addChance_18 : decode cX6_addChance 18 = .ok (.invokestatic 35, 3) := by decide +kernel
theorem dX6_addChance_21 : decode cX6_addChance 21 = .ok (.aload_n 0, 1) := by decide +kernel
theorem dX6_addChance_22 : decode cX6_addChance 22 = .ok (.getfield 22, 3) := by decide +kernel
theorem dX6_addChance_25 : decode cX6_addChance 25 = .ok (.invokevirtual 51, 3) := by decide +kernel
theorem dX6_addChance_28 : decode cX6_addChance 28 = .ok (.bipush 30, 2) := by decide +kernel
theorem dX6_addChance_30 : decode cX6_addChance 30 = .ok (.invokestatic 55, 3) := by decide +kernel
theorem dX6_addChance_33 : decode cX6_addChance 33 = .ok (.new 108, 3) := by decide +kernel
theorem dX6_addChance_36 : decode cX6_addChance 36 = .ok (.dup, 1) := by decide +kernel
theorem dX6_addChance_37 : decode cX6_addChance 37 = .ok (.aload 4, 2) := by decide +kernel
theorem dX6_addChance_39 : decode cX6_addChance 39 = .ok (.iload_n 3, 1) := by decide +kernel
theorem dX6_addChance_40 : decode cX6_addChance 40 = .ok (.aload_n 0, 1) := by decide +kernel
theorem dX6_addChance_41 : decode cX6_addChance 41 = .ok (.getfield 31, 3) := by decide +kernel
theorem dX6_addChance_44 : decode cX6_addChance 44 = .ok (.invokespecial 110, 3) := by decide +kernel
theorem dX6_addChance_47 : decode cX6_addChance 47 = .ok (.astore 6, 2) := by decide +kernel
theorem dX6_addChance_49 : decode cX6_addChance 49 = .ok (.aload 6, 2) := by decide +kernel
theorem dX6_addChance_51 : decode cX6_addChance 51 = .ok (.getfield 111, 3) := by decide +kernel
theorem dX6_addChance_54 : decode cX6_addChance 54 = .ok (.aload 5, 2) := by decide +kernel
theorem dX6_addChance_56 : decode cX6_addChance 56 = .ok (.getfield 115, 3) := by decide +kernel
theorem dX6_addChance_59 : decode cX6_addChance 59 = .ok (.bipush 100, 2) := by decide +kernel
theorem dX6_addChance_61 : decode cX6_addChance 61 = .ok (.invokestatic 118, 3) := by decide +kernel
theorem dX6_addChance_64 : decode cX6_addChance 64 = .ok (.aload_n 0, 1) := by decide +kernel
theorem dX6_addChance_65 : decode cX6_addChance 65 = .ok (.getfield 22, 3) := by decide +kernel
theorem dX6_addChance_68 : decode cX6_addChance 68 = .ok (.aload 6, 2) := by decide +kernel
theorem dX6_addChance_70 : decode cX6_addChance 70 = .ok (.invokevirtual 64, 3) := by decide +kernel
theorem dX6_addChance_73 : decode cX6_addChance 73 = .ok (.pop, 1) := by decide +kernel
theorem dX6_addChance_74 : decode cX6_addChance 74 = .ok (.aload_n 0, 1) := by decide +kernel
theorem dX6_addChance_75 : decode cX6_addChance 75 = .ok (.getfield 22, 3) := by decide +kernel
theorem dX6_addChance_78 : decode cX6_addChance 78 = .ok (.invokevirtual 51, 3) := by decide +kernel
theorem dX6_addChance_81 : decode cX6_addChance 81 = .ok (.iconst 1, 1) := by decide +kernel
theorem dX6_addChance_82 : decode cX6_addChance 82 = .ok (.isub, 1) := by decide +kernel
theorem dX6_addChance_83 : decode cX6_addChance 83 = .ok (.ireturn, 1) := by decide +kernel
theorem dX6_giveShare_0 : decode cX6_giveShare 0 = .ok (.aload_n 0, 1) := by decide +kernel
theorem dX6_giveShare_1 : decode cX6_giveShare 1 = .ok (.iload_n 1, 1) := by decide +kernel
theorem dX6_giveShare_2 : decode cX6_giveShare 2 = .ok (.invokevirtual 122, 3) := by decide +kernel
theorem dX6_giveShare_5 : decode cX6_giveShare 5 = .ok (.astore 5, 2) := by decide +kernel
theorem dX6_giveShare_7 : decode cX6_giveShare 7 = .ok (.aload_n 0, 1) := by decide +kernel
theorem dX6_giveShare_8 : decode cX6_giveShare 8 = .ok (.iload_n 2, 1) := by decide +kernel
theorem dX6_giveShare_9 : decode cX6_giveShare 9 = .ok (.invokevirtual 94, 3) := by decide +kernel
theorem dX6_giveShare_12 : decode cX6_giveShare 12 = .ok (.astore 6, 2) := by decide +kernel
theorem dX6_giveShare_14 : decode cX6_giveShare 14 = .ok (.aload_n 0, 1) := by decide +kernel
theorem dX6_giveShare_15 : decode cX6_giveShare 15 = .ok (.iload_n 3, 1) := by decide +kernel
theorem dX6_giveShare_16 : decode cX6_giveShare 16 = .ok (.invokevirtual 94, 3) := by decide +kernel
theorem dX6_giveShare_19 : decode cX6_giveShare 19 = .ok (.astore 7, 2) := by decide +kernel
theorem dX6_giveShare_21 : decode cX6_giveShare 21 = .ok (.iload 4, 2) := by decide +kernel
theorem dX6_giveShare_23 : decode cX6_giveShare 23 = .ok (.iconst 1, 1) := by decide +kernel
theorem dX6_giveShare_24 : decode cX6_giveShare 24 = .ok (.bipush 100, 2) := by decide +kernel
theorem dX6_giveShare_26 : decode cX6_giveShare 26 = .ok (.invokestatic 35, 3) := by decide +kernel
theorem dX6_giveShare_29 : decode cX6_giveShare 29 = .ok (.aload 6, 2) := by decide +kernel
theorem dX6_giveShare_31 : decode cX6_giveShare 31 = .ok (.aload 7, 2) := by decide +kernel
theorem dX6_giveShare_33 : decode cX6_giveShare 33 = .ok (.if_acmp .ne 13, 3) := by decide +kernel
theorem dX6_giveShare_36 : decode cX6_giveShare 36 = .ok (.new 126, 3) := by decide +kernel
theorem dX6_giveShare_39 : decode cX6_giveShare 39 = .ok (.dup, 1) := by decide +kernel
theorem dX6_giveShare_40 : decode cX6_giveShare 40 = .ok (.ldc 128, 2) := by decide +kernel
theorem dX6_giveShare_42 : decode cX6_giveShare 42 = .ok (.invokespecial 130, 3) := by decide +kernel
theorem dX6_giveShare_45 : decode cX6_giveShare 45 = .ok (.athrow, 1) := by decide +kernel
theorem dX6_giveShare_46 : decode cX6_giveShare 46 = .ok (.aload 5, 2) := by decide +kernel
theorem dX6_giveShare_48 : decode cX6_giveShare 48 = .ok (.invokestatic 131, 3) := by decide +kernel
theorem dX6_giveShare_51 : decode cX6_giveShare 51 = .ok (.aload 5, 2) := by decide +kernel
theorem dX6_giveShare_53 : decode cX6_giveShare 53 = .ok (.getfield 111, 3) := by decide +kernel
theorem dX6_giveShare_56 : decode cX6_giveShare 56 = .ok (.aload 6, 2) := by decide +kernel
theorem dX6_giveShare_58 : decode cX6_giveShare 58 = .ok (.getfield 115, 3) := by decide +kernel
theorem dX6_giveShare_61 : decode cX6_giveShare 61 = .ok (.invokestatic 135, 3) := by decide +kernel
theorem dX6_giveShare_64 : decode cX6_giveShare 64 = .ok (.iload 4, 2) := by decide +kernel
theorem dX6_giveShare_66 : decode cX6_giveShare 66 = .ok (.if_icmp .ge 13, 3) := by decide +kernel
theorem dX6_giveShare_69 : decode cX6_giveShare 69 = .ok (.new 40, 3) := by decide +kernel
theorem dX6_giveShare_72 : decode cX6_giveShare 72 = .ok (.dup, 1) := by decide +kernel
theorem dX6_giveShare_73 : decode cX6_giveShare 73 = .ok (.ldc 139, 2) := by decide +kernel
theorem dX6_giveShare_75 : decode cX6_giveShare 75 = .ok (.invokespecial 44, 3) := by decide +kernel
theorem dX6_giveShare_78 : decode cX6_giveShare 78 = .ok (.athrow, 1) := by decide +kernel
theorem dX6_giveShare_79 : decode cX6_giveShare 79 = .ok (.aload 5, 2) := by decide +kernel
theorem dX6_giveShare_81 : decode cX6_giveShare 81 = .ok (.getfield 111, 3) := by decide +kernel
theorem dX6_giveShare_84 : decode cX6_giveShare 84 = .ok (.aload 6, 2) := by decide +kernel
theorem dX6_giveShare_86 : decode cX6_giveShare 86 = .ok (.getfield 115, 3) := by decide +kernel
theorem dX6_giveShare_89 : decode cX6_giveShare 89 = .ok (.iload 4, 2) := by decide +kernel
theorem dX6_giveShare_91 : decode cX6_giveShare 91 = .ok (.ineg, 1) := by decide +kernel
theorem dX6_giveShare_92 : decode cX6_giveShare 92 = .ok (.invokestatic 118, 3) := by decide +kernel
theorem dX6_giveShare_95 : decode cX6_giveShare 95 = .ok (.aload 5, 2) := by decide +kernel
theorem dX6_giveShare_97 : decode cX6_giveShare 97 = .ok (.getfield 111, 3) := by decide +kernel
theorem dX6_giveShare_100 : decode cX6_giveShare 100 = .ok (.aload 7, 2) := by decide +kernel
theorem dX6_giveShare_102 : decode cX6_giveShare 102 = .ok (.getfield 115, 3) := by decide +kernel
theorem dX6_giveShare_105 : decode cX6_giveShare 105 = .ok (.iload 4, 2) := by decide +kernel
theorem dX6_giveShare_107 : decode cX6_giveShare 107 = .ok (.invokestatic 118, 3) := by decide +kernel
theorem dX6_giveShare_110 : decode cX6_giveShare 110 = .ok (.aload 5, 2) := by decide +kernel
theorem dX6_giveShare_112 : decode cX6_giveShare 112 = .ok (.getfield 111, 3) := by decide +kernel
theorem dX6_giveShare_115 : decode cX6_giveShare 115 = .ok (.aload 7, 2) := by decide +kernel
theorem dX6_giveShare_117 : decode cX6_giveShare 117 = .ok (.getfield 115, 3) := by decide +kernel
theorem dX6_giveShare_120 : decode cX6_giveShare 120 = .ok (.invokestatic 135, 3) := by decide +kernel
theorem dX6_giveShare_123 : decode cX6_giveShare 123 = .ok (.ireturn, 1) := by decide +kernel
theorem dX6_move_0 : decode cX6_move 0 = .ok (.aload_n 0, 1) := by decide +kernel
theorem dX6_move_1 : decode cX6_move 1 = .ok (.iload_n 1, 1) := by decide +kernel
theorem dX6_move_2 : decode cX6_move 2 = .ok (.invokevirtual 122, 3) := by decide +kernel
theorem dX6_move_5 : decode cX6_move 5 = .ok (.astore_n 3, 1) := by decide +kernel
theorem dX6_move_6 : decode cX6_move 6 = .ok (.iload_n 2, 1) := by decide +kernel
theorem dX6_move_7 : decode cX6_move 7 = .ok (.invokestatic 141, 3) := by decide +kernel
theorem dX6_move_10 : decode cX6_move 10 = .ok (.aload_n 3, 1) := by decide +kernel
theorem dX6_move_11 : decode cX6_move 11 = .ok (.iload_n 2, 1) := by decide +kernel
theorem dX6_move_12 : decode cX6_move 12 = .ok (.invokestatic 145, 3) := by decide +kernel
theorem dX6_move_15 : decode cX6_move 15 = .ok (.ifCond .ne 13, 3) := by decide +kernel
theorem dX6_move_18 : decode cX6_move 18 = .ok (.new 40, 3) := by decide +kernel
theorem dX6_move_21 : decode cX6_move 21 = .ok (.dup, 1) := by decide +kernel
theorem dX6_move_22 : decode cX6_move 22 = .ok (.ldc 149, 2) := by decide +kernel
theorem dX6_move_24 : decode cX6_move 24 = .ok (.invokespecial 44, 3) := by decide +kernel
theorem dX6_move_27 : decode cX6_move 27 = .ok (.athrow, 1) := by decide +kernel
theorem dX6_move_28 : decode cX6_move 28 = .ok (.aload_n 0, 1) := by decide +kernel
theorem dX6_move_29 : decode cX6_move 29 = .ok (.getfield 31, 3) := by decide +kernel
theorem dX6_move_32 : decode cX6_move 32 = .ok (.aload_n 3, 1) := by decide +kernel
theorem dX6_move_33 : decode cX6_move 33 = .ok (.getfield 151, 3) := by decide +kernel
theorem dX6_move_36 : decode cX6_move 36 = .ok (.isub, 1) := by decide +kernel
theorem dX6_move_37 : decode cX6_move 37 = .ok (.istore 4, 2) := by decide +kernel
theorem dX6_move_39 : decode cX6_move 39 = .ok (.aload_n 3, 1) := by decide +kernel
theorem dX6_move_40 : decode cX6_move 40 = .ok (.getfield 154, 3) := by decide +kernel
theorem dX6_move_43 : decode cX6_move 43 = .ok (.aload_n 3, 1) := by decide +kernel
theorem dX6_move_44 : decode cX6_move 44 = .ok (.getfield 157, 3) := by decide +kernel
theorem dX6_move_47 : decode cX6_move 47 = .ok (.iload 4, 2) := by decide +kernel
theorem dX6_move_49 : decode cX6_move 49 = .ok (.invokestatic 118, 3) := by decide +kernel
theorem dX6_move_52 : decode cX6_move 52 = .ok (.aload_n 3, 1) := by decide +kernel
theorem dX6_move_53 : decode cX6_move 53 = .ok (.iload_n 2, 1) := by decide +kernel
theorem dX6_move_54 : decode cX6_move 54 = .ok (.putfield 157, 3) := by decide +kernel
theorem dX6_move_57 : decode cX6_move 57 = .ok (.aload_n 3, 1) := by decide +kernel
theorem dX6_move_58 : decode cX6_move 58 = .ok (.aload_n 0, 1) := by decide +kernel
theorem dX6_move_59 : decode cX6_move 59 = .ok (.getfield 31, 3) := by decide +kernel
theorem dX6_move_62 : decode cX6_move 62 = .ok (.putfield 151, 3) := by decide +kernel
theorem dX6_move_65 : decode cX6_move 65 = .ok (.aload_n 3, 1) := by decide +kernel
theorem dX6_move_66 : decode cX6_move 66 = .ok (.invokestatic 160, 3) := by decide +kernel
theorem dX6_move_69 : decode cX6_move 69 = .ok (.ifCond .ne 15, 3) := by decide +kernel
theorem dX6_move_72 : decode cX6_move 72 = .ok (.aload_n 3, 1) := by decide +kernel
theorem dX6_move_73 : decode cX6_move 73 = .ok (.aload_n 0, 1) := by decide +kernel
theorem dX6_move_74 : decode cX6_move 74 = .ok (.aload_n 3, 1) := by decide +kernel
theorem dX6_move_75 : decode cX6_move 75 = .ok (.getfield 164, 3) := by decide +kernel
theorem dX6_move_78 : decode cX6_move 78 = .ok (.invokevirtual 90, 3) := by decide +kernel
theorem dX6_move_81 : decode cX6_move 81 = .ok (.putfield 168, 3) := by decide +kernel
theorem dX6_move_84 : decode cX6_move 84 = .ok (.iload 4, 2) := by decide +kernel
theorem dX6_move_86 : decode cX6_move 86 = .ok (.ireturn, 1) := by decide +kernel
theorem dX6_stage_0 : decode cX6_stage 0 = .ok (.aload_n 0, 1) := by decide +kernel
theorem dX6_stage_1 : decode cX6_stage 1 = .ok (.iload_n 1, 1) := by decide +kernel
theorem dX6_stage_2 : decode cX6_stage 2 = .ok (.invokevirtual 122, 3) := by decide +kernel
theorem dX6_stage_5 : decode cX6_stage 5 = .ok (.getfield 157, 3) := by decide +kernel
theorem dX6_stage_8 : decode cX6_stage 8 = .ok (.ireturn, 1) := by decide +kernel
theorem dX6_daysIn_0 : decode cX6_daysIn 0 = .ok (.aload_n 0, 1) := by decide +kernel
theorem dX6_daysIn_1 : decode cX6_daysIn 1 = .ok (.iload_n 1, 1) := by decide +kernel
theorem dX6_daysIn_2 : decode cX6_daysIn 2 = .ok (.invokevirtual 122, 3) := by decide +kernel
theorem dX6_daysIn_5 : decode cX6_daysIn 5 = .ok (.astore_n 3, 1) := by decide +kernel
theorem dX6_daysIn_6 : decode cX6_daysIn 6 = .ok (.iload_n 2, 1) := by decide +kernel
theorem dX6_daysIn_7 : decode cX6_daysIn 7 = .ok (.invokestatic 141, 3) := by decide +kernel
theorem dX6_daysIn_10 : decode cX6_daysIn 10 = .ok (.aload_n 3, 1) := by decide +kernel
theorem dX6_daysIn_11 : decode cX6_daysIn 11 = .ok (.getfield 154, 3) := by decide +kernel
theorem dX6_daysIn_14 : decode cX6_daysIn 14 = .ok (.iload_n 2, 1) := by decide +kernel
theorem dX6_daysIn_15 : decode cX6_daysIn 15 = .ok (.invokestatic 135, 3) := by decide +kernel
theorem dX6_daysIn_18 : decode cX6_daysIn 18 = .ok (.istore 4, 2) := by decide +kernel
theorem dX6_daysIn_20 : decode cX6_daysIn 20 = .ok (.aload_n 3, 1) := by decide +kernel
theorem dX6_daysIn_21 : decode cX6_daysIn 21 = .ok (.getfield 157, 3) := by decide +kernel
theorem dX6_daysIn_24 : decode cX6_daysIn 24 = .ok (.iload_n 2, 1) := by decide +kernel
theorem dX6_daysIn_25 : decode cX6_daysIn 25 = .ok (.if_icmp .ne 18, 3) := by decide +kernel
theorem dX6_daysIn_28 : decode cX6_daysIn 28 = .ok (.iload 4, 2) := by decide +kernel
theorem dX6_daysIn_30 : decode cX6_daysIn 30 = .ok (.aload_n 0, 1) := by decide +kernel
theorem dX6_daysIn_31 : decode cX6_daysIn 31 = .ok (.getfield 31, 3) := by decide +kernel
theorem dX6_daysIn_34 : decode cX6_daysIn 34 = .ok (.iadd, 1) := by decide +kernel
theorem dX6_daysIn_35 : decode cX6_daysIn 35 = .ok (.aload_n 3, 1) := by decide +kernel
theorem dX6_daysIn_36 : decode cX6_daysIn 36 = .ok (.getfield 151, 3) := by decide +kernel
theorem dX6_daysIn_39 : decode cX6_daysIn 39 = .ok (.isub, 1) := by decide +kernel
theorem dX6_daysIn_40 : decode cX6_daysIn 40 = .ok (.goto 5, 3) := by decide +kernel
theorem dX6_daysIn_43 : decode cX6_daysIn 43 = .ok (.iload 4, 2) := by decide +kernel
theorem dX6_daysIn_45 : decode cX6_daysIn 45 = .ok (.ireturn, 1) := by decide +kernel
theorem dX6_stalled_0 : decode cX6_stalled 0 = .ok (.iload_n 1, 1) := by decide +kernel
theorem dX6_stalled_1 : decode cX6_stalled 1 = .ok (.iconst 0, 1) := by decide +kernel
theorem dX6_stalled_2 : decode cX6_stalled 2 = .ok (.ldc 39, 2) := by decide +kernel
theorem dX6_stalled_4 : decode cX6_stalled 4 = .ok (.invokestatic 35, 3) := by decide +kernel
theorem dX6_stalled_7 : decode cX6_stalled 7 = .ok (.iconst 0, 1) := by decide +kernel
theorem dX6_stalled_8 : decode cX6_stalled 8 = .ok (.istore_n 2, 1) := by decide +kernel
theorem dX6_stalled_9 : decode cX6_stalled 9 = .ok (.iconst 0, 1) := by decide +kernel
theorem dX6_stalled_10 : decode cX6_stalled 10 = .ok (.istore_n 3, 1) := by decide +kernel
theorem dX6_stalled_11 : decode cX6_stalled 11 = .ok (.iload_n 3, 1) := by decide +kernel
theorem dX6_stalled_12 : decode cX6_stalled 12 = .ok (.aload_n 0, 1) := by decide +kernel
theorem dX6_stalled_13 : decode cX6_stalled 13 = .ok (.getfield 22, 3) := by decide +kernel
theorem dX6_stalled_16 : decode cX6_stalled 16 = .ok (.invokevirtual 51, 3) := by decide +kernel
theorem dX6_stalled_19 : decode cX6_stalled 19 = .ok (.if_icmp .ge 47, 3) := by decide +kernel
theorem dX6_stalled_22 : decode cX6_stalled 22 = .ok (.aload_n 0, 1) := by decide +kernel
theorem dX6_stalled_23 : decode cX6_stalled 23 = .ok (.getfield 22, 3) := by decide +kernel
theorem dX6_stalled_26 : decode cX6_stalled 26 = .ok (.iload_n 3, 1) := by decide +kernel
theorem dX6_stalled_27 : decode cX6_stalled 27 = .ok (.invokevirtual 171, 3) := by decide +kernel
theorem dX6_stalled_30 : decode cX6_stalled 30 = .ok (.checkcast 108, 3) := by decide +kernel
theorem dX6_stalled_33 : decode cX6_stalled 33 = .ok (.astore 4, 2) := by decide +kernel
theorem dX6_stalled_35 : decode cX6_stalled 35 = .ok (.aload 4, 2) := by decide +kernel
theorem dX6_stalled_37 : decode cX6_stalled 37 = .ok (.invokestatic 160, 3) := by decide +kernel
theorem dX6_stalled_40 : decode cX6_stalled 40 = .ok (.ifCond .eq 20, 3) := by decide +kernel
theorem dX6_stalled_43 : decode cX6_stalled 43 = .ok (.aload_n 0, 1) := by decide +kernel
theorem dX6_stalled_44 : decode cX6_stalled 44 = .ok (.getfield 31, 3) := by decide +kernel
theorem dX6_stalled_47 : decode cX6_stalled 47 = .ok (.aload 4, 2) := by decide +kernel
theorem dX6_stalled_49 : decode cX6_stalled 49 = .ok (.getfield 151, 3) := by decide +kernel
theorem dX6_stalled_52 : decode cX6_stalled 52 = .ok (.isub, 1) := by decide +kernel
theorem dX6_stalled_53 : decode cX6_stalled 53 = .ok (.iload_n 1, 1) := by decide +kernel
theorem dX6_stalled_54 : decode cX6_stalled 54 = .ok (.if_icmp .le 6, 3) := by decide +kernel
theorem dX6_stalled_57 : decode cX6_stalled 57 = .ok (.iinc 2 1, 3) := by decide +kernel
theorem dX6_stalled_60 : decode cX6_stalled 60 = .ok (.iinc 3 1, 3) := by decide +kernel
theorem dX6_stalled_63 : decode cX6_stalled 63 = .ok (.goto (-52), 3) := by decide +kernel
theorem dX6_stalled_66 : decode cX6_stalled 66 = .ok (.iload_n 2, 1) := by decide +kernel
theorem dX6_stalled_67 : decode cX6_stalled 67 = .ok (.ireturn, 1) := by decide +kernel
theorem dX6_worth_0 : decode cX6_worth 0 = .ok (.aload_n 0, 1) := by decide +kernel
theorem dX6_worth_1 : decode cX6_worth 1 = .ok (.iload_n 1, 1) := by decide +kernel
theorem dX6_worth_2 : decode cX6_worth 2 = .ok (.invokevirtual 122, 3) := by decide +kernel
theorem dX6_worth_5 : decode cX6_worth 5 = .ok (.invokestatic 174, 3) := by decide +kernel
theorem dX6_worth_8 : decode cX6_worth 8 = .ok (.ireturn, 1) := by decide +kernel
theorem dX6_inRegion_0 : decode cX6_inRegion 0 = .ok (.iload_n 1, 1) := by decide +kernel
theorem dX6_inRegion_1 : decode cX6_inRegion 1 = .ok (.iconst 0, 1) := by decide +kernel
theorem dX6_inRegion_2 : decode cX6_inRegion 2 = .ok (.iconst 3, 1) := by decide +kernel
theorem dX6_inRegion_3 : decode cX6_inRegion 3 = .ok (.invokestatic 35, 3) := by decide +kernel
theorem dX6_inRegion_6 : decode cX6_inRegion 6 = .ok (.iload_n 2, 1) := by decide +kernel
theorem dX6_inRegion_7 : decode cX6_inRegion 7 = .ok (.invokestatic 141, 3) := by decide +kernel
theorem dX6_inRegion_10 : decode cX6_inRegion 10 = .ok (.iconst 0, 1) := by decide +kernel
theorem dX6_inRegion_11 : decode cX6_inRegion 11 = .ok (.istore_n 3, 1) := by decide +kernel
theorem dX6_inRegion_12 : decode cX6_inRegion 12 = .ok (.iconst 0, 1) := by decide +kernel
theorem dX6_inRegion_13 : decode cX6_inRegion 13 = .ok (.istore 4, 2) := by decide +kernel
theorem dX6_inRegion_15 : decode cX6_inRegion 15 = .ok (.iload 4, 2) := by decide +kernel
theorem dX6_inRegion_17 : decode cX6_inRegion 17 = .ok (.aload_n 0, 1) := by decide +kernel
theorem dX6_inRegion_18 : decode cX6_inRegion 18 = .ok (.getfield 22, 3) := by decide +kernel
theorem dX6_inRegion_21 : decode cX6_inRegion 21 = .ok (.invokevirtual 51, 3) := by decide +kernel
theorem dX6_inRegion_24 : decode cX6_inRegion 24 = .ok (.if_icmp .ge 50, 3) := by decide +kernel
theorem dX6_inRegion_27 : decode cX6_inRegion 27 = .ok (.aload_n 0, 1) := by decide +kernel
theorem dX6_inRegion_28 : decode cX6_inRegion 28 = .ok (.getfield 22, 3) := by decide +kernel
theorem dX6_inRegion_31 : decode cX6_inRegion 31 = .ok (.iload 4, 2) := by decide +kernel
theorem dX6_inRegion_33 : decode cX6_inRegion 33 = .ok (.invokevirtual 171, 3) := by decide +kernel
theorem dX6_inRegion_36 : decode cX6_inRegion 36 = .ok (.checkcast 108, 3) := by decide +kernel
theorem dX6_inRegion_39 : decode cX6_inRegion 39 = .ok (.astore 5, 2) := by decide +kernel
theorem dX6_inRegion_41 : decode cX6_inRegion 41 = .ok (.aload 5, 2) := by decide +kernel
theorem dX6_inRegion_43 : decode cX6_inRegion 43 = .ok (.getfield 157, 3) := by decide +kernel
theorem dX6_inRegion_46 : decode cX6_inRegion 46 = .ok (.iload_n 2, 1) := by decide +kernel
theorem dX6_inRegion_47 : decode cX6_inRegion 47 = .ok (.if_icmp .ne 21, 3) := by decide +kernel
theorem dX6_inRegion_50 : decode cX6_inRegion 50 = .ok (.aload_n 0, 1) := by decide +kernel
theorem dX6_inRegion_51 : decode cX6_inRegion 51 = .ok (.aload 5, 2) := by decide +kernel
theorem dX6_inRegion_53 : decode cX6_inRegion 53 = .ok (.invokevirtual 178, 3) := by decide +kernel
theorem dX6_inRegion_56 : decode cX6_inRegion 56 = .ok (.iload_n 1, 1) := by decide +kernel
theorem dX6_inRegion_57 : decode cX6_inRegion 57 = .ok (.if_icmp .ne 11, 3) := by decide +kernel
theorem dX6_inRegion_60 : decode cX6_inRegion 60 = .ok (.iload_n 3, 1) := by decide +kernel
theorem dX6_inRegion_61 : decode cX6_inRegion 61 = .ok (.aload 5, 2) := by decide +kernel
theorem dX6_inRegion_63 : decode cX6_inRegion 63 = .ok (.invokestatic 174, 3) := by decide +kernel
theorem dX6_inRegion_66 : decode cX6_inRegion 66 = .ok (.iadd, 1) := by decide +kernel
theorem dX6_inRegion_67 : decode cX6_inRegion 67 = .ok (.istore_n 3, 1) := by decide +kernel
theorem dX6_inRegion_68 : decode cX6_inRegion 68 = .ok (.iinc 4 1, 3) := by decide +kernel
theorem dX6_inRegion_71 : decode cX6_inRegion 71 = .ok (.goto (-56), 3) := by decide +kernel
theorem dX6_inRegion_74 : decode cX6_inRegion 74 = .ok (.iload_n 3, 1) := by decide +kernel
theorem dX6_inRegion_75 : decode cX6_inRegion 75 = .ok (.ireturn, 1) := by decide +kernel
theorem dX6_won_0 : decode cX6_won 0 = .ok (.aload_n 0, 1) := by decide +kernel
theorem dX6_won_1 : decode cX6_won 1 = .ok (.iload_n 1, 1) := by decide +kernel
theorem dX6_won_2 : decode cX6_won 2 = .ok (.invokevirtual 47, 3) := by decide +kernel
theorem dX6_won_5 : decode cX6_won 5 = .ok (.astore_n 2, 1) := by decide +kernel
theorem dX6_won_6 : decode cX6_won 6 = .ok (.iconst 0, 1) := by decide +kernel
theorem dX6_won_7 : decode cX6_won 7 = .ok (.istore_n 3, 1) := by decide +kernel
theorem dX6_won_8 : decode cX6_won 8 = .ok (.iconst 0, 1) := by decide +kernel
theorem dX6_won_9 : decode cX6_won 9 = .ok (.istore 4, 2) := by decide +kernel
theorem dX6_won_11 : decode cX6_won 11 = .ok (.iload 4, 2) := by decide +kernel
theorem dX6_won_13 : decode cX6_won 13 = .ok (.aload_n 0, 1) := by decide +kernel
theorem dX6_won_14 : decode cX6_won 14 = .ok (.getfield 22, 3) := by decide +kernel
theorem dX6_won_17 : decode cX6_won 17 = .ok (.invokevirtual 51, 3) := by decide +kernel
theorem dX6_won_20 : decode cX6_won 20 = .ok (.if_icmp .ge 52, 3) := by decide +kernel
theorem dX6_won_23 : decode cX6_won 23 = .ok (.aload_n 0, 1) := by decide +kernel
theorem dX6_won_24 : decode cX6_won 24 = .ok (.getfield 22, 3) := by decide +kernel
theorem dX6_won_27 : decode cX6_won 27 = .ok (.iload 4, 2) := by decide +kernel
theorem dX6_won_29 : decode cX6_won 29 = .ok (.invokevirtual 171, 3) := by decide +kernel
theorem dX6_won_32 : decode cX6_won 32 = .ok (.checkcast 108, 3) := by decide +kernel
theorem dX6_won_35 : decode cX6_won 35 = .ok (.astore 5, 2) := by decide +kernel
theorem dX6_won_37 : decode cX6_won 37 = .ok (.aload 5, 2) := by decide +kernel
theorem dX6_won_39 : decode cX6_won 39 = .ok (.getfield 157, 3) := by decide +kernel
theorem dX6_won_42 : decode cX6_won 42 = .ok (.iconst 4, 1) := by decide +kernel
theorem dX6_won_43 : decode cX6_won 43 = .ok (.if_icmp .ne 23, 3) := by decide +kernel
theorem dX6_won_46 : decode cX6_won 46 = .ok (.aload 5, 2) := by decide +kernel
theorem dX6_won_48 : decode cX6_won 48 = .ok (.getfield 164, 3) := by decide +kernel
theorem dX6_won_51 : decode cX6_won 51 = .ok (.aload_n 2, 1) := by decide +kernel
theorem dX6_won_52 : decode cX6_won 52 = .ok (.invokestatic 181, 3) := by decide +kernel
theorem dX6_won_55 : decode cX6_won 55 = .ok (.ifCond .eq 11, 3) := by decide +kernel
theorem dX6_won_58 : decode cX6_won 58 = .ok (.iload_n 3, 1) := by decide +kernel
theorem dX6_won_59 : decode cX6_won 59 = .ok (.aload 5, 2) := by decide +kernel
theorem dX6_won_61 : decode cX6_won 61 = .ok (.invokestatic 174, 3) := by decide +kernel
theorem dX6_won_64 : decode cX6_won 64 = .ok (.iadd, 1) := by decide +kernel
theorem dX6_won_65 : decode cX6_won 65 = .ok (.istore_n 3, 1) := by decide +kernel
theorem dX6_won_66 : decode cX6_won 66 = .ok (.iinc 4 1, 3) := by decide +kernel
theorem dX6_won_69 : decode cX6_won 69 = .ok (.goto (-58), 3) := by decide +kernel
theorem dX6_won_72 : decode cX6_won 72 = .ok (.iload_n 3, 1) := by decide +kernel
theorem dX6_won_73 : decode cX6_won 73 = .ok (.ireturn, 1) := by decide +kernel
theorem dX6_quote_0 : decode cX6_quote 0 = .ok (.aload_n 0, 1) := by decide +kernel
theorem dX6_quote_1 : decode cX6_quote 1 = .ok (.iload_n 1, 1) := by decide +kernel
theorem dX6_quote_2 : decode cX6_quote 2 = .ok (.invokevirtual 122, 3) := by decide +kernel
theorem dX6_quote_5 : decode cX6_quote 5 = .ok (.astore 4, 2) := by decide +kernel
theorem dX6_quote_7 : decode cX6_quote 7 = .ok (.aload_n 0, 1) := by decide +kernel
theorem dX6_quote_8 : decode cX6_quote 8 = .ok (.iload_n 2, 1) := by decide +kernel
theorem dX6_quote_9 : decode cX6_quote 9 = .ok (.invokevirtual 94, 3) := by decide +kernel
theorem dX6_quote_12 : decode cX6_quote 12 = .ok (.astore 5, 2) := by decide +kernel
theorem dX6_quote_14 : decode cX6_quote 14 = .ok (.iload_n 3, 1) := by decide +kernel
theorem dX6_quote_15 : decode cX6_quote 15 = .ok (.iconst 0, 1) := by decide +kernel
theorem dX6_quote_16 : decode cX6_quote 16 = .ok (.bipush 99, 2) := by decide +kernel
theorem dX6_quote_18 : decode cX6_quote 18 = .ok (.invokestatic 35, 3) := by decide +kernel
theorem dX6_quote_21 : decode cX6_quote 21 = .ok (.aload 4, 2) := by decide +kernel
theorem dX6_quote_23 : decode cX6_quote 23 = .ok (.invokestatic 131, 3) := by decide +kernel
theorem dX6_quote_26 : decode cX6_quote 26 = .ok (.aload_n 0, 1) := by decide +kernel
theorem dX6_quote_27 : decode cX6_quote 27 = .ok (.getfield 25, 3) := by decide +kernel
theorem dX6_quote_30 : decode cX6_quote 30 = .ok (.invokevirtual 51, 3) := by decide +kernel
theorem dX6_quote_33 : decode cX6_quote 33 = .ok (.bipush 40, 2) := by decide +kernel
theorem dX6_quote_35 : decode cX6_quote 35 = .ok (.invokestatic 55, 3) := by decide +kernel
theorem dX6_quote_38 : decode cX6_quote 38 = .ok (.new 185, 3) := by decide +kernel
theorem dX6_quote_41 : decode cX6_quote 41 = .ok (.dup, 1) := by decide +kernel
theorem dX6_quote_42 : decode cX6_quote 42 = .ok (.aload_n 0, 1) := by decide +kernel
theorem dX6_quote_43 : decode cX6_quote 43 = .ok (.getfield 25, 3) := by decide +kernel
theorem dX6_quote_46 : decode cX6_quote 46 = .ok (.invokevirtual 51, 3) := by decide +kernel
theorem dX6_quote_49 : decode cX6_quote 49 = .ok (.aload 4, 2) := by decide +kernel
theorem dX6_quote_51 : decode cX6_quote 51 = .ok (.aload 5, 2) := by decide +kernel
theorem dX6_quote_53 : decode cX6_quote 53 = .ok (.iload_n 3, 1) := by decide +kernel
theorem dX6_quote_54 : decode cX6_quote 54 = .ok (.invokespecial 187, 3) := by decide +kernel
theorem dX6_quote_57 : decode cX6_quote 57 = .ok (.astore 6, 2) := by decide +kernel
theorem dX6_quote_59 : decode cX6_quote 59 = .ok (.aload_n 0, 1) := by decide +kernel
theorem dX6_quote_60 : decode cX6_quote 60 = .ok (.getfield 25, 3) := by decide +kernel
theorem dX6_quote_63 : decode cX6_quote 63 = .ok (.aload 6, 2) := by decide +kernel
theorem dX6_quote_65 : decode cX6_quote 65 = .ok (.invokevirtual 64, 3) := by decide +kernel
theorem dX6_quote_68 : decode cX6_quote 68 = .ok (.pop, 1) := by decide +kernel
theorem dX6_quote_69 : decode cX6_quote 69 = .ok (.iload_n 3, 1) := by decide +kernel
theorem dX6_quote_70 : decode cX6_quote 70 = .ok (.aload 5, 2) := by decide +kernel
theorem dX6_quote_72 : decode cX6_quote 72 = .ok (.getfield 190, 3) := by decide +kernel
theorem dX6_quote_75 : decode cX6_quote 75 = .ok (.if_icmp .gt 8, 3) := by decide +kernel
theorem dX6_quote_78 : decode cX6_quote 78 = .ok (.aload 6, 2) := by decide +kernel
theorem dX6_quote_80 : decode cX6_quote 80 = .ok (.invokestatic 193, 3) := by decide +kernel
theorem dX6_quote_83 : decode cX6_quote 83 = .ok (.aload 6, 2) := by decide +kernel
theorem dX6_quote_85 : decode cX6_quote 85 = .ok (.getfield 197, 3) := by decide +kernel
theorem dX6_quote_88 : decode cX6_quote 88 = .ok (.ireturn, 1) := by decide +kernel
theorem dX6_approve_0 : decode cX6_approve 0 = .ok (.aload_n 0, 1) := by decide +kernel
theorem dX6_approve_1 : decode cX6_approve 1 = .ok (.iload_n 1, 1) := by decide +kernel
theorem dX6_approve_2 : decode cX6_approve 2 = .ok (.invokevirtual 198, 3) := by decide +kernel
theorem dX6_approve_5 : decode cX6_approve 5 = .ok (.astore_n 3, 1) := by decide +kernel
theorem dX6_approve_6 : decode cX6_approve 6 = .ok (.aload_n 0, 1) := by decide +kernel
theorem dX6_approve_7 : decode cX6_approve 7 = .ok (.iload_n 2, 1) := by decide +kernel
theorem dX6_approve_8 : decode cX6_approve 8 = .ok (.invokevirtual 94, 3) := by decide +kernel
theorem dX6_approve_11 : decode cX6_approve 11 = .ok (.astore 4, 2) := by decide +kernel
theorem dX6_approve_13 : decode cX6_approve 13 = .ok (.aload_n 3, 1) := by decide +kernel
theorem dX6_approve_14 : decode cX6_approve 14 = .ok (.getfield 202, 3) := by decide +kernel
theorem dX6_approve_17 : decode cX6_approve 17 = .ok (.invokestatic 131, 3) := by decide +kernel
theorem dX6_approve_20 : decode cX6_approve 20 = .ok (.aload_n 3, 1) := by decide +kernel
theorem dX6_approve_21 : decode cX6_approve 21 = .ok (.getfield 206, 3) := by decide +kernel
theorem dX6_approve_24 : decode cX6_approve 24 = .ok (.ifCond .ne 12, 3) := by decide +kernel
theorem dX6_approve_27 : decode cX6_approve 27 = .ok (.aload_n 3, 1) := by decide +kernel
theorem dX6_approve_28 : decode cX6_approve 28 = .ok (.aload 4, 2) := by decide +kernel
theorem dX6_approve_30 : decode cX6_approve 30 = .ok (.invokestatic 210, 3) := by decide +kernel
theorem dX6_approve_33 : decode cX6_approve 33 = .ok (.ifCond .ne 13, 3) := by decide +kernel
theorem dX6_approve_36 : decode cX6_approve 36 = .ok (.new 40, 3) := by decide +kernel
theorem dX6_approve_39 : decode cX6_approve 39 = .ok (.dup, 1) := by decide +kernel
theorem dX6_approve_40 : decode cX6_approve 40 = .ok (.ldc 214, 2) := by decide +kernel
theorem dX6_approve_42 : decode cX6_approve 42 = .ok (.invokespecial 44, 3) := by decide +kernel
theorem dX6_approve_45 : decode cX6_approve 45 = .ok (.athrow, 1) := by decide +kernel
theorem dX6_approve_46 : decode cX6_approve 46 = .ok (.aload_n 3, 1) := by decide +kernel
theorem dX6_approve_47 : decode cX6_approve 47 = .ok (.invokestatic 193, 3) := by decide +kernel
theorem dX6_approve_50 : decode cX6_approve 50 = .ok (.return_, 1) := by decide +kernel
theorem dX6_counting_0 : decode cX6_counting 0 = .ok (.aload_n 0, 1) := by decide +kernel
theorem dX6_counting_1 : decode cX6_counting 1 = .ok (.iload_n 1, 1) := by decide +kernel
theorem dX6_counting_2 : decode cX6_counting 2 = .ok (.invokevirtual 122, 3) := by decide +kernel
theorem dX6_counting_5 : decode cX6_counting 5 = .ok (.getfield 216, 3) := by decide +kernel
theorem dX6_counting_8 : decode cX6_counting 8 = .ok (.astore_n 2, 1) := by decide +kernel
theorem dX6_counting_9 : decode cX6_counting 9 = .ok (.aload_n 2, 1) := by decide +kernel
theorem dX6_counting_10 : decode cX6_counting 10 = .ok (.ifnonnull 13, 3) := by decide +kernel
theorem dX6_counting_13 : decode cX6_counting 13 = .ok (.new 220, 3) := by decide +kernel
theorem dX6_counting_16 : decode cX6_counting 16 = .ok (.dup, 1) := by decide +kernel
theorem dX6_counting_17 : decode cX6_counting 17 = .ok (.ldc 222, 2) := by decide +kernel
theorem dX6_counting_19 : decode cX6_counting 19 = .ok (.invokespecial 224, 3) := by decide +kernel
theorem dX6_counting_22 : decode cX6_counting 22 = .ok (.athrow, 1) := by decide +kernel
theorem dX6_counting_23 : decode cX6_counting 23 = .ok (.aload_n 2, 1) := by decide +kernel
theorem dX6_counting_24 : decode cX6_counting 24 = .ok (.getfield 197, 3) := by decide +kernel
theorem dX6_counting_27 : decode cX6_counting 27 = .ok (.ireturn, 1) := by decide +kernel
theorem dX6_waiting_0 : decode cX6_waiting 0 = .ok (.iconst 0, 1) := by decide +kernel
theorem dX6_waiting_1 : decode cX6_waiting 1 = .ok (.istore_n 1, 1) := by decide +kernel
theorem dX6_waiting_2 : decode cX6_waiting 2 = .ok (.iconst 0, 1) := by decide +kernel
theorem dX6_waiting_3 : decode cX6_waiting 3 = .ok (.istore_n 2, 1) := by decide +kernel
theorem dX6_waiting_4 : decode cX6_waiting 4 = .ok (.iload_n 2, 1) := by decide +kernel
theorem dX6_waiting_5 : decode cX6_waiting 5 = .ok (.aload_n 0, 1) := by decide +kernel
theorem dX6_waiting_6 : decode cX6_waiting 6 = .ok (.getfield 25, 3) := by decide +kernel
theorem dX6_waiting_9 : decode cX6_waiting 9 = .ok (.invokevirtual 51, 3) := by decide +kernel
theorem dX6_waiting_12 : decode cX6_waiting 12 = .ok (.if_icmp .ge 41, 3) := by decide +kernel
theorem dX6_waiting_15 : decode cX6_waiting 15 = .ok (.aload_n 0, 1) := by decide +kernel
theorem dX6_waiting_16 : decode cX6_waiting 16 = .ok (.getfield 25, 3) := by decide +kernel
theorem dX6_waiting_19 : decode cX6_waiting 19 = .ok (.iload_n 2, 1) := by decide +kernel
theorem dX6_waiting_20 : decode cX6_waiting 20 = .ok (.invokevirtual 171, 3) := by decide +kernel
theorem dX6_waiting_23 : decode cX6_waiting 23 = .ok (.checkcast 185, 3) := by decide +kernel
theorem dX6_waiting_26 : decode cX6_waiting 26 = .ok (.astore_n 3, 1) := by decide +kernel
theorem dX6_waiting_27 : decode cX6_waiting 27 = .ok (.aload_n 3, 1) := by decide +kernel
theorem dX6_waiting_28 : decode cX6_waiting 28 = .ok (.getfield 206, 3) := by decide +kernel
theorem dX6_waiting_31 : decode cX6_waiting 31 = .ok (.ifCond .ne 16, 3) := by decide +kernel
theorem dX6_waiting_34 : decode cX6_waiting 34 = .ok (.aload_n 3, 1) := by decide +kernel
theorem dX6_waiting_35 : decode cX6_waiting 35 = .ok (.getfield 202, 3) := by decide +kernel
theorem dX6_waiting_38 : decode cX6_waiting 38 = .ok (.invokestatic 160, 3) := by decide +kernel
theorem dX6_waiting_41 : decode cX6_waiting 41 = .ok (.ifCond .eq 6, 3) := by decide +kernel
theorem dX6_waiting_44 : decode cX6_waiting 44 = .ok (.iinc 1 1, 3) := by decide +kernel
theorem dX6_waiting_47 : decode cX6_waiting 47 = .ok (.iinc 2 1, 3) := by decide +kernel
theorem dX6_waiting_50 : decode cX6_waiting 50 = .ok (.goto (-46), 3) := by decide +kernel
theorem dX6_waiting_53 : decode cX6_waiting 53 = .ok (.iload_n 1, 1) := by decide +kernel
theorem dX6_waiting_54 : decode cX6_waiting 54 = .ok (.ireturn, 1) := by decide +kernel
theorem dX6_forecast_0 : decode cX6_forecast 0 = .ok (.aload_n 0, 1) := by decide +kernel
theorem dX6_forecast_1 : decode cX6_forecast 1 = .ok (.aload_n 0, 1) := by decide +kernel
theorem dX6_forecast_2 : decode cX6_forecast 2 = .ok (.iload_n 1, 1) := by decide +kernel
theorem dX6_forecast_3 : decode cX6_forecast 3 = .ok (.invokevirtual 94, 3) := by decide +kernel
theorem dX6_forecast_6 : decode cX6_forecast 6 = .ok (.invokevirtual 225, 3) := by decide +kernel
theorem dX6_forecast_9 : decode cX6_forecast 9 = .ok (.ireturn, 1) := by decide +kernel
theorem dX6_own_0 : decode cX6_own 0 = .ok (.aload_n 0, 1) := by decide +kernel
theorem dX6_own_1 : decode cX6_own 1 = .ok (.aload_n 0, 1) := by decide +kernel
theorem dX6_own_2 : decode cX6_own 2 = .ok (.iload_n 1, 1) := by decide +kernel
theorem dX6_own_3 : decode cX6_own 3 = .ok (.invokevirtual 94, 3) := by decide +kernel
theorem dX6_own_6 : decode cX6_own 6 = .ok (.invokevirtual 229, 3) := by decide +kernel
theorem dX6_own_9 : decode cX6_own 9 = .ok (.ireturn, 1) := by decide +kernel
theorem dX6_freeze_0 : decode cX6_freeze 0 = .ok (.aload_n 0, 1) := by decide +kernel
theorem dX6_freeze_1 : decode cX6_freeze 1 = .ok (.getfield 28, 3) := by decide +kernel
theorem dX6_freeze_4 : decode cX6_freeze 4 = .ok (.invokevirtual 51, 3) := by decide +kernel
theorem dX6_freeze_7 : decode cX6_freeze 7 = .ok (.bipush 20, 2) := by decide +kernel
theorem dX6_freeze_9 : decode cX6_freeze 9 = .ok (.invokestatic 55, 3) := by decide +kernel
theorem dX6_freeze_12 : decode cX6_freeze 12 = .ok (.new 232, 3) := by decide +kernel
theorem dX6_freeze_15 : decode cX6_freeze 15 = .ok (.dup, 1) := by decide +kernel
theorem dX6_freeze_16 : decode cX6_freeze 16 = .ok (.invokespecial 234, 3) := by decide +kernel
theorem dX6_freeze_19 : decode cX6_freeze 19 = .ok (.astore_n 1, 1) := by decide +kernel
theorem dX6_freeze_20 : decode cX6_freeze 20 = .ok (.iconst 0, 1) := by decide +kernel
theorem dX6_freeze_21 : decode cX6_freeze 21 = .ok (.istore_n 2, 1) := by decide +kernel
theorem dX6_freeze_22 : decode cX6_freeze 22 = .ok (.iload_n 2, 1) := by decide +kernel
theorem dX6_freeze_23 : decode cX6_freeze 23 = .ok (.aload_n 0, 1) := by decide +kernel
theorem dX6_freeze_24 : decode cX6_freeze 24 = .ok (.getfield 19, 3) := by decide +kernel
theorem dX6_freeze_27 : decode cX6_freeze 27 = .ok (.invokevirtual 51, 3) := by decide +kernel
theorem dX6_freeze_30 : decode cX6_freeze 30 = .ok (.if_icmp .ge 37, 3) := by decide +kernel
theorem dX6_freeze_33 : decode cX6_freeze 33 = .ok (.aload_n 0, 1) := by decide +kernel
theorem dX6_freeze_34 : decode cX6_freeze 34 = .ok (.getfield 19, 3) := by decide +kernel
theorem dX6_freeze_37 : decode cX6_freeze 37 = .ok (.iload_n 2, 1) := by decide +kernel
theorem dX6_freeze_38 : decode cX6_freeze 38 = .ok (.invokevirtual 171, 3) := by decide +kernel
theorem dX6_freeze_41 : decode cX6_freeze 41 = .ok (.checkcast 98, 3) := by decide +kernel
theorem dX6_freeze_44 : decode cX6_freeze 44 = .ok (.astore_n 3, 1) := by decide +kernel
theorem dX6_freeze_45 : decode cX6_freeze 45 = .ok (.aload_n 1, 1) := by decide +kernel
theorem dX6_freeze_46 : decode cX6_freeze 46 = .ok (.getfield 235, 3) := by decide +kernel
theorem dX6_freeze_49 : decode cX6_freeze 49 = .ok (.aload_n 3, 1) := by decide +kernel
theorem dX6_freeze_50 : decode cX6_freeze 50 = .ok (.getfield 115, 3) := by decide +kernel
theorem dX6_freeze_53 : decode cX6_freeze 53 = .ok (.aload_n 0, 1) := by decide +kernel
theorem dX6_freeze_54 : decode cX6_freeze 54 = .ok (.aload_n 3, 1) := by decide +kernel
theorem dX6_freeze_55 : decode cX6_freeze 55 = .ok (.invokevirtual 225, 3) := by decide +kernel
theorem dX6_freeze_58 : decode cX6_freeze 58 = .ok (.invokestatic 118, 3) := by decide +kernel
theorem dX6_freeze_61 : decode cX6_freeze 61 = .ok (.iinc 2 1, 3) := by decide +kernel
theorem dX6_freeze_64 : decode cX6_freeze 64 = .ok (.goto (-42), 3) := by decide +kernel
theorem dX6_freeze_67 : decode cX6_freeze 67 = .ok (.aload_n 0, 1) := by decide +kernel
theorem dX6_freeze_68 : decode cX6_freeze 68 = .ok (.getfield 28, 3) := by decide +kernel
theorem dX6_freeze_71 : decode cX6_freeze 71 = .ok (.aload_n 1, 1) := by decide +kernel
theorem dX6_freeze_72 : decode cX6_freeze 72 = .ok (.invokevirtual 64, 3) := by decide +kernel
theorem dX6_freeze_75 : decode cX6_freeze 75 = .ok (.pop, 1) := by decide +kernel
theorem dX6_freeze_76 : decode cX6_freeze 76 = .ok (.aload_n 0, 1) := by decide +kernel
theorem dX6_freeze_77 : decode cX6_freeze 77 = .ok (.getfield 28, 3) := by decide +kernel
theorem dX6_freeze_80 : decode cX6_freeze 80 = .ok (.invokevirtual 51, 3) := by decide +kernel
theorem dX6_freeze_83 : decode cX6_freeze 83 = .ok (.iconst 1, 1) := by decide +kernel
theorem dX6_freeze_84 : decode cX6_freeze 84 = .ok (.isub, 1) := by decide +kernel
theorem dX6_freeze_85 : decode cX6_freeze 85 = .ok (.ireturn, 1) := by decide +kernel
theorem dX6_since_0 : decode cX6_since 0 = .ok (.iload_n 1, 1) := by decide +kernel
theorem dX6_since_1 : decode cX6_since 1 = .ok (.ifCond .lt 14, 3) := by decide +kernel
theorem dX6_since_4 : decode cX6_since 4 = .ok (.iload_n 1, 1) := by decide +kernel
theorem dX6_since_5 : decode cX6_since 5 = .ok (.aload_n 0, 1) := by decide +kernel
theorem dX6_since_6 : decode cX6_since 6 = .ok (.getfield 28, 3) := by decide +kernel
theorem dX6_since_9 : decode cX6_since 9 = .ok (.invokevirtual 51, 3) := by decide +kernel
theorem dX6_since_12 : decode cX6_since 12 = .ok (.if_icmp .lt 13, 3) := by decide +kernel
theorem dX6_since_15 : decode cX6_since 15 = .ok (.new 68, 3) := by decide +kernel
theorem dX6_since_18 : decode cX6_since 18 = .ok (.dup, 1) := by decide +kernel
theorem dX6_since_19 : decode cX6_since 19 = .ok (.ldc 238, 2) := by decide +kernel
theorem dX6_since_21 : decode cX6_since 21 = .ok (.invokespecial 72, 3) := by decide +kernel
theorem dX6_since_24 : decode cX6_since 24 = .ok (.athrow, 1) := by decide +kernel
theorem dX6_since_25 : decode cX6_since 25 = .ok (.aload_n 0, 1) := by decide +kernel
theorem dX6_since_26 : decode cX6_since 26 = .ok (.iload_n 2, 1) := by decide +kernel
theorem dX6_since_27 : decode cX6_since 27 = .ok (.invokevirtual 94, 3) := by decide +kernel
theorem dX6_since_30 : decode cX6_since 30 = .ok (.astore_n 3, 1) := by decide +kernel
theorem dX6_since_31 : decode cX6_since 31 = .ok (.aload_n 0, 1) := by decide +kernel
theorem dX6_since_32 : decode cX6_since 32 = .ok (.aload_n 3, 1) := by decide +kernel
theorem dX6_since_33 : decode cX6_since 33 = .ok (.invokevirtual 225, 3) := by decide +kernel
theorem dX6_since_36 : decode cX6_since 36 = .ok (.aload_n 0, 1) := by decide +kernel
theorem dX6_since_37 : decode cX6_since 37 = .ok (.getfield 28, 3) := by decide +kernel
theorem dX6_since_40 : decode cX6_since 40 = .ok (.iload_n 1, 1) := by decide +kernel
theorem dX6_since_41 : decode cX6_since 41 = .ok (.invokevirtual 171, 3) := by decide +kernel
theorem dX6_since_44 : decode cX6_since 44 = .ok (.checkcast 232, 3) := by decide +kernel
theorem dX6_since_47 : decode cX6_since 47 = .ok (.getfield 235, 3) := by decide +kernel
theorem dX6_since_50 : decode cX6_since 50 = .ok (.aload_n 3, 1) := by decide +kernel
theorem dX6_since_51 : decode cX6_since 51 = .ok (.getfield 115, 3) := by decide +kernel
theorem dX6_since_54 : decode cX6_since 54 = .ok (.invokestatic 135, 3) := by decide +kernel
theorem dX6_since_57 : decode cX6_since 57 = .ok (.isub, 1) := by decide +kernel
theorem dX6_since_58 : decode cX6_since 58 = .ok (.ireturn, 1) := by decide +kernel
theorem dX6_accountAt_0 : decode cX6_accountAt 0 = .ok (.iload_n 1, 1) := by decide +kernel
theorem dX6_accountAt_1 : decode cX6_accountAt 1 = .ok (.ifCond .lt 14, 3) := by decide +kernel
theorem dX6_accountAt_4 : decode cX6_accountAt 4 = .ok (.iload_n 1, 1) := by decide +kernel
theorem dX6_accountAt_5 : decode cX6_accountAt 5 = .ok (.aload_n 0, 1) := by decide +kernel
theorem dX6_accountAt_6 : decode cX6_accountAt 6 = .ok (.getfield 10, 3) := by decide +kernel
theorem dX6_accountAt_9 : decode cX6_accountAt 9 = .ok (.invokevirtual 51, 3) := by decide +kernel
theorem dX6_accountAt_12 : decode cX6_accountAt 12 = .ok (.if_icmp .lt 13, 3) := by decide +kernel
theorem dX6_accountAt_15 : decode cX6_accountAt 15 = .ok (.new 68, 3) := by decide +kernel
theorem dX6_accountAt_18 : decode cX6_accountAt 18 = .ok (.dup, 1) := by decide +kernel
theorem dX6_accountAt_19 : decode cX6_accountAt 19 = .ok (.ldc 240, 2) := by decide +kernel
theorem dX6_accountAt_21 : decode cX6_accountAt 21 = .ok (.invokespecial 72, 3) := by decide +kernel
theorem dX6_accountAt_24 : decode cX6_accountAt 24 = .ok (.athrow, 1) := by decide +kernel
theorem dX6_accountAt_25 : decode cX6_accountAt 25 = .ok (.aload_n 0, 1) := by decide +kernel
theorem dX6_accountAt_26 : decode cX6_accountAt 26 = .ok (.getfield 10, 3) := by decide +kernel
theorem dX6_accountAt_29 : decode cX6_accountAt 29 = .ok (.iload_n 1, 1) := by decide +kernel
theorem dX6_accountAt_30 : decode cX6_accountAt 30 = .ok (.invokevirtual 171, 3) := by decide +kernel
theorem dX6_accountAt_33 : decode cX6_accountAt 33 = .ok (.checkcast 59, 3) := by decide +kernel
theorem dX6_accountAt_36 : decode cX6_accountAt 36 = .ok (.areturn, 1) := by decide +kernel
theorem dX6_sellerAt_0 : decode cX6_sellerAt 0 = .ok (.iload_n 1, 1) := by decide +kernel
theorem dX6_sellerAt_1 : decode cX6_sellerAt 1 = .ok (.ifCond .lt 14, 3) := by decide +kernel
theorem dX6_sellerAt_4 : decode cX6_sellerAt 4 = .ok (.iload_n 1, 1) := by decide +kernel
theorem dX6_sellerAt_5 : decode cX6_sellerAt 5 = .ok (.aload_n 0, 1) := by decide +kernel
theorem dX6_sellerAt_6 : decode cX6_sellerAt 6 = .ok (.getfield 19, 3) := by decide +kernel
theorem dX6_sellerAt_9 : decode cX6_sellerAt 9 = .ok (.invokevirtual 51, 3) := by decide +kernel
theorem dX6_sellerAt_12 : decode cX6_sellerAt 12 = .ok (.if_icmp .lt 13, 3) := by decide +kernel
theorem dX6_sellerAt_15 : decode cX6_sellerAt 15 = .ok (.new 68, 3) := by decide +kernel
theorem dX6_sellerAt_18 : decode cX6_sellerAt 18 = .ok (.dup, 1) := by decide +kernel
theorem dX6_sellerAt_19 : decode cX6_sellerAt 19 = .ok (.ldc 242, 2) := by decide +kernel
theorem dX6_sellerAt_21 : decode cX6_sellerAt 21 = .ok (.invokespecial 72, 3) := by decide +kernel
theorem dX6_sellerAt_24 : decode cX6_sellerAt 24 = .ok (.athrow, 1) := by decide +kernel
theorem dX6_sellerAt_25 : decode cX6_sellerAt 25 = .ok (.aload_n 0, 1) := by decide +kernel
theorem dX6_sellerAt_26 : decode cX6_sellerAt 26 = .ok (.getfield 19, 3) := by decide +kernel
theorem dX6_sellerAt_29 : decode cX6_sellerAt 29 = .ok (.iload_n 1, 1) := by decide +kernel
theorem dX6_sellerAt_30 : decode cX6_sellerAt 30 = .ok (.invokevirtual 171, 3) := by decide +kernel
theorem dX6_sellerAt_33 : decode cX6_sellerAt 33 = .ok (.checkcast 98, 3) := by decide +kernel
theorem dX6_sellerAt_36 : decode cX6_sellerAt 36 = .ok (.areturn, 1) := by decide +kernel
theorem dX6_chanceAt_0 : decode cX6_chanceAt 0 = .ok (.iload_n 1, 1) := by decide +kernel
theorem dX6_chanceAt_1 : decode cX6_chanceAt 1 = .ok (.ifCond .lt 14, 3) := by decide +kernel
theorem dX6_chanceAt_4 : decode cX6_chanceAt 4 = .ok (.iload_n 1, 1) := by decide +kernel
theorem dX6_chanceAt_5 : decode cX6_chanceAt 5 = .ok (.aload_n 0, 1) := by decide +kernel
theorem dX6_chanceAt_6 : decode cX6_chanceAt 6 = .ok (.getfield 22, 3) := by decide +kernel
theorem dX6_chanceAt_9 : decode cX6_chanceAt 9 = .ok (.invokevirtual 51, 3) := by decide +kernel
theorem dX6_chanceAt_12 : decode cX6_chanceAt 12 = .ok (.if_icmp .lt 13, 3) := by decide +kernel
theorem dX6_chanceAt_15 : decode cX6_chanceAt 15 = .ok (.new 68, 3) := by decide +kernel
theorem dX6_chanceAt_18 : decode cX6_chanceAt 18 = .ok (.dup, 1) := by decide +kernel
theorem dX6_chanceAt_19 : decode cX6_chanceAt 19 = .ok (.ldc 244, 2) := by decide +kernel
theorem dX6_chanceAt_21 : decode cX6_chanceAt 21 = .ok (.invokespecial 72, 3) := by decide +kernel
theorem dX6_chanceAt_24 : decode cX6_chanceAt 24 = .ok (.athrow, 1) := by decide +kernel
theorem dX6_chanceAt_25 : decode cX6_chanceAt 25 = .ok (.aload_n 0, 1) := by decide +kernel
theorem dX6_chanceAt_26 : decode cX6_chanceAt 26 = .ok (.getfield 22, 3) := by decide +kernel
theorem dX6_chanceAt_29 : decode cX6_chanceAt 29 = .ok (.iload_n 1, 1) := by decide +kernel
theorem dX6_chanceAt_30 : decode cX6_chanceAt 30 = .ok (.invokevirtual 171, 3) := by decide +kernel
theorem dX6_chanceAt_33 : decode cX6_chanceAt 33 = .ok (.checkcast 108, 3) := by decide +kernel
theorem dX6_chanceAt_36 : decode cX6_chanceAt 36 = .ok (.areturn, 1) := by decide +kernel
theorem dX6_quoteAt_0 : decode cX6_quoteAt 0 = .ok (.iload_n 1, 1) := by decide +kernel
theorem dX6_quoteAt_1 : decode cX6_quoteAt 1 = .ok (.ifCond .lt 14, 3) := by decide +kernel
theorem dX6_quoteAt_4 : decode cX6_quoteAt 4 = .ok (.iload_n 1, 1) := by decide +kernel
theorem dX6_quoteAt_5 : decode cX6_quoteAt 5 = .ok (.aload_n 0, 1) := by decide +kernel
theorem dX6_quoteAt_6 : decode cX6_quoteAt 6 = .ok (.getfield 25, 3) := by decide +kernel
theorem dX6_quoteAt_9 : decode cX6_quoteAt 9 = .ok (.invokevirtual 51, 3) := by decide +kernel
theorem dX6_quoteAt_12 : decode cX6_quoteAt 12 = .ok (.if_icmp .lt 13, 3) := by decide +kernel
theorem dX6_quoteAt_15 : decode cX6_quoteAt 15 = .ok (.new 68, 3) := by decide +kernel
theorem dX6_quoteAt_18 : decode cX6_quoteAt 18 = .ok (.dup, 1) := by decide +kernel
theorem dX6_quoteAt_19 : decode cX6_quoteAt 19 = .ok (.ldc 246, 2) := by decide +kernel
theorem dX6_quoteAt_21 : decode cX6_quoteAt 21 = .ok (.invokespecial 72, 3) := by decide +kernel
theorem dX6_quoteAt_24 : decode cX6_quoteAt 24 = .ok (.athrow, 1) := by decide +kernel
theorem dX6_quoteAt_25 : decode cX6_quoteAt 25 = .ok (.aload_n 0, 1) := by decide +kernel
theorem dX6_quoteAt_26 : decode cX6_quoteAt 26 = .ok (.getfield 25, 3) := by decide +kernel
theorem dX6_quoteAt_29 : decode cX6_quoteAt 29 = .ok (.iload_n 1, 1) := by decide +kernel
theorem dX6_quoteAt_30 : decode cX6_quoteAt 30 = .ok (.invokevirtual 171, 3) := by decide +kernel
theorem dX6_quoteAt_33 : decode cX6_quoteAt 33 = .ok (.checkcast 185, 3) := by decide +kernel
theorem dX6_quoteAt_36 : decode cX6_quoteAt 36 = .ok (.areturn, 1) := by decide +kernel
theorem dX6_requireRange_0 : decode cX6_requireRange 0 = .ok (.iload_n 0, 1) := by decide +kernel
theorem dX6_requireRange_1 : decode cX6_requireRange 1 = .ok (.iload_n 1, 1) := by decide +kernel
theorem dX6_requireRange_2 : decode cX6_requireRange 2 = .ok (.if_icmp .lt 8, 3) := by decide +kernel
theorem dX6_requireRange_5 : decode cX6_requireRange 5 = .ok (.iload_n 0, 1) := by decide +kernel
theorem dX6_requireRange_6 : decode cX6_requireRange 6 = .ok (.iload_n 2, 1) := by decide +kernel
theorem dX6_requireRange_7 : decode cX6_requireRange 7 = .ok (.if_icmp .le 13, 3) := by decide +kernel
theorem dX6_requireRange_10 : decode cX6_requireRange 10 = .ok (.new 126, 3) := by decide +kernel
theorem dX6_requireRange_13 : decode cX6_requireRange 13 = .ok (.dup, 1) := by decide +kernel
theorem dX6_requireRange_14 : decode cX6_requireRange 14 = .ok (.ldc 248, 2) := by decide +kernel
theorem dX6_requireRange_16 : decode cX6_requireRange 16 = .ok (.invokespecial 130, 3) := by decide +kernel
theorem dX6_requireRange_19 : decode cX6_requireRange 19 = .ok (.athrow, 1) := by decide +kernel
theorem dX6_requireRange_20 : decode cX6_requireRange 20 = .ok (.return_, 1) := by decide +kernel
theorem dX6_requireStage_0 : decode cX6_requireStage 0 = .ok (.iload_n 0, 1) := by decide +kernel
theorem dX6_requireStage_1 : decode cX6_requireStage 1 = .ok (.iconst 0, 1) := by decide +kernel
theorem dX6_requireStage_2 : decode cX6_requireStage 2 = .ok (.iconst 5, 1) := by decide +kernel
theorem dX6_requireStage_3 : decode cX6_requireStage 3 = .ok (.invokestatic 35, 3) := by decide +kernel
theorem dX6_requireStage_6 : decode cX6_requireStage 6 = .ok (.return_, 1) := by decide +kernel
theorem dX6_requireRoom_0 : decode cX6_requireRoom 0 = .ok (.iload_n 0, 1) := by decide +kernel
theorem dX6_requireRoom_1 : decode cX6_requireRoom 1 = .ok (.iload_n 1, 1) := by decide +kernel
theorem dX6_requireRoom_2 : decode cX6_requireRoom 2 = .ok (.if_icmp .lt 13, 3) := by decide +kernel
theorem dX6_requireRoom_5 : decode cX6_requireRoom 5 = .ok (.new 40, 3) := by decide +kernel
theorem dX6_requireRoom_8 : decode cX6_requireRoom 8 = .ok (.dup, 1) := by decide +kernel
theorem dX6_requireRoom_9 : decode cX6_requireRoom 9 = .ok (.ldc 250, 2) := by decide +kernel
theorem dX6_requireRoom_11 : decode cX6_requireRoom 11 = .ok (.invokespecial 44, 3) := by decide +kernel
theorem dX6_requireRoom_14 : decode cX6_requireRoom 14 = .ok (.athrow, 1) := by decide +kernel
theorem dX6_requireRoom_15 : decode cX6_requireRoom 15 = .ok (.return_, 1) := by decide +kernel
theorem dX6_requireOpen_0 : decode cX6_requireOpen 0 = .ok (.aload_n 0, 1) := by decide +kernel
theorem dX6_requireOpen_1 : decode cX6_requireOpen 1 = .ok (.invokestatic 160, 3) := by decide +kernel
theorem dX6_requireOpen_4 : decode cX6_requireOpen 4 = .ok (.ifCond .ne 13, 3) := by decide +kernel
theorem dX6_requireOpen_7 : decode cX6_requireOpen 7 = .ok (.new 40, 3) := by decide +kernel
theorem dX6_requireOpen_10 : decode cX6_requireOpen 10 = .ok (.dup, 1) := by decide +kernel
theorem dX6_requireOpen_11 : decode cX6_requireOpen 11 = .ok (.ldc 252, 2) := by decide +kernel
theorem dX6_requireOpen_13 : decode cX6_requireOpen 13 = .ok (.invokespecial 44, 3) := by decide +kernel
theorem dX6_requireOpen_16 : decode cX6_requireOpen 16 = .ok (.athrow, 1) := by decide +kernel
theorem dX6_requireOpen_17 : decode cX6_requireOpen 17 = .ok (.return_, 1) := by decide +kernel
theorem dX6_regionNow_0 : decode cX6_regionNow 0 = .ok (.aload_n 1, 1) := by decide +kernel
theorem dX6_regionNow_1 : decode cX6_regionNow 1 = .ok (.astore_n 2, 1) := by decide +kernel
theorem dX6_regionNow_2 : decode cX6_regionNow 2 = .ok (.aload_n 2, 1) := by decide +kernel
theorem dX6_regionNow_3 : decode cX6_regionNow 3 = .ok (.ifnull 39, 3) := by decide +kernel
theorem dX6_regionNow_6 : decode cX6_regionNow 6 = .ok (.aload_n 2, 1) := by decide +kernel
theorem dX6_regionNow_7 : decode cX6_regionNow 7 = .ok (.getfield 87, 3) := by decide +kernel
theorem dX6_regionNow_10 : decode cX6_regionNow 10 = .ok (.iconst (-1), 1) := by decide +kernel
theorem dX6_regionNow_11 : decode cX6_regionNow 11 = .ok (.if_icmp .ne 11, 3) := by decide +kernel
theorem dX6_regionNow_14 : decode cX6_regionNow 14 = .ok (.aload_n 0, 1) := by decide +kernel
theorem dX6_regionNow_15 : decode cX6_regionNow 15 = .ok (.aload_n 2, 1) := by decide +kernel
theorem dX6_regionNow_16 : decode cX6_regionNow 16 = .ok (.invokevirtual 254, 3) := by decide +kernel
theorem dX6_regionNow_19 : decode cX6_regionNow 19 = .ok (.goto 7, 3) := by decide +kernel
theorem dX6_regionNow_22 : decode cX6_regionNow 22 = .ok (.aload_n 2, 1) := by decide +kernel
theorem dX6_regionNow_23 : decode cX6_regionNow 23 = .ok (.getfield 87, 3) := by decide +kernel
theorem dX6_regionNow_26 : decode cX6_regionNow 26 = .ok (.istore_n 3, 1) := by decide +kernel
theorem dX6_regionNow_27 : decode cX6_regionNow 27 = .ok (.iload_n 3, 1) := by decide +kernel
theorem dX6_regionNow_28 : decode cX6_regionNow 28 = .ok (.iconst (-1), 1) := by decide +kernel
theorem dX6_regionNow_29 : decode cX6_regionNow 29 = .ok (.if_icmp .eq 5, 3) := by decide +kernel
theorem dX6_regionNow_32 : decode cX6_regionNow 32 = .ok (.iload_n 3, 1) := by decide +kernel
theorem dX6_regionNow_33 : decode cX6_regionNow 33 = .ok (.ireturn, 1) := by decide +kernel
theorem dX6_regionNow_34 : decode cX6_regionNow 34 = .ok (.aload_n 2, 1) := by decide +kernel
theorem dX6_regionNow_35 : decode cX6_regionNow 35 = .ok (.getfield 257, 3) := by decide +kernel
theorem dX6_regionNow_38 : decode cX6_regionNow 38 = .ok (.astore_n 2, 1) := by decide +kernel
theorem dX6_regionNow_39 : decode cX6_regionNow 39 = .ok (.goto (-37), 3) := by decide +kernel
theorem dX6_regionNow_42 : decode cX6_regionNow 42 = .ok (.iconst 0, 1) := by decide +kernel
theorem dX6_regionNow_43 : decode cX6_regionNow 43 = .ok (.ireturn, 1) := by decide +kernel
theorem dX6_ruledRegion_0 : decode cX6_ruledRegion 0 = .ok (.iconst 0, 1) := by decide +kernel
theorem dX6_ruledRegion_1 : decode cX6_ruledRegion 1 = .ok (.istore_n 2, 1) := by decide +kernel
theorem dX6_ruledRegion_2 : decode cX6_ruledRegion 2 = .ok (.iload_n 2, 1) := by decide +kernel
theorem dX6_ruledRegion_3 : decode cX6_ruledRegion 3 = .ok (.aload_n 0, 1) := by decide +kernel
theorem dX6_ruledRegion_4 : decode cX6_ruledRegion 4 = .ok (.getfield 16, 3) := by decide +kernel
theorem dX6_ruledRegion_7 : decode cX6_ruledRegion 7 = .ok (.invokevirtual 51, 3) := by decide +kernel
theorem dX6_ruledRegion_10 : decode cX6_ruledRegion 10 = .ok (.if_icmp .ge 59, 3) := by decide +kernel
theorem dX6_ruledRegion_13 : decode cX6_ruledRegion 13 = .ok (.aload_n 0, 1) := by decide +kernel
theorem dX6_ruledRegion_14 : decode cX6_ruledRegion 14 = .ok (.getfield 16, 3) := by decide +kernel
theorem dX6_ruledRegion_17 : decode cX6_ruledRegion 17 = .ok (.iload_n 2, 1) := by decide +kernel
theorem dX6_ruledRegion_18 : decode cX6_ruledRegion 18 = .ok (.invokevirtual 171, 3) := by decide +kernel
theorem dX6_ruledRegion_21 : decode cX6_ruledRegion 21 = .ok (.checkcast 73, 3) := by decide +kernel
theorem dX6_ruledRegion_24 : decode cX6_ruledRegion 24 = .ok (.astore_n 3, 1) := by decide +kernel
theorem dX6_ruledRegion_25 : decode cX6_ruledRegion 25 = .ok (.aload_n 3, 1) := by decide +kernel
theorem dX6_ruledRegion_26 : decode cX6_ruledRegion 26 = .ok (.getfield 260, 3) := by decide +kernel
theorem dX6_ruledRegion_29 : decode cX6_ruledRegion 29 = .ok (.aload_n 1, 1) := by decide +kernel
theorem dX6_ruledRegion_30 : decode cX6_ruledRegion 30 = .ok (.getfield 263, 3) := by decide +kernel
theorem dX6_ruledRegion_33 : decode cX6_ruledRegion 33 = .ok (.if_icmp .gt 30, 3) := by decide +kernel
theorem dX6_ruledRegion_36 : decode cX6_ruledRegion 36 = .ok (.aload_n 1, 1) := by decide +kernel
theorem dX6_ruledRegion_37 : decode cX6_ruledRegion 37 = .ok (.getfield 263, 3) := by decide +kernel
theorem dX6_ruledRegion_40 : decode cX6_ruledRegion 40 = .ok (.aload_n 3, 1) := by decide +kernel
theorem dX6_ruledRegion_41 : decode cX6_ruledRegion 41 = .ok (.getfield 266, 3) := by decide +kernel
theorem dX6_ruledRegion_44 : decode cX6_ruledRegion 44 = .ok (.if_icmp .gt 19, 3) := by decide +kernel
theorem dX6_ruledRegion_47 : decode cX6_ruledRegion 47 = .ok (.aload_n 3, 1) := by decide +kernel
theorem dX6_ruledRegion_48 : decode cX6_ruledRegion 48 = .ok (.getfield 269, 3) := by decide +kernel
theorem dX6_ruledRegion_51 : decode cX6_ruledRegion 51 = .ok (.aload_n 1, 1) := by decide +kernel
theorem dX6_ruledRegion_52 : decode cX6_ruledRegion 52 = .ok (.getfield 271, 3) := by decide +kernel
theorem dX6_ruledRegion_55 : decode cX6_ruledRegion 55 = .ok (.if_icmp .gt 8, 3) := by decide +kernel
theorem dX6_ruledRegion_58 : decode cX6_ruledRegion 58 = .ok (.aload_n 3, 1) := by decide +kernel
theorem dX6_ruledRegion_59 : decode cX6_ruledRegion 59 = .ok (.getfield 272, 3) := by decide +kernel
theorem dX6_ruledRegion_62 : decode cX6_ruledRegion 62 = .ok (.ireturn, 1) := by decide +kernel
theorem dX6_ruledRegion_63 : decode cX6_ruledRegion 63 = .ok (.iinc 2 1, 3) := by decide +kernel
theorem dX6_ruledRegion_66 : decode cX6_ruledRegion 66 = .ok (.goto (-64), 3) := by decide +kernel
theorem dX6_ruledRegion_69 : decode cX6_ruledRegion 69 = .ok (.iconst (-1), 1) := by decide +kernel
theorem dX6_ruledRegion_70 : decode cX6_ruledRegion 70 = .ok (.ireturn, 1) := by decide +kernel
theorem dX6_regionFor_0 : decode cX6_regionFor 0 = .ok (.aload_n 1, 1) := by decide +kernel
theorem dX6_regionFor_1 : decode cX6_regionFor 1 = .ok (.invokestatic 160, 3) := by decide +kernel
theorem dX6_regionFor_4 : decode cX6_regionFor 4 = .ok (.ifCond .eq 14, 3) := by decide +kernel
theorem dX6_regionFor_7 : decode cX6_regionFor 7 = .ok (.aload_n 0, 1) := by decide +kernel
theorem dX6_regionFor_8 : decode cX6_regionFor 8 = .ok (.aload_n 1, 1) := by decide +kernel
theorem dX6_regionFor_9 : decode cX6_regionFor 9 = .ok (.getfield 164, 3) := by decide +kernel
theorem dX6_regionFor_12 : decode cX6_regionFor 12 = .ok (.invokevirtual 90, 3) := by decide +kernel
theorem dX6_regionFor_15 : decode cX6_regionFor 15 = .ok (.goto 7, 3) := by decide +kernel
theorem dX6_regionFor_18 : decode cX6_regionFor 18 = .ok (.aload_n 1, 1) := by decide +kernel
theorem dX6_regionFor_19 : decode cX6_regionFor 19 = .ok (.getfield 168, 3) := by decide +kernel
theorem dX6_regionFor_22 : decode cX6_regionFor 22 = .ok (.ireturn, 1) := by decide +kernel
theorem dX6_isInTree_0 : decode cX6_isInTree 0 = .ok (.aload_n 0, 1) := by decide +kernel
theorem dX6_isInTree_1 : decode cX6_isInTree 1 = .ok (.astore_n 2, 1) := by decide +kernel
theorem dX6_isInTree_2 : decode cX6_isInTree 2 = .ok (.aload_n 2, 1) := by decide +kernel
theorem dX6_isInTree_3 : decode cX6_isInTree 3 = .ok (.ifnull 18, 3) := by decide +kernel
theorem dX6_isInTree_6 : decode cX6_isInTree 6 = .ok (.aload_n 2, 1) := by decide +kernel
theorem dX6_isInTree_7 : decode cX6_isInTree 7 = .ok (.aload_n 1, 1) := by decide +kernel
theorem dX6_isInTree_8 : decode cX6_isInTree 8 = .ok (.if_acmp .ne 5, 3) := by decide +kernel
theorem dX6_isInTree_11 : decode cX6_isInTree 11 = .ok (.iconst 1, 1) := by decide +kernel
theorem dX6_isInTree_12 : decode cX6_isInTree 12 = .ok (.ireturn, 1) := by decide +kernel
theorem dX6_isInTree_13 : decode cX6_isInTree 13 = .ok (.aload_n 2, 1) := by decide +kernel
theorem dX6_isInTree_14 : decode cX6_isInTree 14 = .ok (.getfield 257, 3) := by decide +kernel
theorem dX6_isInTree_17 : decode cX6_isInTree 17 = .ok (.astore_n 2, 1) := by decide +kernel
theorem dX6_isInTree_18 : decode cX6_isInTree 18 = .ok (.goto (-16), 3) := by decide +kernel
theorem dX6_isInTree_21 : decode cX6_isInTree 21 = .ok (.iconst 0, 1) := by decide +kernel
theorem dX6_isInTree_22 : decode cX6_isInTree 22 = .ok (.ireturn, 1) := by decide +kernel
theorem dX6_isOpen_0 : decode cX6_isOpen 0 = .ok (.aload_n 0, 1) := by decide +kernel
theorem dX6_isOpen_1 : decode cX6_isOpen 1 = .ok (.getfield 157, 3) := by decide +kernel
theorem dX6_isOpen_4 : decode cX6_isOpen 4 = .ok (.iconst 4, 1) := by decide +kernel
theorem dX6_isOpen_5 : decode cX6_isOpen 5 = .ok (.if_icmp .ge 7, 3) := by decide +kernel
theorem dX6_isOpen_8 : decode cX6_isOpen 8 = .ok (.iconst 1, 1) := by decide +kernel
theorem dX6_isOpen_9 : decode cX6_isOpen 9 = .ok (.goto 4, 3) := by decide +kernel
theorem dX6_isOpen_12 : decode cX6_isOpen 12 = .ok (.iconst 0, 1) := by decide +kernel
theorem dX6_isOpen_13 : decode cX6_isOpen 13 = .ok (.ireturn, 1) := by decide +kernel
theorem dX6_canCome_0 : decode cX6_canCome 0 = .ok (.aload_n 0, 1) := by decide +kernel
theorem dX6_canCome_1 : decode cX6_canCome 1 = .ok (.invokestatic 160, 3) := by decide +kernel
theorem dX6_canCome_4 : decode cX6_canCome 4 = .ok (.ifCond .ne 5, 3) := by decide +kernel
theorem dX6_canCome_7 : decode cX6_canCome 7 = .ok (.iconst 0, 1) := by decide +kernel
theorem dX6_canCome_8 : decode cX6_canCome 8 = .ok (.ireturn, 1) := by decide +kernel
theorem dX6_canCome_9 : decode cX6_canCome 9 = .ok (.iload_n 1, 1) := by decide +kernel
theorem dX6_canCome_10 : decode cX6_canCome 10 = .ok (.iconst 5, 1) := by decide +kernel
theorem dX6_canCome_11 : decode cX6_canCome 11 = .ok (.if_icmp .eq 11, 3) := by decide +kernel
theorem dX6_canCome_14 : decode cX6_canCome 14 = .ok (.iload_n 1, 1) := by decide +kernel
theorem dX6_canCome_15 : decode cX6_canCome 15 = .ok (.aload_n 0, 1) := by decide +kernel
theorem dX6_canCome_16 : decode cX6_canCome 16 = .ok (.getfield 157, 3) := by decide +kernel
theorem dX6_canCome_19 : decode cX6_canCome 19 = .ok (.if_icmp .ge 5, 3) := by decide +kernel
theorem dX6_canCome_22 : decode cX6_canCome 22 = .ok (.iconst 1, 1) := by decide +kernel
theorem dX6_canCome_23 : decode cX6_canCome 23 = .ok (.ireturn, 1) := by decide +kernel
theorem dX6_canCome_24 : decode cX6_canCome 24 = .ok (.iload_n 1, 1) := by decide +kernel
theorem dX6_canCome_25 : decode cX6_canCome 25 = .ok (.aload_n 0, 1) := by decide +kernel
theorem dX6_canCome_26 : decode cX6_canCome 26 = .ok (.getfield 157, 3) := by decide +kernel
theorem dX6_canCome_29 : decode cX6_canCome 29 = .ok (.iconst 1, 1) := by decide +kernel
theorem dX6_canCome_30 : decode cX6_canCome 30 = .ok (.iadd, 1) := by decide +kernel
theorem dX6_canCome_31 : decode cX6_canCome 31 = .ok (.if_icmp .eq 5, 3) := by decide +kernel
theorem dX6_canCome_34 : decode cX6_canCome 34 = .ok (.iconst 0, 1) := by decide +kernel
theorem dX6_canCome_35 : decode cX6_canCome 35 = .ok (.ireturn, 1) := by decide +kernel
theorem dX6_canCome_36 : decode cX6_canCome 36 = .ok (.iload_n 1, 1) := by decide +kernel
theorem dX6_canCome_37 : decode cX6_canCome 37 = .ok (.iconst 3, 1) := by decide +kernel
theorem dX6_canCome_38 : decode cX6_canCome 38 = .ok (.if_icmp .ne 10, 3) := by decide +kernel
theorem dX6_canCome_41 : decode cX6_canCome 41 = .ok (.aload_n 0, 1) := by decide +kernel
theorem dX6_canCome_42 : decode cX6_canCome 42 = .ok (.getfield 216, 3) := by decide +kernel
theorem dX6_canCome_45 : decode cX6_canCome 45 = .ok (.ifnull 7, 3) := by decide +kernel
theorem dX6_canCome_48 : decode cX6_canCome 48 = .ok (.iconst 1, 1) := by decide +kernel
theorem dX6_canCome_49 : decode cX6_canCome 49 = .ok (.goto 4, 3) := by decide +kernel
theorem dX6_canCome_52 : decode cX6_canCome 52 = .ok (.iconst 0, 1) := by decide +kernel
theorem dX6_canCome_53 : decode cX6_canCome 53 = .ok (.ireturn, 1) := by decide +kernel
theorem dX6_canApprove_0 : decode cX6_canApprove 0 = .ok (.aload_n 0, 1) := by decide +kernel
theorem dX6_canApprove_1 : decode cX6_canApprove 1 = .ok (.getfield 275, 3) := by decide +kernel
theorem dX6_canApprove_4 : decode cX6_canApprove 4 = .ok (.getfield 279, 3) := by decide +kernel
theorem dX6_canApprove_7 : decode cX6_canApprove 7 = .ok (.aload_n 1, 1) := by decide +kernel
theorem dX6_canApprove_8 : decode cX6_canApprove 8 = .ok (.invokestatic 281, 3) := by decide +kernel
theorem dX6_canApprove_11 : decode cX6_canApprove 11 = .ok (.ifCond .eq 18, 3) := by decide +kernel
theorem dX6_canApprove_14 : decode cX6_canApprove 14 = .ok (.aload_n 0, 1) := by decide +kernel
theorem dX6_canApprove_15 : decode cX6_canApprove 15 = .ok (.getfield 285, 3) := by decide +kernel
theorem dX6_canApprove_18 : decode cX6_canApprove 18 = .ok (.aload_n 1, 1) := by decide +kernel
theorem dX6_canApprove_19 : decode cX6_canApprove 19 = .ok (.getfield 190, 3) := by decide +kernel
theorem dX6_canApprove_22 : decode cX6_canApprove 22 = .ok (.if_icmp .gt 7, 3) := by decide +kernel
theorem dX6_canApprove_25 : decode cX6_canApprove 25 = .ok (.iconst 1, 1) := by decide +kernel
theorem dX6_canApprove_26 : decode cX6_canApprove 26 = .ok (.goto 4, 3) := by decide +kernel
theorem dX6_canApprove_29 : decode cX6_canApprove 29 = .ok (.iconst 0, 1) := by decide +kernel
theorem dX6_canApprove_30 : decode cX6_canApprove 30 = .ok (.ireturn, 1) := by decide +kernel
theorem dX6_letCount_0 : decode cX6_letCount 0 = .ok (.aload_n 0, 1) := by decide +kernel
theorem dX6_letCount_1 : decode cX6_letCount 1 = .ok (.iconst 1, 1) := by decide +kernel
theorem dX6_letCount_2 : decode cX6_letCount 2 = .ok (.putfield 206, 3) := by decide +kernel
theorem dX6_letCount_5 : decode cX6_letCount 5 = .ok (.aload_n 0, 1) := by decide +kernel
theorem dX6_letCount_6 : decode cX6_letCount 6 = .ok (.getfield 202, 3) := by decide +kernel
theorem dX6_letCount_9 : decode cX6_letCount 9 = .ok (.aload_n 0, 1) := by decide +kernel
theorem dX6_letCount_10 : decode cX6_letCount 10 = .ok (.putfield 216, 3) := by decide +kernel
theorem dX6_letCount_13 : decode cX6_letCount 13 = .ok (.return_, 1) := by decide +kernel
theorem dX6_worthNow_0 : decode cX6_worthNow 0 = .ok (.aload_n 0, 1) := by decide +kernel
theorem dX6_worthNow_1 : decode cX6_worthNow 1 = .ok (.getfield 216, 3) := by decide +kernel
theorem dX6_worthNow_4 : decode cX6_worthNow 4 = .ok (.astore_n 1, 1) := by decide +kernel
theorem dX6_worthNow_5 : decode cX6_worthNow 5 = .ok (.aload_n 1, 1) := by decide +kernel
theorem dX6_worthNow_6 : decode cX6_worthNow 6 = .ok (.ifnonnull 10, 3) := by decide +kernel
theorem dX6_worthNow_9 : decode cX6_worthNow 9 = .ok (.aload_n 0, 1) := by decide +kernel
theorem dX6_worthNow_10 : decode cX6_worthNow 10 = .ok (.getfield 288, 3) := by decide +kernel
theorem dX6_worthNow_13 : decode cX6_worthNow 13 = .ok (.goto 17, 3) := by decide +kernel
theorem dX6_worthNow_16 : decode cX6_worthNow 16 = .ok (.aload_n 0, 1) := by decide +kernel
theorem dX6_worthNow_17 : decode cX6_worthNow 17 = .ok (.getfield 288, 3) := by decide +kernel
theorem dX6_worthNow_20 : decode cX6_worthNow 20 = .ok (.bipush 100, 2) := by decide +kernel
theorem dX6_worthNow_22 : decode cX6_worthNow 22 = .ok (.aload_n 1, 1) := by decide +kernel
theorem dX6_worthNow_23 : decode cX6_worthNow 23 = .ok (.getfield 285, 3) := by decide +kernel
theorem dX6_worthNow_26 : decode cX6_worthNow 26 = .ok (.isub, 1) := by decide +kernel
theorem dX6_worthNow_27 : decode cX6_worthNow 27 = .ok (.invokestatic 291, 3) := by decide +kernel
theorem dX6_worthNow_30 : decode cX6_worthNow 30 = .ok (.ireturn, 1) := by decide +kernel
theorem dX6_isInTeam_0 : decode cX6_isInTeam 0 = .ok (.aload_n 0, 1) := by decide +kernel
theorem dX6_isInTeam_1 : decode cX6_isInTeam 1 = .ok (.astore_n 2, 1) := by decide +kernel
theorem dX6_isInTeam_2 : decode cX6_isInTeam 2 = .ok (.aload_n 2, 1) := by decide +kernel
theorem dX6_isInTeam_3 : decode cX6_isInTeam 3 = .ok (.ifnull 18, 3) := by decide +kernel
theorem dX6_isInTeam_6 : decode cX6_isInTeam 6 = .ok (.aload_n 2, 1) := by decide +kernel
theorem dX6_isInTeam_7 : decode cX6_isInTeam 7 = .ok (.aload_n 1, 1) := by decide +kernel
theorem dX6_isInTeam_8 : decode cX6_isInTeam 8 = .ok (.if_acmp .ne 5, 3) := by decide +kernel
theorem dX6_isInTeam_11 : decode cX6_isInTeam 11 = .ok (.iconst 1, 1) := by decide +kernel
theorem dX6_isInTeam_12 : decode cX6_isInTeam 12 = .ok (.ireturn, 1) := by decide +kernel
theorem dX6_isInTeam_13 : decode cX6_isInTeam 13 = .ok (.aload_n 2, 1) := by decide +kernel
theorem dX6_isInTeam_14 : decode cX6_isInTeam 14 = .ok (.getfield 279, 3) := by decide +kernel
theorem dX6_isInTeam_17 : decode cX6_isInTeam 17 = .ok (.astore_n 2, 1) := by decide +kernel
theorem dX6_isInTeam_18 : decode cX6_isInTeam 18 = .ok (.goto (-16), 3) := by decide +kernel
theorem dX6_isInTeam_21 : decode cX6_isInTeam 21 = .ok (.iconst 0, 1) := by decide +kernel
theorem dX6_isInTeam_22 : decode cX6_isInTeam 22 = .ok (.ireturn, 1) := by decide +kernel
theorem dX6_ownNow_0 : decode cX6_ownNow 0 = .ok (.iconst 0, 1) := by decide +kernel
theorem dX6_ownNow_1 : decode cX6_ownNow 1 = .ok (.istore_n 2, 1) := by decide +kernel
theorem dX6_ownNow_2 : decode cX6_ownNow 2 = .ok (.iconst 0, 1) := by decide +kernel
theorem dX6_ownNow_3 : decode cX6_ownNow 3 = .ok (.istore_n 3, 1) := by decide +kernel
theorem dX6_ownNow_4 : decode cX6_ownNow 4 = .ok (.iload_n 3, 1) := by decide +kernel
theorem dX6_ownNow_5 : decode cX6_ownNow 5 = .ok (.aload_n 0, 1) := by decide +kernel
theorem dX6_ownNow_6 : decode cX6_ownNow 6 = .ok (.getfield 22, 3) := by decide +kernel
theorem dX6_ownNow_9 : decode cX6_ownNow 9 = .ok (.invokevirtual 51, 3) := by decide +kernel
theorem dX6_ownNow_12 : decode cX6_ownNow 12 = .ok (.if_icmp .ge 63, 3) := by decide +kernel
theorem dX6_ownNow_15 : decode cX6_ownNow 15 = .ok (.aload_n 0, 1) := by decide +kernel
theorem dX6_ownNow_16 : decode cX6_ownNow 16 = .ok (.getfield 22, 3) := by decide +kernel
theorem dX6_ownNow_19 : decode cX6_ownNow 19 = .ok (.iload_n 3, 1) := by decide +kernel
theorem dX6_ownNow_20 : decode cX6_ownNow 20 = .ok (.invokevirtual 171, 3) := by decide +kernel
theorem dX6_ownNow_23 : decode cX6_ownNow 23 = .ok (.checkcast 108, 3) := by decide +kernel
theorem dX6_ownNow_26 : decode cX6_ownNow 26 = .ok (.astore 4, 2) := by decide +kernel
theorem dX6_ownNow_28 : decode cX6_ownNow 28 = .ok (.aload 4, 2) := by decide +kernel
theorem dX6_ownNow_30 : decode cX6_ownNow 30 = .ok (.invokestatic 174, 3) := by decide +kernel
theorem dX6_ownNow_33 : decode cX6_ownNow 33 = .ok (.aload 4, 2) := by decide +kernel
theorem dX6_ownNow_35 : decode cX6_ownNow 35 = .ok (.getfield 111, 3) := by decide +kernel
theorem dX6_ownNow_38 : decode cX6_ownNow 38 = .ok (.aload_n 1, 1) := by decide +kernel
theorem dX6_ownNow_39 : decode cX6_ownNow 39 = .ok (.getfield 115, 3) := by decide +kernel
theorem dX6_ownNow_42 : decode cX6_ownNow 42 = .ok (.invokestatic 135, 3) := by decide +kernel
theorem dX6_ownNow_45 : decode cX6_ownNow 45 = .ok (.invokestatic 291, 3) := by decide +kernel
theorem dX6_ownNow_48 : decode cX6_ownNow 48 = .ok (.istore 5, 2) := by decide +kernel
theorem dX6_ownNow_50 : decode cX6_ownNow 50 = .ok (.iload_n 2, 1) := by decide +kernel
theorem dX6_ownNow_51 : decode cX6_ownNow 51 = .ok (.iload 5, 2) := by decide +kernel
theorem dX6_ownNow_53 : decode cX6_ownNow 53 = .ok (.getstatic 295, 3) := by decide +kernel
theorem dX6_ownNow_56 : decode cX6_ownNow 56 = .ok (.aload 4, 2) := by decide +kernel
theorem dX6_ownNow_58 : decode cX6_ownNow 58 = .ok (.getfield 157, 3) := by decide +kernel
theorem dX6_ownNow_61 : decode cX6_ownNow 61 = .ok (.invokestatic 135, 3) := by decide +kernel
theorem dX6_ownNow_64 : decode cX6_ownNow 64 = .ok (.invokestatic 291, 3) := by decide +kernel
theorem dX6_ownNow_67 : decode cX6_ownNow 67 = .ok (.iadd, 1) := by decide +kernel
theorem dX6_ownNow_68 : decode cX6_ownNow 68 = .ok (.istore_n 2, 1) := by decide +kernel
theorem dX6_ownNow_69 : decode cX6_ownNow 69 = .ok (.iinc 3 1, 3) := by decide +kernel
theorem dX6_ownNow_72 : decode cX6_ownNow 72 = .ok (.goto (-68), 3) := by decide +kernel
theorem dX6_ownNow_75 : decode cX6_ownNow 75 = .ok (.iload_n 2, 1) := by decide +kernel
theorem dX6_ownNow_76 : decode cX6_ownNow 76 = .ok (.ireturn, 1) := by decide +kernel
theorem dX6_forecastNow_0 : decode cX6_forecastNow 0 = .ok (.iconst 0, 1) := by decide +kernel
theorem dX6_forecastNow_1 : decode cX6_forecastNow 1 = .ok (.istore_n 2, 1) := by decide +kernel
theorem dX6_forecastNow_2 : decode cX6_forecastNow 2 = .ok (.iconst 0, 1) := by decide +kernel
theorem dX6_forecastNow_3 : decode cX6_forecastNow 3 = .ok (.istore_n 3, 1) := by decide +kernel
theorem dX6_forecastNow_4 : decode cX6_forecastNow 4 = .ok (.iload_n 3, 1) := by decide +kernel
theorem dX6_forecastNow_5 : decode cX6_forecastNow 5 = .ok (.aload_n 0, 1) := by decide +kernel
theorem dX6_forecastNow_6 : decode cX6_forecastNow 6 = .ok (.getfield 19, 3) := by decide +kernel
theorem dX6_forecastNow_9 : decode cX6_forecastNow 9 = .ok (.invokevirtual 51, 3) := by decide +kernel
theorem dX6_forecastNow_12 : decode cX6_forecastNow 12 = .ok (.if_icmp .ge 46, 3) := by decide +kernel
theorem dX6_forecastNow_15 : decode cX6_forecastNow 15 = .ok (.aload_n 0, 1) := by decide +kernel
theorem dX6_forecastNow_16 : decode cX6_forecastNow 16 = .ok (.getfield 19, 3) := by decide +kernel
theorem dX6_forecastNow_19 : decode cX6_forecastNow 19 = .ok (.iload_n 3, 1) := by decide +kernel
theorem dX6_forecastNow_20 : decode cX6_forecastNow 20 = .ok (.invokevirtual 171, 3) := by decide +kernel
theorem dX6_forecastNow_23 : decode cX6_forecastNow 23 = .ok (.checkcast 98, 3) := by decide +kernel
theorem dX6_forecastNow_26 : decode cX6_forecastNow 26 = .ok (.astore 4, 2) := by decide +kernel
theorem dX6_forecastNow_28 : decode cX6_forecastNow 28 = .ok (.aload 4, 2) := by decide +kernel
theorem dX6_forecastNow_30 : decode cX6_forecastNow 30 = .ok (.aload_n 1, 1) := by decide +kernel
theorem dX6_forecastNow_31 : decode cX6_forecastNow 31 = .ok (.invokestatic 281, 3) := by decide +kernel
theorem dX6_forecastNow_34 : decode cX6_forecastNow 34 = .ok (.ifCond .eq 18, 3) := by decide +kernel
theorem dX6_forecastNow_37 : decode cX6_forecastNow 37 = .ok (.iload_n 2, 1) := by decide +kernel
theorem dX6_forecastNow_38 : decode cX6_forecastNow 38 = .ok (.aload_n 0, 1) := by decide +kernel
theorem dX6_forecastNow_39 : decode cX6_forecastNow 39 = .ok (.aload 4, 2) := by decide +kernel
theorem dX6_forecastNow_41 : decode cX6_forecastNow 41 = .ok (.invokevirtual 229, 3) := by decide +kernel
theorem dX6_forecastNow_44 : decode cX6_forecastNow 44 = .ok (.aload 4, 2) := by decide +kernel
theorem dX6_forecastNow_46 : decode cX6_forecastNow 46 = .ok (.getfield 105, 3) := by decide +kernel
theorem dX6_forecastNow_49 : decode cX6_forecastNow 49 = .ok (.iadd, 1) := by decide +kernel
theorem dX6_forecastNow_50 : decode cX6_forecastNow 50 = .ok (.iadd, 1) := by decide +kernel
theorem dX6_forecastNow_51 : decode cX6_forecastNow 51 = .ok (.istore_n 2, 1) := by decide +kernel
theorem dX6_forecastNow_52 : decode cX6_forecastNow 52 = .ok (.iinc 3 1, 3) := by decide +kernel
theorem dX6_forecastNow_55 : decode cX6_forecastNow 55 = .ok (.goto (-51), 3) := by decide +kernel
theorem dX6_forecastNow_58 : decode cX6_forecastNow 58 = .ok (.iload_n 2, 1) := by decide +kernel
theorem dX6_forecastNow_59 : decode cX6_forecastNow 59 = .ok (.ireturn, 1) := by decide +kernel
theorem dX6_hundredths_0 : decode cX6_hundredths 0 = .ok (.iload_n 0, 1) := by decide +kernel
theorem dX6_hundredths_1 : decode cX6_hundredths 1 = .ok (.iload_n 1, 1) := by decide +kernel
theorem dX6_hundredths_2 : decode cX6_hundredths 2 = .ok (.imul, 1) := by decide +kernel
theorem dX6_hundredths_3 : decode cX6_hundredths 3 = .ok (.bipush 100, 2) := by decide +kernel
theorem dX6_hundredths_5 : decode cX6_hundredths 5 = .ok (.idiv, 1) := by decide +kernel
theorem dX6_hundredths_6 : decode cX6_hundredths 6 = .ok (.ireturn, 1) := by decide +kernel
theorem dX6_at_0 : decode cX6_at 0 = .ok (.iload_n 1, 1) := by decide +kernel
theorem dX6_at_1 : decode cX6_at 1 = .ok (.ifCond .lt 15, 3) := by decide +kernel
theorem dX6_at_4 : decode cX6_at 4 = .ok (.iload_n 1, 1) := by decide +kernel
theorem dX6_at_5 : decode cX6_at 5 = .ok (.aload_n 0, 1) := by decide +kernel
theorem dX6_at_6 : decode cX6_at 6 = .ok (.arraylength, 1) := by decide +kernel
theorem dX6_at_7 : decode cX6_at 7 = .ok (.if_icmp .ge 9, 3) := by decide +kernel
theorem dX6_at_10 : decode cX6_at 10 = .ok (.aload_n 0, 1) := by decide +kernel
theorem dX6_at_11 : decode cX6_at 11 = .ok (.iload_n 1, 1) := by decide +kernel
theorem dX6_at_12 : decode cX6_at 12 = .ok (.iaload, 1) := by decide +kernel
theorem dX6_at_13 : decode cX6_at 13 = .ok (.goto 4, 3) := by decide +kernel
theorem dX6_at_16 : decode cX6_at 16 = .ok (.iconst 0, 1) := by decide +kernel
theorem dX6_at_17 : decode cX6_at 17 = .ok (.ireturn, 1) := by decide +kernel
theorem dX6_addTo_0 : decode cX6_addTo 0 = .ok (.iload_n 1, 1) := by decide +kernel
theorem dX6_addTo_1 : decode cX6_addTo 1 = .ok (.ifCond .lt 16, 3) := by decide +kernel
theorem dX6_addTo_4 : decode cX6_addTo 4 = .ok (.iload_n 1, 1) := by decide +kernel
theorem dX6_addTo_5 : decode cX6_addTo 5 = .ok (.aload_n 0, 1) := by decide +kernel
theorem dX6_addTo_6 : decode cX6_addTo 6 = .ok (.arraylength, 1) := by decide +kernel
theorem dX6_addTo_7 : decode cX6_addTo 7 = .ok (.if_icmp .ge 10, 3) := by decide +kernel
theorem dX6_addTo_10 : decode cX6_addTo 10 = .ok (.aload_n 0, 1) := by decide +kernel
theorem dX6_addTo_11 : decode cX6_addTo 11 = .ok (.iload_n 1, 1) := by decide +kernel
theorem dX6_addTo_12 : decode cX6_addTo 12 = .ok (.dup2, 1) := by decide +kernel
theorem dX6_addTo_13 : decode cX6_addTo 13 = .ok (.iaload, 1) := by decide +kernel
theorem dX6_addTo_14 : decode cX6_addTo 14 = .ok (.iload_n 2, 1) := by decide +kernel
theorem dX6_addTo_15 : decode cX6_addTo 15 = .ok (.iadd, 1) := by decide +kernel
theorem dX6_addTo_16 : decode cX6_addTo 16 = .ok (.iastore, 1) := by decide +kernel
theorem dX6_addTo_17 : decode cX6_addTo 17 = .ok (.return_, 1) := by decide +kernel
theorem dX7_init_0 : decode cX7_init 0 = .ok (.aload_n 0, 1) := by decide +kernel
theorem dX7_init_1 : decode cX7_init 1 = .ok (.invokespecial 1, 3) := by decide +kernel
theorem dX7_init_4 : decode cX7_init 4 = .ok (.aload_n 0, 1) := by decide +kernel
theorem dX7_init_5 : decode cX7_init 5 = .ok (.bipush 16, 2) := by decide +kernel
theorem dX7_init_7 : decode cX7_init 7 = .ok (.newarray .int, 2) := by decide +kernel
theorem dX7_init_9 : decode cX7_init 9 = .ok (.putfield 7, 3) := by decide +kernel
theorem dX7_init_12 : decode cX7_init 12 = .ok (.aload_n 0, 1) := by decide +kernel
theorem dX7_init_13 : decode cX7_init 13 = .ok (.bipush 16, 2) := by decide +kernel
theorem dX7_init_15 : decode cX7_init 15 = .ok (.newarray .int, 2) := by decide +kernel
theorem dX7_init_17 : decode cX7_init 17 = .ok (.putfield 13, 3) := by decide +kernel
theorem dX7_init_20 : decode cX7_init 20 = .ok (.aload_n 0, 1) := by decide +kernel
theorem dX7_init_21 : decode cX7_init 21 = .ok (.bipush 16, 2) := by decide +kernel
theorem dX7_init_23 : decode cX7_init 23 = .ok (.newarray .int, 2) := by decide +kernel
theorem dX7_init_25 : decode cX7_init 25 = .ok (.putfield 16, 3) := by decide +kernel
theorem dX7_init_28 : decode cX7_init 28 = .ok (.aload_n 0, 1) := by decide +kernel
theorem dX7_init_29 : decode cX7_init 29 = .ok (.bipush 16, 2) := by decide +kernel
theorem dX7_init_31 : decode cX7_init 31 = .ok (.newarray .int, 2) := by decide +kernel
theorem dX7_init_33 : decode cX7_init 33 = .ok (.putfield 19, 3) := by decide +kernel
theorem dX7_init_36 : decode cX7_init 36 = .ok (.aload_n 0, 1) := by decide +kernel
theorem dX7_init_37 : decode cX7_init 37 = .ok (.bipush 9, 2) := by decide +kernel
theorem dX7_init_39 : decode cX7_init 39 = .ok (.newarray .int, 2) := by decide +kernel
theorem dX7_init_41 : decode cX7_init 41 = .ok (.putfield 22, 3) := by decide +kernel
theorem dX7_init_44 : decode cX7_init 44 = .ok (.aload_n 0, 1) := by decide +kernel
theorem dX7_init_45 : decode cX7_init 45 = .ok (.bipush 9, 2) := by decide +kernel
theorem dX7_init_47 : decode cX7_init 47 = .ok (.newarray .int, 2) := by decide +kernel
theorem dX7_init_49 : decode cX7_init 49 = .ok (.putfield 25, 3) := by decide +kernel
theorem dX7_init_52 : decode cX7_init 52 = .ok (.aload_n 0, 1) := by decide +kernel
theorem dX7_init_53 : decode cX7_init 53 = .ok (.bipush 9, 2) := by decide +kernel
theorem dX7_init_55 : decode cX7_init 55 = .ok (.newarray .int, 2) := by decide +kernel
theorem dX7_init_57 : decode cX7_init 57 = .ok (.putfield 28, 3) := by decide +kernel
theorem dX7_init_60 : decode cX7_init 60 = .ok (.aload_n 0, 1) := by decide +kernel
theorem dX7_init_61 : decode cX7_init 61 = .ok (.bipush 9, 2) := by decide +kernel
theorem dX7_init_63 : decode cX7_init 63 = .ok (.newarray .int, 2) := by decide +kernel
theorem dX7_init_65 : decode cX7_init 65 = .ok (.putfield 31, 3) := by decide +kernel
theorem dX7_init_68 : decode cX7_init 68 = .ok (.aload_n 0, 1) := by decide +kernel
theorem dX7_init_69 : decode cX7_init 69 = .ok (.bipush 8, 2) := by decide +kernel
theorem dX7_init_71 : decode cX7_init 71 = .ok (.newarray .int, 2) := by decide +kernel
theorem dX7_init_73 : decode cX7_init 73 = .ok (.putfield 34, 3) := by decide +kernel
theorem dX7_init_76 : decode cX7_init 76 = .ok (.aload_n 0, 1) := by decide +kernel
theorem dX7_init_77 : decode cX7_init 77 = .ok (.bipush 8, 2) := by decide +kernel
theorem dX7_init_79 : decode cX7_init 79 = .ok (.newarray .int, 2) := by decide +kernel
theorem dX7_init_81 : decode cX7_init 81 = .ok (.putfield 37, 3) := by decide +kernel
theorem dX7_init_84 : decode cX7_init 84 = .ok (.aload_n 0, 1) := by decide +kernel
theorem dX7_init_85 : decode cX7_init 85 = .ok (.bipush 8, 2) := by decide +kernel
theorem dX7_init_87 : decode cX7_init 87 = .ok (.newarray .int, 2) := by decide +kernel
theorem dX7_init_89 : decode cX7_init 89 = .ok (.putfield 40, 3) := by decide +kernel
theorem dX7_init_92 : decode cX7_init 92 = .ok (.aload_n 0, 1) := by decide +kernel
theorem dX7_init_93 : decode cX7_init 93 = .ok (.bipush 30, 2) := by decide +kernel
theorem dX7_init_95 : decode cX7_init 95 = .ok (.newarray .int, 2) := by decide +kernel
theorem dX7_init_97 : decode cX7_init 97 = .ok (.putfield 43, 3) := by decide +kernel
theorem dX7_init_100 : decode cX7_init 100 = .ok (.aload_n 0, 1) := by decide +kernel
theorem dX7_init_101 : decode cX7_init 101 = .ok (.bipush 30, 2) := by decide +kernel
theorem dX7_init_103 : decode cX7_init 103 = .ok (.newarray .int, 2) := by decide +kernel
theorem dX7_init_105 : decode cX7_init 105 = .ok (.putfield 46, 3) := by decide +kernel
theorem dX7_init_108 : decode cX7_init 108 = .ok (.aload_n 0, 1) := by decide +kernel
theorem dX7_init_109 : decode cX7_init 109 = .ok (.bipush 30, 2) := by decide +kernel
theorem dX7_init_111 : decode cX7_init 111 = .ok (.newarray .int, 2) := by decide +kernel
theorem dX7_init_113 : decode cX7_init 113 = .ok (.putfield 49, 3) := by decide +kernel
theorem dX7_init_116 : decode cX7_init 116 = .ok (.aload_n 0, 1) := by decide +kernel
theorem dX7_init_117 : decode cX7_init 117 = .ok (.bipush 30, 2) := by decide +kernel
theorem dX7_init_119 : decode cX7_init 119 = .ok (.newarray .int, 2) := by decide +kernel
theorem dX7_init_121 : decode cX7_init 121 = .ok (.putfield 52, 3) := by decide +kernel
theorem dX7_init_124 : decode cX7_init 124 = .ok (.aload_n 0, 1) := by decide +kernel
theorem dX7_init_125 : decode cX7_init 125 = .ok (.bipush 30, 2) := by decide +kernel
theorem dX7_init_127 : decode cX7_init 127 = .ok (.newarray .int, 2) := by decide +kernel
theorem dX7_init_129 : decode cX7_init 129 = .ok (.putfield 55, 3) := by decide +kernel
theorem dX7_init_132 : decode cX7_init 132 = .ok (.aload_n 0, 1) := by decide +kernel
theorem dX7_init_133 : decode cX7_init 133 = .ok (.sipush 240, 3) := by decide +kernel
theorem dX7_init_136 : decode cX7_init 136 = .ok (.newarray .int, 2) := by decide +kernel
theorem dX7_init_138 : decode cX7_init 138 = .ok (.putfield 58, 3) := by decide +kernel
theorem dX7_init_141 : decode cX7_init 141 = .ok (.aload_n 0, 1) := by decide +kernel
theorem dX7_init_142 : decode cX7_init 142 = .ok (.sipush 180, 3) := by decide +kernel
theorem dX7_init_145 : decode cX7_init 145 = .ok (.newarray .int, 2) := by decide +kernel
theorem dX7_init_147 : decode cX7_init 147 = .ok (.putfield 61, 3) := by decide +kernel
theorem dX7_init_150 : decode cX7_init 150 = .ok (.aload_n 0, 1) := by decide +kernel
theorem dX7_init_151 : decode cX7_init 151 = .ok (.bipush 40, 2) := by decide +kernel
theorem dX7_init_153 : decode cX7_init 153 = .ok (.newarray .int, 2) := by decide +kernel
theorem dX7_init_155 : decode cX7_init 155 = .ok (.putfield 64, 3) := by decide +kernel
theorem dX7_init_158 : decode cX7_init 158 = .ok (.aload_n 0, 1) := by decide +kernel
theorem dX7_init_159 : decode cX7_init 159 = .ok (.bipush 40, 2) := by decide +kernel
theorem dX7_init_161 : decode cX7_init 161 = .ok (.newarray .int, 2) := by decide +kernel
theorem dX7_init_163 : decode cX7_init 163 = .ok (.putfield 67, 3) := by decide +kernel
theorem dX7_init_166 : decode cX7_init 166 = .ok (.aload_n 0, 1) := by decide +kernel
theorem dX7_init_167 : decode cX7_init 167 = .ok (.bipush 40, 2) := by decide +kernel
theorem dX7_init_169 : decode cX7_init 169 = .ok (.newarray .int, 2) := by decide +kernel
theorem dX7_init_171 : decode cX7_init 171 = .ok (.putfield 70, 3) := by decide +kernel
theorem dX7_init_174 : decode cX7_init 174 = .ok (.aload_n 0, 1) := by decide +kernel
theorem dX7_init_175 : decode cX7_init 175 = .ok (.bipush 40, 2) := by decide +kernel
theorem dX7_init_177 : decode cX7_init 177 = .ok (.newarray .int, 2) := by decide +kernel
theorem dX7_init_179 : decode cX7_init 179 = .ok (.putfield 73, 3) := by decide +kernel
theorem dX7_init_182 : decode cX7_init 182 = .ok (.aload_n 0, 1) := by decide +kernel
theorem dX7_init_183 : decode cX7_init 183 = .ok (.sipush 160, 3) := by decide +kernel
theorem dX7_init_186 : decode cX7_init 186 = .ok (.newarray .int, 2) := by decide +kernel
theorem dX7_init_188 : decode cX7_init 188 = .ok (.putfield 76, 3) := by decide +kernel
theorem dX7_init_191 : decode cX7_init 191 = .ok (.return_, 1) := by decide +kernel
theorem dX7_thrown_0 : decode cX7_thrown 0 = .ok (.aload_n 0, 1) := by decide +kernel
theorem dX7_thrown_1 : decode cX7_thrown 1 = .ok (.getfield 79, 3) := by decide +kernel
theorem dX7_thrown_4 : decode cX7_thrown 4 = .ok (.ireturn, 1) := by decide +kernel
theorem dX7_in_0 : decode cX7_in 0 = .ok (.iload_n 0, 1) := by decide +kernel
theorem dX7_in_1 : decode cX7_in 1 = .ok (.iload_n 1, 1) := by decide +kernel
theorem dX7_in_2 : decode cX7_in 2 = .ok (.if_icmp .lt 12, 3) := by decide +kernel
theorem dX7_in_5 : decode cX7_in 5 = .ok (.iload_n 0, 1) := by decide +kernel
theorem dX7_in_6 : decode cX7_in 6 = .ok (.iload_n 2, 1) := by decide +kernel
theorem dX7_in_7 : decode cX7_in 7 = .ok (.if_icmp .gt 7, 3) := by decide +kernel
theorem dX7_in_10 : decode cX7_in 10 = .ok (.iconst 1, 1) := by decide +kernel
theorem dX7_in_11 : decode cX7_in 11 = .ok (.goto 4, 3) := by decide +kernel
theorem dX7_in_14 : decode cX7_in 14 = .ok (.iconst 0, 1) := by decide +kernel
theorem dX7_in_15 : decode cX7_in 15 = .ok (.ireturn, 1) := by decide +kernel
theorem dX7_goes_0 : decode cX7_goes 0 = .ok (.aload_n 0, 1) := by decide +kernel
theorem dX7_goes_1 : decode cX7_goes 1 = .ok (.iload_n 1, 1) := by decide +kernel
theorem dX7_goes_2 : decode cX7_goes 2 = .ok (.ifCond .ne 7, 3) := by decide +kernel
theorem dX7_goes_5 : decode cX7_goes 5 = .ok (.iconst 1, 1) := by decide +kernel
theorem dX7_goes_6 : decode cX7_goes 6 = .ok (.goto 20, 3) := by decide +kernel
theorem dX7_goes_9 : decode cX7_goes 9 = .ok (.iload_n 2, 1) := by decide +kernel
theorem dX7_goes_10 : decode cX7_goes 10 = .ok (.ifCond .ne 7, 3) := by decide +kernel
theorem dX7_goes_13 : decode cX7_goes 13 = .ok (.iconst 2, 1) := by decide +kernel
theorem dX7_goes_14 : decode cX7_goes 14 = .ok (.goto 12, 3) := by decide +kernel
theorem dX7_goes_17 : decode cX7_goes 17 = .ok (.iload_n 3, 1) := by decide +kernel
theorem dX7_goes_18 : decode cX7_goes 18 = .ok (.ifCond .ne 7, 3) := by decide +kernel
theorem dX7_goes_21 : decode cX7_goes 21 = .ok (.iconst 3, 1) := by decide +kernel
theorem dX7_goes_22 : decode cX7_goes 22 = .ok (.goto 4, 3) := by decide +kernel
theorem dX7_goes_25 : decode cX7_goes 25 = .ok (.iconst 0, 1) := by decide +kernel
theorem dX7_goes_26 : decode cX7_goes 26 = .ok (.putfield 79, 3) := by decide +kernel
theorem dX7_goes_29 : decode cX7_goes 29 = .ok (.aload_n 0, 1) := by decide +kernel
theorem dX7_goes_30 : decode cX7_goes 30 = .ok (.getfield 79, 3) := by decide +kernel
theorem dX7_goes_33 : decode cX7_goes 33 = .ok (.ifCond .ne 7, 3) := by decide +kernel
theorem dX7_goes_36 : decode cX7_goes 36 = .ok (.iconst 1, 1) := by decide +kernel
theorem dX7_goes_37 : decode cX7_goes 37 = .ok (.goto 4, 3) := by decide +kernel
theorem dX7_goes_40 : decode cX7_goes 40 = .ok (.iconst 0, 1) := by decide +kernel
theorem dX7_goes_41 : decode cX7_goes 41 = .ok (.ireturn, 1) := by decide +kernel
theorem dX7_isAccount_0 : decode cX7_isAccount 0 = .ok (.iload_n 1, 1) := by decide +kernel
theorem dX7_isAccount_1 : decode cX7_isAccount 1 = .ok (.iconst 0, 1) := by decide +kernel
theorem dX7_isAccount_2 : decode cX7_isAccount 2 = .ok (.aload_n 0, 1) := by decide +kernel
theorem dX7_isAccount_3 : decode cX7_isAccount 3 = .ok (.getfield 83, 3) := by decide +kernel
theorem dX7_isAccount_6 : decode cX7_isAccount 6 = .ok (.iconst 1, 1) := by decide +kernel
theorem dX7_isAccount_7 : decode cX7_isAccount 7 = .ok (.isub, 1) := by decide +kernel
theorem dX7_isAccount_8 : decode cX7_isAccount 8 = .ok (.invokestatic 86, 3) := by decide +kernel
theorem dX7_isAccount_11 : decode cX7_isAccount 11 = .ok (.ireturn, 1) := by decide +kernel
theorem dX7_isSeller_0 : decode cX7_isSeller 0 = .ok (.iload_n 1, 1) := by decide +kernel
theorem dX7_isSeller_1 : decode cX7_isSeller 1 = .ok (.iconst 0, 1) := by decide +kernel
theorem dX7_isSeller_2 : decode cX7_isSeller 2 = .ok (.aload_n 0, 1) := by decide +kernel
theorem dX7_isSeller_3 : decode cX7_isSeller 3 = .ok (.getfield 90, 3) := by decide +kernel
theorem dX7_isSeller_6 : decode cX7_isSeller 6 = .ok (.iconst 1, 1) := by decide +kernel
theorem dX7_isSeller_7 : decode cX7_isSeller 7 = .ok (.isub, 1) := by decide +kernel
theorem dX7_isSeller_8 : decode cX7_isSeller 8 = .ok (.invokestatic 86, 3) := by decide +kernel
theorem dX7_isSeller_11 : decode cX7_isSeller 11 = .ok (.ireturn, 1) := by decide +kernel
theorem dX7_isChance_0 : decode cX7_isChance 0 = .ok (.iload_n 1, 1) := by decide +kernel
theorem dX7_isChance_1 : decode cX7_isChance 1 = .ok (.iconst 0, 1) := by decide +kernel
theorem dX7_isChance_2 : decode cX7_isChance 2 = .ok (.aload_n 0, 1) := by decide +kernel
theorem dX7_isChance_3 : decode cX7_isChance 3 = .ok (.getfield 93, 3) := by decide +kernel
theorem dX7_isChance_6 : decode cX7_isChance 6 = .ok (.iconst 1, 1) := by decide +kernel
theorem dX7_isChance_7 : decode cX7_isChance 7 = .ok (.isub, 1) := by decide +kernel
theorem dX7_isChance_8 : decode cX7_isChance 8 = .ok (.invokestatic 86, 3) := by decide +kernel
theorem dX7_isChance_11 : decode cX7_isChance 11 = .ok (.ireturn, 1) := by decide +kernel
theorem dX7_pass_0 : decode cX7_pass 0 = .ok (.iload_n 1, 1) := by decide +kernel
theorem dX7_pass_1 : decode cX7_pass 1 = .ok (.iconst 1, 1) := by decide +kernel
theorem dX7_pass_2 : decode cX7_pass 2 = .ok (.sipush 1000, 3) := by decide +kernel
theorem dX7_pass_5 : decode cX7_pass 5 = .ok (.invokestatic 86, 3) := by decide +kernel
theorem dX7_pass_8 : decode cX7_pass 8 = .ok (.istore_n 2, 1) := by decide +kernel
theorem dX7_pass_9 : decode cX7_pass 9 = .ok (.aload_n 0, 1) := by decide +kernel
theorem dX7_pass_10 : decode cX7_pass 10 = .ok (.iload_n 2, 1) := by decide +kernel
theorem dX7_pass_11 : decode cX7_pass 11 = .ok (.iload_n 2, 1) := by decide +kernel
theorem dX7_pass_12 : decode cX7_pass 12 = .ok (.ifCond .eq 18, 3) := by decide +kernel
theorem dX7_pass_15 : decode cX7_pass 15 = .ok (.aload_n 0, 1) := by decide +kernel
theorem dX7_pass_16 : decode cX7_pass 16 = .ok (.getfield 96, 3) := by decide +kernel
theorem dX7_pass_19 : decode cX7_pass 19 = .ok (.iload_n 1, 1) := by decide +kernel
theorem dX7_pass_20 : decode cX7_pass 20 = .ok (.iadd, 1) := by decide +kernel
theorem dX7_pass_21 : decode cX7_pass 21 = .ok (.ldc 99, 2) := by decide +kernel
theorem dX7_pass_23 : decode cX7_pass 23 = .ok (.if_icmp .gt 7, 3) := by decide +kernel
theorem dX7_pass_26 : decode cX7_pass 26 = .ok (.iconst 1, 1) := by decide +kernel
theorem dX7_pass_27 : decode cX7_pass 27 = .ok (.goto 4, 3) := by decide +kernel
theorem dX7_pass_30 : decode cX7_pass 30 = .ok (.iconst 0, 1) := by decide +kernel
theorem dX7_pass_31 : decode cX7_pass 31 = .ok (.iconst 1, 1) := by decide +kernel
theorem dX7_pass_32 : decode cX7_pass 32 = .ok (.invokevirtual 100, 3) := by decide +kernel
theorem dX7_pass_35 : decode cX7_pass 35 = .ok (.ifCond .ne 5, 3) := by decide +kernel
theorem dX7_pass_38 : decode cX7_pass 38 = .ok (.iconst 0, 1) := by decide +kernel
theorem dX7_pass_39 : decode cX7_pass 39 = .ok (.ireturn, 1) := by decide +kernel
theorem dX7_pass_40 : decode cX7_pass 40 = .ok (.aload_n 0, 1) := by decide +kernel
theorem dX7_pass_41 : decode cX7_pass 41 = .ok (.dup, 1) := by decide +kernel
theorem dX7_pass_42 : decode cX7_pass 42 = .ok (.getfield 96, 3) := by decide +kernel
theorem dX7_pass_45 : decode cX7_pass 45 = .ok (.iload_n 1, 1) := by decide +kernel
theorem dX7_pass_46 : decode cX7_pass 46 = .ok (.iadd, 1) := by decide +kernel
theorem dX7_pass_47 : decode cX7_pass 47 = .ok (.putfield 96, 3) := by decide +kernel
theorem dX7_pass_50 : decode cX7_pass 50 = .ok (.aload_n 0, 1) := by decide +kernel
theorem dX7_pass_51 : decode cX7_pass 51 = .ok (.getfield 96, 3) := by decide +kernel
theorem dX7_pass_54 : decode cX7_pass 54 = .ok (.ireturn, 1) := by decide +kernel
theorem dX7_addAccount_0 : decode cX7_addAccount 0 = .ok (.aload_n 0, 1) := by decide +kernel
theorem dX7_addAccount_1 : decode cX7_addAccount 1 = .ok (.iload_n 1, 1) := by decide +kernel
theorem dX7_addAccount_2 : decode cX7_addAccount 2 = .ok (.iconst (-1), 1) := by decide +kernel
theorem dX7_addAccount_3 : decode cX7_addAccount 3 = .ok (.if_icmp .eq 11, 3) := by decide +kernel
theorem dX7_addAccount_6 : decode cX7_addAccount 6 = .ok (.aload_n 0, 1) := by decide +kernel
theorem dX7_addAccount_7 : decode cX7_addAccount 7 = .ok (.iload_n 1, 1) := by decide +kernel
theorem dX7_addAccount_8 : decode cX7_addAccount 8 = .ok (.invokevirtual 104, 3) := by decide +kernel
theorem dX7_addAccount_11 : decode cX7_addAccount 11 = .ok (.ifCond .eq 7, 3) := by decide +kernel
theorem dX7_addAccount_14 : decode cX7_addAccount 14 = .ok (.iconst 1, 1) := by decide +kernel
theorem dX7_addAccount_15 : decode cX7_addAccount 15 = .ok (.goto 4, 3) := by decide +kernel
theorem dX7_addAccount_18 : decode cX7_addAccount 18 = .ok (.iconst 0, 1) := by decide +kernel
theorem dX7_addAccount_19 : decode cX7_addAccount 19 = .ok (.iload_n 2, 1) := by decide +kernel
theorem dX7_addAccount_20 : decode cX7_addAccount 20 = .ok (.iconst 0, 1) := by decide +kernel
theorem dX7_addAccount_21 : decode cX7_addAccount 21 = .ok (.bipush 9, 2) := by decide +kernel
theorem dX7_addAccount_23 : decode cX7_addAccount 23 = .ok (.invokestatic 86, 3) := by decide +kernel
theorem dX7_addAccount_26 : decode cX7_addAccount 26 = .ok (.ifCond .eq 17, 3) := by decide +kernel
theorem dX7_addAccount_29 : decode cX7_addAccount 29 = .ok (.iload_n 3, 1) := by decide +kernel
theorem dX7_addAccount_30 : decode cX7_addAccount 30 = .ok (.iconst 0, 1) := by decide +kernel
theorem dX7_addAccount_31 : decode cX7_addAccount 31 = .ok (.bipush 9, 2) := by decide +kernel
theorem dX7_addAccount_33 : decode cX7_addAccount 33 = .ok (.invokestatic 86, 3) := by decide +kernel
theorem dX7_addAccount_36 : decode cX7_addAccount 36 = .ok (.ifCond .eq 7, 3) := by decide +kernel
theorem dX7_addAccount_39 : decode cX7_addAccount 39 = .ok (.iconst 1, 1) := by decide +kernel
theorem dX7_addAccount_40 : decode cX7_addAccount 40 = .ok (.goto 4, 3) := by decide +kernel
theorem dX7_addAccount_43 : decode cX7_addAccount 43 = .ok (.iconst 0, 1) := by decide +kernel
theorem dX7_addAccount_44 : decode cX7_addAccount 44 = .ok (.aload_n 0, 1) := by decide +kernel
theorem dX7_addAccount_45 : decode cX7_addAccount 45 = .ok (.getfield 83, 3) := by decide +kernel
theorem dX7_addAccount_48 : decode cX7_addAccount 48 = .ok (.bipush 16, 2) := by decide +kernel
theorem dX7_addAccount_50 : decode cX7_addAccount 50 = .ok (.if_icmp .ge 7, 3) := by decide +kernel
theorem dX7_addAccount_53 : decode cX7_addAccount 53 = .ok (.iconst 1, 1) := by decide +kernel
theorem dX7_addAccount_54 : decode cX7_addAccount 54 = .ok (.goto 4, 3) := by decide +kernel
theorem dX7_addAccount_57 : decode cX7_addAccount 57 = .ok (.iconst 0, 1) := by decide +kernel
theorem dX7_addAccount_58 : decode cX7_addAccount 58 = .ok (.invokevirtual 100, 3) := by decide +kernel
theorem dX7_addAccount_61 : decode cX7_addAccount 61 = .ok (.ifCond .ne 5, 3) := by decide +kernel
theorem dX7_addAccount_64 : decode cX7_addAccount 64 = .ok (.iconst 0, 1) := by decide +kernel
theorem dX7_addAccount_65 : decode cX7_addAccount 65 = .ok (.ireturn, 1) := by decide +kernel
theorem dX7_addAccount_66 : decode cX7_addAccount 66 = .ok (.aload_n 0, 1) := by decide +kernel
theorem dX7_addAccount_67 : decode cX7_addAccount 67 = .ok (.getfield 7, 3) := by decide +kernel
theorem dX7_addAccount_70 : decode cX7_addAccount 70 = .ok (.aload_n 0, 1) := by decide +kernel
theorem dX7_addAccount_71 : decode cX7_addAccount 71 = .ok (.getfield 83, 3) := by decide +kernel
theorem dX7_addAccount_74 : decode cX7_addAccount 74 = .ok (.iload_n 1, 1) := by decide +kernel
theorem dX7_addAccount_75 : decode cX7_addAccount 75 = .ok (.iastore, 1) := by decide +kernel
theorem dX7_addAccount_76 : decode cX7_addAccount 76 = .ok (.aload_n 0, 1) := by decide +kernel
theorem dX7_addAccount_77 : decode cX7_addAccount 77 = .ok (.getfield 13, 3) := by decide +kernel
theorem dX7_addAccount_80 : decode cX7_addAccount 80 = .ok (.aload_n 0, 1) := by decide +kernel
theorem dX7_addAccount_81 : decode cX7_addAccount 81 = .ok (.getfield 83, 3) := by decide +kernel
theorem dX7_addAccount_84 : decode cX7_addAccount 84 = .ok (.iload_n 2, 1) := by decide +kernel
theorem dX7_addAccount_85 : decode cX7_addAccount 85 = .ok (.iastore, 1) := by decide +kernel
theorem dX7_addAccount_86 : decode cX7_addAccount 86 = .ok (.aload_n 0, 1) := by decide +kernel
theorem dX7_addAccount_87 : decode cX7_addAccount 87 = .ok (.getfield 16, 3) := by decide +kernel
theorem dX7_addAccount_90 : decode cX7_addAccount 90 = .ok (.aload_n 0, 1) := by decide +kernel
theorem dX7_addAccount_91 : decode cX7_addAccount 91 = .ok (.getfield 83, 3) := by decide +kernel
theorem dX7_addAccount_94 : decode cX7_addAccount 94 = .ok (.iload_n 3, 1) := by decide +kernel
theorem dX7_addAccount_95 : decode cX7_addAccount 95 = .ok (.iastore, 1) := by decide +kernel
theorem dX7_addAccount_96 : decode cX7_addAccount 96 = .ok (.aload_n 0, 1) := by decide +kernel
theorem dX7_addAccount_97 : decode cX7_addAccount 97 = .ok (.getfield 19, 3) := by decide +kernel
theorem dX7_addAccount_100 : decode cX7_addAccount 100 = .ok (.aload_n 0, 1) := by decide +kernel
theorem dX7_addAccount_101 : decode cX7_addAccount 101 = .ok (.getfield 83, 3) := by decide +kernel
theorem dX7_addAccount_104 : decode cX7_addAccount 104 = .ok (.iconst (-1), 1) := by decide +kernel
theorem dX7_addAccount_105 : decode cX7_addAccount 105 = .ok (.iastore, 1) := by decide +kernel
theorem dX7_addAccount_106 : decode cX7_addAccount 106 = .ok (.aload_n 0, 1) := by decide +kernel
theorem dX7_addAccount_107 : decode cX7_addAccount 107 = .ok (.dup, 1) := by decide +kernel
theorem dX7_addAccount_108 : decode cX7_addAccount 108 = .ok (.getfield 83, 3) := by decide +kernel
theorem dX7_addAccount_111 : decode cX7_addAccount 111 = .ok (.iconst 1, 1) := by decide +kernel
theorem dX7_addAccount_112 : decode cX7_addAccount 112 = .ok (.iadd, 1) := by decide +kernel
theorem dX7_addAccount_113 : decode cX7_addAccount 113 = .ok (.putfield 83, 3) := by decide +kernel
theorem dX7_addAccount_116 : decode cX7_addAccount 116 = .ok (.aload_n 0, 1) := by decide +kernel
theorem dX7_addAccount_117 : decode cX7_addAccount 117 = .ok (.getfield 83, 3) := by decide +kernel
theorem dX7_addAccount_120 : decode cX7_addAccount 120 = .ok (.iconst 1, 1) := by decide +kernel
theorem dX7_addAccount_121 : decode cX7_addAccount 121 = .ok (.isub, 1) := by decide +kernel
theorem dX7_addAccount_122 : decode cX7_addAccount 122 = .ok (.ireturn, 1) := by decide +kernel
theorem dX7_copyRule_0 : decode cX7_copyRule 0 = .ok (.aload_n 0, 1) := by decide +kernel
theorem dX7_copyRule_1 : decode cX7_copyRule 1 = .ok (.getfield 22, 3) := by decide +kernel
theorem dX7_copyRule_4 : decode cX7_copyRule 4 = .ok (.iload_n 2, 1) := by decide +kernel
theorem dX7_copyRule_5 : decode cX7_copyRule 5 = .ok (.aload_n 0, 1) := by decide +kernel
theorem dX7_copyRule_6 : decode cX7_copyRule 6 = .ok (.getfield 22, 3) := by decide +kernel
theorem dX7_copyRule_9 : decode cX7_copyRule 9 = .ok (.iload_n 1, 1) := by decide +kernel
theorem dX7_copyRule_10 : decode cX7_copyRule 10 = .ok (.iaload, 1) := by decide +kernel
theorem dX7_copyRule_11 : decode cX7_copyRule 11 = .ok (.iastore, 1) := by decide +kernel
theorem dX7_copyRule_12 : decode cX7_copyRule 12 = .ok (.aload_n 0, 1) := by decide +kernel
theorem dX7_copyRule_13 : decode cX7_copyRule 13 = .ok (.getfield 25, 3) := by decide +kernel
theorem dX7_copyRule_16 : decode cX7_copyRule 16 = .ok (.iload_n 2, 1) := by decide +kernel
theorem dX7_copyRule_17 : decode cX7_copyRule 17 = .ok (.aload_n 0, 1) := by decide +kernel
theorem dX7_copyRule_18 : decode cX7_copyRule 18 = .ok (.getfield 25, 3) := by decide +kernel
theorem dX7_copyRule_21 : decode cX7_copyRule 21 = .ok (.iload_n 1, 1) := by decide +kernel
theorem dX7_copyRule_22 : decode cX7_copyRule 22 = .ok (.iaload, 1) := by decide +kernel
theorem dX7_copyRule_23 : decode cX7_copyRule 23 = .ok (.iastore, 1) := by decide +kernel
theorem dX7_copyRule_24 : decode cX7_copyRule 24 = .ok (.aload_n 0, 1) := by decide +kernel
theorem dX7_copyRule_25 : decode cX7_copyRule 25 = .ok (.getfield 28, 3) := by decide +kernel
theorem dX7_copyRule_28 : decode cX7_copyRule 28 = .ok (.iload_n 2, 1) := by decide +kernel
theorem dX7_copyRule_29 : decode cX7_copyRule 29 = .ok (.aload_n 0, 1) := by decide +kernel
theorem dX7_copyRule_30 : decode cX7_copyRule 30 = .ok (.getfield 28, 3) := by decide +kernel
theorem dX7_copyRule_33 : decode cX7_copyRule 33 = .ok (.iload_n 1, 1) := by decide +kernel
theorem dX7_copyRule_34 : decode cX7_copyRule 34 = .ok (.iaload, 1) := by decide +kernel
theorem dX7_copyRule_35 : decode cX7_copyRule 35 = .ok (.iastore, 1) := by decide +kernel
theorem dX7_copyRule_36 : decode cX7_copyRule 36 = .ok (.aload_n 0, 1) := by decide +kernel
theorem dX7_copyRule_37 : decode cX7_copyRule 37 = .ok (.getfield 31, 3) := by decide +kernel
theorem dX7_copyRule_40 : decode cX7_copyRule 40 = .ok (.iload_n 2, 1) := by decide +kernel
theorem dX7_copyRule_41 : decode cX7_copyRule 41 = .ok (.aload_n 0, 1) := by decide +kernel
theorem dX7_copyRule_42 : decode cX7_copyRule 42 = .ok (.getfield 31, 3) := by decide +kernel
theorem dX7_copyRule_45 : decode cX7_copyRule 45 = .ok (.iload_n 1, 1) := by decide +kernel
theorem dX7_copyRule_46 : decode cX7_copyRule 46 = .ok (.iaload, 1) := by decide +kernel
theorem dX7_copyRule_47 : decode cX7_copyRule 47 = .ok (.iastore, 1) := by decide +kernel
theorem dX7_copyRule_48 : decode cX7_copyRule 48 = .ok (.return_, 1) := by decide +kernel
theorem dX7_putRule_0 : decode cX7_putRule 0 = .ok (.iload_n 2, 1) := by decide +kernel
theorem dX7_putRule_1 : decode cX7_putRule 1 = .ok (.iconst 0, 1) := by decide +kernel
theorem dX7_putRule_2 : decode cX7_putRule 2 = .ok (.bipush 9, 2) := by decide +kernel
theorem dX7_putRule_4 : decode cX7_putRule 4 = .ok (.invokestatic 86, 3) := by decide +kernel
theorem dX7_putRule_7 : decode cX7_putRule 7 = .ok (.ifCond .eq 38, 3) := by decide +kernel
theorem dX7_putRule_10 : decode cX7_putRule 10 = .ok (.iload_n 3, 1) := by decide +kernel
theorem dX7_putRule_11 : decode cX7_putRule 11 = .ok (.iload_n 2, 1) := by decide +kernel
theorem dX7_putRule_12 : decode cX7_putRule 12 = .ok (.bipush 9, 2) := by decide +kernel
theorem dX7_putRule_14 : decode cX7_putRule 14 = .ok (.invokestatic 86, 3) := by decide +kernel
theorem dX7_putRule_17 : decode cX7_putRule 17 = .ok (.ifCond .eq 28, 3) := by decide +kernel
theorem dX7_putRule_20 : decode cX7_putRule 20 = .ok (.iload 4, 2) := by decide +kernel
theorem dX7_putRule_22 : decode cX7_putRule 22 = .ok (.iconst 0, 1) := by decide +kernel
theorem dX7_putRule_23 : decode cX7_putRule 23 = .ok (.bipush 9, 2) := by decide +kernel
theorem dX7_putRule_25 : decode cX7_putRule 25 = .ok (.invokestatic 86, 3) := by decide +kernel
theorem dX7_putRule_28 : decode cX7_putRule 28 = .ok (.ifCond .eq 17, 3) := by decide +kernel
theorem dX7_putRule_31 : decode cX7_putRule 31 = .ok (.iload 5, 2) := by decide +kernel
theorem dX7_putRule_33 : decode cX7_putRule 33 = .ok (.iconst 0, 1) := by decide +kernel
theorem dX7_putRule_34 : decode cX7_putRule 34 = .ok (.iconst 3, 1) := by decide +kernel
theorem dX7_putRule_35 : decode cX7_putRule 35 = .ok (.invokestatic 86, 3) := by decide +kernel
theorem dX7_putRule_38 : decode cX7_putRule 38 = .ok (.ifCond .eq 7, 3) := by decide +kernel
theorem dX7_putRule_41 : decode cX7_putRule 41 = .ok (.iconst 1, 1) := by decide +kernel
theorem dX7_putRule_42 : decode cX7_putRule 42 = .ok (.goto 4, 3) := by decide +kernel
theorem dX7_putRule_45 : decode cX7_putRule 45 = .ok (.iconst 0, 1) := by decide +kernel
theorem dX7_putRule_46 : decode cX7_putRule 46 = .ok (.istore 6, 2) := by decide +kernel
theorem dX7_putRule_48 : decode cX7_putRule 48 = .ok (.aload_n 0, 1) := by decide +kernel
theorem dX7_putRule_49 : decode cX7_putRule 49 = .ok (.iload_n 1, 1) := by decide +kernel
theorem dX7_putRule_50 : decode cX7_putRule 50 = .ok (.iconst 0, 1) := by decide +kernel
theorem dX7_putRule_51 : decode cX7_putRule 51 = .ok (.aload_n 0, 1) := by decide +kernel
theorem dX7_putRule_52 : decode cX7_putRule 52 = .ok (.getfield 108, 3) := by decide +kernel
theorem dX7_putRule_55 : decode cX7_putRule 55 = .ok (.invokestatic 86, 3) := by decide +kernel
theorem dX7_putRule_58 : decode cX7_putRule 58 = .ok (.iload 6, 2) := by decide +kernel
theorem dX7_putRule_60 : decode cX7_putRule 60 = .ok (.aload_n 0, 1) := by decide +kernel
theorem dX7_putRule_61 : decode cX7_putRule 61 = .ok (.getfield 108, 3) := by decide +kernel
theorem dX7_putRule_64 : decode cX7_putRule 64 = .ok (.bipush 8, 2) := by decide +kernel
theorem dX7_putRule_66 : decode cX7_putRule 66 = .ok (.if_icmp .ge 7, 3) := by decide +kernel
theorem dX7_putRule_69 : decode cX7_putRule 69 = .ok (.iconst 1, 1) := by decide +kernel
theorem dX7_putRule_70 : decode cX7_putRule 70 = .ok (.goto 4, 3) := by decide +kernel
theorem dX7_putRule_73 : decode cX7_putRule 73 = .ok (.iconst 0, 1) := by decide +kernel
theorem dX7_putRule_74 : decode cX7_putRule 74 = .ok (.invokevirtual 100, 3) := by decide +kernel
theorem dX7_putRule_77 : decode cX7_putRule 77 = .ok (.ifCond .ne 5, 3) := by decide +kernel
theorem dX7_putRule_80 : decode cX7_putRule 80 = .ok (.iconst 0, 1) := by decide +kernel
theorem dX7_putRule_81 : decode cX7_putRule 81 = .ok (.ireturn, 1) := by decide +kernel
theorem dX7_putRule_82 : decode cX7_putRule 82 = .ok (.aload_n 0, 1) := by decide +kernel
theorem dX7_putRule_83 : decode cX7_putRule 83 = .ok (.getfield 108, 3) := by decide +kernel
theorem dX7_putRule_86 : decode cX7_putRule 86 = .ok (.istore 7, 2) := by decide +kernel
theorem dX7_putRule_88 : decode cX7_putRule 88 = .ok (.iload 7, 2) := by decide +kernel
theorem dX7_putRule_90 : decode cX7_putRule 90 = .ok (.iload_n 1, 1) := by decide +kernel
theorem dX7_putRule_91 : decode cX7_putRule 91 = .ok (.if_icmp .le 19, 3) := by decide +kernel
theorem dX7_putRule_94 : decode cX7_putRule 94 = .ok (.aload_n 0, 1) := by decide +kernel
theorem dX7_putRule_95 : decode cX7_putRule 95 = .ok (.iload 7, 2) := by decide +kernel
theorem dX7_putRule_97 : decode cX7_putRule 97 = .ok (.iconst 1, 1) := by decide +kernel
theorem dX7_putRule_98 : decode cX7_putRule 98 = .ok (.isub, 1) := by decide +kernel
theorem dX7_putRule_99 : decode cX7_putRule 99 = .ok (.iload 7, 2) := by decide +kernel
theorem dX7_putRule_101 : decode cX7_putRule 101 = .ok (.invokevirtual 111, 3) := by decide +kernel
theorem dX7_putRule_104 : decode cX7_putRule 104 = .ok (.iinc 7 (-1), 3) := by decide +kernel
theorem dX7_putRule_107 : decode cX7_putRule 107 = .ok (.goto (-19), 3) := by decide +kernel
theorem dX7_putRule_110 : decode cX7_putRule 110 = .ok (.aload_n 0, 1) := by decide +kernel
theorem dX7_putRule_111 : decode cX7_putRule 111 = .ok (.getfield 22, 3) := by decide +kernel
theorem dX7_putRule_114 : decode cX7_putRule 114 = .ok (.iload_n 1, 1) := by decide +kernel
theorem dX7_putRule_115 : decode cX7_putRule 115 = .ok (.iload_n 2, 1) := by decide +kernel
theorem dX7_putRule_116 : decode cX7_putRule 116 = .ok (.iastore, 1) := by decide +kernel
theorem dX7_putRule_117 : decode cX7_putRule 117 = .ok (.aload_n 0, 1) := by decide +kernel
theorem dX7_putRule_118 : decode cX7_putRule 118 = .ok (.getfield 25, 3) := by decide +kernel
theorem dX7_putRule_121 : decode cX7_putRule 121 = .ok (.iload_n 1, 1) := by decide +kernel
theorem dX7_putRule_122 : decode cX7_putRule 122 = .ok (.iload_n 3, 1) := by decide +kernel
theorem dX7_putRule_123 : decode cX7_putRule 123 = .ok (.iastore, 1) := by decide +kernel
theorem dX7_putRule_124 : decode cX7_putRule 124 = .ok (.aload_n 0, 1) := by decide +kernel
theorem dX7_putRule_125 : decode cX7_putRule 125 = .ok (.getfield 28, 3) := by decide +kernel
theorem dX7_putRule_128 : decode cX7_putRule 128 = .ok (.iload_n 1, 1) := by decide +kernel
theorem dX7_putRule_129 : decode cX7_putRule 129 = .ok (.iload 4, 2) := by decide +kernel
theorem dX7_putRule_131 : decode cX7_putRule 131 = .ok (.iastore, 1) := by decide +kernel
theorem dX7_putRule_132 : decode cX7_putRule 132 = .ok (.aload_n 0, 1) := by decide +kernel
theorem dX7_putRule_133 : decode cX7_putRule 133 = .ok (.getfield 31, 3) := by decide +kernel
theorem dX7_putRule_136 : decode cX7_putRule 136 = .ok (.iload_n 1, 1) := by decide +kernel
theorem dX7_putRule_137 : decode cX7_putRule 137 = .ok (.iload 5, 2) := by decide +kernel
theorem dX7_putRule_139 : decode cX7_putRule 139 = .ok (.iastore, 1) := by decide +kernel
theorem dX7_putRule_140 : decode cX7_putRule 140 = .ok (.aload_n 0, 1) := by decide +kernel
theorem dX7_putRule_141 : decode cX7_putRule 141 = .ok (.dup, 1) := by decide +kernel
theorem dX7_putRule_142 : decode cX7_putRule 142 = .ok (.getfield 108, 3) := by decide +kernel
theorem dX7_putRule_145 : decode cX7_putRule 145 = .ok (.iconst 1, 1) := by decide +kernel
theorem dX7_putRule_146 : decode cX7_putRule 146 = .ok (.iadd, 1) := by decide +kernel
theorem dX7_putRule_147 : decode cX7_putRule 147 = .ok (.putfield 108, 3) := by decide +kernel
theorem dX7_putRule_150 : decode cX7_putRule 150 = .ok (.aload_n 0, 1) := by decide +kernel
theorem dX7_putRule_151 : decode cX7_putRule 151 = .ok (.getfield 108, 3) := by decide +kernel
theorem dX7_putRule_154 : decode cX7_putRule 154 = .ok (.ireturn, 1) := by decide +kernel
theorem dX7_removeRule_0 : decode cX7_removeRule 0 = .ok (.aload_n 0, 1) := by decide +kernel
theorem dX7_removeRule_1 : decode cX7_removeRule 1 = .ok (.iload_n 1, 1) := by decide +kernel
theorem dX7_removeRule_2 : decode cX7_removeRule 2 = .ok (.iconst 0, 1) := by decide +kernel
theorem dX7_removeRule_3 : decode cX7_removeRule 3 = .ok (.aload_n 0, 1) := by decide +kernel
theorem dX7_removeRule_4 : decode cX7_removeRule 4 = .ok (.getfield 108, 3) := by decide +kernel
theorem dX7_removeRule_7 : decode cX7_removeRule 7 = .ok (.iconst 1, 1) := by decide +kernel
theorem dX7_removeRule_8 : decode cX7_removeRule 8 = .ok (.isub, 1) := by decide +kernel
theorem dX7_removeRule_9 : decode cX7_removeRule 9 = .ok (.invokestatic 86, 3) := by decide +kernel
theorem dX7_removeRule_12 : decode cX7_removeRule 12 = .ok (.iconst 1, 1) := by decide +kernel
theorem dX7_removeRule_13 : decode cX7_removeRule 13 = .ok (.iconst 1, 1) := by decide +kernel
theorem dX7_removeRule_14 : decode cX7_removeRule 14 = .ok (.invokevirtual 100, 3) := by decide +kernel
theorem dX7_removeRule_17 : decode cX7_removeRule 17 = .ok (.ifCond .ne 5, 3) := by decide +kernel
theorem dX7_removeRule_20 : decode cX7_removeRule 20 = .ok (.iconst 0, 1) := by decide +kernel
theorem dX7_removeRule_21 : decode cX7_removeRule 21 = .ok (.ireturn, 1) := by decide +kernel
theorem dX7_removeRule_22 : decode cX7_removeRule 22 = .ok (.aload_n 0, 1) := by decide +kernel
theorem dX7_removeRule_23 : decode cX7_removeRule 23 = .ok (.dup, 1) := by decide +kernel
theorem dX7_removeRule_24 : decode cX7_removeRule 24 = .ok (.getfield 108, 3) := by decide +kernel
theorem dX7_removeRule_27 : decode cX7_removeRule 27 = .ok (.iconst 1, 1) := by decide +kernel
theorem dX7_removeRule_28 : decode cX7_removeRule 28 = .ok (.isub, 1) := by decide +kernel
theorem dX7_removeRule_29 : decode cX7_removeRule 29 = .ok (.putfield 108, 3) := by decide +kernel
theorem dX7_removeRule_32 : decode cX7_removeRule 32 = .ok (.iload_n 1, 1) := by decide +kernel
theorem dX7_removeRule_33 : decode cX7_removeRule 33 = .ok (.istore_n 2, 1) := by decide +kernel
theorem dX7_removeRule_34 : decode cX7_removeRule 34 = .ok (.iload_n 2, 1) := by decide +kernel
theorem dX7_removeRule_35 : decode cX7_removeRule 35 = .ok (.aload_n 0, 1) := by decide +kernel
theorem dX7_removeRule_36 : decode cX7_removeRule 36 = .ok (.getfield 108, 3) := by decide +kernel
theorem dX7_removeRule_39 : decode cX7_removeRule 39 = .ok (.if_icmp .ge 17, 3) := by decide +kernel
theorem dX7_removeRule_42 : decode cX7_removeRule 42 = .ok (.aload_n 0, 1) := by decide +kernel
theorem dX7_removeRule_43 : decode cX7_removeRule 43 = .ok (.iload_n 2, 1) := by decide +kernel
theorem dX7_removeRule_44 : decode cX7_removeRule 44 = .ok (.iconst 1, 1) := by decide +kernel
theorem dX7_removeRule_45 : decode cX7_removeRule 45 = .ok (.iadd, 1) := by decide +kernel
theorem dX7_removeRule_46 : decode cX7_removeRule 46 = .ok (.iload_n 2, 1) := by decide +kernel
theorem dX7_removeRule_47 : decode cX7_removeRule 47 = .ok (.invokevirtual 111, 3) := by decide +kernel
theorem dX7_removeRule_50 : decode cX7_removeRule 50 = .ok (.iinc 2 1, 3) := by decide +kernel
theorem dX7_removeRule_53 : decode cX7_removeRule 53 = .ok (.goto (-19), 3) := by decide +kernel
theorem dX7_removeRule_56 : decode cX7_removeRule 56 = .ok (.aload_n 0, 1) := by decide +kernel
theorem dX7_removeRule_57 : decode cX7_removeRule 57 = .ok (.getfield 108, 3) := by decide +kernel
theorem dX7_removeRule_60 : decode cX7_removeRule 60 = .ok (.ireturn, 1) := by decide +kernel
theorem dX7_except_0 : decode cX7_except 0 = .ok (.aload_n 0, 1) := by decide +kernel
theorem dX7_except_1 : decode cX7_except 1 = .ok (.aload_n 0, 1) := by decide +kernel
theorem dX7_except_2 : decode cX7_except 2 = .ok (.iload_n 1, 1) := by decide +kernel
theorem dX7_except_3 : decode cX7_except 3 = .ok (.invokevirtual 104, 3) := by decide +kernel
theorem dX7_except_6 : decode cX7_except 6 = .ok (.iload_n 2, 1) := by decide +kernel
theorem dX7_except_7 : decode cX7_except 7 = .ok (.iconst (-1), 1) := by decide +kernel
theorem dX7_except_8 : decode cX7_except 8 = .ok (.iconst 3, 1) := by decide +kernel
theorem dX7_except_9 : decode cX7_except 9 = .ok (.invokestatic 86, 3) := by decide +kernel
theorem dX7_except_12 : decode cX7_except 12 = .ok (.iconst 1, 1) := by decide +kernel
theorem dX7_except_13 : decode cX7_except 13 = .ok (.invokevirtual 100, 3) := by decide +kernel
theorem dX7_except_16 : decode cX7_except 16 = .ok (.ifCond .ne 5, 3) := by decide +kernel
theorem dX7_except_19 : decode cX7_except 19 = .ok (.iconst 0, 1) := by decide +kernel
theorem dX7_except_20 : decode cX7_except 20 = .ok (.ireturn, 1) := by decide +kernel
theorem dX7_except_21 : decode cX7_except 21 = .ok (.aload_n 0, 1) := by decide +kernel
theorem dX7_except_22 : decode cX7_except 22 = .ok (.getfield 19, 3) := by decide +kernel
theorem dX7_except_25 : decode cX7_except 25 = .ok (.iload_n 1, 1) := by decide +kernel
theorem dX7_except_26 : decode cX7_except 26 = .ok (.iaload, 1) := by decide +kernel
theorem dX7_except_27 : decode cX7_except 27 = .ok (.istore_n 3, 1) := by decide +kernel
theorem dX7_except_28 : decode cX7_except 28 = .ok (.aload_n 0, 1) := by decide +kernel
theorem dX7_except_29 : decode cX7_except 29 = .ok (.getfield 19, 3) := by decide +kernel
theorem dX7_except_32 : decode cX7_except 32 = .ok (.iload_n 1, 1) := by decide +kernel
theorem dX7_except_33 : decode cX7_except 33 = .ok (.iload_n 2, 1) := by decide +kernel
theorem dX7_except_34 : decode cX7_except 34 = .ok (.iastore, 1) := by decide +kernel
theorem dX7_except_35 : decode cX7_except 35 = .ok (.iload_n 3, 1) := by decide +kernel
theorem dX7_except_36 : decode cX7_except 36 = .ok (.ireturn, 1) := by decide +kernel
theorem dX7_ownRegion_0 : decode cX7_ownRegion 0 = .ok (.iconst (-1), 1) := by decide +kernel
theorem dX7_ownRegion_1 : decode cX7_ownRegion 1 = .ok (.istore_n 2, 1) := by decide +kernel
theorem dX7_ownRegion_2 : decode cX7_ownRegion 2 = .ok (.aload_n 0, 1) := by decide +kernel
theorem dX7_ownRegion_3 : decode cX7_ownRegion 3 = .ok (.getfield 108, 3) := by decide +kernel
theorem dX7_ownRegion_6 : decode cX7_ownRegion 6 = .ok (.iconst 1, 1) := by decide +kernel
theorem dX7_ownRegion_7 : decode cX7_ownRegion 7 = .ok (.isub, 1) := by decide +kernel
theorem dX7_ownRegion_8 : decode cX7_ownRegion 8 = .ok (.istore_n 3, 1) := by decide +kernel
theorem dX7_ownRegion_9 : decode cX7_ownRegion 9 = .ok (.iload_n 3, 1) := by decide +kernel
theorem dX7_ownRegion_10 : decode cX7_ownRegion 10 = .ok (.ifCond .lt 59, 3) := by decide +kernel
theorem dX7_ownRegion_13 : decode cX7_ownRegion 13 = .ok (.aload_n 0, 1) := by decide +kernel
theorem dX7_ownRegion_14 : decode cX7_ownRegion 14 = .ok (.getfield 13, 3) := by decide +kernel
theorem dX7_ownRegion_17 : decode cX7_ownRegion 17 = .ok (.iload_n 1, 1) := by decide +kernel
theorem dX7_ownRegion_18 : decode cX7_ownRegion 18 = .ok (.iaload, 1) := by decide +kernel
theorem dX7_ownRegion_19 : decode cX7_ownRegion 19 = .ok (.aload_n 0, 1) := by decide +kernel
theorem dX7_ownRegion_20 : decode cX7_ownRegion 20 = .ok (.getfield 22, 3) := by decide +kernel
theorem dX7_ownRegion_23 : decode cX7_ownRegion 23 = .ok (.iload_n 3, 1) := by decide +kernel
theorem dX7_ownRegion_24 : decode cX7_ownRegion 24 = .ok (.iaload, 1) := by decide +kernel
theorem dX7_ownRegion_25 : decode cX7_ownRegion 25 = .ok (.aload_n 0, 1) := by decide +kernel
theorem dX7_ownRegion_26 : decode cX7_ownRegion 26 = .ok (.getfield 25, 3) := by decide +kernel
theorem dX7_ownRegion_29 : decode cX7_ownRegion 29 = .ok (.iload_n 3, 1) := by decide +kernel
theorem dX7_ownRegion_30 : decode cX7_ownRegion 30 = .ok (.iaload, 1) := by decide +kernel
theorem dX7_ownRegion_31 : decode cX7_ownRegion 31 = .ok (.invokestatic 86, 3) := by decide +kernel
theorem dX7_ownRegion_34 : decode cX7_ownRegion 34 = .ok (.ifCond .eq 27, 3) := by decide +kernel
theorem dX7_ownRegion_37 : decode cX7_ownRegion 37 = .ok (.aload_n 0, 1) := by decide +kernel
theorem dX7_ownRegion_38 : decode cX7_ownRegion 38 = .ok (.getfield 28, 3) := by decide +kernel
theorem dX7_ownRegion_41 : decode cX7_ownRegion 41 = .ok (.iload_n 3, 1) := by decide +kernel
theorem dX7_ownRegion_42 : decode cX7_ownRegion 42 = .ok (.iaload, 1) := by decide +kernel
theorem dX7_ownRegion_43 : decode cX7_ownRegion 43 = .ok (.aload_n 0, 1) := by decide +kernel
theorem dX7_ownRegion_44 : decode cX7_ownRegion 44 = .ok (.getfield 16, 3) := by decide +kernel
theorem dX7_ownRegion_47 : decode cX7_ownRegion 47 = .ok (.iload_n 1, 1) := by decide +kernel
theorem dX7_ownRegion_48 : decode cX7_ownRegion 48 = .ok (.iaload, 1) := by decide +kernel
theorem dX7_ownRegion_49 : decode cX7_ownRegion 49 = .ok (.if_icmp .gt 12, 3) := by decide +kernel
theorem dX7_ownRegion_52 : decode cX7_ownRegion 52 = .ok (.aload_n 0, 1) := by decide +kernel
theorem dX7_ownRegion_53 : decode cX7_ownRegion 53 = .ok (.getfield 31, 3) := by decide +kernel
theorem dX7_ownRegion_56 : decode cX7_ownRegion 56 = .ok (.iload_n 3, 1) := by decide +kernel
theorem dX7_ownRegion_57 : decode cX7_ownRegion 57 = .ok (.iaload, 1) := by decide +kernel
theorem dX7_ownRegion_58 : decode cX7_ownRegion 58 = .ok (.goto 4, 3) := by decide +kernel
theorem dX7_ownRegion_61 : decode cX7_ownRegion 61 = .ok (.iload_n 2, 1) := by decide +kernel
theorem dX7_ownRegion_62 : decode cX7_ownRegion 62 = .ok (.istore_n 2, 1) := by decide +kernel
theorem dX7_ownRegion_63 : decode cX7_ownRegion 63 = .ok (.iinc 3 (-1), 3) := by decide +kernel
theorem dX7_ownRegion_66 : decode cX7_ownRegion 66 = .ok (.goto (-57), 3) := by decide +kernel
theorem dX7_ownRegion_69 : decode cX7_ownRegion 69 = .ok (.aload_n 0, 1) := by decide +kernel
theorem dX7_ownRegion_70 : decode cX7_ownRegion 70 = .ok (.getfield 19, 3) := by decide +kernel
theorem dX7_ownRegion_73 : decode cX7_ownRegion 73 = .ok (.iload_n 1, 1) := by decide +kernel
theorem dX7_ownRegion_74 : decode cX7_ownRegion 74 = .ok (.iaload, 1) := by decide +kernel
theorem dX7_ownRegion_75 : decode cX7_ownRegion 75 = .ok (.iconst (-1), 1) := by decide +kernel
theorem dX7_ownRegion_76 : decode cX7_ownRegion 76 = .ok (.if_icmp .eq 12, 3) := by decide +kernel
theorem dX7_ownRegion_79 : decode cX7_ownRegion 79 = .ok (.aload_n 0, 1) := by decide +kernel
theorem dX7_ownRegion_80 : decode cX7_ownRegion 80 = .ok (.getfield 19, 3) := by decide +kernel
theorem dX7_ownRegion_83 : decode cX7_ownRegion 83 = .ok (.iload_n 1, 1) := by decide +kernel
theorem dX7_ownRegion_84 : decode cX7_ownRegion 84 = .ok (.iaload, 1) := by decide +kernel
theorem dX7_ownRegion_85 : decode cX7_ownRegion 85 = .ok (.goto 4, 3) := by decide +kernel
theorem dX7_ownRegion_88 : decode cX7_ownRegion 88 = .ok (.iload_n 2, 1) := by decide +kernel
theorem dX7_ownRegion_89 : decode cX7_ownRegion 89 = .ok (.ireturn, 1) := by decide +kernel
theorem dX7_region_0 : decode cX7_region 0 = .ok (.iload_n 1, 1) := by decide +kernel
theorem dX7_region_1 : decode cX7_region 1 = .ok (.istore_n 2, 1) := by decide +kernel
theorem dX7_region_2 : decode cX7_region 2 = .ok (.iload_n 2, 1) := by decide +kernel
theorem dX7_region_3 : decode cX7_region 3 = .ok (.iconst (-1), 1) := by decide +kernel
theorem dX7_region_4 : decode cX7_region 4 = .ok (.if_icmp .eq 22, 3) := by decide +kernel
theorem dX7_region_7 : decode cX7_region 7 = .ok (.aload_n 0, 1) := by decide +kernel
theorem dX7_region_8 : decode cX7_region 8 = .ok (.iload_n 2, 1) := by decide +kernel
theorem dX7_region_9 : decode cX7_region 9 = .ok (.invokevirtual 115, 3) := by decide +kernel
theorem dX7_region_12 : decode cX7_region 12 = .ok (.iconst (-1), 1) := by decide +kernel
theorem dX7_region_13 : decode cX7_region 13 = .ok (.if_icmp .ne 13, 3) := by decide +kernel
theorem dX7_region_16 : decode cX7_region 16 = .ok (.aload_n 0, 1) := by decide +kernel
theorem dX7_region_17 : decode cX7_region 17 = .ok (.getfield 7, 3) := by decide +kernel
theorem dX7_region_20 : decode cX7_region 20 = .ok (.iload_n 2, 1) := by decide +kernel
theorem dX7_region_21 : decode cX7_region 21 = .ok (.iaload, 1) := by decide +kernel
theorem dX7_region_22 : decode cX7_region 22 = .ok (.istore_n 2, 1) := by decide +kernel
theorem dX7_region_23 : decode cX7_region 23 = .ok (.goto (-21), 3) := by decide +kernel
theorem dX7_region_26 : decode cX7_region 26 = .ok (.iload_n 2, 1) := by decide +kernel
theorem dX7_region_27 : decode cX7_region 27 = .ok (.iconst (-1), 1) := by decide +kernel
theorem dX7_region_28 : decode cX7_region 28 = .ok (.if_icmp .ne 7, 3) := by decide +kernel
theorem dX7_region_31 : decode cX7_region 31 = .ok (.iconst 0, 1) := by decide +kernel
theorem dX7_region_32 : decode cX7_region 32 = .ok (.goto 8, 3) := by decide +kernel
theorem dX7_region_35 : decode cX7_region 35 = .ok (.aload_n 0, 1) := by decide +kernel
theorem dX7_region_36 : decode cX7_region 36 = .ok (.iload_n 2, 1) := by decide +kernel
theorem dX7_region_37 : decode cX7_region 37 = .ok (.invokevirtual 115, 3) := by decide +kernel
theorem dX7_region_40 : decode cX7_region 40 = .ok (.ireturn, 1) := by decide +kernel
theorem dX7_regionOf_0 : decode cX7_regionOf 0 = .ok (.aload_n 0, 1) := by decide +kernel
theorem dX7_regionOf_1 : decode cX7_regionOf 1 = .ok (.aload_n 0, 1) := by decide +kernel
theorem dX7_regionOf_2 : decode cX7_regionOf 2 = .ok (.iload_n 1, 1) := by decide +kernel
theorem dX7_regionOf_3 : decode cX7_regionOf 3 = .ok (.invokevirtual 104, 3) := by decide +kernel
theorem dX7_regionOf_6 : decode cX7_regionOf 6 = .ok (.iconst 1, 1) := by decide +kernel
theorem dX7_regionOf_7 : decode cX7_regionOf 7 = .ok (.iconst 1, 1) := by decide +kernel
theorem dX7_regionOf_8 : decode cX7_regionOf 8 = .ok (.invokevirtual 100, 3) := by decide +kernel
theorem dX7_regionOf_11 : decode cX7_regionOf 11 = .ok (.ifCond .eq 11, 3) := by decide +kernel
theorem dX7_regionOf_14 : decode cX7_regionOf 14 = .ok (.aload_n 0, 1) := by decide +kernel
theorem dX7_regionOf_15 : decode cX7_regionOf 15 = .ok (.iload_n 1, 1) := by decide +kernel
theorem dX7_regionOf_16 : decode cX7_regionOf 16 = .ok (.invokevirtual 119, 3) := by decide +kernel
theorem dX7_regionOf_19 : decode cX7_regionOf 19 = .ok (.goto 4, 3) := by decide +kernel
theorem dX7_regionOf_22 : decode cX7_regionOf 22 = .ok (.iconst 0, 1) := by decide +kernel
theorem dX7_regionOf_23 : decode cX7_regionOf 23 = .ok (.ireturn, 1) := by decide +kernel
theorem dX7_addSeller_0 : decode cX7_addSeller 0 = .ok (.aload_n 0, 1) := by decide +kernel
theorem dX7_addSeller_1 : decode cX7_addSeller 1 = .ok (.iload_n 1, 1) := by decide +kernel
theorem dX7_addSeller_2 : decode cX7_addSeller 2 = .ok (.iconst (-1), 1) := by decide +kernel
theorem dX7_addSeller_3 : decode cX7_addSeller 3 = .ok (.if_icmp .eq 11, 3) := by decide +kernel
theorem dX7_addSeller_6 : decode cX7_addSeller 6 = .ok (.aload_n 0, 1) := by decide +kernel
theorem dX7_addSeller_7 : decode cX7_addSeller 7 = .ok (.iload_n 1, 1) := by decide +kernel
theorem dX7_addSeller_8 : decode cX7_addSeller 8 = .ok (.invokevirtual 122, 3) := by decide +kernel
theorem dX7_addSeller_11 : decode cX7_addSeller 11 = .ok (.ifCond .eq 7, 3) := by decide +kernel
theorem dX7_addSeller_14 : decode cX7_addSeller 14 = .ok (.iconst 1, 1) := by decide +kernel
theorem dX7_addSeller_15 : decode cX7_addSeller 15 = .ok (.goto 4, 3) := by decide +kernel
theorem dX7_addSeller_18 : decode cX7_addSeller 18 = .ok (.iconst 0, 1) := by decide +kernel
theorem dX7_addSeller_19 : decode cX7_addSeller 19 = .ok (.iload_n 2, 1) := by decide +kernel
theorem dX7_addSeller_20 : decode cX7_addSeller 20 = .ok (.iconst 0, 1) := by decide +kernel
theorem dX7_addSeller_21 : decode cX7_addSeller 21 = .ok (.bipush 99, 2) := by decide +kernel
theorem dX7_addSeller_23 : decode cX7_addSeller 23 = .ok (.invokestatic 86, 3) := by decide +kernel
theorem dX7_addSeller_26 : decode cX7_addSeller 26 = .ok (.aload_n 0, 1) := by decide +kernel
theorem dX7_addSeller_27 : decode cX7_addSeller 27 = .ok (.getfield 90, 3) := by decide +kernel
theorem dX7_addSeller_30 : decode cX7_addSeller 30 = .ok (.bipush 8, 2) := by decide +kernel
theorem dX7_addSeller_32 : decode cX7_addSeller 32 = .ok (.if_icmp .ge 7, 3) := by decide +kernel
theorem dX7_addSeller_35 : decode cX7_addSeller 35 = .ok (.iconst 1, 1) := by decide +kernel
theorem dX7_addSeller_36 : decode cX7_addSeller 36 = .ok (.goto 4, 3) := by decide +kernel
theorem dX7_addSeller_39 : decode cX7_addSeller 39 = .ok (.iconst 0, 1) := by decide +kernel
theorem dX7_addSeller_40 : decode cX7_addSeller 40 = .ok (.invokevirtual 100, 3) := by decide +kernel
theorem dX7_addSeller_43 : decode cX7_addSeller 43 = .ok (.ifCond .ne 5, 3) := by decide +kernel
theorem dX7_addSeller_46 : decode cX7_addSeller 46 = .ok (.iconst 0, 1) := by decide +kernel
theorem dX7_addSeller_47 : decode cX7_addSeller 47 = .ok (.ireturn, 1) := by decide +kernel
theorem dX7_addSeller_48 : decode cX7_addSeller 48 = .ok (.aload_n 0, 1) := by decide +kernel
theorem dX7_addSeller_49 : decode cX7_addSeller 49 = .ok (.getfield 34, 3) := by decide +kernel
theorem dX7_addSeller_52 : decode cX7_addSeller 52 = .ok (.aload_n 0, 1) := by decide +kernel
theorem dX7_addSeller_53 : decode cX7_addSeller 53 = .ok (.getfield 90, 3) := by decide +kernel
theorem dX7_addSeller_56 : decode cX7_addSeller 56 = .ok (.iload_n 1, 1) := by decide +kernel
theorem dX7_addSeller_57 : decode cX7_addSeller 57 = .ok (.iastore, 1) := by decide +kernel
theorem dX7_addSeller_58 : decode cX7_addSeller 58 = .ok (.aload_n 0, 1) := by decide +kernel
theorem dX7_addSeller_59 : decode cX7_addSeller 59 = .ok (.getfield 37, 3) := by decide +kernel
theorem dX7_addSeller_62 : decode cX7_addSeller 62 = .ok (.aload_n 0, 1) := by decide +kernel
theorem dX7_addSeller_63 : decode cX7_addSeller 63 = .ok (.getfield 90, 3) := by decide +kernel
theorem dX7_addSeller_66 : decode cX7_addSeller 66 = .ok (.iload_n 2, 1) := by decide +kernel
theorem dX7_addSeller_67 : decode cX7_addSeller 67 = .ok (.iastore, 1) := by decide +kernel
theorem dX7_addSeller_68 : decode cX7_addSeller 68 = .ok (.aload_n 0, 1) := by decide +kernel
theorem dX7_addSeller_69 : decode cX7_addSeller 69 = .ok (.dup, 1) := by decide +kernel
theorem dX7_addSeller_70 : decode cX7_addSeller 70 = .ok (.getfield 90, 3) := by decide +kernel
theorem dX7_addSeller_73 : decode cX7_addSeller 73 = .ok (.iconst 1, 1) := by decide +kernel
theorem dX7_addSeller_74 : decode cX7_addSeller 74 = .ok (.iadd, 1) := by decide +kernel
theorem dX7_addSeller_75 : decode cX7_addSeller 75 = .ok (.putfield 90, 3) := by decide +kernel
theorem dX7_addSeller_78 : decode cX7_addSeller 78 = .ok (.aload_n 0, 1) := by decide +kernel
theorem dX7_addSeller_79 : decode cX7_addSeller 79 = .ok (.getfield 90, 3) := by decide +kernel
theorem dX7_addSeller_82 : decode cX7_addSeller 82 = .ok (.iconst 1, 1) := by decide +kernel
theorem dX7_addSeller_83 : decode cX7_addSeller 83 = .ok (.isub, 1) := by decide +kernel
theorem dX7_addSeller_84 : decode cX7_addSeller 84 = .ok (.ireturn, 1) := by decide +kernel
theorem dX7_adjust_0 : decode cX7_adjust 0 = .ok (.aload_n 0, 1) := by decide +kernel
theorem dX7_adjust_1 : decode cX7_adjust 1 = .ok (.aload_n 0, 1) := by decide +kernel
theorem dX7_adjust_2 : decode cX7_adjust 2 = .ok (.iload_n 1, 1) := by decide +kernel
theorem dX7_adjust_3 : decode cX7_adjust 3 = .ok (.invokevirtual 122, 3) := by decide +kernel
theorem dX7_adjust_6 : decode cX7_adjust 6 = .ok (.iload_n 2, 1) := by decide +kernel
theorem dX7_adjust_7 : decode cX7_adjust 7 = .ok (.ldc 125, 2) := by decide +kernel
theorem dX7_adjust_9 : decode cX7_adjust 9 = .ok (.ldc 126, 2) := by decide +kernel
theorem dX7_adjust_11 : decode cX7_adjust 11 = .ok (.invokestatic 86, 3) := by decide +kernel
theorem dX7_adjust_14 : decode cX7_adjust 14 = .ok (.iconst 1, 1) := by decide +kernel
theorem dX7_adjust_15 : decode cX7_adjust 15 = .ok (.invokevirtual 100, 3) := by decide +kernel
theorem dX7_adjust_18 : decode cX7_adjust 18 = .ok (.ifCond .ne 5, 3) := by decide +kernel
theorem dX7_adjust_21 : decode cX7_adjust 21 = .ok (.iconst 0, 1) := by decide +kernel
theorem dX7_adjust_22 : decode cX7_adjust 22 = .ok (.ireturn, 1) := by decide +kernel
theorem dX7_adjust_23 : decode cX7_adjust 23 = .ok (.aload_n 0, 1) := by decide +kernel
theorem dX7_adjust_24 : decode cX7_adjust 24 = .ok (.getfield 40, 3) := by decide +kernel
theorem dX7_adjust_27 : decode cX7_adjust 27 = .ok (.iload_n 1, 1) := by decide +kernel
theorem dX7_adjust_28 : decode cX7_adjust 28 = .ok (.iaload, 1) := by decide +kernel
theorem dX7_adjust_29 : decode cX7_adjust 29 = .ok (.istore_n 3, 1) := by decide +kernel
theorem dX7_adjust_30 : decode cX7_adjust 30 = .ok (.aload_n 0, 1) := by decide +kernel
theorem dX7_adjust_31 : decode cX7_adjust 31 = .ok (.getfield 40, 3) := by decide +kernel
theorem dX7_adjust_34 : decode cX7_adjust 34 = .ok (.iload_n 1, 1) := by decide +kernel
theorem dX7_adjust_35 : decode cX7_adjust 35 = .ok (.iload_n 2, 1) := by decide +kernel
theorem dX7_adjust_36 : decode cX7_adjust 36 = .ok (.iastore, 1) := by decide +kernel
theorem dX7_adjust_37 : decode cX7_adjust 37 = .ok (.iload_n 3, 1) := by decide +kernel
theorem dX7_adjust_38 : decode cX7_adjust 38 = .ok (.ireturn, 1) := by decide +kernel
theorem dX7_addChance_0 : decode cX7_addChance 0 = .ok (.aload_n 0, 1) := by decide +kernel
theorem dX7_addChance_1 : decode cX7_addChance 1 = .ok (.aload_n 0, 1) := by decide +kernel
theorem dX7_addChance_2 : decode cX7_addChance 2 = .ok (.iload_n 1, 1) := by decide +kernel
theorem dX7_addChance_3 : decode cX7_addChance 3 = .ok (.invokevirtual 104, 3) := by decide +kernel
theorem dX7_addChance_6 : decode cX7_addChance 6 = .ok (.ifCond .eq 15, 3) := by decide +kernel
theorem dX7_addChance_9 : decode cX7_addChance 9 = .ok (.aload_n 0, 1) := by decide +kernel
theorem dX7_addChance_10 : decode cX7_addChance 10 = .ok (.iload_n 2, 1) := by decide +kernel
theorem dX7_addChance_11 : decode cX7_addChance 11 = .ok (.invokevirtual 122, 3) := by decide +kernel
theorem dX7_addChance_14 : decode cX7_addChance 14 = .ok (.ifCond .eq 7, 3) := by decide +kernel
theorem dX7_addChance_17 : decode cX7_addChance 17 = .ok (.iconst 1, 1) := by decide +kernel
theorem dX7_addChance_18 : decode cX7_addChance 18 = .ok (.goto 4, 3) := by decide +kernel
theorem dX7_addChance_21 : decode cX7_addChance 21 = .ok (.iconst 0, 1) := by decide +kernel
theorem dX7_addChance_22 : decode cX7_addChance 22 = .ok (.iload_n 3, 1) := by decide +kernel
theorem dX7_addChance_23 : decode cX7_addChance 23 = .ok (.iconst 1, 1) := by decide +kernel
theorem dX7_addChance_24 : decode cX7_addChance 24 = .ok (.ldc 126, 2) := by decide +kernel
theorem dX7_addChance_26 : decode cX7_addChance 26 = .ok (.invokestatic 86, 3) := by decide +kernel
theorem dX7_addChance_29 : decode cX7_addChance 29 = .ok (.aload_n 0, 1) := by decide +kernel
theorem dX7_addChance_30 : decode cX7_addChance 30 = .ok (.getfield 93, 3) := by decide +kernel
theorem dX7_addChance_33 : decode cX7_addChance 33 = .ok (.bipush 30, 2) := by decide +kernel
theorem dX7_addChance_35 : decode cX7_addChance 35 = .ok (.if_icmp .ge 7, 3) := by decide +kernel
theorem dX7_addChance_38 : decode cX7_addChance 38 = .ok (.iconst 1, 1) := by decide +kernel
theorem dX7_addChance_39 : decode cX7_addChance 39 = .ok (.goto 4, 3) := by decide +kernel
theorem dX7_addChance_42 : decode cX7_addChance 42 = .ok (.iconst 0, 1) := by decide +kernel
theorem dX7_addChance_43 : decode cX7_addChance 43 = .ok (.invokevirtual 100, 3) := by decide +kernel
theorem dX7_addChance_46 : decode cX7_addChance 46 = .ok (.ifCond .ne 5, 3) := by decide +kernel
theorem dX7_addChance_49 : decode cX7_addChance 49 = .ok (.iconst 0, 1) := by decide +kernel
theorem dX7_addChance_50 : decode cX7_addChance 50 = .ok (.ireturn, 1) := by decide +kernel
theorem dX7_addChance_51 : decode cX7_addChance 51 = .ok (.aload_n 0, 1) := by decide +kernel
theorem dX7_addChance_52 : decode cX7_addChance 52 = .ok (.getfield 43, 3) := by decide +kernel
theorem dX7_addChance_55 : decode cX7_addChance 55 = .ok (.aload_n 0, 1) := by decide +kernel
theorem dX7_addChance_56 : decode cX7_addChance 56 = .ok (.getfield 93, 3) := by decide +kernel
theorem dX7_addChance_59 : decode cX7_addChance 59 = .ok (.iload_n 1, 1) := by decide +kernel
theorem dX7_addChance_60 : decode cX7_addChance 60 = .ok (.iastore, 1) := by decide +kernel
theorem dX7_addChance_61 : decode cX7_addChance 61 = .ok (.aload_n 0, 1) := by decide +kernel
theorem dX7_addChance_62 : decode cX7_addChance 62 = .ok (.getfield 46, 3) := by decide +kernel
theorem dX7_addChance_65 : decode cX7_addChance 65 = .ok (.aload_n 0, 1) := by decide +kernel
theorem dX7_addChance_66 : decode cX7_addChance 66 = .ok (.getfield 93, 3) := by decide +kernel
theorem dX7_addChance_69 : decode cX7_addChance 69 = .ok (.iload_n 3, 1) := by decide +kernel
theorem dX7_addChance_70 : decode cX7_addChance 70 = .ok (.iastore, 1) := by decide +kernel
theorem dX7_addChance_71 : decode cX7_addChance 71 = .ok (.aload_n 0, 1) := by decide +kernel
theorem dX7_addChance_72 : decode cX7_addChance 72 = .ok (.getfield 52, 3) := by decide +kernel
theorem dX7_addChance_75 : decode cX7_addChance 75 = .ok (.aload_n 0, 1) := by decide +kernel
theorem dX7_addChance_76 : decode cX7_addChance 76 = .ok (.getfield 93, 3) := by decide +kernel
theorem dX7_addChance_79 : decode cX7_addChance 79 = .ok (.aload_n 0, 1) := by decide +kernel
theorem dX7_addChance_80 : decode cX7_addChance 80 = .ok (.getfield 96, 3) := by decide +kernel
theorem dX7_addChance_83 : decode cX7_addChance 83 = .ok (.iastore, 1) := by decide +kernel
theorem dX7_addChance_84 : decode cX7_addChance 84 = .ok (.aload_n 0, 1) := by decide +kernel
theorem dX7_addChance_85 : decode cX7_addChance 85 = .ok (.getfield 58, 3) := by decide +kernel
theorem dX7_addChance_88 : decode cX7_addChance 88 = .ok (.bipush 8, 2) := by decide +kernel
theorem dX7_addChance_90 : decode cX7_addChance 90 = .ok (.aload_n 0, 1) := by decide +kernel
theorem dX7_addChance_91 : decode cX7_addChance 91 = .ok (.getfield 93, 3) := by decide +kernel
theorem dX7_addChance_94 : decode cX7_addChance 94 = .ok (.imul, 1) := by decide +kernel
theorem dX7_addChance_95 : decode cX7_addChance 95 = .ok (.iload_n 2, 1) := by decide +kernel
theorem dX7_addChance_96 : decode cX7_addChance 96 = .ok (.iadd, 1) := by decide +kernel
theorem dX7_addChance_97 : decode cX7_addChance 97 = .ok (.bipush 100, 2) := by decide +kernel
theorem dX7_addChance_99 : decode cX7_addChance 99 = .ok (.iastore, 1) := by decide +kernel
theorem dX7_addChance_100 : decode cX7_addChance 100 = .ok (.aload_n 0, 1) := by decide +kernel
theorem dX7_addChance_101 : decode cX7_addChance 101 = .ok (.dup, 1) := by decide +kernel
theorem dX7_addChance_102 : decode cX7_addChance 102 = .ok (.getfield 93, 3) := by decide +kernel
theorem dX7_addChance_105 : decode cX7_addChance 105 = .ok (.iconst 1, 1) := by decide +kernel
theorem dX7_addChance_106 : decode cX7_addChance 106 = .ok (.iadd, 1) := by decide +kernel
theorem dX7_addChance_107 : decode cX7_addChance 107 = .ok (.putfield 93, 3) := by decide +kernel
theorem dX7_addChance_110 : decode cX7_addChance 110 = .ok (.aload_n 0, 1) := by decide +kernel
theorem dX7_addChance_111 : decode cX7_addChance 111 = .ok (.getfield 93, 3) := by decide +kernel
theorem dX7_addChance_114 : decode cX7_addChance 114 = .ok (.iconst 1, 1) := by decide +kernel
theorem dX7_addChance_115 : decode cX7_addChance 115 = .ok (.isub, 1) := by decide +kernel
theorem dX7_addChance_116 : decode cX7_addChance 116 = .ok (.ireturn, 1) := by decide +kernel
theorem dX7_isOpen_0 : decode cX7_isOpen 0 = .ok (.aload_n 0, 1) := by decide +kernel
theorem dX7_isOpen_1 : decode cX7_isOpen 1 = .ok (.getfield 49, 3) := by decide +kernel
theorem dX7_isOpen_4 : decode cX7_isOpen 4 = .ok (.iload_n 1, 1) := by decide +kernel
theorem dX7_isOpen_5 : decode cX7_isOpen 5 = .ok (.iaload, 1) := by decide +kernel
theorem dX7_isOpen_6 : decode cX7_isOpen 6 = .ok (.iconst 4, 1) := by decide +kernel
theorem dX7_isOpen_7 : decode cX7_isOpen 7 = .ok (.if_icmp .ge 7, 3) := by decide +kernel
theorem dX7_isOpen_10 : decode cX7_isOpen 10 = .ok (.iconst 1, 1) := by decide +kernel
theorem dX7_isOpen_11 : decode cX7_isOpen 11 = .ok (.goto 4, 3) := by decide +kernel
theorem dX7_isOpen_14 : decode cX7_isOpen 14 = .ok (.iconst 0, 1) := by decide +kernel
theorem dX7_isOpen_15 : decode cX7_isOpen 15 = .ok (.ireturn, 1) := by decide +kernel
theorem dX7_giveShare_0 : decode cX7_giveShare 0 = .ok (.aload_n 0, 1) := by decide +kernel
theorem dX7_giveShare_1 : decode cX7_giveShare 1 = .ok (.iload_n 1, 1) := by decide +kernel
theorem dX7_giveShare_2 : decode cX7_giveShare 2 = .ok (.invokevirtual 127, 3) := by decide +kernel
theorem dX7_giveShare_5 : decode cX7_giveShare 5 = .ok (.ifCond .eq 23, 3) := by decide +kernel
theorem dX7_giveShare_8 : decode cX7_giveShare 8 = .ok (.aload_n 0, 1) := by decide +kernel
theorem dX7_giveShare_9 : decode cX7_giveShare 9 = .ok (.iload_n 2, 1) := by decide +kernel
theorem dX7_giveShare_10 : decode cX7_giveShare 10 = .ok (.invokevirtual 122, 3) := by decide +kernel
theorem dX7_giveShare_13 : decode cX7_giveShare 13 = .ok (.ifCond .eq 15, 3) := by decide +kernel
theorem dX7_giveShare_16 : decode cX7_giveShare 16 = .ok (.aload_n 0, 1) := by decide +kernel
theorem dX7_giveShare_17 : decode cX7_giveShare 17 = .ok (.iload_n 3, 1) := by decide +kernel
theorem dX7_giveShare_18 : decode cX7_giveShare 18 = .ok (.invokevirtual 122, 3) := by decide +kernel
theorem dX7_giveShare_21 : decode cX7_giveShare 21 = .ok (.ifCond .eq 7, 3) := by decide +kernel
theorem dX7_giveShare_24 : decode cX7_giveShare 24 = .ok (.iconst 1, 1) := by decide +kernel
theorem dX7_giveShare_25 : decode cX7_giveShare 25 = .ok (.goto 4, 3) := by decide +kernel
theorem dX7_giveShare_28 : decode cX7_giveShare 28 = .ok (.iconst 0, 1) := by decide +kernel
theorem dX7_giveShare_29 : decode cX7_giveShare 29 = .ok (.istore 5, 2) := by decide +kernel
theorem dX7_giveShare_31 : decode cX7_giveShare 31 = .ok (.iload 5, 2) := by decide +kernel
theorem dX7_giveShare_33 : decode cX7_giveShare 33 = .ok (.ifCond .eq 31, 3) := by decide +kernel
theorem dX7_giveShare_36 : decode cX7_giveShare 36 = .ok (.aload_n 0, 1) := by decide +kernel
theorem dX7_giveShare_37 : decode cX7_giveShare 37 = .ok (.iload_n 1, 1) := by decide +kernel
theorem dX7_giveShare_38 : decode cX7_giveShare 38 = .ok (.invokevirtual 130, 3) := by decide +kernel
theorem dX7_giveShare_41 : decode cX7_giveShare 41 = .ok (.ifCond .eq 23, 3) := by decide +kernel
theorem dX7_giveShare_44 : decode cX7_giveShare 44 = .ok (.aload_n 0, 1) := by decide +kernel
theorem dX7_giveShare_45 : decode cX7_giveShare 45 = .ok (.getfield 58, 3) := by decide +kernel
theorem dX7_giveShare_48 : decode cX7_giveShare 48 = .ok (.bipush 8, 2) := by decide +kernel
theorem dX7_giveShare_50 : decode cX7_giveShare 50 = .ok (.iload_n 1, 1) := by decide +kernel
theorem dX7_giveShare_51 : decode cX7_giveShare 51 = .ok (.imul, 1) := by decide +kernel
theorem dX7_giveShare_52 : decode cX7_giveShare 52 = .ok (.iload_n 2, 1) := by decide +kernel
theorem dX7_giveShare_53 : decode cX7_giveShare 53 = .ok (.iadd, 1) := by decide +kernel
theorem dX7_giveShare_54 : decode cX7_giveShare 54 = .ok (.iaload, 1) := by decide +kernel
theorem dX7_giveShare_55 : decode cX7_giveShare 55 = .ok (.iload 4, 2) := by decide +kernel
theorem dX7_giveShare_57 : decode cX7_giveShare 57 = .ok (.if_icmp .lt 7, 3) := by decide +kernel
theorem dX7_giveShare_60 : decode cX7_giveShare 60 = .ok (.iconst 1, 1) := by decide +kernel
theorem dX7_giveShare_61 : decode cX7_giveShare 61 = .ok (.goto 4, 3) := by decide +kernel
theorem dX7_giveShare_64 : decode cX7_giveShare 64 = .ok (.iconst 0, 1) := by decide +kernel
theorem dX7_giveShare_65 : decode cX7_giveShare 65 = .ok (.istore 6, 2) := by decide +kernel
theorem dX7_giveShare_67 : decode cX7_giveShare 67 = .ok (.aload_n 0, 1) := by decide +kernel
theorem dX7_giveShare_68 : decode cX7_giveShare 68 = .ok (.iload 5, 2) := by decide +kernel
theorem dX7_giveShare_70 : decode cX7_giveShare 70 = .ok (.iload 4, 2) := by decide +kernel
theorem dX7_giveShare_72 : decode cX7_giveShare 72 = .ok (.iconst 1, 1) := by decide +kernel
theorem dX7_giveShare_73 : decode cX7_giveShare 73 = .ok (.bipush 100, 2) := by decide +kernel
theorem dX7_giveShare_75 : decode cX7_giveShare 75 = .ok (.invokestatic 86, 3) := by decide +kernel
theorem dX7_giveShare_78 : decode cX7_giveShare 78 = .ok (.ifCond .eq 12, 3) := by decide +kernel
theorem dX7_giveShare_81 : decode cX7_giveShare 81 = .ok (.iload_n 2, 1) := by decide +kernel
theorem dX7_giveShare_82 : decode cX7_giveShare 82 = .ok (.iload_n 3, 1) := by decide +kernel
theorem dX7_giveShare_83 : decode cX7_giveShare 83 = .ok (.if_icmp .eq 7, 3) := by decide +kernel
theorem dX7_giveShare_86 : decode cX7_giveShare 86 = .ok (.iconst 1, 1) := by decide +kernel
theorem dX7_giveShare_87 : decode cX7_giveShare 87 = .ok (.goto 4, 3) := by decide +kernel
theorem dX7_giveShare_90 : decode cX7_giveShare 90 = .ok (.iconst 0, 1) := by decide +kernel
theorem dX7_giveShare_91 : decode cX7_giveShare 91 = .ok (.iload 6, 2) := by decide +kernel
theorem dX7_giveShare_93 : decode cX7_giveShare 93 = .ok (.invokevirtual 100, 3) := by decide +kernel
theorem dX7_giveShare_96 : decode cX7_giveShare 96 = .ok (.ifCond .ne 5, 3) := by decide +kernel
theorem dX7_giveShare_99 : decode cX7_giveShare 99 = .ok (.iconst 0, 1) := by decide +kernel
theorem dX7_giveShare_100 : decode cX7_giveShare 100 = .ok (.ireturn, 1) := by decide +kernel
theorem dX7_giveShare_101 : decode cX7_giveShare 101 = .ok (.aload_n 0, 1) := by decide +kernel
theorem dX7_giveShare_102 : decode cX7_giveShare 102 = .ok (.getfield 58, 3) := by decide +kernel
theorem dX7_giveShare_105 : decode cX7_giveShare 105 = .ok (.bipush 8, 2) := by decide +kernel
theorem dX7_giveShare_107 : decode cX7_giveShare 107 = .ok (.iload_n 1, 1) := by decide +kernel
theorem dX7_giveShare_108 : decode cX7_giveShare 108 = .ok (.imul, 1) := by decide +kernel
theorem dX7_giveShare_109 : decode cX7_giveShare 109 = .ok (.iload_n 2, 1) := by decide +kernel
theorem dX7_giveShare_110 : decode cX7_giveShare 110 = .ok (.iadd, 1) := by decide +kernel
theorem dX7_giveShare_111 : decode cX7_giveShare 111 = .ok (.dup2, 1) := by decide +kernel
theorem dX7_giveShare_112 : decode cX7_giveShare 112 = .ok (.iaload, 1) := by decide +kernel
theorem dX7_giveShare_113 : decode cX7_giveShare 113 = .ok (.iload 4, 2) := by decide +kernel
theorem dX7_giveShare_115 : decode cX7_giveShare 115 = .ok (.isub, 1) := by decide +kernel
theorem dX7_giveShare_116 : decode cX7_giveShare 116 = .ok (.iastore, 1) := by decide +kernel
theorem dX7_giveShare_117 : decode cX7_giveShare 117 = .ok (.aload_n 0, 1) := by decide +kernel
theorem dX7_giveShare_118 : decode cX7_giveShare 118 = .ok (.getfield 58, 3) := by decide +kernel
theorem dX7_giveShare_121 : decode cX7_giveShare 121 = .ok (.bipush 8, 2) := by decide +kernel
theorem dX7_giveShare_123 : decode cX7_giveShare 123 = .ok (.iload_n 1, 1) := by decide +kernel
theorem dX7_giveShare_124 : decode cX7_giveShare 124 = .ok (.imul, 1) := by decide +kernel
theorem dX7_giveShare_125 : decode cX7_giveShare 125 = .ok (.iload_n 3, 1) := by decide +kernel
theorem dX7_giveShare_126 : decode cX7_giveShare 126 = .ok (.iadd, 1) := by decide +kernel
theorem dX7_giveShare_127 : decode cX7_giveShare 127 = .ok (.dup2, 1) := by decide +kernel
theorem dX7_giveShare_128 : decode cX7_giveShare 128 = .ok (.iaload, 1) := by decide +kernel
theorem dX7_giveShare_129 : decode cX7_giveShare 129 = .ok (.iload 4, 2) := by decide +kernel
theorem dX7_giveShare_131 : decode cX7_giveShare 131 = .ok (.iadd, 1) := by decide +kernel
theorem dX7_giveShare_132 : decode cX7_giveShare 132 = .ok (.iastore, 1) := by decide +kernel
theorem dX7_giveShare_133 : decode cX7_giveShare 133 = .ok (.aload_n 0, 1) := by decide +kernel
theorem dX7_giveShare_134 : decode cX7_giveShare 134 = .ok (.getfield 58, 3) := by decide +kernel
theorem dX7_giveShare_137 : decode cX7_giveShare 137 = .ok (.bipush 8, 2) := by decide +kernel
theorem dX7_giveShare_139 : decode cX7_giveShare 139 = .ok (.iload_n 1, 1) := by decide +kernel
theorem dX7_giveShare_140 : decode cX7_giveShare 140 = .ok (.imul, 1) := by decide +kernel
theorem dX7_giveShare_141 : decode cX7_giveShare 141 = .ok (.iload_n 3, 1) := by decide +kernel
theorem dX7_giveShare_142 : decode cX7_giveShare 142 = .ok (.iadd, 1) := by decide +kernel
theorem dX7_giveShare_143 : decode cX7_giveShare 143 = .ok (.iaload, 1) := by decide +kernel
theorem dX7_giveShare_144 : decode cX7_giveShare 144 = .ok (.ireturn, 1) := by decide +kernel
theorem dX7_counts_0 : decode cX7_counts 0 = .ok (.iconst (-1), 1) := by decide +kernel
theorem dX7_counts_1 : decode cX7_counts 1 = .ok (.istore_n 2, 1) := by decide +kernel
theorem dX7_counts_2 : decode cX7_counts 2 = .ok (.iconst 0, 1) := by decide +kernel
theorem dX7_counts_3 : decode cX7_counts 3 = .ok (.istore_n 3, 1) := by decide +kernel
theorem dX7_counts_4 : decode cX7_counts 4 = .ok (.iload_n 3, 1) := by decide +kernel
theorem dX7_counts_5 : decode cX7_counts 5 = .ok (.aload_n 0, 1) := by decide +kernel
theorem dX7_counts_6 : decode cX7_counts 6 = .ok (.getfield 133, 3) := by decide +kernel
theorem dX7_counts_9 : decode cX7_counts 9 = .ok (.if_icmp .ge 66, 3) := by decide +kernel
theorem dX7_counts_12 : decode cX7_counts 12 = .ok (.aload_n 0, 1) := by decide +kernel
theorem dX7_counts_13 : decode cX7_counts 13 = .ok (.getfield 64, 3) := by decide +kernel
theorem dX7_counts_16 : decode cX7_counts 16 = .ok (.iload_n 3, 1) := by decide +kernel
theorem dX7_counts_17 : decode cX7_counts 17 = .ok (.iaload, 1) := by decide +kernel
theorem dX7_counts_18 : decode cX7_counts 18 = .ok (.iload_n 1, 1) := by decide +kernel
theorem dX7_counts_19 : decode cX7_counts 19 = .ok (.if_icmp .ne 36, 3) := by decide +kernel
theorem dX7_counts_22 : decode cX7_counts 22 = .ok (.aload_n 0, 1) := by decide +kernel
theorem dX7_counts_23 : decode cX7_counts 23 = .ok (.getfield 73, 3) := by decide +kernel
theorem dX7_counts_26 : decode cX7_counts 26 = .ok (.iload_n 3, 1) := by decide +kernel
theorem dX7_counts_27 : decode cX7_counts 27 = .ok (.iaload, 1) := by decide +kernel
theorem dX7_counts_28 : decode cX7_counts 28 = .ok (.ifCond .le 27, 3) := by decide +kernel
theorem dX7_counts_31 : decode cX7_counts 31 = .ok (.iload_n 2, 1) := by decide +kernel
theorem dX7_counts_32 : decode cX7_counts 32 = .ok (.iconst (-1), 1) := by decide +kernel
theorem dX7_counts_33 : decode cX7_counts 33 = .ok (.if_icmp .eq 18, 3) := by decide +kernel
theorem dX7_counts_36 : decode cX7_counts 36 = .ok (.aload_n 0, 1) := by decide +kernel
theorem dX7_counts_37 : decode cX7_counts 37 = .ok (.getfield 73, 3) := by decide +kernel
theorem dX7_counts_40 : decode cX7_counts 40 = .ok (.iload_n 3, 1) := by decide +kernel
theorem dX7_counts_41 : decode cX7_counts 41 = .ok (.iaload, 1) := by decide +kernel
theorem dX7_counts_42 : decode cX7_counts 42 = .ok (.aload_n 0, 1) := by decide +kernel
theorem dX7_counts_43 : decode cX7_counts 43 = .ok (.getfield 73, 3) := by decide +kernel
theorem dX7_counts_46 : decode cX7_counts 46 = .ok (.iload_n 2, 1) := by decide +kernel
theorem dX7_counts_47 : decode cX7_counts 47 = .ok (.iaload, 1) := by decide +kernel
theorem dX7_counts_48 : decode cX7_counts 48 = .ok (.if_icmp .le 7, 3) := by decide +kernel
theorem dX7_counts_51 : decode cX7_counts 51 = .ok (.iconst 1, 1) := by decide +kernel
theorem dX7_counts_52 : decode cX7_counts 52 = .ok (.goto 4, 3) := by decide +kernel
theorem dX7_counts_55 : decode cX7_counts 55 = .ok (.iconst 0, 1) := by decide +kernel
theorem dX7_counts_56 : decode cX7_counts 56 = .ok (.istore 4, 2) := by decide +kernel
theorem dX7_counts_58 : decode cX7_counts 58 = .ok (.iload 4, 2) := by decide +kernel
theorem dX7_counts_60 : decode cX7_counts 60 = .ok (.ifCond .eq 7, 3) := by decide +kernel
theorem dX7_counts_63 : decode cX7_counts 63 = .ok (.iload_n 3, 1) := by decide +kernel
theorem dX7_counts_64 : decode cX7_counts 64 = .ok (.goto 4, 3) := by decide +kernel
theorem dX7_counts_67 : decode cX7_counts 67 = .ok (.iload_n 2, 1) := by decide +kernel
theorem dX7_counts_68 : decode cX7_counts 68 = .ok (.istore_n 2, 1) := by decide +kernel
theorem dX7_counts_69 : decode cX7_counts 69 = .ok (.iinc 3 1, 3) := by decide +kernel
theorem dX7_counts_72 : decode cX7_counts 72 = .ok (.goto (-68), 3) := by decide +kernel
theorem dX7_counts_75 : decode cX7_counts 75 = .ok (.iload_n 2, 1) := by decide +kernel
theorem dX7_counts_76 : decode cX7_counts 76 = .ok (.ireturn, 1) := by decide +kernel
theorem dX7_canCome_0 : decode cX7_canCome 0 = .ok (.aload_n 0, 1) := by decide +kernel
theorem dX7_canCome_1 : decode cX7_canCome 1 = .ok (.getfield 49, 3) := by decide +kernel
theorem dX7_canCome_4 : decode cX7_canCome 4 = .ok (.iload_n 1, 1) := by decide +kernel
theorem dX7_canCome_5 : decode cX7_canCome 5 = .ok (.iaload, 1) := by decide +kernel
theorem dX7_canCome_6 : decode cX7_canCome 6 = .ok (.istore_n 3, 1) := by decide +kernel
theorem dX7_canCome_7 : decode cX7_canCome 7 = .ok (.iload_n 2, 1) := by decide +kernel
theorem dX7_canCome_8 : decode cX7_canCome 8 = .ok (.iload_n 3, 1) := by decide +kernel
theorem dX7_canCome_9 : decode cX7_canCome 9 = .ok (.if_icmp .lt 15, 3) := by decide +kernel
theorem dX7_canCome_12 : decode cX7_canCome 12 = .ok (.iload_n 2, 1) := by decide +kernel
theorem dX7_canCome_13 : decode cX7_canCome 13 = .ok (.iconst 5, 1) := by decide +kernel
theorem dX7_canCome_14 : decode cX7_canCome 14 = .ok (.if_icmp .eq 10, 3) := by decide +kernel
theorem dX7_canCome_17 : decode cX7_canCome 17 = .ok (.iload_n 2, 1) := by decide +kernel
theorem dX7_canCome_18 : decode cX7_canCome 18 = .ok (.iload_n 3, 1) := by decide +kernel
theorem dX7_canCome_19 : decode cX7_canCome 19 = .ok (.iconst 1, 1) := by decide +kernel
theorem dX7_canCome_20 : decode cX7_canCome 20 = .ok (.iadd, 1) := by decide +kernel
theorem dX7_canCome_21 : decode cX7_canCome 21 = .ok (.if_icmp .ne 7, 3) := by decide +kernel
theorem dX7_canCome_24 : decode cX7_canCome 24 = .ok (.iconst 1, 1) := by decide +kernel
theorem dX7_canCome_25 : decode cX7_canCome 25 = .ok (.goto 4, 3) := by decide +kernel
theorem dX7_canCome_28 : decode cX7_canCome 28 = .ok (.iconst 0, 1) := by decide +kernel
theorem dX7_canCome_29 : decode cX7_canCome 29 = .ok (.istore 4, 2) := by decide +kernel
theorem dX7_canCome_31 : decode cX7_canCome 31 = .ok (.aload_n 0, 1) := by decide +kernel
theorem dX7_canCome_32 : decode cX7_canCome 32 = .ok (.iload_n 1, 1) := by decide +kernel
theorem dX7_canCome_33 : decode cX7_canCome 33 = .ok (.invokevirtual 130, 3) := by decide +kernel
theorem dX7_canCome_36 : decode cX7_canCome 36 = .ok (.ifCond .eq 31, 3) := by decide +kernel
theorem dX7_canCome_39 : decode cX7_canCome 39 = .ok (.iload 4, 2) := by decide +kernel
theorem dX7_canCome_41 : decode cX7_canCome 41 = .ok (.ifCond .eq 26, 3) := by decide +kernel
theorem dX7_canCome_44 : decode cX7_canCome 44 = .ok (.iload_n 3, 1) := by decide +kernel
theorem dX7_canCome_45 : decode cX7_canCome 45 = .ok (.iconst 2, 1) := by decide +kernel
theorem dX7_canCome_46 : decode cX7_canCome 46 = .ok (.if_icmp .ne 17, 3) := by decide +kernel
theorem dX7_canCome_49 : decode cX7_canCome 49 = .ok (.iload_n 2, 1) := by decide +kernel
theorem dX7_canCome_50 : decode cX7_canCome 50 = .ok (.iconst 3, 1) := by decide +kernel
theorem dX7_canCome_51 : decode cX7_canCome 51 = .ok (.if_icmp .ne 12, 3) := by decide +kernel
theorem dX7_canCome_54 : decode cX7_canCome 54 = .ok (.aload_n 0, 1) := by decide +kernel
theorem dX7_canCome_55 : decode cX7_canCome 55 = .ok (.iload_n 1, 1) := by decide +kernel
theorem dX7_canCome_56 : decode cX7_canCome 56 = .ok (.invokevirtual 136, 3) := by decide +kernel
theorem dX7_canCome_59 : decode cX7_canCome 59 = .ok (.iconst (-1), 1) := by decide +kernel
theorem dX7_canCome_60 : decode cX7_canCome 60 = .ok (.if_icmp .eq 7, 3) := by decide +kernel
theorem dX7_canCome_63 : decode cX7_canCome 63 = .ok (.iconst 1, 1) := by decide +kernel
theorem dX7_canCome_64 : decode cX7_canCome 64 = .ok (.goto 4, 3) := by decide +kernel
theorem dX7_canCome_67 : decode cX7_canCome 67 = .ok (.iconst 0, 1) := by decide +kernel
theorem dX7_canCome_68 : decode cX7_canCome 68 = .ok (.ireturn, 1) := by decide +kernel
theorem dX7_move_0 : decode cX7_move 0 = .ok (.aload_n 0, 1) := by decide +kernel
theorem dX7_move_1 : decode cX7_move 1 = .ok (.iload_n 1, 1) := by decide +kernel
theorem dX7_move_2 : decode cX7_move 2 = .ok (.invokevirtual 127, 3) := by decide +kernel
theorem dX7_move_5 : decode cX7_move 5 = .ok (.istore_n 3, 1) := by decide +kernel
theorem dX7_move_6 : decode cX7_move 6 = .ok (.iload_n 2, 1) := by decide +kernel
theorem dX7_move_7 : decode cX7_move 7 = .ok (.iconst 0, 1) := by decide +kernel
theorem dX7_move_8 : decode cX7_move 8 = .ok (.iconst 5, 1) := by decide +kernel
theorem dX7_move_9 : decode cX7_move 9 = .ok (.invokestatic 86, 3) := by decide +kernel
theorem dX7_move_12 : decode cX7_move 12 = .ok (.istore 4, 2) := by decide +kernel
theorem dX7_move_14 : decode cX7_move 14 = .ok (.aload_n 0, 1) := by decide +kernel
theorem dX7_move_15 : decode cX7_move 15 = .ok (.iload_n 3, 1) := by decide +kernel
theorem dX7_move_16 : decode cX7_move 16 = .ok (.iload 4, 2) := by decide +kernel
theorem dX7_move_18 : decode cX7_move 18 = .ok (.iload_n 3, 1) := by decide +kernel
theorem dX7_move_19 : decode cX7_move 19 = .ok (.ifCond .eq 21, 3) := by decide +kernel
theorem dX7_move_22 : decode cX7_move 22 = .ok (.iload 4, 2) := by decide +kernel
theorem dX7_move_24 : decode cX7_move 24 = .ok (.ifCond .eq 16, 3) := by decide +kernel
theorem dX7_move_27 : decode cX7_move 27 = .ok (.aload_n 0, 1) := by decide +kernel
theorem dX7_move_28 : decode cX7_move 28 = .ok (.iload_n 1, 1) := by decide +kernel
theorem dX7_move_29 : decode cX7_move 29 = .ok (.iload_n 2, 1) := by decide +kernel
theorem dX7_move_30 : decode cX7_move 30 = .ok (.invokevirtual 139, 3) := by decide +kernel
theorem dX7_move_33 : decode cX7_move 33 = .ok (.ifCond .eq 7, 3) := by decide +kernel
theorem dX7_move_36 : decode cX7_move 36 = .ok (.iconst 1, 1) := by decide +kernel
theorem dX7_move_37 : decode cX7_move 37 = .ok (.goto 4, 3) := by decide +kernel
theorem dX7_move_40 : decode cX7_move 40 = .ok (.iconst 0, 1) := by decide +kernel
theorem dX7_move_41 : decode cX7_move 41 = .ok (.invokevirtual 100, 3) := by decide +kernel
theorem dX7_move_44 : decode cX7_move 44 = .ok (.ifCond .ne 5, 3) := by decide +kernel
theorem dX7_move_47 : decode cX7_move 47 = .ok (.iconst 0, 1) := by decide +kernel
theorem dX7_move_48 : decode cX7_move 48 = .ok (.ireturn, 1) := by decide +kernel
theorem dX7_move_49 : decode cX7_move 49 = .ok (.aload_n 0, 1) := by decide +kernel
theorem dX7_move_50 : decode cX7_move 50 = .ok (.getfield 96, 3) := by decide +kernel
theorem dX7_move_53 : decode cX7_move 53 = .ok (.aload_n 0, 1) := by decide +kernel
theorem dX7_move_54 : decode cX7_move 54 = .ok (.getfield 52, 3) := by decide +kernel
theorem dX7_move_57 : decode cX7_move 57 = .ok (.iload_n 1, 1) := by decide +kernel
theorem dX7_move_58 : decode cX7_move 58 = .ok (.iaload, 1) := by decide +kernel
theorem dX7_move_59 : decode cX7_move 59 = .ok (.isub, 1) := by decide +kernel
theorem dX7_move_60 : decode cX7_move 60 = .ok (.istore 5, 2) := by decide +kernel
theorem dX7_move_62 : decode cX7_move 62 = .ok (.aload_n 0, 1) := by decide +kernel
theorem dX7_move_63 : decode cX7_move 63 = .ok (.getfield 61, 3) := by decide +kernel
theorem dX7_move_66 : decode cX7_move 66 = .ok (.bipush 6, 2) := by decide +kernel
theorem dX7_move_68 : decode cX7_move 68 = .ok (.iload_n 1, 1) := by decide +kernel
theorem dX7_move_69 : decode cX7_move 69 = .ok (.imul, 1) := by decide +kernel
theorem dX7_move_70 : decode cX7_move 70 = .ok (.aload_n 0, 1) := by decide +kernel
theorem dX7_move_71 : decode cX7_move 71 = .ok (.getfield 49, 3) := by decide +kernel
theorem dX7_move_74 : decode cX7_move 74 = .ok (.iload_n 1, 1) := by decide +kernel
theorem dX7_move_75 : decode cX7_move 75 = .ok (.iaload, 1) := by decide +kernel
theorem dX7_move_76 : decode cX7_move 76 = .ok (.iadd, 1) := by decide +kernel
theorem dX7_move_77 : decode cX7_move 77 = .ok (.dup2, 1) := by decide +kernel
theorem dX7_move_78 : decode cX7_move 78 = .ok (.iaload, 1) := by decide +kernel
theorem dX7_move_79 : decode cX7_move 79 = .ok (.iload 5, 2) := by decide +kernel
theorem dX7_move_81 : decode cX7_move 81 = .ok (.iadd, 1) := by decide +kernel
theorem dX7_move_82 : decode cX7_move 82 = .ok (.iastore, 1) := by decide +kernel
theorem dX7_move_83 : decode cX7_move 83 = .ok (.aload_n 0, 1) := by decide +kernel
theorem dX7_move_84 : decode cX7_move 84 = .ok (.getfield 49, 3) := by decide +kernel
theorem dX7_move_87 : decode cX7_move 87 = .ok (.iload_n 1, 1) := by decide +kernel
theorem dX7_move_88 : decode cX7_move 88 = .ok (.iload_n 2, 1) := by decide +kernel
theorem dX7_move_89 : decode cX7_move 89 = .ok (.iastore, 1) := by decide +kernel
theorem dX7_move_90 : decode cX7_move 90 = .ok (.aload_n 0, 1) := by decide +kernel
theorem dX7_move_91 : decode cX7_move 91 = .ok (.getfield 52, 3) := by decide +kernel
theorem dX7_move_94 : decode cX7_move 94 = .ok (.iload_n 1, 1) := by decide +kernel
theorem dX7_move_95 : decode cX7_move 95 = .ok (.aload_n 0, 1) := by decide +kernel
theorem dX7_move_96 : decode cX7_move 96 = .ok (.getfield 96, 3) := by decide +kernel
theorem dX7_move_99 : decode cX7_move 99 = .ok (.iastore, 1) := by decide +kernel
theorem dX7_move_100 : decode cX7_move 100 = .ok (.aload_n 0, 1) := by decide +kernel
theorem dX7_move_101 : decode cX7_move 101 = .ok (.getfield 55, 3) := by decide +kernel
theorem dX7_move_104 : decode cX7_move 104 = .ok (.iload_n 1, 1) := by decide +kernel
theorem dX7_move_105 : decode cX7_move 105 = .ok (.aload_n 0, 1) := by decide +kernel
theorem dX7_move_106 : decode cX7_move 106 = .ok (.aload_n 0, 1) := by decide +kernel
theorem dX7_move_107 : decode cX7_move 107 = .ok (.getfield 43, 3) := by decide +kernel
theorem dX7_move_110 : decode cX7_move 110 = .ok (.iload_n 1, 1) := by decide +kernel
theorem dX7_move_111 : decode cX7_move 111 = .ok (.iaload, 1) := by decide +kernel
theorem dX7_move_112 : decode cX7_move 112 = .ok (.invokevirtual 119, 3) := by decide +kernel
theorem dX7_move_115 : decode cX7_move 115 = .ok (.iastore, 1) := by decide +kernel
theorem dX7_move_116 : decode cX7_move 116 = .ok (.iload 5, 2) := by decide +kernel
theorem dX7_move_118 : decode cX7_move 118 = .ok (.ireturn, 1) := by decide +kernel
theorem dX7_stage_0 : decode cX7_stage 0 = .ok (.aload_n 0, 1) := by decide +kernel
theorem dX7_stage_1 : decode cX7_stage 1 = .ok (.aload_n 0, 1) := by decide +kernel
theorem dX7_stage_2 : decode cX7_stage 2 = .ok (.iload_n 1, 1) := by decide +kernel
theorem dX7_stage_3 : decode cX7_stage 3 = .ok (.invokevirtual 127, 3) := by decide +kernel
theorem dX7_stage_6 : decode cX7_stage 6 = .ok (.iconst 1, 1) := by decide +kernel
theorem dX7_stage_7 : decode cX7_stage 7 = .ok (.iconst 1, 1) := by decide +kernel
theorem dX7_stage_8 : decode cX7_stage 8 = .ok (.invokevirtual 100, 3) := by decide +kernel
theorem dX7_stage_11 : decode cX7_stage 11 = .ok (.ifCond .eq 12, 3) := by decide +kernel
theorem dX7_stage_14 : decode cX7_stage 14 = .ok (.aload_n 0, 1) := by decide +kernel
theorem dX7_stage_15 : decode cX7_stage 15 = .ok (.getfield 49, 3) := by decide +kernel
theorem dX7_stage_18 : decode cX7_stage 18 = .ok (.iload_n 1, 1) := by decide +kernel
theorem dX7_stage_19 : decode cX7_stage 19 = .ok (.iaload, 1) := by decide +kernel
theorem dX7_stage_20 : decode cX7_stage 20 = .ok (.goto 4, 3) := by decide +kernel
theorem dX7_stage_23 : decode cX7_stage 23 = .ok (.iconst 0, 1) := by decide +kernel
theorem dX7_stage_24 : decode cX7_stage 24 = .ok (.ireturn, 1) := by decide +kernel
theorem dX7_daysIn_0 : decode cX7_daysIn 0 = .ok (.aload_n 0, 1) := by decide +kernel
theorem dX7_daysIn_1 : decode cX7_daysIn 1 = .ok (.aload_n 0, 1) := by decide +kernel
theorem dX7_daysIn_2 : decode cX7_daysIn 2 = .ok (.iload_n 1, 1) := by decide +kernel
theorem dX7_daysIn_3 : decode cX7_daysIn 3 = .ok (.invokevirtual 127, 3) := by decide +kernel
theorem dX7_daysIn_6 : decode cX7_daysIn 6 = .ok (.iload_n 2, 1) := by decide +kernel
theorem dX7_daysIn_7 : decode cX7_daysIn 7 = .ok (.iconst 0, 1) := by decide +kernel
theorem dX7_daysIn_8 : decode cX7_daysIn 8 = .ok (.iconst 5, 1) := by decide +kernel
theorem dX7_daysIn_9 : decode cX7_daysIn 9 = .ok (.invokestatic 86, 3) := by decide +kernel
theorem dX7_daysIn_12 : decode cX7_daysIn 12 = .ok (.iconst 1, 1) := by decide +kernel
theorem dX7_daysIn_13 : decode cX7_daysIn 13 = .ok (.invokevirtual 100, 3) := by decide +kernel
theorem dX7_daysIn_16 : decode cX7_daysIn 16 = .ok (.ifCond .ne 5, 3) := by decide +kernel
theorem dX7_daysIn_19 : decode cX7_daysIn 19 = .ok (.iconst 0, 1) := by decide +kernel
theorem dX7_daysIn_20 : decode cX7_daysIn 20 = .ok (.ireturn, 1) := by decide +kernel
theorem dX7_daysIn_21 : decode cX7_daysIn 21 = .ok (.aload_n 0, 1) := by decide +kernel
theorem dX7_daysIn_22 : decode cX7_daysIn 22 = .ok (.getfield 61, 3) := by decide +kernel
theorem dX7_daysIn_25 : decode cX7_daysIn 25 = .ok (.bipush 6, 2) := by decide +kernel
theorem dX7_daysIn_27 : decode cX7_daysIn 27 = .ok (.iload_n 1, 1) := by decide +kernel
theorem dX7_daysIn_28 : decode cX7_daysIn 28 = .ok (.imul, 1) := by decide +kernel
theorem dX7_daysIn_29 : decode cX7_daysIn 29 = .ok (.iload_n 2, 1) := by decide +kernel
theorem dX7_daysIn_30 : decode cX7_daysIn 30 = .ok (.iadd, 1) := by decide +kernel
theorem dX7_daysIn_31 : decode cX7_daysIn 31 = .ok (.iaload, 1) := by decide +kernel
theorem dX7_daysIn_32 : decode cX7_daysIn 32 = .ok (.aload_n 0, 1) := by decide +kernel
theorem dX7_daysIn_33 : decode cX7_daysIn 33 = .ok (.getfield 49, 3) := by decide +kernel
theorem dX7_daysIn_36 : decode cX7_daysIn 36 = .ok (.iload_n 1, 1) := by decide +kernel
theorem dX7_daysIn_37 : decode cX7_daysIn 37 = .ok (.iaload, 1) := by decide +kernel
theorem dX7_daysIn_38 : decode cX7_daysIn 38 = .ok (.iload_n 2, 1) := by decide +kernel
theorem dX7_daysIn_39 : decode cX7_daysIn 39 = .ok (.if_icmp .ne 17, 3) := by decide +kernel
theorem dX7_daysIn_42 : decode cX7_daysIn 42 = .ok (.aload_n 0, 1) := by decide +kernel
theorem dX7_daysIn_43 : decode cX7_daysIn 43 = .ok (.getfield 96, 3) := by decide +kernel
theorem dX7_daysIn_46 : decode cX7_daysIn 46 = .ok (.aload_n 0, 1) := by decide +kernel
theorem dX7_daysIn_47 : decode cX7_daysIn 47 = .ok (.getfield 52, 3) := by decide +kernel
theorem dX7_daysIn_50 : decode cX7_daysIn 50 = .ok (.iload_n 1, 1) := by decide +kernel
theorem dX7_daysIn_51 : decode cX7_daysIn 51 = .ok (.iaload, 1) := by decide +kernel
theorem dX7_daysIn_52 : decode cX7_daysIn 52 = .ok (.isub, 1) := by decide +kernel
theorem dX7_daysIn_53 : decode cX7_daysIn 53 = .ok (.goto 4, 3) := by decide +kernel
theorem dX7_daysIn_56 : decode cX7_daysIn 56 = .ok (.iconst 0, 1) := by decide +kernel
theorem dX7_daysIn_57 : decode cX7_daysIn 57 = .ok (.iadd, 1) := by decide +kernel
theorem dX7_daysIn_58 : decode cX7_daysIn 58 = .ok (.ireturn, 1) := by decide +kernel
theorem dX7_stalled_0 : decode cX7_stalled 0 = .ok (.iconst 0, 1) := by decide +kernel
theorem dX7_stalled_1 : decode cX7_stalled 1 = .ok (.istore_n 2, 1) := by decide +kernel
theorem dX7_stalled_2 : decode cX7_stalled 2 = .ok (.aload_n 0, 1) := by decide +kernel
theorem dX7_stalled_3 : decode cX7_stalled 3 = .ok (.iload_n 1, 1) := by decide +kernel
theorem dX7_stalled_4 : decode cX7_stalled 4 = .ok (.iconst 0, 1) := by decide +kernel
theorem dX7_stalled_5 : decode cX7_stalled 5 = .ok (.ldc 99, 2) := by decide +kernel
theorem dX7_stalled_7 : decode cX7_stalled 7 = .ok (.invokestatic 86, 3) := by decide +kernel
theorem dX7_stalled_10 : decode cX7_stalled 10 = .ok (.iconst 1, 1) := by decide +kernel
theorem dX7_stalled_11 : decode cX7_stalled 11 = .ok (.iconst 1, 1) := by decide +kernel
theorem dX7_stalled_12 : decode cX7_stalled 12 = .ok (.invokevirtual 100, 3) := by decide +kernel
theorem dX7_stalled_15 : decode cX7_stalled 15 = .ok (.istore_n 3, 1) := by decide +kernel
theorem dX7_stalled_16 : decode cX7_stalled 16 = .ok (.iconst 0, 1) := by decide +kernel
theorem dX7_stalled_17 : decode cX7_stalled 17 = .ok (.istore 4, 2) := by decide +kernel
theorem dX7_stalled_19 : decode cX7_stalled 19 = .ok (.iload 4, 2) := by decide +kernel
theorem dX7_stalled_21 : decode cX7_stalled 21 = .ok (.aload_n 0, 1) := by decide +kernel
theorem dX7_stalled_22 : decode cX7_stalled 22 = .ok (.getfield 93, 3) := by decide +kernel
theorem dX7_stalled_25 : decode cX7_stalled 25 = .ok (.if_icmp .ge 46, 3) := by decide +kernel
theorem dX7_stalled_28 : decode cX7_stalled 28 = .ok (.iload_n 3, 1) := by decide +kernel
theorem dX7_stalled_29 : decode cX7_stalled 29 = .ok (.ifCond .eq 42, 3) := by decide +kernel
theorem dX7_stalled_32 : decode cX7_stalled 32 = .ok (.iload_n 2, 1) := by decide +kernel
theorem dX7_stalled_33 : decode cX7_stalled 33 = .ok (.aload_n 0, 1) := by decide +kernel
theorem dX7_stalled_34 : decode cX7_stalled 34 = .ok (.iload 4, 2) := by decide +kernel
theorem dX7_stalled_36 : decode cX7_stalled 36 = .ok (.invokevirtual 130, 3) := by decide +kernel
theorem dX7_stalled_39 : decode cX7_stalled 39 = .ok (.ifCond .eq 23, 3) := by decide +kernel
theorem dX7_stalled_42 : decode cX7_stalled 42 = .ok (.aload_n 0, 1) := by decide +kernel
theorem dX7_stalled_43 : decode cX7_stalled 43 = .ok (.getfield 96, 3) := by decide +kernel
theorem dX7_stalled_46 : decode cX7_stalled 46 = .ok (.aload_n 0, 1) := by decide +kernel
theorem dX7_stalled_47 : decode cX7_stalled 47 = .ok (.getfield 52, 3) := by decide +kernel
theorem dX7_stalled_50 : decode cX7_stalled 50 = .ok (.iload 4, 2) := by decide +kernel
theorem dX7_stalled_52 : decode cX7_stalled 52 = .ok (.iaload, 1) := by decide +kernel
theorem dX7_stalled_53 : decode cX7_stalled 53 = .ok (.isub, 1) := by decide +kernel
theorem dX7_stalled_54 : decode cX7_stalled 54 = .ok (.iload_n 1, 1) := by decide +kernel
theorem dX7_stalled_55 : decode cX7_stalled 55 = .ok (.if_icmp .le 7, 3) := by decide +kernel
theorem dX7_stalled_58 : decode cX7_stalled 58 = .ok (.iconst 1, 1) := by decide +kernel
theorem dX7_stalled_59 : decode cX7_stalled 59 = .ok (.goto 4, 3) := by decide +kernel
theorem dX7_stalled_62 : decode cX7_stalled 62 = .ok (.iconst 0, 1) := by decide +kernel
theorem dX7_stalled_63 : decode cX7_stalled 63 = .ok (.iadd, 1) := by decide +kernel
theorem dX7_stalled_64 : decode cX7_stalled 64 = .ok (.istore_n 2, 1) := by decide +kernel
theorem dX7_stalled_65 : decode cX7_stalled 65 = .ok (.iinc 4 1, 3) := by decide +kernel
theorem dX7_stalled_68 : decode cX7_stalled 68 = .ok (.goto (-49), 3) := by decide +kernel
theorem dX7_stalled_71 : decode cX7_stalled 71 = .ok (.iload_n 2, 1) := by decide +kernel
theorem dX7_stalled_72 : decode cX7_stalled 72 = .ok (.ireturn, 1) := by decide +kernel
theorem dX7_worthOf_0 : decode cX7_worthOf 0 = .ok (.aload_n 0, 1) := by decide +kernel
theorem dX7_worthOf_1 : decode cX7_worthOf 1 = .ok (.iload_n 1, 1) := by decide +kernel
theorem dX7_worthOf_2 : decode cX7_worthOf 2 = .ok (.invokevirtual 136, 3) := by decide +kernel
theorem dX7_worthOf_5 : decode cX7_worthOf 5 = .ok (.istore_n 2, 1) := by decide +kernel
theorem dX7_worthOf_6 : decode cX7_worthOf 6 = .ok (.iload_n 2, 1) := by decide +kernel
theorem dX7_worthOf_7 : decode cX7_worthOf 7 = .ok (.iconst (-1), 1) := by decide +kernel
theorem dX7_worthOf_8 : decode cX7_worthOf 8 = .ok (.if_icmp .ne 12, 3) := by decide +kernel
theorem dX7_worthOf_11 : decode cX7_worthOf 11 = .ok (.aload_n 0, 1) := by decide +kernel
theorem dX7_worthOf_12 : decode cX7_worthOf 12 = .ok (.getfield 46, 3) := by decide +kernel
theorem dX7_worthOf_15 : decode cX7_worthOf 15 = .ok (.iload_n 1, 1) := by decide +kernel
theorem dX7_worthOf_16 : decode cX7_worthOf 16 = .ok (.iaload, 1) := by decide +kernel
theorem dX7_worthOf_17 : decode cX7_worthOf 17 = .ok (.goto 22, 3) := by decide +kernel
theorem dX7_worthOf_20 : decode cX7_worthOf 20 = .ok (.aload_n 0, 1) := by decide +kernel
theorem dX7_worthOf_21 : decode cX7_worthOf 21 = .ok (.getfield 46, 3) := by decide +kernel
theorem dX7_worthOf_24 : decode cX7_worthOf 24 = .ok (.iload_n 1, 1) := by decide +kernel
theorem dX7_worthOf_25 : decode cX7_worthOf 25 = .ok (.iaload, 1) := by decide +kernel
theorem dX7_worthOf_26 : decode cX7_worthOf 26 = .ok (.bipush 100, 2) := by decide +kernel
theorem dX7_worthOf_28 : decode cX7_worthOf 28 = .ok (.aload_n 0, 1) := by decide +kernel
theorem dX7_worthOf_29 : decode cX7_worthOf 29 = .ok (.getfield 70, 3) := by decide +kernel
theorem dX7_worthOf_32 : decode cX7_worthOf 32 = .ok (.iload_n 2, 1) := by decide +kernel
theorem dX7_worthOf_33 : decode cX7_worthOf 33 = .ok (.iaload, 1) := by decide +kernel
theorem dX7_worthOf_34 : decode cX7_worthOf 34 = .ok (.isub, 1) := by decide +kernel
theorem dX7_worthOf_35 : decode cX7_worthOf 35 = .ok (.imul, 1) := by decide +kernel
theorem dX7_worthOf_36 : decode cX7_worthOf 36 = .ok (.bipush 100, 2) := by decide +kernel
theorem dX7_worthOf_38 : decode cX7_worthOf 38 = .ok (.idiv, 1) := by decide +kernel
theorem dX7_worthOf_39 : decode cX7_worthOf 39 = .ok (.ireturn, 1) := by decide +kernel
theorem dX7_worth_0 : decode cX7_worth 0 = .ok (.aload_n 0, 1) := by decide +kernel
theorem dX7_worth_1 : decode cX7_worth 1 = .ok (.aload_n 0, 1) := by decide +kernel
theorem dX7_worth_2 : decode cX7_worth 2 = .ok (.iload_n 1, 1) := by decide +kernel
theorem dX7_worth_3 : decode cX7_worth 3 = .ok (.invokevirtual 127, 3) := by decide +kernel
theorem dX7_worth_6 : decode cX7_worth 6 = .ok (.iconst 1, 1) := by decide +kernel
theorem dX7_worth_7 : decode cX7_worth 7 = .ok (.iconst 1, 1) := by decide +kernel
theorem dX7_worth_8 : decode cX7_worth 8 = .ok (.invokevirtual 100, 3) := by decide +kernel
theorem dX7_worth_11 : decode cX7_worth 11 = .ok (.ifCond .eq 11, 3) := by decide +kernel
theorem dX7_worth_14 : decode cX7_worth 14 = .ok (.aload_n 0, 1) := by decide +kernel
theorem dX7_worth_15 : decode cX7_worth 15 = .ok (.iload_n 1, 1) := by decide +kernel
theorem dX7_worth_16 : decode cX7_worth 16 = .ok (.invokevirtual 143, 3) := by decide +kernel
theorem dX7_worth_19 : decode cX7_worth 19 = .ok (.goto 4, 3) := by decide +kernel
theorem dX7_worth_22 : decode cX7_worth 22 = .ok (.iconst 0, 1) := by decide +kernel
theorem dX7_worth_23 : decode cX7_worth 23 = .ok (.ireturn, 1) := by decide +kernel
theorem dX7_inRegion_0 : decode cX7_inRegion 0 = .ok (.iconst 0, 1) := by decide +kernel
theorem dX7_inRegion_1 : decode cX7_inRegion 1 = .ok (.istore_n 3, 1) := by decide +kernel
theorem dX7_inRegion_2 : decode cX7_inRegion 2 = .ok (.aload_n 0, 1) := by decide +kernel
theorem dX7_inRegion_3 : decode cX7_inRegion 3 = .ok (.iload_n 1, 1) := by decide +kernel
theorem dX7_inRegion_4 : decode cX7_inRegion 4 = .ok (.iconst 0, 1) := by decide +kernel
theorem dX7_inRegion_5 : decode cX7_inRegion 5 = .ok (.iconst 3, 1) := by decide +kernel
theorem dX7_inRegion_6 : decode cX7_inRegion 6 = .ok (.invokestatic 86, 3) := by decide +kernel
theorem dX7_inRegion_9 : decode cX7_inRegion 9 = .ok (.ifCond .eq 16, 3) := by decide +kernel
theorem dX7_inRegion_12 : decode cX7_inRegion 12 = .ok (.iload_n 2, 1) := by decide +kernel
theorem dX7_inRegion_13 : decode cX7_inRegion 13 = .ok (.iconst 0, 1) := by decide +kernel
theorem dX7_inRegion_14 : decode cX7_inRegion 14 = .ok (.iconst 5, 1) := by decide +kernel
theorem dX7_inRegion_15 : decode cX7_inRegion 15 = .ok (.invokestatic 86, 3) := by decide +kernel
theorem dX7_inRegion_18 : decode cX7_inRegion 18 = .ok (.ifCond .eq 7, 3) := by decide +kernel
theorem dX7_inRegion_21 : decode cX7_inRegion 21 = .ok (.iconst 1, 1) := by decide +kernel
theorem dX7_inRegion_22 : decode cX7_inRegion 22 = .ok (.goto 4, 3) := by decide +kernel
theorem dX7_inRegion_25 : decode cX7_inRegion 25 = .ok (.iconst 0, 1) := by decide +kernel
theorem dX7_inRegion_26 : decode cX7_inRegion 26 = .ok (.iconst 1, 1) := by decide +kernel
theorem dX7_inRegion_27 : decode cX7_inRegion 27 = .ok (.iconst 1, 1) := by decide +kernel
theorem dX7_inRegion_28 : decode cX7_inRegion 28 = .ok (.invokevirtual 100, 3) := by decide +kernel
theorem dX7_inRegion_31 : decode cX7_inRegion 31 = .ok (.istore 4, 2) := by decide +kernel
theorem dX7_inRegion_33 : decode cX7_inRegion 33 = .ok (.iconst 0, 1) := by decide +kernel
theorem dX7_inRegion_34 : decode cX7_inRegion 34 = .ok (.istore 5, 2) := by decide +kernel
theorem dX7_inRegion_36 : decode cX7_inRegion 36 = .ok (.iload 5, 2) := by decide +kernel
theorem dX7_inRegion_38 : decode cX7_inRegion 38 = .ok (.aload_n 0, 1) := by decide +kernel
theorem dX7_inRegion_39 : decode cX7_inRegion 39 = .ok (.getfield 93, 3) := by decide +kernel
theorem dX7_inRegion_42 : decode cX7_inRegion 42 = .ok (.if_icmp .ge 76, 3) := by decide +kernel
theorem dX7_inRegion_45 : decode cX7_inRegion 45 = .ok (.iload 4, 2) := by decide +kernel
theorem dX7_inRegion_47 : decode cX7_inRegion 47 = .ok (.ifCond .eq 71, 3) := by decide +kernel
theorem dX7_inRegion_50 : decode cX7_inRegion 50 = .ok (.aload_n 0, 1) := by decide +kernel
theorem dX7_inRegion_51 : decode cX7_inRegion 51 = .ok (.iload 5, 2) := by decide +kernel
theorem dX7_inRegion_53 : decode cX7_inRegion 53 = .ok (.invokevirtual 130, 3) := by decide +kernel
theorem dX7_inRegion_56 : decode cX7_inRegion 56 = .ok (.ifCond .eq 17, 3) := by decide +kernel
theorem dX7_inRegion_59 : decode cX7_inRegion 59 = .ok (.aload_n 0, 1) := by decide +kernel
theorem dX7_inRegion_60 : decode cX7_inRegion 60 = .ok (.aload_n 0, 1) := by decide +kernel
theorem dX7_inRegion_61 : decode cX7_inRegion 61 = .ok (.getfield 43, 3) := by decide +kernel
theorem dX7_inRegion_64 : decode cX7_inRegion 64 = .ok (.iload 5, 2) := by decide +kernel
theorem dX7_inRegion_66 : decode cX7_inRegion 66 = .ok (.iaload, 1) := by decide +kernel
theorem dX7_inRegion_67 : decode cX7_inRegion 67 = .ok (.invokevirtual 119, 3) := by decide +kernel
theorem dX7_inRegion_70 : decode cX7_inRegion 70 = .ok (.goto 10, 3) := by decide +kernel
theorem dX7_inRegion_73 : decode cX7_inRegion 73 = .ok (.aload_n 0, 1) := by decide +kernel
theorem dX7_inRegion_74 : decode cX7_inRegion 74 = .ok (.getfield 55, 3) := by decide +kernel
theorem dX7_inRegion_77 : decode cX7_inRegion 77 = .ok (.iload 5, 2) := by decide +kernel
theorem dX7_inRegion_79 : decode cX7_inRegion 79 = .ok (.iaload, 1) := by decide +kernel
theorem dX7_inRegion_80 : decode cX7_inRegion 80 = .ok (.istore 6, 2) := by decide +kernel
theorem dX7_inRegion_82 : decode cX7_inRegion 82 = .ok (.iload_n 3, 1) := by decide +kernel
theorem dX7_inRegion_83 : decode cX7_inRegion 83 = .ok (.iload 6, 2) := by decide +kernel
theorem dX7_inRegion_85 : decode cX7_inRegion 85 = .ok (.iload_n 1, 1) := by decide +kernel
theorem dX7_inRegion_86 : decode cX7_inRegion 86 = .ok (.if_icmp .ne 23, 3) := by decide +kernel
theorem dX7_inRegion_89 : decode cX7_inRegion 89 = .ok (.aload_n 0, 1) := by decide +kernel
theorem dX7_inRegion_90 : decode cX7_inRegion 90 = .ok (.getfield 49, 3) := by decide +kernel
theorem dX7_inRegion_93 : decode cX7_inRegion 93 = .ok (.iload 5, 2) := by decide +kernel
theorem dX7_inRegion_95 : decode cX7_inRegion 95 = .ok (.iaload, 1) := by decide +kernel
theorem dX7_inRegion_96 : decode cX7_inRegion 96 = .ok (.iload_n 2, 1) := by decide +kernel
theorem dX7_inRegion_97 : decode cX7_inRegion 97 = .ok (.if_icmp .ne 12, 3) := by decide +kernel
theorem dX7_inRegion_100 : decode cX7_inRegion 100 = .ok (.aload_n 0, 1) := by decide +kernel
theorem dX7_inRegion_101 : decode cX7_inRegion 101 = .ok (.iload 5, 2) := by decide +kernel
theorem dX7_inRegion_103 : decode cX7_inRegion 103 = .ok (.invokevirtual 143, 3) := by decide +kernel
theorem dX7_inRegion_106 : decode cX7_inRegion 106 = .ok (.goto 4, 3) := by decide +kernel
theorem dX7_inRegion_109 : decode cX7_inRegion 109 = .ok (.iconst 0, 1) := by decide +kernel
theorem dX7_inRegion_110 : decode cX7_inRegion 110 = .ok (.iadd, 1) := by decide +kernel
theorem dX7_inRegion_111 : decode cX7_inRegion 111 = .ok (.istore_n 3, 1) := by decide +kernel
theorem dX7_inRegion_112 : decode cX7_inRegion 112 = .ok (.iinc 5 1, 3) := by decide +kernel
theorem dX7_inRegion_115 : decode cX7_inRegion 115 = .ok (.goto (-79), 3) := by decide +kernel
theorem dX7_inRegion_118 : decode cX7_inRegion 118 = .ok (.iload_n 3, 1) := by decide +kernel
theorem dX7_inRegion_119 : decode cX7_inRegion 119 = .ok (.ireturn, 1) := by decide +kernel
theorem dX7_won_0 : decode cX7_won 0 = .ok (.iconst 0, 1) := by decide +kernel
theorem dX7_won_1 : decode cX7_won 1 = .ok (.istore_n 2, 1) := by decide +kernel
theorem dX7_won_2 : decode cX7_won 2 = .ok (.aload_n 0, 1) := by decide +kernel
theorem dX7_won_3 : decode cX7_won 3 = .ok (.aload_n 0, 1) := by decide +kernel
theorem dX7_won_4 : decode cX7_won 4 = .ok (.iload_n 1, 1) := by decide +kernel
theorem dX7_won_5 : decode cX7_won 5 = .ok (.invokevirtual 104, 3) := by decide +kernel
theorem dX7_won_8 : decode cX7_won 8 = .ok (.iconst 1, 1) := by decide +kernel
theorem dX7_won_9 : decode cX7_won 9 = .ok (.iconst 1, 1) := by decide +kernel
theorem dX7_won_10 : decode cX7_won 10 = .ok (.invokevirtual 100, 3) := by decide +kernel
theorem dX7_won_13 : decode cX7_won 13 = .ok (.istore_n 3, 1) := by decide +kernel
theorem dX7_won_14 : decode cX7_won 14 = .ok (.iconst 0, 1) := by decide +kernel
theorem dX7_won_15 : decode cX7_won 15 = .ok (.istore 4, 2) := by decide +kernel
theorem dX7_won_17 : decode cX7_won 17 = .ok (.iload 4, 2) := by decide +kernel
theorem dX7_won_19 : decode cX7_won 19 = .ok (.aload_n 0, 1) := by decide +kernel
theorem dX7_won_20 : decode cX7_won 20 = .ok (.getfield 93, 3) := by decide +kernel
theorem dX7_won_23 : decode cX7_won 23 = .ok (.if_icmp .ge 76, 3) := by decide +kernel
theorem dX7_won_26 : decode cX7_won 26 = .ok (.iload_n 3, 1) := by decide +kernel
theorem dX7_won_27 : decode cX7_won 27 = .ok (.ifCond .eq 72, 3) := by decide +kernel
theorem dX7_won_30 : decode cX7_won 30 = .ok (.aload_n 0, 1) := by decide +kernel
theorem dX7_won_31 : decode cX7_won 31 = .ok (.getfield 43, 3) := by decide +kernel
theorem dX7_won_34 : decode cX7_won 34 = .ok (.iload 4, 2) := by decide +kernel
theorem dX7_won_36 : decode cX7_won 36 = .ok (.iaload, 1) := by decide +kernel
theorem dX7_won_37 : decode cX7_won 37 = .ok (.istore 5, 2) := by decide +kernel
theorem dX7_won_39 : decode cX7_won 39 = .ok (.iload 5, 2) := by decide +kernel
theorem dX7_won_41 : decode cX7_won 41 = .ok (.iconst (-1), 1) := by decide +kernel
theorem dX7_won_42 : decode cX7_won 42 = .ok (.if_icmp .eq 21, 3) := by decide +kernel
theorem dX7_won_45 : decode cX7_won 45 = .ok (.iload 5, 2) := by decide +kernel
theorem dX7_won_47 : decode cX7_won 47 = .ok (.iload_n 1, 1) := by decide +kernel
theorem dX7_won_48 : decode cX7_won 48 = .ok (.if_icmp .eq 15, 3) := by decide +kernel
theorem dX7_won_51 : decode cX7_won 51 = .ok (.aload_n 0, 1) := by decide +kernel
theorem dX7_won_52 : decode cX7_won 52 = .ok (.getfield 7, 3) := by decide +kernel
theorem dX7_won_55 : decode cX7_won 55 = .ok (.iload 5, 2) := by decide +kernel
theorem dX7_won_57 : decode cX7_won 57 = .ok (.iaload, 1) := by decide +kernel
theorem dX7_won_58 : decode cX7_won 58 = .ok (.istore 5, 2) := by decide +kernel
theorem dX7_won_60 : decode cX7_won 60 = .ok (.goto (-21), 3) := by decide +kernel
theorem dX7_won_63 : decode cX7_won 63 = .ok (.iload_n 2, 1) := by decide +kernel
theorem dX7_won_64 : decode cX7_won 64 = .ok (.iload 5, 2) := by decide +kernel
theorem dX7_won_66 : decode cX7_won 66 = .ok (.iload_n 1, 1) := by decide +kernel
theorem dX7_won_67 : decode cX7_won 67 = .ok (.if_icmp .ne 23, 3) := by decide +kernel
theorem dX7_won_70 : decode cX7_won 70 = .ok (.aload_n 0, 1) := by decide +kernel
theorem dX7_won_71 : decode cX7_won 71 = .ok (.getfield 49, 3) := by decide +kernel
theorem dX7_won_74 : decode cX7_won 74 = .ok (.iload 4, 2) := by decide +kernel
theorem dX7_won_76 : decode cX7_won 76 = .ok (.iaload, 1) := by decide +kernel
theorem dX7_won_77 : decode cX7_won 77 = .ok (.iconst 4, 1) := by decide +kernel
theorem dX7_won_78 : decode cX7_won 78 = .ok (.if_icmp .ne 12, 3) := by decide +kernel
theorem dX7_won_81 : decode cX7_won 81 = .ok (.aload_n 0, 1) := by decide +kernel
theorem dX7_won_82 : decode cX7_won 82 = .ok (.iload 4, 2) := by decide +kernel
theorem dX7_won_84 : decode cX7_won 84 = .ok (.invokevirtual 143, 3) := by decide +kernel
theorem dX7_won_87 : decode cX7_won 87 = .ok (.goto 4, 3) := by decide +kernel
theorem dX7_won_90 : decode cX7_won 90 = .ok (.iconst 0, 1) := by decide +kernel
theorem dX7_won_91 : decode cX7_won 91 = .ok (.iadd, 1) := by decide +kernel
theorem dX7_won_92 : decode cX7_won 92 = .ok (.istore_n 2, 1) := by decide +kernel
theorem dX7_won_93 : decode cX7_won 93 = .ok (.iinc 4 1, 3) := by decide +kernel
theorem dX7_won_96 : decode cX7_won 96 = .ok (.goto (-79), 3) := by decide +kernel
theorem dX7_won_99 : decode cX7_won 99 = .ok (.iload_n 2, 1) := by decide +kernel
theorem dX7_won_100 : decode cX7_won 100 = .ok (.ireturn, 1) := by decide +kernel
theorem dX7_approves_0 : decode cX7_approves 0 = .ok (.aload_n 0, 1) := by decide +kernel
theorem dX7_approves_1 : decode cX7_approves 1 = .ok (.dup, 1) := by decide +kernel
theorem dX7_approves_2 : decode cX7_approves 2 = .ok (.getfield 146, 3) := by decide +kernel
theorem dX7_approves_5 : decode cX7_approves 5 = .ok (.iconst 1, 1) := by decide +kernel
theorem dX7_approves_6 : decode cX7_approves 6 = .ok (.iadd, 1) := by decide +kernel
theorem dX7_approves_7 : decode cX7_approves 7 = .ok (.putfield 146, 3) := by decide +kernel
theorem dX7_approves_10 : decode cX7_approves 10 = .ok (.aload_n 0, 1) := by decide +kernel
theorem dX7_approves_11 : decode cX7_approves 11 = .ok (.getfield 73, 3) := by decide +kernel
theorem dX7_approves_14 : decode cX7_approves 14 = .ok (.iload_n 1, 1) := by decide +kernel
theorem dX7_approves_15 : decode cX7_approves 15 = .ok (.aload_n 0, 1) := by decide +kernel
theorem dX7_approves_16 : decode cX7_approves 16 = .ok (.getfield 146, 3) := by decide +kernel
theorem dX7_approves_19 : decode cX7_approves 19 = .ok (.iastore, 1) := by decide +kernel
theorem dX7_approves_20 : decode cX7_approves 20 = .ok (.return_, 1) := by decide +kernel
theorem dX7_quote_0 : decode cX7_quote 0 = .ok (.aload_n 0, 1) := by decide +kernel
theorem dX7_quote_1 : decode cX7_quote 1 = .ok (.iload_n 1, 1) := by decide +kernel
theorem dX7_quote_2 : decode cX7_quote 2 = .ok (.invokevirtual 127, 3) := by decide +kernel
theorem dX7_quote_5 : decode cX7_quote 5 = .ok (.ifCond .eq 15, 3) := by decide +kernel
theorem dX7_quote_8 : decode cX7_quote 8 = .ok (.aload_n 0, 1) := by decide +kernel
theorem dX7_quote_9 : decode cX7_quote 9 = .ok (.iload_n 2, 1) := by decide +kernel
theorem dX7_quote_10 : decode cX7_quote 10 = .ok (.invokevirtual 122, 3) := by decide +kernel
theorem dX7_quote_13 : decode cX7_quote 13 = .ok (.ifCond .eq 7, 3) := by decide +kernel
theorem dX7_quote_16 : decode cX7_quote 16 = .ok (.iconst 1, 1) := by decide +kernel
theorem dX7_quote_17 : decode cX7_quote 17 = .ok (.goto 4, 3) := by decide +kernel
theorem dX7_quote_20 : decode cX7_quote 20 = .ok (.iconst 0, 1) := by decide +kernel
theorem dX7_quote_21 : decode cX7_quote 21 = .ok (.istore 4, 2) := by decide +kernel
theorem dX7_quote_23 : decode cX7_quote 23 = .ok (.aload_n 0, 1) := by decide +kernel
theorem dX7_quote_24 : decode cX7_quote 24 = .ok (.iload 4, 2) := by decide +kernel
theorem dX7_quote_26 : decode cX7_quote 26 = .ok (.iload_n 3, 1) := by decide +kernel
theorem dX7_quote_27 : decode cX7_quote 27 = .ok (.iconst 0, 1) := by decide +kernel
theorem dX7_quote_28 : decode cX7_quote 28 = .ok (.bipush 99, 2) := by decide +kernel
theorem dX7_quote_30 : decode cX7_quote 30 = .ok (.invokestatic 86, 3) := by decide +kernel
theorem dX7_quote_33 : decode cX7_quote 33 = .ok (.iload 4, 2) := by decide +kernel
theorem dX7_quote_35 : decode cX7_quote 35 = .ok (.ifCond .eq 24, 3) := by decide +kernel
theorem dX7_quote_38 : decode cX7_quote 38 = .ok (.aload_n 0, 1) := by decide +kernel
theorem dX7_quote_39 : decode cX7_quote 39 = .ok (.iload_n 1, 1) := by decide +kernel
theorem dX7_quote_40 : decode cX7_quote 40 = .ok (.invokevirtual 130, 3) := by decide +kernel
theorem dX7_quote_43 : decode cX7_quote 43 = .ok (.ifCond .eq 16, 3) := by decide +kernel
theorem dX7_quote_46 : decode cX7_quote 46 = .ok (.aload_n 0, 1) := by decide +kernel
theorem dX7_quote_47 : decode cX7_quote 47 = .ok (.getfield 133, 3) := by decide +kernel
theorem dX7_quote_50 : decode cX7_quote 50 = .ok (.bipush 40, 2) := by decide +kernel
theorem dX7_quote_52 : decode cX7_quote 52 = .ok (.if_icmp .ge 7, 3) := by decide +kernel
theorem dX7_quote_55 : decode cX7_quote 55 = .ok (.iconst 1, 1) := by decide +kernel
theorem dX7_quote_56 : decode cX7_quote 56 = .ok (.goto 4, 3) := by decide +kernel
theorem dX7_quote_59 : decode cX7_quote 59 = .ok (.iconst 0, 1) := by decide +kernel
theorem dX7_quote_60 : decode cX7_quote 60 = .ok (.invokevirtual 100, 3) := by decide +kernel
theorem dX7_quote_63 : decode cX7_quote 63 = .ok (.ifCond .ne 5, 3) := by decide +kernel
theorem dX7_quote_66 : decode cX7_quote 66 = .ok (.iconst 0, 1) := by decide +kernel
theorem dX7_quote_67 : decode cX7_quote 67 = .ok (.ireturn, 1) := by decide +kernel
theorem dX7_quote_68 : decode cX7_quote 68 = .ok (.aload_n 0, 1) := by decide +kernel
theorem dX7_quote_69 : decode cX7_quote 69 = .ok (.getfield 64, 3) := by decide +kernel
theorem dX7_quote_72 : decode cX7_quote 72 = .ok (.aload_n 0, 1) := by decide +kernel
theorem dX7_quote_73 : decode cX7_quote 73 = .ok (.getfield 133, 3) := by decide +kernel
theorem dX7_quote_76 : decode cX7_quote 76 = .ok (.iload_n 1, 1) := by decide +kernel
theorem dX7_quote_77 : decode cX7_quote 77 = .ok (.iastore, 1) := by decide +kernel
theorem dX7_quote_78 : decode cX7_quote 78 = .ok (.aload_n 0, 1) := by decide +kernel
theorem dX7_quote_79 : decode cX7_quote 79 = .ok (.getfield 67, 3) := by decide +kernel
theorem dX7_quote_82 : decode cX7_quote 82 = .ok (.aload_n 0, 1) := by decide +kernel
theorem dX7_quote_83 : decode cX7_quote 83 = .ok (.getfield 133, 3) := by decide +kernel
theorem dX7_quote_86 : decode cX7_quote 86 = .ok (.iload_n 2, 1) := by decide +kernel
theorem dX7_quote_87 : decode cX7_quote 87 = .ok (.iastore, 1) := by decide +kernel
theorem dX7_quote_88 : decode cX7_quote 88 = .ok (.aload_n 0, 1) := by decide +kernel
theorem dX7_quote_89 : decode cX7_quote 89 = .ok (.getfield 70, 3) := by decide +kernel
theorem dX7_quote_92 : decode cX7_quote 92 = .ok (.aload_n 0, 1) := by decide +kernel
theorem dX7_quote_93 : decode cX7_quote 93 = .ok (.getfield 133, 3) := by decide +kernel
theorem dX7_quote_96 : decode cX7_quote 96 = .ok (.iload_n 3, 1) := by decide +kernel
theorem dX7_quote_97 : decode cX7_quote 97 = .ok (.iastore, 1) := by decide +kernel
theorem dX7_quote_98 : decode cX7_quote 98 = .ok (.aload_n 0, 1) := by decide +kernel
theorem dX7_quote_99 : decode cX7_quote 99 = .ok (.dup, 1) := by decide +kernel
theorem dX7_quote_100 : decode cX7_quote 100 = .ok (.getfield 133, 3) := by decide +kernel
theorem dX7_quote_103 : decode cX7_quote 103 = .ok (.iconst 1, 1) := by decide +kernel
theorem dX7_quote_104 : decode cX7_quote 104 = .ok (.iadd, 1) := by decide +kernel
theorem dX7_quote_105 : decode cX7_quote 105 = .ok (.putfield 133, 3) := by decide +kernel
theorem dX7_quote_108 : decode cX7_quote 108 = .ok (.iload_n 3, 1) := by decide +kernel
theorem dX7_quote_109 : decode cX7_quote 109 = .ok (.aload_n 0, 1) := by decide +kernel
theorem dX7_quote_110 : decode cX7_quote 110 = .ok (.getfield 37, 3) := by decide +kernel
theorem dX7_quote_113 : decode cX7_quote 113 = .ok (.iload_n 2, 1) := by decide +kernel
theorem dX7_quote_114 : decode cX7_quote 114 = .ok (.iaload, 1) := by decide +kernel
theorem dX7_quote_115 : decode cX7_quote 115 = .ok (.if_icmp .gt 13, 3) := by decide +kernel
theorem dX7_quote_118 : decode cX7_quote 118 = .ok (.aload_n 0, 1) := by decide +kernel
theorem dX7_quote_119 : decode cX7_quote 119 = .ok (.aload_n 0, 1) := by decide +kernel
theorem dX7_quote_120 : decode cX7_quote 120 = .ok (.getfield 133, 3) := by decide +kernel
theorem dX7_quote_123 : decode cX7_quote 123 = .ok (.iconst 1, 1) := by decide +kernel
theorem dX7_quote_124 : decode cX7_quote 124 = .ok (.isub, 1) := by decide +kernel
theorem dX7_quote_125 : decode cX7_quote 125 = .ok (.invokevirtual 149, 3) := by decide +kernel
theorem dX7_quote_128 : decode cX7_quote 128 = .ok (.aload_n 0, 1) := by decide +kernel
theorem dX7_quote_129 : decode cX7_quote 129 = .ok (.getfield 133, 3) := by decide +kernel
theorem dX7_quote_132 : decode cX7_quote 132 = .ok (.iconst 1, 1) := by decide +kernel
theorem dX7_quote_133 : decode cX7_quote 133 = .ok (.isub, 1) := by decide +kernel
theorem dX7_quote_134 : decode cX7_quote 134 = .ok (.ireturn, 1) := by decide +kernel
theorem dX7_isAbove_0 : decode cX7_isAbove 0 = .ok (.aload_n 0, 1) := by decide +kernel
theorem dX7_isAbove_1 : decode cX7_isAbove 1 = .ok (.getfield 34, 3) := by decide +kernel
theorem dX7_isAbove_4 : decode cX7_isAbove 4 = .ok (.iload_n 2, 1) := by decide +kernel
theorem dX7_isAbove_5 : decode cX7_isAbove 5 = .ok (.iaload, 1) := by decide +kernel
theorem dX7_isAbove_6 : decode cX7_isAbove 6 = .ok (.istore_n 3, 1) := by decide +kernel
theorem dX7_isAbove_7 : decode cX7_isAbove 7 = .ok (.iload_n 3, 1) := by decide +kernel
theorem dX7_isAbove_8 : decode cX7_isAbove 8 = .ok (.iconst (-1), 1) := by decide +kernel
theorem dX7_isAbove_9 : decode cX7_isAbove 9 = .ok (.if_icmp .eq 18, 3) := by decide +kernel
theorem dX7_isAbove_12 : decode cX7_isAbove 12 = .ok (.iload_n 3, 1) := by decide +kernel
theorem dX7_isAbove_13 : decode cX7_isAbove 13 = .ok (.iload_n 1, 1) := by decide +kernel
theorem dX7_isAbove_14 : decode cX7_isAbove 14 = .ok (.if_icmp .eq 13, 3) := by decide +kernel
theorem dX7_isAbove_17 : decode cX7_isAbove 17 = .ok (.aload_n 0, 1) := by decide +kernel
theorem dX7_isAbove_18 : decode cX7_isAbove 18 = .ok (.getfield 34, 3) := by decide +kernel
theorem dX7_isAbove_21 : decode cX7_isAbove 21 = .ok (.iload_n 3, 1) := by decide +kernel
theorem dX7_isAbove_22 : decode cX7_isAbove 22 = .ok (.iaload, 1) := by decide +kernel
theorem dX7_isAbove_23 : decode cX7_isAbove 23 = .ok (.istore_n 3, 1) := by decide +kernel
theorem dX7_isAbove_24 : decode cX7_isAbove 24 = .ok (.goto (-17), 3) := by decide +kernel
theorem dX7_isAbove_27 : decode cX7_isAbove 27 = .ok (.iload_n 3, 1) := by decide +kernel
theorem dX7_isAbove_28 : decode cX7_isAbove 28 = .ok (.iload_n 1, 1) := by decide +kernel
theorem dX7_isAbove_29 : decode cX7_isAbove 29 = .ok (.if_icmp .ne 7, 3) := by decide +kernel
theorem dX7_isAbove_32 : decode cX7_isAbove 32 = .ok (.iconst 1, 1) := by decide +kernel
theorem dX7_isAbove_33 : decode cX7_isAbove 33 = .ok (.goto 4, 3) := by decide +kernel
theorem dX7_isAbove_36 : decode cX7_isAbove 36 = .ok (.iconst 0, 1) := by decide +kernel
theorem dX7_isAbove_37 : decode cX7_isAbove 37 = .ok (.ireturn, 1) := by decide +kernel
theorem dX7_approve_0 : decode cX7_approve 0 = .ok (.iload_n 1, 1) := by decide +kernel
theorem dX7_approve_1 : decode cX7_approve 1 = .ok (.iconst 0, 1) := by decide +kernel
theorem dX7_approve_2 : decode cX7_approve 2 = .ok (.aload_n 0, 1) := by decide +kernel
theorem dX7_approve_3 : decode cX7_approve 3 = .ok (.getfield 133, 3) := by decide +kernel
theorem dX7_approve_6 : decode cX7_approve 6 = .ok (.iconst 1, 1) := by decide +kernel
theorem dX7_approve_7 : decode cX7_approve 7 = .ok (.isub, 1) := by decide +kernel
theorem dX7_approve_8 : decode cX7_approve 8 = .ok (.invokestatic 86, 3) := by decide +kernel
theorem dX7_approve_11 : decode cX7_approve 11 = .ok (.ifCond .eq 15, 3) := by decide +kernel
theorem dX7_approve_14 : decode cX7_approve 14 = .ok (.aload_n 0, 1) := by decide +kernel
theorem dX7_approve_15 : decode cX7_approve 15 = .ok (.iload_n 2, 1) := by decide +kernel
theorem dX7_approve_16 : decode cX7_approve 16 = .ok (.invokevirtual 122, 3) := by decide +kernel
theorem dX7_approve_19 : decode cX7_approve 19 = .ok (.ifCond .eq 7, 3) := by decide +kernel
theorem dX7_approve_22 : decode cX7_approve 22 = .ok (.iconst 1, 1) := by decide +kernel
theorem dX7_approve_23 : decode cX7_approve 23 = .ok (.goto 4, 3) := by decide +kernel
theorem dX7_approve_26 : decode cX7_approve 26 = .ok (.iconst 0, 1) := by decide +kernel
theorem dX7_approve_27 : decode cX7_approve 27 = .ok (.istore_n 3, 1) := by decide +kernel
theorem dX7_approve_28 : decode cX7_approve 28 = .ok (.iload_n 3, 1) := by decide +kernel
theorem dX7_approve_29 : decode cX7_approve 29 = .ok (.ifCond .eq 58, 3) := by decide +kernel
theorem dX7_approve_32 : decode cX7_approve 32 = .ok (.aload_n 0, 1) := by decide +kernel
theorem dX7_approve_33 : decode cX7_approve 33 = .ok (.getfield 73, 3) := by decide +kernel
theorem dX7_approve_36 : decode cX7_approve 36 = .ok (.iload_n 1, 1) := by decide +kernel
theorem dX7_approve_37 : decode cX7_approve 37 = .ok (.iaload, 1) := by decide +kernel
theorem dX7_approve_38 : decode cX7_approve 38 = .ok (.ifCond .ne 49, 3) := by decide +kernel
theorem dX7_approve_41 : decode cX7_approve 41 = .ok (.aload_n 0, 1) := by decide +kernel
theorem dX7_approve_42 : decode cX7_approve 42 = .ok (.aload_n 0, 1) := by decide +kernel
theorem dX7_approve_43 : decode cX7_approve 43 = .ok (.getfield 64, 3) := by decide +kernel
theorem dX7_approve_46 : decode cX7_approve 46 = .ok (.iload_n 1, 1) := by decide +kernel
theorem dX7_approve_47 : decode cX7_approve 47 = .ok (.iaload, 1) := by decide +kernel
theorem dX7_approve_48 : decode cX7_approve 48 = .ok (.invokevirtual 130, 3) := by decide +kernel
theorem dX7_approve_51 : decode cX7_approve 51 = .ok (.ifCond .eq 36, 3) := by decide +kernel
theorem dX7_approve_54 : decode cX7_approve 54 = .ok (.aload_n 0, 1) := by decide +kernel
theorem dX7_approve_55 : decode cX7_approve 55 = .ok (.iload_n 2, 1) := by decide +kernel
theorem dX7_approve_56 : decode cX7_approve 56 = .ok (.aload_n 0, 1) := by decide +kernel
theorem dX7_approve_57 : decode cX7_approve 57 = .ok (.getfield 67, 3) := by decide +kernel
theorem dX7_approve_60 : decode cX7_approve 60 = .ok (.iload_n 1, 1) := by decide +kernel
theorem dX7_approve_61 : decode cX7_approve 61 = .ok (.iaload, 1) := by decide +kernel
theorem dX7_approve_62 : decode cX7_approve 62 = .ok (.invokevirtual 153, 3) := by decide +kernel
theorem dX7_approve_65 : decode cX7_approve 65 = .ok (.ifCond .eq 22, 3) := by decide +kernel
theorem dX7_approve_68 : decode cX7_approve 68 = .ok (.aload_n 0, 1) := by decide +kernel
theorem dX7_approve_69 : decode cX7_approve 69 = .ok (.getfield 70, 3) := by decide +kernel
theorem dX7_approve_72 : decode cX7_approve 72 = .ok (.iload_n 1, 1) := by decide +kernel
theorem dX7_approve_73 : decode cX7_approve 73 = .ok (.iaload, 1) := by decide +kernel
theorem dX7_approve_74 : decode cX7_approve 74 = .ok (.aload_n 0, 1) := by decide +kernel
theorem dX7_approve_75 : decode cX7_approve 75 = .ok (.getfield 37, 3) := by decide +kernel
theorem dX7_approve_78 : decode cX7_approve 78 = .ok (.iload_n 2, 1) := by decide +kernel
theorem dX7_approve_79 : decode cX7_approve 79 = .ok (.iaload, 1) := by decide +kernel
theorem dX7_approve_80 : decode cX7_approve 80 = .ok (.if_icmp .gt 7, 3) := by decide +kernel
theorem dX7_approve_83 : decode cX7_approve 83 = .ok (.iconst 1, 1) := by decide +kernel
theorem dX7_approve_84 : decode cX7_approve 84 = .ok (.goto 4, 3) := by decide +kernel
theorem dX7_approve_87 : decode cX7_approve 87 = .ok (.iconst 0, 1) := by decide +kernel
theorem dX7_approve_88 : decode cX7_approve 88 = .ok (.istore 4, 2) := by decide +kernel
theorem dX7_approve_90 : decode cX7_approve 90 = .ok (.aload_n 0, 1) := by decide +kernel
theorem dX7_approve_91 : decode cX7_approve 91 = .ok (.iload_n 3, 1) := by decide +kernel
theorem dX7_approve_92 : decode cX7_approve 92 = .ok (.iload 4, 2) := by decide +kernel
theorem dX7_approve_94 : decode cX7_approve 94 = .ok (.iconst 1, 1) := by decide +kernel
theorem dX7_approve_95 : decode cX7_approve 95 = .ok (.invokevirtual 100, 3) := by decide +kernel
theorem dX7_approve_98 : decode cX7_approve 98 = .ok (.ifCond .eq 8, 3) := by decide +kernel
theorem dX7_approve_101 : decode cX7_approve 101 = .ok (.aload_n 0, 1) := by decide +kernel
theorem dX7_approve_102 : decode cX7_approve 102 = .ok (.iload_n 1, 1) := by decide +kernel
theorem dX7_approve_103 : decode cX7_approve 103 = .ok (.invokevirtual 149, 3) := by decide +kernel
theorem dX7_approve_106 : decode cX7_approve 106 = .ok (.return_, 1) := by decide +kernel
theorem dX7_counting_0 : decode cX7_counting 0 = .ok (.aload_n 0, 1) := by decide +kernel
theorem dX7_counting_1 : decode cX7_counting 1 = .ok (.iload_n 1, 1) := by decide +kernel
theorem dX7_counting_2 : decode cX7_counting 2 = .ok (.invokevirtual 127, 3) := by decide +kernel
theorem dX7_counting_5 : decode cX7_counting 5 = .ok (.istore_n 2, 1) := by decide +kernel
theorem dX7_counting_6 : decode cX7_counting 6 = .ok (.iload_n 2, 1) := by decide +kernel
theorem dX7_counting_7 : decode cX7_counting 7 = .ok (.ifCond .eq 11, 3) := by decide +kernel
theorem dX7_counting_10 : decode cX7_counting 10 = .ok (.aload_n 0, 1) := by decide +kernel
theorem dX7_counting_11 : decode cX7_counting 11 = .ok (.iload_n 1, 1) := by decide +kernel
theorem dX7_counting_12 : decode cX7_counting 12 = .ok (.invokevirtual 136, 3) := by decide +kernel
theorem dX7_counting_15 : decode cX7_counting 15 = .ok (.goto 4, 3) := by decide +kernel
theorem dX7_counting_18 : decode cX7_counting 18 = .ok (.iconst (-1), 1) := by decide +kernel
theorem dX7_counting_19 : decode cX7_counting 19 = .ok (.istore_n 3, 1) := by decide +kernel
theorem dX7_counting_20 : decode cX7_counting 20 = .ok (.aload_n 0, 1) := by decide +kernel
theorem dX7_counting_21 : decode cX7_counting 21 = .ok (.iload_n 2, 1) := by decide +kernel
theorem dX7_counting_22 : decode cX7_counting 22 = .ok (.iload_n 3, 1) := by decide +kernel
theorem dX7_counting_23 : decode cX7_counting 23 = .ok (.iconst (-1), 1) := by decide +kernel
theorem dX7_counting_24 : decode cX7_counting 24 = .ok (.if_icmp .eq 7, 3) := by decide +kernel
theorem dX7_counting_27 : decode cX7_counting 27 = .ok (.iconst 1, 1) := by decide +kernel
theorem dX7_counting_28 : decode cX7_counting 28 = .ok (.goto 4, 3) := by decide +kernel
theorem dX7_counting_31 : decode cX7_counting 31 = .ok (.iconst 0, 1) := by decide +kernel
theorem dX7_counting_32 : decode cX7_counting 32 = .ok (.iconst 1, 1) := by decide +kernel
theorem dX7_counting_33 : decode cX7_counting 33 = .ok (.invokevirtual 100, 3) := by decide +kernel
theorem dX7_counting_36 : decode cX7_counting 36 = .ok (.ifCond .eq 7, 3) := by decide +kernel
theorem dX7_counting_39 : decode cX7_counting 39 = .ok (.iload_n 3, 1) := by decide +kernel
theorem dX7_counting_40 : decode cX7_counting 40 = .ok (.goto 4, 3) := by decide +kernel
theorem dX7_counting_43 : decode cX7_counting 43 = .ok (.iconst 0, 1) := by decide +kernel
theorem dX7_counting_44 : decode cX7_counting 44 = .ok (.ireturn, 1) := by decide +kernel
theorem dX7_waiting_0 : decode cX7_waiting 0 = .ok (.aload_n 0, 1) := by decide +kernel
theorem dX7_waiting_1 : decode cX7_waiting 1 = .ok (.iconst 0, 1) := by decide +kernel
theorem dX7_waiting_2 : decode cX7_waiting 2 = .ok (.putfield 79, 3) := by decide +kernel
theorem dX7_waiting_5 : decode cX7_waiting 5 = .ok (.iconst 0, 1) := by decide +kernel
theorem dX7_waiting_6 : decode cX7_waiting 6 = .ok (.istore_n 1, 1) := by decide +kernel
theorem dX7_waiting_7 : decode cX7_waiting 7 = .ok (.iconst 0, 1) := by decide +kernel
theorem dX7_waiting_8 : decode cX7_waiting 8 = .ok (.istore_n 2, 1) := by decide +kernel
theorem dX7_waiting_9 : decode cX7_waiting 9 = .ok (.iload_n 2, 1) := by decide +kernel
theorem dX7_waiting_10 : decode cX7_waiting 10 = .ok (.aload_n 0, 1) := by decide +kernel
theorem dX7_waiting_11 : decode cX7_waiting 11 = .ok (.getfield 133, 3) := by decide +kernel
theorem dX7_waiting_14 : decode cX7_waiting 14 = .ok (.if_icmp .ge 39, 3) := by decide +kernel
theorem dX7_waiting_17 : decode cX7_waiting 17 = .ok (.iload_n 1, 1) := by decide +kernel
theorem dX7_waiting_18 : decode cX7_waiting 18 = .ok (.aload_n 0, 1) := by decide +kernel
theorem dX7_waiting_19 : decode cX7_waiting 19 = .ok (.getfield 73, 3) := by decide +kernel
theorem dX7_waiting_22 : decode cX7_waiting 22 = .ok (.iload_n 2, 1) := by decide +kernel
theorem dX7_waiting_23 : decode cX7_waiting 23 = .ok (.iaload, 1) := by decide +kernel
theorem dX7_waiting_24 : decode cX7_waiting 24 = .ok (.ifCond .ne 20, 3) := by decide +kernel
theorem dX7_waiting_27 : decode cX7_waiting 27 = .ok (.aload_n 0, 1) := by decide +kernel
theorem dX7_waiting_28 : decode cX7_waiting 28 = .ok (.aload_n 0, 1) := by decide +kernel
theorem dX7_waiting_29 : decode cX7_waiting 29 = .ok (.getfield 64, 3) := by decide +kernel
theorem dX7_waiting_32 : decode cX7_waiting 32 = .ok (.iload_n 2, 1) := by decide +kernel
theorem dX7_waiting_33 : decode cX7_waiting 33 = .ok (.iaload, 1) := by decide +kernel
theorem dX7_waiting_34 : decode cX7_waiting 34 = .ok (.invokevirtual 130, 3) := by decide +kernel
theorem dX7_waiting_37 : decode cX7_waiting 37 = .ok (.ifCond .eq 7, 3) := by decide +kernel
theorem dX7_waiting_40 : decode cX7_waiting 40 = .ok (.iconst 1, 1) := by decide +kernel
theorem dX7_waiting_41 : decode cX7_waiting 41 = .ok (.goto 4, 3) := by decide +kernel
theorem dX7_waiting_44 : decode cX7_waiting 44 = .ok (.iconst 0, 1) := by decide +kernel
theorem dX7_waiting_45 : decode cX7_waiting 45 = .ok (.iadd, 1) := by decide +kernel
theorem dX7_waiting_46 : decode cX7_waiting 46 = .ok (.istore_n 1, 1) := by decide +kernel
theorem dX7_waiting_47 : decode cX7_waiting 47 = .ok (.iinc 2 1, 3) := by decide +kernel
theorem dX7_waiting_50 : decode cX7_waiting 50 = .ok (.goto (-41), 3) := by decide +kernel
theorem dX7_waiting_53 : decode cX7_waiting 53 = .ok (.iload_n 1, 1) := by decide +kernel
theorem dX7_waiting_54 : decode cX7_waiting 54 = .ok (.ireturn, 1) := by decide +kernel
theorem dX7_weight_0 : decode cX7_weight 0 = .ok (.iload_n 0, 1) := by decide +kernel
theorem dX7_weight_1 : decode cX7_weight 1 = .ok (.ifCond .ne 8, 3) := by decide +kernel
theorem dX7_weight_4 : decode cX7_weight 4 = .ok (.bipush 10, 2) := by decide +kernel
theorem dX7_weight_6 : decode cX7_weight 6 = .ok (.goto 44, 3) := by decide +kernel
theorem dX7_weight_9 : decode cX7_weight 9 = .ok (.iload_n 0, 1) := by decide +kernel
theorem dX7_weight_10 : decode cX7_weight 10 = .ok (.iconst 1, 1) := by decide +kernel
theorem dX7_weight_11 : decode cX7_weight 11 = .ok (.if_icmp .ne 8, 3) := by decide +kernel
theorem dX7_weight_14 : decode cX7_weight 14 = .ok (.bipush 30, 2) := by decide +kernel
theorem dX7_weight_16 : decode cX7_weight 16 = .ok (.goto 34, 3) := by decide +kernel
theorem dX7_weight_19 : decode cX7_weight 19 = .ok (.iload_n 0, 1) := by decide +kernel
theorem dX7_weight_20 : decode cX7_weight 20 = .ok (.iconst 2, 1) := by decide +kernel
theorem dX7_weight_21 : decode cX7_weight 21 = .ok (.if_icmp .ne 8, 3) := by decide +kernel
theorem dX7_weight_24 : decode cX7_weight 24 = .ok (.bipush 60, 2) := by decide +kernel
theorem dX7_weight_26 : decode cX7_weight 26 = .ok (.goto 24, 3) := by decide +kernel
theorem dX7_weight_29 : decode cX7_weight 29 = .ok (.iload_n 0, 1) := by decide +kernel
theorem dX7_weight_30 : decode cX7_weight 30 = .ok (.iconst 3, 1) := by decide +kernel
theorem dX7_weight_31 : decode cX7_weight 31 = .ok (.if_icmp .ne 8, 3) := by decide +kernel
theorem dX7_weight_34 : decode cX7_weight 34 = .ok (.bipush 90, 2) := by decide +kernel
theorem dX7_weight_36 : decode cX7_weight 36 = .ok (.goto 14, 3) := by decide +kernel
theorem dX7_weight_39 : decode cX7_weight 39 = .ok (.iload_n 0, 1) := by decide +kernel
theorem dX7_weight_40 : decode cX7_weight 40 = .ok (.iconst 4, 1) := by decide +kernel
theorem dX7_weight_41 : decode cX7_weight 41 = .ok (.if_icmp .ne 8, 3) := by decide +kernel
theorem dX7_weight_44 : decode cX7_weight 44 = .ok (.bipush 100, 2) := by decide +kernel
theorem dX7_weight_46 : decode cX7_weight 46 = .ok (.goto 4, 3) := by decide +kernel
theorem dX7_weight_49 : decode cX7_weight 49 = .ok (.iconst 0, 1) := by decide +kernel
theorem dX7_weight_50 : decode cX7_weight 50 = .ok (.ireturn, 1) := by decide +kernel
theorem dX7_ownOf_0 : decode cX7_ownOf 0 = .ok (.iconst 0, 1) := by decide +kernel
theorem dX7_ownOf_1 : decode cX7_ownOf 1 = .ok (.istore_n 2, 1) := by decide +kernel
theorem dX7_ownOf_2 : decode cX7_ownOf 2 = .ok (.iconst 0, 1) := by decide +kernel
theorem dX7_ownOf_3 : decode cX7_ownOf 3 = .ok (.istore_n 3, 1) := by decide +kernel
theorem dX7_ownOf_4 : decode cX7_ownOf 4 = .ok (.iload_n 3, 1) := by decide +kernel
theorem dX7_ownOf_5 : decode cX7_ownOf 5 = .ok (.aload_n 0, 1) := by decide +kernel
theorem dX7_ownOf_6 : decode cX7_ownOf 6 = .ok (.getfield 93, 3) := by decide +kernel
theorem dX7_ownOf_9 : decode cX7_ownOf 9 = .ok (.if_icmp .ge 49, 3) := by decide +kernel
theorem dX7_ownOf_12 : decode cX7_ownOf 12 = .ok (.aload_n 0, 1) := by decide +kernel
theorem dX7_ownOf_13 : decode cX7_ownOf 13 = .ok (.iload_n 3, 1) := by decide +kernel
theorem dX7_ownOf_14 : decode cX7_ownOf 14 = .ok (.invokevirtual 143, 3) := by decide +kernel
theorem dX7_ownOf_17 : decode cX7_ownOf 17 = .ok (.aload_n 0, 1) := by decide +kernel
theorem dX7_ownOf_18 : decode cX7_ownOf 18 = .ok (.getfield 58, 3) := by decide +kernel
theorem dX7_ownOf_21 : decode cX7_ownOf 21 = .ok (.bipush 8, 2) := by decide +kernel
theorem dX7_ownOf_23 : decode cX7_ownOf 23 = .ok (.iload_n 3, 1) := by decide +kernel
theorem dX7_ownOf_24 : decode cX7_ownOf 24 = .ok (.imul, 1) := by decide +kernel
theorem dX7_ownOf_25 : decode cX7_ownOf 25 = .ok (.iload_n 1, 1) := by decide +kernel
theorem dX7_ownOf_26 : decode cX7_ownOf 26 = .ok (.iadd, 1) := by decide +kernel
theorem dX7_ownOf_27 : decode cX7_ownOf 27 = .ok (.iaload, 1) := by decide +kernel
theorem dX7_ownOf_28 : decode cX7_ownOf 28 = .ok (.imul, 1) := by decide +kernel
theorem dX7_ownOf_29 : decode cX7_ownOf 29 = .ok (.bipush 100, 2) := by decide +kernel
theorem dX7_ownOf_31 : decode cX7_ownOf 31 = .ok (.idiv, 1) := by decide +kernel
theorem dX7_ownOf_32 : decode cX7_ownOf 32 = .ok (.istore 4, 2) := by decide +kernel
theorem dX7_ownOf_34 : decode cX7_ownOf 34 = .ok (.iload_n 2, 1) := by decide +kernel
theorem dX7_ownOf_35 : decode cX7_ownOf 35 = .ok (.iload 4, 2) := by decide +kernel
theorem dX7_ownOf_37 : decode cX7_ownOf 37 = .ok (.aload_n 0, 1) := by decide +kernel
theorem dX7_ownOf_38 : decode cX7_ownOf 38 = .ok (.getfield 49, 3) := by decide +kernel
theorem dX7_ownOf_41 : decode cX7_ownOf 41 = .ok (.iload_n 3, 1) := by decide +kernel
theorem dX7_ownOf_42 : decode cX7_ownOf 42 = .ok (.iaload, 1) := by decide +kernel
theorem dX7_ownOf_43 : decode cX7_ownOf 43 = .ok (.invokestatic 156, 3) := by decide +kernel
theorem dX7_ownOf_46 : decode cX7_ownOf 46 = .ok (.imul, 1) := by decide +kernel
theorem dX7_ownOf_47 : decode cX7_ownOf 47 = .ok (.bipush 100, 2) := by decide +kernel
theorem dX7_ownOf_49 : decode cX7_ownOf 49 = .ok (.idiv, 1) := by decide +kernel
theorem dX7_ownOf_50 : decode cX7_ownOf 50 = .ok (.iadd, 1) := by decide +kernel
theorem dX7_ownOf_51 : decode cX7_ownOf 51 = .ok (.istore_n 2, 1) := by decide +kernel
theorem dX7_ownOf_52 : decode cX7_ownOf 52 = .ok (.iinc 3 1, 3) := by decide +kernel
theorem dX7_ownOf_55 : decode cX7_ownOf 55 = .ok (.goto (-51), 3) := by decide +kernel
theorem dX7_ownOf_58 : decode cX7_ownOf 58 = .ok (.iload_n 2, 1) := by decide +kernel
theorem dX7_ownOf_59 : decode cX7_ownOf 59 = .ok (.ireturn, 1) := by decide +kernel
theorem dX7_forecastOf_0 : decode cX7_forecastOf 0 = .ok (.iconst 0, 1) := by decide +kernel
theorem dX7_forecastOf_1 : decode cX7_forecastOf 1 = .ok (.istore_n 2, 1) := by decide +kernel
theorem dX7_forecastOf_2 : decode cX7_forecastOf 2 = .ok (.iconst 0, 1) := by decide +kernel
theorem dX7_forecastOf_3 : decode cX7_forecastOf 3 = .ok (.istore_n 3, 1) := by decide +kernel
theorem dX7_forecastOf_4 : decode cX7_forecastOf 4 = .ok (.iload_n 3, 1) := by decide +kernel
theorem dX7_forecastOf_5 : decode cX7_forecastOf 5 = .ok (.aload_n 0, 1) := by decide +kernel
theorem dX7_forecastOf_6 : decode cX7_forecastOf 6 = .ok (.getfield 90, 3) := by decide +kernel
theorem dX7_forecastOf_9 : decode cX7_forecastOf 9 = .ok (.if_icmp .ge 42, 3) := by decide +kernel
theorem dX7_forecastOf_12 : decode cX7_forecastOf 12 = .ok (.iload_n 2, 1) := by decide +kernel
theorem dX7_forecastOf_13 : decode cX7_forecastOf 13 = .ok (.iload_n 3, 1) := by decide +kernel
theorem dX7_forecastOf_14 : decode cX7_forecastOf 14 = .ok (.iload_n 1, 1) := by decide +kernel
theorem dX7_forecastOf_15 : decode cX7_forecastOf 15 = .ok (.if_icmp .eq 12, 3) := by decide +kernel
theorem dX7_forecastOf_18 : decode cX7_forecastOf 18 = .ok (.aload_n 0, 1) := by decide +kernel
theorem dX7_forecastOf_19 : decode cX7_forecastOf 19 = .ok (.iload_n 1, 1) := by decide +kernel
theorem dX7_forecastOf_20 : decode cX7_forecastOf 20 = .ok (.iload_n 3, 1) := by decide +kernel
theorem dX7_forecastOf_21 : decode cX7_forecastOf 21 = .ok (.invokevirtual 153, 3) := by decide +kernel
theorem dX7_forecastOf_24 : decode cX7_forecastOf 24 = .ok (.ifCond .eq 18, 3) := by decide +kernel
theorem dX7_forecastOf_27 : decode cX7_forecastOf 27 = .ok (.aload_n 0, 1) := by decide +kernel
theorem dX7_forecastOf_28 : decode cX7_forecastOf 28 = .ok (.iload_n 3, 1) := by decide +kernel
theorem dX7_forecastOf_29 : decode cX7_forecastOf 29 = .ok (.invokevirtual 159, 3) := by decide +kernel
theorem dX7_forecastOf_32 : decode cX7_forecastOf 32 = .ok (.aload_n 0, 1) := by decide +kernel
theorem dX7_forecastOf_33 : decode cX7_forecastOf 33 = .ok (.getfield 40, 3) := by decide +kernel
theorem dX7_forecastOf_36 : decode cX7_forecastOf 36 = .ok (.iload_n 3, 1) := by decide +kernel
theorem dX7_forecastOf_37 : decode cX7_forecastOf 37 = .ok (.iaload, 1) := by decide +kernel
theorem dX7_forecastOf_38 : decode cX7_forecastOf 38 = .ok (.iadd, 1) := by decide +kernel
theorem dX7_forecastOf_39 : decode cX7_forecastOf 39 = .ok (.goto 4, 3) := by decide +kernel
theorem dX7_forecastOf_42 : decode cX7_forecastOf 42 = .ok (.iconst 0, 1) := by decide +kernel
theorem dX7_forecastOf_43 : decode cX7_forecastOf 43 = .ok (.iadd, 1) := by decide +kernel
theorem dX7_forecastOf_44 : decode cX7_forecastOf 44 = .ok (.istore_n 2, 1) := by decide +kernel
theorem dX7_forecastOf_45 : decode cX7_forecastOf 45 = .ok (.iinc 3 1, 3) := by decide +kernel
theorem dX7_forecastOf_48 : decode cX7_forecastOf 48 = .ok (.goto (-44), 3) := by decide +kernel
theorem dX7_forecastOf_51 : decode cX7_forecastOf 51 = .ok (.iload_n 2, 1) := by decide +kernel
theorem dX7_forecastOf_52 : decode cX7_forecastOf 52 = .ok (.ireturn, 1) := by decide +kernel
theorem dX7_forecast_0 : decode cX7_forecast 0 = .ok (.aload_n 0, 1) := by decide +kernel
theorem dX7_forecast_1 : decode cX7_forecast 1 = .ok (.aload_n 0, 1) := by decide +kernel
theorem dX7_forecast_2 : decode cX7_forecast 2 = .ok (.iload_n 1, 1) := by decide +kernel
theorem dX7_forecast_3 : decode cX7_forecast 3 = .ok (.invokevirtual 122, 3) := by decide +kernel
theorem dX7_forecast_6 : decode cX7_forecast 6 = .ok (.iconst 1, 1) := by decide +kernel
theorem dX7_forecast_7 : decode cX7_forecast 7 = .ok (.iconst 1, 1) := by decide +kernel
theorem dX7_forecast_8 : decode cX7_forecast 8 = .ok (.invokevirtual 100, 3) := by decide +kernel
theorem dX7_forecast_11 : decode cX7_forecast 11 = .ok (.ifCond .eq 11, 3) := by decide +kernel
theorem dX7_forecast_14 : decode cX7_forecast 14 = .ok (.aload_n 0, 1) := by decide +kernel
theorem dX7_forecast_15 : decode cX7_forecast 15 = .ok (.iload_n 1, 1) := by decide +kernel
theorem dX7_forecast_16 : decode cX7_forecast 16 = .ok (.invokevirtual 162, 3) := by decide +kernel
theorem dX7_forecast_19 : decode cX7_forecast 19 = .ok (.goto 4, 3) := by decide +kernel
theorem dX7_forecast_22 : decode cX7_forecast 22 = .ok (.iconst 0, 1) := by decide +kernel
theorem dX7_forecast_23 : decode cX7_forecast 23 = .ok (.ireturn, 1) := by decide +kernel
theorem dX7_own_0 : decode cX7_own 0 = .ok (.aload_n 0, 1) := by decide +kernel
theorem dX7_own_1 : decode cX7_own 1 = .ok (.aload_n 0, 1) := by decide +kernel
theorem dX7_own_2 : decode cX7_own 2 = .ok (.iload_n 1, 1) := by decide +kernel
theorem dX7_own_3 : decode cX7_own 3 = .ok (.invokevirtual 122, 3) := by decide +kernel
theorem dX7_own_6 : decode cX7_own 6 = .ok (.iconst 1, 1) := by decide +kernel
theorem dX7_own_7 : decode cX7_own 7 = .ok (.iconst 1, 1) := by decide +kernel
theorem dX7_own_8 : decode cX7_own 8 = .ok (.invokevirtual 100, 3) := by decide +kernel
theorem dX7_own_11 : decode cX7_own 11 = .ok (.ifCond .eq 11, 3) := by decide +kernel
theorem dX7_own_14 : decode cX7_own 14 = .ok (.aload_n 0, 1) := by decide +kernel
theorem dX7_own_15 : decode cX7_own 15 = .ok (.iload_n 1, 1) := by decide +kernel
theorem dX7_own_16 : decode cX7_own 16 = .ok (.invokevirtual 159, 3) := by decide +kernel
theorem dX7_own_19 : decode cX7_own 19 = .ok (.goto 4, 3) := by decide +kernel
theorem dX7_own_22 : decode cX7_own 22 = .ok (.iconst 0, 1) := by decide +kernel
theorem dX7_own_23 : decode cX7_own 23 = .ok (.ireturn, 1) := by decide +kernel
theorem dX7_freeze_0 : decode cX7_freeze 0 = .ok (.aload_n 0, 1) := by decide +kernel
theorem dX7_freeze_1 : decode cX7_freeze 1 = .ok (.aload_n 0, 1) := by decide +kernel
theorem dX7_freeze_2 : decode cX7_freeze 2 = .ok (.getfield 165, 3) := by decide +kernel
theorem dX7_freeze_5 : decode cX7_freeze 5 = .ok (.bipush 20, 2) := by decide +kernel
theorem dX7_freeze_7 : decode cX7_freeze 7 = .ok (.if_icmp .ge 7, 3) := by decide +kernel
theorem dX7_freeze_10 : decode cX7_freeze 10 = .ok (.iconst 1, 1) := by decide +kernel
theorem dX7_freeze_11 : decode cX7_freeze 11 = .ok (.goto 4, 3) := by decide +kernel
theorem dX7_freeze_14 : decode cX7_freeze 14 = .ok (.iconst 0, 1) := by decide +kernel
theorem dX7_freeze_15 : decode cX7_freeze 15 = .ok (.iconst 1, 1) := by decide +kernel
theorem dX7_freeze_16 : decode cX7_freeze 16 = .ok (.iconst 1, 1) := by decide +kernel
theorem dX7_freeze_17 : decode cX7_freeze 17 = .ok (.invokevirtual 100, 3) := by decide +kernel
theorem dX7_freeze_20 : decode cX7_freeze 20 = .ok (.ifCond .ne 5, 3) := by decide +kernel
theorem dX7_freeze_23 : decode cX7_freeze 23 = .ok (.iconst 0, 1) := by decide +kernel
theorem dX7_freeze_24 : decode cX7_freeze 24 = .ok (.ireturn, 1) := by decide +kernel
theorem dX7_freeze_25 : decode cX7_freeze 25 = .ok (.iconst 0, 1) := by decide +kernel
theorem dX7_freeze_26 : decode cX7_freeze 26 = .ok (.istore_n 1, 1) := by decide +kernel
theorem dX7_freeze_27 : decode cX7_freeze 27 = .ok (.iload_n 1, 1) := by decide +kernel
theorem dX7_freeze_28 : decode cX7_freeze 28 = .ok (.aload_n 0, 1) := by decide +kernel
theorem dX7_freeze_29 : decode cX7_freeze 29 = .ok (.getfield 90, 3) := by decide +kernel
theorem dX7_freeze_32 : decode cX7_freeze 32 = .ok (.if_icmp .ge 28, 3) := by decide +kernel
theorem dX7_freeze_35 : decode cX7_freeze 35 = .ok (.aload_n 0, 1) := by decide +kernel
theorem dX7_freeze_36 : decode cX7_freeze 36 = .ok (.getfield 76, 3) := by decide +kernel
theorem dX7_freeze_39 : decode cX7_freeze 39 = .ok (.bipush 8, 2) := by decide +kernel
theorem dX7_freeze_41 : decode cX7_freeze 41 = .ok (.aload_n 0, 1) := by decide +kernel
theorem dX7_freeze_42 : decode cX7_freeze 42 = .ok (.getfield 165, 3) := by decide +kernel
theorem dX7_freeze_45 : decode cX7_freeze 45 = .ok (.imul, 1) := by decide +kernel
theorem dX7_freeze_46 : decode cX7_freeze 46 = .ok (.iload_n 1, 1) := by decide +kernel
theorem dX7_freeze_47 : decode cX7_freeze 47 = .ok (.iadd, 1) := by decide +kernel
theorem dX7_freeze_48 : decode cX7_freeze 48 = .ok (.aload_n 0, 1) := by decide +kernel
theorem dX7_freeze_49 : decode cX7_freeze 49 = .ok (.iload_n 1, 1) := by decide +kernel
theorem dX7_freeze_50 : decode cX7_freeze 50 = .ok (.invokevirtual 162, 3) := by decide +kernel
theorem dX7_freeze_53 : decode cX7_freeze 53 = .ok (.iastore, 1) := by decide +kernel
theorem dX7_freeze_54 : decode cX7_freeze 54 = .ok (.iinc 1 1, 3) := by decide +kernel
theorem dX7_freeze_57 : decode cX7_freeze 57 = .ok (.goto (-30), 3) := by decide +kernel
theorem dX7_freeze_60 : decode cX7_freeze 60 = .ok (.aload_n 0, 1) := by decide +kernel
theorem dX7_freeze_61 : decode cX7_freeze 61 = .ok (.dup, 1) := by decide +kernel
theorem dX7_freeze_62 : decode cX7_freeze 62 = .ok (.getfield 165, 3) := by decide +kernel
theorem dX7_freeze_65 : decode cX7_freeze 65 = .ok (.iconst 1, 1) := by decide +kernel
theorem dX7_freeze_66 : decode cX7_freeze 66 = .ok (.iadd, 1) := by decide +kernel
theorem dX7_freeze_67 : decode cX7_freeze 67 = .ok (.putfield 165, 3) := by decide +kernel
theorem dX7_freeze_70 : decode cX7_freeze 70 = .ok (.aload_n 0, 1) := by decide +kernel
theorem dX7_freeze_71 : decode cX7_freeze 71 = .ok (.getfield 165, 3) := by decide +kernel
theorem dX7_freeze_74 : decode cX7_freeze 74 = .ok (.iconst 1, 1) := by decide +kernel
theorem dX7_freeze_75 : decode cX7_freeze 75 = .ok (.isub, 1) := by decide +kernel
theorem dX7_freeze_76 : decode cX7_freeze 76 = .ok (.ireturn, 1) := by decide +kernel
theorem dX7_since_0 : decode cX7_since 0 = .ok (.aload_n 0, 1) := by decide +kernel
theorem dX7_since_1 : decode cX7_since 1 = .ok (.iload_n 1, 1) := by decide +kernel
theorem dX7_since_2 : decode cX7_since 2 = .ok (.iconst 0, 1) := by decide +kernel
theorem dX7_since_3 : decode cX7_since 3 = .ok (.aload_n 0, 1) := by decide +kernel
theorem dX7_since_4 : decode cX7_since 4 = .ok (.getfield 165, 3) := by decide +kernel
theorem dX7_since_7 : decode cX7_since 7 = .ok (.iconst 1, 1) := by decide +kernel
theorem dX7_since_8 : decode cX7_since 8 = .ok (.isub, 1) := by decide +kernel
theorem dX7_since_9 : decode cX7_since 9 = .ok (.invokestatic 86, 3) := by decide +kernel
theorem dX7_since_12 : decode cX7_since 12 = .ok (.ifCond .eq 15, 3) := by decide +kernel
theorem dX7_since_15 : decode cX7_since 15 = .ok (.aload_n 0, 1) := by decide +kernel
theorem dX7_since_16 : decode cX7_since 16 = .ok (.iload_n 2, 1) := by decide +kernel
theorem dX7_since_17 : decode cX7_since 17 = .ok (.invokevirtual 122, 3) := by decide +kernel
theorem dX7_since_20 : decode cX7_since 20 = .ok (.ifCond .eq 7, 3) := by decide +kernel
theorem dX7_since_23 : decode cX7_since 23 = .ok (.iconst 1, 1) := by decide +kernel
theorem dX7_since_24 : decode cX7_since 24 = .ok (.goto 4, 3) := by decide +kernel
theorem dX7_since_27 : decode cX7_since 27 = .ok (.iconst 0, 1) := by decide +kernel
theorem dX7_since_28 : decode cX7_since 28 = .ok (.iconst 1, 1) := by decide +kernel
theorem dX7_since_29 : decode cX7_since 29 = .ok (.iconst 1, 1) := by decide +kernel
theorem dX7_since_30 : decode cX7_since 30 = .ok (.invokevirtual 100, 3) := by decide +kernel
theorem dX7_since_33 : decode cX7_since 33 = .ok (.ifCond .eq 23, 3) := by decide +kernel
theorem dX7_since_36 : decode cX7_since 36 = .ok (.aload_n 0, 1) := by decide +kernel
theorem dX7_since_37 : decode cX7_since 37 = .ok (.iload_n 2, 1) := by decide +kernel
theorem dX7_since_38 : decode cX7_since 38 = .ok (.invokevirtual 162, 3) := by decide +kernel
theorem dX7_since_41 : decode cX7_since 41 = .ok (.aload_n 0, 1) := by decide +kernel
theorem dX7_since_42 : decode cX7_since 42 = .ok (.getfield 76, 3) := by decide +kernel
theorem dX7_since_45 : decode cX7_since 45 = .ok (.bipush 8, 2) := by decide +kernel
theorem dX7_since_47 : decode cX7_since 47 = .ok (.iload_n 1, 1) := by decide +kernel
theorem dX7_since_48 : decode cX7_since 48 = .ok (.imul, 1) := by decide +kernel
theorem dX7_since_49 : decode cX7_since 49 = .ok (.iload_n 2, 1) := by decide +kernel
theorem dX7_since_50 : decode cX7_since 50 = .ok (.iadd, 1) := by decide +kernel
theorem dX7_since_51 : decode cX7_since 51 = .ok (.iaload, 1) := by decide +kernel
theorem dX7_since_52 : decode cX7_since 52 = .ok (.isub, 1) := by decide +kernel
theorem dX7_since_53 : decode cX7_since 53 = .ok (.goto 4, 3) := by decide +kernel
theorem dX7_since_56 : decode cX7_since 56 = .ok (.iconst 0, 1) := by decide +kernel
theorem dX7_since_57 : decode cX7_since 57 = .ok (.ireturn, 1) := by decide +kernel
theorem dJxa1e45_init_da8c8_0 : decode cJxa1e45_init_da8c8 0 = .ok (.aload_n 0, 1) := by decide +kernel
theorem dJxa1e45_init_da8c8_1 : decode cJxa1e45_init_da8c8 1 = .ok (.invokespecial 1, 3) := by decide +kernel
theorem dJxa1e45_init_da8c8_4 : decode cJxa1e45_init_da8c8 4 = .ok (.return_, 1) := by decide +kernel
theorem dJxc12de_init_da8c8_0 : decode cJxc12de_init_da8c8 0 = .ok (.aload_n 0, 1) := by decide +kernel
theorem dJxc12de_init_da8c8_1 : decode cJxc12de_init_da8c8 1 = .ok (.invokespecial 1, 3) := by decide +kernel
theorem dJxc12de_init_da8c8_4 : decode cJxc12de_init_da8c8 4 = .ok (.aload_n 0, 1) := by decide +kernel
theorem dJxc12de_init_da8c8_5 : decode cJxc12de_init_da8c8 5 = .ok (.iconst 0, 1) := by decide +kernel
theorem dJxc12de_init_da8c8_6 : decode cJxc12de_init_da8c8 6 = .ok (.putfield 7, 3) := by decide +kernel
theorem dJxc12de_init_da8c8_9 : decode cJxc12de_init_da8c8 9 = .ok (.return_, 1) := by decide +kernel
theorem dJx4a65c_init_da8c8_0 : decode cJx4a65c_init_da8c8 0 = .ok (.aload_n 0, 1) := by decide +kernel
theorem dJx4a65c_init_da8c8_1 : decode cJx4a65c_init_da8c8 1 = .ok (.invokespecial 1, 3) := by decide +kernel
theorem dJx4a65c_init_da8c8_4 : decode cJx4a65c_init_da8c8 4 = .ok (.aload_n 0, 1) := by decide +kernel
theorem dJx4a65c_init_da8c8_5 : decode cJx4a65c_init_da8c8 5 = .ok (.getstatic 39, 3) := by decide +kernel
theorem dJx4a65c_init_da8c8_8 : decode cJx4a65c_init_da8c8 8 = .ok (.putfield 9, 3) := by decide +kernel
theorem dJx4a65c_init_da8c8_11 : decode cJx4a65c_init_da8c8 11 = .ok (.return_, 1) := by decide +kernel
theorem dJx4a65c_grow_92f84_0 : decode cJx4a65c_grow_92f84 0 = .ok (.aload_n 0, 1) := by decide +kernel
theorem dJx4a65c_grow_92f84_1 : decode cJx4a65c_grow_92f84 1 = .ok (.getfield 9, 3) := by decide +kernel
theorem dJx4a65c_grow_92f84_4 : decode cJx4a65c_grow_92f84 4 = .ok (.arraylength, 1) := by decide +kernel
theorem dJx4a65c_grow_92f84_5 : decode cJx4a65c_grow_92f84 5 = .ok (.istore_n 2, 1) := by decide +kernel
theorem dJx4a65c_grow_92f84_6 : decode cJx4a65c_grow_92f84 6 = .ok (.iload_n 2, 1) := by decide +kernel
theorem dJx4a65c_grow_92f84_7 : decode cJx4a65c_grow_92f84 7 = .ok (.ifCond .gt 13, 3) := by decide +kernel
theorem dJx4a65c_grow_92f84_10 : decode cJx4a65c_grow_92f84 10 = .ok (.aload_n 0, 1) := by decide +kernel
theorem dJx4a65c_grow_92f84_11 : decode cJx4a65c_grow_92f84 11 = .ok (.getfield 9, 3) := by decide +kernel
theorem dJx4a65c_grow_92f84_14 : decode cJx4a65c_grow_92f84 14 = .ok (.getstatic 39, 3) := by decide +kernel
theorem dJx4a65c_grow_92f84_17 : decode cJx4a65c_grow_92f84 17 = .ok (.if_acmp .eq 28, 3) := by decide +kernel
theorem dJx4a65c_grow_92f84_20 : decode cJx4a65c_grow_92f84 20 = .ok (.iload_n 2, 1) := by decide +kernel
theorem dJx4a65c_grow_92f84_21 : decode cJx4a65c_grow_92f84 21 = .ok (.iload_n 1, 1) := by decide +kernel
theorem dJx4a65c_grow_92f84_22 : decode cJx4a65c_grow_92f84 22 = .ok (.iload_n 2, 1) := by decide +kernel
theorem dJx4a65c_grow_92f84_23 : decode cJx4a65c_grow_92f84 23 = .ok (.isub, 1) := by decide +kernel
theorem dJx4a65c_grow_92f84_24 : decode cJx4a65c_grow_92f84 24 = .ok (.iload_n 2, 1) := by decide +kernel
theorem dJx4a65c_grow_92f84_25 : decode cJx4a65c_grow_92f84 25 = .ok (.iconst 1, 1) := by decide +kernel
theorem dJx4a65c_grow_92f84_26 : decode cJx4a65c_grow_92f84 26 = .ok (.ishr, 1) := by decide +kernel
theorem dJx4a65c_grow_92f84_27 : decode cJx4a65c_grow_92f84 27 = .ok (.invokestatic 73, 3) := by decide +kernel
theorem dJx4a65c_grow_92f84_30 : decode cJx4a65c_grow_92f84 30 = .ok (.istore_n 3, 1) := by decide +kernel
theorem dJx4a65c_grow_92f84_31 : decode cJx4a65c_grow_92f84 31 = .ok (.aload_n 0, 1) := by decide +kernel
theorem dJx4a65c_grow_92f84_32 : decode cJx4a65c_grow_92f84 32 = .ok (.aload_n 0, 1) := by decide +kernel
theorem dJx4a65c_grow_92f84_33 : decode cJx4a65c_grow_92f84 33 = .ok (.getfield 9, 3) := by decide +kernel
theorem dJx4a65c_grow_92f84_36 : decode cJx4a65c_grow_92f84 36 = .ok (.iload_n 3, 1) := by decide +kernel
theorem dJx4a65c_grow_92f84_37 : decode cJx4a65c_grow_92f84 37 = .ok (.invokestatic 66, 3) := by decide +kernel
theorem dJx4a65c_grow_92f84_40 : decode cJx4a65c_grow_92f84 40 = .ok (.dup_x1, 1) := by decide +kernel
theorem dJx4a65c_grow_92f84_41 : decode cJx4a65c_grow_92f84 41 = .ok (.putfield 9, 3) := by decide +kernel
theorem dJx4a65c_grow_92f84_44 : decode cJx4a65c_grow_92f84 44 = .ok (.areturn, 1) := by decide +kernel
theorem dJx4a65c_grow_92f84_45 : decode cJx4a65c_grow_92f84 45 = .ok (.aload_n 0, 1) := by decide +kernel
theorem dJx4a65c_grow_92f84_46 : decode cJx4a65c_grow_92f84 46 = .ok (.bipush 10, 2) := by decide +kernel
theorem dJx4a65c_grow_92f84_48 : decode cJx4a65c_grow_92f84 48 = .ok (.iload_n 1, 1) := by decide +kernel
theorem dJx4a65c_grow_92f84_49 : decode cJx4a65c_grow_92f84 49 = .ok (.invokestatic 79, 3) := by decide +kernel
theorem dJx4a65c_grow_92f84_52 : decode cJx4a65c_grow_92f84 52 = .ok (.anewarray 7, 3) := by decide +kernel
theorem dJx4a65c_grow_92f84_55 : decode cJx4a65c_grow_92f84 55 = .ok (.dup_x1, 1) := by decide +kernel
theorem dJx4a65c_grow_92f84_56 : decode cJx4a65c_grow_92f84 56 = .ok (.putfield 9, 3) := by decide +kernel
theorem dJx4a65c_grow_92f84_59 : decode cJx4a65c_grow_92f84 59 = .ok (.areturn, 1) := by decide +kernel
theorem dJx4a65c_grow_d5877_0 : decode cJx4a65c_grow_d5877 0 = .ok (.aload_n 0, 1) := by decide +kernel
theorem dJx4a65c_grow_d5877_1 : decode cJx4a65c_grow_d5877 1 = .ok (.aload_n 0, 1) := by decide +kernel
theorem dJx4a65c_grow_d5877_2 : decode cJx4a65c_grow_d5877 2 = .ok (.getfield 48, 3) := by decide +kernel
theorem dJx4a65c_grow_d5877_5 : decode cJx4a65c_grow_d5877 5 = .ok (.iconst 1, 1) := by decide +kernel
theorem dJx4a65c_grow_d5877_6 : decode cJx4a65c_grow_d5877 6 = .ok (.iadd, 1) := by decide +kernel
theorem dJx4a65c_grow_d5877_7 : decode cJx4a65c_grow_d5877 7 = .ok (.invokevirtual 69, 3) := by decide +kernel
theorem dJx4a65c_grow_d5877_10 : decode cJx4a65c_grow_d5877 10 = .ok (.areturn, 1) := by decide +kernel
theorem dJx4a65c_size_8abf5_0 : decode cJx4a65c_size_8abf5 0 = .ok (.aload_n 0, 1) := by decide +kernel
theorem dJx4a65c_size_8abf5_1 : decode cJx4a65c_size_8abf5 1 = .ok (.getfield 48, 3) := by decide +kernel
theorem dJx4a65c_size_8abf5_4 : decode cJx4a65c_size_8abf5 4 = .ok (.ireturn, 1) := by decide +kernel
theorem dJx4a65c_elementData_915e3_0 : decode cJx4a65c_elementData_915e3 0 = .ok (.aload_n 0, 1) := by decide +kernel
theorem dJx4a65c_elementData_915e3_1 : decode cJx4a65c_elementData_915e3 1 = .ok (.getfield 9, 3) := by decide +kernel
theorem dJx4a65c_elementData_915e3_4 : decode cJx4a65c_elementData_915e3 4 = .ok (.iload_n 1, 1) := by decide +kernel
theorem dJx4a65c_elementData_915e3_5 : decode cJx4a65c_elementData_915e3 5 = .ok (.aaload, 1) := by decide +kernel
theorem dJx4a65c_elementData_915e3_6 : decode cJx4a65c_elementData_915e3 6 = .ok (.areturn, 1) := by decide +kernel
theorem dJx4a65c_get_915e3_0 : decode cJx4a65c_get_915e3 0 = .ok (.iload_n 1, 1) := by decide +kernel
theorem dJx4a65c_get_915e3_1 : decode cJx4a65c_get_915e3 1 = .ok (.aload_n 0, 1) := by decide +kernel
theorem dJx4a65c_get_915e3_2 : decode cJx4a65c_get_915e3 2 = .ok (.getfield 48, 3) := by decide +kernel
theorem dJx4a65c_get_915e3_5 : decode cJx4a65c_get_915e3 5 = .ok (.invokestatic 118, 3) := by decide +kernel
theorem dJx4a65c_get_915e3_8 : decode cJx4a65c_get_915e3 8 = .ok (.pop, 1) := by decide +kernel
theorem dJx4a65c_get_915e3_9 : decode cJx4a65c_get_915e3 9 = .ok (.aload_n 0, 1) := by decide +kernel
theorem dJx4a65c_get_915e3_10 : decode cJx4a65c_get_915e3 10 = .ok (.iload_n 1, 1) := by decide +kernel
theorem dJx4a65c_get_915e3_11 : decode cJx4a65c_get_915e3 11 = .ok (.invokevirtual 123, 3) := by decide +kernel
theorem dJx4a65c_get_915e3_14 : decode cJx4a65c_get_915e3 14 = .ok (.areturn, 1) := by decide +kernel
theorem dJx4a65c_add_72be8_0 : decode cJx4a65c_add_72be8 0 = .ok (.iload_n 3, 1) := by decide +kernel
theorem dJx4a65c_add_72be8_1 : decode cJx4a65c_add_72be8 1 = .ok (.aload_n 2, 1) := by decide +kernel
theorem dJx4a65c_add_72be8_2 : decode cJx4a65c_add_72be8 2 = .ok (.arraylength, 1) := by decide +kernel
theorem dJx4a65c_add_72be8_3 : decode cJx4a65c_add_72be8 3 = .ok (.if_icmp .ne 8, 3) := by decide +kernel
theorem dJx4a65c_add_72be8_6 : decode cJx4a65c_add_72be8 6 = .ok (.aload_n 0, 1) := by decide +kernel
theorem dJx4a65c_add_72be8_7 : decode cJx4a65c_add_72be8 7 = .ok (.invokevirtual 129, 3) := by decide +kernel
theorem dJx4a65c_add_72be8_10 : decode cJx4a65c_add_72be8 10 = .ok (.astore_n 2, 1) := by decide +kernel
theorem dJx4a65c_add_72be8_11 : decode cJx4a65c_add_72be8 11 = .ok (.aload_n 2, 1) := by decide +kernel
theorem dJx4a65c_add_72be8_12 : decode cJx4a65c_add_72be8 12 = .ok (.iload_n 3, 1) := by decide +kernel
theorem dJx4a65c_add_72be8_13 : decode cJx4a65c_add_72be8 13 = .ok (.aload_n 1, 1) := by decide +kernel
theorem dJx4a65c_add_72be8_14 : decode cJx4a65c_add_72be8 14 = .ok (.aastore, 1) := by decide +kernel
theorem dJx4a65c_add_72be8_15 : decode cJx4a65c_add_72be8 15 = .ok (.aload_n 0, 1) := by decide +kernel
theorem dJx4a65c_add_72be8_16 : decode cJx4a65c_add_72be8 16 = .ok (.iload_n 3, 1) := by decide +kernel
theorem dJx4a65c_add_72be8_17 : decode cJx4a65c_add_72be8 17 = .ok (.iconst 1, 1) := by decide +kernel
theorem dJx4a65c_add_72be8_18 : decode cJx4a65c_add_72be8 18 = .ok (.iadd, 1) := by decide +kernel
theorem dJx4a65c_add_72be8_19 : decode cJx4a65c_add_72be8 19 = .ok (.putfield 48, 3) := by decide +kernel
theorem dJx4a65c_add_72be8_22 : decode cJx4a65c_add_72be8 22 = .ok (.return_, 1) := by decide +kernel
theorem dJx4a65c_add_9ea2d_0 : decode cJx4a65c_add_9ea2d 0 = .ok (.aload_n 0, 1) := by decide +kernel
theorem dJx4a65c_add_9ea2d_1 : decode cJx4a65c_add_9ea2d 1 = .ok (.dup, 1) := by decide +kernel
theorem dJx4a65c_add_9ea2d_2 : decode cJx4a65c_add_9ea2d 2 = .ok (.getfield 63, 3) := by decide +kernel
theorem dJx4a65c_add_9ea2d_5 : decode cJx4a65c_add_9ea2d 5 = .ok (.iconst 1, 1) := by decide +kernel
theorem dJx4a65c_add_9ea2d_6 : decode cJx4a65c_add_9ea2d 6 = .ok (.iadd, 1) := by decide +kernel
theorem dJx4a65c_add_9ea2d_7 : decode cJx4a65c_add_9ea2d 7 = .ok (.putfield 63, 3) := by decide +kernel
theorem dJx4a65c_add_9ea2d_10 : decode cJx4a65c_add_9ea2d 10 = .ok (.aload_n 0, 1) := by decide +kernel
theorem dJx4a65c_add_9ea2d_11 : decode cJx4a65c_add_9ea2d 11 = .ok (.aload_n 1, 1) := by decide +kernel
theorem dJx4a65c_add_9ea2d_12 : decode cJx4a65c_add_9ea2d 12 = .ok (.aload_n 0, 1) := by decide +kernel
theorem dJx4a65c_add_9ea2d_13 : decode cJx4a65c_add_9ea2d 13 = .ok (.getfield 9, 3) := by decide +kernel
theorem dJx4a65c_add_9ea2d_16 : decode cJx4a65c_add_9ea2d 16 = .ok (.aload_n 0, 1) := by decide +kernel
theorem dJx4a65c_add_9ea2d_17 : decode cJx4a65c_add_9ea2d 17 = .ok (.getfield 48, 3) := by decide +kernel
theorem dJx4a65c_add_9ea2d_20 : decode cJx4a65c_add_9ea2d 20 = .ok (.invokevirtual 131, 3) := by decide +kernel
theorem dJx4a65c_add_9ea2d_23 : decode cJx4a65c_add_9ea2d 23 = .ok (.iconst 1, 1) := by decide +kernel
theorem dJx4a65c_add_9ea2d_24 : decode cJx4a65c_add_9ea2d 24 = .ok (.ireturn, 1) := by decide +kernel
theorem dJx4a65c_add_7a177_0 : decode cJx4a65c_add_7a177 0 = .ok (.aload_n 0, 1) := by decide +kernel
theorem dJx4a65c_add_7a177_1 : decode cJx4a65c_add_7a177 1 = .ok (.iload_n 1, 1) := by decide +kernel
theorem dJx4a65c_add_7a177_2 : decode cJx4a65c_add_7a177 2 = .ok (.invokevirtual 135, 3) := by decide +kernel
theorem dJx4a65c_add_7a177_5 : decode cJx4a65c_add_7a177 5 = .ok (.aload_n 0, 1) := by decide +kernel
theorem dJx4a65c_add_7a177_6 : decode cJx4a65c_add_7a177 6 = .ok (.dup, 1) := by decide +kernel
theorem dJx4a65c_add_7a177_7 : decode cJx4a65c_add_7a177 7 = .ok (.getfield 63, 3) := by decide +kernel
theorem dJx4a65c_add_7a177_10 : decode cJx4a65c_add_7a177 10 = .ok (.iconst 1, 1) := by decide +kernel
theorem dJx4a65c_add_7a177_11 : decode cJx4a65c_add_7a177 11 = .ok (.iadd, 1) := by decide +kernel
theorem dJx4a65c_add_7a177_12 : decode cJx4a65c_add_7a177 12 = .ok (.putfield 63, 3) := by decide +kernel
theorem dJx4a65c_add_7a177_15 : decode cJx4a65c_add_7a177 15 = .ok (.aload_n 0, 1) := by decide +kernel
theorem dJx4a65c_add_7a177_16 : decode cJx4a65c_add_7a177 16 = .ok (.getfield 48, 3) := by decide +kernel
theorem dJx4a65c_add_7a177_19 : decode cJx4a65c_add_7a177 19 = .ok (.dup, 1) := by decide +kernel
theorem dJx4a65c_add_7a177_20 : decode cJx4a65c_add_7a177 20 = .ok (.istore_n 3, 1) := by decide +kernel
theorem dJx4a65c_add_7a177_21 : decode cJx4a65c_add_7a177 21 = .ok (.aload_n 0, 1) := by decide +kernel
theorem dJx4a65c_add_7a177_22 : decode cJx4a65c_add_7a177 22 = .ok (.getfield 9, 3) := by decide +kernel
theorem dJx4a65c_add_7a177_25 : decode cJx4a65c_add_7a177 25 = .ok (.dup, 1) := by decide +kernel
theorem dJx4a65c_add_7a177_26 : decode cJx4a65c_add_7a177 26 = .ok (.astore 4, 2) := by decide +kernel
theorem dJx4a65c_add_7a177_28 : decode cJx4a65c_add_7a177 28 = .ok (.arraylength, 1) := by decide +kernel
theorem dJx4a65c_add_7a177_29 : decode cJx4a65c_add_7a177 29 = .ok (.if_icmp .ne 9, 3) := by decide +kernel
theorem dJx4a65c_add_7a177_32 : decode cJx4a65c_add_7a177 32 = .ok (.aload_n 0, 1) := by decide +kernel
theorem dJx4a65c_add_7a177_33 : decode cJx4a65c_add_7a177 33 = .ok (.invokevirtual 129, 3) := by decide +kernel
theorem dJx4a65c_add_7a177_36 : decode cJx4a65c_add_7a177 36 = .ok (.astore 4, 2) := by decide +kernel
theorem dJx4a65c_add_7a177_38 : decode cJx4a65c_add_7a177 38 = .ok (.aload 4, 2) := by decide +kernel
theorem dJx4a65c_add_7a177_40 : decode cJx4a65c_add_7a177 40 = .ok (.iload_n 1, 1) := by decide +kernel
theorem dJx4a65c_add_7a177_41 : decode cJx4a65c_add_7a177 41 = .ok (.aload 4, 2) := by decide +kernel
theorem dJx4a65c_add_7a177_43 : decode cJx4a65c_add_7a177 43 = .ok (.iload_n 1, 1) := by decide +kernel
theorem dJx4a65c_add_7a177_44 : decode cJx4a65c_add_7a177 44 = .ok (.iconst 1, 1) := by decide +kernel
theorem dJx4a65c_add_7a177_45 : decode cJx4a65c_add_7a177 45 = .ok (.iadd, 1) := by decide +kernel
theorem dJx4a65c_add_7a177_46 : decode cJx4a65c_add_7a177 46 = .ok (.iload_n 3, 1) := by decide +kernel
theorem dJx4a65c_add_7a177_47 : decode cJx4a65c_add_7a177 47 = .ok (.iload_n 1, 1) := by decide +kernel
theorem dJx4a65c_add_7a177_48 : decode cJx4a65c_add_7a177 48 = .ok (.isub, 1) := by decide +kernel
theorem dJx4a65c_add_7a177_49 : decode cJx4a65c_add_7a177 49 = .ok (.invokestatic 112, 3) := by decide +kernel
theorem dJx4a65c_add_7a177_52 : decode cJx4a65c_add_7a177 52 = .ok (.aload 4, 2) := by decide +kernel
theorem dJx4a65c_add_7a177_54 : decode cJx4a65c_add_7a177 54 = .ok (.iload_n 1, 1) := by decide +kernel
theorem dJx4a65c_add_7a177_55 : decode cJx4a65c_add_7a177 55 = .ok (.aload_n 2, 1) := by decide +kernel
theorem dJx4a65c_add_7a177_56 : decode cJx4a65c_add_7a177 56 = .ok (.aastore, 1) := by decide +kernel
theorem dJx4a65c_add_7a177_57 : decode cJx4a65c_add_7a177 57 = .ok (.aload_n 0, 1) := by decide +kernel
theorem dJx4a65c_add_7a177_58 : decode cJx4a65c_add_7a177 58 = .ok (.iload_n 3, 1) := by decide +kernel
theorem dJx4a65c_add_7a177_59 : decode cJx4a65c_add_7a177 59 = .ok (.iconst 1, 1) := by decide +kernel
theorem dJx4a65c_add_7a177_60 : decode cJx4a65c_add_7a177 60 = .ok (.iadd, 1) := by decide +kernel
theorem dJx4a65c_add_7a177_61 : decode cJx4a65c_add_7a177 61 = .ok (.putfield 48, 3) := by decide +kernel
theorem dJx4a65c_add_7a177_64 : decode cJx4a65c_add_7a177 64 = .ok (.return_, 1) := by decide +kernel
theorem dJx4a65c_remove_915e3_0 : decode cJx4a65c_remove_915e3 0 = .ok (.iload_n 1, 1) := by decide +kernel
theorem dJx4a65c_remove_915e3_1 : decode cJx4a65c_remove_915e3 1 = .ok (.aload_n 0, 1) := by decide +kernel
theorem dJx4a65c_remove_915e3_2 : decode cJx4a65c_remove_915e3 2 = .ok (.getfield 48, 3) := by decide +kernel
theorem dJx4a65c_remove_915e3_5 : decode cJx4a65c_remove_915e3 5 = .ok (.invokestatic 118, 3) := by decide +kernel
theorem dJx4a65c_remove_915e3_8 : decode cJx4a65c_remove_915e3 8 = .ok (.pop, 1) := by decide +kernel
theorem dJx4a65c_remove_915e3_9 : decode cJx4a65c_remove_915e3 9 = .ok (.aload_n 0, 1) := by decide +kernel
theorem dJx4a65c_remove_915e3_10 : decode cJx4a65c_remove_915e3 10 = .ok (.getfield 9, 3) := by decide +kernel
theorem dJx4a65c_remove_915e3_13 : decode cJx4a65c_remove_915e3 13 = .ok (.astore_n 2, 1) := by decide +kernel
theorem dJx4a65c_remove_915e3_14 : decode cJx4a65c_remove_915e3 14 = .ok (.aload_n 2, 1) := by decide +kernel
theorem dJx4a65c_remove_915e3_15 : decode cJx4a65c_remove_915e3 15 = .ok (.iload_n 1, 1) := by decide +kernel
theorem dJx4a65c_remove_915e3_16 : decode cJx4a65c_remove_915e3 16 = .ok (.aaload, 1) := by decide +kernel
theorem dJx4a65c_remove_915e3_17 : decode cJx4a65c_remove_915e3 17 = .ok (.astore_n 3, 1) := by decide +kernel
theorem dJx4a65c_remove_915e3_18 : decode cJx4a65c_remove_915e3 18 = .ok (.aload_n 0, 1) := by decide +kernel
theorem dJx4a65c_remove_915e3_19 : decode cJx4a65c_remove_915e3 19 = .ok (.aload_n 2, 1) := by decide +kernel
theorem dJx4a65c_remove_915e3_20 : decode cJx4a65c_remove_915e3 20 = .ok (.iload_n 1, 1) := by decide +kernel
theorem dJx4a65c_remove_915e3_21 : decode cJx4a65c_remove_915e3 21 = .ok (.invokevirtual 144, 3) := by decide +kernel
theorem dJx4a65c_remove_915e3_24 : decode cJx4a65c_remove_915e3 24 = .ok (.aload_n 3, 1) := by decide +kernel
theorem dJx4a65c_remove_915e3_25 : decode cJx4a65c_remove_915e3 25 = .ok (.areturn, 1) := by decide +kernel
theorem dJx4a65c_fastRemove_b59b0_0 : decode cJx4a65c_fastRemove_b59b0 0 = .ok (.aload_n 0, 1) := by decide +kernel
theorem dJx4a65c_fastRemove_b59b0_1 : decode cJx4a65c_fastRemove_b59b0 1 = .ok (.dup, 1) := by decide +kernel
theorem dJx4a65c_fastRemove_b59b0_2 : decode cJx4a65c_fastRemove_b59b0 2 = .ok (.getfield 63, 3) := by decide +kernel
theorem dJx4a65c_fastRemove_b59b0_5 : decode cJx4a65c_fastRemove_b59b0 5 = .ok (.iconst 1, 1) := by decide +kernel
theorem dJx4a65c_fastRemove_b59b0_6 : decode cJx4a65c_fastRemove_b59b0 6 = .ok (.iadd, 1) := by decide +kernel
theorem dJx4a65c_fastRemove_b59b0_7 : decode cJx4a65c_fastRemove_b59b0 7 = .ok (.putfield 63, 3) := by decide +kernel
theorem dJx4a65c_fastRemove_b59b0_10 : decode cJx4a65c_fastRemove_b59b0 10 = .ok (.aload_n 0, 1) := by decide +kernel
theorem dJx4a65c_fastRemove_b59b0_11 : decode cJx4a65c_fastRemove_b59b0 11 = .ok (.getfield 48, 3) := by decide +kernel
theorem dJx4a65c_fastRemove_b59b0_14 : decode cJx4a65c_fastRemove_b59b0 14 = .ok (.iconst 1, 1) := by decide +kernel
theorem dJx4a65c_fastRemove_b59b0_15 : decode cJx4a65c_fastRemove_b59b0 15 = .ok (.isub, 1) := by decide +kernel
theorem dJx4a65c_fastRemove_b59b0_16 : decode cJx4a65c_fastRemove_b59b0 16 = .ok (.dup, 1) := by decide +kernel
theorem dJx4a65c_fastRemove_b59b0_17 : decode cJx4a65c_fastRemove_b59b0 17 = .ok (.istore_n 3, 1) := by decide +kernel
theorem dJx4a65c_fastRemove_b59b0_18 : decode cJx4a65c_fastRemove_b59b0 18 = .ok (.iload_n 2, 1) := by decide +kernel
theorem dJx4a65c_fastRemove_b59b0_19 : decode cJx4a65c_fastRemove_b59b0 19 = .ok (.if_icmp .le 15, 3) := by decide +kernel
theorem dJx4a65c_fastRemove_b59b0_22 : decode cJx4a65c_fastRemove_b59b0 22 = .ok (.aload_n 1, 1) := by decide +kernel
theorem dJx4a65c_fastRemove_b59b0_23 : decode cJx4a65c_fastRemove_b59b0 23 = .ok (.iload_n 2, 1) := by decide +kernel
theorem dJx4a65c_fastRemove_b59b0_24 : decode cJx4a65c_fastRemove_b59b0 24 = .ok (.iconst 1, 1) := by decide +kernel
theorem dJx4a65c_fastRemove_b59b0_25 : decode cJx4a65c_fastRemove_b59b0 25 = .ok (.iadd, 1) := by decide +kernel
theorem dJx4a65c_fastRemove_b59b0_26 : decode cJx4a65c_fastRemove_b59b0 26 = .ok (.aload_n 1, 1) := by decide +kernel
theorem dJx4a65c_fastRemove_b59b0_27 : decode cJx4a65c_fastRemove_b59b0 27 = .ok (.iload_n 2, 1) := by decide +kernel
theorem dJx4a65c_fastRemove_b59b0_28 : decode cJx4a65c_fastRemove_b59b0 28 = .ok (.iload_n 3, 1) := by decide +kernel
theorem dJx4a65c_fastRemove_b59b0_29 : decode cJx4a65c_fastRemove_b59b0 29 = .ok (.iload_n 2, 1) := by decide +kernel
theorem dJx4a65c_fastRemove_b59b0_30 : decode cJx4a65c_fastRemove_b59b0 30 = .ok (.isub, 1) := by decide +kernel
theorem dJx4a65c_fastRemove_b59b0_31 : decode cJx4a65c_fastRemove_b59b0 31 = .ok (.invokestatic 112, 3) := by decide +kernel
theorem dJx4a65c_fastRemove_b59b0_34 : decode cJx4a65c_fastRemove_b59b0 34 = .ok (.aload_n 1, 1) := by decide +kernel
theorem dJx4a65c_fastRemove_b59b0_35 : decode cJx4a65c_fastRemove_b59b0 35 = .ok (.aload_n 0, 1) := by decide +kernel
theorem dJx4a65c_fastRemove_b59b0_36 : decode cJx4a65c_fastRemove_b59b0 36 = .ok (.iload_n 3, 1) := by decide +kernel
theorem dJx4a65c_fastRemove_b59b0_37 : decode cJx4a65c_fastRemove_b59b0 37 = .ok (.dup_x1, 1) := by decide +kernel
theorem dJx4a65c_fastRemove_b59b0_38 : decode cJx4a65c_fastRemove_b59b0 38 = .ok (.putfield 48, 3) := by decide +kernel
theorem dJx4a65c_fastRemove_b59b0_41 : decode cJx4a65c_fastRemove_b59b0 41 = .ok (.aconst_null, 1) := by decide +kernel
theorem dJx4a65c_fastRemove_b59b0_42 : decode cJx4a65c_fastRemove_b59b0 42 = .ok (.aastore, 1) := by decide +kernel
theorem dJx4a65c_fastRemove_b59b0_43 : decode cJx4a65c_fastRemove_b59b0 43 = .ok (.return_, 1) := by decide +kernel
theorem dJx4a65c_rangeCheckForAdd_d00df_0 : decode cJx4a65c_rangeCheckForAdd_d00df 0 = .ok (.iload_n 1, 1) := by decide +kernel
theorem dJx4a65c_rangeCheckForAdd_d00df_1 : decode cJx4a65c_rangeCheckForAdd_d00df 1 = .ok (.aload_n 0, 1) := by decide +kernel
theorem dJx4a65c_rangeCheckForAdd_d00df_2 : decode cJx4a65c_rangeCheckForAdd_d00df 2 = .ok (.getfield 48, 3) := by decide +kernel
theorem dJx4a65c_rangeCheckForAdd_d00df_5 : decode cJx4a65c_rangeCheckForAdd_d00df 5 = .ok (.if_icmp .gt 7, 3) := by decide +kernel
theorem dJx4a65c_rangeCheckForAdd_d00df_8 : decode cJx4a65c_rangeCheckForAdd_d00df 8 = .ok (.iload_n 1, 1) := by decide +kernel
theorem dJx4a65c_rangeCheckForAdd_d00df_9 : decode cJx4a65c_rangeCheckForAdd_d00df 9 = .ok (.ifCond .ge 16, 3) := by decide +kernel
theorem dJx4a65c_rangeCheckForAdd_d00df_12 : decode cJx4a65c_rangeCheckForAdd_d00df 12 = .ok (.new 187, 3) := by decide +kernel
theorem dJx4a65c_rangeCheckForAdd_d00df_15 : decode cJx4a65c_rangeCheckForAdd_d00df 15 = .ok (.dup, 1) := by decide +kernel
theorem dJx4a65c_rangeCheckForAdd_d00df_16 : decode cJx4a65c_rangeCheckForAdd_d00df 16 = .ok (.aload_n 0, 1) := by decide +kernel
theorem dJx4a65c_rangeCheckForAdd_d00df_17 : decode cJx4a65c_rangeCheckForAdd_d00df 17 = .ok (.iload_n 1, 1) := by decide +kernel
theorem dJx4a65c_rangeCheckForAdd_d00df_18 : decode cJx4a65c_rangeCheckForAdd_d00df 18 = .ok (.invokevirtual 198, 3) := by decide +kernel
theorem dJx4a65c_rangeCheckForAdd_d00df_21 : decode cJx4a65c_rangeCheckForAdd_d00df 21 = .ok (.invokespecial 193, 3) := by decide +kernel
theorem dJx4a65c_rangeCheckForAdd_d00df_24 : decode cJx4a65c_rangeCheckForAdd_d00df 24 = .ok (.athrow, 1) := by decide +kernel
theorem dJx4a65c_rangeCheckForAdd_d00df_25 : decode cJx4a65c_rangeCheckForAdd_d00df 25 = .ok (.return_, 1) := by decide +kernel
theorem dJ7_copyOf_1904c_0 : decode cJ7_copyOf_1904c 0 = .ok (.aload_n 0, 1) := by decide +kernel
theorem dJ7_copyOf_1904c_1 : decode cJ7_copyOf_1904c 1 = .ok (.iload_n 1, 1) := by decide +kernel
theorem dJ7_copyOf_1904c_2 : decode cJ7_copyOf_1904c 2 = .ok (.aload_n 0, 1) := by decide +kernel
theorem dJ7_copyOf_1904c_3 : decode cJ7_copyOf_1904c 3 = .ok (.invokevirtual 86, 3) := by decide +kernel
theorem dJ7_copyOf_1904c_6 : decode cJ7_copyOf_1904c 6 = .ok (.invokestatic 300, 3) := by decide +kernel
theorem dJ7_copyOf_1904c_9 : decode cJ7_copyOf_1904c 9 = .ok (.areturn, 1) := by decide +kernel
theorem dJ7_copyOf_6403c_0 : decode cJ7_copyOf_6403c 0 = .ok (.aload_n 2, 1) := by decide +kernel
theorem dJ7_copyOf_6403c_1 : decode cJ7_copyOf_6403c 1 = .ok (.ldc 110, 2) := by decide +kernel
theorem dJ7_copyOf_6403c_3 : decode cJ7_copyOf_6403c 3 = .ok (.if_acmp .ne 10, 3) := by decide +kernel
theorem dJ7_copyOf_6403c_6 : decode cJ7_copyOf_6403c 6 = .ok (.iload_n 1, 1) := by decide +kernel
theorem dJ7_copyOf_6403c_7 : decode cJ7_copyOf_6403c 7 = .ok (.anewarray 2, 3) := by decide +kernel
theorem dJ7_copyOf_6403c_10 : decode cJ7_copyOf_6403c 10 = .ok (.goto 14, 3) := by decide +kernel
theorem dJ7_copyOf_6403c_13 : decode cJ7_copyOf_6403c 13 = .ok (.aload_n 2, 1) := by decide +kernel
theorem dJ7_copyOf_6403c_14 : decode cJ7_copyOf_6403c 14 = .ok (.invokevirtual 90, 3) := by decide +kernel
theorem dJ7_copyOf_6403c_17 : decode cJ7_copyOf_6403c 17 = .ok (.iload_n 1, 1) := by decide +kernel
theorem dJ7_copyOf_6403c_18 : decode cJ7_copyOf_6403c 18 = .ok (.invokestatic 95, 3) := by decide +kernel
theorem dJ7_copyOf_6403c_21 : decode cJ7_copyOf_6403c 21 = .ok (.checkcast 110, 3) := by decide +kernel
theorem dJ7_copyOf_6403c_24 : decode cJ7_copyOf_6403c 24 = .ok (.astore_n 3, 1) := by decide +kernel
theorem dJ7_copyOf_6403c_25 : decode cJ7_copyOf_6403c 25 = .ok (.aload_n 0, 1) := by decide +kernel
theorem dJ7_copyOf_6403c_26 : decode cJ7_copyOf_6403c 26 = .ok (.iconst 0, 1) := by decide +kernel
theorem dJ7_copyOf_6403c_27 : decode cJ7_copyOf_6403c 27 = .ok (.aload_n 3, 1) := by decide +kernel
theorem dJ7_copyOf_6403c_28 : decode cJ7_copyOf_6403c 28 = .ok (.iconst 0, 1) := by decide +kernel
theorem dJ7_copyOf_6403c_29 : decode cJ7_copyOf_6403c 29 = .ok (.aload_n 0, 1) := by decide +kernel
theorem dJ7_copyOf_6403c_30 : decode cJ7_copyOf_6403c 30 = .ok (.arraylength, 1) := by decide +kernel
theorem dJ7_copyOf_6403c_31 : decode cJ7_copyOf_6403c 31 = .ok (.iload_n 1, 1) := by decide +kernel
theorem dJ7_copyOf_6403c_32 : decode cJ7_copyOf_6403c 32 = .ok (.invokestatic 304, 3) := by decide +kernel
theorem dJ7_copyOf_6403c_35 : decode cJ7_copyOf_6403c 35 = .ok (.invokestatic 150, 3) := by decide +kernel
theorem dJ7_copyOf_6403c_38 : decode cJ7_copyOf_6403c 38 = .ok (.aload_n 3, 1) := by decide +kernel
theorem dJ7_copyOf_6403c_39 : decode cJ7_copyOf_6403c 39 = .ok (.areturn, 1) := by decide +kernel
theorem dJ15_checkIndex_7cf53_0 : decode cJ15_checkIndex_7cf53 0 = .ok (.iload_n 0, 1) := by decide +kernel
theorem dJ15_checkIndex_7cf53_1 : decode cJ15_checkIndex_7cf53 1 = .ok (.iload_n 1, 1) := by decide +kernel
theorem dJ15_checkIndex_7cf53_2 : decode cJ15_checkIndex_7cf53 2 = .ok (.aconst_null, 1) := by decide +kernel
theorem dJ15_checkIndex_7cf53_3 : decode cJ15_checkIndex_7cf53 3 = .ok (.invokestatic 105, 3) := by decide +kernel
theorem dJ15_checkIndex_7cf53_6 : decode cJ15_checkIndex_7cf53 6 = .ok (.ireturn, 1) := by decide +kernel
theorem dJ8_newLength_cabcc_0 : decode cJ8_newLength_cabcc 0 = .ok (.iload_n 0, 1) := by decide +kernel
theorem dJ8_newLength_cabcc_1 : decode cJ8_newLength_cabcc 1 = .ok (.iload_n 1, 1) := by decide +kernel
theorem dJ8_newLength_cabcc_2 : decode cJ8_newLength_cabcc 2 = .ok (.iload_n 2, 1) := by decide +kernel
theorem dJ8_newLength_cabcc_3 : decode cJ8_newLength_cabcc 3 = .ok (.invokestatic 194, 3) := by decide +kernel
theorem dJ8_newLength_cabcc_6 : decode cJ8_newLength_cabcc 6 = .ok (.iadd, 1) := by decide +kernel
theorem dJ8_newLength_cabcc_7 : decode cJ8_newLength_cabcc 7 = .ok (.istore_n 3, 1) := by decide +kernel
theorem dJ8_newLength_cabcc_8 : decode cJ8_newLength_cabcc 8 = .ok (.iconst 0, 1) := by decide +kernel
theorem dJ8_newLength_cabcc_9 : decode cJ8_newLength_cabcc 9 = .ok (.iload_n 3, 1) := by decide +kernel
theorem dJ8_newLength_cabcc_10 : decode cJ8_newLength_cabcc 10 = .ok (.if_icmp .ge 11, 3) := by decide +kernel
theorem dJ8_newLength_cabcc_13 : decode cJ8_newLength_cabcc 13 = .ok (.iload_n 3, 1) := by decide +kernel
theorem dJ8_newLength_cabcc_14 : decode cJ8_newLength_cabcc 14 = .ok (.ldc 200, 2) := by decide +kernel
theorem dJ8_newLength_cabcc_16 : decode cJ8_newLength_cabcc 16 = .ok (.if_icmp .gt 5, 3) := by decide +kernel
theorem dJ8_newLength_cabcc_19 : decode cJ8_newLength_cabcc 19 = .ok (.iload_n 3, 1) := by decide +kernel
theorem dJ8_newLength_cabcc_20 : decode cJ8_newLength_cabcc 20 = .ok (.ireturn, 1) := by decide +kernel
theorem dJ8_newLength_cabcc_21 : decode cJ8_newLength_cabcc 21 = .ok (.iload_n 0, 1) := by decide +kernel
theorem dJ8_newLength_cabcc_22 : decode cJ8_newLength_cabcc 22 = .ok (.iload_n 1, 1) := by decide +kernel
theorem dJ8_newLength_cabcc_23 : decode cJ8_newLength_cabcc 23 = .ok (.invokestatic 201, 3) := by decide +kernel
theorem dJ8_newLength_cabcc_26 : decode cJ8_newLength_cabcc 26 = .ok (.ireturn, 1) := by decide +kernel
theorem dJ3_checkIndex_8e157_0 : decode cJ3_checkIndex_8e157 0 = .ok (.iload_n 0, 1) := by decide +kernel
theorem dJ3_checkIndex_8e157_1 : decode cJ3_checkIndex_8e157 1 = .ok (.ifCond .lt 8, 3) := by decide +kernel
theorem dJ3_checkIndex_8e157_4 : decode cJ3_checkIndex_8e157 4 = .ok (.iload_n 0, 1) := by decide +kernel
theorem dJ3_checkIndex_8e157_5 : decode cJ3_checkIndex_8e157 5 = .ok (.iload_n 1, 1) := by decide +kernel
theorem dJ3_checkIndex_8e157_6 : decode cJ3_checkIndex_8e157 6 = .ok (.if_icmp .lt 10, 3) := by decide +kernel
theorem dJ3_checkIndex_8e157_9 : decode cJ3_checkIndex_8e157 9 = .ok (.aload_n 2, 1) := by decide +kernel
theorem dJ3_checkIndex_8e157_10 : decode cJ3_checkIndex_8e157 10 = .ok (.iload_n 0, 1) := by decide +kernel
theorem dJ3_checkIndex_8e157_11 : decode cJ3_checkIndex_8e157 11 = .ok (.iload_n 1, 1) := by decide +kernel
theorem dJ3_checkIndex_8e157_12 : decode cJ3_checkIndex_8e157 12 = .ok (.invokestatic 95, 3) := by decide +kernel
theorem dJ3_checkIndex_8e157_15 : decode cJ3_checkIndex_8e157 15 = .ok (.athrow, 1) := by decide +kernel
theorem dJ3_checkIndex_8e157_16 : decode cJ3_checkIndex_8e157 16 = .ok (.iload_n 0, 1) := by decide +kernel
theorem dJ3_checkIndex_8e157_17 : decode cJ3_checkIndex_8e157 17 = .ok (.ireturn, 1) := by decide +kernel
theorem dL_pass_0 : decode cL_pass 0 = .ok (.aload_n 2, 1) := by decide +kernel
theorem dL_pass_1 : decode cL_pass 1 = .ok (.iconst 0, 1) := by decide +kernel
theorem dL_pass_2 : decode cL_pass 2 = .ok (.aload_n 0, 1) := by decide +kernel
theorem dL_pass_3 : decode cL_pass 3 = .ok (.iload_n 1, 1) := by decide +kernel
theorem dL_pass_4 : decode cL_pass 4 = .ok (.invokevirtual 7, 3) := by decide +kernel
theorem dL_pass_7 : decode cL_pass 7 = .ok (.i2l, 1) := by decide +kernel
theorem dL_pass_8 : decode cL_pass 8 = .ok (.lastore, 1) := by decide +kernel
theorem dL_pass_9 : decode cL_pass 9 = .ok (.goto 9, 3) := by decide +kernel
theorem dL_pass_12 : decode cL_pass 12 = .ok (.astore_n 3, 1) := by decide +kernel
theorem dL_pass_13 : decode cL_pass 13 = .ok (.iconst 1, 1) := by decide +kernel
theorem dL_pass_14 : decode cL_pass 14 = .ok (.ireturn, 1) := by decide +kernel
theorem dL_pass_15 : decode cL_pass 15 = .ok (.astore_n 3, 1) := by decide +kernel
theorem dL_pass_16 : decode cL_pass 16 = .ok (.iconst 2, 1) := by decide +kernel
theorem dL_pass_17 : decode cL_pass 17 = .ok (.ireturn, 1) := by decide +kernel
theorem dL_pass_18 : decode cL_pass 18 = .ok (.iconst 0, 1) := by decide +kernel
theorem dL_pass_19 : decode cL_pass 19 = .ok (.ireturn, 1) := by decide +kernel
theorem dL_addAccount_0 : decode cL_addAccount 0 = .ok (.aload 4, 2) := by decide +kernel
theorem dL_addAccount_2 : decode cL_addAccount 2 = .ok (.iconst 0, 1) := by decide +kernel
theorem dL_addAccount_3 : decode cL_addAccount 3 = .ok (.aload_n 0, 1) := by decide +kernel
theorem dL_addAccount_4 : decode cL_addAccount 4 = .ok (.iload_n 1, 1) := by decide +kernel
theorem dL_addAccount_5 : decode cL_addAccount 5 = .ok (.iload_n 2, 1) := by decide +kernel
theorem dL_addAccount_6 : decode cL_addAccount 6 = .ok (.iload_n 3, 1) := by decide +kernel
theorem dL_addAccount_7 : decode cL_addAccount 7 = .ok (.invokevirtual 17, 3) := by decide +kernel
theorem dL_addAccount_10 : decode cL_addAccount 10 = .ok (.i2l, 1) := by decide +kernel
theorem dL_addAccount_11 : decode cL_addAccount 11 = .ok (.lastore, 1) := by decide +kernel
theorem dL_addAccount_12 : decode cL_addAccount 12 = .ok (.goto 15, 3) := by decide +kernel
theorem dL_addAccount_15 : decode cL_addAccount 15 = .ok (.astore 5, 2) := by decide +kernel
theorem dL_addAccount_17 : decode cL_addAccount 17 = .ok (.iconst 1, 1) := by decide +kernel
theorem dL_addAccount_18 : decode cL_addAccount 18 = .ok (.ireturn, 1) := by decide +kernel
theorem dL_addAccount_19 : decode cL_addAccount 19 = .ok (.astore 5, 2) := by decide +kernel
theorem dL_addAccount_21 : decode cL_addAccount 21 = .ok (.iconst 2, 1) := by decide +kernel
theorem dL_addAccount_22 : decode cL_addAccount 22 = .ok (.ireturn, 1) := by decide +kernel
theorem dL_addAccount_23 : decode cL_addAccount 23 = .ok (.astore 5, 2) := by decide +kernel
theorem dL_addAccount_25 : decode cL_addAccount 25 = .ok (.iconst 3, 1) := by decide +kernel
theorem dL_addAccount_26 : decode cL_addAccount 26 = .ok (.ireturn, 1) := by decide +kernel
theorem dL_addAccount_27 : decode cL_addAccount 27 = .ok (.iconst 0, 1) := by decide +kernel
theorem dL_addAccount_28 : decode cL_addAccount 28 = .ok (.ireturn, 1) := by decide +kernel
theorem dL_putRule_0 : decode cL_putRule 0 = .ok (.aload 6, 2) := by decide +kernel
theorem dL_putRule_2 : decode cL_putRule 2 = .ok (.iconst 0, 1) := by decide +kernel
theorem dL_putRule_3 : decode cL_putRule 3 = .ok (.aload_n 0, 1) := by decide +kernel
theorem dL_putRule_4 : decode cL_putRule 4 = .ok (.iload_n 1, 1) := by decide +kernel
theorem dL_putRule_5 : decode cL_putRule 5 = .ok (.iload_n 2, 1) := by decide +kernel
theorem dL_putRule_6 : decode cL_putRule 6 = .ok (.iload_n 3, 1) := by decide +kernel
theorem dL_putRule_7 : decode cL_putRule 7 = .ok (.iload 4, 2) := by decide +kernel
theorem dL_putRule_9 : decode cL_putRule 9 = .ok (.iload 5, 2) := by decide +kernel
theorem dL_putRule_11 : decode cL_putRule 11 = .ok (.invokevirtual 23, 3) := by decide +kernel
theorem dL_putRule_14 : decode cL_putRule 14 = .ok (.i2l, 1) := by decide +kernel
theorem dL_putRule_15 : decode cL_putRule 15 = .ok (.lastore, 1) := by decide +kernel
theorem dL_putRule_16 : decode cL_putRule 16 = .ok (.goto 15, 3) := by decide +kernel
theorem dL_putRule_19 : decode cL_putRule 19 = .ok (.astore 7, 2) := by decide +kernel
theorem dL_putRule_21 : decode cL_putRule 21 = .ok (.iconst 1, 1) := by decide +kernel
theorem dL_putRule_22 : decode cL_putRule 22 = .ok (.ireturn, 1) := by decide +kernel
theorem dL_putRule_23 : decode cL_putRule 23 = .ok (.astore 7, 2) := by decide +kernel
theorem dL_putRule_25 : decode cL_putRule 25 = .ok (.iconst 2, 1) := by decide +kernel
theorem dL_putRule_26 : decode cL_putRule 26 = .ok (.ireturn, 1) := by decide +kernel
theorem dL_putRule_27 : decode cL_putRule 27 = .ok (.astore 7, 2) := by decide +kernel
theorem dL_putRule_29 : decode cL_putRule 29 = .ok (.iconst 3, 1) := by decide +kernel
theorem dL_putRule_30 : decode cL_putRule 30 = .ok (.ireturn, 1) := by decide +kernel
theorem dL_putRule_31 : decode cL_putRule 31 = .ok (.iconst 0, 1) := by decide +kernel
theorem dL_putRule_32 : decode cL_putRule 32 = .ok (.ireturn, 1) := by decide +kernel
theorem dL_removeRule_0 : decode cL_removeRule 0 = .ok (.aload_n 2, 1) := by decide +kernel
theorem dL_removeRule_1 : decode cL_removeRule 1 = .ok (.iconst 0, 1) := by decide +kernel
theorem dL_removeRule_2 : decode cL_removeRule 2 = .ok (.aload_n 0, 1) := by decide +kernel
theorem dL_removeRule_3 : decode cL_removeRule 3 = .ok (.iload_n 1, 1) := by decide +kernel
theorem dL_removeRule_4 : decode cL_removeRule 4 = .ok (.invokevirtual 27, 3) := by decide +kernel
theorem dL_removeRule_7 : decode cL_removeRule 7 = .ok (.i2l, 1) := by decide +kernel
theorem dL_removeRule_8 : decode cL_removeRule 8 = .ok (.lastore, 1) := by decide +kernel
theorem dL_removeRule_9 : decode cL_removeRule 9 = .ok (.goto 6, 3) := by decide +kernel
theorem dL_removeRule_12 : decode cL_removeRule 12 = .ok (.astore_n 3, 1) := by decide +kernel
theorem dL_removeRule_13 : decode cL_removeRule 13 = .ok (.iconst 1, 1) := by decide +kernel
theorem dL_removeRule_14 : decode cL_removeRule 14 = .ok (.ireturn, 1) := by decide +kernel
theorem dL_removeRule_15 : decode cL_removeRule 15 = .ok (.iconst 0, 1) := by decide +kernel
theorem dL_removeRule_16 : decode cL_removeRule 16 = .ok (.ireturn, 1) := by decide +kernel
theorem dL_except_0 : decode cL_except 0 = .ok (.aload_n 3, 1) := by decide +kernel
theorem dL_except_1 : decode cL_except 1 = .ok (.iconst 0, 1) := by decide +kernel
theorem dL_except_2 : decode cL_except 2 = .ok (.aload_n 0, 1) := by decide +kernel
theorem dL_except_3 : decode cL_except 3 = .ok (.iload_n 1, 1) := by decide +kernel
theorem dL_except_4 : decode cL_except 4 = .ok (.iload_n 2, 1) := by decide +kernel
theorem dL_except_5 : decode cL_except 5 = .ok (.invokevirtual 30, 3) := by decide +kernel
theorem dL_except_8 : decode cL_except 8 = .ok (.i2l, 1) := by decide +kernel
theorem dL_except_9 : decode cL_except 9 = .ok (.lastore, 1) := by decide +kernel
theorem dL_except_10 : decode cL_except 10 = .ok (.goto 11, 3) := by decide +kernel
theorem dL_except_13 : decode cL_except 13 = .ok (.astore 4, 2) := by decide +kernel
theorem dL_except_15 : decode cL_except 15 = .ok (.iconst 1, 1) := by decide +kernel
theorem dL_except_16 : decode cL_except 16 = .ok (.ireturn, 1) := by decide +kernel
theorem dL_except_17 : decode cL_except 17 = .ok (.astore 4, 2) := by decide +kernel
theorem dL_except_19 : decode cL_except 19 = .ok (.iconst 2, 1) := by decide +kernel
theorem dL_except_20 : decode cL_except 20 = .ok (.ireturn, 1) := by decide +kernel
theorem dL_except_21 : decode cL_except 21 = .ok (.iconst 0, 1) := by decide +kernel
theorem dL_except_22 : decode cL_except 22 = .ok (.ireturn, 1) := by decide +kernel
theorem dL_regionOf_0 : decode cL_regionOf 0 = .ok (.aload_n 2, 1) := by decide +kernel
theorem dL_regionOf_1 : decode cL_regionOf 1 = .ok (.iconst 0, 1) := by decide +kernel
theorem dL_regionOf_2 : decode cL_regionOf 2 = .ok (.aload_n 0, 1) := by decide +kernel
theorem dL_regionOf_3 : decode cL_regionOf 3 = .ok (.iload_n 1, 1) := by decide +kernel
theorem dL_regionOf_4 : decode cL_regionOf 4 = .ok (.invokevirtual 34, 3) := by decide +kernel
theorem dL_regionOf_7 : decode cL_regionOf 7 = .ok (.i2l, 1) := by decide +kernel
theorem dL_regionOf_8 : decode cL_regionOf 8 = .ok (.lastore, 1) := by decide +kernel
theorem dL_regionOf_9 : decode cL_regionOf 9 = .ok (.goto 6, 3) := by decide +kernel
theorem dL_regionOf_12 : decode cL_regionOf 12 = .ok (.astore_n 3, 1) := by decide +kernel
theorem dL_regionOf_13 : decode cL_regionOf 13 = .ok (.iconst 1, 1) := by decide +kernel
theorem dL_regionOf_14 : decode cL_regionOf 14 = .ok (.ireturn, 1) := by decide +kernel
theorem dL_regionOf_15 : decode cL_regionOf 15 = .ok (.iconst 0, 1) := by decide +kernel
theorem dL_regionOf_16 : decode cL_regionOf 16 = .ok (.ireturn, 1) := by decide +kernel
theorem dL_addSeller_0 : decode cL_addSeller 0 = .ok (.aload_n 3, 1) := by decide +kernel
theorem dL_addSeller_1 : decode cL_addSeller 1 = .ok (.iconst 0, 1) := by decide +kernel
theorem dL_addSeller_2 : decode cL_addSeller 2 = .ok (.aload_n 0, 1) := by decide +kernel
theorem dL_addSeller_3 : decode cL_addSeller 3 = .ok (.iload_n 1, 1) := by decide +kernel
theorem dL_addSeller_4 : decode cL_addSeller 4 = .ok (.iload_n 2, 1) := by decide +kernel
theorem dL_addSeller_5 : decode cL_addSeller 5 = .ok (.invokevirtual 37, 3) := by decide +kernel
theorem dL_addSeller_8 : decode cL_addSeller 8 = .ok (.i2l, 1) := by decide +kernel
theorem dL_addSeller_9 : decode cL_addSeller 9 = .ok (.lastore, 1) := by decide +kernel
theorem dL_addSeller_10 : decode cL_addSeller 10 = .ok (.goto 15, 3) := by decide +kernel
theorem dL_addSeller_13 : decode cL_addSeller 13 = .ok (.astore 4, 2) := by decide +kernel
theorem dL_addSeller_15 : decode cL_addSeller 15 = .ok (.iconst 1, 1) := by decide +kernel
theorem dL_addSeller_16 : decode cL_addSeller 16 = .ok (.ireturn, 1) := by decide +kernel
theorem dL_addSeller_17 : decode cL_addSeller 17 = .ok (.astore 4, 2) := by decide +kernel
theorem dL_addSeller_19 : decode cL_addSeller 19 = .ok (.iconst 2, 1) := by decide +kernel
theorem dL_addSeller_20 : decode cL_addSeller 20 = .ok (.ireturn, 1) := by decide +kernel
theorem dL_addSeller_21 : decode cL_addSeller 21 = .ok (.astore 4, 2) := by decide +kernel
theorem dL_addSeller_23 : decode cL_addSeller 23 = .ok (.iconst 3, 1) := by decide +kernel
theorem dL_addSeller_24 : decode cL_addSeller 24 = .ok (.ireturn, 1) := by decide +kernel
theorem dL_addSeller_25 : decode cL_addSeller 25 = .ok (.iconst 0, 1) := by decide +kernel
theorem dL_addSeller_26 : decode cL_addSeller 26 = .ok (.ireturn, 1) := by decide +kernel
theorem dL_adjust_0 : decode cL_adjust 0 = .ok (.aload_n 3, 1) := by decide +kernel
theorem dL_adjust_1 : decode cL_adjust 1 = .ok (.iconst 0, 1) := by decide +kernel
theorem dL_adjust_2 : decode cL_adjust 2 = .ok (.aload_n 0, 1) := by decide +kernel
theorem dL_adjust_3 : decode cL_adjust 3 = .ok (.iload_n 1, 1) := by decide +kernel
theorem dL_adjust_4 : decode cL_adjust 4 = .ok (.iload_n 2, 1) := by decide +kernel
theorem dL_adjust_5 : decode cL_adjust 5 = .ok (.invokevirtual 40, 3) := by decide +kernel
theorem dL_adjust_8 : decode cL_adjust 8 = .ok (.i2l, 1) := by decide +kernel
theorem dL_adjust_9 : decode cL_adjust 9 = .ok (.lastore, 1) := by decide +kernel
theorem dL_adjust_10 : decode cL_adjust 10 = .ok (.goto 11, 3) := by decide +kernel
theorem dL_adjust_13 : decode cL_adjust 13 = .ok (.astore 4, 2) := by decide +kernel
theorem dL_adjust_15 : decode cL_adjust 15 = .ok (.iconst 1, 1) := by decide +kernel
theorem dL_adjust_16 : decode cL_adjust 16 = .ok (.ireturn, 1) := by decide +kernel
theorem dL_adjust_17 : decode cL_adjust 17 = .ok (.astore 4, 2) := by decide +kernel
theorem dL_adjust_19 : decode cL_adjust 19 = .ok (.iconst 2, 1) := by decide +kernel
theorem dL_adjust_20 : decode cL_adjust 20 = .ok (.ireturn, 1) := by decide +kernel
theorem dL_adjust_21 : decode cL_adjust 21 = .ok (.iconst 0, 1) := by decide +kernel
theorem dL_adjust_22 : decode cL_adjust 22 = .ok (.ireturn, 1) := by decide +kernel
theorem dL_addChance_0 : decode cL_addChance 0 = .ok (.aload 4, 2) := by decide +kernel
theorem dL_addChance_2 : decode cL_addChance 2 = .ok (.iconst 0, 1) := by decide +kernel
theorem dL_addChance_3 : decode cL_addChance 3 = .ok (.aload_n 0, 1) := by decide +kernel
theorem dL_addChance_4 : decode cL_addChance 4 = .ok (.iload_n 1, 1) := by decide +kernel
theorem dL_addChance_5 : decode cL_addChance 5 = .ok (.iload_n 2, 1) := by decide +kernel
theorem dL_addChance_6 : decode cL_addChance 6 = .ok (.iload_n 3, 1) := by decide +kernel
theorem dL_addChance_7 : decode cL_addChance 7 = .ok (.invokevirtual 43, 3) := by decide +kernel
theorem dL_addChance_10 : decode cL_addChance 10 = .ok (.i2l, 1) := by decide +kernel
theorem dL_addChance_11 : decode cL_addChance 11 = .ok (.lastore, 1) := by decide +kernel
theorem dL_addChance_12 : decode cL_addChance 12 = .ok (.goto 15, 3) := by decide +kernel
theorem dL_addChance_15 : decode cL_addChance 15 = .ok (.astore 5, 2) := by decide +kernel
theorem dL_addChance_17 : decode cL_addChance 17 = .ok (.iconst 1, 1) := by decide +kernel
theorem dL_addChance_18 : decode cL_addChance 18 = .ok (.ireturn, 1) := by decide +kernel
theorem dL_addChance_19 : decode cL_addChance 19 = .ok (.astore 5, 2) := by decide +kernel
theorem dL_addChance_21 : decode cL_addChance 21 = .ok (.iconst 2, 1) := by decide +kernel
theorem dL_addChance_22 : decode cL_addChance 22 = .ok (.ireturn, 1) := by decide +kernel
theorem dL_addChance_23 : decode cL_addChance 23 = .ok (.astore 5, 2) := by decide +kernel
theorem dL_addChance_25 : decode cL_addChance 25 = .ok (.iconst 3, 1) := by decide +kernel
theorem dL_addChance_26 : decode cL_addChance 26 = .ok (.ireturn, 1) := by decide +kernel
theorem dL_addChance_27 : decode cL_addChance 27 = .ok (.iconst 0, 1) := by decide +kernel
theorem dL_addChance_28 : decode cL_addChance 28 = .ok (.ireturn, 1) := by decide +kernel
theorem dL_giveShare_0 : decode cL_giveShare 0 = .ok (.aload 5, 2) := by decide +kernel
theorem dL_giveShare_2 : decode cL_giveShare 2 = .ok (.iconst 0, 1) := by decide +kernel
theorem dL_giveShare_3 : decode cL_giveShare 3 = .ok (.aload_n 0, 1) := by decide +kernel
theorem dL_giveShare_4 : decode cL_giveShare 4 = .ok (.iload_n 1, 1) := by decide +kernel
theorem dL_giveShare_5 : decode cL_giveShare 5 = .ok (.iload_n 2, 1) := by decide +kernel
theorem dL_giveShare_6 : decode cL_giveShare 6 = .ok (.iload_n 3, 1) := by decide +kernel
theorem dL_giveShare_7 : decode cL_giveShare 7 = .ok (.iload 4, 2) := by decide +kernel
theorem dL_giveShare_9 : decode cL_giveShare 9 = .ok (.invokevirtual 46, 3) := by decide +kernel
theorem dL_giveShare_12 : decode cL_giveShare 12 = .ok (.i2l, 1) := by decide +kernel
theorem dL_giveShare_13 : decode cL_giveShare 13 = .ok (.lastore, 1) := by decide +kernel
theorem dL_giveShare_14 : decode cL_giveShare 14 = .ok (.goto 15, 3) := by decide +kernel
theorem dL_giveShare_17 : decode cL_giveShare 17 = .ok (.astore 6, 2) := by decide +kernel
theorem dL_giveShare_19 : decode cL_giveShare 19 = .ok (.iconst 1, 1) := by decide +kernel
theorem dL_giveShare_20 : decode cL_giveShare 20 = .ok (.ireturn, 1) := by decide +kernel
theorem dL_giveShare_21 : decode cL_giveShare 21 = .ok (.astore 6, 2) := by decide +kernel
theorem dL_giveShare_23 : decode cL_giveShare 23 = .ok (.iconst 2, 1) := by decide +kernel
theorem dL_giveShare_24 : decode cL_giveShare 24 = .ok (.ireturn, 1) := by decide +kernel
theorem dL_giveShare_25 : decode cL_giveShare 25 = .ok (.astore 6, 2) := by decide +kernel
theorem dL_giveShare_27 : decode cL_giveShare 27 = .ok (.iconst 3, 1) := by decide +kernel
theorem dL_giveShare_28 : decode cL_giveShare 28 = .ok (.ireturn, 1) := by decide +kernel
theorem dL_giveShare_29 : decode cL_giveShare 29 = .ok (.iconst 0, 1) := by decide +kernel
theorem dL_giveShare_30 : decode cL_giveShare 30 = .ok (.ireturn, 1) := by decide +kernel
theorem dL_move_0 : decode cL_move 0 = .ok (.aload_n 3, 1) := by decide +kernel
theorem dL_move_1 : decode cL_move 1 = .ok (.iconst 0, 1) := by decide +kernel
theorem dL_move_2 : decode cL_move 2 = .ok (.aload_n 0, 1) := by decide +kernel
theorem dL_move_3 : decode cL_move 3 = .ok (.iload_n 1, 1) := by decide +kernel
theorem dL_move_4 : decode cL_move 4 = .ok (.iload_n 2, 1) := by decide +kernel
theorem dL_move_5 : decode cL_move 5 = .ok (.invokevirtual 50, 3) := by decide +kernel
theorem dL_move_8 : decode cL_move 8 = .ok (.i2l, 1) := by decide +kernel
theorem dL_move_9 : decode cL_move 9 = .ok (.lastore, 1) := by decide +kernel
theorem dL_move_10 : decode cL_move 10 = .ok (.goto 15, 3) := by decide +kernel
theorem dL_move_13 : decode cL_move 13 = .ok (.astore 4, 2) := by decide +kernel
theorem dL_move_15 : decode cL_move 15 = .ok (.iconst 1, 1) := by decide +kernel
theorem dL_move_16 : decode cL_move 16 = .ok (.ireturn, 1) := by decide +kernel
theorem dL_move_17 : decode cL_move 17 = .ok (.astore 4, 2) := by decide +kernel
theorem dL_move_19 : decode cL_move 19 = .ok (.iconst 2, 1) := by decide +kernel
theorem dL_move_20 : decode cL_move 20 = .ok (.ireturn, 1) := by decide +kernel
theorem dL_move_21 : decode cL_move 21 = .ok (.astore 4, 2) := by decide +kernel
theorem dL_move_23 : decode cL_move 23 = .ok (.iconst 3, 1) := by decide +kernel
theorem dL_move_24 : decode cL_move 24 = .ok (.ireturn, 1) := by decide +kernel
theorem dL_move_25 : decode cL_move 25 = .ok (.iconst 0, 1) := by decide +kernel
theorem dL_move_26 : decode cL_move 26 = .ok (.ireturn, 1) := by decide +kernel
theorem dL_stage_0 : decode cL_stage 0 = .ok (.aload_n 2, 1) := by decide +kernel
theorem dL_stage_1 : decode cL_stage 1 = .ok (.iconst 0, 1) := by decide +kernel
theorem dL_stage_2 : decode cL_stage 2 = .ok (.aload_n 0, 1) := by decide +kernel
theorem dL_stage_3 : decode cL_stage 3 = .ok (.iload_n 1, 1) := by decide +kernel
theorem dL_stage_4 : decode cL_stage 4 = .ok (.invokevirtual 53, 3) := by decide +kernel
theorem dL_stage_7 : decode cL_stage 7 = .ok (.i2l, 1) := by decide +kernel
theorem dL_stage_8 : decode cL_stage 8 = .ok (.lastore, 1) := by decide +kernel
theorem dL_stage_9 : decode cL_stage 9 = .ok (.goto 6, 3) := by decide +kernel
theorem dL_stage_12 : decode cL_stage 12 = .ok (.astore_n 3, 1) := by decide +kernel
theorem dL_stage_13 : decode cL_stage 13 = .ok (.iconst 1, 1) := by decide +kernel
theorem dL_stage_14 : decode cL_stage 14 = .ok (.ireturn, 1) := by decide +kernel
theorem dL_stage_15 : decode cL_stage 15 = .ok (.iconst 0, 1) := by decide +kernel
theorem dL_stage_16 : decode cL_stage 16 = .ok (.ireturn, 1) := by decide +kernel
theorem dL_daysIn_0 : decode cL_daysIn 0 = .ok (.aload_n 3, 1) := by decide +kernel
theorem dL_daysIn_1 : decode cL_daysIn 1 = .ok (.iconst 0, 1) := by decide +kernel
theorem dL_daysIn_2 : decode cL_daysIn 2 = .ok (.aload_n 0, 1) := by decide +kernel
theorem dL_daysIn_3 : decode cL_daysIn 3 = .ok (.iload_n 1, 1) := by decide +kernel
theorem dL_daysIn_4 : decode cL_daysIn 4 = .ok (.iload_n 2, 1) := by decide +kernel
theorem dL_daysIn_5 : decode cL_daysIn 5 = .ok (.invokevirtual 56, 3) := by decide +kernel
theorem dL_daysIn_8 : decode cL_daysIn 8 = .ok (.i2l, 1) := by decide +kernel
theorem dL_daysIn_9 : decode cL_daysIn 9 = .ok (.lastore, 1) := by decide +kernel
theorem dL_daysIn_10 : decode cL_daysIn 10 = .ok (.goto 11, 3) := by decide +kernel
theorem dL_daysIn_13 : decode cL_daysIn 13 = .ok (.astore 4, 2) := by decide +kernel
theorem dL_daysIn_15 : decode cL_daysIn 15 = .ok (.iconst 1, 1) := by decide +kernel
theorem dL_daysIn_16 : decode cL_daysIn 16 = .ok (.ireturn, 1) := by decide +kernel
theorem dL_daysIn_17 : decode cL_daysIn 17 = .ok (.astore 4, 2) := by decide +kernel
theorem dL_daysIn_19 : decode cL_daysIn 19 = .ok (.iconst 2, 1) := by decide +kernel
theorem dL_daysIn_20 : decode cL_daysIn 20 = .ok (.ireturn, 1) := by decide +kernel
theorem dL_daysIn_21 : decode cL_daysIn 21 = .ok (.iconst 0, 1) := by decide +kernel
theorem dL_daysIn_22 : decode cL_daysIn 22 = .ok (.ireturn, 1) := by decide +kernel
theorem dL_stalled_0 : decode cL_stalled 0 = .ok (.aload_n 2, 1) := by decide +kernel
theorem dL_stalled_1 : decode cL_stalled 1 = .ok (.iconst 0, 1) := by decide +kernel
theorem dL_stalled_2 : decode cL_stalled 2 = .ok (.aload_n 0, 1) := by decide +kernel
theorem dL_stalled_3 : decode cL_stalled 3 = .ok (.iload_n 1, 1) := by decide +kernel
theorem dL_stalled_4 : decode cL_stalled 4 = .ok (.invokevirtual 59, 3) := by decide +kernel
theorem dL_stalled_7 : decode cL_stalled 7 = .ok (.i2l, 1) := by decide +kernel
theorem dL_stalled_8 : decode cL_stalled 8 = .ok (.lastore, 1) := by decide +kernel
theorem dL_stalled_9 : decode cL_stalled 9 = .ok (.goto 6, 3) := by decide +kernel
theorem dL_stalled_12 : decode cL_stalled 12 = .ok (.astore_n 3, 1) := by decide +kernel
theorem dL_stalled_13 : decode cL_stalled 13 = .ok (.iconst 1, 1) := by decide +kernel
theorem dL_stalled_14 : decode cL_stalled 14 = .ok (.ireturn, 1) := by decide +kernel
theorem dL_stalled_15 : decode cL_stalled 15 = .ok (.iconst 0, 1) := by decide +kernel
theorem dL_stalled_16 : decode cL_stalled 16 = .ok (.ireturn, 1) := by decide +kernel
theorem dL_worth_0 : decode cL_worth 0 = .ok (.aload_n 2, 1) := by decide +kernel
theorem dL_worth_1 : decode cL_worth 1 = .ok (.iconst 0, 1) := by decide +kernel
theorem dL_worth_2 : decode cL_worth 2 = .ok (.aload_n 0, 1) := by decide +kernel
theorem dL_worth_3 : decode cL_worth 3 = .ok (.iload_n 1, 1) := by decide +kernel
theorem dL_worth_4 : decode cL_worth 4 = .ok (.invokevirtual 62, 3) := by decide +kernel
theorem dL_worth_7 : decode cL_worth 7 = .ok (.i2l, 1) := by decide +kernel
theorem dL_worth_8 : decode cL_worth 8 = .ok (.lastore, 1) := by decide +kernel
theorem dL_worth_9 : decode cL_worth 9 = .ok (.goto 6, 3) := by decide +kernel
theorem dL_worth_12 : decode cL_worth 12 = .ok (.astore_n 3, 1) := by decide +kernel
theorem dL_worth_13 : decode cL_worth 13 = .ok (.iconst 1, 1) := by decide +kernel
theorem dL_worth_14 : decode cL_worth 14 = .ok (.ireturn, 1) := by decide +kernel
theorem dL_worth_15 : decode cL_worth 15 = .ok (.iconst 0, 1) := by decide +kernel
theorem dL_worth_16 : decode cL_worth 16 = .ok (.ireturn, 1) := by decide +kernel
theorem dL_inRegion_0 : decode cL_inRegion 0 = .ok (.aload_n 3, 1) := by decide +kernel
theorem dL_inRegion_1 : decode cL_inRegion 1 = .ok (.iconst 0, 1) := by decide +kernel
theorem dL_inRegion_2 : decode cL_inRegion 2 = .ok (.aload_n 0, 1) := by decide +kernel
theorem dL_inRegion_3 : decode cL_inRegion 3 = .ok (.iload_n 1, 1) := by decide +kernel
theorem dL_inRegion_4 : decode cL_inRegion 4 = .ok (.iload_n 2, 1) := by decide +kernel
theorem dL_inRegion_5 : decode cL_inRegion 5 = .ok (.invokevirtual 65, 3) := by decide +kernel
theorem dL_inRegion_8 : decode cL_inRegion 8 = .ok (.i2l, 1) := by decide +kernel
theorem dL_inRegion_9 : decode cL_inRegion 9 = .ok (.lastore, 1) := by decide +kernel
theorem dL_inRegion_10 : decode cL_inRegion 10 = .ok (.goto 7, 3) := by decide +kernel
theorem dL_inRegion_13 : decode cL_inRegion 13 = .ok (.astore 4, 2) := by decide +kernel
theorem dL_inRegion_15 : decode cL_inRegion 15 = .ok (.iconst 1, 1) := by decide +kernel
theorem dL_inRegion_16 : decode cL_inRegion 16 = .ok (.ireturn, 1) := by decide +kernel
theorem dL_inRegion_17 : decode cL_inRegion 17 = .ok (.iconst 0, 1) := by decide +kernel
theorem dL_inRegion_18 : decode cL_inRegion 18 = .ok (.ireturn, 1) := by decide +kernel
theorem dL_won_0 : decode cL_won 0 = .ok (.aload_n 2, 1) := by decide +kernel
theorem dL_won_1 : decode cL_won 1 = .ok (.iconst 0, 1) := by decide +kernel
theorem dL_won_2 : decode cL_won 2 = .ok (.aload_n 0, 1) := by decide +kernel
theorem dL_won_3 : decode cL_won 3 = .ok (.iload_n 1, 1) := by decide +kernel
theorem dL_won_4 : decode cL_won 4 = .ok (.invokevirtual 68, 3) := by decide +kernel
theorem dL_won_7 : decode cL_won 7 = .ok (.i2l, 1) := by decide +kernel
theorem dL_won_8 : decode cL_won 8 = .ok (.lastore, 1) := by decide +kernel
theorem dL_won_9 : decode cL_won 9 = .ok (.goto 6, 3) := by decide +kernel
theorem dL_won_12 : decode cL_won 12 = .ok (.astore_n 3, 1) := by decide +kernel
theorem dL_won_13 : decode cL_won 13 = .ok (.iconst 1, 1) := by decide +kernel
theorem dL_won_14 : decode cL_won 14 = .ok (.ireturn, 1) := by decide +kernel
theorem dL_won_15 : decode cL_won 15 = .ok (.iconst 0, 1) := by decide +kernel
theorem dL_won_16 : decode cL_won 16 = .ok (.ireturn, 1) := by decide +kernel
theorem dL_quote_0 : decode cL_quote 0 = .ok (.aload 4, 2) := by decide +kernel
theorem dL_quote_2 : decode cL_quote 2 = .ok (.iconst 0, 1) := by decide +kernel
theorem dL_quote_3 : decode cL_quote 3 = .ok (.aload_n 0, 1) := by decide +kernel
theorem dL_quote_4 : decode cL_quote 4 = .ok (.iload_n 1, 1) := by decide +kernel
theorem dL_quote_5 : decode cL_quote 5 = .ok (.iload_n 2, 1) := by decide +kernel
theorem dL_quote_6 : decode cL_quote 6 = .ok (.iload_n 3, 1) := by decide +kernel
theorem dL_quote_7 : decode cL_quote 7 = .ok (.invokevirtual 71, 3) := by decide +kernel
theorem dL_quote_10 : decode cL_quote 10 = .ok (.i2l, 1) := by decide +kernel
theorem dL_quote_11 : decode cL_quote 11 = .ok (.lastore, 1) := by decide +kernel
theorem dL_quote_12 : decode cL_quote 12 = .ok (.goto 15, 3) := by decide +kernel
theorem dL_quote_15 : decode cL_quote 15 = .ok (.astore 5, 2) := by decide +kernel
theorem dL_quote_17 : decode cL_quote 17 = .ok (.iconst 1, 1) := by decide +kernel
theorem dL_quote_18 : decode cL_quote 18 = .ok (.ireturn, 1) := by decide +kernel
theorem dL_quote_19 : decode cL_quote 19 = .ok (.astore 5, 2) := by decide +kernel
theorem dL_quote_21 : decode cL_quote 21 = .ok (.iconst 2, 1) := by decide +kernel
theorem dL_quote_22 : decode cL_quote 22 = .ok (.ireturn, 1) := by decide +kernel
theorem dL_quote_23 : decode cL_quote 23 = .ok (.astore 5, 2) := by decide +kernel
theorem dL_quote_25 : decode cL_quote 25 = .ok (.iconst 3, 1) := by decide +kernel
theorem dL_quote_26 : decode cL_quote 26 = .ok (.ireturn, 1) := by decide +kernel
theorem dL_quote_27 : decode cL_quote 27 = .ok (.iconst 0, 1) := by decide +kernel
theorem dL_quote_28 : decode cL_quote 28 = .ok (.ireturn, 1) := by decide +kernel
theorem dL_approve_0 : decode cL_approve 0 = .ok (.aload_n 0, 1) := by decide +kernel
theorem dL_approve_1 : decode cL_approve 1 = .ok (.iload_n 1, 1) := by decide +kernel
theorem dL_approve_2 : decode cL_approve 2 = .ok (.iload_n 2, 1) := by decide +kernel
theorem dL_approve_3 : decode cL_approve 3 = .ok (.invokevirtual 74, 3) := by decide +kernel
theorem dL_approve_6 : decode cL_approve 6 = .ok (.goto 9, 3) := by decide +kernel
theorem dL_approve_9 : decode cL_approve 9 = .ok (.astore_n 3, 1) := by decide +kernel
theorem dL_approve_10 : decode cL_approve 10 = .ok (.iconst 1, 1) := by decide +kernel
theorem dL_approve_11 : decode cL_approve 11 = .ok (.ireturn, 1) := by decide +kernel
theorem dL_approve_12 : decode cL_approve 12 = .ok (.astore_n 3, 1) := by decide +kernel
theorem dL_approve_13 : decode cL_approve 13 = .ok (.iconst 2, 1) := by decide +kernel
theorem dL_approve_14 : decode cL_approve 14 = .ok (.ireturn, 1) := by decide +kernel
theorem dL_approve_15 : decode cL_approve 15 = .ok (.iconst 0, 1) := by decide +kernel
theorem dL_approve_16 : decode cL_approve 16 = .ok (.ireturn, 1) := by decide +kernel
theorem dL_counting_0 : decode cL_counting 0 = .ok (.aload_n 2, 1) := by decide +kernel
theorem dL_counting_1 : decode cL_counting 1 = .ok (.iconst 0, 1) := by decide +kernel
theorem dL_counting_2 : decode cL_counting 2 = .ok (.aload_n 0, 1) := by decide +kernel
theorem dL_counting_3 : decode cL_counting 3 = .ok (.iload_n 1, 1) := by decide +kernel
theorem dL_counting_4 : decode cL_counting 4 = .ok (.invokevirtual 78, 3) := by decide +kernel
theorem dL_counting_7 : decode cL_counting 7 = .ok (.i2l, 1) := by decide +kernel
theorem dL_counting_8 : decode cL_counting 8 = .ok (.lastore, 1) := by decide +kernel
theorem dL_counting_9 : decode cL_counting 9 = .ok (.goto 9, 3) := by decide +kernel
theorem dL_counting_12 : decode cL_counting 12 = .ok (.astore_n 3, 1) := by decide +kernel
theorem dL_counting_13 : decode cL_counting 13 = .ok (.iconst 1, 1) := by decide +kernel
theorem dL_counting_14 : decode cL_counting 14 = .ok (.ireturn, 1) := by decide +kernel
theorem dL_counting_15 : decode cL_counting 15 = .ok (.astore_n 3, 1) := by decide +kernel
theorem dL_counting_16 : decode cL_counting 16 = .ok (.iconst 2, 1) := by decide +kernel
theorem dL_counting_17 : decode cL_counting 17 = .ok (.ireturn, 1) := by decide +kernel
theorem dL_counting_18 : decode cL_counting 18 = .ok (.iconst 0, 1) := by decide +kernel
theorem dL_counting_19 : decode cL_counting 19 = .ok (.ireturn, 1) := by decide +kernel
theorem dL_forecast_0 : decode cL_forecast 0 = .ok (.aload_n 2, 1) := by decide +kernel
theorem dL_forecast_1 : decode cL_forecast 1 = .ok (.iconst 0, 1) := by decide +kernel
theorem dL_forecast_2 : decode cL_forecast 2 = .ok (.aload_n 0, 1) := by decide +kernel
theorem dL_forecast_3 : decode cL_forecast 3 = .ok (.iload_n 1, 1) := by decide +kernel
theorem dL_forecast_4 : decode cL_forecast 4 = .ok (.invokevirtual 83, 3) := by decide +kernel
theorem dL_forecast_7 : decode cL_forecast 7 = .ok (.i2l, 1) := by decide +kernel
theorem dL_forecast_8 : decode cL_forecast 8 = .ok (.lastore, 1) := by decide +kernel
theorem dL_forecast_9 : decode cL_forecast 9 = .ok (.goto 6, 3) := by decide +kernel
theorem dL_forecast_12 : decode cL_forecast 12 = .ok (.astore_n 3, 1) := by decide +kernel
theorem dL_forecast_13 : decode cL_forecast 13 = .ok (.iconst 1, 1) := by decide +kernel
theorem dL_forecast_14 : decode cL_forecast 14 = .ok (.ireturn, 1) := by decide +kernel
theorem dL_forecast_15 : decode cL_forecast 15 = .ok (.iconst 0, 1) := by decide +kernel
theorem dL_forecast_16 : decode cL_forecast 16 = .ok (.ireturn, 1) := by decide +kernel
theorem dL_own_0 : decode cL_own 0 = .ok (.aload_n 2, 1) := by decide +kernel
theorem dL_own_1 : decode cL_own 1 = .ok (.iconst 0, 1) := by decide +kernel
theorem dL_own_2 : decode cL_own 2 = .ok (.aload_n 0, 1) := by decide +kernel
theorem dL_own_3 : decode cL_own 3 = .ok (.iload_n 1, 1) := by decide +kernel
theorem dL_own_4 : decode cL_own 4 = .ok (.invokevirtual 86, 3) := by decide +kernel
theorem dL_own_7 : decode cL_own 7 = .ok (.i2l, 1) := by decide +kernel
theorem dL_own_8 : decode cL_own 8 = .ok (.lastore, 1) := by decide +kernel
theorem dL_own_9 : decode cL_own 9 = .ok (.goto 6, 3) := by decide +kernel
theorem dL_own_12 : decode cL_own 12 = .ok (.astore_n 3, 1) := by decide +kernel
theorem dL_own_13 : decode cL_own 13 = .ok (.iconst 1, 1) := by decide +kernel
theorem dL_own_14 : decode cL_own 14 = .ok (.ireturn, 1) := by decide +kernel
theorem dL_own_15 : decode cL_own 15 = .ok (.iconst 0, 1) := by decide +kernel
theorem dL_own_16 : decode cL_own 16 = .ok (.ireturn, 1) := by decide +kernel
theorem dL_freeze_0 : decode cL_freeze 0 = .ok (.aload_n 1, 1) := by decide +kernel
theorem dL_freeze_1 : decode cL_freeze 1 = .ok (.iconst 0, 1) := by decide +kernel
theorem dL_freeze_2 : decode cL_freeze 2 = .ok (.aload_n 0, 1) := by decide +kernel
theorem dL_freeze_3 : decode cL_freeze 3 = .ok (.invokevirtual 89, 3) := by decide +kernel
theorem dL_freeze_6 : decode cL_freeze 6 = .ok (.i2l, 1) := by decide +kernel
theorem dL_freeze_7 : decode cL_freeze 7 = .ok (.lastore, 1) := by decide +kernel
theorem dL_freeze_8 : decode cL_freeze 8 = .ok (.goto 6, 3) := by decide +kernel
theorem dL_freeze_11 : decode cL_freeze 11 = .ok (.astore_n 2, 1) := by decide +kernel
theorem dL_freeze_12 : decode cL_freeze 12 = .ok (.iconst 1, 1) := by decide +kernel
theorem dL_freeze_13 : decode cL_freeze 13 = .ok (.ireturn, 1) := by decide +kernel
theorem dL_freeze_14 : decode cL_freeze 14 = .ok (.iconst 0, 1) := by decide +kernel
theorem dL_freeze_15 : decode cL_freeze 15 = .ok (.ireturn, 1) := by decide +kernel
theorem dL_since_0 : decode cL_since 0 = .ok (.aload_n 3, 1) := by decide +kernel
theorem dL_since_1 : decode cL_since 1 = .ok (.iconst 0, 1) := by decide +kernel
theorem dL_since_2 : decode cL_since 2 = .ok (.aload_n 0, 1) := by decide +kernel
theorem dL_since_3 : decode cL_since 3 = .ok (.iload_n 1, 1) := by decide +kernel
theorem dL_since_4 : decode cL_since 4 = .ok (.iload_n 2, 1) := by decide +kernel
theorem dL_since_5 : decode cL_since 5 = .ok (.invokevirtual 93, 3) := by decide +kernel
theorem dL_since_8 : decode cL_since 8 = .ok (.i2l, 1) := by decide +kernel
theorem dL_since_9 : decode cL_since 9 = .ok (.lastore, 1) := by decide +kernel
theorem dL_since_10 : decode cL_since 10 = .ok (.goto 7, 3) := by decide +kernel
theorem dL_since_13 : decode cL_since 13 = .ok (.astore 4, 2) := by decide +kernel
theorem dL_since_15 : decode cL_since 15 = .ok (.iconst 1, 1) := by decide +kernel
theorem dL_since_16 : decode cL_since 16 = .ok (.ireturn, 1) := by decide +kernel
theorem dL_since_17 : decode cL_since 17 = .ok (.iconst 0, 1) := by decide +kernel
theorem dL_since_18 : decode cL_since 18 = .ok (.ireturn, 1) := by decide +kernel
