theorem zpr {fs : List zV} (h : fs.all (fun v => v.isLeft) = true) : ∀ v ∈ fs, ∃ u : Value, v = .inl u := fun v hv => by
  have h1 := List.all_eq_true.mp h v hv
  cases v with
  | inl u => exact ⟨u, rfl⟩
  | inr q => cases h1
/-! facts of the classes: fields by their links, new objects, methods, throws -/
theorem f_RX6_10 : zFl RX6 10 9 0 := ⟨_, "SalesDesk", TX6, 7, rfl, by decide, fl_RX6_10, wn_X6, Or.inl rfl⟩
theorem fp_RX6_10 : zFp RX6 10 9 0 (.object "java/util/ArrayList") true := ⟨_, "SalesDesk", TX6, 7, tyX6, rfl, by decide, fl_RX6_10, wn_X6, Or.inl rfl, tyX6_ok, nmX6, rfl, tyX6_ok 0 (by decide), (fun _ => rfl)⟩
theorem f_RX6_16 : zFl RX6 16 9 1 := ⟨_, "SalesDesk", TX6, 7, rfl, by decide, fl_RX6_16, wn_X6, Or.inl rfl⟩
theorem fp_RX6_16 : zFp RX6 16 9 1 (.object "java/util/ArrayList") true := ⟨_, "SalesDesk", TX6, 7, tyX6, rfl, by decide, fl_RX6_16, wn_X6, Or.inl rfl, tyX6_ok, nmX6, rfl, tyX6_ok 1 (by decide), (fun _ => rfl)⟩
theorem f_RX6_19 : zFl RX6 19 9 2 := ⟨_, "SalesDesk", TX6, 7, rfl, by decide, fl_RX6_19, wn_X6, Or.inl rfl⟩
theorem fp_RX6_19 : zFp RX6 19 9 2 (.object "java/util/ArrayList") true := ⟨_, "SalesDesk", TX6, 7, tyX6, rfl, by decide, fl_RX6_19, wn_X6, Or.inl rfl, tyX6_ok, nmX6, rfl, tyX6_ok 2 (by decide), (fun _ => rfl)⟩
theorem f_RX6_22 : zFl RX6 22 9 3 := ⟨_, "SalesDesk", TX6, 7, rfl, by decide, fl_RX6_22, wn_X6, Or.inl rfl⟩
theorem fp_RX6_22 : zFp RX6 22 9 3 (.object "java/util/ArrayList") true := ⟨_, "SalesDesk", TX6, 7, tyX6, rfl, by decide, fl_RX6_22, wn_X6, Or.inl rfl, tyX6_ok, nmX6, rfl, tyX6_ok 3 (by decide), (fun _ => rfl)⟩
theorem f_RX6_25 : zFl RX6 25 9 4 := ⟨_, "SalesDesk", TX6, 7, rfl, by decide, fl_RX6_25, wn_X6, Or.inl rfl⟩
theorem fp_RX6_25 : zFp RX6 25 9 4 (.object "java/util/ArrayList") true := ⟨_, "SalesDesk", TX6, 7, tyX6, rfl, by decide, fl_RX6_25, wn_X6, Or.inl rfl, tyX6_ok, nmX6, rfl, tyX6_ok 4 (by decide), (fun _ => rfl)⟩
theorem f_RX6_28 : zFl RX6 28 9 5 := ⟨_, "SalesDesk", TX6, 7, rfl, by decide, fl_RX6_28, wn_X6, Or.inl rfl⟩
theorem fp_RX6_28 : zFp RX6 28 9 5 (.object "java/util/ArrayList") true := ⟨_, "SalesDesk", TX6, 7, tyX6, rfl, by decide, fl_RX6_28, wn_X6, Or.inl rfl, tyX6_ok, nmX6, rfl, tyX6_ok 5 (by decide), (fun _ => rfl)⟩
theorem f_RX6_31 : zFl RX6 31 9 6 := ⟨_, "SalesDesk", TX6, 7, rfl, by decide, fl_RX6_31, wn_X6, Or.inl rfl⟩
theorem fp_RX6_31 : zFp RX6 31 9 6 (.int) false := ⟨_, "SalesDesk", TX6, 7, tyX6, rfl, by decide, fl_RX6_31, wn_X6, Or.inl rfl, tyX6_ok, nmX6, rfl, tyX6_ok 6 (by decide), (fun h => by cases h)⟩
theorem f_RJx4a65c_9 : zFl RJx4a65c 9 2 1 := ⟨_, "java/util/ArrayList", TJx4a65c, 3, rfl, by decide, fl_RJx4a65c_9, wn_Jx4a65c, Or.inl rfl⟩
theorem fp_RJx4a65c_9 : zFp RJx4a65c 9 2 1 (.array (.object "java/lang/Object")) false := ⟨_, "java/util/ArrayList", TJx4a65c, 3, tyJx4a65c, rfl, by decide, fl_RJx4a65c_9, wn_Jx4a65c, Or.inl rfl, tyJx4a65c_ok, nmJx4a65c, rfl, tyJx4a65c_ok 1 (by decide), (fun h => by cases h)⟩
theorem f_RJxc12de_7 : zFl RJxc12de 7 2 0 := ⟨_, "java/util/AbstractList", TJx4a65c, 3, rfl, by decide, fl_RJxc12de_7, wn_Jx4a65c, Or.inl rfl⟩
theorem fp_RJxc12de_7 : zFp RJxc12de 7 2 0 (.int) false := ⟨_, "java/util/AbstractList", TJx4a65c, 3, tyJx4a65c, rfl, by decide, fl_RJxc12de_7, wn_Jx4a65c, Or.inl rfl, tyJx4a65c_ok, nmJx4a65c, rfl, tyJx4a65c_ok 0 (by decide), (fun h => by cases h)⟩
theorem f_RX6_206 : zFl RX6 206 6 4 := ⟨_, "SalesDesk$Quote", TX3, 5, rfl, by decide, fl_RX6_206, wn_X3, Or.inl rfl⟩
theorem fp_RX6_206 : zFp RX6 206 6 4 (.boolean) false := ⟨_, "SalesDesk$Quote", TX3, 5, tyX3, rfl, by decide, fl_RX6_206, wn_X3, Or.inl rfl, tyX3_ok, nmX3, rfl, tyX3_ok 4 (by decide), (fun h => by cases h)⟩
theorem f_RX6_202 : zFl RX6 202 6 1 := ⟨_, "SalesDesk$Quote", TX3, 5, rfl, by decide, fl_RX6_202, wn_X3, Or.inl rfl⟩
theorem f_RJx4a65c_48 : zFl RJx4a65c 48 2 2 := ⟨_, "java/util/ArrayList", TJx4a65c, 3, rfl, by decide, fl_RJx4a65c_48, wn_Jx4a65c, Or.inl rfl⟩
theorem fp_RJx4a65c_48 : zFp RJx4a65c 48 2 2 (.int) false := ⟨_, "java/util/ArrayList", TJx4a65c, 3, tyJx4a65c, rfl, by decide, fl_RJx4a65c_48, wn_Jx4a65c, Or.inl rfl, tyJx4a65c_ok, nmJx4a65c, rfl, tyJx4a65c_ok 2 (by decide), (fun h => by cases h)⟩
theorem f_RX6_157 : zFl RX6 157 4 4 := ⟨_, "SalesDesk$Chance", TX1, 8, rfl, by decide, fl_RX6_157, wn_X1, Or.inl rfl⟩
theorem fp_RX6_157 : zFp RX6 157 4 4 (.int) false := ⟨_, "SalesDesk$Chance", TX1, 8, tyX1, rfl, by decide, fl_RX6_157, wn_X1, Or.inl rfl, tyX1_ok, nmX1, rfl, tyX1_ok 4 (by decide), (fun h => by cases h)⟩
theorem f_RX6_151 : zFl RX6 151 4 5 := ⟨_, "SalesDesk$Chance", TX1, 8, rfl, by decide, fl_RX6_151, wn_X1, Or.inl rfl⟩
theorem fp_RX6_151 : zFp RX6 151 4 5 (.int) false := ⟨_, "SalesDesk$Chance", TX1, 8, tyX1, rfl, by decide, fl_RX6_151, wn_X1, Or.inl rfl, tyX1_ok, nmX1, rfl, tyX1_ok 5 (by decide), (fun h => by cases h)⟩
theorem f_RX6_105 : zFl RX6 105 8 3 := ⟨_, "SalesDesk$Seller", TX5, 4, rfl, by decide, fl_RX6_105, wn_X5, Or.inl rfl⟩
theorem fp_RX6_105 : zFp RX6 105 8 3 (.int) false := ⟨_, "SalesDesk$Seller", TX5, 4, tyX5, rfl, by decide, fl_RX6_105, wn_X5, Or.inl rfl, tyX5_ok, nmX5, rfl, tyX5_ok 3 (by decide), (fun h => by cases h)⟩
theorem f_RX6_279 : zFl RX6 279 8 1 := ⟨_, "SalesDesk$Seller", TX5, 4, rfl, by decide, fl_RX6_279, wn_X5, Or.inl rfl⟩
theorem f_RX6_111 : zFl RX6 111 4 2 := ⟨_, "SalesDesk$Chance", TX1, 8, rfl, by decide, fl_RX6_111, wn_X1, Or.inl rfl⟩
theorem f_RX6_115 : zFl RX6 115 8 0 := ⟨_, "SalesDesk$Seller", TX5, 4, rfl, by decide, fl_RX6_115, wn_X5, Or.inl rfl⟩
theorem f_RX6_216 : zFl RX6 216 4 7 := ⟨_, "SalesDesk$Chance", TX1, 8, rfl, by decide, fl_RX6_216, wn_X1, Or.inl rfl⟩
theorem fp_RX6_216 : zFp RX6 216 4 7 (.object "SalesDesk$Quote") false := ⟨_, "SalesDesk$Chance", TX1, 8, tyX1, rfl, by decide, fl_RX6_216, wn_X1, Or.inl rfl, tyX1_ok, nmX1, rfl, tyX1_ok 7 (by decide), (fun h => by cases h)⟩
theorem f_RX6_288 : zFl RX6 288 4 1 := ⟨_, "SalesDesk$Chance", TX1, 8, rfl, by decide, fl_RX6_288, wn_X1, Or.inl rfl⟩
theorem f_RX6_285 : zFl RX6 285 6 3 := ⟨_, "SalesDesk$Quote", TX3, 5, rfl, by decide, fl_RX6_285, wn_X3, Or.inl rfl⟩
theorem f_RX6_87 : zFl RX6 87 3 3 := ⟨_, "SalesDesk$Account", TX0, 4, rfl, by decide, fl_RX6_87, wn_X0, Or.inl rfl⟩
theorem fp_RX6_87 : zFp RX6 87 3 3 (.int) false := ⟨_, "SalesDesk$Account", TX0, 4, tyX0, rfl, by decide, fl_RX6_87, wn_X0, Or.inl rfl, tyX0_ok, nmX0, rfl, tyX0_ok 3 (by decide), (fun h => by cases h)⟩
theorem f_RX6_257 : zFl RX6 257 3 0 := ⟨_, "SalesDesk$Account", TX0, 4, rfl, by decide, fl_RX6_257, wn_X0, Or.inl rfl⟩
theorem f_RX6_260 : zFl RX6 260 7 0 := ⟨_, "SalesDesk$Rule", TX4, 4, rfl, by decide, fl_RX6_260, wn_X4, Or.inl rfl⟩
theorem f_RX6_263 : zFl RX6 263 3 1 := ⟨_, "SalesDesk$Account", TX0, 4, rfl, by decide, fl_RX6_263, wn_X0, Or.inl rfl⟩
theorem f_RX6_266 : zFl RX6 266 7 1 := ⟨_, "SalesDesk$Rule", TX4, 4, rfl, by decide, fl_RX6_266, wn_X4, Or.inl rfl⟩
theorem f_RX6_269 : zFl RX6 269 7 2 := ⟨_, "SalesDesk$Rule", TX4, 4, rfl, by decide, fl_RX6_269, wn_X4, Or.inl rfl⟩
theorem f_RX6_271 : zFl RX6 271 3 2 := ⟨_, "SalesDesk$Account", TX0, 4, rfl, by decide, fl_RX6_271, wn_X0, Or.inl rfl⟩
theorem f_RX6_272 : zFl RX6 272 7 3 := ⟨_, "SalesDesk$Rule", TX4, 4, rfl, by decide, fl_RX6_272, wn_X4, Or.inl rfl⟩
theorem f_RX6_164 : zFl RX6 164 4 0 := ⟨_, "SalesDesk$Chance", TX1, 8, rfl, by decide, fl_RX6_164, wn_X1, Or.inl rfl⟩
theorem f_RX6_168 : zFl RX6 168 4 6 := ⟨_, "SalesDesk$Chance", TX1, 8, rfl, by decide, fl_RX6_168, wn_X1, Or.inl rfl⟩
theorem fp_RX6_168 : zFp RX6 168 4 6 (.int) false := ⟨_, "SalesDesk$Chance", TX1, 8, tyX1, rfl, by decide, fl_RX6_168, wn_X1, Or.inl rfl, tyX1_ok, nmX1, rfl, tyX1_ok 6 (by decide), (fun h => by cases h)⟩
theorem f_RX0_9 : zFl RX0 9 3 3 := ⟨_, "SalesDesk$Account", TX0, 4, rfl, by decide, fl_RX0_9, wn_X0, Or.inl rfl⟩
theorem fp_RX0_9 : zFp RX0 9 3 3 (.int) false := ⟨_, "SalesDesk$Account", TX0, 4, tyX0, rfl, by decide, fl_RX0_9, wn_X0, Or.inl rfl, tyX0_ok, nmX0, rfl, tyX0_ok 3 (by decide), (fun h => by cases h)⟩
theorem f_RX0_15 : zFl RX0 15 3 0 := ⟨_, "SalesDesk$Account", TX0, 4, rfl, by decide, fl_RX0_15, wn_X0, Or.inl rfl⟩
theorem fp_RX0_15 : zFp RX0 15 3 0 (.object "SalesDesk$Account") true := ⟨_, "SalesDesk$Account", TX0, 4, tyX0, rfl, by decide, fl_RX0_15, wn_X0, Or.inl rfl, tyX0_ok, nmX0, rfl, tyX0_ok 0 (by decide), (fun _ => rfl)⟩
theorem f_RX0_19 : zFl RX0 19 3 1 := ⟨_, "SalesDesk$Account", TX0, 4, rfl, by decide, fl_RX0_19, wn_X0, Or.inl rfl⟩
theorem fp_RX0_19 : zFp RX0 19 3 1 (.int) true := ⟨_, "SalesDesk$Account", TX0, 4, tyX0, rfl, by decide, fl_RX0_19, wn_X0, Or.inl rfl, tyX0_ok, nmX0, rfl, tyX0_ok 1 (by decide), (fun _ => rfl)⟩
theorem f_RX0_22 : zFl RX0 22 3 2 := ⟨_, "SalesDesk$Account", TX0, 4, rfl, by decide, fl_RX0_22, wn_X0, Or.inl rfl⟩
theorem fp_RX0_22 : zFp RX0 22 3 2 (.int) true := ⟨_, "SalesDesk$Account", TX0, 4, tyX0, rfl, by decide, fl_RX0_22, wn_X0, Or.inl rfl, tyX0_ok, nmX0, rfl, tyX0_ok 2 (by decide), (fun _ => rfl)⟩
theorem f_RJx4a65c_63 : zFl RJx4a65c 63 2 0 := ⟨_, "java/util/ArrayList", TJx4a65c, 3, rfl, by decide, fl_RJx4a65c_63, wn_Jx4a65c, Or.inr sf_modCount⟩
theorem fp_RJx4a65c_63 : zFp RJx4a65c 63 2 0 (.int) false := ⟨_, "java/util/ArrayList", TJx4a65c, 3, tyJx4a65c, rfl, by decide, fl_RJx4a65c_63, wn_Jx4a65c, Or.inr sf_modCount, tyJx4a65c_ok, nmJx4a65c, rfl, tyJx4a65c_ok 0 (by decide), (fun h => by cases h)⟩
theorem f_RX5_7 : zFl RX5 7 8 3 := ⟨_, "SalesDesk$Seller", TX5, 4, rfl, by decide, fl_RX5_7, wn_X5, Or.inl rfl⟩
theorem fp_RX5_7 : zFp RX5 7 8 3 (.int) false := ⟨_, "SalesDesk$Seller", TX5, 4, tyX5, rfl, by decide, fl_RX5_7, wn_X5, Or.inl rfl, tyX5_ok, nmX5, rfl, tyX5_ok 3 (by decide), (fun h => by cases h)⟩
theorem f_RX5_13 : zFl RX5 13 8 0 := ⟨_, "SalesDesk$Seller", TX5, 4, rfl, by decide, fl_RX5_13, wn_X5, Or.inl rfl⟩
theorem fp_RX5_13 : zFp RX5 13 8 0 (.int) true := ⟨_, "SalesDesk$Seller", TX5, 4, tyX5, rfl, by decide, fl_RX5_13, wn_X5, Or.inl rfl, tyX5_ok, nmX5, rfl, tyX5_ok 0 (by decide), (fun _ => rfl)⟩
theorem f_RX5_16 : zFl RX5 16 8 1 := ⟨_, "SalesDesk$Seller", TX5, 4, rfl, by decide, fl_RX5_16, wn_X5, Or.inl rfl⟩
theorem fp_RX5_16 : zFp RX5 16 8 1 (.object "SalesDesk$Seller") true := ⟨_, "SalesDesk$Seller", TX5, 4, tyX5, rfl, by decide, fl_RX5_16, wn_X5, Or.inl rfl, tyX5_ok, nmX5, rfl, tyX5_ok 1 (by decide), (fun _ => rfl)⟩
theorem f_RX5_20 : zFl RX5 20 8 2 := ⟨_, "SalesDesk$Seller", TX5, 4, rfl, by decide, fl_RX5_20, wn_X5, Or.inl rfl⟩
theorem fp_RX5_20 : zFp RX5 20 8 2 (.int) true := ⟨_, "SalesDesk$Seller", TX5, 4, tyX5, rfl, by decide, fl_RX5_20, wn_X5, Or.inl rfl, tyX5_ok, nmX5, rfl, tyX5_ok 2 (by decide), (fun _ => rfl)⟩
theorem f_RX1_9 : zFl RX1 9 4 2 := ⟨_, "SalesDesk$Chance", TX1, 8, rfl, by decide, fl_RX1_9, wn_X1, Or.inl rfl⟩
theorem fp_RX1_9 : zFp RX1 9 4 2 (.array .int) true := ⟨_, "SalesDesk$Chance", TX1, 8, tyX1, rfl, by decide, fl_RX1_9, wn_X1, Or.inl rfl, tyX1_ok, nmX1, rfl, tyX1_ok 2 (by decide), (fun _ => rfl)⟩
theorem f_RX1_15 : zFl RX1 15 4 3 := ⟨_, "SalesDesk$Chance", TX1, 8, rfl, by decide, fl_RX1_15, wn_X1, Or.inl rfl⟩
theorem fp_RX1_15 : zFp RX1 15 4 3 (.array .int) true := ⟨_, "SalesDesk$Chance", TX1, 8, tyX1, rfl, by decide, fl_RX1_15, wn_X1, Or.inl rfl, tyX1_ok, nmX1, rfl, tyX1_ok 3 (by decide), (fun _ => rfl)⟩
theorem f_RX1_18 : zFl RX1 18 4 4 := ⟨_, "SalesDesk$Chance", TX1, 8, rfl, by decide, fl_RX1_18, wn_X1, Or.inl rfl⟩
theorem fp_RX1_18 : zFp RX1 18 4 4 (.int) false := ⟨_, "SalesDesk$Chance", TX1, 8, tyX1, rfl, by decide, fl_RX1_18, wn_X1, Or.inl rfl, tyX1_ok, nmX1, rfl, tyX1_ok 4 (by decide), (fun h => by cases h)⟩
theorem f_RX1_22 : zFl RX1 22 4 6 := ⟨_, "SalesDesk$Chance", TX1, 8, rfl, by decide, fl_RX1_22, wn_X1, Or.inl rfl⟩
theorem fp_RX1_22 : zFp RX1 22 4 6 (.int) false := ⟨_, "SalesDesk$Chance", TX1, 8, tyX1, rfl, by decide, fl_RX1_22, wn_X1, Or.inl rfl, tyX1_ok, nmX1, rfl, tyX1_ok 6 (by decide), (fun h => by cases h)⟩
theorem f_RX1_25 : zFl RX1 25 4 7 := ⟨_, "SalesDesk$Chance", TX1, 8, rfl, by decide, fl_RX1_25, wn_X1, Or.inl rfl⟩
theorem fp_RX1_25 : zFp RX1 25 4 7 (.object "SalesDesk$Quote") false := ⟨_, "SalesDesk$Chance", TX1, 8, tyX1, rfl, by decide, fl_RX1_25, wn_X1, Or.inl rfl, tyX1_ok, nmX1, rfl, tyX1_ok 7 (by decide), (fun h => by cases h)⟩
theorem f_RX1_29 : zFl RX1 29 4 0 := ⟨_, "SalesDesk$Chance", TX1, 8, rfl, by decide, fl_RX1_29, wn_X1, Or.inl rfl⟩
theorem fp_RX1_29 : zFp RX1 29 4 0 (.object "SalesDesk$Account") true := ⟨_, "SalesDesk$Chance", TX1, 8, tyX1, rfl, by decide, fl_RX1_29, wn_X1, Or.inl rfl, tyX1_ok, nmX1, rfl, tyX1_ok 0 (by decide), (fun _ => rfl)⟩
theorem f_RX1_33 : zFl RX1 33 4 1 := ⟨_, "SalesDesk$Chance", TX1, 8, rfl, by decide, fl_RX1_33, wn_X1, Or.inl rfl⟩
theorem fp_RX1_33 : zFp RX1 33 4 1 (.int) true := ⟨_, "SalesDesk$Chance", TX1, 8, tyX1, rfl, by decide, fl_RX1_33, wn_X1, Or.inl rfl, tyX1_ok, nmX1, rfl, tyX1_ok 1 (by decide), (fun _ => rfl)⟩
theorem f_RX1_36 : zFl RX1 36 4 5 := ⟨_, "SalesDesk$Chance", TX1, 8, rfl, by decide, fl_RX1_36, wn_X1, Or.inl rfl⟩
theorem fp_RX1_36 : zFp RX1 36 4 5 (.int) false := ⟨_, "SalesDesk$Chance", TX1, 8, tyX1, rfl, by decide, fl_RX1_36, wn_X1, Or.inl rfl, tyX1_ok, nmX1, rfl, tyX1_ok 5 (by decide), (fun h => by cases h)⟩
theorem f_RX4_7 : zFl RX4 7 7 0 := ⟨_, "SalesDesk$Rule", TX4, 4, rfl, by decide, fl_RX4_7, wn_X4, Or.inl rfl⟩
theorem fp_RX4_7 : zFp RX4 7 7 0 (.int) true := ⟨_, "SalesDesk$Rule", TX4, 4, tyX4, rfl, by decide, fl_RX4_7, wn_X4, Or.inl rfl, tyX4_ok, nmX4, rfl, tyX4_ok 0 (by decide), (fun _ => rfl)⟩
theorem f_RX4_13 : zFl RX4 13 7 1 := ⟨_, "SalesDesk$Rule", TX4, 4, rfl, by decide, fl_RX4_13, wn_X4, Or.inl rfl⟩
theorem fp_RX4_13 : zFp RX4 13 7 1 (.int) true := ⟨_, "SalesDesk$Rule", TX4, 4, tyX4, rfl, by decide, fl_RX4_13, wn_X4, Or.inl rfl, tyX4_ok, nmX4, rfl, tyX4_ok 1 (by decide), (fun _ => rfl)⟩
theorem f_RX4_16 : zFl RX4 16 7 2 := ⟨_, "SalesDesk$Rule", TX4, 4, rfl, by decide, fl_RX4_16, wn_X4, Or.inl rfl⟩
theorem fp_RX4_16 : zFp RX4 16 7 2 (.int) true := ⟨_, "SalesDesk$Rule", TX4, 4, tyX4, rfl, by decide, fl_RX4_16, wn_X4, Or.inl rfl, tyX4_ok, nmX4, rfl, tyX4_ok 2 (by decide), (fun _ => rfl)⟩
theorem f_RX4_19 : zFl RX4 19 7 3 := ⟨_, "SalesDesk$Rule", TX4, 4, rfl, by decide, fl_RX4_19, wn_X4, Or.inl rfl⟩
theorem fp_RX4_19 : zFp RX4 19 7 3 (.int) true := ⟨_, "SalesDesk$Rule", TX4, 4, tyX4, rfl, by decide, fl_RX4_19, wn_X4, Or.inl rfl, tyX4_ok, nmX4, rfl, tyX4_ok 3 (by decide), (fun _ => rfl)⟩
theorem f_RX6_154 : zFl RX6 154 4 3 := ⟨_, "SalesDesk$Chance", TX1, 8, rfl, by decide, fl_RX6_154, wn_X1, Or.inl rfl⟩
theorem f_RX6_190 : zFl RX6 190 8 2 := ⟨_, "SalesDesk$Seller", TX5, 4, rfl, by decide, fl_RX6_190, wn_X5, Or.inl rfl⟩
theorem f_RX6_197 : zFl RX6 197 6 0 := ⟨_, "SalesDesk$Quote", TX3, 5, rfl, by decide, fl_RX6_197, wn_X3, Or.inl rfl⟩
theorem f_RX3_7 : zFl RX3 7 6 4 := ⟨_, "SalesDesk$Quote", TX3, 5, rfl, by decide, fl_RX3_7, wn_X3, Or.inl rfl⟩
theorem fp_RX3_7 : zFp RX3 7 6 4 (.boolean) false := ⟨_, "SalesDesk$Quote", TX3, 5, tyX3, rfl, by decide, fl_RX3_7, wn_X3, Or.inl rfl, tyX3_ok, nmX3, rfl, tyX3_ok 4 (by decide), (fun h => by cases h)⟩
theorem f_RX3_13 : zFl RX3 13 6 0 := ⟨_, "SalesDesk$Quote", TX3, 5, rfl, by decide, fl_RX3_13, wn_X3, Or.inl rfl⟩
theorem fp_RX3_13 : zFp RX3 13 6 0 (.int) true := ⟨_, "SalesDesk$Quote", TX3, 5, tyX3, rfl, by decide, fl_RX3_13, wn_X3, Or.inl rfl, tyX3_ok, nmX3, rfl, tyX3_ok 0 (by decide), (fun _ => rfl)⟩
theorem f_RX3_17 : zFl RX3 17 6 1 := ⟨_, "SalesDesk$Quote", TX3, 5, rfl, by decide, fl_RX3_17, wn_X3, Or.inl rfl⟩
theorem fp_RX3_17 : zFp RX3 17 6 1 (.object "SalesDesk$Chance") true := ⟨_, "SalesDesk$Quote", TX3, 5, tyX3, rfl, by decide, fl_RX3_17, wn_X3, Or.inl rfl, tyX3_ok, nmX3, rfl, tyX3_ok 1 (by decide), (fun _ => rfl)⟩
theorem f_RX3_21 : zFl RX3 21 6 2 := ⟨_, "SalesDesk$Quote", TX3, 5, rfl, by decide, fl_RX3_21, wn_X3, Or.inl rfl⟩
theorem fp_RX3_21 : zFp RX3 21 6 2 (.object "SalesDesk$Seller") true := ⟨_, "SalesDesk$Quote", TX3, 5, tyX3, rfl, by decide, fl_RX3_21, wn_X3, Or.inl rfl, tyX3_ok, nmX3, rfl, tyX3_ok 2 (by decide), (fun _ => rfl)⟩
theorem f_RX3_25 : zFl RX3 25 6 3 := ⟨_, "SalesDesk$Quote", TX3, 5, rfl, by decide, fl_RX3_25, wn_X3, Or.inl rfl⟩
theorem fp_RX3_25 : zFp RX3 25 6 3 (.int) true := ⟨_, "SalesDesk$Quote", TX3, 5, tyX3, rfl, by decide, fl_RX3_25, wn_X3, Or.inl rfl, tyX3_ok, nmX3, rfl, tyX3_ok 3 (by decide), (fun _ => rfl)⟩
theorem f_RX6_275 : zFl RX6 275 6 2 := ⟨_, "SalesDesk$Quote", TX3, 5, rfl, by decide, fl_RX6_275, wn_X3, Or.inl rfl⟩
theorem f_RX6_235 : zFl RX6 235 5 0 := ⟨_, "SalesDesk$Freeze", TX2, 1, rfl, by decide, fl_RX6_235, wn_X2, Or.inl rfl⟩
theorem f_RX2_9 : zFl RX2 9 5 0 := ⟨_, "SalesDesk$Freeze", TX2, 1, rfl, by decide, fl_RX2_9, wn_X2, Or.inl rfl⟩
theorem fp_RX2_9 : zFp RX2 9 5 0 (.array .int) true := ⟨_, "SalesDesk$Freeze", TX2, 1, tyX2, rfl, by decide, fl_RX2_9, wn_X2, Or.inl rfl, tyX2_ok, nmX2, rfl, tyX2_ok 0 (by decide), (fun _ => rfl)⟩
theorem n_RL_11 : zNc RL 11 9 7 [aN, aN, aN, aN, aN, aN, aI 0] := ⟨_, TX6, tyX6, rfl, kl_RL_11, ist_RX6, ini_RX6, wn_X6, tyX6_ok, zpr rfl, fun j hj loc => by rcases (show j = 0 ∨ j = 1 ∨ j = 2 ∨ j = 3 ∨ j = 4 ∨ j = 5 ∨ j = 6 by omega) with rfl | rfl | rfl | rfl | rfl | rfl | rfl <;> rfl⟩
theorem n_RX6_7 : zNc RX6 7 2 3 [aI 0, aN, aI 0] := ⟨_, TJx4a65c, tyJx4a65c, rfl, kl_RX6_7, ist_RJx4a65c, ini_RJx4a65c, wn_Jx4a65c, tyJx4a65c_ok, zpr rfl, fun j hj loc => by rcases (show j = 0 ∨ j = 1 ∨ j = 2 by omega) with rfl | rfl | rfl <;> rfl⟩
theorem n_RX6_185 : zNc RX6 185 6 5 [aI 0, aN, aN, aI 0, aI 0] := ⟨_, TX3, tyX3, rfl, kl_RX6_185, ist_RX3, ini_RX3, wn_X3, tyX3_ok, zpr rfl, fun j hj loc => by rcases (show j = 0 ∨ j = 1 ∨ j = 2 ∨ j = 3 ∨ j = 4 by omega) with rfl | rfl | rfl | rfl | rfl <;> rfl⟩
theorem n_RX6_108 : zNc RX6 108 4 8 [aN, aI 0, aN, aN, aI 0, aI 0, aI 0, aN] := ⟨_, TX1, tyX1, rfl, kl_RX6_108, ist_RX1, ini_RX1, wn_X1, tyX1_ok, zpr rfl, fun j hj loc => by rcases (show j = 0 ∨ j = 1 ∨ j = 2 ∨ j = 3 ∨ j = 4 ∨ j = 5 ∨ j = 6 ∨ j = 7 by omega) with rfl | rfl | rfl | rfl | rfl | rfl | rfl | rfl <;> rfl⟩
theorem n_RX6_98 : zNc RX6 98 8 4 [aI 0, aN, aI 0, aI 0] := ⟨_, TX5, tyX5, rfl, kl_RX6_98, ist_RX5, ini_RX5, wn_X5, tyX5_ok, zpr rfl, fun j hj loc => by rcases (show j = 0 ∨ j = 1 ∨ j = 2 ∨ j = 3 by omega) with rfl | rfl | rfl | rfl <;> rfl⟩
theorem n_RX6_59 : zNc RX6 59 3 4 [aN, aI 0, aI 0, aI 0] := ⟨_, TX0, tyX0, rfl, kl_RX6_59, ist_RX0, ini_RX0, wn_X0, tyX0_ok, zpr rfl, fun j hj loc => by rcases (show j = 0 ∨ j = 1 ∨ j = 2 ∨ j = 3 by omega) with rfl | rfl | rfl | rfl <;> rfl⟩
theorem n_RX6_73 : zNc RX6 73 7 4 [aI 0, aI 0, aI 0, aI 0] := ⟨_, TX4, tyX4, rfl, kl_RX6_73, ist_RX4, ini_RX4, wn_X4, tyX4_ok, zpr rfl, fun j hj loc => by rcases (show j = 0 ∨ j = 1 ∨ j = 2 ∨ j = 3 by omega) with rfl | rfl | rfl | rfl <;> rfl⟩
theorem n_RX6_232 : zNc RX6 232 5 1 [aN] := ⟨_, TX2, tyX2, rfl, kl_RX6_232, ist_RX2, ini_RX2, wn_X2, tyX2_ok, zpr rfl, fun j hj loc => by rcases (show j = 0 by omega) with rfl; rfl⟩
theorem Y_X6_init : zY yX6_init (Cond.code yX6_init cX6_init 1 none) 0 := ⟨co_yX6_init, ini_RX6, by decide +kernel⟩
theorem Y_Jx4a65c_init_da8c8 : zY yJx4a65c_init_da8c8 (Cond.code yJx4a65c_init_da8c8 cJx4a65c_init_da8c8 1 none) 0 := ⟨co_yJx4a65c_init_da8c8, ini_RJx4a65c, by decide +kernel⟩
theorem Y_Jxc12de_init_da8c8 : zY yJxc12de_init_da8c8 (Cond.code yJxc12de_init_da8c8 cJxc12de_init_da8c8 1 none) 0 := ⟨co_yJxc12de_init_da8c8, ini_RJxc12de, by decide +kernel⟩
theorem Y_Jxa1e45_init_da8c8 : zY yJxa1e45_init_da8c8 (Cond.code yJxa1e45_init_da8c8 cJxa1e45_init_da8c8 1 none) 0 := ⟨co_yJxa1e45_init_da8c8, ini_RJxa1e45, by decide +kernel⟩
theorem Y_X6_waiting : zY yX6_waiting (Cond.code yX6_waiting cX6_waiting 4 (some .int)) 0 := ⟨co_yX6_waiting, ini_RX6, by decide +kernel⟩
theorem V_X6_waiting : Cond.instanceMethod yX6_waiting ∈ zT ∧ Cond.selects yX6_waiting.cls yX6_waiting yX6_waiting ∈ zT := ⟨im_yX6_waiting, se_yX6_waiting⟩
theorem Y_Jx4a65c_size_8abf5 : zY yJx4a65c_size_8abf5 (Cond.code yJx4a65c_size_8abf5 cJx4a65c_size_8abf5 1 (some .int)) 0 := ⟨co_yJx4a65c_size_8abf5, ini_RJx4a65c, by decide +kernel⟩
theorem V_Jx4a65c_size_8abf5 : Cond.instanceMethod yJx4a65c_size_8abf5 ∈ zT ∧ Cond.selects yJx4a65c_size_8abf5.cls yJx4a65c_size_8abf5 yJx4a65c_size_8abf5 ∈ zT := ⟨im_yJx4a65c_size_8abf5, se_yJx4a65c_size_8abf5⟩
theorem Y_Jx4a65c_get_915e3 : zY yJx4a65c_get_915e3 (Cond.code yJx4a65c_get_915e3 cJx4a65c_get_915e3 2 (some (.object "java/lang/Object"))) 1 := ⟨co_yJx4a65c_get_915e3, ini_RJx4a65c, by decide +kernel⟩
theorem V_Jx4a65c_get_915e3 : Cond.instanceMethod yJx4a65c_get_915e3 ∈ zT ∧ Cond.selects yJx4a65c_get_915e3.cls yJx4a65c_get_915e3 yJx4a65c_get_915e3 ∈ zT := ⟨im_yJx4a65c_get_915e3, se_yJx4a65c_get_915e3⟩
theorem Y_J15_checkIndex_7cf53 : zY yJ15_checkIndex_7cf53 (Cond.code yJ15_checkIndex_7cf53 cJ15_checkIndex_7cf53 2 (some .int)) 2 := ⟨co_yJ15_checkIndex_7cf53, ini_RJ15, by decide +kernel⟩
theorem Y_J3_checkIndex_8e157 : zY yJ3_checkIndex_8e157 (Cond.code yJ3_checkIndex_8e157 cJ3_checkIndex_8e157 3 (some .int)) 3 := ⟨co_yJ3_checkIndex_8e157, ini_RJ3, by decide +kernel⟩
theorem Y_Jx4a65c_elementData_915e3 : zY yJx4a65c_elementData_915e3 (Cond.code yJx4a65c_elementData_915e3 cJx4a65c_elementData_915e3 2 (some (.object "java/lang/Object"))) 1 := ⟨co_yJx4a65c_elementData_915e3, ini_RJx4a65c, by decide +kernel⟩
theorem V_Jx4a65c_elementData_915e3 : Cond.instanceMethod yJx4a65c_elementData_915e3 ∈ zT ∧ Cond.selects yJx4a65c_elementData_915e3.cls yJx4a65c_elementData_915e3 yJx4a65c_elementData_915e3 ∈ zT := ⟨im_yJx4a65c_elementData_915e3, se_yJx4a65c_elementData_915e3⟩
theorem Y_X6_isOpen : zY yX6_isOpen (Cond.code yX6_isOpen cX6_isOpen 1 (some .boolean)) 1 := ⟨co_yX6_isOpen, ini_RX6, by decide +kernel⟩
theorem Y_L_stalled : zY yL_stalled (Cond.codeWith yL_stalled cL_stalled 3 (some .int) [(0, 5, 6, 16)]) 2 := ⟨cw_yL_stalled, ini_RL, by decide +kernel⟩
theorem Y_X6_stalled : zY yX6_stalled (Cond.code yX6_stalled cX6_stalled 5 (some .int)) 1 := ⟨co_yX6_stalled, ini_RX6, by decide +kernel⟩
theorem V_X6_stalled : Cond.instanceMethod yX6_stalled ∈ zT ∧ Cond.selects yX6_stalled.cls yX6_stalled yX6_stalled ∈ zT := ⟨im_yX6_stalled, se_yX6_stalled⟩
theorem Y_X6_requireRange : zY yX6_requireRange (Cond.code yX6_requireRange cX6_requireRange 3 none) 3 := ⟨co_yX6_requireRange, ini_RX6, by decide +kernel⟩
theorem Y_L_forecast : zY yL_forecast (Cond.codeWith yL_forecast cL_forecast 3 (some .int) [(0, 5, 6, 26)]) 2 := ⟨cw_yL_forecast, ini_RL, by decide +kernel⟩
theorem Y_X6_forecast : zY yX6_forecast (Cond.code yX6_forecast cX6_forecast 2 (some .int)) 1 := ⟨co_yX6_forecast, ini_RX6, by decide +kernel⟩
theorem V_X6_forecast : Cond.instanceMethod yX6_forecast ∈ zT ∧ Cond.selects yX6_forecast.cls yX6_forecast yX6_forecast ∈ zT := ⟨im_yX6_forecast, se_yX6_forecast⟩
theorem Y_X6_sellerAt : zY yX6_sellerAt (Cond.code yX6_sellerAt cX6_sellerAt 2 (some (.object "SalesDesk$Seller"))) 1 := ⟨co_yX6_sellerAt, ini_RX6, by decide +kernel⟩
theorem V_X6_sellerAt : Cond.instanceMethod yX6_sellerAt ∈ zT ∧ Cond.selects yX6_sellerAt.cls yX6_sellerAt yX6_sellerAt ∈ zT := ⟨im_yX6_sellerAt, se_yX6_sellerAt⟩
theorem Y_X6_forecastNow : zY yX6_forecastNow (Cond.code yX6_forecastNow cX6_forecastNow 5 (some .int)) 1 := ⟨co_yX6_forecastNow, ini_RX6, by decide +kernel⟩
theorem V_X6_forecastNow : Cond.instanceMethod yX6_forecastNow ∈ zT ∧ Cond.selects yX6_forecastNow.cls yX6_forecastNow yX6_forecastNow ∈ zT := ⟨im_yX6_forecastNow, se_yX6_forecastNow⟩
theorem Y_X6_isInTeam : zY yX6_isInTeam (Cond.code yX6_isInTeam cX6_isInTeam 3 (some .boolean)) 2 := ⟨co_yX6_isInTeam, ini_RX6, by decide +kernel⟩
theorem Y_X6_ownNow : zY yX6_ownNow (Cond.code yX6_ownNow cX6_ownNow 6 (some .int)) 1 := ⟨co_yX6_ownNow, ini_RX6, by decide +kernel⟩
theorem V_X6_ownNow : Cond.instanceMethod yX6_ownNow ∈ zT ∧ Cond.selects yX6_ownNow.cls yX6_ownNow yX6_ownNow ∈ zT := ⟨im_yX6_ownNow, se_yX6_ownNow⟩
theorem Y_X6_worthNow : zY yX6_worthNow (Cond.code yX6_worthNow cX6_worthNow 2 (some .int)) 1 := ⟨co_yX6_worthNow, ini_RX6, by decide +kernel⟩
theorem Y_X6_hundredths : zY yX6_hundredths (Cond.code yX6_hundredths cX6_hundredths 2 (some .int)) 2 := ⟨co_yX6_hundredths, ini_RX6, by decide +kernel⟩
theorem Y_X6_at : zY yX6_at (Cond.code yX6_at cX6_at 2 (some .int)) 2 := ⟨co_yX6_at, ini_RX6, by decide +kernel⟩
theorem Y_L_regionOf : zY yL_regionOf (Cond.codeWith yL_regionOf cL_regionOf 3 (some .int) [(0, 5, 6, 26)]) 2 := ⟨cw_yL_regionOf, ini_RL, by decide +kernel⟩
theorem Y_X6_regionOf : zY yX6_regionOf (Cond.code yX6_regionOf cX6_regionOf 2 (some .int)) 1 := ⟨co_yX6_regionOf, ini_RX6, by decide +kernel⟩
theorem V_X6_regionOf : Cond.instanceMethod yX6_regionOf ∈ zT ∧ Cond.selects yX6_regionOf.cls yX6_regionOf yX6_regionOf ∈ zT := ⟨im_yX6_regionOf, se_yX6_regionOf⟩
theorem Y_X6_accountAt : zY yX6_accountAt (Cond.code yX6_accountAt cX6_accountAt 2 (some (.object "SalesDesk$Account"))) 1 := ⟨co_yX6_accountAt, ini_RX6, by decide +kernel⟩
theorem V_X6_accountAt : Cond.instanceMethod yX6_accountAt ∈ zT ∧ Cond.selects yX6_accountAt.cls yX6_accountAt yX6_accountAt ∈ zT := ⟨im_yX6_accountAt, se_yX6_accountAt⟩
theorem Y_X6_regionNow : zY yX6_regionNow (Cond.code yX6_regionNow cX6_regionNow 4 (some .int)) 1 := ⟨co_yX6_regionNow, ini_RX6, by decide +kernel⟩
theorem V_X6_regionNow : Cond.instanceMethod yX6_regionNow ∈ zT ∧ Cond.selects yX6_regionNow.cls yX6_regionNow yX6_regionNow ∈ zT := ⟨im_yX6_regionNow, se_yX6_regionNow⟩
theorem Y_X6_ruledRegion : zY yX6_ruledRegion (Cond.code yX6_ruledRegion cX6_ruledRegion 4 (some .int)) 1 := ⟨co_yX6_ruledRegion, ini_RX6, by decide +kernel⟩
theorem V_X6_ruledRegion : Cond.instanceMethod yX6_ruledRegion ∈ zT ∧ Cond.selects yX6_ruledRegion.cls yX6_ruledRegion yX6_ruledRegion ∈ zT := ⟨im_yX6_ruledRegion, se_yX6_ruledRegion⟩
theorem Y_L_inRegion : zY yL_inRegion (Cond.codeWith yL_inRegion cL_inRegion 4 (some .int) [(0, 6, 7, 16)]) 3 := ⟨cw_yL_inRegion, ini_RL, by decide +kernel⟩
theorem Y_X6_inRegion : zY yX6_inRegion (Cond.code yX6_inRegion cX6_inRegion 6 (some .int)) 2 := ⟨co_yX6_inRegion, ini_RX6, by decide +kernel⟩
theorem V_X6_inRegion : Cond.instanceMethod yX6_inRegion ∈ zT ∧ Cond.selects yX6_inRegion.cls yX6_inRegion yX6_inRegion ∈ zT := ⟨im_yX6_inRegion, se_yX6_inRegion⟩
theorem Y_X6_requireStage : zY yX6_requireStage (Cond.code yX6_requireStage cX6_requireStage 1 none) 1 := ⟨co_yX6_requireStage, ini_RX6, by decide +kernel⟩
theorem Y_X6_regionFor : zY yX6_regionFor (Cond.code yX6_regionFor cX6_regionFor 2 (some .int)) 1 := ⟨co_yX6_regionFor, ini_RX6, by decide +kernel⟩
theorem V_X6_regionFor : Cond.instanceMethod yX6_regionFor ∈ zT ∧ Cond.selects yX6_regionFor.cls yX6_regionFor yX6_regionFor ∈ zT := ⟨im_yX6_regionFor, se_yX6_regionFor⟩
theorem Y_L_at : zY yL_at (Cond.code yL_at cL_at 2 (some .int)) 2 := ⟨co_yL_at, ini_RL, by decide +kernel⟩
theorem Y_L_acts : zY yL_acts (Cond.code yL_acts cL_acts 18 (some .boolean)) 9 := ⟨co_yL_acts, ini_RL, by decide +kernel⟩
theorem Y_L_low : zY yL_low (Cond.code yL_low cL_low 2 (some .int)) 2 := ⟨co_yL_low, ini_RL, by decide +kernel⟩
theorem Y_L_addAccount : zY yL_addAccount (Cond.codeWith yL_addAccount cL_addAccount 5 (some .int) [(0, 7, 8, 26), (0, 7, 13, 16), (0, 7, 18, 19)]) 4 := ⟨cw_yL_addAccount, ini_RL, by decide +kernel⟩
theorem Y_X6_addAccount : zY yX6_addAccount (Cond.code yX6_addAccount cX6_addAccount 5 (some .int)) 3 := ⟨co_yX6_addAccount, ini_RX6, by decide +kernel⟩
theorem V_X6_addAccount : Cond.instanceMethod yX6_addAccount ∈ zT ∧ Cond.selects yX6_addAccount.cls yX6_addAccount yX6_addAccount ∈ zT := ⟨im_yX6_addAccount, se_yX6_addAccount⟩
theorem Y_X6_requireRoom : zY yX6_requireRoom (Cond.code yX6_requireRoom cX6_requireRoom 2 none) 2 := ⟨co_yX6_requireRoom, ini_RX6, by decide +kernel⟩
theorem Y_X0_init : zY yX0_init (Cond.code yX0_init cX0_init 4 none) 3 := ⟨co_yX0_init, ini_RX0, by decide +kernel⟩
theorem Y_Jx4a65c_add_9ea2d : zY yJx4a65c_add_9ea2d (Cond.code yJx4a65c_add_9ea2d cJx4a65c_add_9ea2d 2 (some .boolean)) 1 := ⟨co_yJx4a65c_add_9ea2d, ini_RJx4a65c, by decide +kernel⟩
theorem V_Jx4a65c_add_9ea2d : Cond.instanceMethod yJx4a65c_add_9ea2d ∈ zT ∧ Cond.selects yJx4a65c_add_9ea2d.cls yJx4a65c_add_9ea2d yJx4a65c_add_9ea2d ∈ zT := ⟨im_yJx4a65c_add_9ea2d, se_yJx4a65c_add_9ea2d⟩
theorem Y_Jx4a65c_add_72be8 : zY yJx4a65c_add_72be8 (Cond.code yJx4a65c_add_72be8 cJx4a65c_add_72be8 4 none) 3 := ⟨co_yJx4a65c_add_72be8, ini_RJx4a65c, by decide +kernel⟩
theorem V_Jx4a65c_add_72be8 : Cond.instanceMethod yJx4a65c_add_72be8 ∈ zT ∧ Cond.selects yJx4a65c_add_72be8.cls yJx4a65c_add_72be8 yJx4a65c_add_72be8 ∈ zT := ⟨im_yJx4a65c_add_72be8, se_yJx4a65c_add_72be8⟩
theorem Y_Jx4a65c_grow_d5877 : zY yJx4a65c_grow_d5877 (Cond.code yJx4a65c_grow_d5877 cJx4a65c_grow_d5877 1 (some (.array (.object "java/lang/Object")))) 0 := ⟨co_yJx4a65c_grow_d5877, ini_RJx4a65c, by decide +kernel⟩
theorem V_Jx4a65c_grow_d5877 : Cond.instanceMethod yJx4a65c_grow_d5877 ∈ zT ∧ Cond.selects yJx4a65c_grow_d5877.cls yJx4a65c_grow_d5877 yJx4a65c_grow_d5877 ∈ zT := ⟨im_yJx4a65c_grow_d5877, se_yJx4a65c_grow_d5877⟩
theorem Y_Jx4a65c_grow_92f84 : zY yJx4a65c_grow_92f84 (Cond.code yJx4a65c_grow_92f84 cJx4a65c_grow_92f84 4 (some (.array (.object "java/lang/Object")))) 1 := ⟨co_yJx4a65c_grow_92f84, ini_RJx4a65c, by decide +kernel⟩
theorem V_Jx4a65c_grow_92f84 : Cond.instanceMethod yJx4a65c_grow_92f84 ∈ zT ∧ Cond.selects yJx4a65c_grow_92f84.cls yJx4a65c_grow_92f84 yJx4a65c_grow_92f84 ∈ zT := ⟨im_yJx4a65c_grow_92f84, se_yJx4a65c_grow_92f84⟩
theorem Y_J8_newLength_cabcc : zY yJ8_newLength_cabcc (Cond.code yJ8_newLength_cabcc cJ8_newLength_cabcc 4 (some .int)) 3 := ⟨co_yJ8_newLength_cabcc, ini_RJ8, by decide +kernel⟩
theorem Y_J8_hugeLength_7cf53 : zY yJ8_hugeLength_7cf53 (Cond.code yJ8_hugeLength_7cf53 cJ8_hugeLength_7cf53 3 (some .int)) 2 := ⟨co_yJ8_hugeLength_7cf53, ini_RJ8, by decide +kernel⟩
theorem Y_J7_copyOf_1904c : zY yJ7_copyOf_1904c (Cond.code yJ7_copyOf_1904c cJ7_copyOf_1904c 2 (some (.array (.object "java/lang/Object")))) 2 := ⟨co_yJ7_copyOf_1904c, ini_RJ7, by decide +kernel⟩
theorem Y_J7_copyOf_6403c : zY yJ7_copyOf_6403c (Cond.code yJ7_copyOf_6403c cJ7_copyOf_6403c 4 (some (.array (.object "java/lang/Object")))) 3 := ⟨co_yJ7_copyOf_6403c, ini_RJ7, by decide +kernel⟩
theorem Y_L_addSeller : zY yL_addSeller (Cond.codeWith yL_addSeller cL_addSeller 4 (some .int) [(0, 6, 7, 26), (0, 6, 11, 16), (0, 6, 15, 19)]) 3 := ⟨cw_yL_addSeller, ini_RL, by decide +kernel⟩
theorem Y_X6_addSeller : zY yX6_addSeller (Cond.code yX6_addSeller cX6_addSeller 4 (some .int)) 2 := ⟨co_yX6_addSeller, ini_RX6, by decide +kernel⟩
theorem V_X6_addSeller : Cond.instanceMethod yX6_addSeller ∈ zT ∧ Cond.selects yX6_addSeller.cls yX6_addSeller yX6_addSeller ∈ zT := ⟨im_yX6_addSeller, se_yX6_addSeller⟩
theorem Y_X5_init : zY yX5_init (Cond.code yX5_init cX5_init 4 none) 3 := ⟨co_yX5_init, ini_RX5, by decide +kernel⟩
theorem Y_L_addChance : zY yL_addChance (Cond.codeWith yL_addChance cL_addChance 5 (some .int) [(0, 7, 8, 26), (0, 7, 13, 16), (0, 7, 18, 19)]) 4 := ⟨cw_yL_addChance, ini_RL, by decide +kernel⟩
theorem Y_X6_addChance : zY yX6_addChance (Cond.code yX6_addChance cX6_addChance 7 (some .int)) 3 := ⟨co_yX6_addChance, ini_RX6, by decide +kernel⟩
theorem V_X6_addChance : Cond.instanceMethod yX6_addChance ∈ zT ∧ Cond.selects yX6_addChance.cls yX6_addChance yX6_addChance ∈ zT := ⟨im_yX6_addChance, se_yX6_addChance⟩
theorem Y_X1_init : zY yX1_init (Cond.code yX1_init cX1_init 4 none) 3 := ⟨co_yX1_init, ini_RX1, by decide +kernel⟩
theorem Y_X6_addTo : zY yX6_addTo (Cond.code yX6_addTo cX6_addTo 3 none) 3 := ⟨co_yX6_addTo, ini_RX6, by decide +kernel⟩
theorem Y_L_removeRule : zY yL_removeRule (Cond.codeWith yL_removeRule cL_removeRule 3 (some .int) [(0, 5, 6, 26)]) 2 := ⟨cw_yL_removeRule, ini_RL, by decide +kernel⟩
theorem Y_X6_removeRule : zY yX6_removeRule (Cond.code yX6_removeRule cX6_removeRule 2 (some .int)) 1 := ⟨co_yX6_removeRule, ini_RX6, by decide +kernel⟩
theorem V_X6_removeRule : Cond.instanceMethod yX6_removeRule ∈ zT ∧ Cond.selects yX6_removeRule.cls yX6_removeRule yX6_removeRule ∈ zT := ⟨im_yX6_removeRule, se_yX6_removeRule⟩
theorem Y_Jx4a65c_remove_915e3 : zY yJx4a65c_remove_915e3 (Cond.code yJx4a65c_remove_915e3 cJx4a65c_remove_915e3 4 (some (.object "java/lang/Object"))) 1 := ⟨co_yJx4a65c_remove_915e3, ini_RJx4a65c, by decide +kernel⟩
theorem V_Jx4a65c_remove_915e3 : Cond.instanceMethod yJx4a65c_remove_915e3 ∈ zT ∧ Cond.selects yJx4a65c_remove_915e3.cls yJx4a65c_remove_915e3 yJx4a65c_remove_915e3 ∈ zT := ⟨im_yJx4a65c_remove_915e3, se_yJx4a65c_remove_915e3⟩
theorem Y_Jx4a65c_fastRemove_b59b0 : zY yJx4a65c_fastRemove_b59b0 (Cond.code yJx4a65c_fastRemove_b59b0 cJx4a65c_fastRemove_b59b0 4 none) 2 := ⟨co_yJx4a65c_fastRemove_b59b0, ini_RJx4a65c, by decide +kernel⟩
theorem V_Jx4a65c_fastRemove_b59b0 : Cond.instanceMethod yJx4a65c_fastRemove_b59b0 ∈ zT ∧ Cond.selects yJx4a65c_fastRemove_b59b0.cls yJx4a65c_fastRemove_b59b0 yJx4a65c_fastRemove_b59b0 ∈ zT := ⟨im_yJx4a65c_fastRemove_b59b0, se_yJx4a65c_fastRemove_b59b0⟩
theorem Y_L_putRule : zY yL_putRule (Cond.codeWith yL_putRule cL_putRule 7 (some .int) [(0, 11, 12, 26), (0, 11, 17, 16), (0, 11, 22, 19)]) 6 := ⟨cw_yL_putRule, ini_RL, by decide +kernel⟩
theorem Y_X6_putRule : zY yX6_putRule (Cond.code yX6_putRule cX6_putRule 6 (some .int)) 5 := ⟨co_yX6_putRule, ini_RX6, by decide +kernel⟩
theorem V_X6_putRule : Cond.instanceMethod yX6_putRule ∈ zT ∧ Cond.selects yX6_putRule.cls yX6_putRule yX6_putRule ∈ zT := ⟨im_yX6_putRule, se_yX6_putRule⟩
theorem Y_X4_init : zY yX4_init (Cond.code yX4_init cX4_init 5 none) 4 := ⟨co_yX4_init, ini_RX4, by decide +kernel⟩
theorem Y_Jx4a65c_add_7a177 : zY yJx4a65c_add_7a177 (Cond.code yJx4a65c_add_7a177 cJx4a65c_add_7a177 5 none) 2 := ⟨co_yJx4a65c_add_7a177, ini_RJx4a65c, by decide +kernel⟩
theorem V_Jx4a65c_add_7a177 : Cond.instanceMethod yJx4a65c_add_7a177 ∈ zT ∧ Cond.selects yJx4a65c_add_7a177.cls yJx4a65c_add_7a177 yJx4a65c_add_7a177 ∈ zT := ⟨im_yJx4a65c_add_7a177, se_yJx4a65c_add_7a177⟩
theorem Y_Jx4a65c_rangeCheckForAdd_d00df : zY yJx4a65c_rangeCheckForAdd_d00df (Cond.code yJx4a65c_rangeCheckForAdd_d00df cJx4a65c_rangeCheckForAdd_d00df 2 none) 1 := ⟨co_yJx4a65c_rangeCheckForAdd_d00df, ini_RJx4a65c, by decide +kernel⟩
theorem V_Jx4a65c_rangeCheckForAdd_d00df : Cond.instanceMethod yJx4a65c_rangeCheckForAdd_d00df ∈ zT ∧ Cond.selects yJx4a65c_rangeCheckForAdd_d00df.cls yJx4a65c_rangeCheckForAdd_d00df yJx4a65c_rangeCheckForAdd_d00df ∈ zT := ⟨im_yJx4a65c_rangeCheckForAdd_d00df, se_yJx4a65c_rangeCheckForAdd_d00df⟩
theorem Y_L_except : zY yL_except (Cond.codeWith yL_except cL_except 4 (some .int) [(0, 6, 7, 26), (0, 6, 11, 16)]) 3 := ⟨cw_yL_except, ini_RL, by decide +kernel⟩
theorem Y_X6_except : zY yX6_except (Cond.code yX6_except cX6_except 5 (some .int)) 2 := ⟨co_yX6_except, ini_RX6, by decide +kernel⟩
theorem V_X6_except : Cond.instanceMethod yX6_except ∈ zT ∧ Cond.selects yX6_except.cls yX6_except yX6_except ∈ zT := ⟨im_yX6_except, se_yX6_except⟩
theorem Y_L_adjust : zY yL_adjust (Cond.codeWith yL_adjust cL_adjust 4 (some .int) [(0, 6, 7, 26), (0, 6, 11, 16)]) 3 := ⟨cw_yL_adjust, ini_RL, by decide +kernel⟩
theorem Y_X6_adjust : zY yX6_adjust (Cond.code yX6_adjust cX6_adjust 5 (some .int)) 2 := ⟨co_yX6_adjust, ini_RX6, by decide +kernel⟩
theorem V_X6_adjust : Cond.instanceMethod yX6_adjust ∈ zT ∧ Cond.selects yX6_adjust.cls yX6_adjust yX6_adjust ∈ zT := ⟨im_yX6_adjust, se_yX6_adjust⟩
theorem Y_L_giveShare : zY yL_giveShare (Cond.codeWith yL_giveShare cL_giveShare 6 (some .int) [(0, 9, 10, 26), (0, 9, 15, 16), (0, 9, 20, 19)]) 5 := ⟨cw_yL_giveShare, ini_RL, by decide +kernel⟩
theorem Y_X6_giveShare : zY yX6_giveShare (Cond.code yX6_giveShare cX6_giveShare 8 (some .int)) 4 := ⟨co_yX6_giveShare, ini_RX6, by decide +kernel⟩
theorem V_X6_giveShare : Cond.instanceMethod yX6_giveShare ∈ zT ∧ Cond.selects yX6_giveShare.cls yX6_giveShare yX6_giveShare ∈ zT := ⟨im_yX6_giveShare, se_yX6_giveShare⟩
theorem Y_X6_chanceAt : zY yX6_chanceAt (Cond.code yX6_chanceAt cX6_chanceAt 2 (some (.object "SalesDesk$Chance"))) 1 := ⟨co_yX6_chanceAt, ini_RX6, by decide +kernel⟩
theorem V_X6_chanceAt : Cond.instanceMethod yX6_chanceAt ∈ zT ∧ Cond.selects yX6_chanceAt.cls yX6_chanceAt yX6_chanceAt ∈ zT := ⟨im_yX6_chanceAt, se_yX6_chanceAt⟩
theorem Y_X6_requireOpen : zY yX6_requireOpen (Cond.code yX6_requireOpen cX6_requireOpen 1 none) 1 := ⟨co_yX6_requireOpen, ini_RX6, by decide +kernel⟩
theorem Y_L_stage : zY yL_stage (Cond.codeWith yL_stage cL_stage 3 (some .int) [(0, 5, 6, 26)]) 2 := ⟨cw_yL_stage, ini_RL, by decide +kernel⟩
theorem Y_X6_stage : zY yX6_stage (Cond.code yX6_stage cX6_stage 2 (some .int)) 1 := ⟨co_yX6_stage, ini_RX6, by decide +kernel⟩
theorem V_X6_stage : Cond.instanceMethod yX6_stage ∈ zT ∧ Cond.selects yX6_stage.cls yX6_stage yX6_stage ∈ zT := ⟨im_yX6_stage, se_yX6_stage⟩
theorem Y_L_moves : zY yL_moves (Cond.code yL_moves cL_moves 15 (some .boolean)) 6 := ⟨co_yL_moves, ini_RL, by decide +kernel⟩
theorem Y_L_daysIn : zY yL_daysIn (Cond.codeWith yL_daysIn cL_daysIn 4 (some .int) [(0, 6, 7, 26), (0, 6, 11, 16)]) 3 := ⟨cw_yL_daysIn, ini_RL, by decide +kernel⟩
theorem Y_X6_daysIn : zY yX6_daysIn (Cond.code yX6_daysIn cX6_daysIn 5 (some .int)) 2 := ⟨co_yX6_daysIn, ini_RX6, by decide +kernel⟩
theorem V_X6_daysIn : Cond.instanceMethod yX6_daysIn ∈ zT ∧ Cond.selects yX6_daysIn.cls yX6_daysIn yX6_daysIn ∈ zT := ⟨im_yX6_daysIn, se_yX6_daysIn⟩
theorem Y_L_move : zY yL_move (Cond.codeWith yL_move cL_move 4 (some .int) [(0, 6, 7, 26), (0, 6, 11, 16), (0, 6, 15, 19)]) 3 := ⟨cw_yL_move, ini_RL, by decide +kernel⟩
theorem Y_X6_move : zY yX6_move (Cond.code yX6_move cX6_move 5 (some .int)) 2 := ⟨co_yX6_move, ini_RX6, by decide +kernel⟩
theorem V_X6_move : Cond.instanceMethod yX6_move ∈ zT ∧ Cond.selects yX6_move.cls yX6_move yX6_move ∈ zT := ⟨im_yX6_move, se_yX6_move⟩
theorem Y_X6_canCome : zY yX6_canCome (Cond.code yX6_canCome cX6_canCome 2 (some .boolean)) 2 := ⟨co_yX6_canCome, ini_RX6, by decide +kernel⟩
theorem Y_L_quote : zY yL_quote (Cond.codeWith yL_quote cL_quote 5 (some .int) [(0, 7, 8, 26), (0, 7, 13, 16), (0, 7, 18, 19)]) 4 := ⟨cw_yL_quote, ini_RL, by decide +kernel⟩
theorem Y_X6_quote : zY yX6_quote (Cond.code yX6_quote cX6_quote 7 (some .int)) 3 := ⟨co_yX6_quote, ini_RX6, by decide +kernel⟩
theorem V_X6_quote : Cond.instanceMethod yX6_quote ∈ zT ∧ Cond.selects yX6_quote.cls yX6_quote yX6_quote ∈ zT := ⟨im_yX6_quote, se_yX6_quote⟩
theorem Y_X3_init : zY yX3_init (Cond.code yX3_init cX3_init 5 none) 4 := ⟨co_yX3_init, ini_RX3, by decide +kernel⟩
theorem Y_X6_letCount : zY yX6_letCount (Cond.code yX6_letCount cX6_letCount 1 none) 1 := ⟨co_yX6_letCount, ini_RX6, by decide +kernel⟩
theorem Y_L_approve : zY yL_approve (Cond.codeWith yL_approve cL_approve 4 (some .int) [(0, 7, 8, 26), (0, 7, 12, 19)]) 3 := ⟨cw_yL_approve, ini_RL, by decide +kernel⟩
theorem Y_X6_approve : zY yX6_approve (Cond.code yX6_approve cX6_approve 5 none) 2 := ⟨co_yX6_approve, ini_RX6, by decide +kernel⟩
theorem V_X6_approve : Cond.instanceMethod yX6_approve ∈ zT ∧ Cond.selects yX6_approve.cls yX6_approve yX6_approve ∈ zT := ⟨im_yX6_approve, se_yX6_approve⟩
theorem Y_X6_quoteAt : zY yX6_quoteAt (Cond.code yX6_quoteAt cX6_quoteAt 2 (some (.object "SalesDesk$Quote"))) 1 := ⟨co_yX6_quoteAt, ini_RX6, by decide +kernel⟩
theorem V_X6_quoteAt : Cond.instanceMethod yX6_quoteAt ∈ zT ∧ Cond.selects yX6_quoteAt.cls yX6_quoteAt yX6_quoteAt ∈ zT := ⟨im_yX6_quoteAt, se_yX6_quoteAt⟩
theorem Y_X6_canApprove : zY yX6_canApprove (Cond.code yX6_canApprove cX6_canApprove 2 (some .boolean)) 2 := ⟨co_yX6_canApprove, ini_RX6, by decide +kernel⟩
theorem Y_L_freeze : zY yL_freeze (Cond.codeWith yL_freeze cL_freeze 2 (some .int) [(0, 4, 5, 19)]) 1 := ⟨cw_yL_freeze, ini_RL, by decide +kernel⟩
theorem Y_X6_freeze : zY yX6_freeze (Cond.code yX6_freeze cX6_freeze 4 (some .int)) 0 := ⟨co_yX6_freeze, ini_RX6, by decide +kernel⟩
theorem V_X6_freeze : Cond.instanceMethod yX6_freeze ∈ zT ∧ Cond.selects yX6_freeze.cls yX6_freeze yX6_freeze ∈ zT := ⟨im_yX6_freeze, se_yX6_freeze⟩
theorem Y_X2_init : zY yX2_init (Cond.code yX2_init cX2_init 1 none) 0 := ⟨co_yX2_init, ini_RX2, by decide +kernel⟩
theorem Y_L_since : zY yL_since (Cond.codeWith yL_since cL_since 4 (some .int) [(0, 6, 7, 26)]) 3 := ⟨cw_yL_since, ini_RL, by decide +kernel⟩
theorem Y_X6_since : zY yX6_since (Cond.code yX6_since cX6_since 4 (some .int)) 2 := ⟨co_yX6_since, ini_RX6, by decide +kernel⟩
theorem V_X6_since : Cond.instanceMethod yX6_since ∈ zT ∧ Cond.selects yX6_since.cls yX6_since yX6_since ∈ zT := ⟨im_yX6_since, se_yX6_since⟩
theorem Y_L_pass : zY yL_pass (Cond.codeWith yL_pass cL_pass 3 (some .int) [(0, 5, 6, 16), (0, 5, 10, 19)]) 2 := ⟨cw_yL_pass, ini_RL, by decide +kernel⟩
theorem Y_X6_pass : zY yX6_pass (Cond.code yX6_pass cX6_pass 2 (some .int)) 1 := ⟨co_yX6_pass, ini_RX6, by decide +kernel⟩
theorem V_X6_pass : Cond.instanceMethod yX6_pass ∈ zT ∧ Cond.selects yX6_pass.cls yX6_pass yX6_pass ∈ zT := ⟨im_yX6_pass, se_yX6_pass⟩
theorem Y_L_chances : zY yL_chances (Cond.code yL_chances cL_chances 12 (some .boolean)) 5 := ⟨co_yL_chances, ini_RL, by decide +kernel⟩
theorem Y_L_worth : zY yL_worth (Cond.codeWith yL_worth cL_worth 3 (some .int) [(0, 5, 6, 26)]) 2 := ⟨cw_yL_worth, ini_RL, by decide +kernel⟩
theorem Y_X6_worth : zY yX6_worth (Cond.code yX6_worth cX6_worth 2 (some .int)) 1 := ⟨co_yX6_worth, ini_RX6, by decide +kernel⟩
theorem V_X6_worth : Cond.instanceMethod yX6_worth ∈ zT ∧ Cond.selects yX6_worth.cls yX6_worth yX6_worth ∈ zT := ⟨im_yX6_worth, se_yX6_worth⟩
theorem Y_L_counting : zY yL_counting (Cond.codeWith yL_counting cL_counting 3 (some .int) [(0, 5, 6, 26), (0, 5, 10, 89)]) 2 := ⟨cw_yL_counting, ini_RL, by decide +kernel⟩
theorem Y_X6_counting : zY yX6_counting (Cond.code yX6_counting cX6_counting 3 (some .int)) 1 := ⟨co_yX6_counting, ini_RX6, by decide +kernel⟩
theorem V_X6_counting : Cond.instanceMethod yX6_counting ∈ zT ∧ Cond.selects yX6_counting.cls yX6_counting yX6_counting ∈ zT := ⟨im_yX6_counting, se_yX6_counting⟩
theorem Y_L_won : zY yL_won (Cond.codeWith yL_won cL_won 3 (some .int) [(0, 5, 6, 26)]) 2 := ⟨cw_yL_won, ini_RL, by decide +kernel⟩
theorem Y_X6_won : zY yX6_won (Cond.code yX6_won cX6_won 6 (some .int)) 1 := ⟨co_yX6_won, ini_RX6, by decide +kernel⟩
theorem V_X6_won : Cond.instanceMethod yX6_won ∈ zT ∧ Cond.selects yX6_won.cls yX6_won yX6_won ∈ zT := ⟨im_yX6_won, se_yX6_won⟩
theorem Y_X6_isInTree : zY yX6_isInTree (Cond.code yX6_isInTree cX6_isInTree 3 (some .boolean)) 2 := ⟨co_yX6_isInTree, ini_RX6, by decide +kernel⟩
theorem Y_L_sellers : zY yL_sellers (Cond.code yL_sellers cL_sellers 8 (some .boolean)) 3 := ⟨co_yL_sellers, ini_RL, by decide +kernel⟩
theorem Y_L_own : zY yL_own (Cond.codeWith yL_own cL_own 3 (some .int) [(0, 5, 6, 26)]) 2 := ⟨cw_yL_own, ini_RL, by decide +kernel⟩
theorem Y_X6_own : zY yX6_own (Cond.code yX6_own cX6_own 2 (some .int)) 1 := ⟨co_yX6_own, ini_RX6, by decide +kernel⟩
theorem V_X6_own : Cond.instanceMethod yX6_own ∈ zT ∧ Cond.selects yX6_own.cls yX6_own yX6_own ∈ zT := ⟨im_yX6_own, se_yX6_own⟩
theorem Y_L_weight : zY yL_weight (Cond.code yL_weight cL_weight 1 (some .int)) 1 := ⟨co_yL_weight, ini_RL, by decide +kernel⟩
