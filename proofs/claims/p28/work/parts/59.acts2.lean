/-! acts: a chance is added, rules change -/
section AC2
variable {X : zX} {p : Program} {l : Launch} {e : Env} {s : State} {m : MethodId} {args : Array Value} {below : List Frame} {meth : Method} {c9 : Code} {σ0 σ : zHp} {loc0 : zK → Nat} {x : Nat → Int32} {a A : Nat → Nat → Int32} {K kd ac se ch : Nat} {xx yy : Int32}
set_option maxRecDepth 100000 in
set_option maxHeartbeats 4000000 in
theorem ac_cha2 (C : zC X p l s m args meth c9 cL_acts 18 RL) (hr : meth.sig.returnType = some .boolean) (hW : LW x a x a A σ) (hT : TI x a A K) (hK : K < 95) (hac : ac < zN (x 1)) (hse : se < zN (x 11)) (hn : zN (x 15) < 16) {v : Nat} (hv1 : 1 ≤ v) (hv2 : v ≤ 1000000) : AG X p l e s m args below meth c9 σ0 loc0 K 0 0 σ 406 [(0, aR 0 0), (1, aR 40 0), (2, aR 80 0), (3, aR 80 1), (4, aR 80 2), (5, aR 80 3), (6, aR 80 4), (7, aI (xx)), (8, aI (yy)), (9, aI (nI (kd))), (10, aI (nI (ac))), (11, aI (nI (se)))] [aI (nI v)] := by
  obtain ⟨hI, hJ, ⟨⟨t0, t1, t2, t3, t4, t5, t6⟩, hTa, hTb, hTd, hTq⟩, h0⟩ := id hT
  obtain ⟨i0, i1, i6, i11, i15, i23, i24, i29, iA, iS, iC, iQ, iP⟩ := id hI.1
  have b0 := i0.2
  have b1 := i1.2
  have b6 := i6.2
  have b11 := i11.2
  have b15 := hJ.1.1
  have b23 := hJ.1.2
  have b29 := i29.2
  have g0 : A 4 0 = nI (zN (x 1)) := t0.trans i1.1
  have g1 : A 4 1 = nI (zN (x 11)) := t1.trans i11.1
  have g2 : A 4 2 = nI (zN (x 15)) := t2.trans i15.1
  have g3 : A 4 3 = nI (zN (x 23)) := t3.trans i23.1
  have g4 : A 4 4 = nI (zN (x 6)) := t4.trans i6.1
  have g5 : A 4 5 = nI (zN (x 29)) := t5.trans i29.1
  have g6 : A 4 6 = nI (zN (x 0)) := t6.trans i0.1
  have hK1 := hT.up
  have hxb : ∀ n, n ≤ 100 → n < 2 ^ 31 := fun n h => by omega
  have hacb : ac < 2 ^ 31 := by omega
  have hseb : se < 2 ^ 31 := by omega
  refine z_istore C dL_acts_406 (by decide) ?_
  refine z_iconst (v := nI 4) C dL_acts_408 (by decide) ?_
  refine z_aload C dL_acts_409 rfl ?_
  refine z_iconst (v := nI 2) C dL_acts_411 (by decide) ?_
  refine z_ialdN C dL_acts_412 (hW.2.2.1 4 (by decide)) (show _ < 7 by omega) (by decide) ?_
  refine z_top (w := (nI (zN (x 15)))) (g2) ?_
  refine z_imul C dL_acts_413 ?_
  refine z_top (w := (nI ((4 * zN (x 15))))) (pk_mul _ _) ?_
  refine z_istore C dL_acts_414 (by decide) ?_
  refine z_aload C dL_acts_416 rfl ?_
  refine z_iload C dL_acts_418 rfl ?_
  refine z_iload C dL_acts_420 rfl ?_
  refine z_iastW (idx := (4 * zN (x 15))) C hW (j := 2) (by decide) dL_acts_422 (show _ < 64 by omega) (fun σ1 A1 hW1 eA1 => ?_)
  have g0_1 : A1 4 0 = nI (zN (x 1)) := by rw [eA1]; exact g0
  have g1_1 : A1 4 1 = nI (zN (x 11)) := by rw [eA1]; exact g1
  have g2_1 : A1 4 2 = nI (zN (x 15)) := by rw [eA1]; exact g2
  have g3_1 : A1 4 3 = nI (zN (x 23)) := by rw [eA1]; exact g3
  have g4_1 : A1 4 4 = nI (zN (x 6)) := by rw [eA1]; exact g4
  have g5_1 : A1 4 5 = nI (zN (x 29)) := by rw [eA1]; exact g5
  have g6_1 : A1 4 6 = nI (zN (x 0)) := by rw [eA1]; exact g6
  refine z_aload C dL_acts_423 rfl ?_
  refine z_iload C dL_acts_425 rfl ?_
  refine z_iconst (v := nI 1) C dL_acts_427 (by decide) ?_
  refine z_iadd C dL_acts_428 ?_
  refine z_top (w := (nI (((4 * zN (x 15)) + 1)))) (nI_add _ _) ?_
  refine z_iload C dL_acts_429 rfl ?_
  refine z_iastW (idx := ((4 * zN (x 15)) + 1)) C hW1 (j := 2) (by decide) dL_acts_431 (show _ < 64 by omega) (fun σ2 A2 hW2 eA2 => ?_)
  have g0_2 : A2 4 0 = nI (zN (x 1)) := by rw [eA2]; exact g0_1
  have g1_2 : A2 4 1 = nI (zN (x 11)) := by rw [eA2]; exact g1_1
  have g2_2 : A2 4 2 = nI (zN (x 15)) := by rw [eA2]; exact g2_1
  have g3_2 : A2 4 3 = nI (zN (x 23)) := by rw [eA2]; exact g3_1
  have g4_2 : A2 4 4 = nI (zN (x 6)) := by rw [eA2]; exact g4_1
  have g5_2 : A2 4 5 = nI (zN (x 29)) := by rw [eA2]; exact g5_1
  have g6_2 : A2 4 6 = nI (zN (x 0)) := by rw [eA2]; exact g6_1
  refine z_aload C dL_acts_432 rfl ?_
  refine z_iload C dL_acts_434 rfl ?_
  refine z_iconst (v := nI 2) C dL_acts_436 (by decide) ?_
  refine z_iadd C dL_acts_437 ?_
  refine z_top (w := (nI (((4 * zN (x 15)) + 2)))) (nI_add _ _) ?_
  refine z_aload C dL_acts_438 rfl ?_
  refine z_bipush (v := nI 6) C dL_acts_440 (by decide) ?_
  refine z_ialdN C dL_acts_442 (hW2.2.2.1 4 (by decide)) (show _ < 7 by omega) (by decide) ?_
  refine z_top (w := (nI (zN (x 0)))) (g6_2) ?_
  refine z_iastW (idx := ((4 * zN (x 15)) + 2)) C hW2 (j := 2) (by decide) dL_acts_443 (show _ < 64 by omega) (fun σ3 A3 hW3 eA3 => ?_)
  have g0_3 : A3 4 0 = nI (zN (x 1)) := by rw [eA3]; exact g0_2
  have g1_3 : A3 4 1 = nI (zN (x 11)) := by rw [eA3]; exact g1_2
  have g2_3 : A3 4 2 = nI (zN (x 15)) := by rw [eA3]; exact g2_2
  have g3_3 : A3 4 3 = nI (zN (x 23)) := by rw [eA3]; exact g3_2
  have g4_3 : A3 4 4 = nI (zN (x 6)) := by rw [eA3]; exact g4_2
  have g5_3 : A3 4 5 = nI (zN (x 29)) := by rw [eA3]; exact g5_2
  have g6_3 : A3 4 6 = nI (zN (x 0)) := by rw [eA3]; exact g6_2
  refine z_aload C dL_acts_444 rfl ?_
  refine z_iload C dL_acts_446 rfl ?_
  refine z_iconst (v := nI 3) C dL_acts_448 (by decide) ?_
  refine z_iadd C dL_acts_449 ?_
  refine z_top (w := (nI (((4 * zN (x 15)) + 3)))) (nI_add _ _) ?_
  refine z_iconst (v := (-1)) C dL_acts_450 (by decide) ?_
  refine z_iastW (idx := ((4 * zN (x 15)) + 3)) C hW3 (j := 2) (by decide) dL_acts_451 (show _ < 64 by omega) (fun σ4 A4 hW4 eA4 => ?_)
  have g0_4 : A4 4 0 = nI (zN (x 1)) := by rw [eA4]; exact g0_3
  have g1_4 : A4 4 1 = nI (zN (x 11)) := by rw [eA4]; exact g1_3
  have g2_4 : A4 4 2 = nI (zN (x 15)) := by rw [eA4]; exact g2_3
  have g3_4 : A4 4 3 = nI (zN (x 23)) := by rw [eA4]; exact g3_3
  have g4_4 : A4 4 4 = nI (zN (x 6)) := by rw [eA4]; exact g4_3
  have g5_4 : A4 4 5 = nI (zN (x 29)) := by rw [eA4]; exact g5_3
  have g6_4 : A4 4 6 = nI (zN (x 0)) := by rw [eA4]; exact g6_3
  refine z_aload C dL_acts_452 rfl ?_
  refine z_iconst (v := nI 2) C dL_acts_454 (by decide) ?_
  refine z_dup2 C (by first | trivial | rfl) (by first | trivial | rfl) dL_acts_455 ?_
  refine z_ialdN C dL_acts_456 (hW4.2.2.1 4 (by decide)) (show _ < 7 by omega) (by decide) ?_
  refine z_top (w := (nI (zN (x 15)))) (g2_4) ?_
  refine z_iconst (v := nI 1) C dL_acts_457 (by decide) ?_
  refine z_iadd C dL_acts_458 ?_
  refine z_top (w := (nI ((zN (x 15) + 1)))) (nI_add _ _) ?_
  refine z_iastW (idx := 2) C hW4 (j := 4) (by decide) dL_acts_459 (show _ < 7 by omega) (fun σ5 A5 hW5 eA5 => ?_)
  have g0_5 : A5 4 0 = nI (zN (x 1)) := by rw [eA5]; exact g0_4
  have g1_5 : A5 4 1 = nI (zN (x 11)) := by rw [eA5]; exact g1_4
  have g2_5 : A5 4 2 = nI ((zN (x 15) + 1)) := by rw [eA5, ua_s]; exact upd_at
  have g3_5 : A5 4 3 = nI (zN (x 23)) := by rw [eA5]; exact g3_4
  have g4_5 : A5 4 4 = nI (zN (x 6)) := by rw [eA5]; exact g4_4
  have g5_5 : A5 4 5 = nI (zN (x 29)) := by rw [eA5]; exact g5_4
  have g6_5 : A5 4 6 = nI (zN (x 0)) := by rw [eA5]; exact g6_4
  have hT2 := keep_chance (A' := A5) hT hac hse hv2 hn (by subst eA5; subst eA4; subst eA3; subst eA2; subst eA1; rfl) (by subst eA5; subst eA4; subst eA3; subst eA2; subst eA1; rfl) (by subst eA5; subst eA4; subst eA3; subst eA2; subst eA1; rfl) (by subst eA5; subst eA4; subst eA3; subst eA2; subst eA1; rfl) (by subst eA5; subst eA4; subst eA3; subst eA2; subst eA1; rfl)
  have hI2 := hT2.1
  refine z_aload_n (i := 0) C dL_acts_460 rfl rfl ?_
  refine z_iload C dL_acts_461 rfl ?_
  refine z_iload C dL_acts_463 rfl ?_
  refine z_iload C dL_acts_465 rfl ?_
  refine z_callSX C Y_L_addChance sm_yL_addChance ml_RL_154 (c_L_addChance l hW5.1 hI) dL_acts_467 rfl rfl (fun _ => Nat.le_of_ble_eq_true rfl) ⟨Nat.le_of_ble_eq_true rfl, Nat.le_of_ble_eq_true rfl⟩ (by show _ ≤ 300 ∧ _ ≤ 5000; omega) (z_w0 (w := (nI (zN (x 15)))) hW5 (goC_0.mpr ⟨band (kacc hI hac) (ksel hI hse), inB_nn (a := 1) (b := 1000000) hv1 hv2 (by decide), lt_t (n := 30) i15 (by decide) (by omega) (by decide)⟩) (i15.1) (fun σ6 hW6 => ?_)) z_nx
  rw [zN_nI hseb] at hW6
  refine z_aload C dL_acts_470 rfl ?_
  refine z_iconst (v := nI 2) C dL_acts_472 (by decide) ?_
  refine z_ialdN C dL_acts_473 (hW6.2.2.1 4 (by decide)) (show _ < 7 by omega) (by decide) ?_
  refine z_top (w := (nI ((zN (x 15) + 1)))) (g2_5) ?_
  refine z_iconst (v := nI 1) C dL_acts_474 (by decide) ?_
  refine z_isub C dL_acts_475 ?_
  refine z_top (w := nI (zN (x 15))) (nI_pred _) ?_
  refine z_icmp_ne (tgt := 548) C dL_acts_476 (by decide) (fun h => absurd (rfl) h) (fun _ => ?_)
  refine z_aload_n (i := 1) C dL_acts_479 rfl rfl ?_
  refine z_iload C dL_acts_480 rfl ?_
  refine z_iload C dL_acts_482 rfl ?_
  refine z_iload C dL_acts_484 rfl ?_
  refine z_callSX C Y_L_addChance sm_yL_addChance ml_RL_154 (c_T_addChance l hW6.2.1 hI) dL_acts_486 rfl rfl (fun _ => Nat.le_of_ble_eq_true rfl) ⟨Nat.le_of_ble_eq_true rfl, Nat.le_of_ble_eq_true rfl⟩ (by show _ ≤ 300 ∧ _ ≤ 5000; omega) (z_x0 (w := (nI (zN (x 15)))) hW6 (goC_0.mpr ⟨band (kacc hI hac) (ksel hI hse), inB_nn (a := 1) (b := 1000000) hv1 hv2 (by decide), lt_t (n := 30) i15 (by decide) (by omega) (by decide)⟩) (i15.1) (fun σ7 hW7 => ?_)) z_nx
  rw [zN_nI hseb] at hW7
  refine z_aload C dL_acts_489 rfl ?_
  refine z_iconst (v := nI 2) C dL_acts_491 (by decide) ?_
  refine z_ialdN C dL_acts_492 (hW7.2.2.1 4 (by decide)) (show _ < 7 by omega) (by decide) ?_
  refine z_top (w := (nI ((zN (x 15) + 1)))) (g2_5) ?_
  refine z_iconst (v := nI 1) C dL_acts_493 (by decide) ?_
  refine z_isub C dL_acts_494 ?_
  refine z_top (w := nI (zN (x 15))) (nI_pred _) ?_
  refine z_icmp_ne (tgt := 548) C dL_acts_495 (by decide) (fun h => absurd (rfl) h) (fun _ => ?_)
  refine z_aload_n (i := 0) C dL_acts_498 rfl rfl ?_
  refine z_iload C dL_acts_499 rfl ?_
  refine z_iload C dL_acts_501 rfl ?_
  refine z_iconst (v := nI 0) C dL_acts_503 (by decide) ?_
  refine z_callSX C Y_L_addChance sm_yL_addChance ml_RL_154 (c_L_addChance l hW7.1 hI2) dL_acts_504 rfl rfl (fun _ => Nat.le_of_ble_eq_true rfl) ⟨Nat.le_of_ble_eq_true rfl, Nat.le_of_ble_eq_true rfl⟩ (by show _ ≤ 300 ∧ _ ≤ 5000; omega) (z_w2 (kx_2 (band (kacc hI2 hac) (ksel hI2 hse)) (by decide)) ?_) z_nx
  refine z_ldc C dL_acts_507 kc_RL_18 ?_
  refine z_icmp_ne (tgt := 548) C dL_acts_509 (by decide) (fun h => absurd (rfl) h) (fun _ => ?_)
  refine z_aload_n (i := 0) C dL_acts_512 rfl rfl ?_
  refine z_iload C dL_acts_513 rfl ?_
  refine z_aload C dL_acts_515 rfl ?_
  refine z_iconst (v := nI 1) C dL_acts_517 (by decide) ?_
  refine z_ialdN C dL_acts_518 (hW7.2.2.1 4 (by decide)) (show _ < 7 by omega) (by decide) ?_
  refine z_top (w := (nI (zN (x 11)))) (g1_5) ?_
  refine z_iconst (v := nI 1) C dL_acts_519 (by decide) ?_
  refine z_callSX C Y_L_addChance sm_yL_addChance ml_RL_154 (c_L_addChance l hW7.1 hI2) dL_acts_520 rfl rfl (fun _ => Nat.le_of_ble_eq_true rfl) ⟨Nat.le_of_ble_eq_true rfl, Nat.le_of_ble_eq_true rfl⟩ (by show _ ≤ 300 ∧ _ ≤ 5000; omega) (z_w1 (kx_1 (band1 (ksel_n hI2))) ?_) z_nx
  refine z_ldc C dL_acts_523 kc_RL_28 ?_
  refine z_icmp_ne (tgt := 548) C dL_acts_525 (by decide) (fun h => absurd (rfl) h) (fun _ => ?_)
  refine z_aload_n (i := 0) C dL_acts_528 rfl rfl ?_
  refine z_aload C dL_acts_529 rfl ?_
  refine z_iconst (v := nI 0) C dL_acts_531 (by decide) ?_
  refine z_ialdN C dL_acts_532 (hW7.2.2.1 4 (by decide)) (show _ < 7 by omega) (by decide) ?_
  refine z_top (w := (nI (zN (x 1)))) (g0_5) ?_
  refine z_iload C dL_acts_533 rfl ?_
  refine z_iconst (v := nI 0) C dL_acts_535 (by decide) ?_
  refine z_callSX C Y_L_addChance sm_yL_addChance ml_RL_154 (c_L_addChance l hW7.1 hI2) dL_acts_536 rfl rfl (fun _ => Nat.le_of_ble_eq_true rfl) ⟨Nat.le_of_ble_eq_true rfl, Nat.le_of_ble_eq_true rfl⟩ (by show _ ≤ 300 ∧ _ ≤ 5000; omega) (z_w1 (kx_1 (band0 (kacc_n hI2))) ?_) z_nx
  refine z_ldc C dL_acts_539 kc_RL_28 ?_
  refine z_icmp_ne (tgt := 548) C dL_acts_541 (by decide) (fun h => absurd (rfl) h) (fun _ => ?_)
  refine z_iconst (v := nI 1) C dL_acts_544 (by decide) ?_
  refine z_goto (tgt := 549) C dL_acts_545 (by decide) ?_
  exact z_iret C hr rfl dL_acts_549 (Nat.le_of_ble_eq_true rfl) (Nat.le_of_ble_eq_true rfl) ⟨_, rfl, rfl, _, _, A5, hW7, hT2.up⟩
set_option maxRecDepth 100000 in
set_option maxHeartbeats 4000000 in
theorem ac_cha (C : zC X p l s m args meth c9 cL_acts 18 RL) (hr : meth.sig.returnType = some .boolean) (hW : LW x a x a A σ) (hT : TI x a A K) (hK : K < 95) (hac : ac < zN (x 1)) (hse : se < zN (x 11)) (hn : zN (x 15) < 16) : AG X p l e s m args below meth c9 σ0 loc0 K 0 0 σ 377 [(0, aR 0 0), (1, aR 40 0), (2, aR 80 0), (3, aR 80 1), (4, aR 80 2), (5, aR 80 3), (6, aR 80 4), (7, aI (xx)), (8, aI (yy)), (9, aI (nI (kd))), (10, aI (nI (ac))), (11, aI (nI (se)))] [] := by
  obtain ⟨hI, hJ, ⟨⟨t0, t1, t2, t3, t4, t5, t6⟩, hTa, hTb, hTd, hTq⟩, h0⟩ := id hT
  obtain ⟨i0, i1, i6, i11, i15, i23, i24, i29, iA, iS, iC, iQ, iP⟩ := id hI.1
  have b0 := i0.2
  have b1 := i1.2
  have b6 := i6.2
  have b11 := i11.2
  have b15 := hJ.1.1
  have b23 := hJ.1.2
  have b29 := i29.2
  have g0 : A 4 0 = nI (zN (x 1)) := t0.trans i1.1
  have g1 : A 4 1 = nI (zN (x 11)) := t1.trans i11.1
  have g2 : A 4 2 = nI (zN (x 15)) := t2.trans i15.1
  have g3 : A 4 3 = nI (zN (x 23)) := t3.trans i23.1
  have g4 : A 4 4 = nI (zN (x 6)) := t4.trans i6.1
  have g5 : A 4 5 = nI (zN (x 29)) := t5.trans i29.1
  have g6 : A 4 6 = nI (zN (x 0)) := t6.trans i0.1
  have hK1 := hT.up
  have hxb : ∀ n, n ≤ 100 → n < 2 ^ 31 := fun n h => by omega
  refine z_iconst (v := nI 1) C dL_acts_377 (by decide) ?_
  refine z_iload C dL_acts_378 rfl ?_
  refine z_iconst (v := nI 4) C dL_acts_380 (by decide) ?_
  refine z_ishr C dL_acts_381 ?_
  refine z_iload C dL_acts_382 rfl ?_
  refine z_bipush (v := nI 8) C dL_acts_384 (by decide) ?_
  refine z_ishr C dL_acts_386 ?_
  refine z_iconst (v := nI 3) C dL_acts_387 (by decide) ?_
  refine z_callS C Y_L_low sm_yL_low ml_RL_147 (c_L_low l (n := 3) (by omega) (by omega)) dL_acts_388 rfl rfl (fun _ => Nat.le_of_ble_eq_true rfl) ⟨Nat.le_of_ble_eq_true rfl, Nat.le_of_ble_eq_true rfl⟩ (by show _ ≤ 300 ∧ _ ≤ 5000; omega) (z_p0 (w := (nI (lowN (xx >>> (nI 8 &&& 31)) 3))) (rfl) ?_) z_nx
  refine z_if_ne (tgt := 399) C dL_acts_391 (by decide) (fun h391 => ?_) (fun h391 => ?_)
  · obtain ⟨v0, ev⟩ : ∃ v0, lowN (yy >>> (nI 4 &&& 31)) 500 = v0 := ⟨_, rfl⟩
    have hv : v0 < 500 := by rw [← ev]; exact lowN_lt (by decide)
    refine z_sipush (v := nI 500) C dL_acts_399 (by decide) ?_
    refine z_callS C Y_L_low sm_yL_low ml_RL_147 (c_L_low l (n := 500) (by omega) (by omega)) dL_acts_402 rfl rfl (fun _ => Nat.le_of_ble_eq_true rfl) ⟨Nat.le_of_ble_eq_true rfl, Nat.le_of_ble_eq_true rfl⟩ (by show _ ≤ 300 ∧ _ ≤ 5000; omega) (z_p0 (w := (nI (v0))) (congrArg nI ev) ?_) z_nx
    refine z_iadd C dL_acts_405 ?_
    refine z_top (w := (nI ((1 + v0)))) (nI_add _ _) ?_
    refine z_sub (L' := [(0, aR 0 0), (1, aR 40 0), (2, aR 80 0), (3, aR 80 1), (4, aR 80 2), (5, aR 80 3), (6, aR 80 4), (7, aI (xx)), (8, aI (yy)), (9, aI (nI (kd))), (10, aI (nI (ac))), (11, aI (nI (se)))]) (zs1 rfl (zs1 rfl (zs1 rfl (zs1 rfl (zs1 rfl (zs1 rfl (zs1 rfl (zs1 rfl (zs1 rfl (zs1 rfl (zs1 rfl (zs1 rfl zs0)))))))))))) ?_
    exact ac_cha2 C hr hW hT hK hac hse hn (by omega) (by omega)
  · obtain ⟨v0, ev⟩ : ∃ v0, lowN (yy >>> (nI 4 &&& 31)) 1000000 = v0 := ⟨_, rfl⟩
    have hv : v0 < 1000000 := by rw [← ev]; exact lowN_lt (by decide)
    refine z_ldc C dL_acts_394 kc_RL_117 ?_
    refine z_top (w := (nI 1000000)) (by decide) ?_
    refine z_goto (tgt := 402) C dL_acts_396 (by decide) ?_
    refine z_callS C Y_L_low sm_yL_low ml_RL_147 (c_L_low l (n := 1000000) (by omega) (by omega)) dL_acts_402 rfl rfl (fun _ => Nat.le_of_ble_eq_true rfl) ⟨Nat.le_of_ble_eq_true rfl, Nat.le_of_ble_eq_true rfl⟩ (by show _ ≤ 300 ∧ _ ≤ 5000; omega) (z_p0 (w := (nI (v0))) (congrArg nI ev) ?_) z_nx
    refine z_iadd C dL_acts_405 ?_
    refine z_top (w := (nI ((1 + v0)))) (nI_add _ _) ?_
    refine z_sub (L' := [(0, aR 0 0), (1, aR 40 0), (2, aR 80 0), (3, aR 80 1), (4, aR 80 2), (5, aR 80 3), (6, aR 80 4), (7, aI (xx)), (8, aI (yy)), (9, aI (nI (kd))), (10, aI (nI (ac))), (11, aI (nI (se)))]) (zs1 rfl (zs1 rfl (zs1 rfl (zs1 rfl (zs1 rfl (zs1 rfl (zs1 rfl (zs1 rfl (zs1 rfl (zs1 rfl (zs1 rfl (zs1 rfl zs0)))))))))))) ?_
    exact ac_cha2 C hr hW hT hK hac hse hn (by omega) (by omega)
set_option maxRecDepth 100000 in
set_option maxHeartbeats 4000000 in
theorem ac_rem (C : zC X p l s m args meth c9 cL_acts 18 RL) (hr : meth.sig.returnType = some .boolean) (hW : LW x a x a A σ) (hT : TI x a A K) (hK : K < 95) (hac : ac < zN (x 1)) (hse : se < zN (x 11)) (hch : ch < zN (x 15)) {pl fi l2 : Nat} {due : Int32} (hpl : pl < zN (x 6) + 1) (hfi : fi < 10) (hl2 : l2 < 10 - fi) (h6 : 0 < zN (x 6)) : AG X p l e s m args below meth c9 σ0 loc0 K 0 0 σ 654 [(0, aR 0 0), (1, aR 40 0), (2, aR 80 0), (3, aR 80 1), (4, aR 80 2), (5, aR 80 3), (6, aR 80 4), (7, aI (xx)), (8, aI (yy)), (9, aI (nI (kd))), (10, aI (nI (ac))), (11, aI (nI (se))), (12, aI (nI (ch))), (13, aI (nI (pl))), (14, aI (nI (fi))), (15, aI (nI (fi + l2))), (16, aI (due))] [] := by
  obtain ⟨hI, hJ, ⟨⟨t0, t1, t2, t3, t4, t5, t6⟩, hTa, hTb, hTd, hTq⟩, h0⟩ := id hT
  obtain ⟨i0, i1, i6, i11, i15, i23, i24, i29, iA, iS, iC, iQ, iP⟩ := id hI.1
  have b0 := i0.2
  have b1 := i1.2
  have b6 := i6.2
  have b11 := i11.2
  have b15 := hJ.1.1
  have b23 := hJ.1.2
  have b29 := i29.2
  have g0 : A 4 0 = nI (zN (x 1)) := t0.trans i1.1
  have g1 : A 4 1 = nI (zN (x 11)) := t1.trans i11.1
  have g2 : A 4 2 = nI (zN (x 15)) := t2.trans i15.1
  have g3 : A 4 3 = nI (zN (x 23)) := t3.trans i23.1
  have g4 : A 4 4 = nI (zN (x 6)) := t4.trans i6.1
  have g5 : A 4 5 = nI (zN (x 29)) := t5.trans i29.1
  have g6 : A 4 6 = nI (zN (x 0)) := t6.trans i0.1
  have hK1 := hT.up
  have hxb : ∀ n, n ≤ 100 → n < 2 ^ 31 := fun n h => by omega
  by_cases hpe : pl = zN (x 6)
  · refine z_aload C dL_acts_654 rfl ?_
    refine z_iconst (v := nI 4) C dL_acts_656 (by decide) ?_
    refine z_dup2 C (by first | trivial | rfl) (by first | trivial | rfl) dL_acts_657 ?_
    refine z_ialdN C dL_acts_658 (hW.2.2.1 4 (by decide)) (show _ < 7 by omega) (by decide) ?_
    refine z_top (w := (nI (zN (x 6)))) (g4) ?_
    refine z_iconst (v := nI 1) C dL_acts_659 (by decide) ?_
    refine z_isub C dL_acts_660 ?_
    refine z_top (w := nI (zN (x 6) - 1)) (by rw [← pk_sub (by omega)]) ?_
    refine z_iastW (idx := 4) C hW (j := 4) (by decide) dL_acts_661 (show _ < 7 by omega) (fun σ1 A1 hW1 eA1 => ?_)
    have g0_1 : A1 4 0 = nI (zN (x 1)) := by rw [eA1]; exact g0
    have g1_1 : A1 4 1 = nI (zN (x 11)) := by rw [eA1]; exact g1
    have g2_1 : A1 4 2 = nI (zN (x 15)) := by rw [eA1]; exact g2
    have g3_1 : A1 4 3 = nI (zN (x 23)) := by rw [eA1]; exact g3
    have g4_1 : A1 4 4 = nI (zN (x 6) - 1) := by rw [eA1, ua_s]; exact upd_at
    have g5_1 : A1 4 5 = nI (zN (x 29)) := by rw [eA1]; exact g5
    have g6_1 : A1 4 6 = nI (zN (x 0)) := by rw [eA1]; exact g6
    have hT2 := keep_rem (A' := A1) (p := 0) hT (by omega) (by subst eA1; rfl) (by subst eA1; rfl) (by subst eA1; rfl) (by subst eA1; rfl) (by subst eA1; rfl)
    have hI2 := hT2.1
    have e6 : x 6 - 1 = nI (zN (x 6) - 1) := by rw [← pk_sub (by omega), ← i6.1]; rfl
    have h66 : zN (x 6) - 1 + 1 = zN (x 6) := by omega
    refine z_aload_n (i := 0) C dL_acts_662 rfl rfl ?_
    refine z_iload C dL_acts_663 rfl ?_
    refine z_aload C dL_acts_665 rfl ?_
    refine z_iconst (v := nI 4) C dL_acts_667 (by decide) ?_
    refine z_ialdN C dL_acts_668 (hW1.2.2.1 4 (by decide)) (show _ < 7 by omega) (by decide) ?_
    refine z_top (w := (nI (zN (x 6) - 1))) (g4_1) ?_
    refine z_iconst (v := nI 1) C dL_acts_669 (by decide) ?_
    refine z_iadd C dL_acts_670 ?_
    refine z_top (w := (nI ((zN (x 6) - 1 + 1)))) (nI_add _ _) ?_
    refine z_icmp_ne (tgt := 678) C dL_acts_671 (by decide) (fun h => absurd (by rw [hpe, h66]) h) (fun _ => ?_)
    refine z_iconst (v := nI 0) C dL_acts_674 (by decide) ?_
    refine z_goto (tgt := 680) C dL_acts_675 (by decide) ?_
    refine z_callSX C Y_L_removeRule sm_yL_removeRule ml_RL_156 (c_L_removeRule l hW1.1 hI) dL_acts_680 rfl rfl (fun _ => Nat.le_of_ble_eq_true rfl) ⟨Nat.le_of_ble_eq_true rfl, Nat.le_of_ble_eq_true rfl⟩ (by show _ ≤ 300 ∧ _ ≤ 5000; omega) (z_w0 (w := (nI (zN (x 6) - 1))) hW1 (goC_0.mpr ⟨inB_nI i6 (by decide) (by omega), rfl, rfl⟩) (e6) (fun σ2 hW2 => ?_)) z_nx
    rw [zN_nI (show 0 < 2 ^ 31 by omega)] at hW2
    refine z_aload C dL_acts_683 rfl ?_
    refine z_iconst (v := nI 4) C dL_acts_685 (by decide) ?_
    refine z_ialdN C dL_acts_686 (hW2.2.2.1 4 (by decide)) (show _ < 7 by omega) (by decide) ?_
    refine z_top (w := (nI (zN (x 6) - 1))) (g4_1) ?_
    refine z_icmp_ne (tgt := 735) C dL_acts_687 (by decide) (fun h => absurd (rfl) h) (fun _ => ?_)
    refine z_aload_n (i := 1) C dL_acts_690 rfl rfl ?_
    refine z_iload C dL_acts_691 rfl ?_
    refine z_aload C dL_acts_693 rfl ?_
    refine z_iconst (v := nI 4) C dL_acts_695 (by decide) ?_
    refine z_ialdN C dL_acts_696 (hW2.2.2.1 4 (by decide)) (show _ < 7 by omega) (by decide) ?_
    refine z_top (w := (nI (zN (x 6) - 1))) (g4_1) ?_
    refine z_iconst (v := nI 1) C dL_acts_697 (by decide) ?_
    refine z_iadd C dL_acts_698 ?_
    refine z_top (w := (nI ((zN (x 6) - 1 + 1)))) (nI_add _ _) ?_
    refine z_icmp_ne (tgt := 706) C dL_acts_699 (by decide) (fun h => absurd (by rw [hpe, h66]) h) (fun _ => ?_)
    refine z_iconst (v := nI 0) C dL_acts_702 (by decide) ?_
    refine z_goto (tgt := 708) C dL_acts_703 (by decide) ?_
    refine z_callSX C Y_L_removeRule sm_yL_removeRule ml_RL_156 (c_T_removeRule l hW2.2.1 hI) dL_acts_708 rfl rfl (fun _ => Nat.le_of_ble_eq_true rfl) ⟨Nat.le_of_ble_eq_true rfl, Nat.le_of_ble_eq_true rfl⟩ (by show _ ≤ 300 ∧ _ ≤ 5000; omega) (z_x0 (w := (nI (zN (x 6) - 1))) hW2 (goC_0.mpr ⟨inB_nI i6 (by decide) (by omega), rfl, rfl⟩) (e6) (fun σ3 hW3 => ?_)) z_nx
    rw [zN_nI (show 0 < 2 ^ 31 by omega)] at hW3
    refine z_aload C dL_acts_711 rfl ?_
    refine z_iconst (v := nI 4) C dL_acts_713 (by decide) ?_
    refine z_ialdN C dL_acts_714 (hW3.2.2.1 4 (by decide)) (show _ < 7 by omega) (by decide) ?_
    refine z_top (w := (nI (zN (x 6) - 1))) (g4_1) ?_
    refine z_icmp_ne (tgt := 735) C dL_acts_715 (by decide) (fun h => absurd (rfl) h) (fun _ => ?_)
    have hz6 : zN (upd x 6 (x 6 - 1) 6) = zN (x 6) - 1 := by rw [upd_at, e6]; exact zN_nI (by omega)
    refine z_aload_n (i := 0) C dL_acts_718 rfl rfl ?_
    refine z_aload C dL_acts_719 rfl ?_
    refine z_iconst (v := nI 4) C dL_acts_721 (by decide) ?_
    refine z_ialdN C dL_acts_722 (hW3.2.2.1 4 (by decide)) (show _ < 7 by omega) (by decide) ?_
    refine z_top (w := (nI (zN (x 6) - 1))) (g4_1) ?_
    refine z_callSX C Y_L_removeRule sm_yL_removeRule ml_RL_156 (c_L_removeRule l hW3.1 hI2) dL_acts_723 rfl rfl (fun _ => Nat.le_of_ble_eq_true rfl) ⟨Nat.le_of_ble_eq_true rfl, Nat.le_of_ble_eq_true rfl⟩ (by show _ ≤ 300 ∧ _ ≤ 5000; omega) (z_w1 (kx_1 (inB_out hI2.1.2.2.1 (by decide) (by rw [hz6]; exact Nat.le_refl _) (by omega))) ?_) z_nx
    refine z_ldc C dL_acts_726 kc_RL_28 ?_
    refine z_icmp_ne (tgt := 735) C dL_acts_728 (by decide) (fun h => absurd (rfl) h) (fun _ => ?_)
    refine z_iconst (v := nI 1) C dL_acts_731 (by decide) ?_
    refine z_goto (tgt := 736) C dL_acts_732 (by decide) ?_
    exact z_iret C hr rfl dL_acts_736 (Nat.le_of_ble_eq_true rfl) (Nat.le_of_ble_eq_true rfl) ⟨_, rfl, rfl, _, _, A1, hW3, hT2.up⟩

  · refine z_aload C dL_acts_654 rfl ?_
    refine z_iconst (v := nI 4) C dL_acts_656 (by decide) ?_
    refine z_dup2 C (by first | trivial | rfl) (by first | trivial | rfl) dL_acts_657 ?_
    refine z_ialdN C dL_acts_658 (hW.2.2.1 4 (by decide)) (show _ < 7 by omega) (by decide) ?_
    refine z_top (w := (nI (zN (x 6)))) (g4) ?_
    refine z_iconst (v := nI 1) C dL_acts_659 (by decide) ?_
    refine z_isub C dL_acts_660 ?_
    refine z_top (w := nI (zN (x 6) - 1)) (by rw [← pk_sub (by omega)]) ?_
    refine z_iastW (idx := 4) C hW (j := 4) (by decide) dL_acts_661 (show _ < 7 by omega) (fun σ1 A1 hW1 eA1 => ?_)
    have g0_1 : A1 4 0 = nI (zN (x 1)) := by rw [eA1]; exact g0
    have g1_1 : A1 4 1 = nI (zN (x 11)) := by rw [eA1]; exact g1
    have g2_1 : A1 4 2 = nI (zN (x 15)) := by rw [eA1]; exact g2
    have g3_1 : A1 4 3 = nI (zN (x 23)) := by rw [eA1]; exact g3
    have g4_1 : A1 4 4 = nI (zN (x 6) - 1) := by rw [eA1, ua_s]; exact upd_at
    have g5_1 : A1 4 5 = nI (zN (x 29)) := by rw [eA1]; exact g5
    have g6_1 : A1 4 6 = nI (zN (x 0)) := by rw [eA1]; exact g6
    have hT2 := keep_rem (A' := A1) (p := pl) hT (by omega) (by subst eA1; rfl) (by subst eA1; rfl) (by subst eA1; rfl) (by subst eA1; rfl) (by subst eA1; rfl)
    have hI2 := hT2.1
    have e6 : x 6 - 1 = nI (zN (x 6) - 1) := by rw [← pk_sub (by omega), ← i6.1]; rfl
    have h66 : zN (x 6) - 1 + 1 = zN (x 6) := by omega
    refine z_aload_n (i := 0) C dL_acts_662 rfl rfl ?_
    refine z_iload C dL_acts_663 rfl ?_
    refine z_aload C dL_acts_665 rfl ?_
    refine z_iconst (v := nI 4) C dL_acts_667 (by decide) ?_
    refine z_ialdN C dL_acts_668 (hW1.2.2.1 4 (by decide)) (show _ < 7 by omega) (by decide) ?_
    refine z_top (w := (nI (zN (x 6) - 1))) (g4_1) ?_
    refine z_iconst (v := nI 1) C dL_acts_669 (by decide) ?_
    refine z_iadd C dL_acts_670 ?_
    refine z_top (w := (nI ((zN (x 6) - 1 + 1)))) (nI_add _ _) ?_
    refine z_icmp_ne (tgt := 678) C dL_acts_671 (by decide) (fun _ => ?_) (fun h => absurd h (fun z => hpe (by rw [h66] at z; exact (nI_eq (by omega) (by omega)).mp z)))
    refine z_iload C dL_acts_678 rfl ?_
    refine z_callSX C Y_L_removeRule sm_yL_removeRule ml_RL_156 (c_L_removeRule l hW1.1 hI) dL_acts_680 rfl rfl (fun _ => Nat.le_of_ble_eq_true rfl) ⟨Nat.le_of_ble_eq_true rfl, Nat.le_of_ble_eq_true rfl⟩ (by show _ ≤ 300 ∧ _ ≤ 5000; omega) (z_w0 (w := (nI (zN (x 6) - 1))) hW1 (goC_0.mpr ⟨inB_nI i6 (by decide) (by omega), rfl, rfl⟩) (e6) (fun σ2 hW2 => ?_)) z_nx
    rw [zN_nI (show pl < 2 ^ 31 by omega)] at hW2
    refine z_aload C dL_acts_683 rfl ?_
    refine z_iconst (v := nI 4) C dL_acts_685 (by decide) ?_
    refine z_ialdN C dL_acts_686 (hW2.2.2.1 4 (by decide)) (show _ < 7 by omega) (by decide) ?_
    refine z_top (w := (nI (zN (x 6) - 1))) (g4_1) ?_
    refine z_icmp_ne (tgt := 735) C dL_acts_687 (by decide) (fun h => absurd (rfl) h) (fun _ => ?_)
    refine z_aload_n (i := 1) C dL_acts_690 rfl rfl ?_
    refine z_iload C dL_acts_691 rfl ?_
    refine z_aload C dL_acts_693 rfl ?_
    refine z_iconst (v := nI 4) C dL_acts_695 (by decide) ?_
    refine z_ialdN C dL_acts_696 (hW2.2.2.1 4 (by decide)) (show _ < 7 by omega) (by decide) ?_
    refine z_top (w := (nI (zN (x 6) - 1))) (g4_1) ?_
    refine z_iconst (v := nI 1) C dL_acts_697 (by decide) ?_
    refine z_iadd C dL_acts_698 ?_
    refine z_top (w := (nI ((zN (x 6) - 1 + 1)))) (nI_add _ _) ?_
    refine z_icmp_ne (tgt := 706) C dL_acts_699 (by decide) (fun _ => ?_) (fun h => absurd h (fun z => hpe (by rw [h66] at z; exact (nI_eq (by omega) (by omega)).mp z)))
    refine z_iload C dL_acts_706 rfl ?_
    refine z_callSX C Y_L_removeRule sm_yL_removeRule ml_RL_156 (c_T_removeRule l hW2.2.1 hI) dL_acts_708 rfl rfl (fun _ => Nat.le_of_ble_eq_true rfl) ⟨Nat.le_of_ble_eq_true rfl, Nat.le_of_ble_eq_true rfl⟩ (by show _ ≤ 300 ∧ _ ≤ 5000; omega) (z_x0 (w := (nI (zN (x 6) - 1))) hW2 (goC_0.mpr ⟨inB_nI i6 (by decide) (by omega), rfl, rfl⟩) (e6) (fun σ3 hW3 => ?_)) z_nx
    rw [zN_nI (show pl < 2 ^ 31 by omega)] at hW3
    refine z_aload C dL_acts_711 rfl ?_
    refine z_iconst (v := nI 4) C dL_acts_713 (by decide) ?_
    refine z_ialdN C dL_acts_714 (hW3.2.2.1 4 (by decide)) (show _ < 7 by omega) (by decide) ?_
    refine z_top (w := (nI (zN (x 6) - 1))) (g4_1) ?_
    refine z_icmp_ne (tgt := 735) C dL_acts_715 (by decide) (fun h => absurd (rfl) h) (fun _ => ?_)
    have hz6 : zN (upd x 6 (x 6 - 1) 6) = zN (x 6) - 1 := by rw [upd_at, e6]; exact zN_nI (by omega)
    refine z_aload_n (i := 0) C dL_acts_718 rfl rfl ?_
    refine z_aload C dL_acts_719 rfl ?_
    refine z_iconst (v := nI 4) C dL_acts_721 (by decide) ?_
    refine z_ialdN C dL_acts_722 (hW3.2.2.1 4 (by decide)) (show _ < 7 by omega) (by decide) ?_
    refine z_top (w := (nI (zN (x 6) - 1))) (g4_1) ?_
    refine z_callSX C Y_L_removeRule sm_yL_removeRule ml_RL_156 (c_L_removeRule l hW3.1 hI2) dL_acts_723 rfl rfl (fun _ => Nat.le_of_ble_eq_true rfl) ⟨Nat.le_of_ble_eq_true rfl, Nat.le_of_ble_eq_true rfl⟩ (by show _ ≤ 300 ∧ _ ≤ 5000; omega) (z_w1 (kx_1 (inB_out hI2.1.2.2.1 (by decide) (by rw [hz6]; exact Nat.le_refl _) (by omega))) ?_) z_nx
    refine z_ldc C dL_acts_726 kc_RL_28 ?_
    refine z_icmp_ne (tgt := 735) C dL_acts_728 (by decide) (fun h => absurd (rfl) h) (fun _ => ?_)
    refine z_iconst (v := nI 1) C dL_acts_731 (by decide) ?_
    refine z_goto (tgt := 736) C dL_acts_732 (by decide) ?_
    exact z_iret C hr rfl dL_acts_736 (Nat.le_of_ble_eq_true rfl) (Nat.le_of_ble_eq_true rfl) ⟨_, rfl, rfl, _, _, A1, hW3, hT2.up⟩
set_option maxRecDepth 100000 in
set_option maxHeartbeats 4000000 in
theorem ac_put1 (C : zC X p l s m args meth c9 cL_acts 18 RL) (hr : meth.sig.returnType = some .boolean) (hW : LW x a x a A σ) (hT : TI x a A K) (hK : K < 95) (hac : ac < zN (x 1)) (hse : se < zN (x 11)) (hch : ch < zN (x 15)) {pl fi l2 : Nat} (hpl : pl < zN (x 6) + 1) (hfi : fi < 10) (hl2 : l2 < 10 - fi) (hn : zN (x 6) < 8) : AG X p l e s m args below meth c9 σ0 loc0 K 0 0 σ 737 [(0, aR 0 0), (1, aR 40 0), (2, aR 80 0), (3, aR 80 1), (4, aR 80 2), (5, aR 80 3), (6, aR 80 4), (7, aI (xx)), (8, aI (yy)), (9, aI (nI (kd))), (10, aI (nI (ac))), (11, aI (nI (se))), (12, aI (nI (ch))), (13, aI (nI (pl))), (14, aI (nI (fi))), (15, aI (nI (fi + l2))), (16, aI (nI (zN (x 6) + 1)))] [] := by
  obtain ⟨hI, hJ, ⟨⟨t0, t1, t2, t3, t4, t5, t6⟩, hTa, hTb, hTd, hTq⟩, h0⟩ := id hT
  obtain ⟨i0, i1, i6, i11, i15, i23, i24, i29, iA, iS, iC, iQ, iP⟩ := id hI.1
  have b0 := i0.2
  have b1 := i1.2
  have b6 := i6.2
  have b11 := i11.2
  have b15 := hJ.1.1
  have b23 := hJ.1.2
  have b29 := i29.2
  have g0 : A 4 0 = nI (zN (x 1)) := t0.trans i1.1
  have g1 : A 4 1 = nI (zN (x 11)) := t1.trans i11.1
  have g2 : A 4 2 = nI (zN (x 15)) := t2.trans i15.1
  have g3 : A 4 3 = nI (zN (x 23)) := t3.trans i23.1
  have g4 : A 4 4 = nI (zN (x 6)) := t4.trans i6.1
  have g5 : A 4 5 = nI (zN (x 29)) := t5.trans i29.1
  have g6 : A 4 6 = nI (zN (x 0)) := t6.trans i0.1
  have hK1 := hT.up
  have hxb : ∀ n, n ≤ 100 → n < 2 ^ 31 := fun n h => by omega
  have s5 : lowN (yy >>> (nI 20 &&& 31)) 5 < 5 := lowN_lt (by decide)
  have s4 : lowN (yy >>> (nI 23 &&& 31)) 4 < 4 := lowN_lt (by decide)
  refine z_aload C dL_acts_737 rfl ?_
  refine z_iconst (v := nI 4) C dL_acts_739 (by decide) ?_
  refine z_dup2 C (by first | trivial | rfl) (by first | trivial | rfl) dL_acts_740 ?_
  refine z_ialdN C dL_acts_741 (hW.2.2.1 4 (by decide)) (show _ < 7 by omega) (by decide) ?_
  refine z_top (w := (nI (zN (x 6)))) (g4) ?_
  refine z_iload C dL_acts_742 rfl ?_
  refine z_if_le (tgt := 751) C dL_acts_744 (by decide) (fun h => absurd h (nI_nle (by omega) (by omega))) (fun _ => ?_)
  refine z_iconst (v := nI 1) C dL_acts_747 (by decide) ?_
  refine z_goto (tgt := 752) C dL_acts_748 (by decide) ?_
  refine z_iadd C dL_acts_752 ?_
  refine z_top (w := (nI ((zN (x 6) + 1)))) (nI_add _ _) ?_
  refine z_iastW (idx := 4) C hW (j := 4) (by decide) dL_acts_753 (show _ < 7 by omega) (fun σ1 A1 hW1 eA1 => ?_)
  have g0_1 : A1 4 0 = nI (zN (x 1)) := by rw [eA1]; exact g0
  have g1_1 : A1 4 1 = nI (zN (x 11)) := by rw [eA1]; exact g1
  have g2_1 : A1 4 2 = nI (zN (x 15)) := by rw [eA1]; exact g2
  have g3_1 : A1 4 3 = nI (zN (x 23)) := by rw [eA1]; exact g3
  have g4_1 : A1 4 4 = nI ((zN (x 6) + 1)) := by rw [eA1, ua_s]; exact upd_at
  have g5_1 : A1 4 5 = nI (zN (x 29)) := by rw [eA1]; exact g5
  have g6_1 : A1 4 6 = nI (zN (x 0)) := by rw [eA1]; exact g6
  have hT2 := keep_put (A' := A1) (p := pl) (w := lowN (yy >>> (nI 23 &&& 31)) 4) (f := nI fi) (u := nI (fi + l2)) (g := nI (lowN (yy >>> (nI 20 &&& 31)) 5)) hT (by omega) s4 hn (by subst eA1; rfl) (by subst eA1; rfl) (by subst eA1; rfl) (by subst eA1; rfl) (by subst eA1; rfl)
  have hI2 := hT2.1
  have e6 := (zN_s i6 (by decide)).1
  refine z_aload_n (i := 0) C dL_acts_754 rfl rfl ?_
  refine z_iload C dL_acts_755 rfl ?_
  refine z_iload C dL_acts_757 rfl ?_
  refine z_iload C dL_acts_759 rfl ?_
  refine z_iload C dL_acts_761 rfl ?_
  refine z_bipush (v := nI 20) C dL_acts_763 (by decide) ?_
  refine z_ishr C dL_acts_765 ?_
  refine z_iconst (v := nI 5) C dL_acts_766 (by decide) ?_
  refine z_callS C Y_L_low sm_yL_low ml_RL_147 (c_L_low l (n := 5) (by omega) (by omega)) dL_acts_767 rfl rfl (fun _ => Nat.le_of_ble_eq_true rfl) ⟨Nat.le_of_ble_eq_true rfl, Nat.le_of_ble_eq_true rfl⟩ (by show _ ≤ 300 ∧ _ ≤ 5000; omega) (z_p0 (w := (nI (lowN (yy >>> (nI 20 &&& 31)) 5))) (rfl) ?_) z_nx
  refine z_iload C dL_acts_770 rfl ?_
  refine z_bipush (v := nI 23) C dL_acts_772 (by decide) ?_
  refine z_ishr C dL_acts_774 ?_
  refine z_iconst (v := nI 4) C dL_acts_775 (by decide) ?_
  refine z_callS C Y_L_low sm_yL_low ml_RL_147 (c_L_low l (n := 4) (by omega) (by omega)) dL_acts_776 rfl rfl (fun _ => Nat.le_of_ble_eq_true rfl) ⟨Nat.le_of_ble_eq_true rfl, Nat.le_of_ble_eq_true rfl⟩ (by show _ ≤ 300 ∧ _ ≤ 5000; omega) (z_p0 (w := (nI (lowN (yy >>> (nI 23 &&& 31)) 4))) (rfl) ?_) z_nx
  refine z_callSX C Y_L_putRule sm_yL_putRule ml_RL_158 (c_L_putRule l hW1.1 hI) dL_acts_779 rfl rfl (fun _ => Nat.le_of_ble_eq_true rfl) ⟨Nat.le_of_ble_eq_true rfl, Nat.le_of_ble_eq_true rfl⟩ (by show _ ≤ 300 ∧ _ ≤ 5000; omega) (z_w0 (w := (nI (zN (x 6) + 1))) hW1 (goC_0.mpr ⟨(show inB (nI pl) 0 (x 6) = true by rw [i6.1]; exact inB_nn (a := 0) (by omega) (by omega) (by omega)), (band (inB_nn (a := 0) (b := 9) (by omega) (by omega) (by decide)) (band (inB_nn (b := 9) (by omega) (by omega) (by decide)) (band (inB_nn (a := 0) (b := 9) (by omega) (by omega) (by decide)) (inB_nn (a := 0) (b := 3) (by omega) (by omega) (by decide))))), lt_t (n := 8) i6 (by decide) hn (by decide)⟩) (e6) (fun σ2 hW2 => ?_)) z_nx
  rw [zN_nI (show pl < 2 ^ 31 by omega)] at hW2
  refine z_iload C dL_acts_782 rfl ?_
  refine z_icmp_ne (tgt := 871) C dL_acts_784 (by decide) (fun h => absurd (rfl) h) (fun _ => ?_)
  refine z_aload_n (i := 1) C dL_acts_787 rfl rfl ?_
  refine z_iload C dL_acts_788 rfl ?_
  refine z_iload C dL_acts_790 rfl ?_
  refine z_iload C dL_acts_792 rfl ?_
  refine z_iload C dL_acts_794 rfl ?_
  refine z_bipush (v := nI 20) C dL_acts_796 (by decide) ?_
  refine z_ishr C dL_acts_798 ?_
  refine z_iconst (v := nI 5) C dL_acts_799 (by decide) ?_
  refine z_callS C Y_L_low sm_yL_low ml_RL_147 (c_L_low l (n := 5) (by omega) (by omega)) dL_acts_800 rfl rfl (fun _ => Nat.le_of_ble_eq_true rfl) ⟨Nat.le_of_ble_eq_true rfl, Nat.le_of_ble_eq_true rfl⟩ (by show _ ≤ 300 ∧ _ ≤ 5000; omega) (z_p0 (w := (nI (lowN (yy >>> (nI 20 &&& 31)) 5))) (rfl) ?_) z_nx
  refine z_iload C dL_acts_803 rfl ?_
  refine z_bipush (v := nI 23) C dL_acts_805 (by decide) ?_
  refine z_ishr C dL_acts_807 ?_
  refine z_iconst (v := nI 4) C dL_acts_808 (by decide) ?_
  refine z_callS C Y_L_low sm_yL_low ml_RL_147 (c_L_low l (n := 4) (by omega) (by omega)) dL_acts_809 rfl rfl (fun _ => Nat.le_of_ble_eq_true rfl) ⟨Nat.le_of_ble_eq_true rfl, Nat.le_of_ble_eq_true rfl⟩ (by show _ ≤ 300 ∧ _ ≤ 5000; omega) (z_p0 (w := (nI (lowN (yy >>> (nI 23 &&& 31)) 4))) (rfl) ?_) z_nx
  refine z_callSX C Y_L_putRule sm_yL_putRule ml_RL_158 (c_T_putRule l hW2.2.1 hI) dL_acts_812 rfl rfl (fun _ => Nat.le_of_ble_eq_true rfl) ⟨Nat.le_of_ble_eq_true rfl, Nat.le_of_ble_eq_true rfl⟩ (by show _ ≤ 300 ∧ _ ≤ 5000; omega) (z_x0 (w := (nI (zN (x 6) + 1))) hW2 (goC_0.mpr ⟨(show inB (nI pl) 0 (x 6) = true by rw [i6.1]; exact inB_nn (a := 0) (by omega) (by omega) (by omega)), (band (inB_nn (a := 0) (b := 9) (by omega) (by omega) (by decide)) (band (inB_nn (b := 9) (by omega) (by omega) (by decide)) (band (inB_nn (a := 0) (b := 9) (by omega) (by omega) (by decide)) (inB_nn (a := 0) (b := 3) (by omega) (by omega) (by decide))))), lt_t (n := 8) i6 (by decide) hn (by decide)⟩) (e6) (fun σ3 hW3 => ?_)) z_nx
  rw [zN_nI (show pl < 2 ^ 31 by omega)] at hW3
  refine z_iload C dL_acts_815 rfl ?_
  refine z_icmp_ne (tgt := 871) C dL_acts_817 (by decide) (fun h => absurd (rfl) h) (fun _ => ?_)
  have hz6 : zN (upd x 6 (x 6 + 1) 6) = zN (x 6) + 1 := by rw [upd_at]; exact (zN_s i6 (by decide)).2
  refine z_aload_n (i := 0) C dL_acts_820 rfl rfl ?_
  refine z_aload C dL_acts_821 rfl ?_
  refine z_iconst (v := nI 4) C dL_acts_823 (by decide) ?_
  refine z_ialdN C dL_acts_824 (hW3.2.2.1 4 (by decide)) (show _ < 7 by omega) (by decide) ?_
  refine z_top (w := (nI ((zN (x 6) + 1)))) (g4_1) ?_
  refine z_iconst (v := nI 1) C dL_acts_825 (by decide) ?_
  refine z_iadd C dL_acts_826 ?_
  refine z_top (w := (nI (((zN (x 6) + 1) + 1)))) (nI_add _ _) ?_
  refine z_iconst (v := nI 5) C dL_acts_827 (by decide) ?_
  refine z_iconst (v := nI 4) C dL_acts_828 (by decide) ?_
  refine z_iconst (v := nI 0) C dL_acts_829 (by decide) ?_
  refine z_iconst (v := nI 0) C dL_acts_830 (by decide) ?_
  refine z_callSX C Y_L_putRule sm_yL_putRule ml_RL_158 (c_L_putRule l hW3.1 hI2) dL_acts_831 rfl rfl (fun _ => Nat.le_of_ble_eq_true rfl) ⟨Nat.le_of_ble_eq_true rfl, Nat.le_of_ble_eq_true rfl⟩ (by show _ ≤ 300 ∧ _ ≤ 5000; omega) (z_w1 (kx_1 (inB_hi hI2.1.2.2.1 (by decide) (by rw [hz6]; omega) (by omega))) ?_) z_nx
  refine z_ldc C dL_acts_834 kc_RL_28 ?_
  refine z_icmp_ne (tgt := 871) C dL_acts_836 (by decide) (fun h => absurd (rfl) h) (fun _ => ?_)
  refine z_aload_n (i := 0) C dL_acts_839 rfl rfl ?_
  refine z_iconst (v := nI 0) C dL_acts_840 (by decide) ?_
  refine z_iconst (v := nI 5) C dL_acts_841 (by decide) ?_
  refine z_iconst (v := nI 4) C dL_acts_842 (by decide) ?_
  refine z_iconst (v := nI 0) C dL_acts_843 (by decide) ?_
  refine z_iconst (v := nI 0) C dL_acts_844 (by decide) ?_
  refine z_callSX C Y_L_putRule sm_yL_putRule ml_RL_158 (c_L_putRule l hW3.1 hI2) dL_acts_845 rfl rfl (fun _ => Nat.le_of_ble_eq_true rfl) ⟨Nat.le_of_ble_eq_true rfl, Nat.le_of_ble_eq_true rfl⟩ (by show _ ≤ 300 ∧ _ ≤ 5000; omega) (z_w2 (kx_2 (show inB (nI 0) 0 (upd x 6 (x 6 + 1) 6) = true by rw [hI2.1.2.2.1.1, hz6]; exact inB_nn (a := 0) (by omega) (by omega) (by omega)) (by decide)) ?_) z_nx
  refine z_ldc C dL_acts_848 kc_RL_18 ?_
  refine z_icmp_ne (tgt := 871) C dL_acts_850 (by decide) (fun h => absurd (rfl) h) (fun _ => ?_)
  refine z_aload_n (i := 0) C dL_acts_853 rfl rfl ?_
  refine z_iconst (v := nI 0) C dL_acts_854 (by decide) ?_
  refine z_iconst (v := nI 0) C dL_acts_855 (by decide) ?_
  refine z_iconst (v := nI 0) C dL_acts_856 (by decide) ?_
  refine z_iconst (v := nI 0) C dL_acts_857 (by decide) ?_
  refine z_iconst (v := nI 4) C dL_acts_858 (by decide) ?_
  refine z_callSX C Y_L_putRule sm_yL_putRule ml_RL_158 (c_L_putRule l hW3.1 hI2) dL_acts_859 rfl rfl (fun _ => Nat.le_of_ble_eq_true rfl) ⟨Nat.le_of_ble_eq_true rfl, Nat.le_of_ble_eq_true rfl⟩ (by show _ ≤ 300 ∧ _ ≤ 5000; omega) (z_w2 (kx_2 (show inB (nI 0) 0 (upd x 6 (x 6 + 1) 6) = true by rw [hI2.1.2.2.1.1, hz6]; exact inB_nn (a := 0) (by omega) (by omega) (by omega)) (by decide)) ?_) z_nx
  refine z_ldc C dL_acts_862 kc_RL_18 ?_
  refine z_icmp_ne (tgt := 871) C dL_acts_864 (by decide) (fun h => absurd (rfl) h) (fun _ => ?_)
  refine z_iconst (v := nI 1) C dL_acts_867 (by decide) ?_
  refine z_goto (tgt := 872) C dL_acts_868 (by decide) ?_
  exact z_iret C hr rfl dL_acts_872 (Nat.le_of_ble_eq_true rfl) (Nat.le_of_ble_eq_true rfl) ⟨_, rfl, rfl, _, _, A1, hW3, hT2.up⟩
set_option maxRecDepth 100000 in
set_option maxHeartbeats 4000000 in
theorem ac_put0 (C : zC X p l s m args meth c9 cL_acts 18 RL) (hr : meth.sig.returnType = some .boolean) (hW : LW x a x a A σ) (hT : TI x a A K) (hK : K < 95) (hac : ac < zN (x 1)) (hse : se < zN (x 11)) (hch : ch < zN (x 15)) {pl fi l2 : Nat} (hpl : pl < zN (x 6) + 1) (hfi : fi < 10) (hl2 : l2 < 10 - fi) (hn : 8 ≤ zN (x 6)) : AG X p l e s m args below meth c9 σ0 loc0 K 0 0 σ 737 [(0, aR 0 0), (1, aR 40 0), (2, aR 80 0), (3, aR 80 1), (4, aR 80 2), (5, aR 80 3), (6, aR 80 4), (7, aI (xx)), (8, aI (yy)), (9, aI (nI (kd))), (10, aI (nI (ac))), (11, aI (nI (se))), (12, aI (nI (ch))), (13, aI (nI (pl))), (14, aI (nI (fi))), (15, aI (nI (fi + l2))), (16, aI ((-1000003)))] [] := by
  obtain ⟨hI, hJ, ⟨⟨t0, t1, t2, t3, t4, t5, t6⟩, hTa, hTb, hTd, hTq⟩, h0⟩ := id hT
  obtain ⟨i0, i1, i6, i11, i15, i23, i24, i29, iA, iS, iC, iQ, iP⟩ := id hI.1
  have b0 := i0.2
  have b1 := i1.2
  have b6 := i6.2
  have b11 := i11.2
  have b15 := hJ.1.1
  have b23 := hJ.1.2
  have b29 := i29.2
  have g0 : A 4 0 = nI (zN (x 1)) := t0.trans i1.1
  have g1 : A 4 1 = nI (zN (x 11)) := t1.trans i11.1
  have g2 : A 4 2 = nI (zN (x 15)) := t2.trans i15.1
  have g3 : A 4 3 = nI (zN (x 23)) := t3.trans i23.1
  have g4 : A 4 4 = nI (zN (x 6)) := t4.trans i6.1
  have g5 : A 4 5 = nI (zN (x 29)) := t5.trans i29.1
  have g6 : A 4 6 = nI (zN (x 0)) := t6.trans i0.1
  have hK1 := hT.up
  have hxb : ∀ n, n ≤ 100 → n < 2 ^ 31 := fun n h => by omega
  have s5 : lowN (yy >>> (nI 20 &&& 31)) 5 < 5 := lowN_lt (by decide)
  have s4 : lowN (yy >>> (nI 23 &&& 31)) 4 < 4 := lowN_lt (by decide)
  refine z_aload C dL_acts_737 rfl ?_
  refine z_iconst (v := nI 4) C dL_acts_739 (by decide) ?_
  refine z_dup2 C (by first | trivial | rfl) (by first | trivial | rfl) dL_acts_740 ?_
  refine z_ialdN C dL_acts_741 (hW.2.2.1 4 (by decide)) (show _ < 7 by omega) (by decide) ?_
  refine z_top (w := (nI (zN (x 6)))) (g4) ?_
  refine z_iload C dL_acts_742 rfl ?_
  refine z_if_le (tgt := 751) C dL_acts_744 (by decide) (fun _ => ?_) (fun h => absurd (by decide) h)
  refine z_iconst (v := nI 0) C dL_acts_751 (by decide) ?_
  refine z_iadd C dL_acts_752 ?_
  refine z_top (w := (nI ((zN (x 6) + 0)))) (nI_add _ _) ?_
  refine z_iastW (idx := 4) C hW (j := 4) (by decide) dL_acts_753 (show _ < 7 by omega) (fun σ1 A1 hW1 eA1 => ?_)
  have g0_1 : A1 4 0 = nI (zN (x 1)) := by rw [eA1]; exact g0
  have g1_1 : A1 4 1 = nI (zN (x 11)) := by rw [eA1]; exact g1
  have g2_1 : A1 4 2 = nI (zN (x 15)) := by rw [eA1]; exact g2
  have g3_1 : A1 4 3 = nI (zN (x 23)) := by rw [eA1]; exact g3
  have g4_1 : A1 4 4 = nI ((zN (x 6) + 0)) := by rw [eA1, ua_s]; exact upd_at
  have g5_1 : A1 4 5 = nI (zN (x 29)) := by rw [eA1]; exact g5
  have g6_1 : A1 4 6 = nI (zN (x 0)) := by rw [eA1]; exact g6
  have eA9 : A1 = A := eA1.trans (ua_same g4)
  clear eA1
  subst eA9
  refine z_aload_n (i := 0) C dL_acts_754 rfl rfl ?_
  refine z_iload C dL_acts_755 rfl ?_
  refine z_iload C dL_acts_757 rfl ?_
  refine z_iload C dL_acts_759 rfl ?_
  refine z_iload C dL_acts_761 rfl ?_
  refine z_bipush (v := nI 20) C dL_acts_763 (by decide) ?_
  refine z_ishr C dL_acts_765 ?_
  refine z_iconst (v := nI 5) C dL_acts_766 (by decide) ?_
  refine z_callS C Y_L_low sm_yL_low ml_RL_147 (c_L_low l (n := 5) (by omega) (by omega)) dL_acts_767 rfl rfl (fun _ => Nat.le_of_ble_eq_true rfl) ⟨Nat.le_of_ble_eq_true rfl, Nat.le_of_ble_eq_true rfl⟩ (by show _ ≤ 300 ∧ _ ≤ 5000; omega) (z_p0 (w := (nI (lowN (yy >>> (nI 20 &&& 31)) 5))) (rfl) ?_) z_nx
  refine z_iload C dL_acts_770 rfl ?_
  refine z_bipush (v := nI 23) C dL_acts_772 (by decide) ?_
  refine z_ishr C dL_acts_774 ?_
  refine z_iconst (v := nI 4) C dL_acts_775 (by decide) ?_
  refine z_callS C Y_L_low sm_yL_low ml_RL_147 (c_L_low l (n := 4) (by omega) (by omega)) dL_acts_776 rfl rfl (fun _ => Nat.le_of_ble_eq_true rfl) ⟨Nat.le_of_ble_eq_true rfl, Nat.le_of_ble_eq_true rfl⟩ (by show _ ≤ 300 ∧ _ ≤ 5000; omega) (z_p0 (w := (nI (lowN (yy >>> (nI 23 &&& 31)) 4))) (rfl) ?_) z_nx
  refine z_callSX C Y_L_putRule sm_yL_putRule ml_RL_158 (c_L_putRule l hW1.1 hI) dL_acts_779 rfl rfl (fun _ => Nat.le_of_ble_eq_true rfl) ⟨Nat.le_of_ble_eq_true rfl, Nat.le_of_ble_eq_true rfl⟩ (by show _ ≤ 300 ∧ _ ≤ 5000; omega) (z_w3 (kx_3 (show inB (nI pl) 0 (x 6) = true by rw [i6.1]; exact inB_nn (a := 0) (by omega) (by omega) (by omega)) (band (inB_nn (a := 0) (b := 9) (by omega) (by omega) (by decide)) (band (inB_nn (b := 9) (by omega) (by omega) (by decide)) (band (inB_nn (a := 0) (b := 9) (by omega) (by omega) (by decide)) (inB_nn (a := 0) (b := 3) (by omega) (by omega) (by decide))))) (lt_f (n := 8) i6 (by decide) hn)) ?_) z_nx
  refine z_iload C dL_acts_782 rfl ?_
  refine z_icmp_ne (tgt := 871) C dL_acts_784 (by decide) (fun h => absurd (rfl) h) (fun _ => ?_)
  refine z_aload_n (i := 1) C dL_acts_787 rfl rfl ?_
  refine z_iload C dL_acts_788 rfl ?_
  refine z_iload C dL_acts_790 rfl ?_
  refine z_iload C dL_acts_792 rfl ?_
  refine z_iload C dL_acts_794 rfl ?_
  refine z_bipush (v := nI 20) C dL_acts_796 (by decide) ?_
  refine z_ishr C dL_acts_798 ?_
  refine z_iconst (v := nI 5) C dL_acts_799 (by decide) ?_
  refine z_callS C Y_L_low sm_yL_low ml_RL_147 (c_L_low l (n := 5) (by omega) (by omega)) dL_acts_800 rfl rfl (fun _ => Nat.le_of_ble_eq_true rfl) ⟨Nat.le_of_ble_eq_true rfl, Nat.le_of_ble_eq_true rfl⟩ (by show _ ≤ 300 ∧ _ ≤ 5000; omega) (z_p0 (w := (nI (lowN (yy >>> (nI 20 &&& 31)) 5))) (rfl) ?_) z_nx
  refine z_iload C dL_acts_803 rfl ?_
  refine z_bipush (v := nI 23) C dL_acts_805 (by decide) ?_
  refine z_ishr C dL_acts_807 ?_
  refine z_iconst (v := nI 4) C dL_acts_808 (by decide) ?_
  refine z_callS C Y_L_low sm_yL_low ml_RL_147 (c_L_low l (n := 4) (by omega) (by omega)) dL_acts_809 rfl rfl (fun _ => Nat.le_of_ble_eq_true rfl) ⟨Nat.le_of_ble_eq_true rfl, Nat.le_of_ble_eq_true rfl⟩ (by show _ ≤ 300 ∧ _ ≤ 5000; omega) (z_p0 (w := (nI (lowN (yy >>> (nI 23 &&& 31)) 4))) (rfl) ?_) z_nx
  refine z_callSX C Y_L_putRule sm_yL_putRule ml_RL_158 (c_T_putRule l hW1.2.1 hI) dL_acts_812 rfl rfl (fun _ => Nat.le_of_ble_eq_true rfl) ⟨Nat.le_of_ble_eq_true rfl, Nat.le_of_ble_eq_true rfl⟩ (by show _ ≤ 300 ∧ _ ≤ 5000; omega) (z_x3 (kx_3 (show inB (nI pl) 0 (x 6) = true by rw [i6.1]; exact inB_nn (a := 0) (by omega) (by omega) (by omega)) (band (inB_nn (a := 0) (b := 9) (by omega) (by omega) (by decide)) (band (inB_nn (b := 9) (by omega) (by omega) (by decide)) (band (inB_nn (a := 0) (b := 9) (by omega) (by omega) (by decide)) (inB_nn (a := 0) (b := 3) (by omega) (by omega) (by decide))))) (lt_f (n := 8) i6 (by decide) hn)) ?_) z_nx
  refine z_iload C dL_acts_815 rfl ?_
  refine z_icmp_ne (tgt := 871) C dL_acts_817 (by decide) (fun h => absurd (rfl) h) (fun _ => ?_)
  have hz6 : zN (x 6) ≤ 8 := b6
  refine z_aload_n (i := 0) C dL_acts_820 rfl rfl ?_
  refine z_aload C dL_acts_821 rfl ?_
  refine z_iconst (v := nI 4) C dL_acts_823 (by decide) ?_
  refine z_ialdN C dL_acts_824 (hW1.2.2.1 4 (by decide)) (show _ < 7 by omega) (by decide) ?_
  refine z_top (w := (nI ((zN (x 6) + 0)))) (g4_1) ?_
  refine z_iconst (v := nI 1) C dL_acts_825 (by decide) ?_
  refine z_iadd C dL_acts_826 ?_
  refine z_top (w := (nI (((zN (x 6) + 0) + 1)))) (nI_add _ _) ?_
  refine z_iconst (v := nI 5) C dL_acts_827 (by decide) ?_
  refine z_iconst (v := nI 4) C dL_acts_828 (by decide) ?_
  refine z_iconst (v := nI 0) C dL_acts_829 (by decide) ?_
  refine z_iconst (v := nI 0) C dL_acts_830 (by decide) ?_
  refine z_callSX C Y_L_putRule sm_yL_putRule ml_RL_158 (c_L_putRule l hW1.1 hI) dL_acts_831 rfl rfl (fun _ => Nat.le_of_ble_eq_true rfl) ⟨Nat.le_of_ble_eq_true rfl, Nat.le_of_ble_eq_true rfl⟩ (by show _ ≤ 300 ∧ _ ≤ 5000; omega) (z_w1 (kx_1 (inB_hi i6 (by decide) (by omega) (by omega))) ?_) z_nx
  refine z_ldc C dL_acts_834 kc_RL_28 ?_
  refine z_icmp_ne (tgt := 871) C dL_acts_836 (by decide) (fun h => absurd (rfl) h) (fun _ => ?_)
  refine z_aload_n (i := 0) C dL_acts_839 rfl rfl ?_
  refine z_iconst (v := nI 0) C dL_acts_840 (by decide) ?_
  refine z_iconst (v := nI 5) C dL_acts_841 (by decide) ?_
  refine z_iconst (v := nI 4) C dL_acts_842 (by decide) ?_
  refine z_iconst (v := nI 0) C dL_acts_843 (by decide) ?_
  refine z_iconst (v := nI 0) C dL_acts_844 (by decide) ?_
  refine z_callSX C Y_L_putRule sm_yL_putRule ml_RL_158 (c_L_putRule l hW1.1 hI) dL_acts_845 rfl rfl (fun _ => Nat.le_of_ble_eq_true rfl) ⟨Nat.le_of_ble_eq_true rfl, Nat.le_of_ble_eq_true rfl⟩ (by show _ ≤ 300 ∧ _ ≤ 5000; omega) (z_w2 (kx_2 (show inB (nI 0) 0 (x 6) = true by rw [i6.1]; exact inB_nn (a := 0) (by omega) (by omega) (by omega)) (by decide)) ?_) z_nx
  refine z_ldc C dL_acts_848 kc_RL_18 ?_
  refine z_icmp_ne (tgt := 871) C dL_acts_850 (by decide) (fun h => absurd (rfl) h) (fun _ => ?_)
  refine z_aload_n (i := 0) C dL_acts_853 rfl rfl ?_
  refine z_iconst (v := nI 0) C dL_acts_854 (by decide) ?_
  refine z_iconst (v := nI 0) C dL_acts_855 (by decide) ?_
  refine z_iconst (v := nI 0) C dL_acts_856 (by decide) ?_
  refine z_iconst (v := nI 0) C dL_acts_857 (by decide) ?_
  refine z_iconst (v := nI 4) C dL_acts_858 (by decide) ?_
  refine z_callSX C Y_L_putRule sm_yL_putRule ml_RL_158 (c_L_putRule l hW1.1 hI) dL_acts_859 rfl rfl (fun _ => Nat.le_of_ble_eq_true rfl) ⟨Nat.le_of_ble_eq_true rfl, Nat.le_of_ble_eq_true rfl⟩ (by show _ ≤ 300 ∧ _ ≤ 5000; omega) (z_w2 (kx_2 (show inB (nI 0) 0 (x 6) = true by rw [i6.1]; exact inB_nn (a := 0) (by omega) (by omega) (by omega)) (by decide)) ?_) z_nx
  refine z_ldc C dL_acts_862 kc_RL_18 ?_
  refine z_icmp_ne (tgt := 871) C dL_acts_864 (by decide) (fun h => absurd (rfl) h) (fun _ => ?_)
  refine z_iconst (v := nI 1) C dL_acts_867 (by decide) ?_
  refine z_goto (tgt := 872) C dL_acts_868 (by decide) ?_
  exact z_iret C hr rfl dL_acts_872 (Nat.le_of_ble_eq_true rfl) (Nat.le_of_ble_eq_true rfl) ⟨_, rfl, rfl, x, a, A1, hW1, hK1⟩
set_option maxRecDepth 100000 in
set_option maxHeartbeats 4000000 in
theorem ac_rule (C : zC X p l s m args meth c9 cL_acts 18 RL) (hr : meth.sig.returnType = some .boolean) (hW : LW x a x a A σ) (hT : TI x a A K) (hK : K < 95) (hac : ac < zN (x 1)) (hse : se < zN (x 11)) (hch : ch < zN (x 15)) : AG X p l e s m args below meth c9 σ0 loc0 K 0 0 σ 570 [(0, aR 0 0), (1, aR 40 0), (2, aR 80 0), (3, aR 80 1), (4, aR 80 2), (5, aR 80 3), (6, aR 80 4), (7, aI (xx)), (8, aI (yy)), (9, aI (nI (kd))), (10, aI (nI (ac))), (11, aI (nI (se))), (12, aI (nI (ch)))] [] := by
  obtain ⟨hI, hJ, ⟨⟨t0, t1, t2, t3, t4, t5, t6⟩, hTa, hTb, hTd, hTq⟩, h0⟩ := id hT
  obtain ⟨i0, i1, i6, i11, i15, i23, i24, i29, iA, iS, iC, iQ, iP⟩ := id hI.1
  have b0 := i0.2
  have b1 := i1.2
  have b6 := i6.2
  have b11 := i11.2
  have b15 := hJ.1.1
  have b23 := hJ.1.2
  have b29 := i29.2
  have g0 : A 4 0 = nI (zN (x 1)) := t0.trans i1.1
  have g1 : A 4 1 = nI (zN (x 11)) := t1.trans i11.1
  have g2 : A 4 2 = nI (zN (x 15)) := t2.trans i15.1
  have g3 : A 4 3 = nI (zN (x 23)) := t3.trans i23.1
  have g4 : A 4 4 = nI (zN (x 6)) := t4.trans i6.1
  have g5 : A 4 5 = nI (zN (x 29)) := t5.trans i29.1
  have g6 : A 4 6 = nI (zN (x 0)) := t6.trans i0.1
  have hK1 := hT.up
  have hxb : ∀ n, n ≤ 100 → n < 2 ^ 31 := fun n h => by omega
  obtain ⟨pl, epl⟩ : ∃ pl, lowN (yy >>> (nI 8 &&& 31)) (zN (x 6) + 1) = pl := ⟨_, rfl⟩
  have hpl : pl < zN (x 6) + 1 := by rw [← epl]; exact lowN_lt (by omega)
  obtain ⟨fi, efi⟩ : ∃ fi, lowN (yy >>> (nI 12 &&& 31)) 10 = fi := ⟨_, rfl⟩
  have hfi : fi < 10 := by rw [← efi]; exact lowN_lt (by omega)
  obtain ⟨l2, el2⟩ : ∃ l2, lowN (yy >>> (nI 16 &&& 31)) (10 - fi) = l2 := ⟨_, rfl⟩
  have hl2 : l2 < 10 - fi := by rw [← el2]; exact lowN_lt (by omega)
  refine z_iload C dL_acts_570 rfl ?_
  refine z_bipush (v := nI 8) C dL_acts_572 (by decide) ?_
  refine z_ishr C dL_acts_574 ?_
  refine z_aload C dL_acts_575 rfl ?_
  refine z_iconst (v := nI 4) C dL_acts_577 (by decide) ?_
  refine z_ialdN C dL_acts_578 (hW.2.2.1 4 (by decide)) (show _ < 7 by omega) (by decide) ?_
  refine z_top (w := (nI (zN (x 6)))) (g4) ?_
  refine z_iconst (v := nI 1) C dL_acts_579 (by decide) ?_
  refine z_iadd C dL_acts_580 ?_
  refine z_top (w := (nI ((zN (x 6) + 1)))) (nI_add _ _) ?_
  refine z_callS C Y_L_low sm_yL_low ml_RL_147 (c_L_low l (n := zN (x 6) + 1) (by omega) (by omega)) dL_acts_581 rfl rfl (fun _ => Nat.le_of_ble_eq_true rfl) ⟨Nat.le_of_ble_eq_true rfl, Nat.le_of_ble_eq_true rfl⟩ (by show _ ≤ 300 ∧ _ ≤ 5000; omega) (z_p0 (w := (nI (pl))) (congrArg nI epl) ?_) z_nx
  refine z_istore C dL_acts_584 (by decide) ?_
  refine z_iload C dL_acts_586 rfl ?_
  refine z_bipush (v := nI 12) C dL_acts_588 (by decide) ?_
  refine z_ishr C dL_acts_590 ?_
  refine z_bipush (v := nI 10) C dL_acts_591 (by decide) ?_
  refine z_callS C Y_L_low sm_yL_low ml_RL_147 (c_L_low l (n := 10) (by omega) (by omega)) dL_acts_593 rfl rfl (fun _ => Nat.le_of_ble_eq_true rfl) ⟨Nat.le_of_ble_eq_true rfl, Nat.le_of_ble_eq_true rfl⟩ (by show _ ≤ 300 ∧ _ ≤ 5000; omega) (z_p0 (w := (nI (fi))) (congrArg nI efi) ?_) z_nx
  refine z_istore C dL_acts_596 (by decide) ?_
  refine z_iload C dL_acts_598 rfl ?_
  refine z_iload C dL_acts_600 rfl ?_
  refine z_bipush (v := nI 16) C dL_acts_602 (by decide) ?_
  refine z_ishr C dL_acts_604 ?_
  refine z_bipush (v := nI 10) C dL_acts_605 (by decide) ?_
  refine z_iload C dL_acts_607 rfl ?_
  refine z_isub C dL_acts_609 ?_
  refine z_top (w := nI (10 - fi)) (pk_sub (by omega)) ?_
  refine z_callS C Y_L_low sm_yL_low ml_RL_147 (c_L_low l (n := 10 - fi) (by omega) (by omega)) dL_acts_610 rfl rfl (fun _ => Nat.le_of_ble_eq_true rfl) ⟨Nat.le_of_ble_eq_true rfl, Nat.le_of_ble_eq_true rfl⟩ (by show _ ≤ 300 ∧ _ ≤ 5000; omega) (z_p0 (w := (nI (l2))) (congrArg nI el2) ?_) z_nx
  refine z_iadd C dL_acts_613 ?_
  refine z_top (w := (nI ((fi + l2)))) (nI_add _ _) ?_
  refine z_istore C dL_acts_614 (by decide) ?_
  refine z_aload C dL_acts_616 rfl ?_
  refine z_iconst (v := nI 4) C dL_acts_618 (by decide) ?_
  refine z_ialdN C dL_acts_619 (hW.2.2.1 4 (by decide)) (show _ < 7 by omega) (by decide) ?_
  refine z_top (w := (nI (zN (x 6)))) (g4) ?_
  refine z_bipush (v := nI 8) C dL_acts_620 (by decide) ?_
  rcases Nat.lt_or_ge (zN (x 6)) 8 with hn | hn
  · refine z_icmp_ge (tgt := 634) C dL_acts_622 (by decide) (fun h => absurd h (nI_ge (b := 8) hn (by decide))) (fun _ => ?_)
    refine z_aload C dL_acts_625 rfl ?_
    refine z_iconst (v := nI 4) C dL_acts_627 (by decide) ?_
    refine z_ialdN C dL_acts_628 (hW.2.2.1 4 (by decide)) (show _ < 7 by omega) (by decide) ?_
    refine z_top (w := (nI (zN (x 6)))) (g4) ?_
    refine z_iconst (v := nI 1) C dL_acts_629 (by decide) ?_
    refine z_iadd C dL_acts_630 ?_
    refine z_top (w := (nI ((zN (x 6) + 1)))) (nI_add _ _) ?_
    refine z_goto (tgt := 636) C dL_acts_631 (by decide) ?_
    refine z_istore C dL_acts_636 (by decide) ?_
    refine z_iload C dL_acts_638 rfl ?_
    refine z_iconst (v := nI 3) C dL_acts_640 (by decide) ?_
    refine z_callS C Y_L_low sm_yL_low ml_RL_147 (c_L_low l (n := 3) (by omega) (by omega)) dL_acts_641 rfl rfl (fun _ => Nat.le_of_ble_eq_true rfl) ⟨Nat.le_of_ble_eq_true rfl, Nat.le_of_ble_eq_true rfl⟩ (by show _ ≤ 300 ∧ _ ≤ 5000; omega) (z_p0 (w := (nI (lowN yy 3))) (rfl) ?_) z_nx
    refine z_if_ne (tgt := 737) C dL_acts_644 (by decide) (fun h644 => ?_) (fun h644 => ?_)
    · refine z_sub (L' := [(0, aR 0 0), (1, aR 40 0), (2, aR 80 0), (3, aR 80 1), (4, aR 80 2), (5, aR 80 3), (6, aR 80 4), (7, aI (xx)), (8, aI (yy)), (9, aI (nI (kd))), (10, aI (nI (ac))), (11, aI (nI (se))), (12, aI (nI (ch))), (13, aI (nI (pl))), (14, aI (nI (fi))), (15, aI (nI (fi + l2))), (16, aI (nI (zN (x 6) + 1)))]) (zs1 rfl (zs1 rfl (zs1 rfl (zs1 rfl (zs1 rfl (zs1 rfl (zs1 rfl (zs1 rfl (zs1 rfl (zs1 rfl (zs1 rfl (zs1 rfl (zs1 rfl (zs1 rfl (zs1 rfl (zs1 rfl (zs1 rfl zs0))))))))))))))))) ?_
      exact ac_put1 C hr hW hT hK hac hse hch hpl hfi hl2 hn
    · refine z_aload C dL_acts_647 rfl ?_
      refine z_iconst (v := nI 4) C dL_acts_649 (by decide) ?_
      refine z_ialdN C dL_acts_650 (hW.2.2.1 4 (by decide)) (show _ < 7 by omega) (by decide) ?_
      refine z_top (w := (nI (zN (x 6)))) (g4) ?_
      refine z_if_le (tgt := 737) C dL_acts_651 (by decide) (fun h651 => ?_) (fun h651 => ?_)
      · refine z_sub (L' := [(0, aR 0 0), (1, aR 40 0), (2, aR 80 0), (3, aR 80 1), (4, aR 80 2), (5, aR 80 3), (6, aR 80 4), (7, aI (xx)), (8, aI (yy)), (9, aI (nI (kd))), (10, aI (nI (ac))), (11, aI (nI (se))), (12, aI (nI (ch))), (13, aI (nI (pl))), (14, aI (nI (fi))), (15, aI (nI (fi + l2))), (16, aI (nI (zN (x 6) + 1)))]) (zs1 rfl (zs1 rfl (zs1 rfl (zs1 rfl (zs1 rfl (zs1 rfl (zs1 rfl (zs1 rfl (zs1 rfl (zs1 rfl (zs1 rfl (zs1 rfl (zs1 rfl (zs1 rfl (zs1 rfl (zs1 rfl (zs1 rfl zs0))))))))))))))))) ?_
        exact ac_put1 C hr hW hT hK hac hse hch hpl hfi hl2 hn
    
      · refine z_sub (L' := [(0, aR 0 0), (1, aR 40 0), (2, aR 80 0), (3, aR 80 1), (4, aR 80 2), (5, aR 80 3), (6, aR 80 4), (7, aI (xx)), (8, aI (yy)), (9, aI (nI (kd))), (10, aI (nI (ac))), (11, aI (nI (se))), (12, aI (nI (ch))), (13, aI (nI (pl))), (14, aI (nI (fi))), (15, aI (nI (fi + l2))), (16, aI (nI (zN (x 6) + 1)))]) (zs1 rfl (zs1 rfl (zs1 rfl (zs1 rfl (zs1 rfl (zs1 rfl (zs1 rfl (zs1 rfl (zs1 rfl (zs1 rfl (zs1 rfl (zs1 rfl (zs1 rfl (zs1 rfl (zs1 rfl (zs1 rfl (zs1 rfl zs0))))))))))))))))) ?_
        exact ac_rem C hr hW hT hK hac hse hch hpl hfi hl2 (by
          rcases Nat.eq_zero_or_pos (zN (x 6)) with z | z
          · exact absurd (by rw [z]; decide) h651
          · exact z)
  · refine z_icmp_ge (tgt := 634) C dL_acts_622 (by decide) (fun _ => ?_) (fun h => absurd (nI_le (a := 8) hn (by omega)) h)
    refine z_ldc C dL_acts_634 kc_RL_21 ?_
    refine z_istore C dL_acts_636 (by decide) ?_
    refine z_iload C dL_acts_638 rfl ?_
    refine z_iconst (v := nI 3) C dL_acts_640 (by decide) ?_
    refine z_callS C Y_L_low sm_yL_low ml_RL_147 (c_L_low l (n := 3) (by omega) (by omega)) dL_acts_641 rfl rfl (fun _ => Nat.le_of_ble_eq_true rfl) ⟨Nat.le_of_ble_eq_true rfl, Nat.le_of_ble_eq_true rfl⟩ (by show _ ≤ 300 ∧ _ ≤ 5000; omega) (z_p0 (w := (nI (lowN yy 3))) (rfl) ?_) z_nx
    refine z_if_ne (tgt := 737) C dL_acts_644 (by decide) (fun h644 => ?_) (fun h644 => ?_)
    · refine z_sub (L' := [(0, aR 0 0), (1, aR 40 0), (2, aR 80 0), (3, aR 80 1), (4, aR 80 2), (5, aR 80 3), (6, aR 80 4), (7, aI (xx)), (8, aI (yy)), (9, aI (nI (kd))), (10, aI (nI (ac))), (11, aI (nI (se))), (12, aI (nI (ch))), (13, aI (nI (pl))), (14, aI (nI (fi))), (15, aI (nI (fi + l2))), (16, aI ((-1000003)))]) (zs1 rfl (zs1 rfl (zs1 rfl (zs1 rfl (zs1 rfl (zs1 rfl (zs1 rfl (zs1 rfl (zs1 rfl (zs1 rfl (zs1 rfl (zs1 rfl (zs1 rfl (zs1 rfl (zs1 rfl (zs1 rfl (zs1 rfl zs0))))))))))))))))) ?_
      exact ac_put0 C hr hW hT hK hac hse hch hpl hfi hl2 hn
    · refine z_aload C dL_acts_647 rfl ?_
      refine z_iconst (v := nI 4) C dL_acts_649 (by decide) ?_
      refine z_ialdN C dL_acts_650 (hW.2.2.1 4 (by decide)) (show _ < 7 by omega) (by decide) ?_
      refine z_top (w := (nI (zN (x 6)))) (g4) ?_
      refine z_if_le (tgt := 737) C dL_acts_651 (by decide) (fun h651 => ?_) (fun h651 => ?_)
      · refine z_sub (L' := [(0, aR 0 0), (1, aR 40 0), (2, aR 80 0), (3, aR 80 1), (4, aR 80 2), (5, aR 80 3), (6, aR 80 4), (7, aI (xx)), (8, aI (yy)), (9, aI (nI (kd))), (10, aI (nI (ac))), (11, aI (nI (se))), (12, aI (nI (ch))), (13, aI (nI (pl))), (14, aI (nI (fi))), (15, aI (nI (fi + l2))), (16, aI ((-1000003)))]) (zs1 rfl (zs1 rfl (zs1 rfl (zs1 rfl (zs1 rfl (zs1 rfl (zs1 rfl (zs1 rfl (zs1 rfl (zs1 rfl (zs1 rfl (zs1 rfl (zs1 rfl (zs1 rfl (zs1 rfl (zs1 rfl (zs1 rfl zs0))))))))))))))))) ?_
        exact ac_put0 C hr hW hT hK hac hse hch hpl hfi hl2 hn
    
      · refine z_sub (L' := [(0, aR 0 0), (1, aR 40 0), (2, aR 80 0), (3, aR 80 1), (4, aR 80 2), (5, aR 80 3), (6, aR 80 4), (7, aI (xx)), (8, aI (yy)), (9, aI (nI (kd))), (10, aI (nI (ac))), (11, aI (nI (se))), (12, aI (nI (ch))), (13, aI (nI (pl))), (14, aI (nI (fi))), (15, aI (nI (fi + l2))), (16, aI ((-1000003)))]) (zs1 rfl (zs1 rfl (zs1 rfl (zs1 rfl (zs1 rfl (zs1 rfl (zs1 rfl (zs1 rfl (zs1 rfl (zs1 rfl (zs1 rfl (zs1 rfl (zs1 rfl (zs1 rfl (zs1 rfl (zs1 rfl (zs1 rfl zs0))))))))))))))))) ?_
        exact ac_rem C hr hW hT hK hac hse hch hpl hfi hl2 (by
          rcases Nat.eq_zero_or_pos (zN (x 6)) with z | z
          · exact absurd (by rw [z]; decide) h651
          · exact z)
end AC2
