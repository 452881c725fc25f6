/-! the desk: the public methods that change a field -/
theorem upd_at {f : Nat → Int32} {i : Nat} {v : Int32} : upd f i v i = v := by simp [upd]
theorem upd_ne {f : Nat → Int32} {i j : Nat} {v : Int32} (h : ¬ j = i) : upd f i v j = f j := by simp [upd, h]
theorem pass_le {t d : Int32} (ht : zCnt t 100000) (hd : inB d 1 1000 = true) : d ≤ 100000 - t ↔ t + d ≤ 100000 := by
  obtain ⟨h1, h2⟩ := inB_t.mp hd
  obtain ⟨j, hj, rfl⟩ := nI_of (x := d) (fun h => absurd (Int32.lt_trans h (by decide : (0 : Int32) < 1)) (Int32.not_lt.mpr h1))
  have hj2 : j ≤ 1000 := (nI_leI hj (by decide)).mp h2
  have hb := ht.2
  rw [ht.1]
  generalize zN t = n at *
  have e : ((100000 : Int32) - nI n).toInt = (100000 : Int) - n := pk_sub_toInt (a := 100000) (b := n) (by decide) (by omega)
  rw [nI_add, Int32.le_iff_toInt_le, e, nI_toInt hj, Int32.le_iff_toInt_le, nI_toInt (by omega), show (100000 : Int32).toInt = 100000 by decide]
  omega
theorem DA.u5 {n i : Nat} {b2 b3 b4 b5 : Nat → Int32} {w : Int32} {σ : zHp} (h : DA n b2 b3 b4 b5 σ) (hi : i < n) : DA n b2 b3 b4 (upd b5 i w) (zput σ 3 i (oC 3 [aO (oR 3 (b2 i)), aI (b3 i), aI (b4 i), aI w])) := by
  refine ⟨h.1.ag (fun k9 i9 z => zput_n (by omega)), fun j hj => ?_, fun j hj => by rw [zput_n (by omega)]; exact h.2.2 j hj⟩
  by_cases e : j = i
  · subst e; rw [zput_s, upd_at]
  · rw [zput_n (by omega), h.2.1 j hj, upd_ne e]
theorem DS.u14 {n i : Nat} {b12 b13 b14 : Nat → Int32} {w : Int32} {σ : zHp} (h : DS n b12 b13 b14 σ) (hi : i < n) : DS n b12 b13 (upd b14 i w) (zput σ 5 i (oC 8 [aI (nI i), aO (oR 5 (b12 i)), aI (b13 i), aI w])) := by
  refine ⟨h.1.ag (fun k9 i9 z => zput_n (by omega)), fun j hj => ?_, fun j hj => by rw [zput_n (by omega)]; exact h.2.2 j hj⟩
  by_cases e : j = i
  · subst e; rw [zput_s, upd_at]
  · rw [zput_n (by omega), h.2.1 j hj, upd_ne e]
set_option maxRecDepth 100000 in
set_option maxHeartbeats 4000000 in
theorem c_X6_pass {X : zX} (l : Launch) {x : Nat → Int32} {a : Nat → Nat → Int32} {σ : zHp} (hD : DK x a σ) (hI : zInv x a) {d : Int32} : zM X l yX6_pass cX6_pass 2 (some .int) 8 10 200 [aR 0 0, aI d] σ (zPi (zDz (k_pass x a d) (x 0 + d) (upd x 0 (x 0 + d)) (a) σ)) (zXk (k_pass x a d) eIA eIS eIS σ) := by
  obtain ⟨i0, i1, i6, i11, i15, i23, i24, i29, iA, iS, iC, iQ, iP⟩ := id hI
  have b1 := i1.2
  have b6 := i6.2
  have b11 := i11.2
  have b15 := i15.2
  have b23 := i23.2
  have b24 := i24.2
  have b29 := i29.2
  obtain ⟨hE, dF⟩ := id hD
  obtain ⟨d0, dA, dR, dS, dC, dQ⟩ := id hE
  have lA := dA.1
  have lS := dS.1
  have lC := dC.1
  have lQ := dQ.1
  have lF := dF.1
  refine zM.of (by decide +kernel) (Nat.le_of_ble_eq_true rfl) (by simp [zcat, Value.category]) ?_
  intro p e s m args below meth c9 loc0 C hr hnm hT
  refine z_iload_n (i := 1) C dX6_pass_0 rfl rfl ?_
  refine z_iconst (v := 1) C dX6_pass_1 (by decide) ?_
  refine z_sipush (v := 1000) C dX6_pass_2 (by decide) ?_
  refine z_callS C Y_X6_requireRange sm_yX6_requireRange ml_RX6_35 (c_X6_requireRange l) dX6_pass_5 rfl rfl (fun _ => Nat.le_of_ble_eq_true rfl) ⟨Nat.le_of_ble_eq_true rfl, Nat.le_of_ble_eq_true rfl⟩ ⟨Nat.le_of_ble_eq_true rfl, Nat.le_of_ble_eq_true rfl⟩ (z_rv (fun σ1 hx => ?_)) (fun E9 σ9 hx => by obtain ⟨rfl, hx, rfl⟩ := hx; exact z_out hT C.2.2.2.2.2.2.2.1 (Nat.le_of_ble_eq_true rfl) (Nat.le_of_ble_eq_true rfl) (zXk.e1 (by simp only [hx, eq_self, decide_true, decide_false, Bool.and_true, Bool.true_and, Bool.and_false, Bool.false_and, Bool.or_true, Bool.true_or, Bool.or_false, Bool.false_or, Bool.not_true, Bool.not_false, not_true, not_false_eq_true, if_true, if_false])))
  obtain ⟨t5, rfl⟩ := hx
  refine z_iload_n (i := 1) C dX6_pass_8 rfl rfl ?_
  refine z_ldc C dX6_pass_9 kc_RX6_39 ?_
  refine z_aload_n (i := 0) C dX6_pass_11 rfl rfl ?_
  refine z_getf C f_RX6_31 dX6_pass_12 d0 rfl ?_
  refine z_isub C dX6_pass_15 ?_
  refine z_icmp_le (tgt := 29) C dX6_pass_16 (by decide) (fun h16 => ?_) (fun h16 => ?_)
  · refine z_aload_n (i := 0) C dX6_pass_29 rfl rfl ?_
    refine z_dup C (by first | trivial | rfl) dX6_pass_30 ?_
    refine z_getf C f_RX6_31 dX6_pass_31 d0 rfl ?_
    refine z_iload_n (i := 1) C dX6_pass_34 rfl rfl ?_
    refine z_iadd C dX6_pass_35 ?_
    refine z_putf C fp_RX6_31 dX6_pass_36 d0 (by decide) (Nat.le_of_ble_eq_true rfl) (fun _ => ⟨rfl, rfl⟩) ?_
    refine z_aload_n (i := 0) C dX6_pass_39 rfl rfl ?_
    refine z_getf C f_RX6_31 dX6_pass_40 (zput_s _ _ _ _) rfl ?_
    exact z_iret C hr rfl dX6_pass_43 (Nat.le_of_ble_eq_true rfl) (Nat.le_of_ble_eq_true rfl) ⟨_, rfl, zDz.ok t5 (by rw [t5, decide_eq_true ((pass_le i0 t5).mp h16)]; rfl) rfl rfl ⟨⟨zput_s _ _ _ _, dA.ag (fun k9 i9 z => zput_n (by omega)), dR.ag (fun k9 i9 z => zput_n (by omega)), dS.ag (fun k9 i9 z => zput_n (by omega)), dC.ag (fun k9 i9 z => zput_n (by omega)) (fun c9 _ => by apply cnt_cg <;> rfl), dQ.ag (fun k9 i9 z => zput_n (by omega))⟩, dF.ag (fun k9 i9 z => zput_n (by omega))⟩ (Fk.put (by decide))⟩
  · exact z_throwS (text := "it would be later than the last day") C hT th_ISE rfl (by decide +kernel) dX6_pass_19 dX6_pass_22 dX6_pass_23 dX6_pass_25 dX6_pass_28 ⟨Nat.le_of_ble_eq_true rfl, Nat.le_of_ble_eq_true rfl⟩ ⟨Nat.le_of_ble_eq_true rfl, Nat.le_of_ble_eq_true rfl⟩ (Nat.le_of_ble_eq_true rfl) (Nat.le_of_ble_eq_true rfl) (zXk.e2 t5 (by rw [t5, decide_eq_false (fun e => h16 ((pass_le i0 t5).mpr e))]; rfl))

set_option maxRecDepth 100000 in
set_option maxHeartbeats 4000000 in
theorem c_X6_except {X : zX} (l : Launch) {x : Nat → Int32} {a : Nat → Nat → Int32} {σ : zHp} (hD : DK x a σ) (hI : zInv x a) {i w : Int32} : zM X l yX6_except cX6_except 5 (some .int) 8 10 200 [aR 0 0, aI i, aI w] σ (zPi (zDz (k_except x a i w) (a 5 (zN i)) (x) (ua a 5 (upd (a 5) (zN i) w)) σ)) (zXk (k_except x a i w) eIO eIA eIS σ) := by
  obtain ⟨i0, i1, i6, i11, i15, i23, i24, i29, iA, iS, iC, iQ, iP⟩ := id hI
  have b1 := i1.2
  have b6 := i6.2
  have b11 := i11.2
  have b15 := i15.2
  have b23 := i23.2
  have b24 := i24.2
  have b29 := i29.2
  obtain ⟨hE, dF⟩ := id hD
  obtain ⟨d0, dA, dR, dS, dC, dQ⟩ := id hE
  have lA := dA.1
  have lS := dS.1
  have lC := dC.1
  have lQ := dQ.1
  have lF := dF.1
  refine zM.of (by decide +kernel) (Nat.le_of_ble_eq_true rfl) (by simp [zcat, Value.category]) ?_
  intro p e s m args below meth c9 loc0 C hr hnm hT
  refine z_aload_n (i := 0) C dX6_except_0 rfl rfl ?_
  refine z_iload_n (i := 1) C dX6_except_1 rfl rfl ?_
  refine z_callV C Y_X6_accountAt V_X6_accountAt ml_RX6_47 (c_X6_accountAt l hE hI) dX6_except_2 rfl rfl d0 ⟨_, _, rfl⟩ (fun _ => Nat.le_of_ble_eq_true rfl) ⟨Nat.le_of_ble_eq_true rfl, Nat.le_of_ble_eq_true rfl⟩ ⟨Nat.le_of_ble_eq_true rfl, Nat.le_of_ble_eq_true rfl⟩ (z_rr (fun r9 σ1 hx => ?_)) (fun E9 σ9 hx => by obtain ⟨rfl, hx, rfl⟩ := hx; exact z_out hT C.2.2.2.2.2.2.2.1 (Nat.le_of_ble_eq_true rfl) (Nat.le_of_ble_eq_true rfl) (zXk.e1 (by simp only [hx, eq_self, decide_true, decide_false, Bool.and_true, Bool.true_and, Bool.and_false, Bool.false_and, Bool.or_true, Bool.true_or, Bool.or_false, Bool.false_or, Bool.not_true, Bool.not_false, not_true, not_false_eq_true, if_true, if_false])))
  obtain ⟨t2, rfl, rfl⟩ := hx
  obtain ⟨i, hi, rfl⟩ := inB_ix i1 (by decide) t2
  have zi : zN (nI i) = i := zN_nI (by omega)
  rw [zi]
  refine z_astore_n (i := 3) C dX6_except_5 rfl (by decide) ?_
  refine z_iload_n (i := 2) C dX6_except_6 rfl rfl ?_
  refine z_iconst (v := -1) C dX6_except_7 (by decide) ?_
  refine z_iconst (v := 3) C dX6_except_8 (by decide) ?_
  refine z_callS C Y_X6_requireRange sm_yX6_requireRange ml_RX6_35 (c_X6_requireRange l) dX6_except_9 rfl rfl (fun _ => Nat.le_of_ble_eq_true rfl) ⟨Nat.le_of_ble_eq_true rfl, Nat.le_of_ble_eq_true rfl⟩ ⟨Nat.le_of_ble_eq_true rfl, Nat.le_of_ble_eq_true rfl⟩ (z_rv (fun σ1 hx => ?_)) (fun E9 σ9 hx => by obtain ⟨rfl, hx, rfl⟩ := hx; exact z_out hT C.2.2.2.2.2.2.2.1 (Nat.le_of_ble_eq_true rfl) (Nat.le_of_ble_eq_true rfl) (zXk.e2 (by simp only [t2, zi, eq_self, decide_true, decide_false, Bool.and_true, Bool.true_and, Bool.and_false, Bool.false_and, Bool.or_true, Bool.true_or, Bool.or_false, Bool.false_or, Bool.not_true, Bool.not_false, not_true, not_false_eq_true, if_true, if_false]) (by simp only [t2, zi, hx, eq_self, decide_true, decide_false, Bool.and_true, Bool.true_and, Bool.and_false, Bool.false_and, Bool.or_true, Bool.true_or, Bool.or_false, Bool.false_or, Bool.not_true, Bool.not_false, not_true, not_false_eq_true, if_true, if_false])))
  obtain ⟨t9, rfl⟩ := hx
  refine z_aload_n (i := 3) C dX6_except_12 rfl rfl ?_
  refine z_getf C f_RX6_87 dX6_except_13 (dA.2.1 _ (by first | assumption | omega)) rfl ?_
  refine z_istore C dX6_except_16 (by decide) ?_
  refine z_aload_n (i := 3) C dX6_except_18 rfl rfl ?_
  refine z_iload_n (i := 2) C dX6_except_19 rfl rfl ?_
  refine z_putf C fp_RX6_87 dX6_except_20 (dA.2.1 _ hi) (by decide) (Nat.le_of_ble_eq_true rfl) (fun _ => ⟨rfl, rfl⟩) ?_
  refine z_iload C dX6_except_23 rfl ?_
  exact z_iret C hr rfl dX6_except_25 (Nat.le_of_ble_eq_true rfl) (Nat.le_of_ble_eq_true rfl) ⟨_, rfl, zDz.ok (by simp only [t2, zi, t9, eq_self, decide_true, decide_false, Bool.and_true, Bool.true_and, Bool.and_false, Bool.false_and, Bool.or_true, Bool.true_or, Bool.or_false, Bool.false_or, Bool.not_true, Bool.not_false, not_true, not_false_eq_true, if_true, if_false]) (by simp only [t2, zi, t9, eq_self, decide_true, decide_false, Bool.and_true, Bool.true_and, Bool.and_false, Bool.false_and, Bool.or_true, Bool.true_or, Bool.or_false, Bool.false_or, Bool.not_true, Bool.not_false, not_true, not_false_eq_true, if_true, if_false]) (by simp only [t2, zi, t9, eq_self, decide_true, decide_false, Bool.and_true, Bool.true_and, Bool.and_false, Bool.false_and, Bool.or_true, Bool.true_or, Bool.or_false, Bool.false_or, Bool.not_true, Bool.not_false, not_true, not_false_eq_true, if_true, if_false]) (rfl) ⟨⟨(show D0 _ _ from by unfold D0; rw [zput_n (by omega)]; exact d0), dA.u5 hi, dR.ag (fun k9 i9 z => zput_n (by omega)), dS.ag (fun k9 i9 z => zput_n (by omega)), dC.ag (fun k9 i9 z => zput_n (by omega)) (fun c9 _ => by apply cnt_cg <;> rfl), dQ.ag (fun k9 i9 z => zput_n (by omega))⟩, dF.ag (fun k9 i9 z => zput_n (by omega))⟩ (Fk.put (by decide))⟩

set_option maxRecDepth 100000 in
set_option maxHeartbeats 4000000 in
theorem c_X6_adjust {X : zX} (l : Launch) {x : Nat → Int32} {a : Nat → Nat → Int32} {σ : zHp} (hD : DK x a σ) (hI : zInv x a) {i w : Int32} : zM X l yX6_adjust cX6_adjust 5 (some .int) 8 10 200 [aR 0 0, aI i, aI w] σ (zPi (zDz (k_adjust x a i w) (a 14 (zN i)) (x) (ua a 14 (upd (a 14) (zN i) w)) σ)) (zXk (k_adjust x a i w) eIO eIA eIS σ) := by
  obtain ⟨i0, i1, i6, i11, i15, i23, i24, i29, iA, iS, iC, iQ, iP⟩ := id hI
  have b1 := i1.2
  have b6 := i6.2
  have b11 := i11.2
  have b15 := i15.2
  have b23 := i23.2
  have b24 := i24.2
  have b29 := i29.2
  obtain ⟨hE, dF⟩ := id hD
  obtain ⟨d0, dA, dR, dS, dC, dQ⟩ := id hE
  have lA := dA.1
  have lS := dS.1
  have lC := dC.1
  have lQ := dQ.1
  have lF := dF.1
  refine zM.of (by decide +kernel) (Nat.le_of_ble_eq_true rfl) (by simp [zcat, Value.category]) ?_
  intro p e s m args below meth c9 loc0 C hr hnm hT
  refine z_aload_n (i := 0) C dX6_adjust_0 rfl rfl ?_
  refine z_iload_n (i := 1) C dX6_adjust_1 rfl rfl ?_
  refine z_callV C Y_X6_sellerAt V_X6_sellerAt ml_RX6_94 (c_X6_sellerAt l hE hI) dX6_adjust_2 rfl rfl d0 ⟨_, _, rfl⟩ (fun _ => Nat.le_of_ble_eq_true rfl) ⟨Nat.le_of_ble_eq_true rfl, Nat.le_of_ble_eq_true rfl⟩ ⟨Nat.le_of_ble_eq_true rfl, Nat.le_of_ble_eq_true rfl⟩ (z_rr (fun r9 σ1 hx => ?_)) (fun E9 σ9 hx => by obtain ⟨rfl, hx, rfl⟩ := hx; exact z_out hT C.2.2.2.2.2.2.2.1 (Nat.le_of_ble_eq_true rfl) (Nat.le_of_ble_eq_true rfl) (zXk.e1 (by simp only [hx, eq_self, decide_true, decide_false, Bool.and_true, Bool.true_and, Bool.and_false, Bool.false_and, Bool.or_true, Bool.true_or, Bool.or_false, Bool.false_or, Bool.not_true, Bool.not_false, not_true, not_false_eq_true, if_true, if_false])))
  obtain ⟨t2, rfl, rfl⟩ := hx
  obtain ⟨i, hi, rfl⟩ := inB_ix i11 (by decide) t2
  have zi : zN (nI i) = i := zN_nI (by omega)
  rw [zi]
  refine z_astore_n (i := 3) C dX6_adjust_5 rfl (by decide) ?_
  refine z_iload_n (i := 2) C dX6_adjust_6 rfl rfl ?_
  refine z_ldc C dX6_adjust_7 kc_RX6_103 ?_
  refine z_ldc C dX6_adjust_9 kc_RX6_104 ?_
  refine z_callS C Y_X6_requireRange sm_yX6_requireRange ml_RX6_35 (c_X6_requireRange l) dX6_adjust_11 rfl rfl (fun _ => Nat.le_of_ble_eq_true rfl) ⟨Nat.le_of_ble_eq_true rfl, Nat.le_of_ble_eq_true rfl⟩ ⟨Nat.le_of_ble_eq_true rfl, Nat.le_of_ble_eq_true rfl⟩ (z_rv (fun σ1 hx => ?_)) (fun E9 σ9 hx => by obtain ⟨rfl, hx, rfl⟩ := hx; exact z_out hT C.2.2.2.2.2.2.2.1 (Nat.le_of_ble_eq_true rfl) (Nat.le_of_ble_eq_true rfl) (zXk.e2 (by simp only [t2, zi, eq_self, decide_true, decide_false, Bool.and_true, Bool.true_and, Bool.and_false, Bool.false_and, Bool.or_true, Bool.true_or, Bool.or_false, Bool.false_or, Bool.not_true, Bool.not_false, not_true, not_false_eq_true, if_true, if_false]) (by simp only [t2, zi, hx, eq_self, decide_true, decide_false, Bool.and_true, Bool.true_and, Bool.and_false, Bool.false_and, Bool.or_true, Bool.true_or, Bool.or_false, Bool.false_or, Bool.not_true, Bool.not_false, not_true, not_false_eq_true, if_true, if_false])))
  obtain ⟨t11, rfl⟩ := hx
  refine z_aload_n (i := 3) C dX6_adjust_14 rfl rfl ?_
  refine z_getf C f_RX6_105 dX6_adjust_15 (dS.2.1 _ (by first | assumption | omega)) rfl ?_
  refine z_istore C dX6_adjust_18 (by decide) ?_
  refine z_aload_n (i := 3) C dX6_adjust_20 rfl rfl ?_
  refine z_iload_n (i := 2) C dX6_adjust_21 rfl rfl ?_
  refine z_putf C fp_RX6_105 dX6_adjust_22 (dS.2.1 _ hi) (by decide) (Nat.le_of_ble_eq_true rfl) (fun _ => ⟨rfl, rfl⟩) ?_
  refine z_iload C dX6_adjust_25 rfl ?_
  exact z_iret C hr rfl dX6_adjust_27 (Nat.le_of_ble_eq_true rfl) (Nat.le_of_ble_eq_true rfl) ⟨_, rfl, zDz.ok (by simp only [t2, zi, t11, eq_self, decide_true, decide_false, Bool.and_true, Bool.true_and, Bool.and_false, Bool.false_and, Bool.or_true, Bool.true_or, Bool.or_false, Bool.false_or, Bool.not_true, Bool.not_false, not_true, not_false_eq_true, if_true, if_false]) (by simp only [t2, zi, t11, eq_self, decide_true, decide_false, Bool.and_true, Bool.true_and, Bool.and_false, Bool.false_and, Bool.or_true, Bool.true_or, Bool.or_false, Bool.false_or, Bool.not_true, Bool.not_false, not_true, not_false_eq_true, if_true, if_false]) (by simp only [t2, zi, t11, eq_self, decide_true, decide_false, Bool.and_true, Bool.true_and, Bool.and_false, Bool.false_and, Bool.or_true, Bool.true_or, Bool.or_false, Bool.false_or, Bool.not_true, Bool.not_false, not_true, not_false_eq_true, if_true, if_false]) (rfl) ⟨⟨(show D0 _ _ from by unfold D0; rw [zput_n (by omega)]; exact d0), dA.ag (fun k9 i9 z => zput_n (by omega)), dR.ag (fun k9 i9 z => zput_n (by omega)), dS.u14 hi, dC.ag (fun k9 i9 z => zput_n (by omega)) (fun c9 _ => by apply cnt_cg <;> rfl), dQ.ag (fun k9 i9 z => zput_n (by omega))⟩, dF.ag (fun k9 i9 z => zput_n (by omega))⟩ (Fk.put (by decide))⟩

