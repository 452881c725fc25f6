/-! the desk: the public methods that look through rows -/
set_option maxRecDepth 100000 in
set_option maxHeartbeats 4000000 in
theorem c_X6_stalled {X : zX} (l : Launch) {x : Nat → Int32} {a : Nat → Nat → Int32} {σ : zHp} (hD : DK x a σ) (hI : zInv x a) {w : Int32} : zM X l yX6_stalled cX6_stalled 5 (some .int) 8 3 18 [aR 0 0, aI w] σ (zPi (zDq (k_stalled x a w) (stlL x a w (zN (x 15))) σ)) (zXk (k_stalled x a w) eIA eIA eIS σ) := by
  obtain ⟨i0, i1, i6, i11, i15, i23, i24, i29, iA, iS, iC, iQ, iP⟩ := id hI
  have b1 := i1.2
  have b6 := i6.2
  have b11 := i11.2
  have b15 := i15.2
  have b23 := i23.2
  have b24 := i24.2
  have b29 := i29.2
  obtain ⟨hE, dF⟩ := id hD
  obtain ⟨d0, dA, dR, dS, dC, dQ⟩ := id hE
  have lA := dA.1
  have lS := dS.1
  have lC := dC.1
  have lQ := dQ.1
  have lF := dF.1
  refine zM.of (by decide +kernel) (Nat.le_of_ble_eq_true rfl) (by simp [zcat, Value.category]) ?_
  intro p e s m args below meth c9 loc0 C hr hnm hT
  refine z_iload_n (i := 1) C dX6_stalled_0 rfl rfl ?_
  refine z_iconst (v := 0) C dX6_stalled_1 (by decide) ?_
  refine z_ldc C dX6_stalled_2 kc_RX6_39 ?_
  refine z_callS C Y_X6_requireRange sm_yX6_requireRange ml_RX6_35 (c_X6_requireRange l) dX6_stalled_4 rfl rfl (fun _ => Nat.le_of_ble_eq_true rfl) ⟨Nat.le_of_ble_eq_true rfl, Nat.le_of_ble_eq_true rfl⟩ ⟨Nat.le_of_ble_eq_true rfl, Nat.le_of_ble_eq_true rfl⟩ (z_rv (fun σ1 hx => ?_)) (fun E9 σ9 hx => by obtain ⟨rfl, hx, rfl⟩ := hx; exact z_out hT C.2.2.2.2.2.2.2.1 (Nat.le_of_ble_eq_true rfl) (Nat.le_of_ble_eq_true rfl) (zXk.e1 (by simp only [hx, eq_self, decide_true, decide_false, Bool.and_true, Bool.true_and, Bool.and_false, Bool.false_and, Bool.or_true, Bool.true_or, Bool.or_false, Bool.false_or, Bool.not_true, Bool.not_false, not_true, not_false_eq_true, if_true, if_false])))
  obtain ⟨t4, rfl⟩ := hx
  refine z_iconst (v := 0) C dX6_stalled_7 (by decide) ?_
  refine z_istore_n (i := 2) C dX6_stalled_8 rfl (by decide) ?_
  refine z_iconst (v := 0) C dX6_stalled_9 (by decide) ?_
  refine z_istore_n (i := 3) C dX6_stalled_10 rfl (by decide) ?_
  have lp : ∀ (r k : Nat), k + r = zN (x 15) → zG X p l e (zRm 8 3 18) s m args below meth c9 5 σ1 loc0 (zQ X σ1 loc0 below (zPi (zDq (k_stalled x a w) (stlL x a w (zN (x 15))) σ1)) (zXk (k_stalled x a w) eIA eIA eIS σ1) args s 3 18) 1 6 σ1 11 [(0, aR 0 0), (1, aI w), (2, aI (stlL x a w k)), (3, aI (nI k))] [] := by
    intro r
    induction r with
    | zero =>
      intro k hk
      refine z_iload_n (i := 3) C dX6_stalled_11 rfl rfl ?_
      refine z_aload_n (i := 0) C dX6_stalled_12 rfl rfl ?_
      refine z_getf C f_RX6_22 dX6_stalled_13 d0 rfl ?_
      refine z_callV C Y_Jx4a65c_size_8abf5 V_Jx4a65c_size_8abf5 ml_RX6_51 (c_Jx4a65c_size_8abf5 l lC) dX6_stalled_16 rfl rfl (zLs.ob lC) ⟨_, _, rfl⟩ (fun _ => Nat.le_of_ble_eq_true rfl) ⟨Nat.le_of_ble_eq_true rfl, Nat.le_of_ble_eq_true rfl⟩ ⟨Nat.le_of_ble_eq_true rfl, Nat.le_of_ble_eq_true rfl⟩ (z_ri (fun x σ1 hx => ?_)) (z_nx)
      obtain ⟨rfl, rfl⟩ := hx
      refine z_icmp_ge (tgt := 66) C dX6_stalled_19 (by decide) (fun _ => ?_) (fun h => absurd (by rw [show k = zN (x 15) by omega]; exact Int32.le_refl _) h)
      refine z_iload_n (i := 2) C dX6_stalled_66 rfl rfl ?_
      exact z_iret C hr rfl dX6_stalled_67 (Nat.le_of_ble_eq_true rfl) (Nat.le_of_ble_eq_true rfl) ⟨_, rfl, zDq.ok (by simp only [t4, eq_self, decide_true, decide_false, Bool.and_true, Bool.true_and, Bool.and_false, Bool.false_and, Bool.or_true, Bool.true_or, Bool.or_false, Bool.false_or, Bool.not_true, Bool.not_false, not_true, not_false_eq_true, if_true, if_false]) (by simp only [t4, eq_self, decide_true, decide_false, Bool.and_true, Bool.true_and, Bool.and_false, Bool.false_and, Bool.or_true, Bool.true_or, Bool.or_false, Bool.false_or, Bool.not_true, Bool.not_false, not_true, not_false_eq_true, if_true, if_false]) (by simp only [t4, eq_self, decide_true, decide_false, Bool.and_true, Bool.true_and, Bool.and_false, Bool.false_and, Bool.or_true, Bool.true_or, Bool.or_false, Bool.false_or, Bool.not_true, Bool.not_false, not_true, not_false_eq_true, if_true, if_false]) (by rw [show k = zN (x 15) by omega]) rfl⟩
    | succ r ih =>
      intro k hk
      refine z_iload_n (i := 3) C dX6_stalled_11 rfl rfl ?_
      refine z_aload_n (i := 0) C dX6_stalled_12 rfl rfl ?_
      refine z_getf C f_RX6_22 dX6_stalled_13 d0 rfl ?_
      refine z_callV C Y_Jx4a65c_size_8abf5 V_Jx4a65c_size_8abf5 ml_RX6_51 (c_Jx4a65c_size_8abf5 l lC) dX6_stalled_16 rfl rfl (zLs.ob lC) ⟨_, _, rfl⟩ (fun _ => Nat.le_of_ble_eq_true rfl) ⟨Nat.le_of_ble_eq_true rfl, Nat.le_of_ble_eq_true rfl⟩ ⟨Nat.le_of_ble_eq_true rfl, Nat.le_of_ble_eq_true rfl⟩ (z_ri (fun x σ1 hx => ?_)) (z_nx)
      obtain ⟨rfl, rfl⟩ := hx
      refine z_icmp_ge (tgt := 66) C dX6_stalled_19 (by decide) (fun h => absurd h (nI_ge (by omega) (by omega))) (fun _ => ?_)
      refine z_aload_n (i := 0) C dX6_stalled_22 rfl rfl ?_
      refine z_getf C f_RX6_22 dX6_stalled_23 d0 rfl ?_
      refine z_iload_n (i := 3) C dX6_stalled_26 rfl rfl ?_
      refine z_callV C Y_Jx4a65c_get_915e3 V_Jx4a65c_get_915e3 ml_RX6_171 (c_Jx4a65c_get_915e3 l lC (i := k) (by first | assumption | omega) (by omega)) dX6_stalled_27 rfl rfl (zLs.ob lC) ⟨_, _, rfl⟩ (fun _ => Nat.le_of_ble_eq_true rfl) ⟨Nat.le_of_ble_eq_true rfl, Nat.le_of_ble_eq_true rfl⟩ ⟨Nat.le_of_ble_eq_true rfl, Nat.le_of_ble_eq_true rfl⟩ (z_rr (fun r9 σ1 hx => ?_)) (z_nx)
      obtain ⟨rfl, rfl⟩ := hx
      refine z_castR C dX6_stalled_30 (dC.2.1 _ (by first | assumption | omega)) ⟨_, _, _, rfl, kl_RX6_108⟩ ?_
      refine z_astore C dX6_stalled_33 (by decide) ?_
      refine z_aload C dX6_stalled_35 rfl ?_
      refine z_callS C Y_X6_isOpen sm_yX6_isOpen ml_RX6_160 (c_X6_isOpen l (dC.2.1 _ (by omega))) dX6_stalled_37 rfl rfl (fun _ => Nat.le_of_ble_eq_true rfl) ⟨Nat.le_of_ble_eq_true rfl, Nat.le_of_ble_eq_true rfl⟩ ⟨Nat.le_of_ble_eq_true rfl, Nat.le_of_ble_eq_true rfl⟩ (z_ri (fun x σ1 hx => ?_)) (z_nx)
      obtain ⟨rfl, rfl⟩ := hx
      refine z_if_eqB (tgt := 60) C dX6_stalled_40 (by decide) (fun hb => ?_) (fun hb => ?_)
      · refine z_iinc C dX6_stalled_60 (by decide) rfl (zinc k) ?_
        refine z_goto (tgt := 11) C dX6_stalled_63 (by decide) ?_
        refine z_sub (L' := [(0, aR 0 0), (1, aI w), (2, aI (stlL x a w k)), (3, aI (nI (k + 1)))]) (zs1 rfl (zs1 rfl (zs1 rfl (zs1 rfl zs0)))) ?_
        refine Eq.mp ?_ (ih (k + 1) (by omega))
        rw [show stlL x a w (k + 1) = stlL x a w k by rw [stlL, show (opnB a k && decide (w < x 0 - a 19 k)) = false by rw [hb]; rfl]; exact Int32.add_zero _]
      · refine z_aload_n (i := 0) C dX6_stalled_43 rfl rfl ?_
        refine z_getf C f_RX6_31 dX6_stalled_44 d0 rfl ?_
        refine z_aload C dX6_stalled_47 rfl ?_
        refine z_getf C f_RX6_151 dX6_stalled_49 (dC.2.1 _ (by first | assumption | omega)) rfl ?_
        refine z_isub C dX6_stalled_52 ?_
        refine z_iload_n (i := 1) C dX6_stalled_53 rfl rfl ?_
        refine z_icmp_le (tgt := 60) C dX6_stalled_54 (by decide) (fun h54 => ?_) (fun h54 => ?_)
        · refine z_iinc C dX6_stalled_60 (by decide) rfl (zinc k) ?_
          refine z_goto (tgt := 11) C dX6_stalled_63 (by decide) ?_
          refine z_sub (L' := [(0, aR 0 0), (1, aI w), (2, aI (stlL x a w k)), (3, aI (nI (k + 1)))]) (zs1 rfl (zs1 rfl (zs1 rfl (zs1 rfl zs0)))) ?_
          refine Eq.mp ?_ (ih (k + 1) (by omega))
          rw [show stlL x a w (k + 1) = stlL x a w k by rw [stlL, show (opnB a k && decide (w < x 0 - a 19 k)) = false by rw [hb, decide_eq_false (Int32.not_lt.mpr h54)]; rfl]; exact Int32.add_zero _]
        · refine z_iinc C dX6_stalled_57 (by decide) rfl rfl ?_
          refine z_iinc C dX6_stalled_60 (by decide) rfl (zinc k) ?_
          refine z_goto (tgt := 11) C dX6_stalled_63 (by decide) ?_
          refine z_sub (L' := [(0, aR 0 0), (1, aI w), (2, aI (stlL x a w k + 1)), (3, aI (nI (k + 1)))]) (zs1 rfl (zs1 rfl (zs1 rfl (zs1 rfl zs0)))) ?_
          refine Eq.mp ?_ (ih (k + 1) (by omega))
          rw [show stlL x a w (k + 1) = stlL x a w k + 1 by rw [stlL, show (opnB a k && decide (w < x 0 - a 19 k)) = true by rw [hb, decide_eq_true (Int32.not_le.mp h54)]; rfl]; rfl]
  refine z_sub (L' := [(0, aR 0 0), (1, aI w), (2, aI (0)), (3, aI (nI 0))]) (zs1 rfl (zs1 rfl (zs1 rfl (zs1 rfl zs0)))) ?_
  exact lp (zN (x 15)) 0 (Nat.zero_add _)

set_option maxRecDepth 100000 in
set_option maxHeartbeats 4000000 in
theorem c_X6_waiting {X : zX} (l : Launch) {x : Nat → Int32} {a : Nat → Nat → Int32} {σ : zHp} (hD : DK x a σ) (hI : zInv x a) : zM X l yX6_waiting cX6_waiting 4 (some .int) 8 3 18 [aR 0 0] σ (zPi (zDq 0 (watL a (zN (x 23))) σ)) (zXk 0 eIO eIA eIS σ) := by
  obtain ⟨i0, i1, i6, i11, i15, i23, i24, i29, iA, iS, iC, iQ, iP⟩ := id hI
  have b1 := i1.2
  have b6 := i6.2
  have b11 := i11.2
  have b15 := i15.2
  have b23 := i23.2
  have b24 := i24.2
  have b29 := i29.2
  obtain ⟨hE, dF⟩ := id hD
  obtain ⟨d0, dA, dR, dS, dC, dQ⟩ := id hE
  have lA := dA.1
  have lS := dS.1
  have lC := dC.1
  have lQ := dQ.1
  have lF := dF.1
  refine zM.of (by decide +kernel) (Nat.le_of_ble_eq_true rfl) (by simp [zcat, Value.category]) ?_
  intro p e s m args below meth c9 loc0 C hr hnm hT
  refine z_iconst (v := 0) C dX6_waiting_0 (by decide) ?_
  refine z_istore_n (i := 1) C dX6_waiting_1 rfl (by decide) ?_
  refine z_iconst (v := 0) C dX6_waiting_2 (by decide) ?_
  refine z_istore_n (i := 2) C dX6_waiting_3 rfl (by decide) ?_
  have lp : ∀ (r k : Nat), k + r = zN (x 23) → zG X p l e (zRm 8 3 18) s m args below meth c9 4 σ loc0 (zQ X σ loc0 below (zPi (zDq 0 (watL a (zN (x 23))) σ)) (zXk 0 eIO eIA eIS σ) args s 3 18) 0 0 σ 4 [(0, aR 0 0), (1, aI (watL a k)), (2, aI (nI k))] [] := by
    intro r
    induction r with
    | zero =>
      intro k hk
      refine z_iload_n (i := 2) C dX6_waiting_4 rfl rfl ?_
      refine z_aload_n (i := 0) C dX6_waiting_5 rfl rfl ?_
      refine z_getf C f_RX6_25 dX6_waiting_6 d0 rfl ?_
      refine z_callV C Y_Jx4a65c_size_8abf5 V_Jx4a65c_size_8abf5 ml_RX6_51 (c_Jx4a65c_size_8abf5 l lQ) dX6_waiting_9 rfl rfl (zLs.ob lQ) ⟨_, _, rfl⟩ (fun _ => Nat.le_of_ble_eq_true rfl) ⟨Nat.le_of_ble_eq_true rfl, Nat.le_of_ble_eq_true rfl⟩ ⟨Nat.le_of_ble_eq_true rfl, Nat.le_of_ble_eq_true rfl⟩ (z_ri (fun x σ1 hx => ?_)) (z_nx)
      obtain ⟨rfl, rfl⟩ := hx
      refine z_icmp_ge (tgt := 53) C dX6_waiting_12 (by decide) (fun _ => ?_) (fun h => absurd (by rw [show k = zN (x 23) by omega]; exact Int32.le_refl _) h)
      refine z_iload_n (i := 1) C dX6_waiting_53 rfl rfl ?_
      exact z_iret C hr rfl dX6_waiting_54 (Nat.le_of_ble_eq_true rfl) (Nat.le_of_ble_eq_true rfl) ⟨_, rfl, rfl, by rw [show k = zN (x 23) by omega], rfl⟩
    | succ r ih =>
      intro k hk
      refine z_iload_n (i := 2) C dX6_waiting_4 rfl rfl ?_
      refine z_aload_n (i := 0) C dX6_waiting_5 rfl rfl ?_
      refine z_getf C f_RX6_25 dX6_waiting_6 d0 rfl ?_
      refine z_callV C Y_Jx4a65c_size_8abf5 V_Jx4a65c_size_8abf5 ml_RX6_51 (c_Jx4a65c_size_8abf5 l lQ) dX6_waiting_9 rfl rfl (zLs.ob lQ) ⟨_, _, rfl⟩ (fun _ => Nat.le_of_ble_eq_true rfl) ⟨Nat.le_of_ble_eq_true rfl, Nat.le_of_ble_eq_true rfl⟩ ⟨Nat.le_of_ble_eq_true rfl, Nat.le_of_ble_eq_true rfl⟩ (z_ri (fun x σ1 hx => ?_)) (z_nx)
      obtain ⟨rfl, rfl⟩ := hx
      refine z_icmp_ge (tgt := 53) C dX6_waiting_12 (by decide) (fun h => absurd h (nI_ge (by omega) (by omega))) (fun _ => ?_)
      obtain ⟨⟨ic, hic, ec⟩, -, -⟩ := iQ k (by omega)
      have zc : zN (a 25 k) = ic := by rw [ec, zN_nI (by omega)]
      refine z_aload_n (i := 0) C dX6_waiting_15 rfl rfl ?_
      refine z_getf C f_RX6_25 dX6_waiting_16 d0 rfl ?_
      refine z_iload_n (i := 2) C dX6_waiting_19 rfl rfl ?_
      refine z_callV C Y_Jx4a65c_get_915e3 V_Jx4a65c_get_915e3 ml_RX6_171 (c_Jx4a65c_get_915e3 l lQ (i := k) (by first | assumption | omega) (by omega)) dX6_waiting_20 rfl rfl (zLs.ob lQ) ⟨_, _, rfl⟩ (fun _ => Nat.le_of_ble_eq_true rfl) ⟨Nat.le_of_ble_eq_true rfl, Nat.le_of_ble_eq_true rfl⟩ ⟨Nat.le_of_ble_eq_true rfl, Nat.le_of_ble_eq_true rfl⟩ (z_rr (fun r9 σ1 hx => ?_)) (z_nx)
      obtain ⟨rfl, rfl⟩ := hx
      refine z_castR C dX6_waiting_23 (dQ.2.1 _ (by first | assumption | omega)) ⟨_, _, _, rfl, kl_RX6_185⟩ ?_
      refine z_astore_n (i := 3) C dX6_waiting_26 rfl (by decide) ?_
      refine z_aload_n (i := 3) C dX6_waiting_27 rfl rfl ?_
      refine z_getf C f_RX6_206 dX6_waiting_28 (dQ.2.1 _ (by first | assumption | omega)) rfl ?_
      refine z_if_neB (tgt := 47) C dX6_waiting_31 (by decide) (fun hb => ?_) (fun hb => ?_)
      · refine z_iinc C dX6_waiting_47 (by decide) rfl (zinc k) ?_
        refine z_goto (tgt := 4) C dX6_waiting_50 (by decide) ?_
        refine z_sub (L' := [(0, aR 0 0), (1, aI (watL a k)), (2, aI (nI (k + 1)))]) (zs1 rfl (zs1 rfl (zs1 rfl zs0))) ?_
        refine Eq.mp ?_ (ih (k + 1) (by omega))
        rw [show watL a (k + 1) = watL a k by rw [watL, show (decide (a 28 k = 0) && opnB a (zN (a 25 k))) = false by rw [show decide (a 28 k = 0) = false by cases e : decide (a 28 k = 0) <;> simp_all]; rfl]; exact Int32.add_zero _]
      · have hb' : decide (a 28 k = 0) = true := by cases e : decide (a 28 k = 0) <;> simp_all
        refine z_aload_n (i := 3) C dX6_waiting_34 rfl rfl ?_
        refine z_getf C f_RX6_202 dX6_waiting_35 (dQ.2.1 _ (by first | assumption | omega)) rfl ?_
        rw [zc]
        refine z_callS C Y_X6_isOpen sm_yX6_isOpen ml_RX6_160 (c_X6_isOpen l (dC.2.1 _ (by omega))) dX6_waiting_38 rfl rfl (fun _ => Nat.le_of_ble_eq_true rfl) ⟨Nat.le_of_ble_eq_true rfl, Nat.le_of_ble_eq_true rfl⟩ ⟨Nat.le_of_ble_eq_true rfl, Nat.le_of_ble_eq_true rfl⟩ (z_ri (fun x σ1 hx => ?_)) (z_nx)
        obtain ⟨rfl, rfl⟩ := hx
        refine z_if_eqB (tgt := 47) C dX6_waiting_41 (by decide) (fun ho => ?_) (fun ho => ?_)
        · refine z_iinc C dX6_waiting_47 (by decide) rfl (zinc k) ?_
          refine z_goto (tgt := 4) C dX6_waiting_50 (by decide) ?_
          refine z_sub (L' := [(0, aR 0 0), (1, aI (watL a k)), (2, aI (nI (k + 1)))]) (zs1 rfl (zs1 rfl (zs1 rfl zs0))) ?_
          refine Eq.mp ?_ (ih (k + 1) (by omega))
          rw [show watL a (k + 1) = watL a k by rw [watL, show (decide (a 28 k = 0) && opnB a (zN (a 25 k))) = false by rw [zc, ho, Bool.and_false]]; exact Int32.add_zero _]
        · refine z_iinc C dX6_waiting_44 (by decide) rfl rfl ?_
          refine z_iinc C dX6_waiting_47 (by decide) rfl (zinc k) ?_
          refine z_goto (tgt := 4) C dX6_waiting_50 (by decide) ?_
          refine z_sub (L' := [(0, aR 0 0), (1, aI (watL a k + 1)), (2, aI (nI (k + 1)))]) (zs1 rfl (zs1 rfl (zs1 rfl zs0))) ?_
          refine Eq.mp ?_ (ih (k + 1) (by omega))
          rw [show watL a (k + 1) = watL a k + 1 by rw [watL, show (decide (a 28 k = 0) && opnB a (zN (a 25 k))) = true by rw [zc, ho, hb']; rfl]; rfl]
  refine z_sub (L' := [(0, aR 0 0), (1, aI (0)), (2, aI (nI 0))]) (zs1 rfl (zs1 rfl (zs1 rfl zs0))) ?_
  exact lp (zN (x 23)) 0 (Nat.zero_add _)

set_option maxRecDepth 100000 in
set_option maxHeartbeats 4000000 in
theorem c_X6_inRegion {X : zX} (l : Launch) {x : Nat → Int32} {a : Nat → Nat → Int32} {σ : zHp} (hD : DK x a σ) (hI : zInv x a) {w t : Int32} : zM X l yX6_inRegion cX6_inRegion 6 (some .int) 8 3 18 [aR 0 0, aI w, aI t] σ (zPi (zDq (k_inRegion x a w t) (inrL x a w t (zN (x 15))) σ)) (zXk (k_inRegion x a w t) eIA eIA eIS σ) := by
  obtain ⟨i0, i1, i6, i11, i15, i23, i24, i29, iA, iS, iC, iQ, iP⟩ := id hI
  have b1 := i1.2
  have b6 := i6.2
  have b11 := i11.2
  have b15 := i15.2
  have b23 := i23.2
  have b24 := i24.2
  have b29 := i29.2
  obtain ⟨hE, dF⟩ := id hD
  obtain ⟨d0, dA, dR, dS, dC, dQ⟩ := id hE
  have lA := dA.1
  have lS := dS.1
  have lC := dC.1
  have lQ := dQ.1
  have lF := dF.1
  refine zM.of (by decide +kernel) (Nat.le_of_ble_eq_true rfl) (by simp [zcat, Value.category]) ?_
  intro p e s m args below meth c9 loc0 C hr hnm hT
  refine z_iload_n (i := 1) C dX6_inRegion_0 rfl rfl ?_
  refine z_iconst (v := 0) C dX6_inRegion_1 (by decide) ?_
  refine z_iconst (v := 3) C dX6_inRegion_2 (by decide) ?_
  refine z_callS C Y_X6_requireRange sm_yX6_requireRange ml_RX6_35 (c_X6_requireRange l) dX6_inRegion_3 rfl rfl (fun _ => Nat.le_of_ble_eq_true rfl) ⟨Nat.le_of_ble_eq_true rfl, Nat.le_of_ble_eq_true rfl⟩ ⟨Nat.le_of_ble_eq_true rfl, Nat.le_of_ble_eq_true rfl⟩ (z_rv (fun σ1 hx => ?_)) (fun E9 σ9 hx => by obtain ⟨rfl, hx, rfl⟩ := hx; exact z_out hT C.2.2.2.2.2.2.2.1 (Nat.le_of_ble_eq_true rfl) (Nat.le_of_ble_eq_true rfl) (zXk.e1 (by simp only [hx, eq_self, decide_true, decide_false, Bool.and_true, Bool.true_and, Bool.and_false, Bool.false_and, Bool.or_true, Bool.true_or, Bool.or_false, Bool.false_or, Bool.not_true, Bool.not_false, not_true, not_false_eq_true, if_true, if_false])))
  obtain ⟨t3, rfl⟩ := hx
  refine z_iload_n (i := 2) C dX6_inRegion_6 rfl rfl ?_
  refine z_callS C Y_X6_requireStage sm_yX6_requireStage ml_RX6_141 (c_X6_requireStage l) dX6_inRegion_7 rfl rfl (fun _ => Nat.le_of_ble_eq_true rfl) ⟨Nat.le_of_ble_eq_true rfl, Nat.le_of_ble_eq_true rfl⟩ ⟨Nat.le_of_ble_eq_true rfl, Nat.le_of_ble_eq_true rfl⟩ (z_rv (fun σ1 hx => ?_)) (fun E9 σ9 hx => by obtain ⟨rfl, hx, rfl⟩ := hx; exact z_out hT C.2.2.2.2.2.2.2.1 (Nat.le_of_ble_eq_true rfl) (Nat.le_of_ble_eq_true rfl) (zXk.e1 (by simp only [t3, hx, eq_self, decide_true, decide_false, Bool.and_true, Bool.true_and, Bool.and_false, Bool.false_and, Bool.or_true, Bool.true_or, Bool.or_false, Bool.false_or, Bool.not_true, Bool.not_false, not_true, not_false_eq_true, if_true, if_false])))
  obtain ⟨t7, rfl⟩ := hx
  refine z_iconst (v := 0) C dX6_inRegion_10 (by decide) ?_
  refine z_istore_n (i := 3) C dX6_inRegion_11 rfl (by decide) ?_
  refine z_iconst (v := 0) C dX6_inRegion_12 (by decide) ?_
  refine z_istore C dX6_inRegion_13 (by decide) ?_
  have lp : ∀ (r k : Nat), k + r = zN (x 15) → zG X p l e (zRm 8 3 18) s m args below meth c9 6 σ1 loc0 (zQ X σ1 loc0 below (zPi (zDq (k_inRegion x a w t) (inrL x a w t (zN (x 15))) σ1)) (zXk (k_inRegion x a w t) eIA eIA eIS σ1) args s 3 18) 2 12 σ1 15 [(0, aR 0 0), (1, aI w), (2, aI t), (3, aI (inrL x a w t k)), (4, aI (nI k))] [] := by
    intro r
    induction r with
    | zero =>
      intro k hk
      refine z_iload C dX6_inRegion_15 rfl ?_
      refine z_aload_n (i := 0) C dX6_inRegion_17 rfl rfl ?_
      refine z_getf C f_RX6_22 dX6_inRegion_18 d0 rfl ?_
      refine z_callV C Y_Jx4a65c_size_8abf5 V_Jx4a65c_size_8abf5 ml_RX6_51 (c_Jx4a65c_size_8abf5 l lC) dX6_inRegion_21 rfl rfl (zLs.ob lC) ⟨_, _, rfl⟩ (fun _ => Nat.le_of_ble_eq_true rfl) ⟨Nat.le_of_ble_eq_true rfl, Nat.le_of_ble_eq_true rfl⟩ ⟨Nat.le_of_ble_eq_true rfl, Nat.le_of_ble_eq_true rfl⟩ (z_ri (fun x σ1 hx => ?_)) (z_nx)
      obtain ⟨rfl, rfl⟩ := hx
      refine z_icmp_ge (tgt := 74) C dX6_inRegion_24 (by decide) (fun _ => ?_) (fun h => absurd (by rw [show k = zN (x 15) by omega]; exact Int32.le_refl _) h)
      refine z_iload_n (i := 3) C dX6_inRegion_74 rfl rfl ?_
      exact z_iret C hr rfl dX6_inRegion_75 (Nat.le_of_ble_eq_true rfl) (Nat.le_of_ble_eq_true rfl) ⟨_, rfl, zDq.ok (by simp only [t3, t7, eq_self, decide_true, decide_false, Bool.and_true, Bool.true_and, Bool.and_false, Bool.false_and, Bool.or_true, Bool.true_or, Bool.or_false, Bool.false_or, Bool.not_true, Bool.not_false, not_true, not_false_eq_true, if_true, if_false]) (by simp only [t3, t7, eq_self, decide_true, decide_false, Bool.and_true, Bool.true_and, Bool.and_false, Bool.false_and, Bool.or_true, Bool.true_or, Bool.or_false, Bool.false_or, Bool.not_true, Bool.not_false, not_true, not_false_eq_true, if_true, if_false]) (by simp only [t3, t7, eq_self, decide_true, decide_false, Bool.and_true, Bool.true_and, Bool.and_false, Bool.false_and, Bool.or_true, Bool.true_or, Bool.or_false, Bool.false_or, Bool.not_true, Bool.not_false, not_true, not_false_eq_true, if_true, if_false]) (by rw [show k = zN (x 15) by omega]) rfl⟩
    | succ r ih =>
      intro k hk
      refine z_iload C dX6_inRegion_15 rfl ?_
      refine z_aload_n (i := 0) C dX6_inRegion_17 rfl rfl ?_
      refine z_getf C f_RX6_22 dX6_inRegion_18 d0 rfl ?_
      refine z_callV C Y_Jx4a65c_size_8abf5 V_Jx4a65c_size_8abf5 ml_RX6_51 (c_Jx4a65c_size_8abf5 l lC) dX6_inRegion_21 rfl rfl (zLs.ob lC) ⟨_, _, rfl⟩ (fun _ => Nat.le_of_ble_eq_true rfl) ⟨Nat.le_of_ble_eq_true rfl, Nat.le_of_ble_eq_true rfl⟩ ⟨Nat.le_of_ble_eq_true rfl, Nat.le_of_ble_eq_true rfl⟩ (z_ri (fun x σ1 hx => ?_)) (z_nx)
      obtain ⟨rfl, rfl⟩ := hx
      refine z_icmp_ge (tgt := 74) C dX6_inRegion_24 (by decide) (fun h => absurd h (nI_ge (by omega) (by omega))) (fun _ => ?_)
      refine z_aload_n (i := 0) C dX6_inRegion_27 rfl rfl ?_
      refine z_getf C f_RX6_22 dX6_inRegion_28 d0 rfl ?_
      refine z_iload C dX6_inRegion_31 rfl ?_
      refine z_callV C Y_Jx4a65c_get_915e3 V_Jx4a65c_get_915e3 ml_RX6_171 (c_Jx4a65c_get_915e3 l lC (i := k) (by first | assumption | omega) (by omega)) dX6_inRegion_33 rfl rfl (zLs.ob lC) ⟨_, _, rfl⟩ (fun _ => Nat.le_of_ble_eq_true rfl) ⟨Nat.le_of_ble_eq_true rfl, Nat.le_of_ble_eq_true rfl⟩ ⟨Nat.le_of_ble_eq_true rfl, Nat.le_of_ble_eq_true rfl⟩ (z_rr (fun r9 σ1 hx => ?_)) (z_nx)
      obtain ⟨rfl, rfl⟩ := hx
      refine z_castR C dX6_inRegion_36 (dC.2.1 _ (by first | assumption | omega)) ⟨_, _, _, rfl, kl_RX6_108⟩ ?_
      refine z_astore C dX6_inRegion_39 (by decide) ?_
      refine z_aload C dX6_inRegion_41 rfl ?_
      refine z_getf C f_RX6_157 dX6_inRegion_43 (dC.2.1 _ (by first | assumption | omega)) rfl ?_
      refine z_iload_n (i := 2) C dX6_inRegion_46 rfl rfl ?_
      refine z_icmp_ne (tgt := 68) C dX6_inRegion_47 (by decide) (fun h47 => ?_) (fun h47 => ?_)
      · refine z_iinc C dX6_inRegion_68 (by decide) rfl (zinc k) ?_
        refine z_goto (tgt := 15) C dX6_inRegion_71 (by decide) ?_
        refine z_sub (L' := [(0, aR 0 0), (1, aI w), (2, aI t), (3, aI (inrL x a w t k)), (4, aI (nI (k + 1)))]) (zs1 rfl (zs1 rfl (zs1 rfl (zs1 rfl (zs1 rfl zs0))))) ?_
        refine Eq.mp ?_ (ih (k + 1) (by omega))
        rw [show inrL x a w t (k + 1) = inrL x a w t k by rw [inrL, show (decide (rgnC x a k = w) && decide (a 18 k = t)) = false by rw [decide_eq_false h47, Bool.and_false]]; exact Int32.add_zero _]
      · refine z_aload_n (i := 0) C dX6_inRegion_50 rfl rfl ?_
        refine z_aload C dX6_inRegion_51 rfl ?_
        refine z_callV C Y_X6_regionFor V_X6_regionFor ml_RX6_178 (c_X6_regionFor l hE hI (by omega)) dX6_inRegion_53 rfl rfl d0 ⟨_, _, rfl⟩ (fun _ => Nat.le_of_ble_eq_true rfl) ⟨Nat.le_of_ble_eq_true rfl, Nat.le_of_ble_eq_true rfl⟩ ⟨Nat.le_of_ble_eq_true rfl, Nat.le_of_ble_eq_true rfl⟩ (z_ri (fun x σ1 hx => ?_)) (z_nx)
        obtain ⟨rfl, rfl⟩ := hx
        refine z_iload_n (i := 1) C dX6_inRegion_56 rfl rfl ?_
        refine z_icmp_ne (tgt := 68) C dX6_inRegion_57 (by decide) (fun h57 => ?_) (fun h57 => ?_)
        · refine z_iinc C dX6_inRegion_68 (by decide) rfl (zinc k) ?_
          refine z_goto (tgt := 15) C dX6_inRegion_71 (by decide) ?_
          refine z_sub (L' := [(0, aR 0 0), (1, aI w), (2, aI t), (3, aI (inrL x a w t k)), (4, aI (nI (k + 1)))]) (zs1 rfl (zs1 rfl (zs1 rfl (zs1 rfl (zs1 rfl zs0))))) ?_
          refine Eq.mp ?_ (ih (k + 1) (by omega))
          rw [show inrL x a w t (k + 1) = inrL x a w t k by rw [inrL, show (decide (rgnC x a k = w) && decide (a 18 k = t)) = false by rw [decide_eq_false h57]; rfl]; exact Int32.add_zero _]
        · refine z_iload_n (i := 3) C dX6_inRegion_60 rfl rfl ?_
          refine z_aload C dX6_inRegion_61 rfl ?_
          refine z_callS C Y_X6_worthNow sm_yX6_worthNow ml_RX6_174 (c_X6_worthNow l hE hI (by omega)) dX6_inRegion_63 rfl rfl (fun _ => Nat.le_of_ble_eq_true rfl) ⟨Nat.le_of_ble_eq_true rfl, Nat.le_of_ble_eq_true rfl⟩ ⟨Nat.le_of_ble_eq_true rfl, Nat.le_of_ble_eq_true rfl⟩ (z_ri (fun x σ1 hx => ?_)) (z_nx)
          obtain ⟨rfl, rfl⟩ := hx
          refine z_iadd C dX6_inRegion_66 ?_
          refine z_istore_n (i := 3) C dX6_inRegion_67 rfl (by decide) ?_
          refine z_iinc C dX6_inRegion_68 (by decide) rfl (zinc k) ?_
          refine z_goto (tgt := 15) C dX6_inRegion_71 (by decide) ?_
          refine z_sub (L' := [(0, aR 0 0), (1, aI w), (2, aI t), (3, aI (inrL x a w t k + wrt x a k)), (4, aI (nI (k + 1)))]) (zs1 rfl (zs1 rfl (zs1 rfl (zs1 rfl (zs1 rfl zs0))))) ?_
          refine Eq.mp ?_ (ih (k + 1) (by omega))
          rw [show inrL x a w t (k + 1) = inrL x a w t k + wrt x a k by rw [inrL, show (decide (rgnC x a k = w) && decide (a 18 k = t)) = true by rw [decide_eq_true h57, decide_eq_true h47]; rfl]; rfl]
  refine z_sub (L' := [(0, aR 0 0), (1, aI w), (2, aI t), (3, aI (0)), (4, aI (nI 0))]) (zs1 rfl (zs1 rfl (zs1 rfl (zs1 rfl (zs1 rfl zs0))))) ?_
  exact lp (zN (x 15)) 0 (Nat.zero_add _)

set_option maxRecDepth 100000 in
set_option maxHeartbeats 4000000 in
theorem c_X6_won {X : zX} (l : Launch) {x : Nat → Int32} {a : Nat → Nat → Int32} {σ : zHp} (hD : DK x a σ) (hI : zInv x a) {i : Int32} : zM X l yX6_won cX6_won 6 (some .int) 8 3 18 [aR 0 0, aI i] σ (zPi (zDq (k_won x a i) (wonL x a i (zN (x 15))) σ)) (zXk (k_won x a i) eIO eIA eIS σ) := by
  obtain ⟨i0, i1, i6, i11, i15, i23, i24, i29, iA, iS, iC, iQ, iP⟩ := id hI
  have b1 := i1.2
  have b6 := i6.2
  have b11 := i11.2
  have b15 := i15.2
  have b23 := i23.2
  have b24 := i24.2
  have b29 := i29.2
  obtain ⟨hE, dF⟩ := id hD
  obtain ⟨d0, dA, dR, dS, dC, dQ⟩ := id hE
  have lA := dA.1
  have lS := dS.1
  have lC := dC.1
  have lQ := dQ.1
  have lF := dF.1
  refine zM.of (by decide +kernel) (Nat.le_of_ble_eq_true rfl) (by simp [zcat, Value.category]) ?_
  intro p e s m args below meth c9 loc0 C hr hnm hT
  refine z_aload_n (i := 0) C dX6_won_0 rfl rfl ?_
  refine z_iload_n (i := 1) C dX6_won_1 rfl rfl ?_
  refine z_callV C Y_X6_accountAt V_X6_accountAt ml_RX6_47 (c_X6_accountAt l hE hI) dX6_won_2 rfl rfl d0 ⟨_, _, rfl⟩ (fun _ => Nat.le_of_ble_eq_true rfl) ⟨Nat.le_of_ble_eq_true rfl, Nat.le_of_ble_eq_true rfl⟩ ⟨Nat.le_of_ble_eq_true rfl, Nat.le_of_ble_eq_true rfl⟩ (z_rr (fun r9 σ1 hx => ?_)) (fun E9 σ9 hx => by obtain ⟨rfl, hx, rfl⟩ := hx; exact z_out hT C.2.2.2.2.2.2.2.1 (Nat.le_of_ble_eq_true rfl) (Nat.le_of_ble_eq_true rfl) (zXk.e1 (by simp only [hx, eq_self, decide_true, decide_false, Bool.and_true, Bool.true_and, Bool.and_false, Bool.false_and, Bool.or_true, Bool.true_or, Bool.or_false, Bool.false_or, Bool.not_true, Bool.not_false, not_true, not_false_eq_true, if_true, if_false])))
  obtain ⟨t2, rfl, rfl⟩ := hx
  obtain ⟨i, hi, rfl⟩ := inB_ix i1 (by decide) t2
  have zi : zN (nI i) = i := zN_nI (by omega)
  rw [zi]
  refine z_astore_n (i := 2) C dX6_won_5 rfl (by decide) ?_
  refine z_iconst (v := 0) C dX6_won_6 (by decide) ?_
  refine z_istore_n (i := 3) C dX6_won_7 rfl (by decide) ?_
  refine z_iconst (v := 0) C dX6_won_8 (by decide) ?_
  refine z_istore C dX6_won_9 (by decide) ?_
  have lp : ∀ (r k : Nat), k + r = zN (x 15) → zG X p l e (zRm 8 3 18) s m args below meth c9 6 σ1 loc0 (zQ X σ1 loc0 below (zPi (zDq (k_won x a (nI i)) (wonL x a (nI i) (zN (x 15))) σ1)) (zXk (k_won x a (nI i)) eIO eIA eIS σ1) args s 3 18) 1 6 σ1 11 [(0, aR 0 0), (2, aR 3 i), (3, aI (wonL x a (nI i) k)), (4, aI (nI k))] [] := by
    intro r
    induction r with
    | zero =>
      intro k hk
      refine z_iload C dX6_won_11 rfl ?_
      refine z_aload_n (i := 0) C dX6_won_13 rfl rfl ?_
      refine z_getf C f_RX6_22 dX6_won_14 d0 rfl ?_
      refine z_callV C Y_Jx4a65c_size_8abf5 V_Jx4a65c_size_8abf5 ml_RX6_51 (c_Jx4a65c_size_8abf5 l lC) dX6_won_17 rfl rfl (zLs.ob lC) ⟨_, _, rfl⟩ (fun _ => Nat.le_of_ble_eq_true rfl) ⟨Nat.le_of_ble_eq_true rfl, Nat.le_of_ble_eq_true rfl⟩ ⟨Nat.le_of_ble_eq_true rfl, Nat.le_of_ble_eq_true rfl⟩ (z_ri (fun x σ1 hx => ?_)) (z_nx)
      obtain ⟨rfl, rfl⟩ := hx
      refine z_icmp_ge (tgt := 72) C dX6_won_20 (by decide) (fun _ => ?_) (fun h => absurd (by rw [show k = zN (x 15) by omega]; exact Int32.le_refl _) h)
      refine z_iload_n (i := 3) C dX6_won_72 rfl rfl ?_
      exact z_iret C hr rfl dX6_won_73 (Nat.le_of_ble_eq_true rfl) (Nat.le_of_ble_eq_true rfl) ⟨_, rfl, zDq.ok (by simp only [t2, zi, eq_self, decide_true, decide_false, Bool.and_true, Bool.true_and, Bool.and_false, Bool.false_and, Bool.or_true, Bool.true_or, Bool.or_false, Bool.false_or, Bool.not_true, Bool.not_false, not_true, not_false_eq_true, if_true, if_false]) (by simp only [t2, zi, eq_self, decide_true, decide_false, Bool.and_true, Bool.true_and, Bool.and_false, Bool.false_and, Bool.or_true, Bool.true_or, Bool.or_false, Bool.false_or, Bool.not_true, Bool.not_false, not_true, not_false_eq_true, if_true, if_false]) (by simp only [t2, zi, eq_self, decide_true, decide_false, Bool.and_true, Bool.true_and, Bool.and_false, Bool.false_and, Bool.or_true, Bool.true_or, Bool.or_false, Bool.false_or, Bool.not_true, Bool.not_false, not_true, not_false_eq_true, if_true, if_false]) (by rw [show k = zN (x 15) by omega]) rfl⟩
    | succ r ih =>
      intro k hk
      refine z_iload C dX6_won_11 rfl ?_
      refine z_aload_n (i := 0) C dX6_won_13 rfl rfl ?_
      refine z_getf C f_RX6_22 dX6_won_14 d0 rfl ?_
      refine z_callV C Y_Jx4a65c_size_8abf5 V_Jx4a65c_size_8abf5 ml_RX6_51 (c_Jx4a65c_size_8abf5 l lC) dX6_won_17 rfl rfl (zLs.ob lC) ⟨_, _, rfl⟩ (fun _ => Nat.le_of_ble_eq_true rfl) ⟨Nat.le_of_ble_eq_true rfl, Nat.le_of_ble_eq_true rfl⟩ ⟨Nat.le_of_ble_eq_true rfl, Nat.le_of_ble_eq_true rfl⟩ (z_ri (fun x σ1 hx => ?_)) (z_nx)
      obtain ⟨rfl, rfl⟩ := hx
      refine z_icmp_ge (tgt := 72) C dX6_won_20 (by decide) (fun h => absurd h (nI_ge (by omega) (by omega))) (fun _ => ?_)
      obtain ⟨⟨ia, hia, ea⟩, -⟩ := iC k (by omega)
      have za : zN (a 16 k) = ia := by rw [ea, zN_nI (by omega)]
      refine z_aload_n (i := 0) C dX6_won_23 rfl rfl ?_
      refine z_getf C f_RX6_22 dX6_won_24 d0 rfl ?_
      refine z_iload C dX6_won_27 rfl ?_
      refine z_callV C Y_Jx4a65c_get_915e3 V_Jx4a65c_get_915e3 ml_RX6_171 (c_Jx4a65c_get_915e3 l lC (i := k) (by first | assumption | omega) (by omega)) dX6_won_29 rfl rfl (zLs.ob lC) ⟨_, _, rfl⟩ (fun _ => Nat.le_of_ble_eq_true rfl) ⟨Nat.le_of_ble_eq_true rfl, Nat.le_of_ble_eq_true rfl⟩ ⟨Nat.le_of_ble_eq_true rfl, Nat.le_of_ble_eq_true rfl⟩ (z_rr (fun r9 σ1 hx => ?_)) (z_nx)
      obtain ⟨rfl, rfl⟩ := hx
      refine z_castR C dX6_won_32 (dC.2.1 _ (by first | assumption | omega)) ⟨_, _, _, rfl, kl_RX6_108⟩ ?_
      refine z_astore C dX6_won_35 (by decide) ?_
      refine z_aload C dX6_won_37 rfl ?_
      refine z_getf C f_RX6_157 dX6_won_39 (dC.2.1 _ (by first | assumption | omega)) rfl ?_
      refine z_iconst (v := 4) C dX6_won_42 (by decide) ?_
      refine z_icmp_ne (tgt := 66) C dX6_won_43 (by decide) (fun h43 => ?_) (fun h43 => ?_)
      · refine z_iinc C dX6_won_66 (by decide) rfl (zinc k) ?_
        refine z_goto (tgt := 11) C dX6_won_69 (by decide) ?_
        refine z_sub (L' := [(0, aR 0 0), (2, aR 3 i), (3, aI (wonL x a (nI i) k)), (4, aI (nI (k + 1)))]) (zs1 rfl (zs1 rfl (zs1 rfl (zs1 rfl zs0)))) ?_
        refine Eq.mp ?_ (ih (k + 1) (by omega))
        rw [show wonL x a (nI i) (k + 1) = wonL x a (nI i) k by rw [wonL, show (traB a (nI i) (zN (a 16 k)) && decide (a 18 k = 4)) = false by rw [decide_eq_false h43, Bool.and_false]]; exact Int32.add_zero _]
      · refine z_aload C dX6_won_46 rfl ?_
        refine z_getf C f_RX6_164 dX6_won_48 (dC.2.1 _ (by first | assumption | omega)) rfl ?_
        refine z_aload_n (i := 2) C dX6_won_51 rfl rfl ?_
        rw [za]
        refine z_callS C Y_X6_isInTree sm_yX6_isInTree ml_RX6_181 (c_X6_isInTree l hE hI (i := ia) (t := i) hia (by omega)) dX6_won_52 rfl rfl (fun _ => Nat.le_of_ble_eq_true rfl) ⟨Nat.le_of_ble_eq_true rfl, Nat.le_of_ble_eq_true rfl⟩ ⟨Nat.le_of_ble_eq_true rfl, Nat.le_of_ble_eq_true rfl⟩ (z_ri (fun x σ1 hx => ?_)) (z_nx)
        obtain ⟨rfl, rfl⟩ := hx
        refine z_if_eqB (tgt := 66) C dX6_won_55 (by decide) (fun h55 => ?_) (fun h55 => ?_)
        · refine z_iinc C dX6_won_66 (by decide) rfl (zinc k) ?_
          refine z_goto (tgt := 11) C dX6_won_69 (by decide) ?_
          refine z_sub (L' := [(0, aR 0 0), (2, aR 3 i), (3, aI (wonL x a (nI i) k)), (4, aI (nI (k + 1)))]) (zs1 rfl (zs1 rfl (zs1 rfl (zs1 rfl zs0)))) ?_
          refine Eq.mp ?_ (ih (k + 1) (by omega))
          rw [show wonL x a (nI i) (k + 1) = wonL x a (nI i) k by rw [wonL, show (traB a (nI i) (zN (a 16 k)) && decide (a 18 k = 4)) = false by rw [za, h55]; rfl]; exact Int32.add_zero _]
        · refine z_iload_n (i := 3) C dX6_won_58 rfl rfl ?_
          refine z_aload C dX6_won_59 rfl ?_
          refine z_callS C Y_X6_worthNow sm_yX6_worthNow ml_RX6_174 (c_X6_worthNow l hE hI (by omega)) dX6_won_61 rfl rfl (fun _ => Nat.le_of_ble_eq_true rfl) ⟨Nat.le_of_ble_eq_true rfl, Nat.le_of_ble_eq_true rfl⟩ ⟨Nat.le_of_ble_eq_true rfl, Nat.le_of_ble_eq_true rfl⟩ (z_ri (fun x σ1 hx => ?_)) (z_nx)
          obtain ⟨rfl, rfl⟩ := hx
          refine z_iadd C dX6_won_64 ?_
          refine z_istore_n (i := 3) C dX6_won_65 rfl (by decide) ?_
          refine z_iinc C dX6_won_66 (by decide) rfl (zinc k) ?_
          refine z_goto (tgt := 11) C dX6_won_69 (by decide) ?_
          refine z_sub (L' := [(0, aR 0 0), (2, aR 3 i), (3, aI (wonL x a (nI i) k + wrt x a k)), (4, aI (nI (k + 1)))]) (zs1 rfl (zs1 rfl (zs1 rfl (zs1 rfl zs0)))) ?_
          refine Eq.mp ?_ (ih (k + 1) (by omega))
          rw [show wonL x a (nI i) (k + 1) = wonL x a (nI i) k + wrt x a k by rw [wonL, show (traB a (nI i) (zN (a 16 k)) && decide (a 18 k = 4)) = true by rw [za, h55, decide_eq_true h43]; rfl]; rfl]
  refine z_sub (L' := [(0, aR 0 0), (2, aR 3 i), (3, aI (0)), (4, aI (nI 0))]) (zs1 rfl (zs1 rfl (zs1 rfl (zs1 rfl zs0)))) ?_
  exact lp (zN (x 15)) 0 (Nat.zero_add _)

set_option maxRecDepth 100000 in
set_option maxHeartbeats 4000000 in
theorem c_X6_since {X : zX} (l : Launch) {x : Nat → Int32} {a : Nat → Nat → Int32} {σ : zHp} (hD : DK x a σ) (hI : zInv x a) {i j : Int32} : zM X l yX6_since cX6_since 4 (some .int) 8 3 18 [aR 0 0, aI i, aI j] σ (zPi (zDq (k_since x a i j) (forS x a (zN j) - a 30 (8 * zN i + zN j)) σ)) (zXk (k_since x a i j) eIO eIA eIS σ) := by
  obtain ⟨i0, i1, i6, i11, i15, i23, i24, i29, iA, iS, iC, iQ, iP⟩ := id hI
  have b1 := i1.2
  have b6 := i6.2
  have b11 := i11.2
  have b15 := i15.2
  have b23 := i23.2
  have b24 := i24.2
  have b29 := i29.2
  obtain ⟨hE, dF⟩ := id hD
  obtain ⟨d0, dA, dR, dS, dC, dQ⟩ := id hE
  have lA := dA.1
  have lS := dS.1
  have lC := dC.1
  have lQ := dQ.1
  have lF := dF.1
  refine zM.of (by decide +kernel) (Nat.le_of_ble_eq_true rfl) (by simp [zcat, Value.category]) ?_
  intro p e s m args below meth c9 loc0 C hr hnm hT
  refine z_iload_n (i := 1) C dX6_since_0 rfl rfl ?_
  refine z_if_lt (tgt := 15) C dX6_since_1 (by decide) (fun h1 => ?_) (fun h1 => ?_)
  · exact z_throwS (text := "there is no such freeze") C hT th_IOE rfl (by decide +kernel) dX6_since_15 dX6_since_18 dX6_since_19 dX6_since_21 dX6_since_24 ⟨Nat.le_of_ble_eq_true rfl, Nat.le_of_ble_eq_true rfl⟩ ⟨Nat.le_of_ble_eq_true rfl, Nat.le_of_ble_eq_true rfl⟩ (Nat.le_of_ble_eq_true rfl) (Nat.le_of_ble_eq_true rfl) (zXk.e1 (by rw [inB_f (Or.inl h1)]; rfl))
  · refine z_iload_n (i := 1) C dX6_since_4 rfl rfl ?_
    refine z_aload_n (i := 0) C dX6_since_5 rfl rfl ?_
    refine z_getf C f_RX6_28 dX6_since_6 d0 rfl ?_
    refine z_callV C Y_Jx4a65c_size_8abf5 V_Jx4a65c_size_8abf5 ml_RX6_51 (c_Jx4a65c_size_8abf5 l lF) dX6_since_9 rfl rfl (zLs.ob lF) ⟨_, _, rfl⟩ (fun _ => Nat.le_of_ble_eq_true rfl) ⟨Nat.le_of_ble_eq_true rfl, Nat.le_of_ble_eq_true rfl⟩ ⟨Nat.le_of_ble_eq_true rfl, Nat.le_of_ble_eq_true rfl⟩ (z_ri (fun x σ1 hx => ?_)) (z_nx)
    obtain ⟨rfl, rfl⟩ := hx
    refine z_icmp_lt (tgt := 25) C dX6_since_12 (by decide) (fun h12 => ?_) (fun h12 => ?_)
    · rw [← i29.1] at h12
      obtain ⟨i, hi, rfl⟩ := inB_yes i29 (by decide) h1 h12
      have t0 : inB (nI i) 0 (x 29 - 1) = true := inB_nI i29 (by decide) hi
      have zi : zN (nI i) = i := zN_nI (by omega)
      rw [zi]
      refine z_aload_n (i := 0) C dX6_since_25 rfl rfl ?_
      refine z_iload_n (i := 2) C dX6_since_26 rfl rfl ?_
      refine z_callV C Y_X6_sellerAt V_X6_sellerAt ml_RX6_94 (c_X6_sellerAt l hE hI) dX6_since_27 rfl rfl d0 ⟨_, _, rfl⟩ (fun _ => Nat.le_of_ble_eq_true rfl) ⟨Nat.le_of_ble_eq_true rfl, Nat.le_of_ble_eq_true rfl⟩ ⟨Nat.le_of_ble_eq_true rfl, Nat.le_of_ble_eq_true rfl⟩ (z_rr (fun r9 σ1 hx => ?_)) (fun E9 σ9 hx => by obtain ⟨rfl, hx, rfl⟩ := hx; exact z_out hT C.2.2.2.2.2.2.2.1 (Nat.le_of_ble_eq_true rfl) (Nat.le_of_ble_eq_true rfl) (zXk.e1 (by simp only [t0, zi, hx, eq_self, decide_true, decide_false, Bool.and_true, Bool.true_and, Bool.and_false, Bool.false_and, Bool.or_true, Bool.true_or, Bool.or_false, Bool.false_or, Bool.not_true, Bool.not_false, not_true, not_false_eq_true, if_true, if_false])))
      obtain ⟨t27, rfl, rfl⟩ := hx
      obtain ⟨j, hj, rfl⟩ := inB_ix i11 (by decide) t27
      have zj : zN (nI j) = j := zN_nI (by omega)
      rw [zj]
      refine z_astore_n (i := 3) C dX6_since_30 rfl (by decide) ?_
      refine z_aload_n (i := 0) C dX6_since_31 rfl rfl ?_
      refine z_aload_n (i := 3) C dX6_since_32 rfl rfl ?_
      refine z_callV C Y_X6_forecastNow V_X6_forecastNow ml_RX6_225 (c_X6_forecastNow l hE hI hj) dX6_since_33 rfl rfl d0 ⟨_, _, rfl⟩ (fun _ => Nat.le_of_ble_eq_true rfl) ⟨Nat.le_of_ble_eq_true rfl, Nat.le_of_ble_eq_true rfl⟩ ⟨Nat.le_of_ble_eq_true rfl, Nat.le_of_ble_eq_true rfl⟩ (z_ri (fun x σ1 hx => ?_)) (z_nx)
      obtain ⟨rfl, rfl⟩ := hx
      refine z_aload_n (i := 0) C dX6_since_36 rfl rfl ?_
      refine z_getf C f_RX6_28 dX6_since_37 d0 rfl ?_
      refine z_iload_n (i := 1) C dX6_since_40 rfl rfl ?_
      refine z_callV C Y_Jx4a65c_get_915e3 V_Jx4a65c_get_915e3 ml_RX6_171 (c_Jx4a65c_get_915e3 l lF (i := i) hi (by omega)) dX6_since_41 rfl rfl (zLs.ob lF) ⟨_, _, rfl⟩ (fun _ => Nat.le_of_ble_eq_true rfl) ⟨Nat.le_of_ble_eq_true rfl, Nat.le_of_ble_eq_true rfl⟩ ⟨Nat.le_of_ble_eq_true rfl, Nat.le_of_ble_eq_true rfl⟩ (z_rr (fun r9 σ1 hx => ?_)) (z_nx)
      obtain ⟨rfl, rfl⟩ := hx
      refine z_castR C dX6_since_44 (dF.2.1 _ hi) ⟨_, _, _, rfl, kl_RX6_232⟩ ?_
      refine z_getf C f_RX6_235 dX6_since_47 (dF.2.1 _ hi) rfl ?_
      refine z_aload_n (i := 3) C dX6_since_50 rfl rfl ?_
      refine z_getf C f_RX6_115 dX6_since_51 (dS.2.1 _ (by first | assumption | omega)) rfl ?_
      obtain ⟨ff, hff, eff⟩ := dF.2.2.1 i hi
      refine z_callS C Y_X6_at sm_yX6_at ml_RX6_135 (c_X6_at l hff (j := j) (by omega) (by omega)) dX6_since_54 rfl rfl (fun _ => Nat.le_of_ble_eq_true rfl) ⟨Nat.le_of_ble_eq_true rfl, Nat.le_of_ble_eq_true rfl⟩ ⟨Nat.le_of_ble_eq_true rfl, Nat.le_of_ble_eq_true rfl⟩ (z_ri (fun x σ1 hx => ?_)) (z_nx)
      obtain ⟨rfl, rfl⟩ := hx
      rw [eff j (by omega)]
      refine z_isub C dX6_since_57 ?_
      exact z_iret C hr rfl dX6_since_58 (Nat.le_of_ble_eq_true rfl) (Nat.le_of_ble_eq_true rfl) ⟨_, rfl, zDq.ok (by simp only [t0, zi, t27, zj, eq_self, decide_true, decide_false, Bool.and_true, Bool.true_and, Bool.and_false, Bool.false_and, Bool.or_true, Bool.true_or, Bool.or_false, Bool.false_or, Bool.not_true, Bool.not_false, not_true, not_false_eq_true, if_true, if_false]) (by simp only [t0, zi, t27, zj, eq_self, decide_true, decide_false, Bool.and_true, Bool.true_and, Bool.and_false, Bool.false_and, Bool.or_true, Bool.true_or, Bool.or_false, Bool.false_or, Bool.not_true, Bool.not_false, not_true, not_false_eq_true, if_true, if_false]) (by simp only [t0, zi, t27, zj, eq_self, decide_true, decide_false, Bool.and_true, Bool.true_and, Bool.and_false, Bool.false_and, Bool.or_true, Bool.true_or, Bool.or_false, Bool.false_or, Bool.not_true, Bool.not_false, not_true, not_false_eq_true, if_true, if_false]) (rfl) rfl⟩
    · rw [← i29.1] at h12
      exact z_throwS (text := "there is no such freeze") C hT th_IOE rfl (by decide +kernel) dX6_since_15 dX6_since_18 dX6_since_19 dX6_since_21 dX6_since_24 ⟨Nat.le_of_ble_eq_true rfl, Nat.le_of_ble_eq_true rfl⟩ ⟨Nat.le_of_ble_eq_true rfl, Nat.le_of_ble_eq_true rfl⟩ (Nat.le_of_ble_eq_true rfl) (Nat.le_of_ble_eq_true rfl) (zXk.e1 (by rw [inB_no i29 (by decide) h12]; rfl))

