/-! the desk: counting -/
set_option maxRecDepth 100000 in
set_option maxHeartbeats 4000000 in
theorem c_X6_counting {X : zX} (l : Launch) {x : Nat → Int32} {a : Nat → Nat → Int32} {σ : zHp} (hD : DK x a σ) (hI : zInv x a) {i : Int32} : zM X l yX6_counting cX6_counting 3 (some .int) 8 3 18 [aR 0 0, aI i] σ (zPi (zDq (k_counting x a i) (cnt x a i) σ)) (zXk (k_counting x a i) eIO eNS eNS σ) := by
  obtain ⟨i0, i1, i6, i11, i15, i23, i24, i29, iA, iS, iC, iQ, iP⟩ := id hI
  have b1 := i1.2
  have b6 := i6.2
  have b11 := i11.2
  have b15 := i15.2
  have b23 := i23.2
  have b24 := i24.2
  have b29 := i29.2
  obtain ⟨hE, dF⟩ := id hD
  obtain ⟨d0, dA, dR, dS, dC, dQ⟩ := id hE
  have lA := dA.1
  have lS := dS.1
  have lC := dC.1
  have lQ := dQ.1
  have lF := dF.1
  refine zM.of (by decide +kernel) (Nat.le_of_ble_eq_true rfl) (by simp [zcat, Value.category]) ?_
  intro p e s m args below meth c9 loc0 C hr hnm hT
  refine z_aload_n (i := 0) C dX6_counting_0 rfl rfl ?_
  refine z_iload_n (i := 1) C dX6_counting_1 rfl rfl ?_
  refine z_callV C Y_X6_chanceAt V_X6_chanceAt ml_RX6_122 (c_X6_chanceAt l hE hI) dX6_counting_2 rfl rfl d0 ⟨_, _, rfl⟩ (fun _ => Nat.le_of_ble_eq_true rfl) ⟨Nat.le_of_ble_eq_true rfl, Nat.le_of_ble_eq_true rfl⟩ ⟨Nat.le_of_ble_eq_true rfl, Nat.le_of_ble_eq_true rfl⟩ (z_rr (fun r9 σ1 hx => ?_)) (fun E9 σ9 hx => by obtain ⟨rfl, hx, rfl⟩ := hx; exact z_out hT C.2.2.2.2.2.2.2.1 (Nat.le_of_ble_eq_true rfl) (Nat.le_of_ble_eq_true rfl) (zXk.e1 (by simp only [hx, eq_self, decide_true, decide_false, Bool.and_true, Bool.true_and, Bool.and_false, Bool.false_and, Bool.or_true, Bool.true_or, Bool.or_false, Bool.false_or, Bool.not_true, Bool.not_false, not_true, not_false_eq_true, if_true, if_false])))
  obtain ⟨t2, rfl, rfl⟩ := hx
  obtain ⟨i, hi, rfl⟩ := inB_ix i15 (by decide) t2
  have zi : zN (nI i) = i := zN_nI (by omega)
  rw [zi]
  by_cases hq : cnt x a (nI i) = -1
  · have hσ := hE.chN hi hq
    refine z_getf C f_RX6_216 dX6_counting_5 hσ rfl ?_
    refine z_astore_nN (i := 2) C dX6_counting_8 rfl (by decide) ?_
    refine z_aload_nN (i := 2) C dX6_counting_9 rfl rfl ?_
    refine z_ifnonnull (o := none) (tgt := 23) C dX6_counting_10 (by decide) (fun q h => by cases h) (fun _ => ?_)
    exact z_throwN (text := "no quote counts") C hT th_NSE rfl (by decide +kernel) dX6_counting_13 dX6_counting_16 dX6_counting_17 dX6_counting_19 dX6_counting_22 ⟨Nat.le_of_ble_eq_true rfl, Nat.le_of_ble_eq_true rfl⟩ ⟨Nat.le_of_ble_eq_true rfl, Nat.le_of_ble_eq_true rfl⟩ (Nat.le_of_ble_eq_true rfl) (Nat.le_of_ble_eq_true rfl) (zXk.e2 t2 (by rw [if_pos t2, hq]; rfl))
  · obtain ⟨j, hj, ej⟩ : ∃ j, j < zN (x 23) ∧ cnt x a (nI i) = nI j := by
      rcases cntL_rng a (nI i) (zN (x 23)) with h | h
      · exact absurd h hq
      · exact h
    have hσ := hE.chS hi (by omega) ej
    refine z_getf C f_RX6_216 dX6_counting_5 hσ rfl ?_
    refine z_astore_n (i := 2) C dX6_counting_8 rfl (by decide) ?_
    refine z_aload_n (i := 2) C dX6_counting_9 rfl rfl ?_
    refine z_ifnonnull (o := some (9, j)) (tgt := 23) C dX6_counting_10 (by decide) (fun q h => ?_) (fun h => by cases h)
    refine z_aload_n (i := 2) C dX6_counting_23 rfl rfl ?_
    refine z_getf C f_RX6_197 dX6_counting_24 (dQ.2.1 _ hj) rfl ?_
    exact z_iret C hr rfl dX6_counting_27 (Nat.le_of_ble_eq_true rfl) (Nat.le_of_ble_eq_true rfl) ⟨_, rfl, zDq.ok t2 (by rw [if_pos t2, decide_eq_false hq]; rfl) rfl ej.symm rfl⟩

