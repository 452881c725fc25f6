/-! what always holds is kept by every call that goes through -/
theorem ixN {v m : Int32} {b : Nat} (hm : zCnt m b) (hb : b ≤ 1000) (h : inB v 0 (m - 1) = true) : zN v < zN m := by
  obtain ⟨i, hi, rfl⟩ := inB_ix hm hb h
  rw [zN_nI (by have := hm.2; omega)]
  exact hi
theorem ik_pass {x : Nat → Int32} {a : Nat → Nat → Int32} {d : Int32} (h : zIv x a) (hk : (k_pass x a d) = 0) : zIv (upd x 0 (x 0 + d)) (a) := by
  obtain ⟨i0, i1, i6, i11, i15, i23, i24, i29, iA, iS, iC, iQ, iP⟩ := id h.1
  have b1 := i1.2
  have b11 := i11.2
  have b15 := i15.2
  have b23 := i23.2
  obtain ⟨h1, h2, -⟩ := goC_0.mp hk
  exact iv_pass h h1 (of_decide_eq_true (Bool.and_eq_true_iff.mp h2).2)
theorem ik_addAccount {x : Nat → Int32} {a : Nat → Nat → Int32} {o w g : Int32} (h : zIv x a) (hk : (k_addAccount x a o w g) = 0) : zIv (upd x 1 (x 1 + 1)) (ua (ua (ua (ua a 2 (upd (a 2) (zN (x 1)) o)) 3 (upd (a 3) (zN (x 1)) w)) 4 (upd (a 4) (zN (x 1)) g)) 5 (upd (a 5) (zN (x 1)) (-1))) := by
  obtain ⟨i0, i1, i6, i11, i15, i23, i24, i29, iA, iS, iC, iQ, iP⟩ := id h.1
  have b1 := i1.2
  have b11 := i11.2
  have b15 := i15.2
  have b23 := i23.2
  obtain ⟨h1, -, h3⟩ := goC_0.mp hk
  have hn : zN (x 1) < 16 := zN_lt i1 (by decide) (of_decide_eq_true h3)
  exact iv_addAccount h h1 hn
theorem ik_putRule {x : Nat → Int32} {a : Nat → Nat → Int32} {pl f u g w : Int32} (h : zIv x a) (hk : (k_putRule x a pl f u g w) = 0) : zIv (upd x 6 (x 6 + 1)) (putR a (zN pl) (zN (x 6)) f u g w) := by
  obtain ⟨i0, i1, i6, i11, i15, i23, i24, i29, iA, iS, iC, iQ, iP⟩ := id h.1
  have b1 := i1.2
  have b11 := i11.2
  have b15 := i15.2
  have b23 := i23.2
  obtain ⟨-, -, h3⟩ := goC_0.mp hk
  have hn : zN (x 6) < 8 := zN_lt i6 (by decide) (of_decide_eq_true h3)
  exact iv_putRule h hn
theorem ik_removeRule {x : Nat → Int32} {a : Nat → Nat → Int32} {pl : Int32} (h : zIv x a) (hk : (k_removeRule x a pl) = 0) : zIv (upd x 6 (x 6 - 1)) (R4 a (delG (zN pl) (zN (x 6) - 1))) := by
  obtain ⟨i0, i1, i6, i11, i15, i23, i24, i29, iA, iS, iC, iQ, iP⟩ := id h.1
  have b1 := i1.2
  have b11 := i11.2
  have b15 := i15.2
  have b23 := i23.2
  obtain ⟨h1, -, -⟩ := goC_0.mp hk
  exact iv_removeRule h (Nat.lt_of_le_of_lt (Nat.zero_le _) (ixN i6 (by decide) h1))
theorem ik_except {x : Nat → Int32} {a : Nat → Nat → Int32} {i w : Int32} (h : zIv x a) (hk : (k_except x a i w) = 0) : zIv (x) (ua a 5 (upd (a 5) (zN i) w)) := by
  obtain ⟨i0, i1, i6, i11, i15, i23, i24, i29, iA, iS, iC, iQ, iP⟩ := id h.1
  have b1 := i1.2
  have b11 := i11.2
  have b15 := i15.2
  have b23 := i23.2
  exact iv_except h
theorem ik_regionOf {x : Nat → Int32} {a : Nat → Nat → Int32} {i : Int32} (h : zIv x a) (hk : (k_regionOf x a i) = 0) : zIv (x) (a) := h
theorem ik_addSeller {x : Nat → Int32} {a : Nat → Nat → Int32} {o w : Int32} (h : zIv x a) (hk : (k_addSeller x a o w) = 0) : zIv (upd x 11 (x 11 + 1)) (ua (ua a 12 (upd (a 12) (zN (x 11)) o)) 13 (upd (a 13) (zN (x 11)) w)) := by
  obtain ⟨i0, i1, i6, i11, i15, i23, i24, i29, iA, iS, iC, iQ, iP⟩ := id h.1
  have b1 := i1.2
  have b11 := i11.2
  have b15 := i15.2
  have b23 := i23.2
  obtain ⟨h1, -, h3⟩ := goC_0.mp hk
  have hn : zN (x 11) < 8 := zN_lt i11 (by decide) (of_decide_eq_true h3)
  exact iv_addSeller h h1 hn
theorem ik_adjust {x : Nat → Int32} {a : Nat → Nat → Int32} {i w : Int32} (h : zIv x a) (hk : (k_adjust x a i w) = 0) : zIv (x) (ua a 14 (upd (a 14) (zN i) w)) := by
  obtain ⟨i0, i1, i6, i11, i15, i23, i24, i29, iA, iS, iC, iQ, iP⟩ := id h.1
  have b1 := i1.2
  have b11 := i11.2
  have b15 := i15.2
  have b23 := i23.2
  obtain ⟨h1, -, -⟩ := goC_0.mp hk
  exact iv_adjust h (ixN i11 (by decide) h1)
theorem ik_addChance {x : Nat → Int32} {a : Nat → Nat → Int32} {i j w : Int32} (h : zIv x a) (hk : (k_addChance x a i j w) = 0) : zIv (upd x 15 (x 15 + 1)) (ua (ua (ua (ua a 16 (upd (a 16) (zN (x 15)) i)) 17 (upd (a 17) (zN (x 15)) w)) 19 (upd (a 19) (zN (x 15)) (x 0))) 21 (upd (a 21) (8 * zN (x 15) + zN j) 100)) := by
  obtain ⟨i0, i1, i6, i11, i15, i23, i24, i29, iA, iS, iC, iQ, iP⟩ := id h.1
  have b1 := i1.2
  have b11 := i11.2
  have b15 := i15.2
  have b23 := i23.2
  obtain ⟨h1, -, h3⟩ := goC_0.mp hk
  have hn : zN (x 15) < 30 := zN_lt i15 (by decide) (of_decide_eq_true h3)
  obtain ⟨g1, g2⟩ := Bool.and_eq_true_iff.mp h1
  obtain ⟨i, hi, rfl⟩ := inB_ix i1 (by decide) g1
  obtain ⟨j, hj, rfl⟩ := inB_ix i11 (by decide) g2
  rw [zN_nI (n := j) (by omega)]
  exact iv_addChance h hi (by omega) hn
theorem ik_giveShare {x : Nat → Int32} {a : Nat → Nat → Int32} {i j t w : Int32} (h : zIv x a) (hk : (k_giveShare x a i j t w) = 0) : zIv (x) (ua (ua a 21 (upd (a 21) (8 * zN i + zN j) (a 21 (8 * zN i + zN j) - w))) 21 (upd (upd (a 21) (8 * zN i + zN j) (a 21 (8 * zN i + zN j) - w)) (8 * zN i + zN t) ((upd (a 21) (8 * zN i + zN j) (a 21 (8 * zN i + zN j) - w)) (8 * zN i + zN t) + w))) := by
  obtain ⟨i0, i1, i6, i11, i15, i23, i24, i29, iA, iS, iC, iQ, iP⟩ := id h.1
  have b1 := i1.2
  have b11 := i11.2
  have b15 := i15.2
  have b23 := i23.2
  obtain ⟨h1, -, -⟩ := goC_0.mp hk
  obtain ⟨g1, g2⟩ := Bool.and_eq_true_iff.mp h1
  obtain ⟨g2, g3⟩ := Bool.and_eq_true_iff.mp g2
  exact iv_giveShare h (ixN i15 (by decide) g1) (Nat.lt_of_lt_of_le (ixN i11 (by decide) g2) b11) (Nat.lt_of_lt_of_le (ixN i11 (by decide) g3) b11)
theorem ik_move {x : Nat → Int32} {a : Nat → Nat → Int32} {i w : Int32} (h : zIv x a) (hk : (k_move x a i w) = 0) : zIv (x) (ua (ua (ua (ua a 22 (upd (a 22) (6 * zN i + zN (a 18 (zN i))) (a 22 (6 * zN i + zN (a 18 (zN i))) + (x 0 - a 19 (zN i))))) 18 (upd (a 18) (zN i) w)) 19 (upd (a 19) (zN i) (x 0))) 20 (upd (a 20) (zN i) (regS x a (zN (a 16 (zN i)))))) := by
  obtain ⟨i0, i1, i6, i11, i15, i23, i24, i29, iA, iS, iC, iQ, iP⟩ := id h.1
  have b1 := i1.2
  have b11 := i11.2
  have b15 := i15.2
  have b23 := i23.2
  obtain ⟨h1, h2, -⟩ := goC_0.mp hk
  have hi := ixN i15 (by decide) h1
  obtain ⟨w, hw, rfl⟩ := inB_to (n := 5) (by decide) h2
  obtain ⟨-, t, ht, et⟩ := iC _ hi
  exact iv_move h hi hw (by rw [et, zN_nI (by omega)]; omega)
theorem ik_stage {x : Nat → Int32} {a : Nat → Nat → Int32} {i : Int32} (h : zIv x a) (hk : (k_stage x a i) = 0) : zIv (x) (a) := h
theorem ik_daysIn {x : Nat → Int32} {a : Nat → Nat → Int32} {i w : Int32} (h : zIv x a) (hk : (k_daysIn x a i w) = 0) : zIv (x) (a) := h
theorem ik_stalled {x : Nat → Int32} {a : Nat → Nat → Int32} {w : Int32} (h : zIv x a) (hk : (k_stalled x a w) = 0) : zIv (x) (a) := h
theorem ik_worth {x : Nat → Int32} {a : Nat → Nat → Int32} {i : Int32} (h : zIv x a) (hk : (k_worth x a i) = 0) : zIv (x) (a) := h
theorem ik_inRegion {x : Nat → Int32} {a : Nat → Nat → Int32} {w t : Int32} (h : zIv x a) (hk : (k_inRegion x a w t) = 0) : zIv (x) (a) := h
theorem ik_won {x : Nat → Int32} {a : Nat → Nat → Int32} {i : Int32} (h : zIv x a) (hk : (k_won x a i) = 0) : zIv (x) (a) := h
theorem ik_quote {x : Nat → Int32} {a : Nat → Nat → Int32} {i j w : Int32} (h : zIv x a) (hk : (k_quote x a i j w) = 0) : zIv (if w ≤ a 13 (zN j) then upd (upd x 23 (x 23 + 1)) 24 (x 24 + 1) else upd x 23 (x 23 + 1)) (if w ≤ a 13 (zN j) then ua (ua (ua (ua a 25 (upd (a 25) (zN (x 23)) i)) 26 (upd (a 26) (zN (x 23)) j)) 27 (upd (a 27) (zN (x 23)) w)) 28 (upd (a 28) (zN (x 23)) (x 24 + 1)) else (ua (ua (ua a 25 (upd (a 25) (zN (x 23)) i)) 26 (upd (a 26) (zN (x 23)) j)) 27 (upd (a 27) (zN (x 23)) w))) := by
  obtain ⟨i0, i1, i6, i11, i15, i23, i24, i29, iA, iS, iC, iQ, iP⟩ := id h.1
  have b1 := i1.2
  have b11 := i11.2
  have b15 := i15.2
  have b23 := i23.2
  obtain ⟨h1, -, h3⟩ := goC_0.mp hk
  obtain ⟨g1, g2⟩ := Bool.and_eq_true_iff.mp h1
  obtain ⟨-, h3⟩ := Bool.and_eq_true_iff.mp h3
  obtain ⟨-, h3⟩ := Bool.and_eq_true_iff.mp h3
  have hn : zN (x 23) < 40 := zN_lt i23 (by decide) (of_decide_eq_true h3)
  obtain ⟨i, hi, rfl⟩ := inB_ix i15 (by decide) g1
  obtain ⟨j, hj, rfl⟩ := inB_ix i11 (by decide) g2
  have h0 := iv_quote0 (w := w) h hi hj hn
  have e1 : zN (x 23 + 1) = zN (x 23) + 1 := (zN_s i23 (by decide)).2
  by_cases hw : w ≤ a 13 (zN (nI j))
  · rw [if_pos hw, if_pos hw]
    exact iv_approve (q := zN (x 23)) h0 (by show zN (x 23) < zN (x 23 + 1); omega) (h.2.2.2.2.2.1 _ (Nat.le_refl _))
  · rw [if_neg hw, if_neg hw]
    exact h0
theorem ik_approve {x : Nat → Int32} {a : Nat → Nat → Int32} {i j : Int32} (h : zIv x a) (hk : (k_approve x a i j) = 0) : zIv (upd x 24 (x 24 + 1)) (ua a 28 (upd (a 28) (zN i) (x 24 + 1))) := by
  obtain ⟨i0, i1, i6, i11, i15, i23, i24, i29, iA, iS, iC, iQ, iP⟩ := id h.1
  have b1 := i1.2
  have b11 := i11.2
  have b15 := i15.2
  have b23 := i23.2
  obtain ⟨h1, h2, -⟩ := goC_0.mp hk
  obtain ⟨g1, -⟩ := Bool.and_eq_true_iff.mp h1
  obtain ⟨-, h2⟩ := Bool.and_eq_true_iff.mp h2
  obtain ⟨h2, -⟩ := Bool.and_eq_true_iff.mp h2
  exact iv_approve h (ixN i23 (by decide) g1) (of_decide_eq_true h2)
theorem ik_counting {x : Nat → Int32} {a : Nat → Nat → Int32} {i : Int32} (h : zIv x a) (hk : (k_counting x a i) = 0) : zIv (x) (a) := h
theorem ik_forecast {x : Nat → Int32} {a : Nat → Nat → Int32} {i : Int32} (h : zIv x a) (hk : (k_forecast x a i) = 0) : zIv (x) (a) := h
theorem ik_own {x : Nat → Int32} {a : Nat → Nat → Int32} {i : Int32} (h : zIv x a) (hk : (k_own x a i) = 0) : zIv (x) (a) := h
theorem ik_freeze {x : Nat → Int32} {a : Nat → Nat → Int32} (h : zIv x a) (hk : (k_freeze x a 0) = 0) : zIv (upd x 29 (x 29 + 1)) (ua a 30 (frz x a (zN (x 29)) (zN (x 11)))) := by
  obtain ⟨i0, i1, i6, i11, i15, i23, i24, i29, iA, iS, iC, iQ, iP⟩ := id h.1
  have b1 := i1.2
  have b11 := i11.2
  have b15 := i15.2
  have b23 := i23.2
  obtain ⟨h1, -, -⟩ := goC_0.mp hk
  have hn : zN (x 29) < 20 := zN_lt i29 (by decide) (of_decide_eq_true h1)
  exact iv_freeze h hn
theorem ik_since {x : Nat → Int32} {a : Nat → Nat → Int32} {i j : Int32} (h : zIv x a) (hk : (k_since x a i j) = 0) : zIv (x) (a) := h
