/-! what always holds is kept by every call -/
def zIv (x : Nat → Int32) (a : Nat → Nat → Int32) : Prop := zInv x a ∧ zInw x a
theorem apc_le (b : Nat → Int32) : ∀ k, apc b k ≤ k
  | 0 => Nat.le_refl _
  | k + 1 => by
    have := apc_le b k
    rw [apc]
    split <;> omega
theorem apc_ne {b : Nat → Int32} {q : Nat} {v : Int32} : ∀ k, k ≤ q → apc (upd b q v) k = apc b k
  | 0, _ => rfl
  | k + 1, h => by rw [apc, apc, apc_ne k (by omega), upd_ne (by omega)]
theorem apc_up {b : Nat → Int32} {q : Nat} {v : Int32} (h0 : b q = 0) (hv : ¬ v = 0) : ∀ n, q < n → apc (upd b q v) n = apc b n + 1
  | 0, h => by omega
  | n + 1, h => by
    rw [apc, apc]
    by_cases e : q = n
    · subst e
      rw [apc_ne q (Nat.le_refl _), upd_at, h0, if_neg hv, if_pos rfl]
    · rw [apc_up h0 hv n (by omega), upd_ne (by omega)]
      omega
theorem apc_lt {b : Nat → Int32} {q n : Nat} (h0 : b q = 0) (hq : q < n) : apc b n < n := by
  have h1 := apc_up (v := 1) h0 (by decide) n hq
  have h2 := apc_le (upd b q 1) n
  omega
theorem zC_s {v : Int32} {b : Nat} (h : zCnt v b) (hb : b ≤ 100000) (hlt : zN v < b) : zCnt (v + 1) b := by
  obtain ⟨e, ez⟩ := zN_s h (by omega)
  exact ⟨by rw [ez]; exact e, by rw [ez]; omega⟩
theorem zUp_m {v : Int32} {i j : Nat} (h : zUp v i) (hij : i ≤ j) : zUp v j := by
  rcases h with h | ⟨t, ht, h⟩
  · exact Or.inl h
  · exact Or.inr ⟨t, by omega, h⟩
theorem iv_pass {x : Nat → Int32} {a : Nat → Nat → Int32} {d : Int32} (h : zIv x a) (hd : inB d 1 1000 = true) (hs : x 0 + d ≤ 100000) : zIv (upd x 0 (x 0 + d)) (a) := by
  obtain ⟨⟨i0, i1, i6, i11, i15, i23, i24, i29, iA, iS, iC, iQ, iP⟩, w1, w2, w3, w4, w5, w6, w7⟩ := h
  have b1 := i1.2
  have b6 := i6.2
  have b11 := i11.2
  have b15 := i15.2
  have b23 := i23.2
  have b24 := i24.2
  have b29 := i29.2
  have hc : zCnt (x 0 + d) 100000 := by
    obtain ⟨h1, h2⟩ := inB_t.mp hd
    obtain ⟨j, hj, rfl⟩ := nI_of (x := d) (fun z => absurd (Int32.lt_trans z (by decide : (0 : Int32) < 1)) (Int32.not_lt.mpr h1))
    have hj2 : j ≤ 1000 := (nI_leI hj (by decide)).mp h2
    have e : x 0 + nI j = nI (zN (x 0) + j) := by
      rw [← nI_add, ← i0.1]
    have hb := i0.2
    have ez : zN (x 0 + nI j) = zN (x 0) + j := by rw [e]; exact zN_nI (by omega)
    refine ⟨by rw [ez]; exact e, ?_⟩
    rw [ez]
    rw [e] at hs
    exact (nI_leI (b := 100000) (by omega) (by decide)).mp hs
  exact ⟨⟨hc, i1, i6, i11, i15, i23, i24, i29, iA, iS, iC, iQ, iP⟩, w1, w2, w3, w4, w5, w6, w7⟩
theorem iv_addAccount {x : Nat → Int32} {a : Nat → Nat → Int32} {o u v : Int32} (h : zIv x a) (ho : (decide (o = -1) || isAcc x o) = true) (hn : zN (x 1) < 16) : zIv (upd x 1 (x 1 + 1)) (ua (ua (ua (ua a 2 (upd (a 2) (zN (x 1)) o)) 3 (upd (a 3) (zN (x 1)) u)) 4 (upd (a 4) (zN (x 1)) v)) 5 (upd (a 5) (zN (x 1)) (-1))) := by
  obtain ⟨⟨i0, i1, i6, i11, i15, i23, i24, i29, iA, iS, iC, iQ, iP⟩, w1, w2, w3, w4, w5, w6, w7⟩ := h
  have b1 := i1.2
  have b6 := i6.2
  have b11 := i11.2
  have b15 := i15.2
  have b23 := i23.2
  have b24 := i24.2
  have b29 := i29.2
  have e1 : zN (x 1 + 1) = zN (x 1) + 1 := (zN_s i1 (by decide)).2
  have hu : zUp o (zN (x 1)) := by
    by_cases e : o = -1
    · exact Or.inl e
    · rw [decide_eq_false e] at ho
      obtain ⟨i, hi, rfl⟩ := inB_ix i1 (by decide) ho
      exact Or.inr ⟨i, hi, rfl⟩
  have iA' : ∀ i, i < zN (x 1 + 1) → zUp (upd (a 2) (zN (x 1)) o i) i := by
    intro i hi
    by_cases e : i = zN (x 1)
    · rw [e, upd_at]; exact hu
    · rw [upd_ne e]; exact iA i (by omega)
  have iC' : ∀ c, c < zN (x 15) → (∃ i, i < zN (x 1 + 1) ∧ a 16 c = nI i) ∧ (∃ t, t ≤ 5 ∧ a 18 c = nI t) := by
    intro c hc
    obtain ⟨⟨i, hi, e⟩, h2⟩ := iC c hc
    exact ⟨⟨i, by omega, e⟩, h2⟩
  exact ⟨⟨i0, zC_s i1 (by decide) hn, i6, i11, i15, i23, i24, i29, iA', iS, iC', iQ, iP⟩, w1, w2, w3, w4, w5, w6, w7⟩
theorem iv_putRule {x : Nat → Int32} {a : Nat → Nat → Int32} {p n : Nat} {f u g w : Int32} (h : zIv x a) (hn : zN (x 6) < 8) : zIv (upd x 6 (x 6 + 1)) (putR a p n f u g w) := by
  obtain ⟨⟨i0, i1, i6, i11, i15, i23, i24, i29, iA, iS, iC, iQ, iP⟩, w1, w2, w3, w4, w5, w6, w7⟩ := h
  have b1 := i1.2
  have b6 := i6.2
  have b11 := i11.2
  have b15 := i15.2
  have b23 := i23.2
  have b24 := i24.2
  have b29 := i29.2
  exact ⟨⟨i0, i1, zC_s i6 (by decide) hn, i11, i15, i23, i24, i29, iA, iS, iC, iQ, iP⟩, w1, w2, w3, w4, w5, w6, w7⟩
theorem iv_removeRule {x : Nat → Int32} {a : Nat → Nat → Int32} {g : (Nat → Int32) → Nat → Int32} (h : zIv x a) (hn : 0 < zN (x 6)) : zIv (upd x 6 (x 6 - 1)) (R4 a g) := by
  obtain ⟨⟨i0, i1, i6, i11, i15, i23, i24, i29, iA, iS, iC, iQ, iP⟩, w1, w2, w3, w4, w5, w6, w7⟩ := h
  have b1 := i1.2
  have b6 := i6.2
  have b11 := i11.2
  have b15 := i15.2
  have b23 := i23.2
  have b24 := i24.2
  have b29 := i29.2
  have hc : zCnt (x 6 - 1) 8 := by
    obtain ⟨m, em⟩ : ∃ m, zN (x 6) = m + 1 := ⟨zN (x 6) - 1, by omega⟩
    have e : x 6 - 1 = nI m := by rw [i6.1, em]; exact nI_pred m
    have ez : zN (x 6 - 1) = m := by rw [e]; exact zN_nI (by omega)
    exact ⟨by rw [ez]; exact e, by rw [ez]; omega⟩
  exact ⟨⟨i0, i1, hc, i11, i15, i23, i24, i29, iA, iS, iC, iQ, iP⟩, w1, w2, w3, w4, w5, w6, w7⟩
theorem iv_except {x : Nat → Int32} {a : Nat → Nat → Int32} {F : Nat → Int32} (h : zIv x a)  : zIv (x) (ua a 5 F) := by
  obtain ⟨⟨i0, i1, i6, i11, i15, i23, i24, i29, iA, iS, iC, iQ, iP⟩, w1, w2, w3, w4, w5, w6, w7⟩ := h
  have b1 := i1.2
  have b6 := i6.2
  have b11 := i11.2
  have b15 := i15.2
  have b23 := i23.2
  have b24 := i24.2
  have b29 := i29.2
  exact ⟨⟨i0, i1, i6, i11, i15, i23, i24, i29, iA, iS, iC, iQ, iP⟩, w1, w2, w3, w4, w5, w6, w7⟩
theorem iv_addSeller {x : Nat → Int32} {a : Nat → Nat → Int32} {o u : Int32} (h : zIv x a) (ho : (decide (o = -1) || isSel x o) = true) (hn : zN (x 11) < 8) : zIv (upd x 11 (x 11 + 1)) (ua (ua a 12 (upd (a 12) (zN (x 11)) o)) 13 (upd (a 13) (zN (x 11)) u)) := by
  obtain ⟨⟨i0, i1, i6, i11, i15, i23, i24, i29, iA, iS, iC, iQ, iP⟩, w1, w2, w3, w4, w5, w6, w7⟩ := h
  have b1 := i1.2
  have b6 := i6.2
  have b11 := i11.2
  have b15 := i15.2
  have b23 := i23.2
  have b24 := i24.2
  have b29 := i29.2
  have e1 : zN (x 11 + 1) = zN (x 11) + 1 := (zN_s i11 (by decide)).2
  have hu : zUp o (zN (x 11)) := by
    by_cases e : o = -1
    · exact Or.inl e
    · rw [decide_eq_false e] at ho
      obtain ⟨i, hi, rfl⟩ := inB_ix i11 (by decide) ho
      exact Or.inr ⟨i, hi, rfl⟩
  have iS' : ∀ i, i < zN (x 11 + 1) → zUp (upd (a 12) (zN (x 11)) o i) i := by
    intro i hi
    by_cases e : i = zN (x 11)
    · rw [e, upd_at]; exact hu
    · rw [upd_ne e]; exact iS i (by omega)
  have iQ' : ∀ q, q < zN (x 23) → (∃ c, c < zN (x 15) ∧ a 25 q = nI c) ∧ (∃ s, s < zN (x 11 + 1) ∧ a 26 q = nI s) ∧ (∃ o, o ≤ zN (x 24) ∧ a 28 q = nI o) := by
    intro q hq
    obtain ⟨h1, ⟨s, hs, e⟩, h3⟩ := iQ q hq
    exact ⟨h1, ⟨s, by omega, e⟩, h3⟩
  have w4' : ∀ s, zN (x 11 + 1) ≤ s → a 14 s = 0 := fun s hs => w4 s (by omega)
  exact ⟨⟨i0, i1, i6, zC_s i11 (by decide) hn, i15, i23, i24, i29, iA, iS', iC, iQ', iP⟩, w1, w2, w3, w4', w5, w6, w7⟩
theorem iv_adjust {x : Nat → Int32} {a : Nat → Nat → Int32} {i : Nat} {w : Int32} (h : zIv x a) (hi : i < zN (x 11)) : zIv (x) (ua a 14 (upd (a 14) i w)) := by
  obtain ⟨⟨i0, i1, i6, i11, i15, i23, i24, i29, iA, iS, iC, iQ, iP⟩, w1, w2, w3, w4, w5, w6, w7⟩ := h
  have b1 := i1.2
  have b6 := i6.2
  have b11 := i11.2
  have b15 := i15.2
  have b23 := i23.2
  have b24 := i24.2
  have b29 := i29.2
  have w4' : ∀ s, zN (x 11) ≤ s → upd (a 14) i w s = 0 := fun s hs => by rw [upd_ne (by omega)]; exact w4 s hs
  exact ⟨⟨i0, i1, i6, i11, i15, i23, i24, i29, iA, iS, iC, iQ, iP⟩, w1, w2, w3, w4', w5, w6, w7⟩
theorem iv_addChance {x : Nat → Int32} {a : Nat → Nat → Int32} {i j : Nat} {w : Int32} (h : zIv x a) (hi : i < zN (x 1)) (hj : j < 8) (hn : zN (x 15) < 30) : zIv (upd x 15 (x 15 + 1)) (ua (ua (ua (ua a 16 (upd (a 16) (zN (x 15)) (nI i))) 17 (upd (a 17) (zN (x 15)) w)) 19 (upd (a 19) (zN (x 15)) (x 0))) 21 (upd (a 21) (8 * zN (x 15) + j) 100)) := by
  obtain ⟨⟨i0, i1, i6, i11, i15, i23, i24, i29, iA, iS, iC, iQ, iP⟩, w1, w2, w3, w4, w5, w6, w7⟩ := h
  have b1 := i1.2
  have b6 := i6.2
  have b11 := i11.2
  have b15 := i15.2
  have b23 := i23.2
  have b24 := i24.2
  have b29 := i29.2
  have e1 : zN (x 15 + 1) = zN (x 15) + 1 := (zN_s i15 (by decide)).2
  have iC' : ∀ c, c < zN (x 15 + 1) → (∃ k, k < zN (x 1) ∧ upd (a 16) (zN (x 15)) (nI i) c = nI k) ∧ (∃ t, t ≤ 5 ∧ a 18 c = nI t) := by
    intro c hc
    by_cases e : c = zN (x 15)
    · exact ⟨⟨i, hi, by rw [e, upd_at]⟩, 0, by decide, w1 c (by omega)⟩
    · rw [upd_ne e]; exact iC c (by omega)
  have iQ' : ∀ q, q < zN (x 23) → (∃ c, c < zN (x 15 + 1) ∧ a 25 q = nI c) ∧ (∃ s, s < zN (x 11) ∧ a 26 q = nI s) ∧ (∃ o, o ≤ zN (x 24) ∧ a 28 q = nI o) := by
    intro q hq
    obtain ⟨⟨c, hc, e⟩, h2⟩ := iQ q hq
    exact ⟨⟨c, by omega, e⟩, h2⟩
  have w1' : ∀ c, zN (x 15 + 1) ≤ c → a 18 c = 0 := fun c hc => w1 c (by omega)
  have w2' : ∀ t, 8 * zN (x 15 + 1) ≤ t → upd (a 21) (8 * zN (x 15) + j) 100 t = 0 := fun t ht => by rw [upd_ne (by omega)]; exact w2 t (by omega)
  have w3' : ∀ t, 6 * zN (x 15 + 1) ≤ t → a 22 t = 0 := fun t ht => w3 t (by omega)
  exact ⟨⟨i0, i1, i6, i11, zC_s i15 (by decide) hn, i23, i24, i29, iA, iS, iC', iQ', iP⟩, w1', w2', w3', w4, w5, w6, w7⟩
theorem iv_giveShare {x : Nat → Int32} {a : Nat → Nat → Int32} {i j t : Nat} {u v : Int32} (h : zIv x a) (hi : i < zN (x 15)) (hj : j < 8) (ht : t < 8) : zIv (x) (ua (ua a 21 (upd (a 21) (8 * i + j) u)) 21 (upd (upd (a 21) (8 * i + j) u) (8 * i + t) v)) := by
  obtain ⟨⟨i0, i1, i6, i11, i15, i23, i24, i29, iA, iS, iC, iQ, iP⟩, w1, w2, w3, w4, w5, w6, w7⟩ := h
  have b1 := i1.2
  have b6 := i6.2
  have b11 := i11.2
  have b15 := i15.2
  have b23 := i23.2
  have b24 := i24.2
  have b29 := i29.2
  have w2' : ∀ t9, 8 * zN (x 15) ≤ t9 → upd (upd (a 21) (8 * i + j) u) (8 * i + t) v t9 = 0 := fun t9 h9 => by rw [upd_ne (by omega), upd_ne (by omega)]; exact w2 t9 h9
  exact ⟨⟨i0, i1, i6, i11, i15, i23, i24, i29, iA, iS, iC, iQ, iP⟩, w1, w2', w3, w4, w5, w6, w7⟩
theorem iv_move {x : Nat → Int32} {a : Nat → Nat → Int32} {i w ts : Nat} {u v y : Int32} (h : zIv x a) (hi : i < zN (x 15)) (hw : w ≤ 5) (hts : ts < 6) : zIv (x) (ua (ua (ua (ua a 22 (upd (a 22) (6 * i + ts) u)) 18 (upd (a 18) i (nI w))) 19 (upd (a 19) i v)) 20 (upd (a 20) i y)) := by
  obtain ⟨⟨i0, i1, i6, i11, i15, i23, i24, i29, iA, iS, iC, iQ, iP⟩, w1, w2, w3, w4, w5, w6, w7⟩ := h
  have b1 := i1.2
  have b6 := i6.2
  have b11 := i11.2
  have b15 := i15.2
  have b23 := i23.2
  have b24 := i24.2
  have b29 := i29.2
  have iC' : ∀ c, c < zN (x 15) → (∃ k, k < zN (x 1) ∧ a 16 c = nI k) ∧ (∃ t, t ≤ 5 ∧ upd (a 18) i (nI w) c = nI t) := fun c hc => ⟨(iC c hc).1, up_le5 (iC c hc).2 hw⟩
  have w1' : ∀ c, zN (x 15) ≤ c → upd (a 18) i (nI w) c = 0 := fun c hc => by rw [upd_ne (by omega)]; exact w1 c hc
  have w3' : ∀ t, 6 * zN (x 15) ≤ t → upd (a 22) (6 * i + ts) u t = 0 := fun t ht => by rw [upd_ne (by omega)]; exact w3 t ht
  exact ⟨⟨i0, i1, i6, i11, i15, i23, i24, i29, iA, iS, iC', iQ, iP⟩, w1', w2, w3', w4, w5, w6, w7⟩
theorem iv_quote0 {x : Nat → Int32} {a : Nat → Nat → Int32} {i j : Nat} {w : Int32} (h : zIv x a) (hi : i < zN (x 15)) (hj : j < zN (x 11)) (hn : zN (x 23) < 40) : zIv (upd x 23 (x 23 + 1)) (ua (ua (ua a 25 (upd (a 25) (zN (x 23)) (nI i))) 26 (upd (a 26) (zN (x 23)) (nI j))) 27 (upd (a 27) (zN (x 23)) w)) := by
  obtain ⟨⟨i0, i1, i6, i11, i15, i23, i24, i29, iA, iS, iC, iQ, iP⟩, w1, w2, w3, w4, w5, w6, w7⟩ := h
  have b1 := i1.2
  have b6 := i6.2
  have b11 := i11.2
  have b15 := i15.2
  have b23 := i23.2
  have b24 := i24.2
  have b29 := i29.2
  have e1 : zN (x 23 + 1) = zN (x 23) + 1 := (zN_s i23 (by decide)).2
  have iQ' : ∀ q, q < zN (x 23 + 1) → (∃ c, c < zN (x 15) ∧ upd (a 25) (zN (x 23)) (nI i) q = nI c) ∧ (∃ s, s < zN (x 11) ∧ upd (a 26) (zN (x 23)) (nI j) q = nI s) ∧ (∃ o, o ≤ zN (x 24) ∧ a 28 q = nI o) := by
    intro q hq
    by_cases e : q = zN (x 23)
    · exact ⟨⟨i, hi, by rw [e, upd_at]⟩, ⟨j, hj, by rw [e, upd_at]⟩, 0, Nat.zero_le _, w5 q (by omega)⟩
    · rw [upd_ne e, upd_ne e]; exact iQ q (by omega)
  have w5' : ∀ q, zN (x 23 + 1) ≤ q → a 28 q = 0 := fun q hq => w5 q (by omega)
  have w7' : zN (x 24) = apc (a 28) (zN (x 23 + 1)) := by rw [e1, apc, w5 _ (Nat.le_refl _), if_pos rfl]; exact w7
  have iP' : zN (x 24) ≤ zN (x 23 + 1) := by omega
  exact ⟨⟨i0, i1, i6, i11, i15, zC_s i23 (by decide) hn, i24, i29, iA, iS, iC, iQ', iP'⟩, w1, w2, w3, w4, w5', w6, w7'⟩
theorem iv_approve {x : Nat → Int32} {a : Nat → Nat → Int32} {q : Nat} (h : zIv x a) (hq : q < zN (x 23)) (h0 : a 28 q = 0) : zIv (upd x 24 (x 24 + 1)) (ua a 28 (upd (a 28) q (x 24 + 1))) := by
  obtain ⟨⟨i0, i1, i6, i11, i15, i23, i24, i29, iA, iS, iC, iQ, iP⟩, w1, w2, w3, w4, w5, w6, w7⟩ := h
  have b1 := i1.2
  have b6 := i6.2
  have b11 := i11.2
  have b15 := i15.2
  have b23 := i23.2
  have b24 := i24.2
  have b29 := i29.2
  have hlt : zN (x 24) < zN (x 23) := by rw [w7]; exact apc_lt h0 hq
  have es := zN_s i24 (by decide)
  have hv : ¬ x 24 + 1 = 0 := by rw [es.1]; exact nI_ne0 (by omega) (by omega)
  have iQ' : ∀ k, k < zN (x 23) → (∃ c, c < zN (x 15) ∧ a 25 k = nI c) ∧ (∃ s, s < zN (x 11) ∧ a 26 k = nI s) ∧ (∃ o, o ≤ zN (x 24 + 1) ∧ upd (a 28) q (x 24 + 1) k = nI o) := by
    intro k hk
    obtain ⟨h1, h2, s, hs, e⟩ := iQ k hk
    refine ⟨h1, h2, ?_⟩
    by_cases e2 : k = q
    · exact ⟨zN (x 24) + 1, by rw [es.2]; omega, by rw [e2, upd_at]; exact es.1⟩
    · exact ⟨s, by rw [es.2]; omega, by rw [upd_ne e2]; exact e⟩
  have w5' : ∀ k, zN (x 23) ≤ k → upd (a 28) q (x 24 + 1) k = 0 := fun k hk => by rw [upd_ne (by omega)]; exact w5 k hk
  have w7' : zN (x 24 + 1) = apc (upd (a 28) q (x 24 + 1)) (zN (x 23)) := by rw [es.2, apc_up h0 hv _ hq, w7]
  have iP' : zN (x 24 + 1) ≤ zN (x 23) := by rw [es.2]; omega
  exact ⟨⟨i0, i1, i6, i11, i15, i23, zC_s i24 (by decide) (by omega), i29, iA, iS, iC, iQ', iP'⟩, w1, w2, w3, w4, w5', w6, w7'⟩
theorem iv_freeze {x : Nat → Int32} {a : Nat → Nat → Int32}  (h : zIv x a) (hn : zN (x 29) < 20) : zIv (upd x 29 (x 29 + 1)) (ua a 30 (frz x a (zN (x 29)) (zN (x 11)))) := by
  obtain ⟨⟨i0, i1, i6, i11, i15, i23, i24, i29, iA, iS, iC, iQ, iP⟩, w1, w2, w3, w4, w5, w6, w7⟩ := h
  have b1 := i1.2
  have b6 := i6.2
  have b11 := i11.2
  have b15 := i15.2
  have b23 := i23.2
  have b24 := i24.2
  have b29 := i29.2
  have e1 : zN (x 29 + 1) = zN (x 29) + 1 := (zN_s i29 (by decide)).2
  have w6' : ∀ t, 8 * zN (x 29 + 1) ≤ t → frz x a (zN (x 29)) (zN (x 11)) t = 0 := fun t ht => by
    rw [frz, if_neg (by omega)]
    exact w6 t (by omega)
  exact ⟨⟨i0, i1, i6, i11, i15, i23, i24, zC_s i29 (by decide) hn, iA, iS, iC, iQ, iP⟩, w1, w2, w3, w4, w5, w6', w7⟩
