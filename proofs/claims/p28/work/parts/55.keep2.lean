/-! what quotes, approvals, freezes and days keep -/
theorem upd_upd {f : Nat → Int32} {i : Nat} {u v : Int32} : upd (upd f i u) i v = upd f i v := by
  funext j
  by_cases e : j = i
  · rw [e, upd_at, upd_at]
  · rw [upd_ne e, upd_ne e, upd_ne e]
theorem upd_self {f : Nat → Int32} {i : Nat} : upd f i (f i) = f := by
  funext j
  by_cases e : j = i
  · rw [e, upd_at]
  · rw [upd_ne e]
theorem upd_back {f : Nat → Int32} {i : Nat} {u v : Int32} (h : f i = v) : upd (upd f i u) i v = f := by rw [upd_upd, ← h, upd_self]
theorem cntL_r {a : Nat → Nat → Int32} {q : Int32} : ∀ {n : Nat}, n ≤ 1000 → cntL a q n = -1 ∨ ∃ j, j < n ∧ cntL a q n = nI j ∧ a 25 j = q
  | 0, _ => Or.inl rfl
  | n + 1, hn => by
    rw [cntL]
    cases hc : cntC a q n (cntL a q n) with
    | true =>
      unfold cntC at hc
      exact Or.inr ⟨n, by omega, rfl, of_decide_eq_true (Bool.and_eq_true_iff.mp hc).1⟩
    | false =>
      rcases cntL_r (a := a) (q := q) (n := n) (by omega) with h | ⟨j, hj, h, h2⟩
      · exact Or.inl h
      · exact Or.inr ⟨j, by omega, h, h2⟩
/-- what stands below n decides -/
theorem cntL_lo {a a' : Nat → Nat → Int32} {q : Int32} : ∀ {n : Nat}, n ≤ 1000 → (∀ j, j < n → a' 25 j = a 25 j ∧ a' 28 j = a 28 j) → cntL a' q n = cntL a q n
  | 0, _, _ => rfl
  | n + 1, hn, h => by
    rw [cntL, cntL, cntL_lo (by omega) (fun j hj => h j (by omega))]
    have e : cntC a' q n (cntL a q n) = cntC a q n (cntL a q n) := by
      unfold cntC
      rw [(h n (by omega)).1, (h n (by omega)).2]
      rcases cntL_r (a := a) (q := q) (n := n) (by omega) with e | ⟨j, hj, e, -⟩
      · rw [e, decide_eq_true rfl, Bool.true_or, Bool.true_or]
      · rw [e, zN_nI (by omega), (h j (by omega)).2]
    rw [e]
theorem cntC_0 {a : Nat → Nat → Int32} {q f : Int32} {n : Nat} (h : a 28 n = 0) : cntC a q n f = false := by
  unfold cntC
  rw [h, decide_eq_false (show ¬ (0 : Int32) < 0 by decide), Bool.false_and, Bool.and_false]
theorem cntL_ad {a : Nat → Nat → Int32} {q : Int32} {n : Nat} (h : a 28 n = 0) : cntL a q n = cntL a q (n + 1) := by
  rw [cntL, cntC_0 h]
  rfl
/-- another chance's approval -/
theorem cntL_ot {a a' : Nat → Nat → Int32} {q : Int32} {i : Nat} {v : Int32} (hi : ¬ a 25 i = q) (h25 : a' 25 = a 25) (h28 : a' 28 = upd (a 28) i v) : ∀ {n : Nat}, n ≤ 1000 → cntL a' q n = cntL a q n
  | 0, _ => rfl
  | n + 1, hn => by
    rw [cntL, cntL, cntL_ot hi h25 h28 (by omega)]
    have e : cntC a' q n (cntL a q n) = cntC a q n (cntL a q n) := by
      unfold cntC
      rw [h25]
      by_cases e1 : a 25 n = q
      · have hn1 : n ≠ i := fun z => hi (by rw [← z]; exact e1)
        rw [h28, upd_ne hn1]
        rcases cntL_r (a := a) (q := q) (n := n) (by omega) with e | ⟨j, hj, e, e2⟩
        · rw [e, decide_eq_true rfl, Bool.true_or, Bool.true_or]
        · have hj1 : j ≠ i := fun z => hi (by rw [← z]; exact e2)
          rw [e, zN_nI (by omega), upd_ne hj1]
      · rw [decide_eq_false e1, Bool.false_and, Bool.false_and]
    rw [e]
/-- the chance's own: the newest counts -/
theorem cntL_new {a a' : Nat → Nat → Int32} {q : Int32} {i b m : Nat} (hi : a 25 i = q) (hb : b < 1000) (hm : m ≤ 1000) (hlo : ∀ j, j < m → ∃ o, o ≤ b ∧ a 28 j = nI o) (h25 : a' 25 = a 25) (h28 : a' 28 = upd (a 28) i (nI (b + 1))) : ∀ {n : Nat}, n ≤ m → i < n → cntL a' q n = nI i
  | 0, _, h => absurd h (Nat.not_lt_zero _)
  | n + 1, hn, h => by
    rw [cntL]
    by_cases e : n = i
    · subst e
      have hlow : cntL a' q n = cntL a q n := cntL_lo (by omega) (fun j hj => ⟨by rw [h25], by rw [h28, upd_ne (by omega)]⟩)
      have hc : cntC a' q n (cntL a' q n) = true := by
        unfold cntC
        rw [h25, hi, decide_eq_true rfl, Bool.true_and, h28, upd_at, decide_eq_true (show (0 : Int32) < nI (b + 1) from nI_lt (a := 0) (by omega) (by omega)), Bool.true_and, hlow]
        rcases cntL_r (a := a) (q := q) (n := n) (by omega) with e | ⟨j, hj, e, -⟩
        · rw [e, decide_eq_true rfl, Bool.true_or]
        · obtain ⟨o, ho, eo⟩ := hlo j (by omega)
          rw [e, zN_nI (by omega), upd_ne (by omega), eo, decide_eq_true (nI_lt (by omega) (by omega)), Bool.or_true]
      rw [hc]
      rfl
    · rw [cntL_new hi hb hm hlo h25 h28 (by omega : n ≤ m) (by omega)]
      have hc : cntC a' q n (nI i) = false := by
        unfold cntC
        obtain ⟨o, ho, eo⟩ := hlo n (by omega)
        rw [h28, zN_nI (by omega), upd_at, upd_ne e, eo, decide_eq_false (nI_nm1 (by omega)), Bool.false_or, decide_eq_false (nI_nlt (by omega) (by omega)), Bool.and_false, Bool.and_false]
      rw [hc]
      rfl
theorem keep_quote {x : Nat → Int32} {a A A' : Nat → Nat → Int32} {K : Nat} (h : TI x a A K) {c s d : Nat} (hc : c < zN (x 15)) (hs : s < zN (x 11)) (hd : d ≤ 99) (hn : zN (x 23) < 30) (hA0 : A' 0 = A 0) (hA1 : A' 1 = A 1) (hA2 : A' 2 = A 2) (hA3 : A' 3 = upd (A 3) (zN (x 23)) (nI (10000000 * c + 1000 * d + 10 * s))) (hA4 : A' 4 = upd (A 4) 3 (nI (zN (x 23) + 1))) : TI (upd x 23 (x 23 + 1)) (ua (ua (ua a 25 (upd (a 25) (zN (x 23)) (nI c))) 26 (upd (a 26) (zN (x 23)) (nI s))) 27 (upd (a 27) (zN (x 23)) (nI d))) A' K := by
  obtain ⟨hI, ⟨jx, je, jr, jk, ja, jv, js, jd, jq⟩, ⟨⟨t0, t1, t2, t3, t4, t5, t6⟩, ta, tb, td, tq⟩, h0⟩ := h
  obtain ⟨i0, i1, i6, i11, i15, i23, i24, i29, iA, iS, iC, iQ, iP⟩ := id hI.1
  have b0 := i0.2
  have b1 := i1.2
  have b6 := i6.2
  have b11 := i11.2
  have b15 := jx.1
  have b23 := jx.2
  have b24 := i24.2
  obtain ⟨w1, w2, w3, w4, w5, -, -⟩ := hI.2
  obtain ⟨e, ez⟩ := zN_s i23 (by decide)
  have e1 : zN (upd x 23 (x 23 + 1) 23) = zN (x 23) + 1 := by rw [upd_at]; exact ez
  refine ⟨iv_quote0 hI hc hs (by omega), ⟨⟨jx.1, by rw [e1]; omega⟩, je, jr, jk, ja, jv, js, jd, fun q hq => ?_⟩, ⟨?_, aT_cg ta hA0 rfl rfl, bT_cg tb hA1 rfl rfl rfl rfl, fun c9 hc9 => ?_, fun q hq => ?_⟩, h0⟩
  · rw [e1] at hq
    show ∃ d9, d9 ≤ 99 ∧ upd (a 27) (zN (x 23)) (nI d) q = nI d9
    by_cases e2 : q = zN (x 23)
    · rw [e2, upd_at]; exact ⟨d, hd, rfl⟩
    · rw [upd_ne e2]; exact jq q (by omega)
  · unfold gT
    rw [hA4]
    exact ⟨t0, t1, t2, e.symm, t4, t5, t6⟩
  · obtain ⟨r1, r2, r3, u, r4, r5⟩ := td c9 hc9
    rw [hA2]
    refine ⟨r1, r2, r3.trans ?_, u, r4, r5⟩
    unfold cnt
    rw [e1]
    refine Eq.trans ?_ (cntL_ad (by exact w5 _ (Nat.le_refl _)))
    symm
    refine cntL_lo (by omega) (fun j hj => ⟨?_, rfl⟩)
    show upd (a 25) (zN (x 23)) (nI c) j = _
    rw [upd_ne (by omega)]
  · rw [e1] at hq
    rw [hA3]
    show _ = nI (10000000 * zN (upd (a 25) (zN (x 23)) (nI c) q) + 1000 * zN (upd (a 27) (zN (x 23)) (nI d) q) + 10 * zN (upd (a 26) (zN (x 23)) (nI s) q) + (if a 28 q = 0 then 0 else 1))
    by_cases e2 : q = zN (x 23)
    · rw [e2, upd_at, upd_at, upd_at, upd_at, zN_nI (by omega), zN_nI (by omega), zN_nI (by omega), if_pos (w5 _ (Nat.le_refl _))]
      rfl
    · rw [upd_ne e2, upd_ne e2, upd_ne e2, upd_ne e2]; exact tq q (by omega)
theorem keep_approve {x : Nat → Int32} {a A A' : Nat → Nat → Int32} {K : Nat} (h : TI x a A K) {q c : Nat} (hq : q < zN (x 23)) (hc : a 25 q = nI c) (hc9 : c < zN (x 15)) (hz : a 28 q = 0) (hA0 : A' 0 = A 0) (hA1 : A' 1 = A 1) (hA2 : A' 2 = upd (A 2) (4 * c + 3) (nI q)) (hA3 : A' 3 = upd (A 3) q (nI (qN a q + 1))) (hA4 : A' 4 = A 4) : TI (upd x 24 (x 24 + 1)) (ua a 28 (upd (a 28) q (x 24 + 1))) A' K := by
  obtain ⟨hI, ⟨jx, je, jr, jk, ja, jv, js, jd, jq⟩, ⟨⟨t0, t1, t2, t3, t4, t5, t6⟩, ta, tb, td, tq⟩, h0⟩ := h
  obtain ⟨i0, i1, i6, i11, i15, i23, i24, i29, iA, iS, iC, iQ, iP⟩ := id hI.1
  have b0 := i0.2
  have b1 := i1.2
  have b6 := i6.2
  have b11 := i11.2
  have b15 := jx.1
  have b23 := jx.2
  have b24 := i24.2
  have e : x 24 + 1 = nI (zN (x 24) + 1) := (zN_s i24 (by decide)).1
  refine ⟨iv_approve hI hq hz, ⟨jx, je, jr, jk, ja, jv, js, jd, jq⟩, ⟨?_, aT_cg ta hA0 rfl rfl, bT_cg tb hA1 rfl rfl rfl rfl, fun c1 hc1 => ?_, fun k hk => ?_⟩, h0⟩
  · unfold gT
    rw [hA4]
    exact ⟨t0, t1, t2, t3, t4, t5, t6⟩
  · obtain ⟨r1, r2, r3, u, r4, r5⟩ := td c1 hc1
    rw [hA2]
    by_cases e2 : c1 = c
    · subst e2
      refine ⟨?_, ?_, ?_, u, ?_, r5⟩
      · rw [upd_ne (by omega)]; exact r1
      · rw [upd_ne (by omega)]; exact r2
      · rw [upd_at]
        show nI q = cntL (ua a 28 (upd (a 28) q (x 24 + 1))) (nI c1) (zN (x 23))
        symm
        refine cntL_new (a := a) (b := zN (x 24)) (m := zN (x 23)) hc (by omega) (by omega) (fun j hj => (iQ j hj).2.2) (by rfl) ?_ (Nat.le_refl _) hq
        rw [← e]
        rfl
      · rw [upd_ne (by omega)]; exact r4
    · refine ⟨?_, ?_, ?_, u, ?_, r5⟩
      · rw [upd_ne (by omega)]; exact r1
      · rw [upd_ne (by omega)]; exact r2
      · rw [upd_ne (by omega), r3]
        have hc2 : c1 < zN (x 15) := hc1
        show cntL a (nI c1) (zN (x 23)) = cntL (ua a 28 (upd (a 28) q (x 24 + 1))) (nI c1) (zN (x 23))
        symm
        exact cntL_ot (a := a) (i := q) (v := x 24 + 1) (fun z => e2 ((nI_eq (by omega) (by omega)).mp (hc.symm.trans z)).symm) (by rfl) (by rfl) (by omega)
      · rw [upd_ne (by omega)]; exact r4
  · rw [hA3]
    show upd (A 3) q (nI (qN a q + 1)) k = nI (10000000 * zN (a 25 k) + 1000 * zN (a 27 k) + 10 * zN (a 26 k) + (if upd (a 28) q (x 24 + 1) k = 0 then 0 else 1))
    by_cases e2 : k = q
    · rw [e2, upd_at, upd_at, e, if_neg (nI_ne0 (by omega) (by omega))]
      unfold qN
      rw [if_pos hz]
    · rw [upd_ne e2, upd_ne e2]
      exact tq k hk
theorem keep_freeze {x : Nat → Int32} {a A A' : Nat → Nat → Int32} {K : Nat} (h : TI x a A K) (hn : zN (x 29) < 20) (hA0 : A' 0 = A 0) (hA1 : A' 1 = A 1) (hA2 : A' 2 = A 2) (hA3 : A' 3 = A 3) (hA4 : A' 4 = upd (A 4) 5 (nI (zN (x 29) + 1))) : TI (upd x 29 (x 29 + 1)) (ua a 30 (frz x a (zN (x 29)) (zN (x 11)))) A' K := by
  obtain ⟨hI, ⟨jx, je, jr, jk, ja, jv, js, jd, jq⟩, ⟨⟨t0, t1, t2, t3, t4, t5, t6⟩, ta, tb, td, tq⟩, h0⟩ := h
  obtain ⟨i0, i1, i6, i11, i15, i23, i24, i29, iA, iS, iC, iQ, iP⟩ := id hI.1
  have b0 := i0.2
  have b1 := i1.2
  have b6 := i6.2
  have b11 := i11.2
  have b15 := jx.1
  have b23 := jx.2
  have b24 := i24.2
  have e : x 29 + 1 = nI (zN (x 29) + 1) := (zN_s i29 (by decide)).1
  refine ⟨iv_freeze hI hn, ⟨jx, je, jr, jk, ja, jv, js, jd, jq⟩, ⟨?_, aT_cg ta hA0 rfl rfl, bT_cg tb hA1 rfl rfl rfl rfl, dT_cg td hA2 rfl rfl rfl rfl rfl rfl rfl rfl, qT_cg tq hA3 rfl rfl rfl rfl rfl⟩, h0⟩
  unfold gT
  rw [hA4]
  exact ⟨t0, t1, t2, t3, t4, e.symm, t6⟩
theorem keep_pass {x : Nat → Int32} {a A A' : Nat → Nat → Int32} {K : Nat} (h : TI x a A K) {d : Nat} (h1 : 1 ≤ d) (hd : d ≤ 1000) (hK : K < 95) (hA0 : A' 0 = A 0) (hA1 : A' 1 = A 1) (hA2 : A' 2 = A 2) (hA3 : A' 3 = A 3) (hA4 : A' 4 = upd (A 4) 6 (nI (zN (x 0) + d))) : TI (upd x 0 (x 0 + nI d)) a A' (K + 1) := by
  obtain ⟨hI, ⟨jx, je, jr, jk, ja, jv, js, jd, jq⟩, ⟨⟨t0, t1, t2, t3, t4, t5, t6⟩, ta, tb, td, tq⟩, h0⟩ := h
  obtain ⟨i0, i1, i6, i11, i15, i23, i24, i29, iA, iS, iC, iQ, iP⟩ := id hI.1
  have b0 := i0.2
  have b1 := i1.2
  have b6 := i6.2
  have b11 := i11.2
  have b15 := jx.1
  have b23 := jx.2
  have b24 := i24.2
  have e : x 0 + nI d = nI (zN (x 0) + d) := by rw [← nI_add, ← i0.1]
  have e1 : zN (upd x 0 (x 0 + nI d) 0) = zN (x 0) + d := by rw [upd_at, e]; exact zN_nI (by omega)
  refine ⟨iv_pass hI (inB_nn (a := 1) (b := 1000) h1 hd (by decide)) (by rw [e]; exact nI_le (b := 100000) (by omega) (by decide)), ⟨jx, je, jr, jk, ja, jv, js, ⟨fun c hc => ?_, fun c m hc hm => ?_⟩, jq⟩, ⟨?_, aT_cg ta hA0 rfl rfl, bT_cg tb hA1 rfl rfl rfl rfl, dT_cg td hA2 rfl rfl rfl rfl rfl rfl rfl rfl, qT_cg tq hA3 rfl rfl rfl rfl rfl⟩, ?_⟩
  · obtain ⟨t, ht, et⟩ := jd.1 c hc
    exact ⟨t, by rw [e1]; omega, et⟩
  · obtain ⟨t, ht, et⟩ := jd.2 c m hc hm
    exact ⟨t, by rw [e1]; omega, et⟩
  · unfold gT
    rw [hA4]
    exact ⟨t0, t1, t2, t3, t4, t5, e.symm⟩
  · rw [e1]
    omega
