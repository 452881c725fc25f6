/-! what each step of the law keeps -/
theorem cntL_e {a a' : Nat → Nat → Int32} (h25 : a' 25 = a 25) (h28 : a' 28 = a 28) (q : Int32) : ∀ n, cntL a' q n = cntL a q n
  | 0 => rfl
  | n + 1 => by
    rw [cntL, cntL, cntL_e h25 h28 q n]
    unfold cntC
    rw [h25, h28]
theorem cnt_e {x x' : Nat → Int32} {a a' : Nat → Nat → Int32} (h23 : x' 23 = x 23) (h25 : a' 25 = a 25) (h28 : a' 28 = a 28) (q : Int32) : cnt x' a' q = cnt x a q := by
  unfold cnt
  rw [h23]
  exact cntL_e h25 h28 q _
theorem cnt_r9 {x x' : Nat → Int32} {a a' : Nat → Nat → Int32} (h23 : x' 23 = x 23) (h25 : a' 25 = a 25) (h28 : a' 28 = a 28) (q : Int32) : cnt x a q = cnt x' a' q := (cnt_e h23 h25 h28 q).symm
theorem dT_cg {x x' : Nat → Int32} {a a' A A' : Nat → Nat → Int32} (h : dT x a A) (hA : A' 2 = A 2) (hx : x' 15 = x 15) (hx3 : x' 23 = x 23) (h16 : a' 16 = a 16) (h17 : a' 17 = a 17) (h19 : a' 19 = a 19) (h22 : a' 22 = a 22) (h25 : a' 25 = a 25) (h28 : a' 28 = a 28) : dT x' a' A' := by
  intro c hc
  rw [hx] at hc
  obtain ⟨p1, p2, p3, u, p4, p5⟩ := h c hc
  unfold dyS at p5 ⊢
  rw [hA, h16, h17, h19, h22, cnt_e hx3 h25 h28]
  exact ⟨p1, p2, p3, u, p4, p5⟩
theorem aT_cg {x x' : Nat → Int32} {a a' A A' : Nat → Nat → Int32} (h : aT x a A) (hA : A' 0 = A 0) (hx : x' 1 = x 1) (h2 : a' 2 = a 2) : aT x' a' A' := by
  unfold aT at *
  rw [hA, hx, h2]
  exact h
theorem bT_cg {x x' : Nat → Int32} {a a' A A' : Nat → Nat → Int32} (h : bT x a A) (hA : A' 1 = A 1) (hx : x' 11 = x 11) (h12 : a' 12 = a 12) (h13 : a' 13 = a 13) (h14 : a' 14 = a 14) : bT x' a' A' := by
  unfold bT at *
  rw [hA, hx, h12, h13, h14]
  exact h
theorem qT_cg {x x' : Nat → Int32} {a a' A A' : Nat → Nat → Int32} (h : qT x a A) (hA : A' 3 = A 3) (hx : x' 23 = x 23) (h25 : a' 25 = a 25) (h26 : a' 26 = a 26) (h27 : a' 27 = a 27) (h28 : a' 28 = a 28) : qT x' a' A' := by
  unfold qT qN at *
  rw [hA, hx, h25, h26, h27, h28]
  exact h
theorem TI.up {x : Nat → Int32} {a A : Nat → Nat → Int32} {K : Nat} (h : TI x a A K) : TI x a A (K + 1) := ⟨h.1, h.2.1, h.2.2.1, by have := h.2.2.2; omega⟩
theorem keep_account {x : Nat → Int32} {a A A' : Nat → Nat → Int32} {K : Nat} (h : TI x a A K) {o w g : Int32} (ho : (decide (o = -1) || isAcc x o) = true) (hn : zN (x 1) < 16) (hA0 : A' 0 = upd (A 0) (4 * zN (x 1)) o) (hA1 : A' 1 = A 1) (hA2 : A' 2 = A 2) (hA3 : A' 3 = A 3) (hA4 : A' 4 = upd (A 4) 0 (nI (zN (x 1) + 1))) : TI (upd x 1 (x 1 + 1)) (ua (ua (ua (ua a 2 (upd (a 2) (zN (x 1)) o)) 3 (upd (a 3) (zN (x 1)) w)) 4 (upd (a 4) (zN (x 1)) g)) 5 (upd (a 5) (zN (x 1)) (-1))) A' K := by
  obtain ⟨hI, ⟨jx, je, jr, jk, ja, jv, js, jd, jq⟩, ⟨⟨t0, t1, t2, t3, t4, t5, t6⟩, ta, tb, td, tq⟩, h0⟩ := h
  obtain ⟨i0, i1, i6, i11, i15, i23, i24, i29, iA, iS, iC, iQ, iP⟩ := id hI.1
  have b0 := i0.2
  have b1 := i1.2
  have b6 := i6.2
  have b11 := i11.2
  have b15 := jx.1
  have b23 := jx.2
  have b24 := i24.2
  obtain ⟨e, ez⟩ := zN_s i1 (by decide)
  have e1 : zN (upd x 1 (x 1 + 1) 1) = zN (x 1) + 1 := by rw [upd_at]; exact ez
  refine ⟨iv_addAccount hI ho hn, ⟨jx, fun i hi => ?_, jr, jk, ja, jv, js, jd, jq⟩, ⟨?_, fun i hi => ?_, bT_cg tb hA1 rfl rfl rfl rfl, dT_cg td hA2 rfl rfl rfl rfl rfl rfl rfl rfl, qT_cg tq hA3 rfl rfl rfl rfl rfl⟩, h0⟩
  · rw [e1] at hi
    show upd (a 5) (zN (x 1)) (-1) i = -1 ∨ ∃ w, w < 4 ∧ upd (a 5) (zN (x 1)) (-1) i = nI w
    by_cases e2 : i = zN (x 1)
    · rw [e2, upd_at]; exact Or.inl rfl
    · rw [upd_ne e2]; exact je i (by omega)
  · unfold gT
    rw [hA4]
    exact ⟨e.symm, t1, t2, t3, t4, t5, t6⟩
  · rw [e1] at hi
    rw [hA0]
    show upd (A 0) (4 * zN (x 1)) o (4 * i) = upd (a 2) (zN (x 1)) o i
    by_cases e2 : i = zN (x 1)
    · rw [e2, upd_at, upd_at]
    · rw [upd_ne e2, upd_ne (by omega)]; exact ta i (by omega)
theorem keep_seller {x : Nat → Int32} {a A A' : Nat → Nat → Int32} {K : Nat} (h : TI x a A K) {o w : Int32} (ho : (decide (o = -1) || isSel x o) = true) (hn : zN (x 11) < 8) (hA0 : A' 0 = A 0) (hA1 : A' 1 = upd (upd (A 1) (3 * zN (x 11)) o) (3 * zN (x 11) + 1) w) (hA2 : A' 2 = A 2) (hA3 : A' 3 = A 3) (hA4 : A' 4 = upd (A 4) 1 (nI (zN (x 11) + 1))) : TI (upd x 11 (x 11 + 1)) (ua (ua a 12 (upd (a 12) (zN (x 11)) o)) 13 (upd (a 13) (zN (x 11)) w)) A' K := by
  obtain ⟨hI, ⟨jx, je, jr, jk, ja, jv, js, jd, jq⟩, ⟨⟨t0, t1, t2, t3, t4, t5, t6⟩, ta, tb, td, tq⟩, h0⟩ := h
  obtain ⟨i0, i1, i6, i11, i15, i23, i24, i29, iA, iS, iC, iQ, iP⟩ := id hI.1
  have b0 := i0.2
  have b1 := i1.2
  have b6 := i6.2
  have b11 := i11.2
  have b15 := jx.1
  have b23 := jx.2
  have b24 := i24.2
  obtain ⟨e, ez⟩ := zN_s i11 (by decide)
  have e1 : zN (upd x 11 (x 11 + 1) 11) = zN (x 11) + 1 := by rw [upd_at]; exact ez
  refine ⟨iv_addSeller hI ho hn, ⟨jx, je, jr, jk, ja, jv, ⟨js.1, js.2.1, fun c s hc h1 h2 => ?_⟩, jd, jq⟩, ⟨?_, aT_cg ta hA0 rfl rfl, ⟨fun s hs => ?_, fun s hs => ?_⟩, dT_cg td hA2 rfl rfl rfl rfl rfl rfl rfl rfl, qT_cg tq hA3 rfl rfl rfl rfl rfl⟩, h0⟩
  · rw [e1] at h1
    exact js.2.2 c s hc (by omega) h2
  · unfold gT
    rw [hA4]
    exact ⟨t0, e.symm, t2, t3, t4, t5, t6⟩
  · rw [e1] at hs
    rw [hA1]
    show upd (upd (A 1) (3 * zN (x 11)) o) (3 * zN (x 11) + 1) w (3 * s) = upd (a 12) (zN (x 11)) o s ∧ upd (upd (A 1) (3 * zN (x 11)) o) (3 * zN (x 11) + 1) w (3 * s + 1) = upd (a 13) (zN (x 11)) w s
    by_cases e2 : s = zN (x 11)
    · rw [e2, upd_at, upd_at, upd_at, upd_ne (by omega), upd_at]
      exact ⟨rfl, rfl⟩
    · rw [upd_ne (by omega), upd_ne (by omega), upd_ne e2, upd_ne e2, upd_ne (by omega), upd_ne (by omega)]
      exact tb.1 s (by omega)
  · rw [hA1]
    show upd (upd (A 1) (3 * zN (x 11)) o) (3 * zN (x 11) + 1) w (3 * s + 2) = a 14 s
    rw [upd_ne (by omega), upd_ne (by omega)]
    exact tb.2 s hs
theorem cntL_no {a : Nat → Nat → Int32} {q : Int32} : ∀ {n : Nat}, (∀ j, j < n → ¬ a 25 j = q) → cntL a q n = -1
  | 0, _ => rfl
  | n + 1, h => by
    rw [cntL, cntL_no (fun j hj => h j (by omega))]
    unfold cntC
    rw [decide_eq_false (h n (by omega)), Bool.false_and]
    rfl
theorem keep_chance {x : Nat → Int32} {a A A' : Nat → Nat → Int32} {K : Nat} (h : TI x a A K) {i j v : Nat} (hi : i < zN (x 1)) (hj : j < zN (x 11)) (hv : v ≤ 1000000) (hn : zN (x 15) < 16) (hA0 : A' 0 = A 0) (hA1 : A' 1 = A 1) (hA2 : A' 2 = upd (upd (upd (upd (A 2) (4 * zN (x 15)) (nI v)) (4 * zN (x 15) + 1) (nI i)) (4 * zN (x 15) + 2) (nI (zN (x 0)))) (4 * zN (x 15) + 3) (-1)) (hA3 : A' 3 = A 3) (hA4 : A' 4 = upd (A 4) 2 (nI (zN (x 15) + 1))) : TI (upd x 15 (x 15 + 1)) (ua (ua (ua (ua a 16 (upd (a 16) (zN (x 15)) (nI i))) 17 (upd (a 17) (zN (x 15)) (nI v))) 19 (upd (a 19) (zN (x 15)) (x 0))) 21 (upd (a 21) (8 * zN (x 15) + j) 100)) A' K := by
  obtain ⟨hI, ⟨jx, je, jr, jk, ja, jv, js, jd, jq⟩, ⟨⟨t0, t1, t2, t3, t4, t5, t6⟩, ta, tb, td, tq⟩, h0⟩ := h
  obtain ⟨i0, i1, i6, i11, i15, i23, i24, i29, iA, iS, iC, iQ, iP⟩ := id hI.1
  have b0 := i0.2
  have b1 := i1.2
  have b6 := i6.2
  have b11 := i11.2
  have b15 := jx.1
  have b23 := jx.2
  have b24 := i24.2
  obtain ⟨w1, w2, w3, -, -, -, -⟩ := hI.2
  obtain ⟨e, ez⟩ := zN_s i15 (by decide)
  have e1 : zN (upd x 15 (x 15 + 1) 15) = zN (x 15) + 1 := by rw [upd_at]; exact ez
  have hrow : ∀ c s, s < 8 → upd (a 21) (8 * zN (x 15) + j) 100 (8 * c + s) = if c = zN (x 15) then (if s = j then 100 else 0) else a 21 (8 * c + s) := by
    intro c s hs
    by_cases e2 : c = zN (x 15)
    · rw [if_pos e2, e2]
      by_cases e3 : s = j
      · rw [if_pos e3, e3, upd_at]
      · rw [if_neg e3, upd_ne (by omega), w2 _ (by omega)]
    · rw [if_neg e2, upd_ne (by omega)]
  refine ⟨iv_addChance hI hi (by omega) (by omega), ⟨⟨by rw [e1]; omega, jx.2⟩, je, jr, fun c hc h4 => ?_, ja, fun c hc => ?_, ⟨fun c s hc hs => ?_, fun c hc => ?_, fun c s hc h1 h2 => ?_⟩, ⟨fun c hc => ?_, fun c m hc hm => ?_⟩, jq⟩, ⟨?_, aT_cg ta hA0 rfl rfl, bT_cg tb hA1 rfl rfl rfl rfl, fun c hc => ?_, qT_cg tq hA3 rfl rfl rfl rfl rfl⟩, h0⟩
  · rw [e1] at hc
    by_cases e2 : c = zN (x 15)
    · exact absurd (show a 18 c < 4 by rw [w1 c (by omega)]; decide) h4
    · exact jk c (by omega) h4
  · rw [e1] at hc
    show ∃ u, u ≤ 1000000 ∧ upd (a 17) (zN (x 15)) (nI v) c = nI u
    by_cases e2 : c = zN (x 15)
    · rw [e2, upd_at]; exact ⟨v, hv, rfl⟩
    · rw [upd_ne e2]; exact jv c (by omega)
  · rw [e1] at hc
    show ∃ p, p ≤ 100 ∧ upd (a 21) (8 * zN (x 15) + j) 100 (8 * c + s) = nI p
    rw [hrow c s hs]
    by_cases e2 : c = zN (x 15)
    · rw [if_pos e2]
      by_cases e3 : s = j
      · rw [if_pos e3]; exact ⟨100, by omega, rfl⟩
      · rw [if_neg e3]; exact ⟨0, by omega, rfl⟩
    · rw [if_neg e2]; exact js.1 c s (by omega) hs
  · rw [e1] at hc
    show sumN (fun s => zN (upd (a 21) (8 * zN (x 15) + j) 100 (8 * c + s))) 8 = 100
    by_cases e2 : c = zN (x 15)
    · have h1 := sumN_u (f := fun _ => 0) (i := j) (v := 100) (n := 8) (by omega)
      rw [sumN_z (f := fun _ => 0) (fun _ _ => rfl)] at h1
      rw [sumN_cg (g := fun s => if s = j then 100 else 0) (fun s hs => ?_)]
      · omega
      · show zN (upd (a 21) (8 * zN (x 15) + j) 100 (8 * c + s)) = _
        rw [hrow c s hs, if_pos e2]
        by_cases e3 : s = j
        · rw [if_pos e3, if_pos e3]; rfl
        · rw [if_neg e3, if_neg e3]; rfl
    · rw [← js.2.1 c (by omega)]
      unfold shS
      refine sumN_cg (fun s hs => ?_)
      show zN (upd (a 21) (8 * zN (x 15) + j) 100 (8 * c + s)) = _
      rw [hrow c s hs, if_neg e2]
  · rw [e1] at hc
    show upd (a 21) (8 * zN (x 15) + j) 100 (8 * c + s) = 0
    rw [hrow c s h2]
    by_cases e2 : c = zN (x 15)
    · have h1 : zN (x 11) ≤ s := h1
      rw [if_pos e2, if_neg (by omega)]
    · rw [if_neg e2]; exact js.2.2 c s (by omega) h1 h2
  · rw [e1] at hc
    show ∃ t, t ≤ zN (x 0) ∧ upd (a 19) (zN (x 15)) (x 0) c = nI t
    by_cases e2 : c = zN (x 15)
    · rw [e2, upd_at]; exact ⟨_, Nat.le_refl _, i0.1⟩
    · rw [upd_ne e2]; exact jd.1 c (by omega)
  · rw [e1] at hc
    by_cases e2 : c = zN (x 15)
    · exact ⟨0, Nat.zero_le _, w3 _ (by omega)⟩
    · exact jd.2 c m (by omega) hm
  · unfold gT
    rw [hA4]
    exact ⟨t0, t1, e.symm, t3, t4, t5, t6⟩
  · rw [e1] at hc
    rw [hA2]
    suffices hh : upd (upd (upd (upd (A 2) (4 * zN (x 15)) (nI v)) (4 * zN (x 15) + 1) (nI i)) (4 * zN (x 15) + 2) (nI (zN (x 0)))) (4 * zN (x 15) + 3) (-1) (4 * c) = upd (a 17) (zN (x 15)) (nI v) c ∧ upd (upd (upd (upd (A 2) (4 * zN (x 15)) (nI v)) (4 * zN (x 15) + 1) (nI i)) (4 * zN (x 15) + 2) (nI (zN (x 0)))) (4 * zN (x 15) + 3) (-1) (4 * c + 1) = upd (a 16) (zN (x 15)) (nI i) c ∧ upd (upd (upd (upd (A 2) (4 * zN (x 15)) (nI v)) (4 * zN (x 15) + 1) (nI i)) (4 * zN (x 15) + 2) (nI (zN (x 0)))) (4 * zN (x 15) + 3) (-1) (4 * c + 3) = cnt x a (nI c) ∧ ∃ u, upd (upd (upd (upd (A 2) (4 * zN (x 15)) (nI v)) (4 * zN (x 15) + 1) (nI i)) (4 * zN (x 15) + 2) (nI (zN (x 0)))) (4 * zN (x 15) + 3) (-1) (4 * c + 2) = nI u ∧ u + dyS a c 6 = zN (upd (a 19) (zN (x 15)) (x 0) c) from ⟨hh.1, hh.2.1, hh.2.2.1.trans (cnt_r9 (by rfl) (by rfl) (by rfl) _), hh.2.2.2⟩
    by_cases e2 : c = zN (x 15)
    · subst e2
      refine ⟨?_, ?_, ?_, zN (x 0), ?_, ?_⟩
      · rw [upd_ne (by omega), upd_ne (by omega), upd_ne (by omega), upd_at, upd_at]
      · rw [upd_ne (by omega), upd_ne (by omega), upd_at, upd_at]
      · rw [upd_at]
        refine (cntL_no (fun q hq z => ?_)).symm
        obtain ⟨⟨c9, hc9, ec9⟩, -⟩ := iQ q hq
        have := (nI_eq (by omega) (by omega)).mp (ec9.symm.trans z)
        omega
      · rw [upd_ne (by omega), upd_at]
      · rw [upd_at]
        unfold dyS
        rw [sumN_z (fun m hm => by rw [w3 _ (by omega)]; rfl)]
        rfl
    · obtain ⟨p1, p2, p3, u, p4, p5⟩ := td c (by omega)
      refine ⟨?_, ?_, ?_, u, ?_, ?_⟩
      · rw [upd_ne (by omega), upd_ne (by omega), upd_ne (by omega), upd_ne (by omega), upd_ne e2]; exact p1
      · rw [upd_ne (by omega), upd_ne (by omega), upd_ne (by omega), upd_ne (by omega), upd_ne e2]; exact p2
      · rw [upd_ne (by omega), upd_ne (by omega), upd_ne (by omega), upd_ne (by omega)]; exact p3
      · rw [upd_ne (by omega), upd_ne (by omega), upd_ne (by omega), upd_ne (by omega)]; exact p4
      · rw [upd_ne e2]; exact p5
theorem keep_put {x : Nat → Int32} {a A A' : Nat → Nat → Int32} {K : Nat} (h : TI x a A K) {p w : Nat} {f u g : Int32} (hp : p ≤ zN (x 6)) (hw : w < 4) (hn : zN (x 6) < 8) (hA0 : A' 0 = A 0) (hA1 : A' 1 = A 1) (hA2 : A' 2 = A 2) (hA3 : A' 3 = A 3) (hA4 : A' 4 = upd (A 4) 4 (nI (zN (x 6) + 1))) : TI (upd x 6 (x 6 + 1)) (putR a p (zN (x 6)) f u g (nI w)) A' K := by
  obtain ⟨hI, ⟨jx, je, jr, jk, ja, jv, js, jd, jq⟩, ⟨⟨t0, t1, t2, t3, t4, t5, t6⟩, ta, tb, td, tq⟩, h0⟩ := h
  obtain ⟨i0, i1, i6, i11, i15, i23, i24, i29, iA, iS, iC, iQ, iP⟩ := id hI.1
  have b0 := i0.2
  have b1 := i1.2
  have b6 := i6.2
  have b11 := i11.2
  have b15 := jx.1
  have b23 := jx.2
  have b24 := i24.2
  obtain ⟨e, ez⟩ := zN_s i6 (by decide)
  have e1 : zN (upd x 6 (x 6 + 1) 6) = zN (x 6) + 1 := by rw [upd_at]; exact ez
  refine ⟨iv_putRule hI hn, ⟨jx, je, fun k hk => ?_, jk, ja, jv, js, jd, jq⟩, ⟨?_, aT_cg ta hA0 rfl rfl, bT_cg tb hA1 rfl rfl rfl rfl, dT_cg td hA2 rfl rfl rfl rfl rfl rfl rfl rfl, qT_cg tq hA3 rfl rfl rfl rfl rfl⟩, h0⟩
  · rw [e1] at hk
    show ∃ w9, w9 < 4 ∧ upd (insG p (zN (x 6)) (a 10)) p (nI w) k = nI w9
    by_cases e2 : k = p
    · rw [e2, upd_at]; exact ⟨w, hw, rfl⟩
    · rw [upd_ne e2]
      unfold insG
      by_cases e3 : p < k ∧ k ≤ zN (x 6)
      · rw [if_pos e3]; exact jr (k - 1) (by omega)
      · rw [if_neg e3]; exact jr k (by omega)
  · unfold gT
    rw [hA4]
    exact ⟨t0, t1, t2, t3, e.symm, t5, t6⟩
theorem keep_rem {x : Nat → Int32} {a A A' : Nat → Nat → Int32} {K : Nat} (h : TI x a A K) {p : Nat} (hp : p < zN (x 6)) (hA0 : A' 0 = A 0) (hA1 : A' 1 = A 1) (hA2 : A' 2 = A 2) (hA3 : A' 3 = A 3) (hA4 : A' 4 = upd (A 4) 4 (nI (zN (x 6) - 1))) : TI (upd x 6 (x 6 - 1)) (R4 a (delG p (zN (x 6) - 1))) A' K := by
  obtain ⟨hI, ⟨jx, je, jr, jk, ja, jv, js, jd, jq⟩, ⟨⟨t0, t1, t2, t3, t4, t5, t6⟩, ta, tb, td, tq⟩, h0⟩ := h
  obtain ⟨i0, i1, i6, i11, i15, i23, i24, i29, iA, iS, iC, iQ, iP⟩ := id hI.1
  have b0 := i0.2
  have b1 := i1.2
  have b6 := i6.2
  have b11 := i11.2
  have b15 := jx.1
  have b23 := jx.2
  have b24 := i24.2
  have e : x 6 - 1 = nI (zN (x 6) - 1) := by
    obtain ⟨m, em⟩ : ∃ m, zN (x 6) = m + 1 := ⟨zN (x 6) - 1, by omega⟩
    rw [em, i6.1, em]
    exact nI_pred m
  have e1 : zN (upd x 6 (x 6 - 1) 6) = zN (x 6) - 1 := by rw [upd_at, e]; exact zN_nI (by omega)
  refine ⟨iv_removeRule hI (by omega), ⟨jx, je, fun k hk => ?_, jk, ja, jv, js, jd, jq⟩, ⟨?_, aT_cg ta hA0 rfl rfl, bT_cg tb hA1 rfl rfl rfl rfl, dT_cg td hA2 rfl rfl rfl rfl rfl rfl rfl rfl, qT_cg tq hA3 rfl rfl rfl rfl rfl⟩, h0⟩
  · rw [e1] at hk
    show ∃ w9, w9 < 4 ∧ delG p (zN (x 6) - 1) (a 10) k = nI w9
    unfold delG
    by_cases e3 : p ≤ k ∧ k < zN (x 6) - 1
    · rw [if_pos e3]; exact jr (k + 1) (by omega)
    · rw [if_neg e3]; exact jr k (by omega)
  · unfold gT
    rw [hA4]
    exact ⟨t0, t1, t2, t3, e.symm, t5, t6⟩
theorem keep_except {x : Nat → Int32} {a A A' : Nat → Nat → Int32} {K : Nat} (h : TI x a A K) {i : Nat} {v : Int32} (hv : v = -1 ∨ ∃ w, w < 4 ∧ v = nI w) (hA0 : A' 0 = A 0) (hA1 : A' 1 = A 1) (hA2 : A' 2 = A 2) (hA3 : A' 3 = A 3) (hA4 : A' 4 = A 4) : TI x (ua a 5 (upd (a 5) i v)) A' K := by
  obtain ⟨hI, ⟨jx, je, jr, jk, ja, jv, js, jd, jq⟩, ⟨⟨t0, t1, t2, t3, t4, t5, t6⟩, ta, tb, td, tq⟩, h0⟩ := h
  obtain ⟨i0, i1, i6, i11, i15, i23, i24, i29, iA, iS, iC, iQ, iP⟩ := id hI.1
  have b0 := i0.2
  have b1 := i1.2
  have b6 := i6.2
  have b11 := i11.2
  have b15 := jx.1
  have b23 := jx.2
  have b24 := i24.2
  refine ⟨iv_except hI, ⟨jx, fun k hk => ?_, jr, jk, ja, jv, js, jd, jq⟩, ⟨?_, aT_cg ta hA0 rfl rfl, bT_cg tb hA1 rfl rfl rfl rfl, dT_cg td hA2 rfl rfl rfl rfl rfl rfl rfl rfl, qT_cg tq hA3 rfl rfl rfl rfl rfl⟩, h0⟩
  · show upd (a 5) i v k = -1 ∨ ∃ w, w < 4 ∧ upd (a 5) i v k = nI w
    by_cases e2 : k = i
    · rw [e2, upd_at]; exact hv
    · rw [upd_ne e2]; exact je k hk
  · unfold gT
    rw [hA4]
    exact ⟨t0, t1, t2, t3, t4, t5, t6⟩
theorem keep_adjust {x : Nat → Int32} {a A A' : Nat → Nat → Int32} {K : Nat} (h : TI x a A K) {i m : Nat} (hi : i < zN (x 11)) (hm : m ≤ 2000) (hA0 : A' 0 = A 0) (hA1 : A' 1 = upd (A 1) (3 * i + 2) (nI m - 1000)) (hA2 : A' 2 = A 2) (hA3 : A' 3 = A 3) (hA4 : A' 4 = A 4) : TI x (ua a 14 (upd (a 14) i (nI m - 1000))) A' K := by
  obtain ⟨hI, ⟨jx, je, jr, jk, ja, jv, js, jd, jq⟩, ⟨⟨t0, t1, t2, t3, t4, t5, t6⟩, ta, tb, td, tq⟩, h0⟩ := h
  obtain ⟨i0, i1, i6, i11, i15, i23, i24, i29, iA, iS, iC, iQ, iP⟩ := id hI.1
  have b0 := i0.2
  have b1 := i1.2
  have b6 := i6.2
  have b11 := i11.2
  have b15 := jx.1
  have b23 := jx.2
  have b24 := i24.2
  refine ⟨iv_adjust hI hi, ⟨jx, je, jr, jk, fun s => ?_, jv, js, jd, jq⟩, ⟨?_, aT_cg ta hA0 rfl rfl, ⟨fun s hs => ?_, fun s hs => ?_⟩, dT_cg td hA2 rfl rfl rfl rfl rfl rfl rfl rfl, qT_cg tq hA3 rfl rfl rfl rfl rfl⟩, h0⟩
  · show ∃ m9, m9 ≤ 2000 ∧ upd (a 14) i (nI m - 1000) s = nI m9 - 1000
    by_cases e2 : s = i
    · rw [e2, upd_at]; exact ⟨m, hm, rfl⟩
    · rw [upd_ne e2]; exact ja s
  · unfold gT
    rw [hA4]
    exact ⟨t0, t1, t2, t3, t4, t5, t6⟩
  · rw [hA1, upd_ne (by omega), upd_ne (by omega)]
    exact tb.1 s hs
  · rw [hA1]
    show upd (A 1) (3 * i + 2) (nI m - 1000) (3 * s + 2) = upd (a 14) i (nI m - 1000) s
    by_cases e2 : s = i
    · rw [e2, upd_at, upd_at]
    · rw [upd_ne e2, upd_ne (by omega)]; exact tb.2 s hs
/-- the shares after pp have gone from j to t -/
def shA (a : Nat → Nat → Int32) (c j t : Nat) (w : Int32) : Nat → Nat → Int32 := ua (ua a 21 (upd (a 21) (8 * c + j) (a 21 (8 * c + j) - w))) 21 (upd (upd (a 21) (8 * c + j) (a 21 (8 * c + j) - w)) (8 * c + t) ((upd (a 21) (8 * c + j) (a 21 (8 * c + j) - w)) (8 * c + t) + w))
theorem shA_at {a : Nat → Nat → Int32} {c j t : Nat} {w : Int32} (hjt : j ≠ t) (k : Nat) : shA a c j t w 21 k = if k = 8 * c + t then a 21 k + w else if k = 8 * c + j then a 21 k - w else a 21 k := by
  show upd (upd (a 21) (8 * c + j) (a 21 (8 * c + j) - w)) (8 * c + t) ((upd (a 21) (8 * c + j) (a 21 (8 * c + j) - w)) (8 * c + t) + w) k = _
  by_cases e1 : k = 8 * c + t
  · rw [if_pos e1, e1, upd_at, upd_ne (by omega)]
  · rw [if_neg e1, upd_ne e1]
    by_cases e2 : k = 8 * c + j
    · rw [if_pos e2, e2, upd_at]
    · rw [if_neg e2, upd_ne e2]
theorem sh_le {x : Nat → Int32} {a : Nat → Nat → Int32} (hS : jS x a) {c j t : Nat} (hc : c < zN (x 15)) (hj : j < 8) (ht : t < 8) (hjt : j ≠ t) : shN a c j + shN a c t ≤ 100 := by
  rw [← hS.2.1 c hc]
  have h1 := sumN_u (f := fun s => zN (a 21 (8 * c + s))) (i := j) (v := 0) (n := 8) hj
  have h2 := sumN_u (f := fun s => if s = j then 0 else zN (a 21 (8 * c + s))) (i := t) (v := 0) (n := 8) ht
  rw [if_neg (fun z => hjt z.symm)] at h2
  unfold shS shN
  omega
theorem keep_share {x : Nat → Int32} {a A A' : Nat → Nat → Int32} {K : Nat} (h : TI x a A K) {c j t p : Nat} (hc : c < zN (x 15)) (hj : j < zN (x 11)) (ht : t < zN (x 11)) (hjt : j ≠ t) (hp : p ≤ shN a c j) (hA0 : A' 0 = A 0) (hA1 : A' 1 = A 1) (hA2 : A' 2 = A 2) (hA3 : A' 3 = A 3) (hA4 : A' 4 = A 4) : TI x (shA a c j t (nI p)) A' K := by
  obtain ⟨hI, ⟨jx, je, jr, jk, ja, jv, js, jd, jq⟩, ⟨⟨t0, t1, t2, t3, t4, t5, t6⟩, ta, tb, td, tq⟩, h0⟩ := h
  obtain ⟨i0, i1, i6, i11, i15, i23, i24, i29, iA, iS, iC, iQ, iP⟩ := id hI.1
  have b0 := i0.2
  have b1 := i1.2
  have b6 := i6.2
  have b11 := i11.2
  have b15 := jx.1
  have b23 := jx.2
  have b24 := i24.2
  have hsum := sh_le js hc (show j < 8 by omega) (show t < 8 by omega) hjt
  have hat : ∀ c9 s, c9 < zN (x 15) → s < 8 → shA a c j t (nI p) 21 (8 * c9 + s) = nI (if c9 = c ∧ s = t then shN a c t + p else if c9 = c ∧ s = j then shN a c j - p else shN a c9 s) := by
    intro c9 s hc9 hs
    have hev : a 21 (8 * c9 + s) = nI (shN a c9 s) := by
      obtain ⟨u, hu, eu⟩ := js.1 c9 s hc9 hs
      unfold shN
      rw [eu, zN_nI (by omega)]
    rw [shA_at hjt]
    by_cases e1 : c9 = c ∧ s = t
    · rw [if_pos (by omega), if_pos e1, hev, nI_add, e1.1, e1.2]
    · rw [if_neg (by omega), if_neg e1]
      by_cases e2 : c9 = c ∧ s = j
      · rw [if_pos (by omega), if_pos e2, hev, e2.1, e2.2, pk_sub hp]
      · rw [if_neg (by omega), if_neg e2, hev]
  refine ⟨iv_giveShare hI hc (by omega) (by omega), ⟨jx, je, jr, jk, ja, jv, ⟨fun c9 s hc9 hs => ?_, fun c9 hc9 => ?_, fun c9 s hc9 h1 h2 => ?_⟩, jd, jq⟩, ⟨?_, aT_cg ta hA0 rfl rfl, bT_cg tb hA1 rfl rfl rfl rfl, dT_cg td hA2 rfl rfl rfl rfl rfl rfl rfl rfl, qT_cg tq hA3 rfl rfl rfl rfl rfl⟩, h0⟩
  · rw [hat c9 s hc9 hs]
    refine ⟨_, ?_, rfl⟩
    obtain ⟨u, hu, eu⟩ := js.1 c9 s hc9 hs
    have : shN a c9 s = u := by unfold shN; rw [eu, zN_nI (by omega)]
    split
    · omega
    · split <;> omega
  · have hz : ∀ s, s < 8 → zN (shA a c j t (nI p) 21 (8 * c9 + s)) = if c9 = c ∧ s = t then shN a c t + p else if c9 = c ∧ s = j then shN a c j - p else shN a c9 s := by
      intro s hs
      rw [hat c9 s hc9 hs]
      refine zN_nI ?_
      obtain ⟨u, hu, eu⟩ := js.1 c9 s hc9 hs
      have : shN a c9 s = u := by unfold shN; rw [eu, zN_nI (by omega)]
      split
      · omega
      · split <;> omega
    show sumN (fun s => zN (shA a c j t (nI p) 21 (8 * c9 + s))) 8 = 100
    rw [sumN_cg hz]
    have h0 := js.2.1 c9 hc9
    have h0 : sumN (shN a c9) 8 = 100 := h0
    by_cases e1 : c9 = c
    · subst e1
      have h1 := sumN_u (f := shN a c9) (i := j) (v := shN a c9 j - p) (n := 8) (by omega)
      have h2 := sumN_u (f := fun s => if s = j then shN a c9 j - p else shN a c9 s) (i := t) (v := shN a c9 t + p) (n := 8) (by omega)
      rw [if_neg (fun z => hjt z.symm)] at h2
      rw [sumN_cg (g := fun s => if s = t then shN a c9 t + p else (if s = j then shN a c9 j - p else shN a c9 s)) (fun s _ => ?_)]
      · omega
      · by_cases e2 : s = t
        · rw [if_pos ⟨rfl, e2⟩, if_pos e2]
        · rw [if_neg (fun z => e2 z.2), if_neg e2]
          by_cases e3 : s = j
          · rw [if_pos ⟨rfl, e3⟩, if_pos e3]
          · rw [if_neg (fun z => e3 z.2), if_neg e3]
    · rw [← h0]
      refine sumN_cg (fun s _ => ?_)
      rw [if_neg (fun z => e1 z.1), if_neg (fun z => e1 z.1)]
  · rw [shA_at hjt, if_neg (by omega), if_neg (by omega)]
    exact js.2.2 c9 s hc9 h1 h2
  · unfold gT
    rw [hA4]
    exact ⟨t0, t1, t2, t3, t4, t5, t6⟩
def mvA (x : Nat → Int32) (a : Nat → Nat → Int32) (c nx : Nat) : Nat → Nat → Int32 := ua (ua (ua (ua a 22 (upd (a 22) (6 * c + stN a c) (a 22 (6 * c + stN a c) + (x 0 - a 19 c)))) 18 (upd (a 18) c (nI nx))) 19 (upd (a 19) c (x 0))) 20 (upd (a 20) c (regS x a (zN (a 16 c))))
theorem keep_move {x : Nat → Int32} {a A A' : Nat → Nat → Int32} {K : Nat} (h : TI x a A K) {c nx : Nat} (hc : c < zN (x 15)) (hn : nx ≤ 5) (hA0 : A' 0 = A 0) (hA1 : A' 1 = A 1) (hA2 : A' 2 = A 2) (hA3 : A' 3 = A 3) (hA4 : A' 4 = A 4) : TI x (mvA x a c nx) A' K := by
  have hJ := h.2.1
  obtain ⟨hI, ⟨jx, je, jr, jk, ja, jv, js, jd, jq⟩, ⟨⟨t0, t1, t2, t3, t4, t5, t6⟩, ta, tb, td, tq⟩, h0⟩ := h
  obtain ⟨i0, i1, i6, i11, i15, i23, i24, i29, iA, iS, iC, iQ, iP⟩ := id hI.1
  have b0 := i0.2
  have b1 := i1.2
  have b6 := i6.2
  have b11 := i11.2
  have b15 := jx.1
  have b23 := jx.2
  have b24 := i24.2
  obtain ⟨hs5, es⟩ := st_N hI hc
  obtain ⟨⟨i9, hi9, ei9⟩, -⟩ := iC c hc
  obtain ⟨t9, ht9, et9⟩ := jd.1 c hc
  have hday : ∀ m, m < 6 → ∃ u, u ≤ zN (x 0) ∧ a 22 (6 * c + m) = nI u := fun m hm => jd.2 c m hc hm
  have hev : a 22 (6 * c + stN a c) = nI (zN (a 22 (6 * c + stN a c))) := by
    obtain ⟨u, hu, eu⟩ := hday (stN a c) (by omega)
    rw [eu, zN_nI (by omega)]
  have hnew : a 22 (6 * c + stN a c) + (x 0 - a 19 c) = nI (zN (a 22 (6 * c + stN a c)) + (zN (x 0) - t9)) := by
    rw [et9, show x 0 - nI t9 = nI (zN (x 0) - t9) by rw [← pk_sub ht9, ← i0.1], ← nI_add, ← hev]
  obtain ⟨p1, p2, p3, u0, p4, p5⟩ := td c hc
  have hz9 : zN (a 19 c) = t9 := by rw [et9, zN_nI (by omega)]
  rw [hz9] at p5
  have hle : zN (a 22 (6 * c + stN a c)) ≤ dyS a c 6 := by
    have := sumN_u (f := fun m => zN (a 22 (6 * c + m))) (i := stN a c) (v := 0) (n := 6) (by omega)
    unfold dyS
    omega
  refine ⟨iv_move hI hc hn (by omega), ⟨jx, je, jr, fun c9 hc9 h4 => ?_, ja, jv, js, ⟨fun c9 hc9 => ?_, fun c9 m hc9 hm => ?_⟩, jq⟩, ⟨?_, aT_cg ta hA0 rfl rfl, bT_cg tb hA1 rfl rfl rfl rfl, fun c9 hc9 => ?_, qT_cg tq hA3 rfl rfl rfl rfl rfl⟩, h0⟩
  · show ∃ w, w < 4 ∧ upd (a 20) c (regS x a (zN (a 16 c))) c9 = nI w
    have h4 : ¬ upd (a 18) c (nI nx) c9 < 4 := h4
    by_cases e2 : c9 = c
    · rw [e2, upd_at, ei9, zN_nI (by omega)]
      exact regS_4 hI hJ hi9
    · rw [upd_ne e2] at h4 ⊢
      exact jk c9 hc9 h4
  · show ∃ t, t ≤ zN (x 0) ∧ upd (a 19) c (x 0) c9 = nI t
    by_cases e2 : c9 = c
    · rw [e2, upd_at]; exact ⟨_, Nat.le_refl _, i0.1⟩
    · rw [upd_ne e2]; exact jd.1 c9 hc9
  · show ∃ t, t ≤ zN (x 0) ∧ upd (a 22) (6 * c + stN a c) (a 22 (6 * c + stN a c) + (x 0 - a 19 c)) (6 * c9 + m) = nI t
    by_cases e2 : 6 * c9 + m = 6 * c + stN a c
    · rw [e2, upd_at, hnew]
      exact ⟨_, by omega, rfl⟩
    · rw [upd_ne e2]; exact jd.2 c9 m hc9 hm
  · unfold gT
    rw [hA4]
    exact ⟨t0, t1, t2, t3, t4, t5, t6⟩
  · obtain ⟨r1, r2, r3, u, r4, r5⟩ := td c9 hc9
    rw [hA2]
    by_cases e2 : c9 = c
    · subst e2
      refine ⟨r1, r2, r3.trans (cnt_r9 (by rfl) (by rfl) (by rfl) _), u0, p4, ?_⟩
      show u0 + sumN (fun m => zN (upd (a 22) (6 * c9 + stN a c9) (a 22 (6 * c9 + stN a c9) + (x 0 - a 19 c9)) (6 * c9 + m))) 6 = zN (upd (a 19) c9 (x 0) c9)
      rw [upd_at, hnew]
      have h1 := sumN_u (f := fun m => zN (a 22 (6 * c9 + m))) (i := stN a c9) (v := zN (a 22 (6 * c9 + stN a c9)) + (zN (x 0) - t9)) (n := 6) (by omega)
      rw [sumN_cg (g := fun m => if m = stN a c9 then zN (a 22 (6 * c9 + stN a c9)) + (zN (x 0) - t9) else zN (a 22 (6 * c9 + m))) (fun m _ => ?_)]
      · unfold dyS at p5 hle
        omega
      · by_cases e3 : m = stN a c9
        · rw [if_pos e3, e3, upd_at, zN_nI (by omega)]
        · rw [if_neg e3, upd_ne (by omega)]
    · refine ⟨r1, r2, r3.trans (cnt_r9 (by rfl) (by rfl) (by rfl) _), u, r4, ?_⟩
      show u + sumN (fun m => zN (upd (a 22) (6 * c + stN a c) (a 22 (6 * c + stN a c) + (x 0 - a 19 c)) (6 * c9 + m))) 6 = zN (upd (a 19) c (x 0) c9)
      rw [upd_ne e2, ← r5]
      unfold dyS
      congr 1
      refine sumN_cg (fun m hm => ?_)
      rw [upd_ne (by omega)]
