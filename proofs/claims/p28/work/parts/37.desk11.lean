/-! the desk: approvals, shares, moves: what they do to the state -/
theorem cntL_r2 (a : Nat → Nat → Int32) (q : Int32) : ∀ k, cntL a q k = -1 ∨ ∃ j, j < k ∧ cntL a q k = nI j ∧ a 25 j = q
  | 0 => Or.inl rfl
  | k + 1 => by
    rw [cntL]
    cases h : cntC a q k (cntL a q k) with
    | true =>
      refine Or.inr ⟨k, by omega, rfl, ?_⟩
      simp only [cntC, Bool.and_eq_true, decide_eq_true_eq] at h
      exact h.1
    | false =>
      rcases cntL_r2 a q k with h | ⟨j, hj, h, h'⟩
      · exact Or.inl h
      · exact Or.inr ⟨j, by omega, h, h'⟩
theorem ua25 {a : Nat → Nat → Int32} {F : Nat → Int32} : ua a 28 F 25 = a 25 := rfl
theorem ua28 {a : Nat → Nat → Int32} {F : Nat → Int32} : ua a 28 F 28 = F := rfl
/-- another chance's quote is approved -/
theorem cntL_oth {a : Nat → Nat → Int32} {q : Nat} {c v : Int32} (hq : q < 1000) (h : ¬ a 25 q = c) : ∀ k, k < 1000 → cntL (ua a 28 (upd (a 28) q v)) c k = cntL a c k := by
  intro k
  induction k with
  | zero => intro _; rfl
  | succ k ih =>
    intro hk
    have e1 := ih (by omega)
    have e2 : cntC (ua a 28 (upd (a 28) q v)) c k (cntL (ua a 28 (upd (a 28) q v)) c k) = cntC a c k (cntL a c k) := by
      rw [e1]
      unfold cntC
      rw [ua25, ua28]
      by_cases hk2 : k = q
      · subst hk2
        rw [decide_eq_false h, Bool.false_and, Bool.false_and]
      · rw [upd_ne hk2]
        rcases cntL_r2 a c k with hr | ⟨j, hj, hr, hc⟩
        · rw [decide_eq_true hr]
          simp only [Bool.true_or]
        · rw [hr, zN_nI (by omega), upd_ne (f := a 28) (i := q) (j := j) (fun z => h (by rw [← z]; exact hc))]
    rw [cntL, cntL, e2, e1]
/-- its own quote is approved, as the last one so far -/
theorem cntL_own {a : Nat → Nat → Int32} {q m : Nat} {c v : Int32} (hq : q < 1000) (h : a 25 q = c) (hv : v = nI (m + 1)) (hm : m < 1000) (n : Nat) (hn : n < 1000) (hb : ∀ k, k < n → ∃ s, s ≤ m ∧ a 28 k = nI s) (hqn : q < n) : ∀ k, k ≤ n → cntL (ua a 28 (upd (a 28) q v)) c k = if k ≤ q then cntL a c k else nI q := by
  intro k
  induction k with
  | zero => intro _; rfl
  | succ k ih =>
    intro hk
    have e1 := ih (by omega)
    rw [cntL, e1]
    by_cases h1 : k < q
    · rw [if_pos (by omega), if_pos (by omega), cntL]
      have e2 : cntC (ua a 28 (upd (a 28) q v)) c k (cntL a c k) = cntC a c k (cntL a c k) := by
        unfold cntC
        rw [ua25, ua28, upd_ne (by omega)]
        rcases cntL_r2 a c k with hr | ⟨j, hj, hr, hc⟩
        · rw [decide_eq_true hr]
          simp only [Bool.true_or]
        · rw [hr, zN_nI (by omega), upd_ne (f := a 28) (i := q) (j := j) (by omega)]
      rw [e2]
    · by_cases h2 : k = q
      · subst h2
        rw [if_pos (Nat.le_refl _), if_neg (by omega)]
        have e2 : cntC (ua a 28 (upd (a 28) k v)) c k (cntL a c k) = true := by
          unfold cntC
          rw [ua25, ua28, upd_at, decide_eq_true h, hv, decide_eq_true (show (0 : Int32) < nI (m + 1) from (nI_lt (a := 0) (by omega) (by omega)))]
          rcases cntL_r2 a c k with hr | ⟨j, hj, hr, hc⟩
          · rw [decide_eq_true hr]
            simp only [Bool.true_or, Bool.true_and]
          · obtain ⟨s, hs, es⟩ := hb j (by omega)
            rw [hr, zN_nI (by omega), upd_ne (f := a 28) (i := k) (j := j) (by omega), es, decide_eq_true (nI_lt (show s < m + 1 by omega) (by omega))]
            simp only [Bool.or_true, Bool.true_and]
        rw [e2]
        simp only [cond_true, cond_false]
      · rw [if_neg (by omega), if_neg (by omega)]
        obtain ⟨s, hs, es⟩ := hb k (by omega)
        have e2 : cntC (ua a 28 (upd (a 28) q v)) c k (nI q) = false := by
          unfold cntC
          rw [ua25, ua28, upd_ne h2, zN_nI (by omega), upd_at, hv, es, decide_eq_false (nI_nm1 (by omega)), decide_eq_false (nI_nlt (by omega) (by omega))]
          simp only [Bool.or_false, Bool.false_or, Bool.and_false]
        rw [e2]
        simp only [cond_true, cond_false]
theorem cnt_app {x : Nat → Int32} {a : Nat → Nat → Int32} {q c : Nat} (hI : zInv x a) (hq : q < zN (x 23)) (hc : c < 1000) : cnt (upd x 24 (x 24 + 1)) (ua a 28 (upd (a 28) q (x 24 + 1))) (nI c) = if a 25 q = nI c then nI q else cnt x a (nI c) := by
  obtain ⟨i0, i1, i6, i11, i15, i23, i24, i29, iA, iS, iC, iQ, iP⟩ := hI
  have b23 := i23.2
  have b24 := i24.2
  show cntL _ _ (zN (x 23)) = _
  by_cases h : a 25 q = nI c
  · rw [if_pos h, cntL_own (by omega) h (zN_s i24 (by decide)).1 (by omega) (zN (x 23)) (by omega) (fun k hk => (iQ k hk).2.2) hq _ (Nat.le_refl _), if_neg (by omega)]
  · rw [if_neg h]
    exact cntL_oth (by omega) h _ (by omega)
theorem DQ.app {n q : Nat} {b25 b26 b27 b28 : Nat → Int32} {v : Int32} {σ σ1 : zHp} (h : DQ n b25 b26 b27 b28 σ) (hv : ¬ v = 0) (hc : σ1 9 q = some (oC 6 [aI (nI q), aR 6 (zN (b25 q)), aR 5 (zN (b26 q)), aI (b27 q), aI 1])) (hg : ∀ k i, ((k = 1 ∧ i = 4) ∨ k = 24 ∨ k = 90 ∨ (k = 9 ∧ i ≠ q)) → σ1 k i = σ k i) (hq : q < n) : DQ n b25 b26 b27 (upd b28 q v) σ1 := by
  refine ⟨h.1.ag (fun k i z => hg k i (by omega)), fun j hj => ?_, fun j hj => by rw [hg 9 j (by omega)]; exact h.2.2 j hj⟩
  by_cases e : j = q
  · subst e; rw [hc, upd_at, decide_eq_false hv]; rfl
  · rw [hg 9 j (by omega), h.2.1 j hj, upd_ne e]
theorem DC.app {n i : Nat} {b16 b17 b18 b19 b20 b21 b22 ct ct' : Nat → Int32} {σ σ1 : zHp} (h : DC n b16 b17 b18 b19 b20 b21 b22 ct σ) (hc : σ1 6 i = some (oC 4 (chF b16 b17 b18 b19 b20 ct' i))) (hg : ∀ k i', ((k = 1 ∧ i' = 3) ∨ k = 23 ∨ k = 90 ∨ (k = 6 ∧ i' ≠ i) ∨ k = 30 ∨ k = 31) → σ1 k i' = σ k i') (hct : ∀ c, c < n → c ≠ i → ct' c = ct c) (hi : i < n) : DC n b16 b17 b18 b19 b20 b21 b22 ct' σ1 := by
  obtain ⟨h1, h2, h3, h4, h5⟩ := h
  refine ⟨h1.ag (fun k i z => hg k i (by omega)), fun j hj => ?_, fun j hj => by rw [hg 30 j (by omega)]; exact h3 j hj, fun j hj => by rw [hg 31 j (by omega)]; exact h4 j hj, fun j hj => by rw [hg 6 j (by omega), hg 30 j (by omega), hg 31 j (by omega)]; exact h5 j hj⟩
  by_cases e : j = i
  · subst e; exact hc
  · rw [hg 6 j (by omega), h2 j hj]
    unfold chF
    rw [hct j hj e]
/-- a quote is approved -/
theorem DK.app {x : Nat → Int32} {a : Nat → Nat → Int32} {σ : zHp} {q c : Nat} (hD : DK x a σ) (hI : zInv x a) (hq : q < zN (x 23)) (hc : c < zN (x 15)) (ec : a 25 q = nI c) : DK (upd x 24 (x 24 + 1)) (ua a 28 (upd (a 28) q (x 24 + 1))) (zput (zput σ 9 q (oC 6 [aI (nI q), aR 6 c, aR 5 (zN (a 26 q)), aI (a 27 q), aI 1])) 6 c (oC 4 [aR 3 (zN (a 16 c)), aI (a 17 c), aR 30 c, aR 31 c, aI (a 18 c), aI (a 19 c), aI (if a 18 c < 4 then -1 else a 20 c), aR 9 q])) := by
  have ca := fun (c9 : Nat) (h9 : c9 < 1000) => cnt_app (q := q) hI hq h9
  obtain ⟨i0, i1, i6, i11, i15, i23, i24, i29, iA, iS, iC, iQ, iP⟩ := id hI
  have b23 := i23.2
  have b24 := i24.2
  have b15 := i15.2
  have zc : zN (a 25 q) = c := by rw [ec, zN_nI (by omega)]
  have hv : ¬ x 24 + 1 = 0 := by rw [(zN_s i24 (by decide)).1]; exact nI_ne0 (by omega) (by omega)
  obtain ⟨⟨d0, dA, dR, dS, dC, dQ⟩, dF⟩ := hD
  have fr : ∀ k i, ¬ (k = 9 ∧ i = q) → ¬ (k = 6 ∧ i = c) → zput (zput σ 9 q (oC 6 [aI (nI q), aR 6 c, aR 5 (zN (a 26 q)), aI (a 27 q), aI 1])) 6 c (oC 4 [aR 3 (zN (a 16 c)), aI (a 17 c), aR 30 c, aR 31 c, aI (a 18 c), aI (a 19 c), aI (if a 18 c < 4 then -1 else a 20 c), aR 9 q]) k i = σ k i := fun k i z z' => by rw [zput_n z', zput_n z]
  refine ⟨⟨(fr 0 0 (by omega) (by omega)).trans d0, dA.ag (fun k i z => fr k i (by omega) (by omega)), dR.ag (fun k i z => fr k i (by omega) (by omega)), dS.ag (fun k i z => fr k i (by omega) (by omega)), ?_, ?_⟩, dF.ag (fun k i z => fr k i (by omega) (by omega))⟩
  · refine dC.app (i := c) ?_ (fun k i z => fr k i (by omega) (by omega)) (fun c9 h9 hne => ?_) hc
    · rw [zput_s]
      unfold chF
      have e9 : cnt (upd x 24 (x 24 + 1)) (ua a 28 (upd (a 28) q (x 24 + 1))) (nI c) = nI q := by rw [ca c (by omega), if_pos ec]
      show _ = some (oC 4 [_, _, _, _, _, _, _, aO (oR 9 (cnt (upd x 24 (x 24 + 1)) (ua a 28 (upd (a 28) q (x 24 + 1))) (nI c)))])
      rw [e9, oR_s (by omega)]
      rfl
    · show cnt _ _ _ = cnt x a (nI c9)
      rw [ca c9 (by omega), if_neg (by rw [ec]; exact fun z => hne ((nI_eq (by omega) (by omega)).mp z).symm)]
  · refine dQ.app hv ?_ (fun k i z => fr k i (by omega) (by omega)) hq
    rw [zput_n (by omega), zput_s, zc]
theorem sh_u {f F : Nat → Int32} {i j w : Nat} {u v : Int32} (h : ∀ s, s < w → f s = F (w * i + s)) (huv : u = v) : ∀ s, s < w → upd f j u s = upd F (w * i + j) v (w * i + s) := by
  intro s hs
  subst huv
  by_cases e : s = j
  · subst e; rw [upd_at, upd_at]
  · rw [upd_ne e, upd_ne (by omega), h s hs]
theorem DC.u21 {n i : Nat} {b16 b17 b18 b19 b20 b21 b22 ct ct' : Nat → Int32} {f F : Nat → Int32} {σ σ1 : zHp} (h : DC n b16 b17 b18 b19 b20 b21 b22 ct σ) (hs : σ1 30 i = some (iC 8 f)) (hf : ∀ s, s < 8 → f s = F (8 * i + s)) (hF : ∀ t, (t < 8 * i ∨ 8 * i + 8 ≤ t) → F t = b21 t) (hg : ∀ k i', ¬ (k = 30 ∧ i' = i) → σ1 k i' = σ k i') (hi : i < n) (hct : ∀ c, c < n → ct' c = ct c) : DC n b16 b17 b18 b19 b20 F b22 ct' σ1 := by
  obtain ⟨h1, h2, h3, h4, h5⟩ := h
  refine ⟨h1.ag (fun k i z => hg k i (by omega)), fun j hj => ?_, fun j hj => ?_, fun j hj => by rw [hg 31 j (by omega)]; exact h4 j hj, fun j hj => by rw [hg 6 j (by omega), hg 30 j (by omega), hg 31 j (by omega)]; exact h5 j hj⟩
  · rw [hg 6 j (by omega), h2 j hj]
    unfold chF
    rw [hct j hj]
  · by_cases e : j = i
    · subst e; exact ⟨f, hs, hf⟩
    · rw [hg 30 j (by omega)]
      obtain ⟨g, g1, g2⟩ := h3 j hj
      exact ⟨g, g1, fun s hs => by rw [g2 s hs, hF _ (by omega)]⟩
theorem DC.mv {n i ts : Nat} {b16 b17 b18 b19 b20 b21 b22 ct ct' : Nat → Int32} {u t0 g d : Int32} {f : Nat → Int32} {σ σ1 : zHp} (h : DC n b16 b17 b18 b19 b20 b21 b22 ct σ) (hi : i < n) (hf : ∀ t, t < 6 → f t = b22 (6 * i + t)) (hts : ts < 6) (hc : σ1 6 i = some (oC 4 [aR 3 (zN (b16 i)), aI (b17 i), aR 30 i, aR 31 i, aI u, aI t0, aI (if u < 4 then -1 else g), aO (oR 9 (ct i))])) (hd : σ1 31 i = some (iC 6 (upd f ts (f ts + d)))) (hg : ∀ k i', ¬ (k = 6 ∧ i' = i) → ¬ (k = 31 ∧ i' = i) → σ1 k i' = σ k i') (hct : ∀ c, c < n → ct' c = ct c) : DC n b16 b17 (upd b18 i u) (upd b19 i t0) (upd b20 i g) b21 (upd b22 (6 * i + ts) (b22 (6 * i + ts) + d)) ct' σ1 := by
  obtain ⟨h1, h2, h3, h4, h5⟩ := h
  refine ⟨h1.ag (fun k i z => hg k i (by omega) (by omega)), fun j hj => ?_, fun j hj => by rw [hg 30 j (by omega) (by omega)]; exact h3 j hj, fun j hj => ?_, fun j hj => by rw [hg 6 j (by omega) (by omega), hg 30 j (by omega) (by omega), hg 31 j (by omega) (by omega)]; exact h5 j hj⟩
  · by_cases e : j = i
    · subst e
      rw [hc]
      unfold chF
      rw [upd_at, upd_at, upd_at, hct j hj]
    · rw [hg 6 j (by omega) (by omega), h2 j hj]
      unfold chF
      rw [upd_ne e, upd_ne e, upd_ne e, hct j hj]
  · by_cases e : j = i
    · subst e
      exact ⟨_, hd, sh_u (w := 6) hf (by rw [hf ts hts])⟩
    · rw [hg 31 j (by omega) (by omega)]
      obtain ⟨f9, g1, g2⟩ := h4 j hj
      exact ⟨f9, g1, fun t ht => by rw [g2 t ht, upd_ne (by omega)]⟩
set_option maxRecDepth 100000 in
set_option maxHeartbeats 4000000 in
theorem c_X6_isOpenF {X : zX} (l : Launch) {σ : zHp} {i : Nat} {v : Int32} {g0 g1 g2 g3 g5 g6 g7 : zV} (hσ : σ 6 i = some (oC 4 [g0, g1, g2, g3, aI v, g5, g6, g7])) : zM X l yX6_isOpen cX6_isOpen 1 (some .boolean) 0 0 0 [aR 6 i] σ (zPi (fun r σ1 => r = zb (decide (v < 4)) ∧ σ1 = σ)) zNx := by
  refine zM.of (by decide +kernel) (Nat.le_of_ble_eq_true rfl) (by simp [zcat, Value.category]) ?_
  intro p e s m args below meth c loc0 C hr hnm hT
  refine z_aload_n (i := 0) C dX6_isOpen_0 rfl rfl ?_
  refine z_getf C f_RX6_157 dX6_isOpen_1 hσ rfl ?_
  refine z_iconst (v := 4) C dX6_isOpen_4 (by decide) ?_
  refine z_icmp_ge (tgt := 12) C dX6_isOpen_5 (by decide) (fun h5 => ?_) (fun h5 => ?_)
  · refine z_iconst (v := 0) C dX6_isOpen_12 (by decide) ?_
    exact z_iret C hr rfl dX6_isOpen_13 (Nat.le_of_ble_eq_true rfl) (Nat.le_of_ble_eq_true rfl) ⟨_, rfl, zbf (decide_eq_false (Int32.not_lt.mpr h5)), rfl⟩
  · refine z_iconst (v := 1) C dX6_isOpen_8 (by decide) ?_
    refine z_goto (tgt := 13) C dX6_isOpen_9 (by decide) ?_
    exact z_iret C hr rfl dX6_isOpen_13 (Nat.le_of_ble_eq_true rfl) (Nat.le_of_ble_eq_true rfl) ⟨_, rfl, zbt (decide_eq_true (Int32.not_le.mp h5)), rfl⟩

