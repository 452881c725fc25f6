/-! words and small laws that the class rests on (out of the whole claim's rows) -/
section W1
variable {X : zX} {p : Program} {l : Launch} {e : Env} {s : State} {m : MethodId} {args : Array Value} {below : List Frame} {meth : Method} {c : Code} {nL : Nat} {σ0 σ : zHp} {loc0 : zK → Nat} {Q : State → Prop} {mc ms : Nat} {R : Room} {cells slots pc : Nat} {cc : ByteArray} {own : String} {L : List (Nat × zV)} {st : List zV}
theorem z_ialdN (C : zC X p l s m args meth c cc nL own) {k i n j : Nat} {f : Nat → Int32} (hd : decode cc pc = .ok (.iaload, 1)) (hσ : σ k i = some (iC n f)) (hj : j < n) (hn : n ≤ 1000) (kk : zG X p l e R s m args below meth c nL σ0 loc0 Q cells slots σ (pc + 1) L (aI (f j) :: st)) : zG X p l e R s m args below meth c nL σ0 loc0 Q cells slots σ pc L (aI (nI j) :: aR k i :: st) := by
  have e : (nI j).toNatClampNeg = j := nI_clamp (by omega)
  refine z_iald C hd hσ (vp_in_nI hj (by omega)) ?_
  rw [e]
  exact kk
theorem z_iastN (C : zC X p l s m args meth c cc nL own) {k i n j : Nat} {f : Nat → Int32} {v : Int32} (hd : decode cc pc = .ok (.iastore, 1)) (hσ : σ k i = some (iC n f)) (hk : k < 90) (hj : j < n) (hn : n ≤ 1000) (kk : zG X p l e R s m args below meth c nL σ0 loc0 Q cells slots (zput σ k i (iC n (upd f j v))) (pc + 1) L st) : zG X p l e R s m args below meth c nL σ0 loc0 Q cells slots σ pc L (aI v :: aI (nI j) :: aR k i :: st) := by
  have e : (nI j).toNatClampNeg = j := nI_clamp (by omega)
  refine z_iast C hd hσ hk (vp_in_nI hj (by omega)) ?_
  rw [e]
  exact kk
end W1
theorem zbf {b : Bool} (h : b = false) : (0 : Int32) = zb b := by rw [h]; rfl
theorem zbt {b : Bool} (h : b = true) : (1 : Int32) = zb b := by rw [h]; rfl
theorem zdec (k : Nat) : nI k + Int32.ofInt (-1) = nI k - 1 := by rw [Int32.sub_eq_add_neg]; rfl
theorem zinc (k : Nat) : nI k + Int32.ofInt 1 = nI (k + 1) := nI_1 k
theorem zneg : (nI 0 - 1 : Int32) < 0 := by decide
theorem zpos (k : Nat) (h : k < 2 ^ 30) : ¬ (nI (k + 1) - 1 < 0) := by
  rw [nI_pred]; exact nI_pos (by omega)
theorem cntL_rng (a : Nat → Nat → Int32) (q : Int32) : ∀ k, cntL a q k = -1 ∨ ∃ j, j < k ∧ cntL a q k = nI j
  | 0 => Or.inl rfl
  | k + 1 => by
    rw [cntL]
    cases cntC a q k (cntL a q k) with
    | true => exact Or.inr ⟨k, by omega, rfl⟩
    | false =>
      rcases cntL_rng a q k with h | ⟨j, hj, h⟩
      · exact Or.inl h
      · exact Or.inr ⟨j, by omega, h⟩
section W2
variable {X : zX} {p : Program} {l : Launch} {e : Env} {s : State} {m : MethodId} {args : Array Value} {below : List Frame} {meth : Method} {c : Code} {nL : Nat} {σ0 σ : zHp} {loc0 : zK → Nat} {Q : State → Prop} {mc ms : Nat} {R : Room} {cells slots pc : Nat} {cc : ByteArray} {own : String} {L : List (Nat × zV)} {st : List zV}
theorem z_join {pc' : Nat} {L' : List (Nat × zV)} {st' : List zV} (h : zG X p l e R s m args below meth c nL σ0 loc0 Q cells slots σ pc' L' st' → zG X p l e R s m args below meth c nL σ0 loc0 Q cells slots σ pc L st) (kk : zG X p l e R s m args below meth c nL σ0 loc0 Q cells slots σ pc' L' st') : zG X p l e R s m args below meth c nL σ0 loc0 Q cells slots σ pc L st := h kk
theorem z_subK {L' : List (Nat × zV)} (kk : zG X p l e R s m args below meth c nL σ0 loc0 Q cells slots σ pc L' st) (hs : ∀ q ∈ L', zl L q.1 = some q.2) : zG X p l e R s m args below meth c nL σ0 loc0 Q cells slots σ pc L st := z_sub hs kk
theorem z_top {v w : Int32} (h : v = w) (kk : zG X p l e R s m args below meth c nL σ0 loc0 Q cells slots σ pc L (aI w :: st)) : zG X p l e R s m args below meth c nL σ0 loc0 Q cells slots σ pc L (aI v :: st) := by subst h; exact kk
end W2
theorem zN_lt {v w : Int32} {b : Nat} (hv : zCnt v b) (hb : b ≤ 1000000) (h : v < w) : zN v < w.toInt.toNat := by
  have e := hv.1
  rw [e, Int32.lt_iff_toInt_lt, nI_toInt (by have := hv.2; omega)] at h
  omega
theorem inB_to {v : Int32} {n : Nat} (hn : n < 2 ^ 30) (h : inB v 0 (nI n) = true) : ∃ t, t ≤ n ∧ v = nI t := by
  obtain ⟨h1, h2⟩ := inB_t.mp h
  exact nI_of2 (nI_toInt (by omega)) (Int32.not_lt.mpr h1) h2
theorem bAnd {p q : Bool} (h : (p && q) = true) : p = true ∧ q = true := by
  cases p <;> cases q <;> first | exact ⟨rfl, rfl⟩ | cases h
theorem ruledL_a {a a' : Nat → Nat → Int32} {i : Nat} (hf : ∀ k, fitR a i k = fitR a' i k) (h10 : a 10 = a' 10) : ∀ n f, ruledL a i n f = ruledL a' i n f
  | 0, _ => rfl
  | n + 1, f => by
    simp only [ruledL]
    rw [hf, h10, ruledL_a hf h10 n]
theorem regF_a {x : Nat → Int32} {a a' : Nat → Nat → Int32} (h2 : a 2 = a' 2) (h5 : a 5 = a' 5) (hf : ∀ i k, fitR a i k = fitR a' i k) (h10 : a 10 = a' 10) : ∀ f i, regF x a f i = regF x a' f i
  | 0, _ => rfl
  | f + 1, i => by
    have ho : ownR x a i = ownR x a' i := by
      unfold ownR
      rw [h5, ruledL_a (hf i) h10]
    simp only [regF]
    rw [ho, h2, regF_a h2 h5 hf h10 f]
theorem nI_lin8 (k i : Nat) : (8 : Int32) * nI k + nI i = nI (8 * k + i) := by
  show nI 8 * nI k + nI i = _
  rw [show nI 8 * nI k = nI (8 * k) from (Int32.ofNat_mul 8 k).symm, nI_add]
theorem goC_0 {p q r : Bool} : goC p q r = 0 ↔ p = true ∧ q = true ∧ r = true := by
  cases p <;> cases q <;> cases r <;> decide
theorem nI_lin6 (k i : Nat) : (6 : Int32) * nI k + nI i = nI (6 * k + i) := by
  show nI 6 * nI k + nI i = _
  rw [show nI 6 * nI k = nI (6 * k) from (Int32.ofNat_mul 6 k).symm, nI_add]
theorem ua_s {a : Nat → Nat → Int32} {j : Nat} {f : Nat → Int32} : ua a j f j = f := by simp [ua]
theorem ua_n {a : Nat → Nat → Int32} {j t : Nat} {f : Nat → Int32} (h : ¬ t = j) : ua a j f t = a t := by simp [ua, h]
theorem ua_ua {a : Nat → Nat → Int32} {j : Nat} {f g : Nat → Int32} : ua (ua a j f) j g = ua a j g := by
  funext t
  by_cases h : t = j
  · subst h; rw [ua_s, ua_s]
  · rw [ua_n h, ua_n h, ua_n h]
theorem ua_id {a : Nat → Nat → Int32} {j : Nat} : ua a j (a j) = a := by
  funext t
  by_cases h : t = j
  · subst h; rw [ua_s]
  · rw [ua_n h]
def k_pass (x : Nat → Int32) (a : Nat → Nat → Int32) (d : Int32) : Int32 := goC (inB d 1 1000) (inB d 1 1000 && decide (x 0 + d ≤ 100000)) (true)
def k_addAccount (x : Nat → Int32) (a : Nat → Nat → Int32) (o w g : Int32) : Int32 := goC (decide (o = -1) || isAcc x o) (inB w 0 9 && inB g 0 9) (decide (x 1 < 16))
def k_except (x : Nat → Int32) (a : Nat → Nat → Int32) (i w : Int32) : Int32 := goC (isAcc x i) (inB w (-1) 3) (true)
def k_regionOf (x : Nat → Int32) (a : Nat → Nat → Int32) (i : Int32) : Int32 := goC (isAcc x i) (true) (true)
def k_worth (x : Nat → Int32) (a : Nat → Nat → Int32) (i : Int32) : Int32 := goC (isCha x i) (true) (true)
def k_stage (x : Nat → Int32) (a : Nat → Nat → Int32) (i : Int32) : Int32 := goC (isCha x i) (true) (true)
def k_forecast (x : Nat → Int32) (a : Nat → Nat → Int32) (i : Int32) : Int32 := goC (isSel x i) (true) (true)
def k_own (x : Nat → Int32) (a : Nat → Nat → Int32) (i : Int32) : Int32 := goC (isSel x i) (true) (true)
def k_addSeller (x : Nat → Int32) (a : Nat → Nat → Int32) (o w : Int32) : Int32 := goC (decide (o = -1) || isSel x o) (inB w 0 99) (decide (x 11 < 8))
def k_adjust (x : Nat → Int32) (a : Nat → Nat → Int32) (i w : Int32) : Int32 := goC (isSel x i) (inB w (-1000000) 1000000) (true)
def k_addChance (x : Nat → Int32) (a : Nat → Nat → Int32) (o j w : Int32) : Int32 := goC (isAcc x o && isSel x j) (inB w 1 1000000) (decide (x 15 < 30))
def k_daysIn (x : Nat → Int32) (a : Nat → Nat → Int32) (i w : Int32) : Int32 := goC (isCha x i) (inB w 0 5) (true)
def k_giveShare (x : Nat → Int32) (a : Nat → Nat → Int32) (i j t w : Int32) : Int32 := goC (isCha x i && (isSel x j && isSel x t)) (inB w 1 100 && ! decide (j = t)) ((isCha x i && (isSel x j && isSel x t)) && (opnB a (zN i) && decide (w ≤ a 21 (8 * zN i + zN j))))
def k_quote (x : Nat → Int32) (a : Nat → Nat → Int32) (i j w : Int32) : Int32 := goC (isCha x i && isSel x j) (inB w 0 99) ((isCha x i && isSel x j) && (opnB a (zN i) && decide (x 23 < 40)))
def k_approve (x : Nat → Int32) (a : Nat → Nat → Int32) (i j : Int32) : Int32 := goC (inB i 0 (x 23 - 1) && isSel x j) ((inB i 0 (x 23 - 1) && isSel x j) && (decide (a 28 (zN i) = 0) && (opnB a (zN (a 25 (zN i))) && (abvB a j (zN (a 26 (zN i))) && decide (a 27 (zN i) ≤ a 13 (zN j)))))) (true)
def k_counting (x : Nat → Int32) (a : Nat → Nat → Int32) (i : Int32) : Int32 := goC (isCha x i) (! decide ((if isCha x i = true then cnt x a i else -1) = -1)) (true)
def k_since (x : Nat → Int32) (a : Nat → Nat → Int32) (i j : Int32) : Int32 := goC (inB i 0 (x 29 - 1) && isSel x j) (true) (true)
theorem up_le5 {f : Nat → Int32} {i c w : Nat} (h : ∃ t, t ≤ 5 ∧ f c = nI t) (hw : w ≤ 5) : ∃ t, t ≤ 5 ∧ upd f i (nI w) c = nI t := by
  by_cases e : c = i
  · exact ⟨w, hw, by rw [e]; simp [upd]⟩
  · obtain ⟨t, ht, et⟩ := h
    exact ⟨t, ht, by rw [← et]; simp [upd, e]⟩
theorem regS_mv {x : Nat → Int32} {a : Nat → Nat → Int32} {i : Nat} {f g h : Nat → Int32} : regS x (ua (ua (ua a 22 f) 18 g) 19 h) i = regS x a i := by
  show regF _ _ _ _ = regF _ _ _ _
  exact regF_a (x := x) (a := ua (ua (ua a 22 f) 18 g) 19 h) (a' := a) rfl rfl (fun _ _ => rfl) rfl _ _
def k_move (x : Nat → Int32) (a : Nat → Nat → Int32) (i w : Int32) : Int32 := goC (isCha x i) (inB w 0 5) ((isCha x i) && ((inB w 0 5) && comB x a (zN i) w))
def k_stalled (x : Nat → Int32) (a : Nat → Nat → Int32) (d : Int32) : Int32 := goC (inB d 0 100000) (true) (true)
def k_inRegion (x : Nat → Int32) (a : Nat → Nat → Int32) (w t : Int32) : Int32 := goC (inB w 0 3 && inB t 0 5) (true) (true)
def k_won (x : Nat → Int32) (a : Nat → Nat → Int32) (i : Int32) : Int32 := goC (isAcc x i) (true) (true)
def frz (x : Nat → Int32) (a : Nat → Nat → Int32) (z k : Nat) : Nat → Int32 := fun t => if 8 * z ≤ t ∧ t < 8 * z + k then forS x a (t - 8 * z) else a 30 t
def k_freeze (x : Nat → Int32) (a : Nat → Nat → Int32) (_z : Int32) : Int32 := goC (decide (x 29 < 20)) (true) (true)
def R4 (a : Nat → Nat → Int32) (g : (Nat → Int32) → Nat → Int32) : Nat → Nat → Int32 := ua (ua (ua (ua a 7 (g (a 7))) 8 (g (a 8))) 9 (g (a 9))) 10 (g (a 10))
def insG (k n : Nat) (f : Nat → Int32) : Nat → Int32 := fun t => if k < t ∧ t ≤ n then f (t - 1) else f t
def delG (k m : Nat) (f : Nat → Int32) : Nat → Int32 := fun t => if k ≤ t ∧ t < m then f (t + 1) else f t
def putR (a : Nat → Nat → Int32) (p n : Nat) (f u g r : Int32) : Nat → Nat → Int32 := ua (ua (ua (ua a 7 (upd (insG p n (a 7)) p f)) 8 (upd (insG p n (a 8)) p u)) 9 (upd (insG p n (a 9)) p g)) 10 (upd (insG p n (a 10)) p r)
def k_putRule (x : Nat → Int32) (a : Nat → Nat → Int32) (pl f u g w : Int32) : Int32 := goC (inB pl 0 (x 6)) (inB f 0 9 && (inB u f 9 && (inB g 0 9 && inB w 0 3))) (decide (x 6 < 8))
def k_removeRule (x : Nat → Int32) (a : Nat → Nat → Int32) (pl : Int32) : Int32 := goC (inB pl 0 (x 6 - 1)) (true) (true)
theorem R4_at {a : Nat → Nat → Int32} {g : (Nat → Int32) → Nat → Int32} {t : Nat} : R4 a g t = if t = 10 ∨ t = 9 ∨ t = 8 ∨ t = 7 then g (a t) else a t := by
  unfold R4
  by_cases h1 : t = 10
  · subst h1; rfl
  · by_cases h2 : t = 9
    · subst h2; rfl
    · by_cases h3 : t = 8
      · subst h3; rfl
      · by_cases h4 : t = 7
        · subst h4; rfl
        · rw [ua_n h1, ua_n h2, ua_n h3, ua_n h4, if_neg (by omega)]
theorem insG_0 {n : Nat} (f : Nat → Int32) : insG n n f = f := by
  funext t
  simp only [insG]
  rw [if_neg (by omega)]
theorem insG_s {k n : Nat} (h : k < n) (f : Nat → Int32) : upd (insG (k + 1) n f) (k + 1) (insG (k + 1) n f k) = insG k n f := by
  funext t
  by_cases e : t = k + 1
  · subst e
    simp only [upd, if_true, insG]
    rw [if_neg (by omega), if_pos (by omega)]
    rfl
  · simp only [upd, if_neg e, insG]
    by_cases e2 : k + 1 < t ∧ t ≤ n
    · rw [if_pos e2, if_pos (by omega)]
    · rw [if_neg e2, if_neg (by omega)]
theorem delG_0 {k : Nat} (f : Nat → Int32) : delG k k f = f := by
  funext t
  simp only [delG]
  rw [if_neg (by omega)]
theorem delG_s {k m : Nat} (h : k ≤ m) (f : Nat → Int32) : upd (delG k m f) m (delG k m f (m + 1)) = delG k (m + 1) f := by
  funext t
  by_cases e : t = m
  · subst e
    simp only [upd, if_true, delG]
    rw [if_neg (by omega), if_pos (by omega)]
  · simp only [upd, if_neg e, delG]
    by_cases e2 : k ≤ t ∧ t < m
    · rw [if_pos e2, if_pos (by omega)]
    · rw [if_neg e2, if_neg (by omega)]
theorem putR_eq {a : Nat → Nat → Int32} {p n : Nat} {f u g r : Int32} : ua (ua (ua (ua (R4 a (insG p n)) 7 (upd (R4 a (insG p n) 7) p f)) 8 (upd (R4 a (insG p n) 8) p u)) 9 (upd (R4 a (insG p n) 9) p g)) 10 (upd (R4 a (insG p n) 10) p r) = putR a p n f u g r := by
  have e7 : R4 a (insG p n) 7 = insG p n (a 7) := rfl
  have e8 : R4 a (insG p n) 8 = insG p n (a 8) := rfl
  have e9 : R4 a (insG p n) 9 = insG p n (a 9) := rfl
  have e10 : R4 a (insG p n) 10 = insG p n (a 10) := rfl
  rw [e7, e8, e9, e10]
  unfold putR
  funext t
  by_cases h1 : t = 10
  · subst h1; rfl
  · by_cases h2 : t = 9
    · subst h2; rfl
    · by_cases h3 : t = 8
      · subst h3; rfl
      · by_cases h4 : t = 7
        · subst h4; rfl
        · rw [ua_n h1, ua_n h2, ua_n h3, ua_n h4, ua_n h1, ua_n h2, ua_n h3, ua_n h4, R4_at, if_neg (by omega)]
