/-! what always holds in the law's runs, and what the law's checks say of it -/
def shS (a : Nat → Nat → Int32) (c : Nat) : Nat → Nat := sumN (fun s => zN (a 21 (8 * c + s)))
def dyS (a : Nat → Nat → Int32) (c : Nat) : Nat → Nat := sumN (fun m => zN (a 22 (6 * c + m)))
def jX (x : Nat → Int32) : Prop := zN (x 15) ≤ 16 ∧ zN (x 23) ≤ 30
def jE (x : Nat → Int32) (a : Nat → Nat → Int32) : Prop := ∀ i, i < zN (x 1) → a 5 i = -1 ∨ ∃ w, w < 4 ∧ a 5 i = nI w
def jR (x : Nat → Int32) (a : Nat → Nat → Int32) : Prop := ∀ k, k < zN (x 6) → ∃ w, w < 4 ∧ a 10 k = nI w
def jK (x : Nat → Int32) (a : Nat → Nat → Int32) : Prop := ∀ c, c < zN (x 15) → ¬ a 18 c < 4 → ∃ w, w < 4 ∧ a 20 c = nI w
def jA (a : Nat → Nat → Int32) : Prop := ∀ s, ∃ m, m ≤ 2000 ∧ a 14 s = nI m - 1000
def jV (x : Nat → Int32) (a : Nat → Nat → Int32) : Prop := ∀ c, c < zN (x 15) → ∃ v, v ≤ 1000000 ∧ a 17 c = nI v
def jS (x : Nat → Int32) (a : Nat → Nat → Int32) : Prop := (∀ c s, c < zN (x 15) → s < 8 → ∃ p, p ≤ 100 ∧ a 21 (8 * c + s) = nI p) ∧ (∀ c, c < zN (x 15) → shS a c 8 = 100) ∧ ∀ c s, c < zN (x 15) → zN (x 11) ≤ s → s < 8 → a 21 (8 * c + s) = 0
def jD (x : Nat → Int32) (a : Nat → Nat → Int32) : Prop := (∀ c, c < zN (x 15) → ∃ t, t ≤ zN (x 0) ∧ a 19 c = nI t) ∧ ∀ c m, c < zN (x 15) → m < 6 → ∃ t, t ≤ zN (x 0) ∧ a 22 (6 * c + m) = nI t
def jQ (x : Nat → Int32) (a : Nat → Nat → Int32) : Prop := ∀ q, q < zN (x 23) → ∃ d, d ≤ 99 ∧ a 27 q = nI d
def ZJ (x : Nat → Int32) (a : Nat → Nat → Int32) : Prop := jX x ∧ jE x a ∧ jR x a ∧ jK x a ∧ jA a ∧ jV x a ∧ jS x a ∧ jD x a ∧ jQ x a
def qN (a : Nat → Nat → Int32) (q : Nat) : Nat := 10000000 * zN (a 25 q) + 1000 * zN (a 27 q) + 10 * zN (a 26 q) + (if a 28 q = 0 then 0 else 1)
def gT (x : Nat → Int32) (A : Nat → Nat → Int32) : Prop := A 4 0 = x 1 ∧ A 4 1 = x 11 ∧ A 4 2 = x 15 ∧ A 4 3 = x 23 ∧ A 4 4 = x 6 ∧ A 4 5 = x 29 ∧ A 4 6 = x 0
def aT (x : Nat → Int32) (a A : Nat → Nat → Int32) : Prop := ∀ i, i < zN (x 1) → A 0 (4 * i) = a 2 i
def bT (x : Nat → Int32) (a A : Nat → Nat → Int32) : Prop := (∀ s, s < zN (x 11) → A 1 (3 * s) = a 12 s ∧ A 1 (3 * s + 1) = a 13 s) ∧ ∀ s, s < 8 → A 1 (3 * s + 2) = a 14 s
def dT (x : Nat → Int32) (a A : Nat → Nat → Int32) : Prop := ∀ c, c < zN (x 15) → A 2 (4 * c) = a 17 c ∧ A 2 (4 * c + 1) = a 16 c ∧ A 2 (4 * c + 3) = cnt x a (nI c) ∧ ∃ t0, A 2 (4 * c + 2) = nI t0 ∧ t0 + dyS a c 6 = zN (a 19 c)
def qT (x : Nat → Int32) (a A : Nat → Nat → Int32) : Prop := ∀ q, q < zN (x 23) → A 3 q = nI (qN a q)
def TT (x : Nat → Int32) (a A : Nat → Nat → Int32) : Prop := gT x A ∧ aT x a A ∧ bT x a A ∧ dT x a A ∧ qT x a A
/-- what holds between two steps of the law; K: how many steps were done -/
def TI (x : Nat → Int32) (a A : Nat → Nat → Int32) (K : Nat) : Prop := zIv x a ∧ ZJ x a ∧ TT x a A ∧ zN (x 0) ≤ 1000 * K
-- regions
theorem ruledL_4 {a : Nat → Nat → Int32} {i : Nat} : ∀ {n : Nat} {f : Int32}, (∀ k, k < n → ∃ w, w < 4 ∧ a 10 k = nI w) → (f = -1 ∨ ∃ w, w < 4 ∧ f = nI w) → (ruledL a i n f = -1 ∨ ∃ w, w < 4 ∧ ruledL a i n f = nI w)
  | 0, _, _, hf => hf
  | n + 1, f, h, hf => by
    rw [ruledL]
    refine ruledL_4 (fun k hk => h k (by omega)) ?_
    cases fitR a i n with
    | true => exact Or.inr (h n (by omega))
    | false => exact hf
theorem ownR_4 {x : Nat → Int32} {a : Nat → Nat → Int32} (hE : jE x a) (hR : jR x a) {i : Nat} (hi : i < zN (x 1)) : ownR x a i = -1 ∨ ∃ w, w < 4 ∧ ownR x a i = nI w := by
  unfold ownR
  by_cases e : a 5 i = -1
  · rw [if_pos e]
    exact ruledL_4 hR (Or.inl rfl)
  · rw [if_neg e]
    exact hE i hi
theorem regF_4 {x : Nat → Int32} {a : Nat → Nat → Int32} (hA : ∀ i, i < zN (x 1) → zUp (a 2 i) i) (h1 : zN (x 1) ≤ 16) (hE : jE x a) (hR : jR x a) : ∀ (f i : Nat), i < zN (x 1) → ∃ w, w < 4 ∧ regF x a f i = nI w
  | 0, _, _ => ⟨0, by decide, rfl⟩
  | f + 1, i, hi => by
    rw [regF]
    by_cases e : ownR x a i = -1
    · rw [if_pos e]
      by_cases e2 : a 2 i = -1
      · rw [if_pos e2]
        exact ⟨0, by decide, rfl⟩
      · rw [if_neg e2]
        rcases hA i hi with e3 | ⟨j, hj, e3⟩
        · exact absurd e3 e2
        · rw [e3, zN_nI (by omega)]
          exact regF_4 hA h1 hE hR f j (by omega)
    · rw [if_neg e]
      rcases ownR_4 hE hR hi with h | h
      · exact absurd h e
      · exact h
theorem regS_4 {x : Nat → Int32} {a : Nat → Nat → Int32} (hI : zIv x a) (hJ : ZJ x a) {i : Nat} (hi : i < zN (x 1)) : ∃ w, w < 4 ∧ regS x a i = nI w := by
  obtain ⟨⟨i0, i1, i6, i11, i15, i23, i24, i29, iA, iS, iC, iQ, iP⟩, -⟩ := hI
  obtain ⟨-, hE, hR, -⟩ := hJ
  exact regF_4 iA i1.2 hE hR _ _ hi
theorem rgn_4 {x : Nat → Int32} {a : Nat → Nat → Int32} (hI : zIv x a) (hJ : ZJ x a) {c : Nat} (hc : c < zN (x 15)) : ∃ w, w < 4 ∧ rgnC x a c = nI w := by
  have hI2 := hI
  obtain ⟨⟨i0, i1, i6, i11, i15, i23, i24, i29, iA, iS, iC, iQ, iP⟩, -⟩ := hI
  obtain ⟨⟨i, hi, ei⟩, -⟩ := iC c hc
  have hJ2 := hJ
  obtain ⟨-, -, -, hK, -⟩ := hJ
  unfold rgnC opnB
  by_cases h : a 18 c < 4
  · rw [decide_eq_true h, cond_true, ei, zN_nI (by have := i1.2; omega)]
    exact regS_4 hI2 hJ2 hi
  · rw [decide_eq_false h, cond_false]
    exact hK c hc h
def allL (x : Nat → Int32) (a : Nat → Nat → Int32) (t : Nat) : Nat → Int32 := sumL (fun c => cond (decide (a 18 c = nI t)) (wrt x a c) 0)
def irS (x : Nat → Int32) (a : Nat → Nat → Int32) (t : Nat) : Nat → Int32 := sumL (fun w => inrL x a (nI w) (nI t) (zN (x 15)))
theorem inrL_S {x : Nat → Int32} {a : Nat → Nat → Int32} {w t : Int32} : ∀ {n : Nat}, inrL x a w t n = sumL (fun k => cond (decide (rgnC x a k = w) && decide (a 18 k = t)) (wrt x a k) 0) n
  | 0 => rfl
  | n + 1 => by rw [inrL, sumL, inrL_S]
theorem irS_4 {x : Nat → Int32} {a : Nat → Nat → Int32} (hI : zIv x a) (hJ : ZJ x a) (t : Nat) : irS x a t 4 = allL x a t (zN (x 15)) := by
  unfold irS allL
  simp only [inrL_S]
  rw [sumL_comm]
  apply sumL_cg
  intro c hc
  obtain ⟨w, hw, e⟩ := rgn_4 hI hJ hc
  rw [sumL_one hw]
  · rw [e, decide_eq_true rfl, Bool.true_and]
  · intro j hj hjw
    rw [e, decide_eq_false (fun z => hjw ((nI_eq (by omega) (by omega)).mp z.symm)), Bool.false_and]
    rfl
-- accounts
theorem traF_f {a : Nat → Nat → Int32} {t : Int32} {n : Nat} (hA : ∀ i, i < n → zUp (a 2 i) i) (hn : n ≤ 1000) : ∀ (f i : Nat), i < n → i + 1 ≤ f → traF a t f (nI i) = traF a t (i + 1) (nI i)
  | 0, _, _, h => absurd h (by omega)
  | f + 1, i, hi, hf => by
    rw [traF, traF, if_neg (nI_nm1 (by omega)), if_neg (nI_nm1 (by omega)), zN_nI (by omega)]
    by_cases e : nI i = t
    · rw [if_pos e, if_pos e]
    · rw [if_neg e, if_neg e]
      rcases hA i hi with e1 | ⟨p, hp, e1⟩
      · rw [e1]
        cases f with
        | zero => rw [show i = 0 by omega]
        | succ f =>
          cases i with
          | zero => rw [traF, traF, if_pos rfl]
          | succ i => rw [traF, traF, if_pos rfl, if_pos rfl]
      · rw [e1, traF_f hA hn f p (by omega) (by omega), traF_f hA hn i p (by omega) (by omega)]
theorem traB_T {x : Nat → Int32} {a : Nat → Nat → Int32} (hI : zIv x a) : Tr (a 2) (fun k i => traB a (nI k) i) (zN (x 1)) := by
  obtain ⟨⟨i0, i1, i6, i11, i15, i23, i24, i29, iA, iS, iC, iQ, iP⟩, -⟩ := hI
  have b1 := i1.2
  refine ⟨iA, fun i k hi hk e => ?_, fun i k p hi hk hp e => ?_⟩
  · show traF a (nI k) (i + 1) (nI i) = _
    rw [traF, if_neg (nI_nm1 (by omega)), zN_nI (by omega), e]
    by_cases ek : i = k
    · rw [ek, if_pos rfl, decide_eq_true rfl]
    · rw [decide_eq_false ek]
      by_cases ek2 : nI i = nI k
      · exact absurd ek2 (fun z => ek ((nI_eq (by omega) (by omega)).mp z))
      · rw [if_neg ek2]
        cases i with
        | zero => rfl
        | succ i => rw [traF, if_pos rfl]
  · show traF a (nI k) (i + 1) (nI i) = (_ || traF a (nI k) (p + 1) (nI p))
    rw [traF, if_neg (nI_nm1 (by omega)), zN_nI (by omega), e]
    by_cases ek : i = k
    · rw [ek, if_pos rfl, decide_eq_true rfl, Bool.true_or]
    · rw [decide_eq_false ek, Bool.false_or]
      by_cases ek2 : nI i = nI k
      · exact absurd ek2 (fun z => ek ((nI_eq (by omega) (by omega)).mp z))
      · rw [if_neg ek2]
        exact traF_f iA (by omega) i p (by omega) (by omega)
theorem wonL_S {x : Nat → Int32} {a : Nat → Nat → Int32} {t : Int32} : ∀ {n : Nat}, wonL x a t n = sumL (fun k => cond (traB a t (zN (a 16 k)) && decide (a 18 k = 4)) (wrt x a k) 0) n
  | 0 => rfl
  | n + 1 => by rw [wonL, sumL, wonL_S]
def own1 (x : Nat → Int32) (a : Nat → Nat → Int32) (k : Nat) : Nat → Int32 := sumL (fun c => cond (decide (a 16 c = nI k) && decide (a 18 c = 4)) (wrt x a c) 0)
def own2 (x : Nat → Int32) (a : Nat → Nat → Int32) (k : Nat) : Nat → Int32 := sumL (fun i => cond (decide (a 2 i = nI k)) (wonL x a (nI i) (zN (x 15))) 0)
theorem cnd_and {b d : Bool} {v : Int32} : cond (b && d) v 0 = cond d (cond b v 0) 0 := by cases b <;> cases d <;> rfl
theorem cnd_add {b : Bool} {u v : Int32} : cond b (u + v) 0 = cond b u 0 + cond b v 0 := by cases b <;> rfl
theorem cnd_sw {b d : Bool} {v : Int32} : cond b (cond d v 0) 0 = cond d (cond b v 0) 0 := by cases b <;> cases d <;> rfl
theorem won_tree {x : Nat → Int32} {a : Nat → Nat → Int32} (hI : zIv x a) {k : Nat} (hk : k < zN (x 1)) : wonL x a (nI k) (zN (x 15)) = own1 x a k (zN (x 15)) + own2 x a k (zN (x 1)) := by
  have hT := traB_T hI
  obtain ⟨⟨i0, i1, i6, i11, i15, i23, i24, i29, iA, iS, iC, iQ, iP⟩, -⟩ := hI
  have b1 := i1.2
  have e2 : own2 x a k (zN (x 1)) = sumL (fun c => cond (decide (a 18 c = 4)) (sumL (fun i => cond (decide (a 2 i = nI k)) (cond (traB a (nI i) (zN (a 16 c))) (wrt x a c) 0) 0) (zN (x 1))) 0) (zN (x 15)) := by
    unfold own2
    simp only [wonL_S, cnd_s]
    rw [sumL_comm]
    apply sumL_cg
    intro c _
    apply sumL_cg
    intro i _
    rw [cnd_and, cnd_sw]
  rw [e2, wonL_S]
  unfold own1
  rw [← sumL_add]
  apply sumL_cg
  intro c hc
  obtain ⟨⟨i, hi, ei⟩, -⟩ := iC c hc
  rw [cnd_and, cnd_and, ← cnd_add, ei, zN_nI (by omega)]
  congr 1
  rw [hT.sum (by omega) hk (wrt x a c) i hi]
  congr 1
  congr 1
  exact decide_eq_decide.mpr ⟨fun z => by rw [z], fun z => (nI_eq (by omega) (by omega)).mp z⟩
theorem won_root {x : Nat → Int32} {a : Nat → Nat → Int32} (hI : zIv x a) : sumL (fun k => cond (decide (a 2 k < 0)) (wonL x a (nI k) (zN (x 15))) 0) (zN (x 1)) = allL x a 4 (zN (x 15)) := by
  have hT := traB_T hI
  obtain ⟨⟨i0, i1, i6, i11, i15, i23, i24, i29, iA, iS, iC, iQ, iP⟩, -⟩ := hI
  have b1 := i1.2
  simp only [wonL_S, cnd_s]
  rw [sumL_comm]
  unfold allL
  apply sumL_cg
  intro c hc
  obtain ⟨⟨i, hi, ei⟩, -⟩ := iC c hc
  have e : sumL (fun j => cond (decide (a 2 j < 0)) (cond (traB a (nI j) (zN (a 16 c)) && decide (a 18 c = 4)) (wrt x a c) 0) 0) (zN (x 1)) = cond (decide (a 18 c = 4)) (sumL (fun j => cond (decide (a 2 j < 0)) (cond (traB a (nI j) i) (wrt x a c) 0) 0) (zN (x 1))) 0 := by
    rw [cnd_s]
    apply sumL_cg
    intro j _
    rw [cnd_and, cnd_sw, ei, zN_nI (by omega)]
  rw [e, hT.root (by omega) (wrt x a c) i hi]
  rfl
-- sellers
theorem abvF_f {a : Nat → Nat → Int32} {t : Int32} {n : Nat} (hS : ∀ i, i < n → zUp (a 12 i) i) (hn : n ≤ 1000) : ∀ (f i : Nat), i < n → i + 1 ≤ f → abvF a t f (nI i) = abvF a t (i + 1) (nI i)
  | 0, _, _, h => absurd h (by omega)
  | f + 1, i, hi, hf => by
    rw [abvF, abvF, if_neg (nI_nm1 (by omega)), if_neg (nI_nm1 (by omega)), zN_nI (by omega)]
    by_cases e : nI i = t
    · rw [if_pos e, if_pos e]
    · rw [if_neg e, if_neg e]
      rcases hS i hi with e1 | ⟨p, hp, e1⟩
      · rw [e1]
        cases f with
        | zero => rw [show i = 0 by omega]
        | succ f =>
          cases i with
          | zero => rw [abvF, abvF, if_pos rfl]
          | succ i => rw [abvF, abvF, if_pos rfl, if_pos rfl]
      · rw [e1, abvF_f hS hn f p (by omega) (by omega), abvF_f hS hn i p (by omega) (by omega)]
def tmB (a : Nat → Nat → Int32) (k i : Nat) : Bool := decide (i = k) || abvB a (nI k) i
theorem abvB_p {a : Nat → Nat → Int32} {n : Nat} (hS : ∀ i, i < n → zUp (a 12 i) i) (hn : n ≤ 1000) {i k p : Nat} (hi : i < n) (hk : k < n) (hp : p < i) (e : a 12 i = nI p) : abvB a (nI k) i = tmB a k p := by
  unfold abvB tmB abvB
  rw [e, abvF_f hS hn (i + 1) p (by omega) (by omega), abvF, if_neg (nI_nm1 (by omega)), zN_nI (by omega)]
  by_cases ek : p = k
  · rw [ek, if_pos rfl, decide_eq_true rfl, Bool.true_or]
  · rw [decide_eq_false ek, Bool.false_or]
    by_cases ek2 : nI p = nI k
    · exact absurd ek2 (fun z => ek ((nI_eq (by omega) (by omega)).mp z))
    · rw [if_neg ek2]
      rcases hS p (by omega) with e1 | ⟨q, hq, e1⟩
      · rw [e1]
        cases p with
        | zero => rw [abvF, abvF, if_pos rfl]
        | succ p => rw [abvF, abvF, if_pos rfl, if_pos rfl]
      · rw [e1, abvF_f hS hn (p + 1) q (by omega) (by omega), abvF_f hS hn p q (by omega) (by omega)]
theorem tmB_T {x : Nat → Int32} {a : Nat → Nat → Int32} (hI : zIv x a) : Tr (a 12) (tmB a) (zN (x 11)) := by
  obtain ⟨⟨i0, i1, i6, i11, i15, i23, i24, i29, iA, iS, iC, iQ, iP⟩, -⟩ := hI
  have b11 := i11.2
  refine ⟨iS, fun i k hi hk e => ?_, fun i k p hi hk hp e => ?_⟩
  · unfold tmB abvB
    rw [e, abvF, if_pos rfl, Bool.or_false]
  · rw [tmB, abvB_p iS (by omega) hi hk hp e]
def forG (x : Nat → Int32) (a : Nat → Nat → Int32) (k : Nat) : Nat → Int32 := sumL (fun j => cond (decide (a 12 j = nI k)) (forS x a j) 0)
theorem forL_S {x : Nat → Int32} {a : Nat → Nat → Int32} {t : Nat} : ∀ {n : Nat}, forL x a t n = sumL (fun k => cond (tmB a t k) (ownS x a k + a 14 k) 0) n
  | 0 => rfl
  | n + 1 => by
    rw [forL, sumL, forL_S]
    rfl
theorem for_tree {x : Nat → Int32} {a : Nat → Nat → Int32} (hI : zIv x a) {k : Nat} (hk : k < zN (x 11)) : forS x a k = ownS x a k + a 14 k + forG x a k (zN (x 11)) := by
  have hT := tmB_T hI
  obtain ⟨⟨i0, i1, i6, i11, i15, i23, i24, i29, iA, iS, iC, iQ, iP⟩, -⟩ := hI
  have b11 := i11.2
  have e2 : forG x a k (zN (x 11)) = sumL (fun c => sumL (fun i => cond (decide (a 12 i = nI k)) (cond (tmB a i c) (ownS x a c + a 14 c) 0) 0) (zN (x 11))) (zN (x 11)) := by
    unfold forG forS
    simp only [forL_S, cnd_s]
    rw [sumL_comm]
  have e1 : ownS x a k + a 14 k = sumL (fun c => cond (decide (c = k)) (ownS x a c + a 14 c) 0) (zN (x 11)) := by
    rw [sumL_one hk (fun j _ hj => by rw [decide_eq_false hj]; rfl), decide_eq_true rfl]
    rfl
  rw [e2, e1, ← sumL_add]
  unfold forS
  rw [forL_S]
  apply sumL_cg
  intro c hc
  exact hT.sum (by omega) hk _ c hc
theorem forG_0 {x : Nat → Int32} {a : Nat → Nat → Int32} (hI : zIv x a) {k : Nat} (hk : k < zN (x 11)) : forG x a k (k + 1) = 0 := by
  obtain ⟨⟨i0, i1, i6, i11, i15, i23, i24, i29, iA, iS, iC, iQ, iP⟩, -⟩ := hI
  have b11 := i11.2
  apply sumL_z
  intro j hj
  rcases iS j (by omega) with e | ⟨p, hp, e⟩
  · rw [e, decide_eq_false (fun z => nI_nm1 (by omega) z.symm)]
    rfl
  · rw [e, decide_eq_false (fun z => by have := (nI_eq (by omega) (by omega)).mp z; omega)]
    rfl
-- days, stalled
def opnL (a : Nat → Nat → Int32) : Nat → Int32 := sumL (fun c => cond (opnB a c) 1 0)
theorem stl_le {x : Nat → Int32} {a : Nat → Nat → Int32} {d : Int32} : ∀ {n : Nat}, n ≤ 1000 → ∃ u o, stlL x a d n = nI u ∧ opnL a n = nI o ∧ u ≤ o ∧ o ≤ n
  | 0, _ => ⟨0, 0, rfl, rfl, Nat.le_refl _, Nat.le_refl _⟩
  | n + 1, hn => by
    obtain ⟨u, o, h1, h2, h3, h4⟩ := stl_le (x := x) (a := a) (d := d) (n := n) (by omega)
    have h2 : sumL (fun c => cond (opnB a c) 1 0) n = nI o := h2
    unfold opnL
    rw [stlL, sumL, h1, h2]
    cases opnB a n with
    | false => exact ⟨u, o, Int32.add_zero _, Int32.add_zero _, h3, by omega⟩
    | true =>
      rw [Bool.true_and]
      cases decide (d < x 0 - a 19 n) with
      | false => exact ⟨u, o + 1, Int32.add_zero _, nI_1 o, by omega, by omega⟩
      | true => exact ⟨u + 1, o + 1, nI_1 u, nI_1 o, by omega, by omega⟩
theorem stl_0 {x : Nat → Int32} {a : Nat → Nat → Int32} (h0 : zCnt (x 0) 100000) (hD : jD x a) : ∀ {n : Nat}, n ≤ zN (x 15) → stlL x a (x 0) n = 0
  | 0, _ => rfl
  | n + 1, hn => by
    obtain ⟨t, ht, e⟩ := hD.1 n (by omega)
    have hb := h0.2
    rw [stlL, stl_0 h0 hD (by omega), decide_eq_false (p := x 0 < x 0 - a 19 n), Bool.and_false]
    · rfl
    · rw [e, h0.1, pk_sub ht]
      exact nI_nlt (by omega) (by omega)
def dayL (x : Nat → Int32) (a : Nat → Nat → Int32) (c : Nat) : Nat → Int32 := sumL (fun m => a 22 (6 * c + m) + (if a 18 c = nI m then x 0 - a 19 c else 0))
theorem day_6 {x : Nat → Int32} {a A : Nat → Nat → Int32} (hI : zIv x a) (hJ : ZJ x a) (hT : dT x a A) {c : Nat} (hc : c < zN (x 15)) : dayL x a c 6 = x 0 - A 2 (4 * c + 2) := by
  obtain ⟨⟨i0, i1, i6, i11, i15, i23, i24, i29, iA, iS, iC, iQ, iP⟩, -⟩ := hI
  obtain ⟨-, -, -, -, -, -, -, ⟨hD1, hD2⟩, -⟩ := hJ
  obtain ⟨-, -, -, t0, e0, es⟩ := hT c hc
  obtain ⟨t, ht, et⟩ := hD1 c hc
  obtain ⟨-, ⟨u, hu, eu⟩⟩ := iC c hc
  have hb := i0.2
  rw [et, zN_nI (by omega)] at es
  have h1 : dayL x a c 6 = sumL (fun m => a 22 (6 * c + m)) 6 + sumL (fun m => if a 18 c = nI m then x 0 - a 19 c else 0) 6 := sumL_add
  have h2 : sumL (fun m => if a 18 c = nI m then x 0 - a 19 c else 0) 6 = x 0 - a 19 c := by
    rw [sumL_one (p := u) (by omega)]
    · exact if_pos eu
    · intro j hj hju
      exact if_neg (fun z => hju ((nI_eq (by omega) (by omega)).mp (z.symm.trans eu)))
  have h3 : ∀ n, n ≤ 6 → sumL (fun m => a 22 (6 * c + m)) n = nI (dyS a c n) := by
    intro n
    induction n with
    | zero => intro _; rfl
    | succ n ih =>
      intro hn
      obtain ⟨w, hw, ew⟩ := hD2 c n hc (by omega)
      unfold dyS at ih ⊢
      rw [sumL, sumN, ih (by omega), ew, zN_nI (by omega), nI_add]
  rw [h1, h2, h3 6 (Nat.le_refl _), et, e0, i0.1, pk_sub ht, nI_add, pk_sub (by omega)]
  congr 1
  omega
