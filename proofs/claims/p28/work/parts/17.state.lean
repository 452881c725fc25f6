/-! THE STATE, as numbers: x the scalars and a the rows of the reference, by the numbers of its fields. What each call answers and leaves, by the document's words (sp_). -/
def ua (a : Nat → Nat → Int32) (j : Nat) (f : Nat → Int32) : Nat → Nat → Int32 := fun j' => if j' = j then f else a j'
def zN (v : Int32) : Nat := v.toNatClampNeg
abbrev sT : Type := Int32 × (Nat → Int32) × (Nat → Nat → Int32)
def mdF (x : Nat → Int32) : List zV := [aI (x 0), aI (x 1), aR 13 2, aR 13 3, aR 13 4, aR 13 5, aI (x 6), aR 13 7, aR 13 8, aR 13 9, aR 13 10, aI (x 11), aR 13 12, aR 13 13, aR 13 14, aI (x 15), aR 13 16, aR 13 17, aR 13 18, aR 13 19, aR 13 20, aR 13 21, aR 13 22, aI (x 23), aI (x 24), aR 13 25, aR 13 26, aR 13 27, aR 13 28, aI (x 29), aR 13 30, aI (x 31)]
def mdLen : Nat → Nat := fun j => ([0, 0, 16, 16, 16, 16, 0, 9, 9, 9, 9, 0, 8, 8, 8, 0, 30, 30, 30, 30, 30, 240, 180, 0, 0, 40, 40, 40, 40, 0, 160, 0] : List Nat).getD j 0
/-- the reference's object and rows in the world -/
def MD (x : Nat → Int32) (a : Nat → Nat → Int32) (σ : zHp) : Prop := σ 12 0 = some (oC 10 (mdF x)) ∧ ∀ j, 0 < mdLen j → σ 13 j = some (iC (mdLen j) (a j))
/-- nothing but the reference's cells has changed -/
def Fm (σ σ1 : zHp) : Prop := ∀ k i, k ≠ 12 → k ≠ 13 → σ1 k i = σ k i
theorem Fm.rf {σ : zHp} : Fm σ σ := fun _ _ _ _ => rfl
theorem Fm.tr {σ σ1 σ2 : zHp} (h : Fm σ σ1) (h' : Fm σ1 σ2) : Fm σ σ2 := fun k i a b => (h' k i a b).trans (h k i a b)
theorem Fm.p12 {σ : zHp} {i : Nat} {c : zCell} : Fm σ (zput σ 12 i c) := fun _ _ a _ => zput_n (fun h => a h.1)
theorem Fm.p13 {σ : zHp} {i : Nat} {c : zCell} : Fm σ (zput σ 13 i c) := fun _ _ _ b => zput_n (fun h => b h.1)
theorem MD.row {x : Nat → Int32} {a : Nat → Nat → Int32} {σ : zHp} (h : MD x a σ) (j : Nat) (f : Nat → Int32) : MD x (ua a j f) (zput σ 13 j (iC (mdLen j) f)) := by
  refine ⟨by rw [zput_n (by omega)]; exact h.1, fun j' hj => ?_⟩
  by_cases e : j' = j
  · subst e
    rw [zput_s]
    simp [ua]
  · rw [zput_n (fun z => e z.2)]
    simp only [ua, if_neg e]
    exact h.2 j' hj
theorem MD.obj {x x1 : Nat → Int32} {a : Nat → Nat → Int32} {σ : zHp} {fs : List zV} (h : MD x a σ) (hf : fs = mdF x1) : MD x1 a (zput σ 12 0 (oC 10 fs)) := by
  subst hf
  exact ⟨zput_s _ _ _ _, fun j hj => by rw [zput_n (by omega)]; exact h.2 j hj⟩
-- words of the reference
def inB (v lo hi : Int32) : Bool := decide (lo ≤ v) && decide (v ≤ hi)
def goC (p q r : Bool) : Int32 := if p = false then 1 else if q = false then 2 else if r = false then 3 else 0
def isAcc (x : Nat → Int32) (v : Int32) : Bool := inB v 0 (x 1 - 1)
def isSel (x : Nat → Int32) (v : Int32) : Bool := inB v 0 (x 11 - 1)
def isCha (x : Nat → Int32) (v : Int32) : Bool := inB v 0 (x 15 - 1)
def fitR (a : Nat → Nat → Int32) (i k : Nat) : Bool := inB (a 3 i) (a 7 k) (a 8 k) && decide (a 9 k ≤ a 4 i)
def ruledL (a : Nat → Nat → Int32) (i : Nat) : Nat → Int32 → Int32
  | 0, f => f
  | k + 1, f => ruledL a i k (cond (fitR a i k) (a 10 k) f)
def ownR (x : Nat → Int32) (a : Nat → Nat → Int32) (i : Nat) : Int32 := if a 5 i = -1 then ruledL a i (zN (x 6)) (-1) else a 5 i
def regF (x : Nat → Int32) (a : Nat → Nat → Int32) : Nat → Nat → Int32
  | 0, _ => 0
  | f + 1, i => if ownR x a i = -1 then (if a 2 i = -1 then 0 else regF x a f (zN (a 2 i))) else ownR x a i
def regS (x : Nat → Int32) (a : Nat → Nat → Int32) (i : Nat) : Int32 := regF x a (i + 1) i
def cntC (a : Nat → Nat → Int32) (c : Int32) (k : Nat) (f : Int32) : Bool := decide (a 25 k = c) && (decide (0 < a 28 k) && (decide (f = -1) || decide (a 28 (zN f) < a 28 k)))
def cntL (a : Nat → Nat → Int32) (c : Int32) : Nat → Int32
  | 0 => -1
  | k + 1 => cond (cntC a c k (cntL a c k)) (nI k) (cntL a c k)
def cnt (x : Nat → Int32) (a : Nat → Nat → Int32) (c : Int32) : Int32 := cntL a c (zN (x 23))
def opnB (a : Nat → Nat → Int32) (c : Nat) : Bool := decide (a 18 c < 4)
def comB (x : Nat → Int32) (a : Nat → Nat → Int32) (c : Nat) (n : Int32) : Bool := opnB a c && ((decide (n < a 18 c) || (decide (n = 5) || decide (n = a 18 c + 1))) && (! decide (a 18 c = 2) || (! decide (n = 3) || ! decide (cnt x a (nI c) = -1))))
def wrt (x : Nat → Int32) (a : Nat → Nat → Int32) (c : Nat) : Int32 := if cnt x a (nI c) = -1 then a 17 c else a 17 c * (100 - a 27 (zN (cnt x a (nI c)))) / 100
def wgt (s : Int32) : Int32 := if s = 0 then 10 else if s = 1 then 30 else if s = 2 then 60 else if s = 3 then 90 else if s = 4 then 100 else 0
def ownL (x : Nat → Int32) (a : Nat → Nat → Int32) (s : Nat) : Nat → Int32
  | 0 => 0
  | k + 1 => ownL x a s k + wrt x a k * a 21 (8 * k + s) / 100 * wgt (a 18 k) / 100
def ownS (x : Nat → Int32) (a : Nat → Nat → Int32) (s : Nat) : Int32 := ownL x a s (zN (x 15))
def abvF (a : Nat → Nat → Int32) (t : Int32) : Nat → Int32 → Bool
  | 0, _ => false
  | f + 1, h => if h = -1 then false else if h = t then true else abvF a t f (a 12 (zN h))
/-- t is above s -/
def abvB (a : Nat → Nat → Int32) (t : Int32) (s : Nat) : Bool := abvF a t (s + 1) (a 12 s)
def forL (x : Nat → Int32) (a : Nat → Nat → Int32) (t : Nat) : Nat → Int32
  | 0 => 0
  | k + 1 => forL x a t k + (cond (decide (k = t) || abvB a (nI t) k) (ownS x a k + a 14 k) 0)
def forS (x : Nat → Int32) (a : Nat → Nat → Int32) (t : Nat) : Int32 := forL x a t (zN (x 11))
def traF (a : Nat → Nat → Int32) (t : Int32) : Nat → Int32 → Bool
  | 0, _ => false
  | f + 1, h => if h = -1 then false else if h = t then true else traF a t f (a 2 (zN h))
/-- account i is t or below it -/
def traB (a : Nat → Nat → Int32) (t : Int32) (i : Nat) : Bool := traF a t (i + 1) (nI i)
def stlL (x : Nat → Int32) (a : Nat → Nat → Int32) (d : Int32) : Nat → Int32
  | 0 => 0
  | k + 1 => stlL x a d k + (cond (opnB a k && decide (d < x 0 - a 19 k)) 1 0)
def rgnC (x : Nat → Int32) (a : Nat → Nat → Int32) (k : Nat) : Int32 := cond (opnB a k) (regS x a (zN (a 16 k))) (a 20 k)
def inrL (x : Nat → Int32) (a : Nat → Nat → Int32) (w t : Int32) : Nat → Int32
  | 0 => 0
  | k + 1 => inrL x a w t k + (cond (decide (rgnC x a k = w) && decide (a 18 k = t)) (wrt x a k) 0)
def wonL (x : Nat → Int32) (a : Nat → Nat → Int32) (t : Int32) : Nat → Int32
  | 0 => 0
  | k + 1 => wonL x a t k + (cond (traB a t (zN (a 16 k)) && decide (a 18 k = 4)) (wrt x a k) 0)
def watL (a : Nat → Nat → Int32) : Nat → Int32
  | 0 => 0
  | k + 1 => watL a k + (cond (decide (a 28 k = 0) && opnB a (zN (a 25 k))) 1 0)
-- what is always so
def zCnt (v : Int32) (b : Nat) : Prop := v = nI (zN v) ∧ zN v ≤ b
def zUp (v : Int32) (i : Nat) : Prop := v = -1 ∨ ∃ j, j < i ∧ v = nI j
def zInv (x : Nat → Int32) (a : Nat → Nat → Int32) : Prop :=
  zCnt (x 0) 100000 ∧ zCnt (x 1) 16 ∧ zCnt (x 6) 8 ∧ zCnt (x 11) 8 ∧ zCnt (x 15) 30 ∧ zCnt (x 23) 40 ∧ zCnt (x 24) 40 ∧ zCnt (x 29) 20 ∧
  (∀ i, i < zN (x 1) → zUp (a 2 i) i) ∧
  (∀ i, i < zN (x 11) → zUp (a 12 i) i) ∧
  (∀ c, c < zN (x 15) → (∃ i, i < zN (x 1) ∧ a 16 c = nI i) ∧ (∃ t, t ≤ 5 ∧ a 18 c = nI t)) ∧
  (∀ q, q < zN (x 23) → (∃ c, c < zN (x 15) ∧ a 25 q = nI c) ∧ (∃ s, s < zN (x 11) ∧ a 26 q = nI s) ∧ (∃ o, o ≤ zN (x 24) ∧ a 28 q = nI o)) ∧
  zN (x 24) ≤ zN (x 23)
theorem zN_nI {n : Nat} (h : n < 2 ^ 31) : zN (nI n) = n := nI_clamp h
theorem inB_t {v lo hi : Int32} : inB v lo hi = true ↔ lo ≤ v ∧ v ≤ hi := by simp [inB]
theorem zm1 : (-1 : Int32).toInt = -1 := by decide
/-- an index that has been looked at -/
theorem inB_ix {v m : Int32} {b : Nat} (hm : zCnt m b) (hb : b ≤ 1000) (h : inB v 0 (m - 1) = true) : ∃ i, i < zN m ∧ v = nI i := by
  obtain ⟨h1, h2⟩ := inB_t.mp h
  obtain ⟨i, hi, rfl⟩ := nI_of (Int32.not_lt.mpr h1)
  refine ⟨i, ?_, rfl⟩
  rw [hm.1] at h2
  have e : (nI (zN m) - 1).toInt = (zN m : Int) - 1 := pk_sub_toInt (a := zN m) (b := 1) (by have := hm.2; omega) (by omega)
  rw [Int32.le_iff_toInt_le, nI_toInt hi, e] at h2
  omega
theorem inB_nI {i : Nat} {m : Int32} {b : Nat} (hm : zCnt m b) (hb : b ≤ 1000) (hi : i < zN m) : inB (nI i) 0 (m - 1) = true := by
  refine inB_t.mpr ⟨nI_pos' (by have := hm.2; omega), ?_⟩
  rw [hm.1]
  have e : (nI (zN m) - 1).toInt = (zN m : Int) - 1 := pk_sub_toInt (a := zN m) (b := 1) (by have := hm.2; omega) (by omega)
  rw [Int32.le_iff_toInt_le, nI_toInt (by have := hm.2; omega), e]
  omega
theorem nI_nm1 {n : Nat} (h : n < 2 ^ 31) : ¬ nI n = -1 := fun e => by
  have := congrArg Int32.toInt e
  rw [nI_toInt h, zm1] at this
  omega
