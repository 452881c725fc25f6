/-! sums and trees -/
def sumL (f : Nat → Int32) : Nat → Int32
  | 0 => 0
  | n + 1 => sumL f n + f n
theorem sumL_cg {f g : Nat → Int32} : ∀ {n : Nat}, (∀ j, j < n → f j = g j) → sumL f n = sumL g n
  | 0, _ => rfl
  | n + 1, h => by
    rw [sumL, sumL, sumL_cg (fun j hj => h j (by omega)), h n (by omega)]
theorem sumL_z {f : Nat → Int32} : ∀ {n : Nat}, (∀ j, j < n → f j = 0) → sumL f n = 0
  | 0, _ => rfl
  | n + 1, h => by
    rw [sumL, sumL_z (fun j hj => h j (by omega)), h n (by omega)]
    rfl
theorem i4 (a b c d : Int32) : a + b + (c + d) = a + c + (b + d) := by
  rw [Int32.add_assoc, Int32.add_assoc, ← Int32.add_assoc b, ← Int32.add_assoc c, Int32.add_comm b c]
theorem sumL_add {f g : Nat → Int32} : ∀ {n : Nat}, sumL (fun j => f j + g j) n = sumL f n + sumL g n
  | 0 => rfl
  | n + 1 => by
    rw [sumL, sumL, sumL, sumL_add]
    exact i4 _ _ _ _
theorem sumL_one {f : Nat → Int32} {p : Nat} : ∀ {n : Nat}, p < n → (∀ j, j < n → j ≠ p → f j = 0) → sumL f n = f p
  | 0, h, _ => absurd h (Nat.not_lt_zero _)
  | n + 1, h, hz => by
    rw [sumL]
    by_cases e : n = p
    · subst e
      rw [sumL_z (fun j hj => hz j (by omega) (by omega))]
      exact Int32.zero_add _
    · rw [sumL_one (by omega) (fun j hj => hz j (by omega)), hz n (by omega) e]
      exact Int32.add_zero _
theorem sumL_comm {f : Nat → Nat → Int32} {m : Nat} : ∀ {n : Nat}, sumL (fun i => sumL (fun j => f i j) m) n = sumL (fun j => sumL (fun i => f i j) n) m
  | 0 => by
    rw [sumL, sumL_z]
    intro j _
    rfl
  | n + 1 => by
    rw [sumL, sumL_comm (n := n), ← sumL_add]
    exact sumL_cg (fun j _ => rfl)
theorem cnd_z {b : Bool} : cond b (0 : Int32) 0 = 0 := by cases b <;> rfl
theorem cnd_s {b : Bool} {f : Nat → Int32} {n : Nat} : cond b (sumL f n) 0 = sumL (fun j => cond b (f j) 0) n := by
  cases b with
  | true => rfl
  | false => exact (sumL_z (fun _ _ => rfl)).symm
/-- a tree: par the one right above; B k i: i is k or below it -/
def Tr (par : Nat → Int32) (B : Nat → Nat → Bool) (n : Nat) : Prop := (∀ i, i < n → zUp (par i) i) ∧ (∀ i k, i < n → k < n → par i = -1 → B k i = decide (i = k)) ∧ ∀ i k p, i < n → k < n → p < i → par i = nI p → B k i = (decide (i = k) || B k p)
theorem Tr.le {par : Nat → Int32} {B : Nat → Nat → Bool} {n : Nat} (h : Tr par B n) {k : Nat} (hk : k < n) : ∀ i, i < n → B k i = true → k ≤ i := by
  intro i
  induction i using Nat.strongRecOn with
  | _ i ih =>
    intro hi hb
    rcases h.1 i hi with e | ⟨p, hp, e⟩
    · rw [h.2.1 i k hi hk e] at hb
      have := of_decide_eq_true hb
      omega
    · rw [h.2.2 i k p hi hk hp e] at hb
      rcases Bool.or_eq_true_iff.mp hb with hb | hb
      · have := of_decide_eq_true hb
        omega
      · have := ih p hp (by omega) hb
        omega
theorem Tr.nle {par : Nat → Int32} {B : Nat → Nat → Bool} {n : Nat} (h : Tr par B n) {k i : Nat} (hi : i < n) (hkn : k < n) (hk : i < k) : B k i = false := by
  cases hb : B k i with
  | false => rfl
  | true => have := h.le hkn i hi hb; omega
theorem Tr.sum {par : Nat → Int32} {B : Nat → Nat → Bool} {n : Nat} (h : Tr par B n) (hn : n ≤ 1000) {k : Nat} (hk : k < n) (v : Int32) : ∀ i, i < n → cond (B k i) v 0 = cond (decide (i = k)) v 0 + sumL (fun j => cond (decide (par j = nI k)) (cond (B j i) v 0) 0) n := by
  intro i
  induction i using Nat.strongRecOn with
  | _ i ih =>
    intro hi
    rcases h.1 i hi with e | ⟨p, hp, e⟩
    · rw [h.2.1 i k hi hk e, sumL_z, Int32.add_zero]
      intro j hj
      by_cases ej : i = j
      · subst ej
        rw [e, decide_eq_false (fun z => nI_nm1 (by omega) z.symm)]
        rfl
      · rw [h.2.1 i j hi hj e, decide_eq_false ej]
        exact cnd_z
    · rw [h.2.2 i k p hi hk hp e]
      by_cases ek : i = k
      · subst ek
        rw [decide_eq_true rfl, Bool.true_or, sumL_z]
        · exact (Int32.add_zero _).symm
        intro j hj
        by_cases ej : par j = nI i
        · have hji : i < j := by
            rcases h.1 j hj with e1 | ⟨q, hq, e1⟩
            · rw [e1] at ej
              exact absurd ej.symm (nI_nm1 (by omega))
            · have := (nI_eq (by omega) (by omega)).mp (e1.symm.trans ej)
              omega
          rw [h.nle hi hj hji]
          exact cnd_z
        · rw [decide_eq_false ej]
          rfl
      · rw [decide_eq_false ek, Bool.false_or, ih p hp (by omega)]
        have hrow : ∀ j, j < n → cond (decide (par j = nI k)) (cond (B j i) v 0) 0 = cond (decide (j = i)) (cond (decide (p = k)) v 0) 0 + cond (decide (par j = nI k)) (cond (B j p) v 0) 0 := by
          intro j hj
          by_cases ej : j = i
          · subst ej
            rw [h.nle (by omega : p < n) hi hp, cond_false, cnd_z, Int32.add_zero, decide_eq_true rfl, cond_true, h.2.2 j j p hi hi hp e, decide_eq_true rfl, Bool.true_or, cond_true, e]
            congr 1
            exact decide_eq_decide.mpr (nI_eq (by omega) (by omega))
          · rw [decide_eq_false ej, cond_false, Int32.zero_add, h.2.2 i j p hi hj hp e, decide_eq_false (show ¬ i = j from fun z => ej z.symm), Bool.false_or]
        have h1 : sumL (fun j => cond (decide (j = i)) (cond (decide (p = k)) v 0) 0) n = cond (decide (p = k)) v 0 := by
          rw [sumL_one hi (fun j _ hj => by rw [decide_eq_false hj]; rfl), decide_eq_true rfl]
          rfl
        rw [sumL_cg hrow, sumL_add, h1, cond_false, Int32.zero_add]
theorem Tr.root {par : Nat → Int32} {B : Nat → Nat → Bool} {n : Nat} (h : Tr par B n) (hn : n ≤ 1000) (v : Int32) : ∀ i, i < n → sumL (fun k => cond (decide (par k < 0)) (cond (B k i) v 0) 0) n = v := by
  intro i
  induction i using Nat.strongRecOn with
  | _ i ih =>
    intro hi
    rcases h.1 i hi with e | ⟨p, hp, e⟩
    · rw [sumL_one hi]
      · rw [e, h.2.1 i i hi hi e, decide_eq_true rfl]
        rfl
      · intro j hj hji
        rw [h.2.1 i j hi hj e, decide_eq_false (show ¬ i = j from fun z => hji z.symm)]
        exact cnd_z
    · rw [← ih p hp (by omega)]
      apply sumL_cg
      intro j hj
      by_cases ej : i = j
      · subst ej
        rw [decide_eq_false (by rw [e]; exact nI_pos (by omega))]
        rfl
      · rw [h.2.2 i j p hi hj hp e, decide_eq_false ej, Bool.false_or, ih p hp (by omega)]
def sumN (f : Nat → Nat) : Nat → Nat
  | 0 => 0
  | n + 1 => sumN f n + f n
theorem sumN_cg {f g : Nat → Nat} : ∀ {n : Nat}, (∀ j, j < n → f j = g j) → sumN f n = sumN g n
  | 0, _ => rfl
  | n + 1, h => by
    rw [sumN, sumN, sumN_cg (fun j hj => h j (by omega)), h n (by omega)]
theorem sumN_z {f : Nat → Nat} : ∀ {n : Nat}, (∀ j, j < n → f j = 0) → sumN f n = 0
  | 0, _ => rfl
  | n + 1, h => by
    rw [sumN, sumN_z (fun j hj => h j (by omega)), h n (by omega)]
theorem sumN_add {f g : Nat → Nat} : ∀ {n : Nat}, sumN (fun j => f j + g j) n = sumN f n + sumN g n
  | 0 => rfl
  | n + 1 => by
    rw [sumN, sumN, sumN, sumN_add]
    omega
theorem sumN_comm {f : Nat → Nat → Nat} {m : Nat} : ∀ {n : Nat}, sumN (fun i => sumN (fun j => f i j) m) n = sumN (fun j => sumN (fun i => f i j) n) m
  | 0 => by
    rw [sumN, sumN_z]
    intro j _
    rfl
  | n + 1 => by
    rw [sumN, sumN_comm (n := n), ← sumN_add]
    exact sumN_cg (fun j _ => rfl)
theorem sumN_le {f g : Nat → Nat} : ∀ {n : Nat}, (∀ j, j < n → f j ≤ g j) → sumN f n ≤ sumN g n
  | 0, _ => Nat.le_refl _
  | n + 1, h => Nat.add_le_add (sumN_le (fun j hj => h j (by omega))) (h n (by omega))
theorem sumN_k {f : Nat → Nat} {k : Nat} : ∀ {n : Nat}, (∀ j, j < n → f j ≤ k) → sumN f n ≤ k * n
  | 0, _ => Nat.zero_le _
  | n + 1, h => by
    have h1 := sumN_k (n := n) (fun j hj => h j (by omega))
    have h2 := h n (by omega)
    rw [sumN, Nat.mul_succ]
    omega
theorem sumN_mul {f : Nat → Nat} {k : Nat} : ∀ {n : Nat}, sumN (fun j => k * f j) n = k * sumN f n
  | 0 => rfl
  | n + 1 => by rw [sumN, sumN, sumN_mul, Nat.mul_add]
theorem sumN_t {f : Nat → Nat} : ∀ {m n : Nat}, m ≤ n → (∀ j, m ≤ j → j < n → f j = 0) → sumN f n = sumN f m
  | m, 0, h, _ => by rw [show m = 0 by omega]
  | m, n + 1, h, hz => by
    by_cases e : m = n + 1
    · rw [e]
    · rw [sumN, sumN_t (by omega : m ≤ n) (fun j h1 h2 => hz j h1 (by omega)), hz n (by omega) (by omega)]
      rfl
theorem sumN_u {f : Nat → Nat} {i v : Nat} : ∀ {n : Nat}, i < n → sumN (fun j => if j = i then v else f j) n + f i = sumN f n + v
  | 0, h => absurd h (Nat.not_lt_zero _)
  | n + 1, h => by
    rw [sumN, sumN]
    by_cases e : n = i
    · subst e
      rw [if_pos rfl, sumN_cg (f := fun j => if j = n then v else f j) (g := f) (fun j hj => if_neg (by omega))]
      omega
    · have := sumN_u (f := f) (i := i) (v := v) (n := n) (by omega)
      rw [if_neg e]
      omega
/-- what is lost by rounding twice -/
theorem two_cut {w p g : Nat} (hg : g ≤ 100) : w * p * g ≤ 10000 * (w * p / 100 * g / 100) + 19800 := by
  have h1 : w * p ≤ 100 * (w * p / 100) + 99 := by omega
  have h2 : w * p * g ≤ (100 * (w * p / 100) + 99) * g := Nat.mul_le_mul_right g h1
  rw [Nat.add_mul, Nat.mul_assoc 100] at h2
  have h3 : 99 * g ≤ 9900 := by omega
  generalize w * p / 100 * g = y at h2 ⊢
  omega
