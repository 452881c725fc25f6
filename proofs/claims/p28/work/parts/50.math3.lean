/-! what chances weigh -/
def wN (x : Nat → Int32) (a : Nat → Nat → Int32) (c : Nat) : Nat := zN (wrt x a c)
def stN (a : Nat → Nat → Int32) (c : Nat) : Nat := zN (a 18 c)
theorem cnt_r {x : Nat → Int32} {a : Nat → Nat → Int32} {q : Int32} : cnt x a q = -1 ∨ ∃ j, j < zN (x 23) ∧ cnt x a q = nI j := cntL_rng a q _
theorem wrt_N {x : Nat → Int32} {a : Nat → Nat → Int32} (hI : zIv x a) (hJ : ZJ x a) {c : Nat} (hc : c < zN (x 15)) : wN x a c ≤ 1000000 ∧ wrt x a c = nI (wN x a c) := by
  have h : ∃ w, w ≤ 1000000 ∧ wrt x a c = nI w := by
    obtain ⟨-, -, -, -, -, hV, -, -, hQ⟩ := hJ
    obtain ⟨v, hv, ev⟩ := hV c hc
    obtain ⟨⟨i0, i1, i6, i11, i15, i23, i24, i29, iA, iS, iC, iQ, iP⟩, -⟩ := hI
    have b23 := i23.2
    unfold wrt
    rcases cnt_r (x := x) (a := a) (q := nI c) with e | ⟨q, hq, e⟩
    · rw [if_pos e]
      exact ⟨v, hv, ev⟩
    · obtain ⟨d, hd, ed⟩ := hQ q hq
      rw [e, if_neg (nI_nm1 (by omega)), zN_nI (by omega), ev, ed, show (100 : Int32) = nI 100 from rfl, pk_sub (by omega), pk_mul]
      have h1 : v * (100 - d) ≤ 1000000 * 100 := Nat.mul_le_mul hv (by omega)
      rw [pk_div (by omega) (by decide) (by decide)]
      exact ⟨_, by omega, rfl⟩
  obtain ⟨w, hw, e⟩ := h
  unfold wN
  rw [e, zN_nI (by omega)]
  exact ⟨hw, rfl⟩
theorem st_N {x : Nat → Int32} {a : Nat → Nat → Int32} (hI : zIv x a) {c : Nat} (hc : c < zN (x 15)) : stN a c ≤ 5 ∧ a 18 c = nI (stN a c) := by
  obtain ⟨⟨i0, i1, i6, i11, i15, i23, i24, i29, iA, iS, iC, iQ, iP⟩, -⟩ := hI
  obtain ⟨-, t, ht, e⟩ := iC c hc
  unfold stN
  rw [e, zN_nI (by omega)]
  exact ⟨ht, rfl⟩
def shN (a : Nat → Nat → Int32) (c s : Nat) : Nat := zN (a 21 (8 * c + s))
def f2N (x : Nat → Int32) (a : Nat → Nat → Int32) (c s : Nat) : Nat := wN x a c * shN a c s / 100 * wgN (stN a c) / 100
theorem wgN_le {t : Nat} : wgN t ≤ 100 := by
  by_cases h : t ≤ 5
  · rcases (show t = 0 ∨ t = 1 ∨ t = 2 ∨ t = 3 ∨ t = 4 ∨ t = 5 by omega) with rfl | rfl | rfl | rfl | rfl | rfl <;> decide
  · obtain ⟨k, rfl⟩ : ∃ k, t = k + 6 := ⟨t - 6, by omega⟩
    exact Nat.zero_le _
theorem f2_le {x : Nat → Int32} {a : Nat → Nat → Int32} (hI : zIv x a) (hJ : ZJ x a) {c s : Nat} (hc : c < zN (x 15)) (hs : s < 8) : f2N x a c s ≤ 1000000 ∧ wrt x a c * a 21 (8 * c + s) / 100 * wgt (a 18 c) / 100 = nI (f2N x a c s) := by
  obtain ⟨h1, e1⟩ := wrt_N hI hJ hc
  obtain ⟨h2, e2⟩ := st_N hI hc
  obtain ⟨-, -, -, -, -, -, ⟨hS, -⟩, -⟩ := hJ
  obtain ⟨p, hp, ep⟩ := hS c s hc hs
  have es : shN a c s = p := by unfold shN; rw [ep, zN_nI (by omega)]
  have b1 : wN x a c * p ≤ 1000000 * 100 := Nat.mul_le_mul h1 hp
  have hw := @wgN_le (stN a c)
  have b2 : wN x a c * p / 100 * wgN (stN a c) ≤ 1000000 * 100 := Nat.mul_le_mul (by omega) hw
  unfold f2N
  rw [es]
  refine ⟨by omega, ?_⟩
  rw [ep, e2, wgt_N h2, show wrt x a c * nI p = nI (wN x a c) * nI p by rw [← e1], pk_mul, show (100 : Int32) = nI 100 from rfl, pk_div (by omega) (by decide) (by decide), pk_mul, pk_div (by omega) (by decide) (by decide)]
def ownN (x : Nat → Int32) (a : Nat → Nat → Int32) (s : Nat) : Nat := sumN (fun c => f2N x a c s) (zN (x 15))
theorem ownS_N {x : Nat → Int32} {a : Nat → Nat → Int32} (hI : zIv x a) (hJ : ZJ x a) {s : Nat} (hs : s < 8) : ownN x a s ≤ 16000000 ∧ ownS x a s = nI (ownN x a s) := by
  have h : ∀ n, n ≤ zN (x 15) → ownL x a s n = nI (sumN (fun c => f2N x a c s) n) := by
    intro n
    induction n with
    | zero => intro _; rfl
    | succ n ih =>
      intro hn
      rw [ownL, sumN, ih (by omega), (f2_le hI hJ (by omega) hs).2, nI_add]
  refine ⟨?_, h _ (Nat.le_refl _)⟩
  have h1 : sumN (fun c => f2N x a c s) (zN (x 15)) ≤ 1000000 * zN (x 15) := sumN_k (fun c hc => (f2_le hI hJ hc hs).1)
  have h2 := hJ.1.1
  unfold ownN
  omega
def mstN (x : Nat → Int32) (a : Nat → Nat → Int32) (c : Nat) : Nat := wN x a c * wgN (stN a c) / 100
theorem mst_le {x : Nat → Int32} {a : Nat → Nat → Int32} (hI : zIv x a) (hJ : ZJ x a) {c : Nat} (hc : c < zN (x 15)) : mstN x a c ≤ 1000000 ∧ wN x a c * wgN (stN a c) ≤ 100000000 := by
  obtain ⟨h1, e1⟩ := wrt_N hI hJ hc
  have b2 : wN x a c * wgN (stN a c) ≤ 1000000 * 100 := Nat.mul_le_mul h1 wgN_le
  unfold mstN
  omega
def frN (x : Nat → Int32) (a : Nat → Nat → Int32) (c : Nat) : Nat := if stN a c = 5 then 0 else 2 * zN (x 11)
theorem own_ge {x : Nat → Int32} {a : Nat → Nat → Int32} (hI : zIv x a) (hJ : ZJ x a) : sumN (mstN x a) (zN (x 15)) ≤ sumN (ownN x a) (zN (x 11)) + sumN (frN x a) (zN (x 15)) := by
  have b11 := hI.1.2.2.2.1.2
  unfold ownN
  rw [sumN_comm (f := fun s c => f2N x a c s), ← sumN_add]
  apply sumN_le
  intro c hc
  obtain ⟨h2, e2⟩ := st_N hI hc
  obtain ⟨-, -, -, -, -, -, ⟨hS, hS1, hS2⟩, -⟩ := hJ
  have hw := @wgN_le (stN a c)
  have hp : sumN (shN a c) (zN (x 11)) = 100 := by
    rw [← hS1 c hc]
    exact (sumN_t b11 (fun j h1 h2 => by unfold shN; rw [hS2 c j hc h1 h2]; rfl)).symm
  have h3 : sumN (fun s => wN x a c * shN a c s * wgN (stN a c)) (zN (x 11)) ≤ sumN (fun s => 10000 * f2N x a c s + 19800) (zN (x 11)) := sumN_le (fun s _ => two_cut hw)
  have h4 : sumN (fun s => wN x a c * shN a c s * wgN (stN a c)) (zN (x 11)) = wN x a c * wgN (stN a c) * 100 := by
    rw [← hp, ← sumN_mul]
    exact sumN_cg (fun s _ => by rw [Nat.mul_assoc, Nat.mul_comm (shN a c s), ← Nat.mul_assoc])
  have h5 : sumN (fun s => 10000 * f2N x a c s + 19800) (zN (x 11)) = 10000 * sumN (f2N x a c) (zN (x 11)) + sumN (fun _ => 19800) (zN (x 11)) := by
    rw [sumN_add, sumN_mul]
  have h6 : ∀ n, sumN (fun _ => 19800) n = 19800 * n := by
    intro n
    induction n with
    | zero => rfl
    | succ n ih => rw [sumN, ih]; omega
  rw [h4, h5, h6] at h3
  unfold mstN frN
  by_cases e5 : stN a c = 5
  · rw [e5, show wgN 5 = 0 from rfl, Nat.mul_zero]
    omega
  · rw [if_neg e5]
    show _ ≤ sumN (fun i => f2N x a c i) _ + _
    generalize wN x a c * wgN (stN a c) = y at h3 ⊢
    have h7 : sumN (f2N x a c) (zN (x 11)) = sumN (fun i => f2N x a c i) (zN (x 11)) := rfl
    rw [← h7]
    omega
