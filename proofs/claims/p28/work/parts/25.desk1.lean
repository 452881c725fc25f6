/-! the desk: its state in the world, and its small methods -/
def oR (k : Nat) (v : Int32) : Option zK := if v = -1 then none else some (k, zN v)
def DA (n : Nat) (b2 b3 b4 b5 : Nat → Int32) (σ : zHp) : Prop := zLs σ 0 n (fun i => (3, i)) ∧ (∀ i, i < n → σ 3 i = some (oC 3 [aO (oR 3 (b2 i)), aI (b3 i), aI (b4 i), aI (b5 i)])) ∧ ∀ i, n ≤ i → σ 3 i = none
def DR (n : Nat) (b7 b8 b9 b10 : Nat → Int32) (σ : zHp) : Prop := ∃ (rk : Nat → Nat) (nr : Nat), zLs σ 1 n (fun i => (7, rk i)) ∧ (∀ i, i < n → σ 7 (rk i) = some (oC 7 [aI (b7 i), aI (b8 i), aI (b9 i), aI (b10 i)])) ∧ ∀ i, nr ≤ i → σ 7 i = none
def DS (n : Nat) (b12 b13 b14 : Nat → Int32) (σ : zHp) : Prop := zLs σ 2 n (fun i => (5, i)) ∧ (∀ i, i < n → σ 5 i = some (oC 8 [aI (nI i), aO (oR 5 (b12 i)), aI (b13 i), aI (b14 i)])) ∧ ∀ i, n ≤ i → σ 5 i = none
def chF (b16 b17 b18 b19 b20 ct : Nat → Int32) (i : Nat) : List zV := [aR 3 (zN (b16 i)), aI (b17 i), aR 30 i, aR 31 i, aI (b18 i), aI (b19 i), aI (if b18 i < 4 then -1 else b20 i), aO (oR 9 (ct i))]
def DC (n : Nat) (b16 b17 b18 b19 b20 b21 b22 ct : Nat → Int32) (σ : zHp) : Prop := zLs σ 3 n (fun i => (6, i)) ∧ (∀ i, i < n → σ 6 i = some (oC 4 (chF b16 b17 b18 b19 b20 ct i))) ∧ (∀ i, i < n → ∃ f, σ 30 i = some (iC 8 f) ∧ ∀ s, s < 8 → f s = b21 (8 * i + s)) ∧ (∀ i, i < n → ∃ f, σ 31 i = some (iC 6 f) ∧ ∀ t, t < 6 → f t = b22 (6 * i + t)) ∧ ∀ i, n ≤ i → σ 6 i = none ∧ σ 30 i = none ∧ σ 31 i = none
def DQ (n : Nat) (b25 b26 b27 b28 : Nat → Int32) (σ : zHp) : Prop := zLs σ 4 n (fun i => (9, i)) ∧ (∀ i, i < n → σ 9 i = some (oC 6 [aI (nI i), aR 6 (zN (b25 i)), aR 5 (zN (b26 i)), aI (b27 i), aI (zb (! decide (b28 i = 0)))])) ∧ ∀ i, n ≤ i → σ 9 i = none
def DF (n : Nat) (b30 : Nat → Int32) (σ : zHp) : Prop := zLs σ 5 n (fun i => (10, i)) ∧ (∀ i, i < n → σ 10 i = some (oC 5 [aR 32 i])) ∧ (∀ i, i < n → ∃ f, σ 32 i = some (iC 8 f) ∧ ∀ s, s < 8 → f s = b30 (8 * i + s)) ∧ ∀ i, n ≤ i → σ 10 i = none ∧ σ 32 i = none
def D0 (v : Int32) (σ : zHp) : Prop := σ 0 0 = some (oC 9 [aR 1 0, aR 1 1, aR 1 2, aR 1 3, aR 1 4, aR 1 5, aI v])
def DE (x : Nat → Int32) (a : Nat → Nat → Int32) (σ : zHp) : Prop := D0 (x 0) σ ∧ DA (zN (x 1)) (a 2) (a 3) (a 4) (a 5) σ ∧ DR (zN (x 6)) (a 7) (a 8) (a 9) (a 10) σ ∧ DS (zN (x 11)) (a 12) (a 13) (a 14) σ ∧ DC (zN (x 15)) (a 16) (a 17) (a 18) (a 19) (a 20) (a 21) (a 22) (fun c => cnt x a (nI c)) σ ∧ DQ (zN (x 23)) (a 25) (a 26) (a 27) (a 28) σ
def DK (x : Nat → Int32) (a : Nat → Nat → Int32) (σ : zHp) : Prop := DE x a σ ∧ DF (zN (x 29)) (a 30) σ
/-- how many quotes are approved -/
def apc (b : Nat → Int32) : Nat → Nat
  | 0 => 0
  | k + 1 => apc b k + (if b k = 0 then 0 else 1)
/-- what only the class needs -/
def zInw (x : Nat → Int32) (a : Nat → Nat → Int32) : Prop :=
  (∀ c, zN (x 15) ≤ c → a 18 c = 0) ∧ (∀ t, 8 * zN (x 15) ≤ t → a 21 t = 0) ∧ (∀ t, 6 * zN (x 15) ≤ t → a 22 t = 0) ∧
  (∀ s, zN (x 11) ≤ s → a 14 s = 0) ∧ (∀ q, zN (x 23) ≤ q → a 28 q = 0) ∧ (∀ t, 8 * zN (x 29) ≤ t → a 30 t = 0) ∧ zN (x 24) = apc (a 28) (zN (x 23))
-- the classes of exceptions
def eIO : String := "java/lang/IndexOutOfBoundsException"
def eIA : String := "java/lang/IllegalArgumentException"
def eIS : String := "java/lang/IllegalStateException"
def eNS : String := "java/util/NoSuchElementException"
/-- thrown just if p is false; the world is as before -/
def zXp (E : String) (p : Bool) (σ : zHp) : String → zHp → Prop := fun E' σ1 => E' = E ∧ p = false ∧ σ1 = σ
theorem elt3 : zElt 3 := ⟨_, rfl, by decide +kernel⟩
theorem elt4 : zElt 4 := ⟨_, rfl, by decide +kernel⟩
theorem elt5 : zElt 5 := ⟨_, rfl, by decide +kernel⟩
theorem elt6 : zElt 6 := ⟨_, rfl, by decide +kernel⟩
theorem elt7 : zElt 7 := ⟨_, rfl, by decide +kernel⟩
theorem elt8 : zElt 8 := ⟨_, rfl, by decide +kernel⟩
theorem oR_n {k : Nat} {v : Int32} (h : v = -1) : oR k v = none := if_pos h
theorem oR_s {k j : Nat} (h : j < 2 ^ 31) : oR k (nI j) = some (k, j) := by
  unfold oR
  rw [if_neg (nI_nm1 h), zN_nI h]
theorem oR_0 {k : Nat} {v : Int32} (h : oR k v = none) : v = -1 := by
  unfold oR at h
  by_cases e : v = -1
  · exact e
  · rw [if_neg e] at h; cases h
theorem inB_f {v lo hi : Int32} (h : v < lo ∨ hi < v) : inB v lo hi = false := by
  cases e : inB v lo hi with
  | false => rfl
  | true =>
    obtain ⟨h1, h2⟩ := inB_t.mp e
    rcases h with h | h
    · exact absurd h1 (Int32.not_le.mpr h)
    · exact absurd h2 (Int32.not_le.mpr h)
set_option maxRecDepth 100000 in
set_option maxHeartbeats 4000000 in
theorem c_X6_requireRange {X : zX} (l : Launch) {σ : zHp} {v lo hi : Int32} : zM X l yX6_requireRange cX6_requireRange 3 none 6 1 6 [aI v, aI lo, aI hi] σ (zPv (fun σ1 => inB v lo hi = true ∧ σ1 = σ)) (zXp eIA (inB v lo hi) σ) := by
  refine zM.of (by decide +kernel) (Nat.le_of_ble_eq_true rfl) (by simp [zcat, Value.category]) ?_
  intro p e s m args below meth c loc0 C hr hnm hT
  refine z_iload_n (i := 0) C dX6_requireRange_0 rfl rfl ?_
  refine z_iload_n (i := 1) C dX6_requireRange_1 rfl rfl ?_
  refine z_icmp_lt (tgt := 10) C dX6_requireRange_2 (by decide) (fun h2 => ?_) (fun h2 => ?_)
  · exact z_throwS (text := "an argument is out of range") C hT th_IAE rfl (by decide +kernel) dX6_requireRange_10 dX6_requireRange_13 dX6_requireRange_14 dX6_requireRange_16 dX6_requireRange_19 ⟨Nat.le_of_ble_eq_true rfl, Nat.le_of_ble_eq_true rfl⟩ ⟨Nat.le_of_ble_eq_true rfl, Nat.le_of_ble_eq_true rfl⟩ (Nat.le_of_ble_eq_true rfl) (Nat.le_of_ble_eq_true rfl) ⟨rfl, inB_f (Or.inl h2), rfl⟩
  · refine z_iload_n (i := 0) C dX6_requireRange_5 rfl rfl ?_
    refine z_iload_n (i := 2) C dX6_requireRange_6 rfl rfl ?_
    refine z_icmp_le (tgt := 20) C dX6_requireRange_7 (by decide) (fun h7 => ?_) (fun h7 => ?_)
    · exact z_vret C hr dX6_requireRange_20 (Nat.le_of_ble_eq_true rfl) (Nat.le_of_ble_eq_true rfl) ⟨rfl, inB_t.mpr ⟨Int32.not_lt.mp h2, h7⟩, rfl⟩
    · exact z_throwS (text := "an argument is out of range") C hT th_IAE rfl (by decide +kernel) dX6_requireRange_10 dX6_requireRange_13 dX6_requireRange_14 dX6_requireRange_16 dX6_requireRange_19 ⟨Nat.le_of_ble_eq_true rfl, Nat.le_of_ble_eq_true rfl⟩ ⟨Nat.le_of_ble_eq_true rfl, Nat.le_of_ble_eq_true rfl⟩ (Nat.le_of_ble_eq_true rfl) (Nat.le_of_ble_eq_true rfl) ⟨rfl, inB_f (Or.inr (Int32.not_le.mp h7)), rfl⟩

set_option maxRecDepth 100000 in
set_option maxHeartbeats 4000000 in
theorem c_X6_requireStage {X : zX} (l : Launch) {σ : zHp} {v : Int32} : zM X l yX6_requireStage cX6_requireStage 1 none 7 1 6 [aI v] σ (zPv (fun σ1 => inB v 0 5 = true ∧ σ1 = σ)) (zXp eIA (inB v 0 5) σ) := by
  refine zM.of (by decide +kernel) (Nat.le_of_ble_eq_true rfl) (by simp [zcat, Value.category]) ?_
  intro p e s m args below meth c loc0 C hr hnm hT
  refine z_iload_n (i := 0) C dX6_requireStage_0 rfl rfl ?_
  refine z_iconst (v := 0) C dX6_requireStage_1 (by decide) ?_
  refine z_iconst (v := 5) C dX6_requireStage_2 (by decide) ?_
  refine z_callS C Y_X6_requireRange sm_yX6_requireRange ml_RX6_35 (c_X6_requireRange l) dX6_requireStage_3 rfl rfl (fun _ => Nat.le_of_ble_eq_true rfl) ⟨Nat.le_of_ble_eq_true rfl, Nat.le_of_ble_eq_true rfl⟩ ⟨Nat.le_of_ble_eq_true rfl, Nat.le_of_ble_eq_true rfl⟩ (z_rv (fun σ1 hx => ?_)) (fun E9 σ9 hx => by obtain ⟨rfl, hx, rfl⟩ := hx; exact z_out hT C.2.2.2.2.2.2.2.1 (Nat.le_of_ble_eq_true rfl) (Nat.le_of_ble_eq_true rfl) ⟨rfl, hx, rfl⟩)
  obtain ⟨hx, rfl⟩ := hx
  exact z_vret C hr dX6_requireStage_6 (Nat.le_of_ble_eq_true rfl) (Nat.le_of_ble_eq_true rfl) ⟨rfl, hx, rfl⟩

set_option maxRecDepth 100000 in
set_option maxHeartbeats 4000000 in
theorem c_X6_requireRoom {X : zX} (l : Launch) {σ : zHp} {v w : Int32} : zM X l yX6_requireRoom cX6_requireRoom 2 none 6 1 6 [aI v, aI w] σ (zPv (fun σ1 => decide (v < w) = true ∧ σ1 = σ)) (zXp eIS (decide (v < w)) σ) := by
  refine zM.of (by decide +kernel) (Nat.le_of_ble_eq_true rfl) (by simp [zcat, Value.category]) ?_
  intro p e s m args below meth c loc0 C hr hnm hT
  refine z_iload_n (i := 0) C dX6_requireRoom_0 rfl rfl ?_
  refine z_iload_n (i := 1) C dX6_requireRoom_1 rfl rfl ?_
  refine z_icmp_lt (tgt := 15) C dX6_requireRoom_2 (by decide) (fun h2 => ?_) (fun h2 => ?_)
  · exact z_vret C hr dX6_requireRoom_15 (Nat.le_of_ble_eq_true rfl) (Nat.le_of_ble_eq_true rfl) ⟨rfl, decide_eq_true h2, rfl⟩
  · exact z_throwS (text := "there are as many as there can be") C hT th_ISE rfl (by decide +kernel) dX6_requireRoom_5 dX6_requireRoom_8 dX6_requireRoom_9 dX6_requireRoom_11 dX6_requireRoom_14 ⟨Nat.le_of_ble_eq_true rfl, Nat.le_of_ble_eq_true rfl⟩ ⟨Nat.le_of_ble_eq_true rfl, Nat.le_of_ble_eq_true rfl⟩ (Nat.le_of_ble_eq_true rfl) (Nat.le_of_ble_eq_true rfl) ⟨rfl, decide_eq_false h2, rfl⟩

set_option maxRecDepth 100000 in
set_option maxHeartbeats 4000000 in
theorem c_X6_hundredths {X : zX} (l : Launch) {σ : zHp} {v w : Int32} : zM X l yX6_hundredths cX6_hundredths 2 (some .int) 0 0 0 [aI v, aI w] σ (zPi (fun r σ1 => r = v * w / 100 ∧ σ1 = σ)) zNx := by
  refine zM.of (by decide +kernel) (Nat.le_of_ble_eq_true rfl) (by simp [zcat, Value.category]) ?_
  intro p e s m args below meth c loc0 C hr hnm hT
  refine z_iload_n (i := 0) C dX6_hundredths_0 rfl rfl ?_
  refine z_iload_n (i := 1) C dX6_hundredths_1 rfl rfl ?_
  refine z_imul C dX6_hundredths_2 ?_
  refine z_bipush (v := 100) C dX6_hundredths_3 (by decide) ?_
  refine z_idiv C dX6_hundredths_5 (by decide) ?_
  exact z_iret C hr rfl dX6_hundredths_6 (Nat.le_of_ble_eq_true rfl) (Nat.le_of_ble_eq_true rfl) ⟨_, rfl, rfl, rfl⟩

set_option maxRecDepth 100000 in
set_option maxHeartbeats 4000000 in
theorem c_X6_isOpen {X : zX} (l : Launch) {σ : zHp} {a : Nat → Nat → Int32} {b20 ct : Nat → Int32} {i : Nat} (hσ : σ 6 i = some (oC 4 (chF (a 16) (a 17) (a 18) (a 19) b20 ct i))) : zM X l yX6_isOpen cX6_isOpen 1 (some .boolean) 0 0 0 [aR 6 i] σ (zPi (fun r σ1 => r = zb (opnB a i) ∧ σ1 = σ)) zNx := by
  refine zM.of (by decide +kernel) (Nat.le_of_ble_eq_true rfl) (by simp [zcat, Value.category]) ?_
  intro p e s m args below meth c loc0 C hr hnm hT
  refine z_aload_n (i := 0) C dX6_isOpen_0 rfl rfl ?_
  refine z_getf C f_RX6_157 dX6_isOpen_1 hσ rfl ?_
  refine z_iconst (v := 4) C dX6_isOpen_4 (by decide) ?_
  refine z_icmp_ge (tgt := 12) C dX6_isOpen_5 (by decide) (fun h5 => ?_) (fun h5 => ?_)
  · refine z_iconst (v := 0) C dX6_isOpen_12 (by decide) ?_
    exact z_iret C hr rfl dX6_isOpen_13 (Nat.le_of_ble_eq_true rfl) (Nat.le_of_ble_eq_true rfl) ⟨_, rfl, zbf (decide_eq_false (Int32.not_lt.mpr h5)), rfl⟩
  · refine z_iconst (v := 1) C dX6_isOpen_8 (by decide) ?_
    refine z_goto (tgt := 13) C dX6_isOpen_9 (by decide) ?_
    exact z_iret C hr rfl dX6_isOpen_13 (Nat.le_of_ble_eq_true rfl) (Nat.le_of_ble_eq_true rfl) ⟨_, rfl, zbt (decide_eq_true (Int32.not_le.mp h5)), rfl⟩

set_option maxRecDepth 100000 in
set_option maxHeartbeats 4000000 in
theorem c_X6_requireOpen {X : zX} (l : Launch) {σ : zHp} {a : Nat → Nat → Int32} {b20 ct : Nat → Int32} {i : Nat} (hσ : σ 6 i = some (oC 4 (chF (a 16) (a 17) (a 18) (a 19) b20 ct i))) : zM X l yX6_requireOpen cX6_requireOpen 1 none 6 1 6 [aR 6 i] σ (zPv (fun σ1 => opnB a i = true ∧ σ1 = σ)) (zXp eIS (opnB a i) σ) := by
  refine zM.of (by decide +kernel) (Nat.le_of_ble_eq_true rfl) (by simp [zcat, Value.category]) ?_
  intro p e s m args below meth c loc0 C hr hnm hT
  refine z_aload_n (i := 0) C dX6_requireOpen_0 rfl rfl ?_
  refine z_callS C Y_X6_isOpen sm_yX6_isOpen ml_RX6_160 (c_X6_isOpen l hσ) dX6_requireOpen_1 rfl rfl (fun _ => Nat.le_of_ble_eq_true rfl) ⟨Nat.le_of_ble_eq_true rfl, Nat.le_of_ble_eq_true rfl⟩ ⟨Nat.le_of_ble_eq_true rfl, Nat.le_of_ble_eq_true rfl⟩ (z_ri (fun x σ1 hx => ?_)) (z_nx)
  obtain ⟨rfl, rfl⟩ := hx
  refine z_if_neB (tgt := 17) C dX6_requireOpen_4 (by decide) (fun h4 => ?_) (fun h4 => ?_)
  · exact z_vret C hr dX6_requireOpen_17 (Nat.le_of_ble_eq_true rfl) (Nat.le_of_ble_eq_true rfl) ⟨rfl, h4, rfl⟩
  · exact z_throwS (text := "the chance is won or lost") C hT th_ISE rfl (by decide +kernel) dX6_requireOpen_7 dX6_requireOpen_10 dX6_requireOpen_11 dX6_requireOpen_13 dX6_requireOpen_16 ⟨Nat.le_of_ble_eq_true rfl, Nat.le_of_ble_eq_true rfl⟩ ⟨Nat.le_of_ble_eq_true rfl, Nat.le_of_ble_eq_true rfl⟩ (Nat.le_of_ble_eq_true rfl) (Nat.le_of_ble_eq_true rfl) ⟨rfl, h4, rfl⟩

set_option maxRecDepth 100000 in
set_option maxHeartbeats 4000000 in
theorem c_X6_at {X : zX} (l : Launch) {σ : zHp} {k i n j : Nat} {f : Nat → Int32} (hσ : σ k i = some (iC n f)) (hj : j < n) (hn : n ≤ 1000) : zM X l yX6_at cX6_at 2 (some .int) 0 0 0 [aR k i, aI (nI j)] σ (zPi (fun r σ1 => r = f j ∧ σ1 = σ)) zNx := by
  refine zM.of (by decide +kernel) (Nat.le_of_ble_eq_true rfl) (by simp [zcat, Value.category]) ?_
  intro p e s m args below meth c loc0 C hr hnm hT
  refine z_iload_n (i := 1) C dX6_at_0 rfl rfl ?_
  refine z_if_lt (tgt := 16) C dX6_at_1 (by decide) (fun h => absurd h (nI_pos (by omega))) (fun _ => ?_)
  refine z_iload_n (i := 1) C dX6_at_4 rfl rfl ?_
  refine z_aload_n (i := 0) C dX6_at_5 rfl rfl ?_
  refine z_alenI C dX6_at_6 hσ ?_
  refine z_icmp_ge (tgt := 16) C dX6_at_7 (by decide) (fun h => absurd h (nI_ge (by omega) (by omega))) (fun _ => ?_)
  refine z_aload_n (i := 0) C dX6_at_10 rfl rfl ?_
  refine z_iload_n (i := 1) C dX6_at_11 rfl rfl ?_
  refine z_ialdN C dX6_at_12 hσ hj hn ?_
  refine z_goto (tgt := 17) C dX6_at_13 (by decide) ?_
  exact z_iret C hr rfl dX6_at_17 (Nat.le_of_ble_eq_true rfl) (Nat.le_of_ble_eq_true rfl) ⟨_, rfl, rfl, rfl⟩

set_option maxRecDepth 100000 in
set_option maxHeartbeats 4000000 in
theorem c_X6_addTo {X : zX} (l : Launch) {σ : zHp} {k i n j : Nat} {f : Nat → Int32} {v : Int32} (hσ : σ k i = some (iC n f)) (hk : k < 90) (hj : j < n) (hn : n ≤ 1000) : zM X l yX6_addTo cX6_addTo 3 none 0 0 0 [aR k i, aI (nI j), aI v] σ (zPv (fun σ1 => σ1 = zput σ k i (iC n (upd f j (f j + v))))) zNx := by
  refine zM.of (by decide +kernel) (Nat.le_of_ble_eq_true rfl) (by simp [zcat, Value.category]) ?_
  intro p e s m args below meth c loc0 C hr hnm hT
  refine z_iload_n (i := 1) C dX6_addTo_0 rfl rfl ?_
  refine z_if_lt (tgt := 17) C dX6_addTo_1 (by decide) (fun h => absurd h (nI_pos (by omega))) (fun _ => ?_)
  refine z_iload_n (i := 1) C dX6_addTo_4 rfl rfl ?_
  refine z_aload_n (i := 0) C dX6_addTo_5 rfl rfl ?_
  refine z_alenI C dX6_addTo_6 hσ ?_
  refine z_icmp_ge (tgt := 17) C dX6_addTo_7 (by decide) (fun h => absurd h (nI_ge (by omega) (by omega))) (fun _ => ?_)
  refine z_aload_n (i := 0) C dX6_addTo_10 rfl rfl ?_
  refine z_iload_n (i := 1) C dX6_addTo_11 rfl rfl ?_
  refine z_dup2 C (by first | trivial | rfl) (by first | trivial | rfl) dX6_addTo_12 ?_
  refine z_ialdN C dX6_addTo_13 hσ hj hn ?_
  refine z_iload_n (i := 2) C dX6_addTo_14 rfl rfl ?_
  refine z_iadd C dX6_addTo_15 ?_
  refine z_iastN C dX6_addTo_16 hσ hk hj hn ?_
  exact z_vret C hr dX6_addTo_17 (Nat.le_of_ble_eq_true rfl) (Nat.le_of_ble_eq_true rfl) ⟨rfl, rfl⟩

