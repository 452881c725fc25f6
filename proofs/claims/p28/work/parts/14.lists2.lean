/-! lists: writes -/
theorem z_keyne {σ : zHp} {k g : Nat} {q : zK} {c : zCell} (h0 : σ k g = none) (h2 : σ q.1 q.2 = some c) : ¬ (q.1 = k ∧ q.2 = g) := fun e => by
  rw [e.1, e.2, h0] at h2
  cases h2
theorem z_shr1 {n : Nat} (h : n < 2 ^ 31) : nI n >>> ((1 : Int32) &&& 31) = nI (n / 2) := by
  have k := pk_shrN h ((1 : Int32) &&& 31) 1 (by decide)
  rw [Nat.pow_one] at k
  exact k
set_option maxRecDepth 100000 in
set_option maxHeartbeats 4000000 in
theorem c_J8_newLength_cabcc {X : zX} (l : Launch) {σ : zHp} {a b d : Nat} {x y z : Int32} (hx : x = nI a) (hy : y = nI b) (hz : z = nI d) (ha : a ≤ 1000) (hb : b ≤ 1000) (hd : d ≤ 1000) (h0 : 0 < a + max b d) : zM X l yJ8_newLength_cabcc cJ8_newLength_cabcc 4 (some .int) 1 0 0 [aI x, aI y, aI z] σ (zPi (fun r σ1 => r = nI (a + max b d) ∧ σ1 = σ)) zNx := by
  subst hx hy hz
  refine zM.of (by decide +kernel) (Nat.le_of_ble_eq_true rfl) (by simp [zcat, Value.category]) ?_
  intro p e s m args below meth c loc0 C hr hnm hT
  refine z_iload_n (i := 0) C dJ8_newLength_cabcc_0 rfl rfl ?_
  refine z_iload_n (i := 1) C dJ8_newLength_cabcc_1 rfl rfl ?_
  refine z_iload_n (i := 2) C dJ8_newLength_cabcc_2 rfl rfl ?_
  refine z_mmax C dJ8_newLength_cabcc_3 ⟨ml_RJ8_194, sm_Lib_Math_max_name, ini_Math, co_Lib_Math_max_name⟩ ⟨Nat.le_of_ble_eq_true rfl, Nat.le_of_ble_eq_true rfl, Nat.zero_le _, Nat.zero_le _⟩ (fun _ => Nat.le_of_ble_eq_true rfl) ?_
  rw [show (if nI b < nI d then nI d else nI b) = nI (max b d) by
    by_cases hlt : b < d
    · rw [if_pos (nI_lt hlt (by omega)), Nat.max_eq_right (by omega)]
    · rw [if_neg (nI_nlt (by omega) (by omega)), Nat.max_eq_left (by omega)]]
  refine z_iadd C dJ8_newLength_cabcc_6 ?_
  rw [nI_add]
  refine z_istore_n (i := 3) C dJ8_newLength_cabcc_7 rfl (by decide) ?_
  refine z_iconst (v := 0) C dJ8_newLength_cabcc_8 (by decide) ?_
  refine z_iload_n (i := 3) C dJ8_newLength_cabcc_9 rfl rfl ?_
  refine z_icmp_ge (tgt := 21) C dJ8_newLength_cabcc_10 (by decide) (fun h10 => ?_) (fun h10 => ?_)
  · exact absurd h10 (nI_nle (by omega) (by omega))
  · refine z_iload_n (i := 3) C dJ8_newLength_cabcc_13 rfl rfl ?_
    refine z_ldc C dJ8_newLength_cabcc_14 kc_RJ8_200 ?_
    refine z_icmp_gt (tgt := 21) C dJ8_newLength_cabcc_16 (by decide) (fun h16 => ?_) (fun h16 => ?_)
    · exact absurd h16 (show ¬ nI 2147483639 < nI (a + max b d) from nI_nlt (by omega) (by decide))
    · refine z_iload_n (i := 3) C dJ8_newLength_cabcc_19 rfl rfl ?_
      exact z_iret C hr rfl dJ8_newLength_cabcc_20 (Nat.le_of_ble_eq_true rfl) (Nat.le_of_ble_eq_true rfl) ⟨_, rfl, rfl, rfl⟩

set_option maxRecDepth 100000 in
set_option maxHeartbeats 4000000 in
theorem c_J7_copyOf_6403c {X : zX} (l : Launch) {σ : zHp} {q : zK} {n N k g : Nat} {f : Nat → Option zK} (h2 : σ q.1 q.2 = some (rC n f)) (hq9 : q.1 < 90) (h0 : σ k g = none) (hk : k < 90) (hN : n ≤ N) (hb : N ≤ 60) (hel : ∀ i, i < n → ∀ y, f i = some y → ∃ ci fs, σ y.1 y.2 = some (oC ci fs) ∧ zElt ci) : zM X l yJ7_copyOf_6403c cJ7_copyOf_6403c 4 (some (.array (.object "java/lang/Object"))) 2 1 60 [.inr q, aI (nI N), .inl (.ref X.2.2.2.2.2)] σ (zPr (fun r σ1 => r = (k, g) ∧ ∃ f1, σ1 = zput (zput σ k g (rC N (fun _ => none))) k g (rC N f1) ∧ ∀ i, i < n → f1 i = f i)) zNx := by
  refine zM.of (by decide +kernel) (Nat.le_of_ble_eq_true rfl) (by simp [zcat, Value.category]) ?_
  intro p e s m args below meth c loc0 C hr hnm hT
  refine z_aload_nQ (i := 2) C dJ7_copyOf_6403c_0 rfl rfl ?_
  refine z_ldcM C dJ7_copyOf_6403c_1 kl_RJ7_110 ?_
  refine z_acmp_neM (tgt := 13) C dJ7_copyOf_6403c_3 (by decide) ?_
  refine z_iload_n (i := 1) C dJ7_copyOf_6403c_6 rfl rfl ?_
  refine z_anew (N := N) C k g dJ7_copyOf_6403c_7 kl_RJ7_2 hk h0 (nI_pos (by omega)) (nI_clamp (by omega)) (by omega) ⟨Nat.le_of_ble_eq_true rfl, by show 0 + N ≤ 60; omega⟩ ?_
  refine z_goto (tgt := 24) C dJ7_copyOf_6403c_10 (by decide) ?_
  refine z_astore_n (i := 3) C dJ7_copyOf_6403c_24 rfl (by decide) ?_
  refine z_aload_n (i := 0) C dJ7_copyOf_6403c_25 rfl rfl ?_
  refine z_iconst (v := 0) C dJ7_copyOf_6403c_26 (by decide) ?_
  refine z_aload_n (i := 3) C dJ7_copyOf_6403c_27 rfl rfl ?_
  refine z_iconst (v := 0) C dJ7_copyOf_6403c_28 (by decide) ?_
  refine z_aload_n (i := 0) C dJ7_copyOf_6403c_29 rfl rfl ?_
  have h2' : zput σ k g (rC N (fun _ => none)) q.1 q.2 = some (rC n f) := by rw [zput_n (z_keyne h0 h2)]; exact h2
  refine z_alenA C dJ7_copyOf_6403c_30 h2' ?_
  refine z_iload_n (i := 1) C dJ7_copyOf_6403c_31 rfl rfl ?_
  refine z_mmin C dJ7_copyOf_6403c_32 ⟨ml_RJ7_304, sm_Lib_Math_min_name, ini_Math, co_Lib_Math_min_name⟩ ⟨Nat.le_of_ble_eq_true rfl, Nat.le_of_ble_eq_true rfl, Nat.le_of_ble_eq_true rfl, by show 0 + N ≤ 60; omega⟩ (fun _ => Nat.le_of_ble_eq_true rfl) ?_
  rw [if_neg (nI_nlt hN (by omega))]
  have e0 : (0 : Int32).toNatClampNeg = 0 := by decide
  have en : (nI n).toNatClampNeg = n := nI_clamp (by omega)
  refine z_copy C dJ7_copyOf_6403c_35 ml_RJ7_150 na_arraycopyName sm_arraycopyName ini_System h2' (zput_s _ _ _ _) hk (by decide) (by decide) (nI_pos (by omega)) (by rw [e0, en]; omega) (by rw [e0, en]; omega) (fun i hi y hy => ?_) (Nat.le_of_ble_eq_true rfl) ⟨fun _ => Nat.le_of_ble_eq_true rfl, Nat.le_of_ble_eq_true rfl⟩ (by decide +kernel) ?_
  · rw [e0, Nat.zero_add] at hy
    rw [en] at hi
    obtain ⟨ci, fs, g1, g2⟩ := hel i hi y hy
    exact ⟨ci, fs, by rw [zput_n (z_keyne h0 g1)]; exact g1, g2⟩
  rw [e0, en]
  refine z_aload_n (i := 3) C dJ7_copyOf_6403c_38 rfl rfl ?_
  exact z_aret C hr (Or.inr ⟨_, rfl⟩) ⟨some _, rfl⟩ dJ7_copyOf_6403c_39 (Nat.le_of_ble_eq_true rfl) (by show 0 + N ≤ 60; omega) ⟨_, rfl, rfl, _, rfl, fun i hi => by simp [va_cpy, hi]⟩

set_option maxRecDepth 100000 in
set_option maxHeartbeats 4000000 in
theorem c_J7_copyOf_1904c {X : zX} (l : Launch) {σ : zHp} {q : zK} {n N k g : Nat} {f : Nat → Option zK} (h2 : σ q.1 q.2 = some (rC n f)) (hq9 : q.1 < 90) (h0 : σ k g = none) (hk : k < 90) (hN : n ≤ N) (hb : N ≤ 60) (hel : ∀ i, i < n → ∀ y, f i = some y → ∃ ci fs, σ y.1 y.2 = some (oC ci fs) ∧ zElt ci) : zM X l yJ7_copyOf_1904c cJ7_copyOf_1904c 2 (some (.array (.object "java/lang/Object"))) 3 1 60 [.inr q, aI (nI N)] σ (zPr (fun r σ1 => r = (k, g) ∧ ∃ f1, σ1 = zput (zput σ k g (rC N (fun _ => none))) k g (rC N f1) ∧ ∀ i, i < n → f1 i = f i)) zNx := by
  refine zM.of (by decide +kernel) (Nat.le_of_ble_eq_true rfl) (by simp [zcat, Value.category]) ?_
  intro p e s m args below meth c loc0 C hr hnm hT
  refine z_aload_n (i := 0) C dJ7_copyOf_1904c_0 rfl rfl ?_
  refine z_iload_n (i := 1) C dJ7_copyOf_1904c_1 rfl rfl ?_
  refine z_aload_n (i := 0) C dJ7_copyOf_1904c_2 rfl rfl ?_
  refine z_getC C dJ7_copyOf_1904c_3 ⟨ml_RJ7_86, se_getClass, im_Object__, na_Object__⟩ h2 ⟨Nat.le_of_ble_eq_true rfl, Nat.le_of_ble_eq_true rfl⟩ (fun _ => Nat.le_of_ble_eq_true rfl) ?_
  refine z_callS C Y_J7_copyOf_6403c sm_yJ7_copyOf_6403c ml_RJ7_300 (c_J7_copyOf_6403c l h2 hq9 h0 hk hN hb hel) dJ7_copyOf_1904c_6 rfl rfl (fun _ => Nat.le_of_ble_eq_true rfl) ⟨Nat.le_of_ble_eq_true rfl, Nat.le_of_ble_eq_true rfl⟩ ⟨Nat.le_of_ble_eq_true rfl, Nat.le_of_ble_eq_true rfl⟩ (z_rr (fun x σ1 hx => ?_)) (z_nx)
  obtain ⟨rfl, f1, rfl, hf1⟩ := hx
  exact z_aret C hr (Or.inr ⟨_, rfl⟩) ⟨some _, rfl⟩ dJ7_copyOf_1904c_9 (Nat.le_of_ble_eq_true rfl) (Nat.le_of_ble_eq_true rfl) ⟨_, rfl, rfl, _, rfl, hf1⟩

set_option maxRecDepth 100000 in
set_option maxHeartbeats 4000000 in
theorem c_Jx4a65c_grow_92f84 {X : zX} (l : Launch) {σ : zHp} {j n : Nat} {mc : Int32} {q : zK} {f : Nat → Option zK} (h1 : σ 1 j = some (oC 2 [aI mc, .inr q, aI (nI n)])) (h2 : σ q.1 q.2 = some (rC n f)) (hq : (q = (90, 0) ∧ n = 0) ∨ (q.1 = 20 + j ∧ 10 ≤ n)) (hfr : ∀ g, (q = (90, 0) ∨ q.2 < g) → σ (20 + j) g = none) (hj : j < 6) (hn : n ≤ 40) (hel : ∀ i, i < n → ∀ y, f i = some y → ∃ ci fs, σ y.1 y.2 = some (oC ci fs) ∧ zElt ci) : zM X l yJx4a65c_grow_92f84 cJx4a65c_grow_92f84 4 (some (.array (.object "java/lang/Object"))) 4 1 60 [aR 1 j, aI (nI (n + 1))] σ (zPr (fun r σ1 => r = (20 + j, q.2 + 1) ∧ σ1 1 j = some (oC 2 [aI mc, aR (20 + j) (q.2 + 1), aI (nI n)]) ∧ (∃ cap f1, σ1 (20 + j) (q.2 + 1) = some (rC cap f1) ∧ n + 1 ≤ cap ∧ 10 ≤ cap ∧ (cap ≤ 10 ∨ (10 ≤ n ∧ 2 * cap ≤ 3 * n)) ∧ ∀ i, i < n → f1 i = f i) ∧ ∀ a b, ¬ (a = 1 ∧ b = j) → ¬ (a = 20 + j ∧ b = q.2 + 1) → σ1 a b = σ a b)) zNx := by
  have hf0 : σ (20 + j) (q.2 + 1) = none := hfr _ (Or.inr (by omega))
  refine zM.of (by decide +kernel) (Nat.le_of_ble_eq_true rfl) (by simp [zcat, Value.category]) ?_
  intro p e s m args below meth c loc0 C hr hnm hT
  refine z_aload_n (i := 0) C dJx4a65c_grow_92f84_0 rfl rfl ?_
  refine z_getf C f_RJx4a65c_9 dJx4a65c_grow_92f84_1 (by first | assumption | rfl) rfl ?_
  refine z_alenA C dJx4a65c_grow_92f84_4 h2 ?_
  refine z_istore_n (i := 2) C dJx4a65c_grow_92f84_5 rfl (by decide) ?_
  refine z_iload_n (i := 2) C dJx4a65c_grow_92f84_6 rfl rfl ?_
  refine z_if_gt (tgt := 20) C dJx4a65c_grow_92f84_7 (by decide) (fun h7 => ?_) (fun h7 => ?_)
  · have hn0 : 10 ≤ n := by
      rcases hq with ⟨-, rfl⟩ | ⟨-, h⟩
      · exact absurd h7 (by decide)
      · exact h
    have hq1 : 20 + j < 90 := by omega
    refine z_iload_n (i := 2) C dJx4a65c_grow_92f84_20 rfl rfl ?_
    refine z_iload_n (i := 1) C dJx4a65c_grow_92f84_21 rfl rfl ?_
    refine z_iload_n (i := 2) C dJx4a65c_grow_92f84_22 rfl rfl ?_
    refine z_isub C dJx4a65c_grow_92f84_23 ?_
    rw [show nI (n + 1) - nI n = nI 1 by rw [pk_sub (by omega)]; congr 1; omega]
    refine z_iload_n (i := 2) C dJx4a65c_grow_92f84_24 rfl rfl ?_
    refine z_iconst (v := 1) C dJx4a65c_grow_92f84_25 (by decide) ?_
    refine z_ishr C dJx4a65c_grow_92f84_26 ?_
    rw [z_shr1 (by omega)]
    refine z_callS C Y_J8_newLength_cabcc sm_yJ8_newLength_cabcc ml_RJx4a65c_73 (c_J8_newLength_cabcc l rfl rfl rfl (by omega) (by omega) (by omega) (by omega)) dJx4a65c_grow_92f84_27 rfl rfl (fun _ => Nat.le_of_ble_eq_true rfl) ⟨Nat.le_of_ble_eq_true rfl, Nat.le_of_ble_eq_true rfl⟩ ⟨Nat.le_of_ble_eq_true rfl, Nat.le_of_ble_eq_true rfl⟩ (z_ri (fun x σ1 hx => ?_)) (z_nx)
    obtain ⟨rfl, rfl⟩ := hx
    have hmx : max 1 (n / 2) = n / 2 := Nat.max_eq_right (by omega)
    rw [hmx]
    refine z_istore_n (i := 3) C dJx4a65c_grow_92f84_30 rfl (by decide) ?_
    refine z_aload_n (i := 0) C dJx4a65c_grow_92f84_31 rfl rfl ?_
    refine z_aload_n (i := 0) C dJx4a65c_grow_92f84_32 rfl rfl ?_
    refine z_getf C f_RJx4a65c_9 dJx4a65c_grow_92f84_33 (by first | assumption | rfl) rfl ?_
    refine z_iload_n (i := 3) C dJx4a65c_grow_92f84_36 rfl rfl ?_
    refine z_callS C Y_J7_copyOf_1904c sm_yJ7_copyOf_1904c ml_RJx4a65c_66 (c_J7_copyOf_1904c l h2 (by rcases hq with ⟨-, e9⟩ | ⟨e9, -⟩ <;> omega) hf0 (by omega : 20 + j < 90) (by omega : n ≤ n + n / 2) (by omega) hel) dJx4a65c_grow_92f84_37 rfl rfl (fun _ => Nat.le_of_ble_eq_true rfl) ⟨Nat.le_of_ble_eq_true rfl, Nat.le_of_ble_eq_true rfl⟩ ⟨Nat.le_of_ble_eq_true rfl, Nat.le_of_ble_eq_true rfl⟩ (z_rr (fun x σ1 hx => ?_)) (z_nx)
    obtain ⟨rfl, f1, rfl, hf1⟩ := hx
    refine z_dup_x1 C trivial trivial dJx4a65c_grow_92f84_40 ?_
    have h1' : zput (zput σ1 (20 + j) (q.2 + 1) (rC (n + n / 2) (fun _ => none))) (20 + j) (q.2 + 1) (rC (n + n / 2) f1) 1 j = some (oC 2 [aI mc, .inr q, aI (nI n)]) := by
      rw [zput_n (by omega), zput_n (by omega)]; exact h1
    refine z_putf C fp_RJx4a65c_9 dJx4a65c_grow_92f84_41 h1' (by decide) (Nat.le_of_ble_eq_true rfl) (fun _ => ⟨rfl, rfl⟩) ?_
    exact z_aret C hr (Or.inr ⟨_, rfl⟩) ⟨some _, rfl⟩ dJx4a65c_grow_92f84_44 (Nat.le_of_ble_eq_true rfl) (Nat.le_of_ble_eq_true rfl) ⟨_, rfl, rfl, zput_s _ _ _ _, ⟨n + n / 2, f1, by rw [zput_n (by omega)]; exact zput_s _ _ _ _, by omega, by omega, by omega, hf1⟩, fun a b ha hb => by rw [zput_n ha, zput_n hb, zput_n hb]⟩
  · refine z_aload_n (i := 0) C dJx4a65c_grow_92f84_10 rfl rfl ?_
    refine z_getf C f_RJx4a65c_9 dJx4a65c_grow_92f84_11 (by first | assumption | rfl) rfl ?_
    obtain ⟨rfl, rfl⟩ : q = (90, 0) ∧ n = 0 := by
      rcases hq with h | ⟨-, h⟩
      · exact h
      · exact absurd (nI_lt (a := 0) (by omega) (by omega)) h7
    refine z_getsA C fl_RJx4a65c_39 dJx4a65c_grow_92f84_14 ?_
    refine z_acmp_eq (o := some (90, 0)) (o' := some (90, 0)) (tgt := 45) C dJx4a65c_grow_92f84_17 (by decide) (fun _ => ?_) (fun h => absurd rfl h)
    refine z_aload_n (i := 0) C dJx4a65c_grow_92f84_45 rfl rfl ?_
    refine z_bipush (v := 10) C dJx4a65c_grow_92f84_46 (by decide) ?_
    refine z_iload_n (i := 1) C dJx4a65c_grow_92f84_48 rfl rfl ?_
    refine z_mmax C dJx4a65c_grow_92f84_49 ⟨ml_RJx4a65c_79, sm_Lib_Math_max_name, ini_Math, co_Lib_Math_max_name⟩ ⟨Nat.le_of_ble_eq_true rfl, Nat.le_of_ble_eq_true rfl, Nat.zero_le _, Nat.zero_le _⟩ (fun _ => Nat.le_of_ble_eq_true rfl) ?_
    rw [if_neg (show ¬ (10 : Int32) < nI (0 + 1) by decide)]
    refine z_anew (N := 10) C (20 + j) (((90, 0) : zK).2 + 1) dJx4a65c_grow_92f84_52 kl_RJx4a65c_7 (by omega) hf0 (by decide) (by decide) (by omega) ⟨Nat.le_of_ble_eq_true rfl, Nat.le_of_ble_eq_true rfl⟩ ?_
    refine z_dup_x1 C trivial trivial dJx4a65c_grow_92f84_55 ?_
    refine z_putf C fp_RJx4a65c_9 dJx4a65c_grow_92f84_56 (by rw [zput_n (by omega)]; exact h1) (by decide) (Nat.le_of_ble_eq_true rfl) (fun _ => ⟨rfl, rfl⟩) ?_
    exact z_aret C hr (Or.inr ⟨_, rfl⟩) ⟨some _, rfl⟩ dJx4a65c_grow_92f84_59 (Nat.le_of_ble_eq_true rfl) (Nat.le_of_ble_eq_true rfl) ⟨_, rfl, rfl, zput_s _ _ _ _, ⟨10, _, by rw [zput_n (by omega)]; exact zput_s _ _ _ _, by omega, by omega, by omega, fun i hi => by omega⟩, fun a b ha hb => by rw [zput_n ha, zput_n hb]⟩

set_option maxRecDepth 100000 in
set_option maxHeartbeats 4000000 in
theorem c_Jx4a65c_grow_d5877 {X : zX} (l : Launch) {σ : zHp} {j n : Nat} {mc : Int32} {q : zK} {f : Nat → Option zK} (h1 : σ 1 j = some (oC 2 [aI mc, .inr q, aI (nI n)])) (h2 : σ q.1 q.2 = some (rC n f)) (hq : (q = (90, 0) ∧ n = 0) ∨ (q.1 = 20 + j ∧ 10 ≤ n)) (hfr : ∀ g, (q = (90, 0) ∨ q.2 < g) → σ (20 + j) g = none) (hj : j < 6) (hn : n ≤ 40) (hel : ∀ i, i < n → ∀ y, f i = some y → ∃ ci fs, σ y.1 y.2 = some (oC ci fs) ∧ zElt ci) : zM X l yJx4a65c_grow_d5877 cJx4a65c_grow_d5877 1 (some (.array (.object "java/lang/Object"))) 5 1 60 [aR 1 j] σ (zPr (fun r σ1 => r = (20 + j, q.2 + 1) ∧ σ1 1 j = some (oC 2 [aI mc, aR (20 + j) (q.2 + 1), aI (nI n)]) ∧ (∃ cap f1, σ1 (20 + j) (q.2 + 1) = some (rC cap f1) ∧ n + 1 ≤ cap ∧ 10 ≤ cap ∧ (cap ≤ 10 ∨ (10 ≤ n ∧ 2 * cap ≤ 3 * n)) ∧ ∀ i, i < n → f1 i = f i) ∧ ∀ a b, ¬ (a = 1 ∧ b = j) → ¬ (a = 20 + j ∧ b = q.2 + 1) → σ1 a b = σ a b)) zNx := by
  refine zM.of (by decide +kernel) (Nat.le_of_ble_eq_true rfl) (by simp [zcat, Value.category]) ?_
  intro p e s m args below meth c loc0 C hr hnm hT
  refine z_aload_n (i := 0) C dJx4a65c_grow_d5877_0 rfl rfl ?_
  refine z_aload_n (i := 0) C dJx4a65c_grow_d5877_1 rfl rfl ?_
  refine z_getf C f_RJx4a65c_48 dJx4a65c_grow_d5877_2 (by first | assumption | rfl) rfl ?_
  refine z_iconst (v := 1) C dJx4a65c_grow_d5877_5 (by decide) ?_
  refine z_iadd C dJx4a65c_grow_d5877_6 ?_
  rw [nI_1]
  refine z_callV C Y_Jx4a65c_grow_92f84 V_Jx4a65c_grow_92f84 ml_RJx4a65c_69 (c_Jx4a65c_grow_92f84 l h1 h2 hq hfr hj hn hel) dJx4a65c_grow_d5877_7 rfl rfl (by first | assumption | rfl) ⟨_, _, rfl⟩ (fun _ => Nat.le_of_ble_eq_true rfl) ⟨Nat.le_of_ble_eq_true rfl, Nat.le_of_ble_eq_true rfl⟩ ⟨Nat.le_of_ble_eq_true rfl, Nat.le_of_ble_eq_true rfl⟩ (z_rr (fun x σ1 hx => ?_)) (z_nx)
  obtain ⟨rfl, hx⟩ := hx
  exact z_aret C hr (Or.inr ⟨_, rfl⟩) ⟨some _, rfl⟩ dJx4a65c_grow_d5877_10 (Nat.le_of_ble_eq_true rfl) (Nat.le_of_ble_eq_true rfl) ⟨_, rfl, rfl, hx⟩

