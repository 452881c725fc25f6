/-! lists: add at a place, remove at a place -/
/-- the keys with v put in at place k; with the one at place k taken out -/
def zIns (el : Nat → zK) (k : Nat) (v : zK) : Nat → zK := fun i => if i < k then el i else if i = k then v else el (i - 1)
def zDel (el : Nat → zK) (k : Nat) : Nat → zK := fun i => if i < k then el i else el (i + 1)
set_option maxRecDepth 100000 in
set_option maxHeartbeats 4000000 in
theorem c_Jx4a65c_rangeCheckForAdd_d00df {X : zX} (l : Launch) {σ : zHp} {j n k : Nat} {a b : zV} (h1 : σ 1 j = some (oC 2 [a, b, aI (nI n)])) (hk : k ≤ n) (hn : n ≤ 1000) : zM X l yJx4a65c_rangeCheckForAdd_d00df cJx4a65c_rangeCheckForAdd_d00df 2 none 0 0 0 [aR 1 j, aI (nI k)] σ (zPv (fun σ1 => σ1 = σ)) zNx := by
  refine zM.of (by decide +kernel) (Nat.le_of_ble_eq_true rfl) (by simp [zcat, Value.category]) ?_
  intro p e s m args below meth c loc0 C hr hnm hT
  refine z_iload_n (i := 1) C dJx4a65c_rangeCheckForAdd_d00df_0 rfl rfl ?_
  refine z_aload_n (i := 0) C dJx4a65c_rangeCheckForAdd_d00df_1 rfl rfl ?_
  refine z_getf C f_RJx4a65c_48 dJx4a65c_rangeCheckForAdd_d00df_2 (by first | assumption | rfl) rfl ?_
  refine z_icmp_gt (tgt := 12) C dJx4a65c_rangeCheckForAdd_d00df_5 (by decide) (fun h5 => ?_) (fun h5 => ?_)
  · exact absurd h5 (nI_nlt hk (by omega))
  · refine z_iload_n (i := 1) C dJx4a65c_rangeCheckForAdd_d00df_8 rfl rfl ?_
    refine z_if_ge (tgt := 25) C dJx4a65c_rangeCheckForAdd_d00df_9 (by decide) (fun h9 => ?_) (fun h9 => ?_)
    · exact z_vret C hr dJx4a65c_rangeCheckForAdd_d00df_25 (Nat.le_of_ble_eq_true rfl) (Nat.le_of_ble_eq_true rfl) ⟨rfl, rfl⟩
    · exact absurd (nI_pos' (by omega)) h9

set_option maxRecDepth 100000 in
set_option maxHeartbeats 4000000 in
theorem c_Jx4a65c_add_7a177 {X : zX} (l : Launch) {σ : zHp} {j n k : Nat} {v : zK} {ci : Nat} {fs : List zV} {el : Nat → zK} (h : zLs σ j n el) (hn : n ≤ 39) (hk : k ≤ n) (hel : ∀ i, i < n → ∃ ci fs, σ (el i).1 (el i).2 = some (oC ci fs) ∧ zElt ci) (hv : σ v.1 v.2 = some (oC ci fs)) (hci : zElt ci) (hv1 : ¬ (v.1 = 1 ∧ v.2 = j) ∧ v.1 ≠ 20 + j) (he1 : ∀ i, i < n → ¬ ((el i).1 = 1 ∧ (el i).2 = j) ∧ (el i).1 ≠ 20 + j) : zM X l yJx4a65c_add_7a177 cJx4a65c_add_7a177 5 none 7 1 60 [aR 1 j, aI (nI k), .inr v] σ (zPv (fun σ1 => zLs σ1 j (n + 1) (zIns el k v) ∧ zLf σ σ1 j)) zNx := by
  obtain ⟨mc, q, cap, f, h1, h2, h3, h4, h5, h6, h7, hj⟩ := h
  refine zM.of (by decide +kernel) (Nat.le_of_ble_eq_true rfl) (by simp [zcat, Value.category]) ?_
  intro p e s m args below meth c loc0 C hr hnm hT
  refine z_aload_n (i := 0) C dJx4a65c_add_7a177_0 rfl rfl ?_
  refine z_iload_n (i := 1) C dJx4a65c_add_7a177_1 rfl rfl ?_
  refine z_callV C Y_Jx4a65c_rangeCheckForAdd_d00df V_Jx4a65c_rangeCheckForAdd_d00df ml_RJx4a65c_135 (c_Jx4a65c_rangeCheckForAdd_d00df l h1 hk (by omega)) dJx4a65c_add_7a177_2 rfl rfl h1 ⟨_, _, rfl⟩ (fun _ => Nat.le_of_ble_eq_true rfl) ⟨Nat.le_of_ble_eq_true rfl, Nat.le_of_ble_eq_true rfl⟩ ⟨Nat.le_of_ble_eq_true rfl, Nat.le_of_ble_eq_true rfl⟩ (z_rv (fun σ1 hx => ?_)) (z_nx)
  subst hx
  refine z_aload_n (i := 0) C dJx4a65c_add_7a177_5 rfl rfl ?_
  refine z_dup C (by first | trivial | rfl) dJx4a65c_add_7a177_6 ?_
  refine z_getf C f_RJx4a65c_63 dJx4a65c_add_7a177_7 h1 rfl ?_
  refine z_iconst (v := 1) C dJx4a65c_add_7a177_10 (by decide) ?_
  refine z_iadd C dJx4a65c_add_7a177_11 ?_
  refine z_putf C fp_RJx4a65c_63 dJx4a65c_add_7a177_12 h1 (by decide) (Nat.le_of_ble_eq_true rfl) (fun _ => ⟨rfl, rfl⟩) ?_
  have hqj : ¬ (q.1 = 1 ∧ q.2 = j) := by
    rcases h5 with ⟨rfl, -⟩ | ⟨h, -⟩
    · exact fun h => absurd h.1 (by decide)
    · exact fun h => by omega
  refine z_aload_n (i := 0) C dJx4a65c_add_7a177_15 rfl rfl ?_
  refine z_getf C f_RJx4a65c_48 dJx4a65c_add_7a177_16 (zput_s _ _ _ _) rfl ?_
  refine z_dup C (by first | trivial | rfl) dJx4a65c_add_7a177_19 ?_
  refine z_istore_n (i := 3) C dJx4a65c_add_7a177_20 rfl (by decide) ?_
  refine z_aload_n (i := 0) C dJx4a65c_add_7a177_21 rfl rfl ?_
  refine z_getf C f_RJx4a65c_9 dJx4a65c_add_7a177_22 (zput_s _ _ _ _) rfl ?_
  refine z_dup C (by first | trivial | rfl) dJx4a65c_add_7a177_25 ?_
  refine z_astore C dJx4a65c_add_7a177_26 (by decide) ?_
  have h2' : zput σ1 1 j (oC 2 [aI (mc + 1), .inr q, aI (nI n)]) q.1 q.2 = some (rC cap f) := by rw [zput_n hqj]; exact h2
  refine z_alenA C dJx4a65c_add_7a177_28 h2' ?_
  have hcb : cap < 2 ^ 31 := by omega
  refine z_icmp_ne (tgt := 38) C dJx4a65c_add_7a177_29 (by decide) (fun h9 => ?_) (fun h9 => ?_)
  · have hlt : n < cap := by
      have : n ≠ cap := fun e => h9 (by rw [e])
      omega
    obtain ⟨hq1, hc10⟩ : q.1 = 20 + j ∧ 10 ≤ cap := by
      rcases h5 with ⟨-, h⟩ | h
      · omega
      · exact h
    obtain ⟨q1, q2⟩ := q
    obtain rfl : q1 = 20 + j := hq1
    have hvv : zput σ1 1 j (oC 2 [aI (mc + 1), aR (20 + j) q2, aI (nI n)]) v.1 v.2 = some (oC ci fs) := by rw [zput_n hv1.1]; exact hv
    refine z_aload C dJx4a65c_add_7a177_38 rfl ?_
    refine z_iload_n (i := 1) C dJx4a65c_add_7a177_40 rfl rfl ?_
    refine z_aload C dJx4a65c_add_7a177_41 rfl ?_
    refine z_iload_n (i := 1) C dJx4a65c_add_7a177_43 rfl rfl ?_
    refine z_iconst (v := 1) C dJx4a65c_add_7a177_44 (by decide) ?_
    refine z_iadd C dJx4a65c_add_7a177_45 ?_
    rw [nI_1]
    refine z_iload_n (i := 3) C dJx4a65c_add_7a177_46 rfl rfl ?_
    refine z_iload_n (i := 1) C dJx4a65c_add_7a177_47 rfl rfl ?_
    refine z_isub C dJx4a65c_add_7a177_48 ?_
    rw [pk_sub hk]
    have ek : (nI k).toNatClampNeg = k := nI_clamp (by omega)
    have ek1 : (nI (k + 1)).toNatClampNeg = k + 1 := nI_clamp (by omega)
    have en : (nI (n - k)).toNatClampNeg = n - k := nI_clamp (by omega)
    refine z_copy C dJx4a65c_add_7a177_49 ml_RJx4a65c_112 na_arraycopyName sm_arraycopyName ini_System h2' h2' (by omega) (nI_pos (by omega)) (nI_pos (by omega)) (nI_pos (by omega)) (by rw [ek, en]; omega) (by rw [ek1, en]; omega) (fun i hi y hy => ?_) (Nat.le_of_ble_eq_true rfl) ⟨fun _ => Nat.le_of_ble_eq_true rfl, Nat.le_of_ble_eq_true rfl⟩ (by decide +kernel) ?_
    · rw [en] at hi
      rw [ek, h4 _ (by omega)] at hy
      cases hy
      obtain ⟨ci, fs, a, b⟩ := hel (k + i) (by omega)
      exact ⟨ci, fs, by rw [zput_n (he1 _ (by omega)).1]; exact a, b⟩
    rw [ek, ek1, en]
    refine z_aload C dJx4a65c_add_7a177_52 rfl ?_
    refine z_iload_n (i := 1) C dJx4a65c_add_7a177_54 rfl rfl ?_
    refine z_aload_n (i := 2) C dJx4a65c_add_7a177_55 rfl rfl ?_
    refine z_aast (k := 20 + j) (i := q2) (n := cap) (x := nI k) C dJx4a65c_add_7a177_56 (zput_s _ _ _ _) (by omega) (vp_in_nI (by omega) (by omega)) (by rw [zput_n (fun h => hv1.2 h.1)]; exact hvv) hci ?_
    rw [ek]
    refine z_aload_n (i := 0) C dJx4a65c_add_7a177_57 rfl rfl ?_
    refine z_iload_n (i := 3) C dJx4a65c_add_7a177_58 rfl rfl ?_
    refine z_iconst (v := 1) C dJx4a65c_add_7a177_59 (by decide) ?_
    refine z_iadd C dJx4a65c_add_7a177_60 ?_
    rw [nI_1]
    refine z_putf C fp_RJx4a65c_48 dJx4a65c_add_7a177_61 (by rw [zput_n (by omega), zput_n (by omega)]; exact (zput_s _ _ _ _)) (by decide) (Nat.le_of_ble_eq_true rfl) (fun _ => ⟨rfl, rfl⟩) ?_
    refine z_vret C hr dJx4a65c_add_7a177_64 (Nat.le_of_ble_eq_true rfl) (Nat.le_of_ble_eq_true rfl) ⟨rfl, zLs_push (g := q2) (cap := cap) (f := va_up (va_cpy f f k (k + 1) (n - k)) k (some v)) (mc := mc + 1) (zput_s _ _ _ _) (by rw [zput_n (by omega)]; exact zput_s _ _ _ _) (by omega) (fun i hi => ?_) (by omega) (fun g' hg => ?_) (by omega) hj, fun a b ha hb => ?_⟩
    · unfold va_up zIns va_cpy
      by_cases e1 : i = k
      · rw [if_pos e1, if_neg (by omega), if_pos e1]
      · rw [if_neg e1]
        by_cases e2 : i < k
        · rw [if_neg (by omega), if_pos e2, h4 _ (by omega)]
        · rw [if_pos (by omega), if_neg e2, if_neg e1, show k + (i - (k + 1)) = i - 1 by omega, h4 _ (by omega)]
    · rw [zput_n (by omega), zput_n (by omega), zput_n (by omega), zput_n (by omega)]; exact h6 g' (Or.inr hg)
    · rw [zput_n ha, zput_n (fun h => hb h.1), zput_n (fun h => hb h.1), zput_n ha]
  · have hcn : n = cap := (nI_eq (by omega) hcb).mp h9
    refine z_aload_n (i := 0) C dJx4a65c_add_7a177_32 rfl rfl ?_
    refine z_callV C Y_Jx4a65c_grow_d5877 V_Jx4a65c_grow_d5877 ml_RJx4a65c_129 (c_Jx4a65c_grow_d5877 (f := f) l (zput_s _ _ _ _) (by rw [← hcn] at h2'; exact h2') (by rcases h5 with ⟨a, b⟩ | ⟨a, b⟩; exact Or.inl ⟨a, by omega⟩; exact Or.inr ⟨a, by omega⟩) (fun g hg => by rw [zput_n (by omega)]; exact h6 g hg) hj (by omega) (fun i hi y hy => by rw [h4 i hi] at hy; cases hy; obtain ⟨ci, fs, a, b⟩ := hel i hi; exact ⟨ci, fs, by rw [zput_n (he1 i hi).1]; exact a, b⟩)) dJx4a65c_add_7a177_33 rfl rfl (zput_s _ _ _ _) ⟨_, _, rfl⟩ (fun _ => Nat.le_of_ble_eq_true rfl) ⟨Nat.le_of_ble_eq_true rfl, Nat.le_of_ble_eq_true rfl⟩ ⟨Nat.le_of_ble_eq_true rfl, Nat.le_of_ble_eq_true rfl⟩ (z_rr (fun x σ2 hx => ?_)) (z_nx)
    obtain ⟨rfl, g1, ⟨cap1, f1, g2, g3, g4, g5, g6⟩, g7⟩ := hx
    have hvv : σ2 v.1 v.2 = some (oC ci fs) := by
      rw [g7 _ _ hv1.1 (fun e => hv1.2 e.1), zput_n hv1.1]; exact hv
    refine z_astore C dJx4a65c_add_7a177_36 (by decide) ?_
    refine z_aload C dJx4a65c_add_7a177_38 rfl ?_
    refine z_iload_n (i := 1) C dJx4a65c_add_7a177_40 rfl rfl ?_
    refine z_aload C dJx4a65c_add_7a177_41 rfl ?_
    refine z_iload_n (i := 1) C dJx4a65c_add_7a177_43 rfl rfl ?_
    refine z_iconst (v := 1) C dJx4a65c_add_7a177_44 (by decide) ?_
    refine z_iadd C dJx4a65c_add_7a177_45 ?_
    rw [nI_1]
    refine z_iload_n (i := 3) C dJx4a65c_add_7a177_46 rfl rfl ?_
    refine z_iload_n (i := 1) C dJx4a65c_add_7a177_47 rfl rfl ?_
    refine z_isub C dJx4a65c_add_7a177_48 ?_
    rw [pk_sub hk]
    have ek : (nI k).toNatClampNeg = k := nI_clamp (by omega)
    have ek1 : (nI (k + 1)).toNatClampNeg = k + 1 := nI_clamp (by omega)
    have en : (nI (n - k)).toNatClampNeg = n - k := nI_clamp (by omega)
    refine z_copy C dJx4a65c_add_7a177_49 ml_RJx4a65c_112 na_arraycopyName sm_arraycopyName ini_System g2 g2 (by omega) (nI_pos (by omega)) (nI_pos (by omega)) (nI_pos (by omega)) (by rw [ek, en]; omega) (by rw [ek1, en]; omega) (fun i hi y hy => ?_) (Nat.le_of_ble_eq_true rfl) ⟨fun _ => Nat.le_of_ble_eq_true rfl, Nat.le_of_ble_eq_true rfl⟩ (by decide +kernel) ?_
    · rw [en] at hi
      rw [ek, g6 _ (by omega), h4 _ (by omega)] at hy
      cases hy
      obtain ⟨ci, fs, a, b⟩ := hel (k + i) (by omega)
      exact ⟨ci, fs, by rw [g7 _ _ (he1 _ (by omega)).1 (fun e => (he1 _ (by omega)).2 e.1), zput_n (he1 _ (by omega)).1]; exact a, b⟩
    rw [ek, ek1, en]
    refine z_aload C dJx4a65c_add_7a177_52 rfl ?_
    refine z_iload_n (i := 1) C dJx4a65c_add_7a177_54 rfl rfl ?_
    refine z_aload_n (i := 2) C dJx4a65c_add_7a177_55 rfl rfl ?_
    refine z_aast (k := 20 + j) (i := (q.2 + 1)) (n := cap1) (x := nI k) C dJx4a65c_add_7a177_56 (zput_s _ _ _ _) (by omega) (vp_in_nI (by omega) (by omega)) (by rw [zput_n (fun h => hv1.2 h.1)]; exact hvv) hci ?_
    rw [ek]
    refine z_aload_n (i := 0) C dJx4a65c_add_7a177_57 rfl rfl ?_
    refine z_iload_n (i := 3) C dJx4a65c_add_7a177_58 rfl rfl ?_
    refine z_iconst (v := 1) C dJx4a65c_add_7a177_59 (by decide) ?_
    refine z_iadd C dJx4a65c_add_7a177_60 ?_
    rw [nI_1]
    refine z_putf C fp_RJx4a65c_48 dJx4a65c_add_7a177_61 (by rw [zput_n (by omega), zput_n (by omega)]; exact g1) (by decide) (Nat.le_of_ble_eq_true rfl) (fun _ => ⟨rfl, rfl⟩) ?_
    refine z_vret C hr dJx4a65c_add_7a177_64 (Nat.le_of_ble_eq_true rfl) (Nat.le_of_ble_eq_true rfl) ⟨rfl, zLs_push (g := (q.2 + 1)) (cap := cap1) (f := va_up (va_cpy f1 f1 k (k + 1) (n - k)) k (some v)) (mc := mc + 1) (zput_s _ _ _ _) (by rw [zput_n (by omega)]; exact zput_s _ _ _ _) (by omega) (fun i hi => ?_) (by omega) (fun g' hg => ?_) (by omega) hj, fun a b ha hb => ?_⟩
    · unfold va_up zIns va_cpy
      by_cases e1 : i = k
      · rw [if_pos e1, if_neg (by omega), if_pos e1]
      · rw [if_neg e1]
        by_cases e2 : i < k
        · rw [if_neg (by omega), if_pos e2, g6 _ (by omega), h4 _ (by omega)]
        · rw [if_pos (by omega), if_neg e2, if_neg e1, show k + (i - (k + 1)) = i - 1 by omega, g6 _ (by omega), h4 _ (by omega)]
    · rw [zput_n (by omega), zput_n (by omega), zput_n (by omega), g7 _ _ (by omega) (by omega), zput_n (by omega)]; exact h6 g' (Or.inr (by omega))
    · rw [zput_n ha, zput_n (fun h => hb h.1), zput_n (fun h => hb h.1), g7 a b ha (fun h => hb h.1), zput_n ha]

set_option maxRecDepth 100000 in
set_option maxHeartbeats 4000000 in
theorem c_Jx4a65c_fastRemove_b59b0 {X : zX} (l : Launch) {σ : zHp} {j n k cap : Nat} {mc : Int32} {g : Nat} {f : Nat → Option zK} {el : Nat → zK} (h1 : σ 1 j = some (oC 2 [aI mc, aR (20 + j) g, aI (nI n)])) (h2 : σ (20 + j) g = some (rC cap f)) (h3 : n ≤ cap) (h4 : ∀ i, i < n → f i = some (el i)) (hc : 10 ≤ cap ∧ cap ≤ 10) (h6 : ∀ g1, g < g1 → σ (20 + j) g1 = none) (hj : j < 6) (hk : k < n) (hel : ∀ i, i < n → ∃ ci fs, σ (el i).1 (el i).2 = some (oC ci fs) ∧ zElt ci) (he1 : ∀ i, i < n → ¬ ((el i).1 = 1 ∧ (el i).2 = j) ∧ (el i).1 ≠ 20 + j) : zM X l yJx4a65c_fastRemove_b59b0 cJx4a65c_fastRemove_b59b0 4 none 2 0 0 [aR 1 j, aR (20 + j) g, aI (nI k)] σ (zPv (fun σ1 => zLs σ1 j (n - 1) (zDel el k) ∧ zLf σ σ1 j)) zNx := by
  refine zM.of (by decide +kernel) (Nat.le_of_ble_eq_true rfl) (by simp [zcat, Value.category]) ?_
  intro p e s m args below meth c loc0 C hr hnm hT
  refine z_aload_n (i := 0) C dJx4a65c_fastRemove_b59b0_0 rfl rfl ?_
  refine z_dup C (by first | trivial | rfl) dJx4a65c_fastRemove_b59b0_1 ?_
  refine z_getf C f_RJx4a65c_63 dJx4a65c_fastRemove_b59b0_2 h1 rfl ?_
  refine z_iconst (v := 1) C dJx4a65c_fastRemove_b59b0_5 (by decide) ?_
  refine z_iadd C dJx4a65c_fastRemove_b59b0_6 ?_
  refine z_putf C fp_RJx4a65c_63 dJx4a65c_fastRemove_b59b0_7 h1 (by decide) (Nat.le_of_ble_eq_true rfl) (fun _ => ⟨rfl, rfl⟩) ?_
  refine z_aload_n (i := 0) C dJx4a65c_fastRemove_b59b0_10 rfl rfl ?_
  refine z_getf C f_RJx4a65c_48 dJx4a65c_fastRemove_b59b0_11 (zput_s _ _ _ _) rfl ?_
  refine z_iconst (v := 1) C dJx4a65c_fastRemove_b59b0_14 (by decide) ?_
  refine z_isub C dJx4a65c_fastRemove_b59b0_15 ?_
  rw [show nI n - 1 = nI (n - 1) from pk_sub (b := 1) (by omega)]
  refine z_dup C (by first | trivial | rfl) dJx4a65c_fastRemove_b59b0_16 ?_
  refine z_istore_n (i := 3) C dJx4a65c_fastRemove_b59b0_17 rfl (by decide) ?_
  refine z_iload_n (i := 2) C dJx4a65c_fastRemove_b59b0_18 rfl rfl ?_
  refine z_icmp_le (tgt := 34) C dJx4a65c_fastRemove_b59b0_19 (by decide) (fun h19 => ?_) (fun h19 => ?_)
  · have hkn : n - 1 ≤ k := (nI_leI (by omega) (by omega)).mp h19
    refine z_aload_n (i := 1) C dJx4a65c_fastRemove_b59b0_34 rfl rfl ?_
    refine z_aload_n (i := 0) C dJx4a65c_fastRemove_b59b0_35 rfl rfl ?_
    refine z_iload_n (i := 3) C dJx4a65c_fastRemove_b59b0_36 rfl rfl ?_
    refine z_dup_x1 C rfl trivial dJx4a65c_fastRemove_b59b0_37 ?_
    refine z_putf C fp_RJx4a65c_48 dJx4a65c_fastRemove_b59b0_38 (by exact zput_s _ _ _ _) (by decide) (Nat.le_of_ble_eq_true rfl) (fun _ => ⟨rfl, rfl⟩) ?_
    refine z_null C dJx4a65c_fastRemove_b59b0_41 ?_
    refine z_aastN C dJx4a65c_fastRemove_b59b0_42 (by rw [zput_n (by omega), zput_n (by omega)]; exact h2) (by omega) (vp_in_nI (by omega) (by omega)) ?_
    rw [nI_clamp (by omega)]
    refine z_vret C hr dJx4a65c_fastRemove_b59b0_43 (Nat.le_of_ble_eq_true rfl) (Nat.le_of_ble_eq_true rfl) ⟨rfl, zLs_push (g := g) (cap := cap) (f := va_up (f) (n - 1) none) (mc := mc + 1) (by rw [zput_n (by omega)]; exact zput_s _ _ _ _) (zput_s _ _ _ _) (by omega) (fun i hi => ?_) (by omega) (fun g' hg => ?_) (by omega) hj, fun a b ha hb => ?_⟩
    · unfold va_up zDel
      rw [if_neg (by omega)]
      rw [if_pos (by omega)]; exact h4 i (by omega)
    · rw [zput_n (by omega), zput_n (by omega), zput_n (by omega)]; exact h6 g' hg
    · rw [zput_n (fun h => hb h.1), zput_n ha, zput_n ha]
  · have hkn : k < n - 1 := by
      rcases Nat.lt_or_ge k (n - 1) with h | h
      · exact h
      · exact absurd (nI_le h (by omega)) h19
    refine z_aload_n (i := 1) C dJx4a65c_fastRemove_b59b0_22 rfl rfl ?_
    refine z_iload_n (i := 2) C dJx4a65c_fastRemove_b59b0_23 rfl rfl ?_
    refine z_iconst (v := 1) C dJx4a65c_fastRemove_b59b0_24 (by decide) ?_
    refine z_iadd C dJx4a65c_fastRemove_b59b0_25 ?_
    rw [nI_1]
    refine z_aload_n (i := 1) C dJx4a65c_fastRemove_b59b0_26 rfl rfl ?_
    refine z_iload_n (i := 2) C dJx4a65c_fastRemove_b59b0_27 rfl rfl ?_
    refine z_iload_n (i := 3) C dJx4a65c_fastRemove_b59b0_28 rfl rfl ?_
    refine z_iload_n (i := 2) C dJx4a65c_fastRemove_b59b0_29 rfl rfl ?_
    refine z_isub C dJx4a65c_fastRemove_b59b0_30 ?_
    rw [pk_sub (by omega)]
    have ek : (nI k).toNatClampNeg = k := nI_clamp (by omega)
    have ek1 : (nI (k + 1)).toNatClampNeg = k + 1 := nI_clamp (by omega)
    have en : (nI (n - 1 - k)).toNatClampNeg = n - 1 - k := nI_clamp (by omega)
    have h2' : zput σ 1 j (oC 2 [aI (mc + 1), aR (20 + j) g, aI (nI n)]) (20 + j) g = some (rC cap f) := by rw [zput_n (by omega)]; exact h2
    refine z_copy C dJx4a65c_fastRemove_b59b0_31 ml_RJx4a65c_112 na_arraycopyName sm_arraycopyName ini_System h2' h2' (by omega) (nI_pos (by omega)) (nI_pos (by omega)) (nI_pos (by omega)) (by rw [ek1, en]; omega) (by rw [ek, en]; omega) (fun i hi y hy => ?_) (Nat.le_of_ble_eq_true rfl) ⟨fun _ => Nat.le_of_ble_eq_true rfl, Nat.le_of_ble_eq_true rfl⟩ (by decide +kernel) ?_
    · rw [en] at hi
      rw [ek1, h4 _ (by omega)] at hy
      cases hy
      obtain ⟨ci, fs, a, b⟩ := hel (k + 1 + i) (by omega)
      exact ⟨ci, fs, by rw [zput_n (he1 _ (by omega)).1]; exact a, b⟩
    rw [ek, ek1, en]
    refine z_aload_n (i := 1) C dJx4a65c_fastRemove_b59b0_34 rfl rfl ?_
    refine z_aload_n (i := 0) C dJx4a65c_fastRemove_b59b0_35 rfl rfl ?_
    refine z_iload_n (i := 3) C dJx4a65c_fastRemove_b59b0_36 rfl rfl ?_
    refine z_dup_x1 C rfl trivial dJx4a65c_fastRemove_b59b0_37 ?_
    refine z_putf C fp_RJx4a65c_48 dJx4a65c_fastRemove_b59b0_38 (by rw [zput_n (by omega)]; exact zput_s _ _ _ _) (by decide) (Nat.le_of_ble_eq_true rfl) (fun _ => ⟨rfl, rfl⟩) ?_
    refine z_null C dJx4a65c_fastRemove_b59b0_41 ?_
    refine z_aastN C dJx4a65c_fastRemove_b59b0_42 (by rw [zput_n (by omega), zput_s]) (by omega) (vp_in_nI (by omega) (by omega)) ?_
    rw [nI_clamp (by omega)]
    refine z_vret C hr dJx4a65c_fastRemove_b59b0_43 (Nat.le_of_ble_eq_true rfl) (Nat.le_of_ble_eq_true rfl) ⟨rfl, zLs_push (g := g) (cap := cap) (f := va_up (va_cpy f f (k + 1) k (n - 1 - k)) (n - 1) none) (mc := mc + 1) (by rw [zput_n (by omega)]; exact zput_s _ _ _ _) (zput_s _ _ _ _) (by omega) (fun i hi => ?_) (by omega) (fun g' hg => ?_) (by omega) hj, fun a b ha hb => ?_⟩
    · unfold va_up zDel
      rw [if_neg (by omega)]
      unfold va_cpy
      by_cases e2 : i < k
      · rw [if_neg (by omega), if_pos e2]; exact h4 i (by omega)
      · rw [if_pos (by omega), if_neg e2, show k + 1 + (i - k) = i + 1 by omega]; exact h4 _ (by omega)
    · rw [zput_n (by omega), zput_n (by omega), zput_n (by omega), zput_n (by omega)]; exact h6 g' hg
    · rw [zput_n (fun h => hb h.1), zput_n ha, zput_n (fun h => hb h.1), zput_n ha]

set_option maxRecDepth 100000 in
set_option maxHeartbeats 4000000 in
theorem c_Jx4a65c_remove_915e3 {X : zX} (l : Launch) {σ : zHp} {j n k : Nat} {el : Nat → zK} (h : zLs σ j n el) (hn : n ≤ 10) (hk : k < n) (hel : ∀ i, i < n → ∃ ci fs, σ (el i).1 (el i).2 = some (oC ci fs) ∧ zElt ci) (he1 : ∀ i, i < n → ¬ ((el i).1 = 1 ∧ (el i).2 = j) ∧ (el i).1 ≠ 20 + j) : zM X l yJx4a65c_remove_915e3 cJx4a65c_remove_915e3 4 (some (.object "java/lang/Object")) 3 0 0 [aR 1 j, aI (nI k)] σ (zPr (fun _ σ1 => zLs σ1 j (n - 1) (zDel el k) ∧ zLf σ σ1 j)) zNx := by
  obtain ⟨mc, q, cap, f, h1, h2, h3, h4, h5, h6, h7, hj⟩ := h
  refine zM.of (by decide +kernel) (Nat.le_of_ble_eq_true rfl) (by simp [zcat, Value.category]) ?_
  intro p e s m args below meth c loc0 C hr hnm hT
  obtain ⟨hq1, hc10⟩ : q.1 = 20 + j ∧ 10 ≤ cap := by
    rcases h5 with ⟨-, h⟩ | h
    · omega
    · exact h
  obtain ⟨q1, q2⟩ := q
  obtain rfl : q1 = 20 + j := hq1
  refine z_iload_n (i := 1) C dJx4a65c_remove_915e3_0 rfl rfl ?_
  refine z_aload_n (i := 0) C dJx4a65c_remove_915e3_1 rfl rfl ?_
  refine z_getf C f_RJx4a65c_48 dJx4a65c_remove_915e3_2 (by first | assumption | rfl) rfl ?_
  refine z_callS C Y_J15_checkIndex_7cf53 sm_yJ15_checkIndex_7cf53 ml_RJx4a65c_118 (c_J15_checkIndex_7cf53 l hk (by omega)) dJx4a65c_remove_915e3_5 rfl rfl (fun _ => Nat.le_of_ble_eq_true rfl) ⟨Nat.le_of_ble_eq_true rfl, Nat.le_of_ble_eq_true rfl⟩ ⟨Nat.le_of_ble_eq_true rfl, Nat.le_of_ble_eq_true rfl⟩ (z_ri (fun x σ1 hx => ?_)) (z_nx)
  obtain ⟨rfl, rfl⟩ := hx
  refine z_pop C (by first | trivial | rfl) dJx4a65c_remove_915e3_8 ?_
  refine z_aload_n (i := 0) C dJx4a65c_remove_915e3_9 rfl rfl ?_
  refine z_getf C f_RJx4a65c_9 dJx4a65c_remove_915e3_10 (by first | assumption | rfl) rfl ?_
  refine z_astore_n (i := 2) C dJx4a65c_remove_915e3_13 rfl (by decide) ?_
  refine z_aload_n (i := 2) C dJx4a65c_remove_915e3_14 rfl rfl ?_
  refine z_iload_n (i := 1) C dJx4a65c_remove_915e3_15 rfl rfl ?_
  refine z_aald C dJx4a65c_remove_915e3_16 h2 (vp_in_nI (by omega) (by omega)) ?_
  rw [nI_clamp (by omega), h4 k hk]
  refine z_astore_n (q := el k) (i := 3) C dJx4a65c_remove_915e3_17 rfl (by decide) ?_
  refine z_aload_n (i := 0) C dJx4a65c_remove_915e3_18 rfl rfl ?_
  refine z_aload_n (i := 2) C dJx4a65c_remove_915e3_19 rfl rfl ?_
  refine z_iload_n (i := 1) C dJx4a65c_remove_915e3_20 rfl rfl ?_
  refine z_callV C Y_Jx4a65c_fastRemove_b59b0 V_Jx4a65c_fastRemove_b59b0 ml_RJx4a65c_144 (c_Jx4a65c_fastRemove_b59b0 (el := el) l h1 h2 h3 h4 ⟨hc10, by omega⟩ (fun g1 hg => h6 g1 (Or.inr hg)) hj hk hel he1) dJx4a65c_remove_915e3_21 rfl rfl h1 ⟨_, _, rfl⟩ (fun _ => Nat.le_of_ble_eq_true rfl) ⟨Nat.le_of_ble_eq_true rfl, Nat.le_of_ble_eq_true rfl⟩ ⟨Nat.le_of_ble_eq_true rfl, Nat.le_of_ble_eq_true rfl⟩ (z_rv (fun σ2 hx => ?_)) (z_nx)
  refine z_aload_n (q := el k) (i := 3) C dJx4a65c_remove_915e3_24 rfl rfl ?_
  exact z_aret C hr (Or.inl ⟨_, rfl⟩) ⟨some (el k), rfl⟩ dJx4a65c_remove_915e3_25 (Nat.le_of_ble_eq_true rfl) (Nat.le_of_ble_eq_true rfl) ⟨_, rfl, hx⟩

