/-! lists: add, remove, the empty list -/
def zLf (σ σ1 : zHp) (j : Nat) : Prop := ∀ a b, ¬ (a = 1 ∧ b = j) → a ≠ 20 + j → σ1 a b = σ a b
theorem zLs_push {σ1 : zHp} {j n g cap : Nat} {mc : Int32} {f : Nat → Option zK} {el : Nat → zK} (h1 : σ1 1 j = some (oC 2 [aI mc, aR (20 + j) g, aI (nI n)])) (h2 : σ1 (20 + j) g = some (rC cap f)) (hn : n ≤ cap) (hf : ∀ i, i < n → f i = some (el i)) (hc : 10 ≤ cap) (hfr : ∀ g', g < g' → σ1 (20 + j) g' = none) (hcap : cap ≤ 10 ∨ (10 < n ∧ 2 * cap ≤ 3 * n)) (hj : j < 6) : zLs σ1 j n el :=
  ⟨mc, (20 + j, g), cap, f, h1, h2, hn, hf, Or.inr ⟨rfl, hc⟩, fun g' h => by
    rcases h with h | h
    · have := (Prod.mk.inj h).1
      omega
    · exact hfr g' h, hcap, hj⟩
set_option maxRecDepth 100000 in
set_option maxHeartbeats 4000000 in
theorem c_Jx4a65c_add_72be8 {X : zX} (l : Launch) {σ : zHp} {j n cap : Nat} {mc : Int32} {q v : zK} {ci : Nat} {fs : List zV} {f : Nat → Option zK} {el : Nat → zK} (h1 : σ 1 j = some (oC 2 [aI mc, .inr q, aI (nI n)])) (h2 : σ q.1 q.2 = some (rC cap f)) (h3 : n ≤ cap) (h4 : ∀ i, i < n → f i = some (el i)) (h5 : (q = (90, 0) ∧ cap = 0) ∨ (q.1 = 20 + j ∧ 10 ≤ cap)) (h6 : ∀ g, (q = (90, 0) ∨ q.2 < g) → σ (20 + j) g = none) (h7 : cap ≤ 10 ∨ (10 < n ∧ 2 * cap ≤ 3 * n)) (hj : j < 6) (hn : n ≤ 39) (hel : ∀ i, i < n → ∃ ci fs, σ (el i).1 (el i).2 = some (oC ci fs) ∧ zElt ci) (hv : σ v.1 v.2 = some (oC ci fs)) (hci : zElt ci) (hv1 : ¬ (v.1 = 1 ∧ v.2 = j)) : zM X l yJx4a65c_add_72be8 cJx4a65c_add_72be8 4 none 6 1 60 [aR 1 j, .inr v, .inr q, aI (nI n)] σ (zPv (fun σ1 => zLs σ1 j (n + 1) (va_up el n v) ∧ zLf σ σ1 j)) zNx := by
  refine zM.of (by decide +kernel) (Nat.le_of_ble_eq_true rfl) (by simp [zcat, Value.category]) ?_
  intro p e s m args below meth c loc0 C hr hnm hT
  refine z_iload_n (i := 3) C dJx4a65c_add_72be8_0 rfl rfl ?_
  refine z_aload_n (i := 2) C dJx4a65c_add_72be8_1 rfl rfl ?_
  refine z_alenA C dJx4a65c_add_72be8_2 h2 ?_
  have hcb : cap < 2 ^ 31 := by omega
  refine z_icmp_ne (tgt := 11) C dJx4a65c_add_72be8_3 (by decide) (fun h3x => ?_) (fun h3x => ?_)
  · have hlt : n < cap := by
      have : n ≠ cap := fun e => h3x (by rw [e])
      omega
    obtain ⟨hq1, hc10⟩ : q.1 = 20 + j ∧ 10 ≤ cap := by
      rcases h5 with ⟨-, h⟩ | h
      · omega
      · exact h
    obtain ⟨q1, q2⟩ := q
    obtain rfl : q1 = 20 + j := hq1
    refine z_aload_n (i := 2) C dJx4a65c_add_72be8_11 rfl rfl ?_
    refine z_iload_n (i := 3) C dJx4a65c_add_72be8_12 rfl rfl ?_
    refine z_aload_n (i := 1) C dJx4a65c_add_72be8_13 rfl rfl ?_
    have hin : vp_in (nI n) cap := vp_in_nI (by omega) (by omega)
    refine z_aast C dJx4a65c_add_72be8_14 h2 (by omega) hin hv hci ?_
    rw [nI_clamp (by omega)]
    refine z_aload_n (i := 0) C dJx4a65c_add_72be8_15 rfl rfl ?_
    refine z_iload_n (i := 3) C dJx4a65c_add_72be8_16 rfl rfl ?_
    refine z_iconst (v := 1) C dJx4a65c_add_72be8_17 (by decide) ?_
    refine z_iadd C dJx4a65c_add_72be8_18 ?_
    rw [nI_1]
    refine z_putf C fp_RJx4a65c_48 dJx4a65c_add_72be8_19 (by rw [zput_n (by omega)]; exact h1) (by decide) (Nat.le_of_ble_eq_true rfl) (fun _ => ⟨rfl, rfl⟩) ?_
    refine z_vret C hr dJx4a65c_add_72be8_22 (Nat.le_of_ble_eq_true rfl) (Nat.le_of_ble_eq_true rfl) ⟨rfl, zLs_push (g := q2) (cap := cap) (f := va_up f n (some v)) (mc := mc) (zput_s _ _ _ _) (by rw [zput_n (by omega)]; exact zput_s _ _ _ _) (by omega) (fun i hi => ?_) hc10 (fun g' hg => ?_) (by omega) hj, fun a b ha hb => by rw [zput_n ha, zput_n (fun h => hb h.1)]⟩
    · unfold va_up
      by_cases e9 : i = n
      · rw [if_pos e9, if_pos e9]
      · rw [if_neg e9, if_neg e9]; exact h4 i (by omega)
    · rw [zput_n (by omega), zput_n (by omega)]
      exact h6 g' (Or.inr hg)
  · have hcn : n = cap := (nI_eq (by omega) hcb).mp h3x
    refine z_aload_n (i := 0) C dJx4a65c_add_72be8_6 rfl rfl ?_
    refine z_callV C Y_Jx4a65c_grow_d5877 V_Jx4a65c_grow_d5877 ml_RJx4a65c_129 (c_Jx4a65c_grow_d5877 l h1 (by rw [← hcn] at h2; exact h2) (by rcases h5 with ⟨a, b⟩ | ⟨a, b⟩; exact Or.inl ⟨a, by omega⟩; exact Or.inr ⟨a, by omega⟩) h6 hj (by omega) (fun i hi y hy => by rw [h4 i hi] at hy; cases hy; exact hel i hi)) dJx4a65c_add_72be8_7 rfl rfl h1 ⟨_, _, rfl⟩ (fun _ => Nat.le_of_ble_eq_true rfl) ⟨Nat.le_of_ble_eq_true rfl, Nat.le_of_ble_eq_true rfl⟩ ⟨Nat.le_of_ble_eq_true rfl, Nat.le_of_ble_eq_true rfl⟩ (z_rr (fun x σ1 hx => ?_)) (z_nx)
    obtain ⟨rfl, g1, ⟨cap1, f1, g2, g3, g4, g5, g6⟩, g7⟩ := hx
    have hvv : σ1 v.1 v.2 = some (oC ci fs) := by
      rw [g7 _ _ hv1 (fun e => by rw [e.1, e.2, h6 _ (Or.inr (by omega))] at hv; cases hv)]; exact hv
    refine z_astore_n (i := 2) C dJx4a65c_add_72be8_10 rfl (by decide) ?_
    refine z_aload_n (i := 2) C dJx4a65c_add_72be8_11 rfl rfl ?_
    refine z_iload_n (i := 3) C dJx4a65c_add_72be8_12 rfl rfl ?_
    refine z_aload_n (i := 1) C dJx4a65c_add_72be8_13 rfl rfl ?_
    have hin : vp_in (nI n) cap1 := vp_in_nI (by omega) (by omega)
    refine z_aast C dJx4a65c_add_72be8_14 g2 (by omega) hin hvv hci ?_
    rw [nI_clamp (by omega)]
    refine z_aload_n (i := 0) C dJx4a65c_add_72be8_15 rfl rfl ?_
    refine z_iload_n (i := 3) C dJx4a65c_add_72be8_16 rfl rfl ?_
    refine z_iconst (v := 1) C dJx4a65c_add_72be8_17 (by decide) ?_
    refine z_iadd C dJx4a65c_add_72be8_18 ?_
    rw [nI_1]
    refine z_putf C fp_RJx4a65c_48 dJx4a65c_add_72be8_19 (by rw [zput_n (by omega)]; exact g1) (by decide) (Nat.le_of_ble_eq_true rfl) (fun _ => ⟨rfl, rfl⟩) ?_
    refine z_vret C hr dJx4a65c_add_72be8_22 (Nat.le_of_ble_eq_true rfl) (Nat.le_of_ble_eq_true rfl) ⟨rfl, zLs_push (g := q.2 + 1) (cap := cap1) (f := va_up f1 n (some v)) (mc := mc) (zput_s _ _ _ _) (by rw [zput_n (by omega)]; exact zput_s _ _ _ _) (by omega) (fun i hi => ?_) g4 (fun g' hg => ?_) (by omega) hj, fun a b ha hb => by rw [zput_n ha, zput_n (fun h => hb h.1), g7 a b ha (fun h => hb h.1)]⟩
    · unfold va_up
      by_cases e9 : i = n
      · rw [if_pos e9, if_pos e9]
      · rw [if_neg e9, if_neg e9, g6 i (by omega)]; exact h4 i (by omega)
    · rw [zput_n (by omega), zput_n (by omega), g7 _ _ (by omega) (by omega)]
      exact h6 g' (Or.inr (by omega))

set_option maxRecDepth 100000 in
set_option maxHeartbeats 4000000 in
theorem c_Jx4a65c_add_9ea2d {X : zX} (l : Launch) {σ : zHp} {j n : Nat} {v : zK} {ci : Nat} {fs : List zV} {el : Nat → zK} (h : zLs σ j n el) (hn : n ≤ 39) (hel : ∀ i, i < n → ∃ ci fs, σ (el i).1 (el i).2 = some (oC ci fs) ∧ zElt ci) (hv : σ v.1 v.2 = some (oC ci fs)) (hci : zElt ci) (hv1 : ¬ (v.1 = 1 ∧ v.2 = j)) (he1 : ∀ i, i < n → ¬ ((el i).1 = 1 ∧ (el i).2 = j)) : zM X l yJx4a65c_add_9ea2d cJx4a65c_add_9ea2d 2 (some .boolean) 7 1 60 [aR 1 j, .inr v] σ (zPi (fun r σ1 => r = 1 ∧ zLs σ1 j (n + 1) (va_up el n v) ∧ zLf σ σ1 j)) zNx := by
  obtain ⟨mc, q, cap, f, h1, h2, h3, h4, h5, h6, h7, h8⟩ := h
  refine zM.of (by decide +kernel) (Nat.le_of_ble_eq_true rfl) (by simp [zcat, Value.category]) ?_
  intro p e s m args below meth c loc0 C hr hnm hT
  refine z_aload_n (i := 0) C dJx4a65c_add_9ea2d_0 rfl rfl ?_
  refine z_dup C (by first | trivial | rfl) dJx4a65c_add_9ea2d_1 ?_
  refine z_getf C f_RJx4a65c_63 dJx4a65c_add_9ea2d_2 h1 rfl ?_
  refine z_iconst (v := 1) C dJx4a65c_add_9ea2d_5 (by decide) ?_
  refine z_iadd C dJx4a65c_add_9ea2d_6 ?_
  refine z_putf C fp_RJx4a65c_63 dJx4a65c_add_9ea2d_7 h1 (by decide) (Nat.le_of_ble_eq_true rfl) (fun _ => ⟨rfl, rfl⟩) ?_
  have hqj : ¬ (q.1 = 1 ∧ q.2 = j) := by
    rcases h5 with ⟨rfl, -⟩ | ⟨h, -⟩
    · exact fun h => absurd h.1 (by decide)
    · exact fun h => by omega
  refine z_aload_n (i := 0) C dJx4a65c_add_9ea2d_10 rfl rfl ?_
  refine z_aload_n (i := 1) C dJx4a65c_add_9ea2d_11 rfl rfl ?_
  refine z_aload_n (i := 0) C dJx4a65c_add_9ea2d_12 rfl rfl ?_
  refine z_getf C f_RJx4a65c_9 dJx4a65c_add_9ea2d_13 (zput_s _ _ _ _) rfl ?_
  refine z_aload_n (i := 0) C dJx4a65c_add_9ea2d_16 rfl rfl ?_
  refine z_getf C f_RJx4a65c_48 dJx4a65c_add_9ea2d_17 (zput_s _ _ _ _) rfl ?_
  refine z_callV C Y_Jx4a65c_add_72be8 V_Jx4a65c_add_72be8 ml_RJx4a65c_131 (c_Jx4a65c_add_72be8 (mc := mc + 1) (el := el) l (zput_s _ _ _ _) (by rw [zput_n hqj]; exact h2) h3 h4 h5 (fun g hg => by rw [zput_n (by omega)]; exact h6 g hg) h7 h8 hn (fun i hi => by obtain ⟨ci, fs, a, b⟩ := hel i hi; exact ⟨ci, fs, by rw [zput_n (he1 i hi)]; exact a, b⟩) (by rw [zput_n hv1]; exact hv) hci hv1) dJx4a65c_add_9ea2d_20 rfl rfl (zput_s _ _ _ _) ⟨_, _, rfl⟩ (fun _ => Nat.le_of_ble_eq_true rfl) ⟨Nat.le_of_ble_eq_true rfl, Nat.le_of_ble_eq_true rfl⟩ ⟨Nat.le_of_ble_eq_true rfl, Nat.le_of_ble_eq_true rfl⟩ (z_rv (fun σ1 hx => ?_)) (z_nx)
  obtain ⟨hx1, hx2⟩ := hx
  refine z_iconst (v := 1) C dJx4a65c_add_9ea2d_23 (by decide) ?_
  exact z_iret C hr rfl dJx4a65c_add_9ea2d_24 (Nat.le_of_ble_eq_true rfl) (Nat.le_of_ble_eq_true rfl) ⟨_, rfl, rfl, hx1, fun a b ha hb => by rw [hx2 a b ha hb, zput_n ha]⟩

set_option maxRecDepth 100000 in
set_option maxHeartbeats 4000000 in
theorem c_Jxa1e45_init_da8c8 {X : zX} (l : Launch) {σ : zHp} {q : zK} : zM X l yJxa1e45_init_da8c8 cJxa1e45_init_da8c8 1 none 1 0 0 [.inr q] σ (zPv (fun σ1 => σ1 = σ)) zNx := by
  refine zM.of (by decide +kernel) (Nat.le_of_ble_eq_true rfl) (by simp [zcat, Value.category]) ?_
  intro p e s m args below meth c loc0 C hr hnm hT
  refine z_aload_n (i := 0) C dJxa1e45_init_da8c8_0 rfl rfl ?_
  refine z_objI C ml_RJxa1e45_1 im_objectInit co_objectInit ⟨Nat.le_of_ble_eq_true rfl, Nat.le_of_ble_eq_true rfl⟩ (fun _ => Nat.le_of_ble_eq_true rfl) dJxa1e45_init_da8c8_1 ?_
  exact z_vret C hr dJxa1e45_init_da8c8_4 (Nat.le_of_ble_eq_true rfl) (Nat.le_of_ble_eq_true rfl) ⟨rfl, rfl⟩

set_option maxRecDepth 100000 in
set_option maxHeartbeats 4000000 in
theorem c_Jxc12de_init_da8c8 {X : zX} (l : Launch) {σ : zHp} {j : Nat} {mc : Int32} {a b : zV} (h1 : σ 1 j = some (oC 2 [aI mc, a, b])) : zM X l yJxc12de_init_da8c8 cJxc12de_init_da8c8 1 none 2 0 0 [aR 1 j] σ (zPv (fun σ1 => σ1 = zput σ 1 j (oC 2 [aI 0, a, b]))) zNx := by
  refine zM.of (by decide +kernel) (Nat.le_of_ble_eq_true rfl) (by simp [zcat, Value.category]) ?_
  intro p e s m args below meth c loc0 C hr hnm hT
  refine z_aload_n (i := 0) C dJxc12de_init_da8c8_0 rfl rfl ?_
  refine z_callI C Y_Jxa1e45_init_da8c8 im_yJxa1e45_init_da8c8 rfl ml_RJxc12de_1 (c_Jxa1e45_init_da8c8 (q := (1, j)) l) dJxc12de_init_da8c8_1 rfl rfl (fun _ => Nat.le_of_ble_eq_true rfl) ⟨Nat.le_of_ble_eq_true rfl, Nat.le_of_ble_eq_true rfl⟩ ⟨Nat.le_of_ble_eq_true rfl, Nat.le_of_ble_eq_true rfl⟩ (z_rv (fun σ1 hx => ?_)) (z_nx)
  subst hx
  refine z_aload_n (i := 0) C dJxc12de_init_da8c8_4 rfl rfl ?_
  refine z_iconst (v := 0) C dJxc12de_init_da8c8_5 (by decide) ?_
  refine z_putf C fp_RJxc12de_7 dJxc12de_init_da8c8_6 h1 (by decide) (Nat.le_of_ble_eq_true rfl) (fun _ => ⟨rfl, rfl⟩) ?_
  exact z_vret C hr dJxc12de_init_da8c8_9 (Nat.le_of_ble_eq_true rfl) (Nat.le_of_ble_eq_true rfl) ⟨rfl, rfl⟩

set_option maxRecDepth 100000 in
set_option maxHeartbeats 4000000 in
theorem c_Jx4a65c_init_da8c8 {X : zX} (l : Launch) {σ : zHp} {j : Nat} (h1 : σ 1 j = some (oC 2 [aI 0, aN, aI 0])) : zM X l yJx4a65c_init_da8c8 cJx4a65c_init_da8c8 1 none 3 0 0 [aR 1 j] σ (zPv (fun σ1 => σ1 1 j = some (oC 2 [aI 0, aR 90 0, aI 0]) ∧ ∀ a b, ¬ (a = 1 ∧ b = j) → σ1 a b = σ a b)) zNx := by
  refine zM.of (by decide +kernel) (Nat.le_of_ble_eq_true rfl) (by simp [zcat, Value.category]) ?_
  intro p e s m args below meth c loc0 C hr hnm hT
  refine z_aload_n (i := 0) C dJx4a65c_init_da8c8_0 rfl rfl ?_
  refine z_callI C Y_Jxc12de_init_da8c8 im_yJxc12de_init_da8c8 rfl ml_RJx4a65c_1 (c_Jxc12de_init_da8c8 l h1) dJx4a65c_init_da8c8_1 rfl rfl (fun _ => Nat.le_of_ble_eq_true rfl) ⟨Nat.le_of_ble_eq_true rfl, Nat.le_of_ble_eq_true rfl⟩ ⟨Nat.le_of_ble_eq_true rfl, Nat.le_of_ble_eq_true rfl⟩ (z_rv (fun σ1 hx => ?_)) (z_nx)
  subst hx
  refine z_aload_n (i := 0) C dJx4a65c_init_da8c8_4 rfl rfl ?_
  refine z_getsA C fl_RJx4a65c_39 dJx4a65c_init_da8c8_5 ?_
  refine z_putf C fp_RJx4a65c_9 dJx4a65c_init_da8c8_8 (zput_s _ _ _ _) (by decide) (Nat.le_of_ble_eq_true rfl) (fun _ => ⟨rfl, rfl⟩) ?_
  exact z_vret C hr dJx4a65c_init_da8c8_11 (Nat.le_of_ble_eq_true rfl) (Nat.le_of_ble_eq_true rfl) ⟨rfl, zput_s _ _ _ _, fun a b ha => by rw [zput_n ha, zput_n ha]⟩

