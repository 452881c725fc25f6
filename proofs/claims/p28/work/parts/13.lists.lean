/-! lists: java.util.ArrayList over a row of objects -/
/-- list j has n elements, of keys el -/
def zLs (σ : zHp) (j n : Nat) (el : Nat → zK) : Prop := ∃ (mc : Int32) (q : zK) (cap : Nat) (f : Nat → Option zK), σ 1 j = some (oC 2 [aI mc, .inr q, aI (nI n)]) ∧ σ q.1 q.2 = some (rC cap f) ∧ n ≤ cap ∧ (∀ i, i < n → f i = some (el i)) ∧ ((q = (90, 0) ∧ cap = 0) ∨ (q.1 = 20 + j ∧ 10 ≤ cap)) ∧ (∀ g, (q = (90, 0) ∨ q.2 < g) → σ (20 + j) g = none) ∧ (cap ≤ 10 ∨ (10 < n ∧ 2 * cap ≤ 3 * n)) ∧ j < 6
set_option maxRecDepth 100000 in
set_option maxHeartbeats 4000000 in
theorem c_Jx4a65c_size_8abf5 {X : zX} (l : Launch) {σ : zHp} {j n : Nat} {el : Nat → zK} (h : zLs σ j n el) : zM X l yJx4a65c_size_8abf5 cJx4a65c_size_8abf5 1 (some .int) 0 0 0 [aR 1 j] σ (zPi (fun r σ1 => r = nI n ∧ σ1 = σ)) zNx := by
  obtain ⟨mc, q, cap, f, h1, h2, h3, h4, h5, h6, h7, h8⟩ := h
  refine zM.of (by decide +kernel) (Nat.le_of_ble_eq_true rfl) (by simp [zcat, Value.category]) ?_
  intro p e s m args below meth c loc0 C hr hnm hT
  refine z_aload_n (i := 0) C dJx4a65c_size_8abf5_0 rfl rfl ?_
  refine z_getf C f_RJx4a65c_48 dJx4a65c_size_8abf5_1 (by first | assumption | rfl) rfl ?_
  exact z_iret C hr rfl dJx4a65c_size_8abf5_4 (Nat.le_of_ble_eq_true rfl) (Nat.le_of_ble_eq_true rfl) ⟨_, rfl, rfl, rfl⟩

set_option maxRecDepth 100000 in
set_option maxHeartbeats 4000000 in
theorem c_Jx4a65c_elementData_915e3 {X : zX} (l : Launch) {σ : zHp} {j n i : Nat} {el : Nat → zK} (h : zLs σ j n el) (hi : i < n) (hn : n < 1000) : zM X l yJx4a65c_elementData_915e3 cJx4a65c_elementData_915e3 2 (some (.object "java/lang/Object")) 0 0 0 [aR 1 j, aI (nI i)] σ (zPr (fun r σ1 => r = el i ∧ σ1 = σ)) zNx := by
  obtain ⟨mc, q, cap, f, h1, h2, h3, h4, h5, h6, h7, h8⟩ := h
  refine zM.of (by decide +kernel) (Nat.le_of_ble_eq_true rfl) (by simp [zcat, Value.category]) ?_
  intro p e s m args below meth c loc0 C hr hnm hT
  refine z_aload_n (i := 0) C dJx4a65c_elementData_915e3_0 rfl rfl ?_
  refine z_getf C f_RJx4a65c_9 dJx4a65c_elementData_915e3_1 (by first | assumption | rfl) rfl ?_
  refine z_iload_n (i := 1) C dJx4a65c_elementData_915e3_4 rfl rfl ?_
  have hcap : cap < 2 ^ 31 := by omega
  refine z_aald C dJx4a65c_elementData_915e3_5 h2 (vp_in_nI (by omega) hcap) ?_
  rw [nI_clamp (by omega), h4 i hi]
  exact z_aret C hr (Or.inl ⟨_, rfl⟩) ⟨some (el i), rfl⟩ dJx4a65c_elementData_915e3_6 (Nat.le_of_ble_eq_true rfl) (Nat.le_of_ble_eq_true rfl) ⟨_, rfl, rfl, rfl⟩

set_option maxRecDepth 100000 in
set_option maxHeartbeats 4000000 in
theorem c_J3_checkIndex_8e157 {X : zX} (l : Launch) {σ : zHp} {n i : Nat} (hi : i < n) (hn : n < 1000) : zM X l yJ3_checkIndex_8e157 cJ3_checkIndex_8e157 3 (some .int) 0 0 0 [aI (nI i), aI (nI n), aN] σ (zPi (fun r σ1 => r = nI i ∧ σ1 = σ)) zNx := by
  refine zM.of (by decide +kernel) (Nat.le_of_ble_eq_true rfl) (by simp [zcat, Value.category]) ?_
  intro p e s m args below meth c loc0 C hr hnm hT
  refine z_iload_n (i := 0) C dJ3_checkIndex_8e157_0 rfl rfl ?_
  refine z_if_lt (tgt := 9) C dJ3_checkIndex_8e157_1 (by decide) (fun h1 => ?_) (fun h1 => ?_)
  · exact absurd h1 (nI_pos (by omega))
  · refine z_iload_n (i := 0) C dJ3_checkIndex_8e157_4 rfl rfl ?_
    refine z_iload_n (i := 1) C dJ3_checkIndex_8e157_5 rfl rfl ?_
    refine z_icmp_lt (tgt := 16) C dJ3_checkIndex_8e157_6 (by decide) (fun h6 => ?_) (fun h6 => ?_)
    · refine z_iload_n (i := 0) C dJ3_checkIndex_8e157_16 rfl rfl ?_
      exact z_iret C hr rfl dJ3_checkIndex_8e157_17 (Nat.le_of_ble_eq_true rfl) (Nat.le_of_ble_eq_true rfl) ⟨_, rfl, rfl, rfl⟩
    · exact absurd (nI_lt hi (by omega)) h6

set_option maxRecDepth 100000 in
set_option maxHeartbeats 4000000 in
theorem c_J15_checkIndex_7cf53 {X : zX} (l : Launch) {σ : zHp} {n i : Nat} (hi : i < n) (hn : n < 1000) : zM X l yJ15_checkIndex_7cf53 cJ15_checkIndex_7cf53 2 (some .int) 1 0 0 [aI (nI i), aI (nI n)] σ (zPi (fun r σ1 => r = nI i ∧ σ1 = σ)) zNx := by
  refine zM.of (by decide +kernel) (Nat.le_of_ble_eq_true rfl) (by simp [zcat, Value.category]) ?_
  intro p e s m args below meth c loc0 C hr hnm hT
  refine z_iload_n (i := 0) C dJ15_checkIndex_7cf53_0 rfl rfl ?_
  refine z_iload_n (i := 1) C dJ15_checkIndex_7cf53_1 rfl rfl ?_
  refine z_null C dJ15_checkIndex_7cf53_2 ?_
  refine z_callS C Y_J3_checkIndex_8e157 sm_yJ3_checkIndex_8e157 ml_RJ15_105 (c_J3_checkIndex_8e157 l hi hn) dJ15_checkIndex_7cf53_3 rfl rfl (fun _ => Nat.le_of_ble_eq_true rfl) ⟨Nat.le_of_ble_eq_true rfl, Nat.le_of_ble_eq_true rfl⟩ ⟨Nat.le_of_ble_eq_true rfl, Nat.le_of_ble_eq_true rfl⟩ (z_ri (fun x σ1 hx => ?_)) (z_nx)
  obtain ⟨rfl, rfl⟩ := hx
  exact z_iret C hr rfl dJ15_checkIndex_7cf53_6 (Nat.le_of_ble_eq_true rfl) (Nat.le_of_ble_eq_true rfl) ⟨_, rfl, rfl, rfl⟩

set_option maxRecDepth 100000 in
set_option maxHeartbeats 4000000 in
theorem c_Jx4a65c_get_915e3 {X : zX} (l : Launch) {σ : zHp} {j n i : Nat} {el : Nat → zK} (h : zLs σ j n el) (hi : i < n) (hn : n < 1000) : zM X l yJx4a65c_get_915e3 cJx4a65c_get_915e3 2 (some (.object "java/lang/Object")) 2 0 0 [aR 1 j, aI (nI i)] σ (zPr (fun r σ1 => r = el i ∧ σ1 = σ)) zNx := by
  have hh := h
  obtain ⟨mc, q, cap, f, h1, h2, h3, h4, h5, h6, h7, h8⟩ := h
  refine zM.of (by decide +kernel) (Nat.le_of_ble_eq_true rfl) (by simp [zcat, Value.category]) ?_
  intro p e s m args below meth c loc0 C hr hnm hT
  refine z_iload_n (i := 1) C dJx4a65c_get_915e3_0 rfl rfl ?_
  refine z_aload_n (i := 0) C dJx4a65c_get_915e3_1 rfl rfl ?_
  refine z_getf C f_RJx4a65c_48 dJx4a65c_get_915e3_2 (by first | assumption | rfl) rfl ?_
  refine z_callS C Y_J15_checkIndex_7cf53 sm_yJ15_checkIndex_7cf53 ml_RJx4a65c_118 (c_J15_checkIndex_7cf53 l hi hn) dJx4a65c_get_915e3_5 rfl rfl (fun _ => Nat.le_of_ble_eq_true rfl) ⟨Nat.le_of_ble_eq_true rfl, Nat.le_of_ble_eq_true rfl⟩ ⟨Nat.le_of_ble_eq_true rfl, Nat.le_of_ble_eq_true rfl⟩ (z_ri (fun x σ1 hx => ?_)) (z_nx)
  obtain ⟨rfl, rfl⟩ := hx
  refine z_pop C (by first | trivial | rfl) dJx4a65c_get_915e3_8 ?_
  refine z_aload_n (i := 0) C dJx4a65c_get_915e3_9 rfl rfl ?_
  refine z_iload_n (i := 1) C dJx4a65c_get_915e3_10 rfl rfl ?_
  refine z_callV C Y_Jx4a65c_elementData_915e3 V_Jx4a65c_elementData_915e3 ml_RJx4a65c_123 (c_Jx4a65c_elementData_915e3 l hh hi hn) dJx4a65c_get_915e3_11 rfl rfl (by first | assumption | rfl) ⟨_, _, rfl⟩ (fun _ => Nat.le_of_ble_eq_true rfl) ⟨Nat.le_of_ble_eq_true rfl, Nat.le_of_ble_eq_true rfl⟩ ⟨Nat.le_of_ble_eq_true rfl, Nat.le_of_ble_eq_true rfl⟩ (z_rr (fun x σ1 hx => ?_)) (z_nx)
  obtain ⟨rfl, rfl⟩ := hx
  exact z_aret C hr (Or.inl ⟨_, rfl⟩) ⟨some _, rfl⟩ dJx4a65c_get_915e3_14 (Nat.le_of_ble_eq_true rfl) (Nat.le_of_ble_eq_true rfl) ⟨_, rfl, rfl, rfl⟩

