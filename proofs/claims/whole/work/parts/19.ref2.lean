/-! the reference: its loops -/
section ML
variable {X : zX} {p : Program} {l : Launch} {e : Env} {s : State} {m : MethodId} {args : Array Value} {below : List Frame} {meth : Method} {c : Code} {nL : Nat} {σ0 σ : zHp} {loc0 : zK → Nat} {Q : State → Prop} {mc ms : Nat}
theorem zdec (k : Nat) : nI k + Int32.ofInt (-1) = nI k - 1 := by rw [Int32.sub_eq_add_neg]; rfl
theorem zinc (k : Nat) : nI k + Int32.ofInt 1 = nI (k + 1) := nI_1 k
theorem zneg : (nI 0 - 1 : Int32) < 0 := by decide
theorem zpos (k : Nat) (h : k < 2 ^ 30) : ¬ (nI (k + 1) - 1 < 0) := by
  rw [nI_pred]; exact nI_pos (by omega)
set_option maxRecDepth 100000 in
set_option maxHeartbeats 4000000 in
theorem lp_ownRegion (C : zC X p l s m args meth c cX7_ownRegion 4 yX7_ownRegion.cls) {x : Nat → Int32} {a : Nat → Nat → Int32} (hM : MD x a σ) {i : Nat} {r : Int32} (hi : i < 16) (kk : zG X p l e (zRm 1 mc ms) s m args below meth c 4 σ0 loc0 Q 0 0 σ 69 [(0, aR 12 0), (1, aI (nI i)), (2, aI r)] []) : ∀ (k : Nat) (f : Int32), k ≤ 8 → ruledL a i k f = r → zG X p l e (zRm 1 mc ms) s m args below meth c 4 σ0 loc0 Q 0 0 σ 9 [(0, aR 12 0), (1, aI (nI i)), (2, aI f), (3, aI (nI k - 1))] [] := by
  intro k
  induction k with
  | zero =>
    intro f hk hf
    refine z_iload_n (i := 3) C dX7_ownRegion_9 rfl rfl ?_
    refine z_if_lt (tgt := 69) C dX7_ownRegion_10 (by decide) (fun _ => ?_) (fun h => absurd zneg h)
    subst hf
    refine z_sub (L' := [(0, aR 12 0), (1, aI (nI i)), (2, aI f)]) (zs1 rfl (zs1 rfl (zs1 rfl zs0))) ?_
    exact kk
  | succ k ih =>
    intro f hk hf
    refine z_iload_n (i := 3) C dX7_ownRegion_9 rfl rfl ?_
    refine z_if_lt (tgt := 69) C dX7_ownRegion_10 (by decide) (fun h => absurd h (zpos k (by omega))) (fun _ => ?_)
    rw [nI_pred]
    refine z_aload_n (i := 0) C dX7_ownRegion_13 rfl rfl ?_
    refine z_getf C f_RX7_13 dX7_ownRegion_14 hM.1 rfl ?_
    refine z_iload_n (i := 1) C dX7_ownRegion_17 rfl rfl ?_
    refine z_ialdN C dX7_ownRegion_18 (hM.2 3 (by decide)) (show _ < 16 by omega) (by decide) ?_
    refine z_aload_n (i := 0) C dX7_ownRegion_19 rfl rfl ?_
    refine z_getf C f_RX7_22 dX7_ownRegion_20 hM.1 rfl ?_
    refine z_iload_n (i := 3) C dX7_ownRegion_23 rfl rfl ?_
    refine z_ialdN C dX7_ownRegion_24 (hM.2 7 (by decide)) (show _ < 9 by omega) (by decide) ?_
    refine z_aload_n (i := 0) C dX7_ownRegion_25 rfl rfl ?_
    refine z_getf C f_RX7_25 dX7_ownRegion_26 hM.1 rfl ?_
    refine z_iload_n (i := 3) C dX7_ownRegion_29 rfl rfl ?_
    refine z_ialdN C dX7_ownRegion_30 (hM.2 8 (by decide)) (show _ < 9 by omega) (by decide) ?_
    refine z_callS C Y_X7_in sm_yX7_in ml_RX7_86 (c_X7_in l) dX7_ownRegion_31 rfl rfl (fun _ => Nat.le_of_ble_eq_true rfl) ⟨Nat.le_of_ble_eq_true rfl, Nat.le_of_ble_eq_true rfl⟩ ⟨Nat.zero_le _, Nat.zero_le _⟩ (z_ri (fun x σ1 hx => ?_)) (z_nx)
    obtain ⟨rfl, rfl⟩ := hx
    refine z_if_eqB (tgt := 61) C dX7_ownRegion_34 (by decide) (fun hb => ?_) (fun hb => ?_)
    · refine z_iload_n (i := 2) C dX7_ownRegion_61 rfl rfl ?_
      refine z_istore_n (i := 2) C dX7_ownRegion_62 rfl (by decide) ?_
      refine z_iinc (v := nI k - 1) C dX7_ownRegion_63 (by decide) rfl (zdec k) ?_
      refine z_goto (tgt := 9) C dX7_ownRegion_66 (by decide) ?_
      refine z_sub (L' := [(0, aR 12 0), (1, aI (nI i)), (2, aI f), (3, aI (nI k - 1))]) (zs1 rfl (zs1 rfl (zs1 rfl (zs1 rfl zs0)))) ?_
      exact ih _ (by omega) (by rw [← hf]; show _ = ruledL a i k (cond (inB _ _ _ && _) _ _); rw [hb]; rfl)
    · refine z_aload_n (i := 0) C dX7_ownRegion_37 rfl rfl ?_
      refine z_getf C f_RX7_28 dX7_ownRegion_38 hM.1 rfl ?_
      refine z_iload_n (i := 3) C dX7_ownRegion_41 rfl rfl ?_
      refine z_ialdN C dX7_ownRegion_42 (hM.2 9 (by decide)) (show _ < 9 by omega) (by decide) ?_
      refine z_aload_n (i := 0) C dX7_ownRegion_43 rfl rfl ?_
      refine z_getf C f_RX7_16 dX7_ownRegion_44 hM.1 rfl ?_
      refine z_iload_n (i := 1) C dX7_ownRegion_47 rfl rfl ?_
      refine z_ialdN C dX7_ownRegion_48 (hM.2 4 (by decide)) (show _ < 16 by omega) (by decide) ?_
      refine z_icmp_gt (tgt := 61) C dX7_ownRegion_49 (by decide) (fun hc => ?_) (fun hc => ?_)
      · refine z_iload_n (i := 2) C dX7_ownRegion_61 rfl rfl ?_
        refine z_istore_n (i := 2) C dX7_ownRegion_62 rfl (by decide) ?_
        refine z_iinc (v := nI k - 1) C dX7_ownRegion_63 (by decide) rfl (zdec k) ?_
        refine z_goto (tgt := 9) C dX7_ownRegion_66 (by decide) ?_
        refine z_sub (L' := [(0, aR 12 0), (1, aI (nI i)), (2, aI f), (3, aI (nI k - 1))]) (zs1 rfl (zs1 rfl (zs1 rfl (zs1 rfl zs0)))) ?_
        exact ih _ (by omega) (by rw [← hf]; show _ = ruledL a i k (cond (inB _ _ _ && _) _ _); rw [hb, decide_eq_false (Int32.not_le.mpr hc)]; rfl)
      · refine z_aload_n (i := 0) C dX7_ownRegion_52 rfl rfl ?_
        refine z_getf C f_RX7_31 dX7_ownRegion_53 hM.1 rfl ?_
        refine z_iload_n (i := 3) C dX7_ownRegion_56 rfl rfl ?_
        refine z_ialdN C dX7_ownRegion_57 (hM.2 10 (by decide)) (show _ < 9 by omega) (by decide) ?_
        refine z_goto (tgt := 62) C dX7_ownRegion_58 (by decide) ?_
        refine z_istore_n (i := 2) C dX7_ownRegion_62 rfl (by decide) ?_
        refine z_iinc (v := nI k - 1) C dX7_ownRegion_63 (by decide) rfl (zdec k) ?_
        refine z_goto (tgt := 9) C dX7_ownRegion_66 (by decide) ?_
        refine z_sub (L' := [(0, aR 12 0), (1, aI (nI i)), (2, aI (a 10 k)), (3, aI (nI k - 1))]) (zs1 rfl (zs1 rfl (zs1 rfl (zs1 rfl zs0)))) ?_
        exact ih _ (by omega) (by rw [← hf]; show _ = ruledL a i k (cond (inB _ _ _ && _) _ _); rw [hb, decide_eq_true (Int32.not_lt.mp hc)]; rfl)

end ML
set_option maxRecDepth 100000 in
set_option maxHeartbeats 4000000 in
theorem c_X7_ownRegion {X : zX} (l : Launch) {x : Nat → Int32} {a : Nat → Nat → Int32} {σ : zHp} (hM : MD x a σ) (hI : zInv x a) {i : Nat} (hi : i < 16) : zM X l yX7_ownRegion cX7_ownRegion 4 (some .int) 1 0 0 [aR 12 0, aI (nI i)] σ (zPi (fun r σ1 => r = ownR x a i ∧ σ1 = σ)) zNx := by
  obtain ⟨i0, i1, i6, i11, i15, i23, i24, i29, iA, iS, iC, iQ, iP⟩ := id hI
  have b1 := i1.2
  have b6 := i6.2
  have b11 := i11.2
  have b15 := i15.2
  have b23 := i23.2
  have b24 := i24.2
  have b29 := i29.2
  refine zM.of (by decide +kernel) (Nat.le_of_ble_eq_true rfl) (by simp [zcat, Value.category]) ?_
  intro p e s m args below meth c loc0 C hr hnm hT
  refine z_iconst (v := -1) C dX7_ownRegion_0 (by decide) ?_
  refine z_istore_n (i := 2) C dX7_ownRegion_1 rfl (by decide) ?_
  refine z_aload_n (i := 0) C dX7_ownRegion_2 rfl rfl ?_
  refine z_getf C f_RX7_108 dX7_ownRegion_3 hM.1 rfl ?_
  refine z_iconst (v := 1) C dX7_ownRegion_6 (by decide) ?_
  refine z_isub C dX7_ownRegion_7 ?_
  rw [i6.1]
  refine z_istore_n (i := 3) C dX7_ownRegion_8 rfl (by decide) ?_
  refine z_sub (L' := [(0, aR 12 0), (1, aI (nI i)), (2, aI (-1)), (3, aI (nI (zN (x 6)) - 1))]) (zs1 rfl (zs1 rfl (zs1 rfl (zs1 rfl zs0)))) ?_
  refine lp_ownRegion C hM (r := ruledL a i (zN (x 6)) (-1)) (by omega) ?_ _ _ (by omega) rfl
  refine z_aload_n (i := 0) C dX7_ownRegion_69 rfl rfl ?_
  refine z_getf C f_RX7_19 dX7_ownRegion_70 hM.1 rfl ?_
  refine z_iload_n (i := 1) C dX7_ownRegion_73 rfl rfl ?_
  refine z_ialdN C dX7_ownRegion_74 (hM.2 5 (by decide)) (show _ < 16 by omega) (by decide) ?_
  refine z_iconst (v := -1) C dX7_ownRegion_75 (by decide) ?_
  refine z_icmp_eq (tgt := 88) C dX7_ownRegion_76 (by decide) (fun h76 => ?_) (fun h76 => ?_)
  · refine z_iload_n (i := 2) C dX7_ownRegion_88 rfl rfl ?_
    exact z_iret C hr rfl dX7_ownRegion_89 (Nat.le_of_ble_eq_true rfl) (Nat.le_of_ble_eq_true rfl) ⟨_, rfl, by unfold ownR; first | rw [if_pos h76] | rw [if_neg h76], rfl⟩
  · refine z_aload_n (i := 0) C dX7_ownRegion_79 rfl rfl ?_
    refine z_getf C f_RX7_19 dX7_ownRegion_80 hM.1 rfl ?_
    refine z_iload_n (i := 1) C dX7_ownRegion_83 rfl rfl ?_
    refine z_ialdN C dX7_ownRegion_84 (hM.2 5 (by decide)) (show _ < 16 by omega) (by decide) ?_
    refine z_goto (tgt := 89) C dX7_ownRegion_85 (by decide) ?_
    exact z_iret C hr rfl dX7_ownRegion_89 (Nat.le_of_ble_eq_true rfl) (Nat.le_of_ble_eq_true rfl) ⟨_, rfl, by unfold ownR; first | rw [if_pos h76] | rw [if_neg h76], rfl⟩

