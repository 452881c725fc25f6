/-! the law's method sellers: whether forecasts agree -/
section SEL
variable {X : zX} {p : Program} {l : Launch} {e : Env} {s : State} {m : MethodId} {args : Array Value} {below : List Frame} {meth : Method} {c : Code} {σ0 σ : zHp} {loc0 : zK → Nat} {Q : State → Prop} {cells slots : Nat} {x : Nat → Int32} {a A : Nat → Nat → Int32} {f : Nat → Int32}
set_option maxRecDepth 100000 in
set_option maxHeartbeats 4000000 in
theorem se_a (C : zC X p l s m args meth c cL_sellers 8 RL) (hC : ChC x a A σ) {k : Nat} (hk : k < zN (x 11)) (hb : cells + 3 * zN (x 11) ≤ 1000 ∧ slots + 18 * zN (x 11) ≤ 6000) (kk : zG X p l e (zRm 10 1000 6000) s m args below meth c 8 σ0 loc0 Q (cells + 3 * zN (x 11)) (slots + 18 * zN (x 11)) σ 79 [(0, aR 0 0), (1, aR 80 1), (2, aR 80 4), (3, aI (nI (sumN (ownN x a) k))), (4, aI (nI 0)), (5, aI (nI (k))), (6, aI (ownS x a k + a 14 k + forG x a k (zN (x 11))))] []) : ∀ (d n : Nat), n + d = zN (x 11) → zG X p l e (zRm 10 1000 6000) s m args below meth c 8 σ0 loc0 Q (cells + 3 * n) (slots + 18 * n) σ 39 [(0, aR 0 0), (1, aR 80 1), (2, aR 80 4), (3, aI (nI (sumN (ownN x a) k))), (4, aI (nI 0)), (5, aI (nI (k))), (6, aI (ownS x a k + a 14 k + forG x a k n)), (7, aI (nI (n)))] [] := by
  obtain ⟨hD, hI, hJ, ⟨⟨t0, t1, t2, t3, t4, t5, t6⟩, hTa, hTb, hTd, hTq⟩, hrow⟩ := id hC
  obtain ⟨i0, i1, i6, i11, i15, i23, i24, i29, iA, iS, iC, iQ, iP⟩ := id hI.1
  have b0 := i0.2
  have b1 := i1.2
  have b11 := i11.2
  have b15 := hJ.1.1
  have b23 := hJ.1.2
  have g0 : A 4 0 = nI (zN (x 1)) := t0.trans i1.1
  have g1 : A 4 1 = nI (zN (x 11)) := t1.trans i11.1
  have g2 : A 4 2 = nI (zN (x 15)) := t2.trans i15.1
  have g3 : A 4 3 = nI (zN (x 23)) := t3.trans i23.1
  have g6 : A 4 6 = nI (zN (x 0)) := t6.trans i0.1
  intro d
  induction d with
  | zero =>
    intro n h9
    refine z_iload C dL_sellers_39 rfl ?_
    refine z_aload_n (i := 2) C dL_sellers_41 rfl rfl ?_
    refine z_iconst (v := nI 1) C dL_sellers_42 (by decide) ?_
    refine z_ialdN C dL_sellers_43 (hrow 4 (by decide)) (show _ < 7 by omega) (by decide) ?_
    refine z_top (w := (nI (zN (x 11)))) (g1) ?_
    refine z_icmp_ge (tgt := 79) C dL_sellers_44 (by decide) (fun _ => ?_) (fun h => absurd (by rw [show n = zN (x 11) by omega]; exact Int32.le_refl _) h)
    refine z_sub (L' := [(0, aR 0 0), (1, aR 80 1), (2, aR 80 4), (3, aI (nI (sumN (ownN x a) k))), (4, aI (nI 0)), (5, aI (nI (k))), (6, aI (ownS x a k + a 14 k + forG x a k n))]) (zs1 rfl (zs1 rfl (zs1 rfl (zs1 rfl (zs1 rfl (zs1 rfl (zs1 rfl zs0))))))) ?_
    have e9 : n = zN (x 11) := by omega
    rw [e9]
    exact kk
  | succ d ih =>
    intro n h9
    refine z_iload C dL_sellers_39 rfl ?_
    refine z_aload_n (i := 2) C dL_sellers_41 rfl rfl ?_
    refine z_iconst (v := nI 1) C dL_sellers_42 (by decide) ?_
    refine z_ialdN C dL_sellers_43 (hrow 4 (by decide)) (show _ < 7 by omega) (by decide) ?_
    refine z_top (w := (nI (zN (x 11)))) (g1) ?_
    refine z_icmp_ge (tgt := 79) C dL_sellers_44 (by decide) (fun h => absurd h (nI_ge (by omega) (by omega))) (fun _ => ?_)
    have hk9 : n < zN (x 11) := by omega
    refine z_iload C dL_sellers_47 rfl ?_
    refine z_aload_n (i := 1) C dL_sellers_49 rfl rfl ?_
    refine z_iconst (v := nI 3) C dL_sellers_50 (by decide) ?_
    refine z_iload C dL_sellers_51 rfl ?_
    refine z_imul C dL_sellers_53 ?_
    refine z_top (w := (nI ((3 * n)))) (pk_mul _ _) ?_
    refine z_ialdN C dL_sellers_54 (hrow 1 (by decide)) (show _ < 24 by omega) (by decide) ?_
    refine z_top (w := (a 12 n)) ((hTb.1 n hk9).1) ?_
    refine z_iload C dL_sellers_55 rfl ?_
    refine z_icmp_ne (tgt := 69) C dL_sellers_57 (by decide) (fun h57 => ?_) (fun h57 => ?_)
    · refine z_iconst (v := nI 0) C dL_sellers_69 (by decide) ?_
      refine z_iadd C dL_sellers_70 ?_
      refine z_top (w := ownS x a k + a 14 k + forG x a k (n + 1)) (by
        rw [Int32.add_assoc (ownS x a k + a 14 k)]
        unfold forG
        rw [sumL, decide_eq_false h57]
        rfl) ?_
      refine z_istore C dL_sellers_71 (by decide) ?_
      refine z_iinc (v := nI (n + 1)) C dL_sellers_73 (by decide) rfl (zinc _) ?_
      refine z_goto (tgt := 39) C dL_sellers_76 (by decide) ?_
      refine z_sub (L' := [(0, aR 0 0), (1, aR 80 1), (2, aR 80 4), (3, aI (nI (sumN (ownN x a) k))), (4, aI (nI 0)), (5, aI (nI (k))), (6, aI (ownS x a k + a 14 k + forG x a k (n + 1))), (7, aI (nI (n + 1)))]) (zs1 rfl (zs1 rfl (zs1 rfl (zs1 rfl (zs1 rfl (zs1 rfl (zs1 rfl (zs1 rfl zs0)))))))) ?_
      exact z_wd (by omega) (by omega) (ih (n + 1) (by omega))
    · refine z_aload_n (i := 0) C dL_sellers_60 rfl rfl ?_
      refine z_iload C dL_sellers_61 rfl ?_
      refine z_callSX C Y_L_forecast sm_yL_forecast ml_RL_130 (c_L_forecast l hD hI) dL_sellers_63 rfl rfl (fun _ => Nat.le_of_ble_eq_true rfl) ⟨Nat.le_of_ble_eq_true rfl, Nat.le_of_ble_eq_true rfl⟩ (by show _ ≤ 1000 ∧ _ ≤ 6000; omega) (z_q0 (w := (forS x a (n))) (kq_sel hI.1 hk9) (by rw [zN_nI (by omega)]) ?_) z_nx
      refine z_goto (tgt := 70) C dL_sellers_66 (by decide) ?_
      refine z_iadd C dL_sellers_70 ?_
      refine z_top (w := ownS x a k + a 14 k + forG x a k (n + 1)) (by
        rw [Int32.add_assoc (ownS x a k + a 14 k)]
        unfold forG
        rw [sumL, decide_eq_true h57]
        rfl) ?_
      refine z_istore C dL_sellers_71 (by decide) ?_
      refine z_iinc (v := nI (n + 1)) C dL_sellers_73 (by decide) rfl (zinc _) ?_
      refine z_goto (tgt := 39) C dL_sellers_76 (by decide) ?_
      refine z_sub (L' := [(0, aR 0 0), (1, aR 80 1), (2, aR 80 4), (3, aI (nI (sumN (ownN x a) k))), (4, aI (nI 0)), (5, aI (nI (k))), (6, aI (ownS x a k + a 14 k + forG x a k (n + 1))), (7, aI (nI (n + 1)))]) (zs1 rfl (zs1 rfl (zs1 rfl (zs1 rfl (zs1 rfl (zs1 rfl (zs1 rfl (zs1 rfl zs0)))))))) ?_
      exact z_wd (by omega) (by omega) (ih (n + 1) (by omega))
set_option maxRecDepth 100000 in
set_option maxHeartbeats 4000000 in
theorem se_A (C : zC X p l s m args meth c cL_sellers 8 RL) (hC : ChC x a A σ) (hb : cells + 50 * zN (x 11) ≤ 1000 ∧ slots + 300 * zN (x 11) ≤ 6000) (kk : zG X p l e (zRm 10 1000 6000) s m args below meth c 8 σ0 loc0 Q (cells + 50 * zN (x 11)) (slots + 300 * zN (x 11)) σ 116 [(0, aR 0 0), (1, aR 80 1), (2, aR 80 4), (3, aI (nI (sumN (ownN x a) (zN (x 11))))), (4, aI (nI 0))] []) : ∀ (d k : Nat), k + d = zN (x 11) → zG X p l e (zRm 10 1000 6000) s m args below meth c 8 σ0 loc0 Q (cells + 50 * k) (slots + 300 * k) σ 8 [(0, aR 0 0), (1, aR 80 1), (2, aR 80 4), (3, aI (nI (sumN (ownN x a) k))), (4, aI (nI 0)), (5, aI (nI (k)))] [] := by
  obtain ⟨hD, hI, hJ, ⟨⟨t0, t1, t2, t3, t4, t5, t6⟩, hTa, hTb, hTd, hTq⟩, hrow⟩ := id hC
  obtain ⟨i0, i1, i6, i11, i15, i23, i24, i29, iA, iS, iC, iQ, iP⟩ := id hI.1
  have b0 := i0.2
  have b1 := i1.2
  have b11 := i11.2
  have b15 := hJ.1.1
  have b23 := hJ.1.2
  have g0 : A 4 0 = nI (zN (x 1)) := t0.trans i1.1
  have g1 : A 4 1 = nI (zN (x 11)) := t1.trans i11.1
  have g2 : A 4 2 = nI (zN (x 15)) := t2.trans i15.1
  have g3 : A 4 3 = nI (zN (x 23)) := t3.trans i23.1
  have g6 : A 4 6 = nI (zN (x 0)) := t6.trans i0.1
  intro d
  induction d with
  | zero =>
    intro k h9
    refine z_iload C dL_sellers_8 rfl ?_
    refine z_aload_n (i := 2) C dL_sellers_10 rfl rfl ?_
    refine z_iconst (v := nI 1) C dL_sellers_11 (by decide) ?_
    refine z_ialdN C dL_sellers_12 (hrow 4 (by decide)) (show _ < 7 by omega) (by decide) ?_
    refine z_top (w := (nI (zN (x 11)))) (g1) ?_
    refine z_icmp_ge (tgt := 116) C dL_sellers_13 (by decide) (fun _ => ?_) (fun h => absurd (by rw [show k = zN (x 11) by omega]; exact Int32.le_refl _) h)
    refine z_sub (L' := [(0, aR 0 0), (1, aR 80 1), (2, aR 80 4), (3, aI (nI (sumN (ownN x a) k))), (4, aI (nI 0))]) (zs1 rfl (zs1 rfl (zs1 rfl (zs1 rfl (zs1 rfl zs0))))) ?_
    have e9 : k = zN (x 11) := by omega
    rw [e9]
    exact kk
  | succ d ih =>
    intro k h9
    refine z_iload C dL_sellers_8 rfl ?_
    refine z_aload_n (i := 2) C dL_sellers_10 rfl rfl ?_
    refine z_iconst (v := nI 1) C dL_sellers_11 (by decide) ?_
    refine z_ialdN C dL_sellers_12 (hrow 4 (by decide)) (show _ < 7 by omega) (by decide) ?_
    refine z_top (w := (nI (zN (x 11)))) (g1) ?_
    refine z_icmp_ge (tgt := 116) C dL_sellers_13 (by decide) (fun h => absurd h (nI_ge (by omega) (by omega))) (fun _ => ?_)
    have hk9 : k < zN (x 11) := by omega
    obtain ⟨ho1, ho2⟩ := ownS_N hI hJ (s := k) (by omega)
    refine z_aload_n (i := 0) C dL_sellers_16 rfl rfl ?_
    refine z_iload C dL_sellers_17 rfl ?_
    refine z_callSX C Y_L_own sm_yL_own ml_RL_128 (c_L_own l hD hI) dL_sellers_19 rfl rfl (fun _ => Nat.le_of_ble_eq_true rfl) ⟨Nat.le_of_ble_eq_true rfl, Nat.le_of_ble_eq_true rfl⟩ (by show _ ≤ 1000 ∧ _ ≤ 6000; omega) (z_q0 (w := (ownS x a k)) (kq_sel hI.1 hk9) (by rw [zN_nI (by omega)]) ?_) z_nx
    refine z_aload_n (i := 1) C dL_sellers_22 rfl rfl ?_
    refine z_iconst (v := nI 3) C dL_sellers_23 (by decide) ?_
    refine z_iload C dL_sellers_24 rfl ?_
    refine z_imul C dL_sellers_26 ?_
    refine z_top (w := (nI ((3 * k)))) (pk_mul _ _) ?_
    refine z_iconst (v := nI 2) C dL_sellers_27 (by decide) ?_
    refine z_iadd C dL_sellers_28 ?_
    refine z_top (w := (nI (((3 * k) + 2)))) (nI_add _ _) ?_
    refine z_ialdN C dL_sellers_29 (hrow 1 (by decide)) (show _ < 24 by omega) (by decide) ?_
    refine z_top (w := (a 14 k)) (hTb.2 k (by omega)) ?_
    refine z_iadd C dL_sellers_30 ?_
    refine z_istore C dL_sellers_31 (by decide) ?_
    refine z_iload C dL_sellers_33 rfl ?_
    refine z_iconst (v := nI 1) C dL_sellers_35 (by decide) ?_
    refine z_iadd C dL_sellers_36 ?_
    refine z_top (w := (nI ((k + 1)))) (nI_add _ _) ?_
    refine z_istore C dL_sellers_37 (by decide) ?_
    have e0 : ownS x a k + a 14 k = ownS x a k + a 14 k + forG x a k (k + 1) := by rw [forG_0 hI hk9, Int32.add_zero]
    obtain ⟨d2, hd2⟩ : ∃ d2, d2 + (k + 1) = zN (x 11) := ⟨zN (x 11) - (k + 1), by omega⟩
    refine z_wd (k := cells + 50 * k + 3 * (k + 1)) (n := slots + 300 * k + 18 * (k + 1)) (by omega) (by omega) ?_
    refine z_sub (L' := [(0, aR 0 0), (1, aR 80 1), (2, aR 80 4), (3, aI (nI (sumN (ownN x a) k))), (4, aI (nI 0)), (5, aI (nI (k))), (6, aI ((ownS x a k + a 14 k))), (7, aI (nI ((k + 1))))]) (zs1 rfl (zs1 rfl (zs1 rfl (zs1 rfl (zs1 rfl (zs1 rfl (zs1 rfl (zs1 rfl zs0)))))))) ?_
    rw [e0]
    refine se_a (cells := cells + 50 * k) (slots := slots + 300 * k) C hC hk9 (by omega) ?_ d2 (k + 1) (by omega)
    rw [← for_tree hI hk9]
    refine z_iload_n (i := 3) C dL_sellers_79 rfl rfl ?_
    refine z_aload_n (i := 0) C dL_sellers_80 rfl rfl ?_
    refine z_iload C dL_sellers_81 rfl ?_
    refine z_callSX C Y_L_own sm_yL_own ml_RL_128 (c_L_own l hD hI) dL_sellers_83 rfl rfl (fun _ => Nat.le_of_ble_eq_true rfl) ⟨Nat.le_of_ble_eq_true rfl, Nat.le_of_ble_eq_true rfl⟩ (by show _ ≤ 1000 ∧ _ ≤ 6000; omega) (z_q0 (w := (nI (ownN x a k))) (kq_sel hI.1 hk9) (by rw [zN_nI (by omega)]; exact ho2) ?_) z_nx
    refine z_iadd C dL_sellers_86 ?_
    refine z_top (w := (nI ((sumN (ownN x a) k + ownN x a k)))) (nI_add _ _) ?_
    refine z_istore_n (i := 3) C dL_sellers_87 rfl (by decide) ?_
    refine z_aload_n (i := 0) C dL_sellers_88 rfl rfl ?_
    refine z_iload C dL_sellers_89 rfl ?_
    refine z_callSX C Y_L_forecast sm_yL_forecast ml_RL_130 (c_L_forecast l hD hI) dL_sellers_91 rfl rfl (fun _ => Nat.le_of_ble_eq_true rfl) ⟨Nat.le_of_ble_eq_true rfl, Nat.le_of_ble_eq_true rfl⟩ (by show _ ≤ 1000 ∧ _ ≤ 6000; omega) (z_q0 (w := (forS x a (k))) (kq_sel hI.1 hk9) (by rw [zN_nI (by omega)]) ?_) z_nx
    refine z_iload C dL_sellers_94 rfl ?_
    refine z_icmp_ne (tgt := 108) C dL_sellers_96 (by decide) (fun h => absurd (rfl) h) (fun _ => ?_)
    refine z_aload_n (i := 0) C dL_sellers_99 rfl rfl ?_
    refine z_iload C dL_sellers_100 rfl ?_
    refine z_callSX C Y_L_own sm_yL_own ml_RL_128 (c_L_own l hD hI) dL_sellers_102 rfl rfl (fun _ => Nat.le_of_ble_eq_true rfl) ⟨Nat.le_of_ble_eq_true rfl, Nat.le_of_ble_eq_true rfl⟩ (by show _ ≤ 1000 ∧ _ ≤ 6000; omega) (z_q0 (w := (nI (ownN x a k))) (kq_sel hI.1 hk9) (by rw [zN_nI (by omega)]; exact ho2) ?_) z_nx
    refine z_if_ge (tgt := 110) C dL_sellers_105 (by decide) (fun _ => ?_) (fun h => absurd (nI_pos' (by omega)) h)
    refine z_iinc (v := nI (k + 1)) C dL_sellers_110 (by decide) rfl (zinc _) ?_
    refine z_goto (tgt := 8) C dL_sellers_113 (by decide) ?_
    refine z_sub (L' := [(0, aR 0 0), (1, aR 80 1), (2, aR 80 4), (3, aI (nI (sumN (ownN x a) (k + 1)))), (4, aI (nI 0)), (5, aI (nI (k + 1)))]) (zs1 rfl (zs1 rfl (zs1 rfl (zs1 rfl (zs1 rfl (zs1 rfl zs0)))))) ?_
    exact z_wd (by omega) (by omega) (ih (k + 1) (by omega))
set_option maxRecDepth 100000 in
set_option maxHeartbeats 4000000 in
theorem se_B (C : zC X p l s m args meth c cL_sellers 8 RL) (hC : ChC x a A σ) {oa : Nat} (hb : cells + 9 * zN (x 15) ≤ 1000 ∧ slots + 54 * zN (x 15) ≤ 6000) (kk : zG X p l e (zRm 10 1000 6000) s m args below meth c 8 σ0 loc0 Q (cells + 9 * zN (x 15)) (slots + 54 * zN (x 15)) σ 183 [(0, aR 0 0), (1, aR 80 1), (2, aR 80 4), (3, aI (nI (oa + sumN (frN x a) (zN (x 15))))), (4, aI (nI (sumN (mstN x a) (zN (x 15)))))] []) : ∀ (d k : Nat), k + d = zN (x 15) → zG X p l e (zRm 10 1000 6000) s m args below meth c 8 σ0 loc0 Q (cells + 9 * k) (slots + 54 * k) σ 119 [(0, aR 0 0), (1, aR 80 1), (2, aR 80 4), (3, aI (nI (oa + sumN (frN x a) k))), (4, aI (nI (sumN (mstN x a) k))), (5, aI (nI (k)))] [] := by
  obtain ⟨hD, hI, hJ, ⟨⟨t0, t1, t2, t3, t4, t5, t6⟩, hTa, hTb, hTd, hTq⟩, hrow⟩ := id hC
  obtain ⟨i0, i1, i6, i11, i15, i23, i24, i29, iA, iS, iC, iQ, iP⟩ := id hI.1
  have b0 := i0.2
  have b1 := i1.2
  have b11 := i11.2
  have b15 := hJ.1.1
  have b23 := hJ.1.2
  have g0 : A 4 0 = nI (zN (x 1)) := t0.trans i1.1
  have g1 : A 4 1 = nI (zN (x 11)) := t1.trans i11.1
  have g2 : A 4 2 = nI (zN (x 15)) := t2.trans i15.1
  have g3 : A 4 3 = nI (zN (x 23)) := t3.trans i23.1
  have g6 : A 4 6 = nI (zN (x 0)) := t6.trans i0.1
  intro d
  induction d with
  | zero =>
    intro k h9
    refine z_iload C dL_sellers_119 rfl ?_
    refine z_aload_n (i := 2) C dL_sellers_121 rfl rfl ?_
    refine z_iconst (v := nI 2) C dL_sellers_122 (by decide) ?_
    refine z_ialdN C dL_sellers_123 (hrow 4 (by decide)) (show _ < 7 by omega) (by decide) ?_
    refine z_top (w := (nI (zN (x 15)))) (g2) ?_
    refine z_icmp_ge (tgt := 183) C dL_sellers_124 (by decide) (fun _ => ?_) (fun h => absurd (by rw [show k = zN (x 15) by omega]; exact Int32.le_refl _) h)
    refine z_sub (L' := [(0, aR 0 0), (1, aR 80 1), (2, aR 80 4), (3, aI (nI (oa + sumN (frN x a) k))), (4, aI (nI (sumN (mstN x a) k)))]) (zs1 rfl (zs1 rfl (zs1 rfl (zs1 rfl (zs1 rfl zs0))))) ?_
    have e9 : k = zN (x 15) := by omega
    rw [e9]
    exact kk
  | succ d ih =>
    intro k h9
    refine z_iload C dL_sellers_119 rfl ?_
    refine z_aload_n (i := 2) C dL_sellers_121 rfl rfl ?_
    refine z_iconst (v := nI 2) C dL_sellers_122 (by decide) ?_
    refine z_ialdN C dL_sellers_123 (hrow 4 (by decide)) (show _ < 7 by omega) (by decide) ?_
    refine z_top (w := (nI (zN (x 15)))) (g2) ?_
    refine z_icmp_ge (tgt := 183) C dL_sellers_124 (by decide) (fun h => absurd h (nI_ge (by omega) (by omega))) (fun _ => ?_)
    have hk9 : k < zN (x 15) := by omega
    obtain ⟨hw1, hw2⟩ := wrt_N hI hJ hk9
    obtain ⟨hs1, hs2⟩ := st_N hI hk9
    have hm := (mst_le hI hJ hk9).2
    refine z_aload_n (i := 0) C dL_sellers_127 rfl rfl ?_
    refine z_iload C dL_sellers_128 rfl ?_
    refine z_callSX C Y_L_worth sm_yL_worth ml_RL_113 (c_L_worth l hD hI) dL_sellers_130 rfl rfl (fun _ => Nat.le_of_ble_eq_true rfl) ⟨Nat.le_of_ble_eq_true rfl, Nat.le_of_ble_eq_true rfl⟩ (by show _ ≤ 1000 ∧ _ ≤ 6000; omega) (z_q0 (w := (nI (wN x a k))) (kq_cha hI.1 hk9) (by rw [zN_nI (by omega)]; exact hw2) ?_) z_nx
    refine z_aload_n (i := 0) C dL_sellers_133 rfl rfl ?_
    refine z_iload C dL_sellers_134 rfl ?_
    refine z_callSX C Y_L_stage sm_yL_stage ml_RL_107 (c_L_stage l hD hI) dL_sellers_136 rfl rfl (fun _ => Nat.le_of_ble_eq_true rfl) ⟨Nat.le_of_ble_eq_true rfl, Nat.le_of_ble_eq_true rfl⟩ (by show _ ≤ 1000 ∧ _ ≤ 6000; omega) (z_q0 (w := (nI (stN a (k)))) (kq_cha hI.1 hk9) (by rw [zN_nI (by omega)]; exact (st_N hI hk9).2) ?_) z_nx
    refine z_callS C Y_L_weight sm_yL_weight ml_RL_132 (c_L_weight l hs1) dL_sellers_139 rfl rfl (fun _ => Nat.le_of_ble_eq_true rfl) ⟨Nat.le_of_ble_eq_true rfl, Nat.le_of_ble_eq_true rfl⟩ (by show _ ≤ 1000 ∧ _ ≤ 6000; omega) (z_p0 (w := nI (wgN (stN a k))) rfl ?_) z_nx
    refine z_imul C dL_sellers_142 ?_
    refine z_top (w := (nI ((wN x a k * wgN (stN a k))))) (pk_mul _ _) ?_
    refine z_bipush (v := nI 100) C dL_sellers_143 (by decide) ?_
    refine z_idiv C dL_sellers_145 (by decide) ?_
    refine z_top (w := (nI (((wN x a k * wgN (stN a k)) / 100)))) (pk_div (by omega) (by decide) (by decide)) ?_
    refine z_top (w := nI (mstN x a k)) rfl ?_
    refine z_istore C dL_sellers_146 (by decide) ?_
    refine z_iload C dL_sellers_148 rfl ?_
    refine z_iload C dL_sellers_150 rfl ?_
    refine z_iadd C dL_sellers_152 ?_
    refine z_top (w := (nI ((sumN (mstN x a) k + mstN x a k)))) (nI_add _ _) ?_
    refine z_istore C dL_sellers_153 (by decide) ?_
    refine z_iload_n (i := 3) C dL_sellers_155 rfl rfl ?_
    refine z_aload_n (i := 0) C dL_sellers_156 rfl rfl ?_
    refine z_iload C dL_sellers_157 rfl ?_
    refine z_callSX C Y_L_stage sm_yL_stage ml_RL_107 (c_L_stage l hD hI) dL_sellers_159 rfl rfl (fun _ => Nat.le_of_ble_eq_true rfl) ⟨Nat.le_of_ble_eq_true rfl, Nat.le_of_ble_eq_true rfl⟩ (by show _ ≤ 1000 ∧ _ ≤ 6000; omega) (z_q0 (w := (nI (stN a (k)))) (kq_cha hI.1 hk9) (by rw [zN_nI (by omega)]; exact (st_N hI hk9).2) ?_) z_nx
    refine z_iconst (v := nI 5) C dL_sellers_162 (by decide) ?_
    refine z_icmp_ne (tgt := 170) C dL_sellers_163 (by decide) (fun h163 => ?_) (fun h163 => ?_)
    · refine z_iconst (v := nI 2) C dL_sellers_170 (by decide) ?_
      refine z_aload_n (i := 2) C dL_sellers_171 rfl rfl ?_
      refine z_iconst (v := nI 1) C dL_sellers_172 (by decide) ?_
      refine z_ialdN C dL_sellers_173 (hrow 4 (by decide)) (show _ < 7 by omega) (by decide) ?_
      refine z_top (w := (nI (zN (x 11)))) (g1) ?_
      refine z_imul C dL_sellers_174 ?_
      refine z_top (w := (nI ((2 * zN (x 11))))) (pk_mul _ _) ?_
      refine z_iadd C dL_sellers_175 ?_
      refine z_top (w := (nI ((oa + sumN (frN x a) k + (2 * zN (x 11)))))) (nI_add _ _) ?_
      refine z_top (w := nI (oa + sumN (frN x a) (k + 1))) (by
        unfold frN
        rw [sumN, if_neg (fun z => h163 (by rw [z]))]
        first | rfl | exact congrArg nI (Nat.add_assoc _ _ _)) ?_
      refine z_istore_n (i := 3) C dL_sellers_176 rfl (by decide) ?_
      refine z_iinc (v := nI (k + 1)) C dL_sellers_177 (by decide) rfl (zinc _) ?_
      refine z_goto (tgt := 119) C dL_sellers_180 (by decide) ?_
      refine z_sub (L' := [(0, aR 0 0), (1, aR 80 1), (2, aR 80 4), (3, aI (nI (oa + sumN (frN x a) (k + 1)))), (4, aI (nI (sumN (mstN x a) (k + 1)))), (5, aI (nI (k + 1)))]) (zs1 rfl (zs1 rfl (zs1 rfl (zs1 rfl (zs1 rfl (zs1 rfl zs0)))))) ?_
      exact z_wd (by omega) (by omega) (ih (k + 1) (by omega))
    · refine z_iconst (v := nI 0) C dL_sellers_166 (by decide) ?_
      refine z_goto (tgt := 175) C dL_sellers_167 (by decide) ?_
      refine z_iadd C dL_sellers_175 ?_
      refine z_top (w := (nI ((oa + sumN (frN x a) k + 0)))) (nI_add _ _) ?_
      refine z_top (w := nI (oa + sumN (frN x a) (k + 1))) (by
        unfold frN
        rw [sumN, if_pos ((nI_eq (by omega) (by omega)).mp h163)]
        first | rfl | exact congrArg nI (Nat.add_assoc _ _ _)) ?_
      refine z_istore_n (i := 3) C dL_sellers_176 rfl (by decide) ?_
      refine z_iinc (v := nI (k + 1)) C dL_sellers_177 (by decide) rfl (zinc _) ?_
      refine z_goto (tgt := 119) C dL_sellers_180 (by decide) ?_
      refine z_sub (L' := [(0, aR 0 0), (1, aR 80 1), (2, aR 80 4), (3, aI (nI (oa + sumN (frN x a) (k + 1)))), (4, aI (nI (sumN (mstN x a) (k + 1)))), (5, aI (nI (k + 1)))]) (zs1 rfl (zs1 rfl (zs1 rfl (zs1 rfl (zs1 rfl (zs1 rfl zs0)))))) ?_
      exact z_wd (by omega) (by omega) (ih (k + 1) (by omega))
end SEL
set_option maxRecDepth 100000 in
set_option maxHeartbeats 4000000 in
theorem c_L_sellers {X : zX} (l : Launch) {x : Nat → Int32} {a A : Nat → Nat → Int32} {σ : zHp} (hC : ChC x a A σ) : zM X l yL_sellers cL_sellers 8 (some .boolean) 10 1000 6000 [aR 0 0, aR 80 1, aR 80 4] σ (zPi (fun r σ1 => r = 1 ∧ σ1 = σ)) zNx := by
  refine zM.of (by decide +kernel) (Nat.le_of_ble_eq_true rfl) (by simp [zcat, Value.category]) ?_
  intro p e s m args below meth c loc0 C hr hnm hT
  obtain ⟨hD, hI, hJ, ⟨⟨t0, t1, t2, t3, t4, t5, t6⟩, hTa, hTb, hTd, hTq⟩, hrow⟩ := id hC
  obtain ⟨i0, i1, i6, i11, i15, i23, i24, i29, iA, iS, iC, iQ, iP⟩ := id hI.1
  have b0 := i0.2
  have b1 := i1.2
  have b11 := i11.2
  have b15 := hJ.1.1
  have b23 := hJ.1.2
  have g0 : A 4 0 = nI (zN (x 1)) := t0.trans i1.1
  have g1 : A 4 1 = nI (zN (x 11)) := t1.trans i11.1
  have g2 : A 4 2 = nI (zN (x 15)) := t2.trans i15.1
  have g3 : A 4 3 = nI (zN (x 23)) := t3.trans i23.1
  have g6 : A 4 6 = nI (zN (x 0)) := t6.trans i0.1
  refine z_iconst (v := nI 0) C dL_sellers_0 (by decide) ?_
  refine z_istore_n (i := 3) C dL_sellers_1 rfl (by decide) ?_
  refine z_iconst (v := nI 0) C dL_sellers_2 (by decide) ?_
  refine z_istore C dL_sellers_3 (by decide) ?_
  refine z_iconst (v := nI 0) C dL_sellers_5 (by decide) ?_
  refine z_istore C dL_sellers_6 (by decide) ?_
  refine z_sub (L' := [(0, aR 0 0), (1, aR 80 1), (2, aR 80 4), (3, aI (nI 0)), (4, aI (nI 0)), (5, aI (nI 0))]) (zs1 rfl (zs1 rfl (zs1 rfl (zs1 rfl (zs1 rfl (zs1 rfl zs0)))))) ?_
  refine z_wd (k := 0 + 50 * 0) (n := 0 + 300 * 0) (by omega) (by omega) ?_
  refine se_A (cells := 0) (slots := 0) C hC (by omega) ?_ (zN (x 11)) 0 (Nat.zero_add _)
  refine z_iconst (v := nI 0) C dL_sellers_116 (by decide) ?_
  refine z_istore C dL_sellers_117 (by decide) ?_
  refine z_sub (L' := [(0, aR 0 0), (1, aR 80 1), (2, aR 80 4), (3, aI (nI (sumN (ownN x a) (zN (x 11))))), (4, aI (nI 0)), (5, aI (nI 0))]) (zs1 rfl (zs1 rfl (zs1 rfl (zs1 rfl (zs1 rfl (zs1 rfl zs0)))))) ?_
  refine z_wd (k := 420 + 9 * 0) (n := 2500 + 54 * 0) (by omega) (by omega) ?_
  refine se_B (oa := sumN (ownN x a) (zN (x 11))) (cells := 420) (slots := 2500) C hC (by omega) ?_ (zN (x 15)) 0 (Nat.zero_add _)
  refine z_wd (k := 900) (n := 5500) (by omega) (by omega) ?_
  have hge := own_ge hI hJ
  have hu1 : sumN (ownN x a) (zN (x 11)) ≤ 16000000 * zN (x 11) := sumN_k (fun s hs => (ownS_N hI hJ (by omega)).1)
  have hu2 : sumN (frN x a) (zN (x 15)) ≤ 16 * zN (x 15) := sumN_k (fun c _ => by unfold frN; split <;> omega)
  refine z_iload_n (i := 3) C dL_sellers_183 rfl rfl ?_
  refine z_iload C dL_sellers_184 rfl ?_
  refine z_icmp_lt (tgt := 215) C dL_sellers_186 (by decide) (fun h => absurd h (nI_nlt hge (by omega))) (fun _ => ?_)
  refine z_aload_n (i := 0) C dL_sellers_189 rfl rfl ?_
  refine z_aload_n (i := 2) C dL_sellers_190 rfl rfl ?_
  refine z_iconst (v := nI 1) C dL_sellers_191 (by decide) ?_
  refine z_ialdN C dL_sellers_192 (hrow 4 (by decide)) (show _ < 7 by omega) (by decide) ?_
  refine z_top (w := (nI (zN (x 11)))) (g1) ?_
  refine z_callSX C Y_L_forecast sm_yL_forecast ml_RL_130 (c_L_forecast l hD hI) dL_sellers_193 rfl rfl (fun _ => Nat.le_of_ble_eq_true rfl) ⟨Nat.le_of_ble_eq_true rfl, Nat.le_of_ble_eq_true rfl⟩ (by show _ ≤ 1000 ∧ _ ≤ 6000; omega) (z_q1 (kx_1 (inB_out i11 (by decide) (Nat.le_refl _) (by omega))) ?_) z_nx
  refine z_ldc C dL_sellers_196 kc_RL_94 ?_
  refine z_icmp_ne (tgt := 215) C dL_sellers_198 (by decide) (fun h => absurd (rfl) h) (fun _ => ?_)
  refine z_aload_n (i := 0) C dL_sellers_201 rfl rfl ?_
  refine z_iconst (v := (-1)) C dL_sellers_202 (by decide) ?_
  refine z_callSX C Y_L_own sm_yL_own ml_RL_128 (c_L_own l hD hI) dL_sellers_203 rfl rfl (fun _ => Nat.le_of_ble_eq_true rfl) ⟨Nat.le_of_ble_eq_true rfl, Nat.le_of_ble_eq_true rfl⟩ (by show _ ≤ 1000 ∧ _ ≤ 6000; omega) (z_q1 (kx_1 inB_m1) ?_) z_nx
  refine z_ldc C dL_sellers_206 kc_RL_28 ?_
  refine z_icmp_ne (tgt := 215) C dL_sellers_208 (by decide) (fun h => absurd (rfl) h) (fun _ => ?_)
  refine z_iconst (v := nI 1) C dL_sellers_211 (by decide) ?_
  refine z_goto (tgt := 216) C dL_sellers_212 (by decide) ?_
  exact z_iret C hr rfl dL_sellers_216 (Nat.le_of_ble_eq_true rfl) (Nat.le_of_ble_eq_true rfl) ⟨_, rfl, rfl, rfl⟩
