/-! the law's method chances: whether worth, days and quotes agree -/
theorem kq_cha {x : Nat → Int32} {a : Nat → Nat → Int32} (hI : zInv x a) {c : Nat} (hc : c < zN (x 15)) : goC (isCha x (nI c)) true true = 0 := goC_0.mpr ⟨inB_nI hI.2.2.2.2.1 (by decide) hc, rfl, rfl⟩
theorem kq_acc {x : Nat → Int32} {a : Nat → Nat → Int32} (hI : zInv x a) {c : Nat} (hc : c < zN (x 1)) : goC (isAcc x (nI c)) true true = 0 := goC_0.mpr ⟨inB_nI hI.2.1 (by decide) hc, rfl, rfl⟩
theorem kq_sel {x : Nat → Int32} {a : Nat → Nat → Int32} (hI : zInv x a) {c : Nat} (hc : c < zN (x 11)) : goC (isSel x (nI c)) true true = 0 := goC_0.mpr ⟨inB_nI hI.2.2.2.1 (by decide) hc, rfl, rfl⟩
theorem inB_nn {a b n : Nat} (h1 : a ≤ n) (h2 : n ≤ b) (hb : b < 2 ^ 31) : inB (nI n) (nI a) (nI b) = true := inB_t.mpr ⟨nI_le h1 (by omega), nI_le h2 hb⟩
theorem inB_out {n : Nat} {m : Int32} {b : Nat} (hm : zCnt m b) (hb : b ≤ 1000) (h : zN m ≤ n) (hn : n < 2 ^ 31) : inB (nI n) 0 (m - 1) = false := by
  refine inB_f (Or.inr ?_)
  rw [hm.1]
  have e : (nI (zN m) - 1).toInt = (zN m : Int) - 1 := pk_sub_toInt (a := zN m) (b := 1) (by have := hm.2; omega) (by omega)
  rw [Int32.lt_iff_toInt_lt, nI_toInt hn, e]
  omega
theorem inB_m1 {m : Int32} : inB (-1) 0 m = false := inB_f (Or.inl (by decide))
/-- what chances stands on -/
def ChC (x : Nat → Int32) (a A : Nat → Nat → Int32) (σ : zHp) : Prop := DK x a σ ∧ zIv x a ∧ ZJ x a ∧ TT x a A ∧ ∀ j, j < 5 → σ 80 j = some (iC (lwN j) (A j))
theorem ChC.up {x : Nat → Int32} {a A : Nat → Nat → Int32} {σ σ1 : zHp} (h : ChC x a A σ) (hg : ∀ k i, ¬ (k = 80 ∧ i = 5) → σ1 k i = σ k i) : ChC x a A σ1 := ⟨h.1.agn hg, h.2.1, h.2.2.1, h.2.2.2.1, fun j hj => (hg 80 j (by omega)).trans (h.2.2.2.2 j hj)⟩
section CHA
variable {X : zX} {p : Program} {l : Launch} {e : Env} {s : State} {m : MethodId} {args : Array Value} {below : List Frame} {meth : Method} {c : Code} {σ0 σ : zHp} {loc0 : zK → Nat} {Q : State → Prop} {cells slots : Nat} {x : Nat → Int32} {a A : Nat → Nat → Int32} {f : Nat → Int32}
set_option maxRecDepth 100000 in
set_option maxHeartbeats 4000000 in
theorem ch_1a (C : zC X p l s m args meth c cL_chances 12 RL) (hC : ChC x a A σ) {k : Nat} (hk : k < zN (x 15)) (hb : cells + 18 ≤ 4000 ∧ slots + 108 ≤ 24000) (kk : zG X p l e (zRm 10 4000 24000) s m args below meth c 12 σ0 loc0 Q (cells + 18) (slots + 108) σ 61 [(0, aR 0 0), (1, aR 80 0), (2, aR 80 2), (3, aR 80 3), (4, aR 80 4), (5, aI (nI 0)), (6, aR 80 5), (7, aI (nI (k))), (8, aI (nI (stN a k))), (9, aI (dayL x a k 6))] []) : ∀ (d n : Nat), n + d = 6 → zG X p l e (zRm 10 4000 24000) s m args below meth c 12 σ0 loc0 Q (cells + 3 * n) (slots + 18 * n) σ 35 [(0, aR 0 0), (1, aR 80 0), (2, aR 80 2), (3, aR 80 3), (4, aR 80 4), (5, aI (nI 0)), (6, aR 80 5), (7, aI (nI (k))), (8, aI (nI (stN a k))), (9, aI (dayL x a k n)), (10, aI (nI (n)))] [] := by
  obtain ⟨hD, hI, hJ, ⟨⟨t0, t1, t2, t3, t4, t5, t6⟩, hTa, hTb, hTd, hTq⟩, hrow⟩ := id hC
  obtain ⟨i0, i1, i6, i11, i15, i23, i24, i29, iA, iS, iC, iQ, iP⟩ := id hI.1
  have b0 := i0.2
  have b1 := i1.2
  have b11 := i11.2
  have b15 := hJ.1.1
  have b23 := hJ.1.2
  have g0 : A 4 0 = nI (zN (x 1)) := t0.trans i1.1
  have g1 : A 4 1 = nI (zN (x 11)) := t1.trans i11.1
  have g2 : A 4 2 = nI (zN (x 15)) := t2.trans i15.1
  have g3 : A 4 3 = nI (zN (x 23)) := t3.trans i23.1
  have g6 : A 4 6 = nI (zN (x 0)) := t6.trans i0.1
  intro d
  induction d with
  | zero =>
    intro n hn
    refine z_iload C dL_chances_35 rfl ?_
    refine z_bipush (v := nI 6) C dL_chances_37 (by decide) ?_
    refine z_icmp_ge (tgt := 61) C dL_chances_39 (by decide) (fun _ => ?_) (fun h => absurd (by rw [show n = 6 by omega]; exact Int32.le_refl _) h)
    refine z_sub (L' := [(0, aR 0 0), (1, aR 80 0), (2, aR 80 2), (3, aR 80 3), (4, aR 80 4), (5, aI (nI 0)), (6, aR 80 5), (7, aI (nI (k))), (8, aI (nI (stN a k))), (9, aI (dayL x a k n))]) (zs1 rfl (zs1 rfl (zs1 rfl (zs1 rfl (zs1 rfl (zs1 rfl (zs1 rfl (zs1 rfl (zs1 rfl (zs1 rfl zs0)))))))))) ?_
    rw [show n = 6 by omega]
    exact kk
  | succ d ih =>
    intro n hn
    refine z_iload C dL_chances_35 rfl ?_
    refine z_bipush (v := nI 6) C dL_chances_37 (by decide) ?_
    refine z_icmp_ge (tgt := 61) C dL_chances_39 (by decide) (fun h => absurd h (nI_ge (by omega) (by omega))) (fun _ => ?_)
    refine z_iload C dL_chances_42 rfl ?_
    refine z_aload_n (i := 0) C dL_chances_44 rfl rfl ?_
    refine z_iload C dL_chances_45 rfl ?_
    refine z_iload C dL_chances_47 rfl ?_
    refine z_callSX C Y_L_daysIn sm_yL_daysIn ml_RL_110 (c_L_daysIn l hD hI) dL_chances_49 rfl rfl (fun _ => Nat.le_of_ble_eq_true rfl) ⟨Nat.le_of_ble_eq_true rfl, Nat.le_of_ble_eq_true rfl⟩ (by show _ ≤ 4000 ∧ _ ≤ 24000; omega) (z_q0 (w := (a 22 (6 * k + n) + (if a 18 k = nI n then x 0 - a 19 k else 0))) (goC_0.mpr ⟨inB_nI i15 (by decide) hk, inB_nn (a := 0) (b := 5) (by omega) (by omega) (by decide), rfl⟩) (by rw [zN_nI (by omega), zN_nI (by omega)]) ?_) z_nx
    refine z_iadd C dL_chances_52 ?_
    refine z_istore C dL_chances_53 (by decide) ?_
    refine z_iinc (v := nI (n + 1)) C dL_chances_55 (by decide) rfl (zinc _) ?_
    refine z_goto (tgt := 35) C dL_chances_58 (by decide) ?_
    refine z_sub (L' := [(0, aR 0 0), (1, aR 80 0), (2, aR 80 2), (3, aR 80 3), (4, aR 80 4), (5, aI (nI 0)), (6, aR 80 5), (7, aI (nI (k))), (8, aI (nI (stN a k))), (9, aI (dayL x a k (n + 1))), (10, aI (nI (n + 1)))]) (zs1 rfl (zs1 rfl (zs1 rfl (zs1 rfl (zs1 rfl (zs1 rfl (zs1 rfl (zs1 rfl (zs1 rfl (zs1 rfl (zs1 rfl zs0))))))))))) ?_
    exact z_wd (by omega) (by omega) (ih (n + 1) (by omega))
theorem kc_no {x : Nat → Int32} {a : Nat → Nat → Int32} (hI : zInv x a) {c : Nat} (hc : c < zN (x 15)) (h : cnt x a (nI c) = -1) : k_counting x a (nI c) = 2 := by
  have hi : isCha x (nI c) = true := inB_nI hI.2.2.2.2.1 (by decide) hc
  unfold k_counting
  rw [hi, if_pos rfl, h]
  decide
theorem kc_ok {x : Nat → Int32} {a : Nat → Nat → Int32} (hI : zInv x a) {c q : Nat} (hc : c < zN (x 15)) (hqn : q < zN (x 23)) (h : cnt x a (nI c) = nI q) : k_counting x a (nI c) = 0 := by
  have hi : isCha x (nI c) = true := inB_nI hI.2.2.2.2.1 (by decide) hc
  have h2 : ¬ cnt x a (nI c) = -1 := by
    rcases cnt_r (x := x) (a := a) (q := nI c) with e | ⟨j, hj, e⟩
    · rw [h] at e
      exact absurd e (nI_nm1 (by have := hI.2.2.2.2.2.1.2; omega))
    · rw [e]; exact nI_nm1 (by have := hI.2.2.2.2.2.1.2; omega)
  unfold k_counting
  rw [hi, if_pos rfl, decide_eq_false h2]
  rfl
theorem ch_all {x : Nat → Int32} {a : Nat → Nat → Int32} {f : Nat → Int32} {k : Nat} (hf : ∀ t, t < 6 → f t = allL x a t k) (h5 : stN a k ≤ 5) (es : a 18 k = nI (stN a k)) : ∀ t, t < 6 → upd f (stN a k) (f (stN a k) + wrt x a k) t = allL x a t (k + 1) := by
  intro t ht
  unfold allL
  rw [sumL]
  by_cases e : t = stN a k
  · rw [e, upd_at, hf _ (by omega), es, decide_eq_true rfl]
    rfl
  · rw [upd_ne e, hf t ht, es, decide_eq_false (fun z => e ((nI_eq (by omega) (by omega)).mp z.symm))]
    exact (Int32.add_zero _).symm
set_option maxRecDepth 100000 in
set_option maxHeartbeats 4000000 in
theorem ch_1 (C : zC X p l s m args meth c cL_chances 12 RL) {σb : zHp} (hC : ChC x a A σb) (kk : ∀ (σ : zHp) (f : Nat → Int32), (∀ k i, ¬ (k = 80 ∧ i = 5) → σ k i = σb k i) → σ 80 5 = some (iC 6 f) → (∀ t, t < 6 → f t = allL x a t (zN (x 15))) → zG X p l e (zRm 10 4000 24000) s m args below meth c 12 σ0 loc0 Q (500) (3000) σ 192 [(0, aR 0 0), (1, aR 80 0), (2, aR 80 2), (3, aR 80 3), (4, aR 80 4), (5, aI (nI 0)), (6, aR 80 5)] []) : ∀ (d k : Nat) (σ : zHp) (f : Nat → Int32), k + d = zN (x 15) → (∀ k i, ¬ (k = 80 ∧ i = 5) → σ k i = σb k i) → σ 80 5 = some (iC 6 f) → (∀ t, t < 6 → f t = allL x a t k) → zG X p l e (zRm 10 4000 24000) s m args below meth c 12 σ0 loc0 Q (1 + 30 * k) (6 + 180 * k) σ 12 [(0, aR 0 0), (1, aR 80 0), (2, aR 80 2), (3, aR 80 3), (4, aR 80 4), (5, aI (nI 0)), (6, aR 80 5), (7, aI (nI (k)))] [] := by
  have hC0 := hC
  obtain ⟨-, hI, hJ, ⟨⟨t0, t1, t2, t3, t4, t5, t6⟩, hTa, hTb, hTd, hTq⟩, -⟩ := id hC
  obtain ⟨i0, i1, i6, i11, i15, i23, i24, i29, iA, iS, iC, iQ, iP⟩ := id hI.1
  have b0 := i0.2
  have b1 := i1.2
  have b11 := i11.2
  have b15 := hJ.1.1
  have b23 := hJ.1.2
  have g0 : A 4 0 = nI (zN (x 1)) := t0.trans i1.1
  have g1 : A 4 1 = nI (zN (x 11)) := t1.trans i11.1
  have g2 : A 4 2 = nI (zN (x 15)) := t2.trans i15.1
  have g3 : A 4 3 = nI (zN (x 23)) := t3.trans i23.1
  have g6 : A 4 6 = nI (zN (x 0)) := t6.trans i0.1
  intro d
  induction d with
  | zero =>
    intro k σ f hk hag h5 hf
    have hC := hC0.up hag
    obtain ⟨hD, -, -, -, hrow⟩ := id hC
    refine z_iload C dL_chances_12 rfl ?_
    refine z_aload C dL_chances_14 rfl ?_
    refine z_iconst (v := nI 2) C dL_chances_16 (by decide) ?_
    refine z_ialdN C dL_chances_17 (hrow 4 (by decide)) (show _ < 7 by omega) (by decide) ?_
    refine z_top (w := (nI (zN (x 15)))) (g2) ?_
    refine z_icmp_ge (tgt := 192) C dL_chances_18 (by decide) (fun _ => ?_) (fun h => absurd (by rw [show k = zN (x 15) by omega]; exact Int32.le_refl _) h)
    refine z_sub (L' := [(0, aR 0 0), (1, aR 80 0), (2, aR 80 2), (3, aR 80 3), (4, aR 80 4), (5, aI (nI 0)), (6, aR 80 5)]) (zs1 rfl (zs1 rfl (zs1 rfl (zs1 rfl (zs1 rfl (zs1 rfl (zs1 rfl zs0))))))) ?_
    exact z_wd (by omega) (by omega) (kk σ f hag h5 (by rw [show zN (x 15) = k by omega]; exact hf))
  | succ d ih =>
    intro k σ f hk hag h5 hf
    have hC := hC0.up hag
    obtain ⟨hD, -, -, -, hrow⟩ := id hC
    refine z_iload C dL_chances_12 rfl ?_
    refine z_aload C dL_chances_14 rfl ?_
    refine z_iconst (v := nI 2) C dL_chances_16 (by decide) ?_
    refine z_ialdN C dL_chances_17 (hrow 4 (by decide)) (show _ < 7 by omega) (by decide) ?_
    refine z_top (w := (nI (zN (x 15)))) (g2) ?_
    refine z_icmp_ge (tgt := 192) C dL_chances_18 (by decide) (fun h => absurd h (nI_ge (by omega) (by omega))) (fun _ => ?_)
    have hk9 : k < zN (x 15) := by omega
    obtain ⟨s5, es⟩ := st_N hI hk9
    obtain ⟨d0, d1, d3, t00, d2, dsum⟩ := hTd k hk9
    refine z_aload_n (i := 0) C dL_chances_21 rfl rfl ?_
    refine z_iload C dL_chances_22 rfl ?_
    refine z_callSX C Y_L_stage sm_yL_stage ml_RL_107 (c_L_stage l hD hI) dL_chances_24 rfl rfl (fun _ => Nat.le_of_ble_eq_true rfl) ⟨Nat.le_of_ble_eq_true rfl, Nat.le_of_ble_eq_true rfl⟩ (by show _ ≤ 4000 ∧ _ ≤ 24000; omega) (z_q0 (w := (nI (stN a (k)))) (kq_cha hI.1 hk9) (by rw [zN_nI (by omega)]; exact (st_N hI hk9).2) ?_) z_nx
    refine z_istore C dL_chances_27 (by decide) ?_
    refine z_iconst (v := nI 0) C dL_chances_29 (by decide) ?_
    refine z_istore C dL_chances_30 (by decide) ?_
    refine z_iconst (v := nI 0) C dL_chances_32 (by decide) ?_
    refine z_istore C dL_chances_33 (by decide) ?_
    refine z_sub (L' := [(0, aR 0 0), (1, aR 80 0), (2, aR 80 2), (3, aR 80 3), (4, aR 80 4), (5, aI (nI 0)), (6, aR 80 5), (7, aI (nI (k))), (8, aI (nI (stN a (k)))), (9, aI (dayL x a k 0)), (10, aI (nI 0))]) (zs1 rfl (zs1 rfl (zs1 rfl (zs1 rfl (zs1 rfl (zs1 rfl (zs1 rfl (zs1 rfl (zs1 rfl (zs1 rfl (zs1 rfl zs0))))))))))) ?_
    refine z_wd (k := 1 + 30 * k + 3) (n := 6 + 180 * k + 18) (by omega) (by omega) ?_
    refine ch_1a (cells := 1 + 30 * k + 3) (slots := 6 + 180 * k + 18) C hC hk9 (by omega) ?_ 6 0 rfl
    refine z_aload_n (i := 2) C dL_chances_61 rfl rfl ?_
    refine z_iconst (v := nI 4) C dL_chances_62 (by decide) ?_
    refine z_iload C dL_chances_63 rfl ?_
    refine z_imul C dL_chances_65 ?_
    refine z_top (w := (nI ((4 * k)))) (pk_mul _ _) ?_
    refine z_iconst (v := nI 3) C dL_chances_66 (by decide) ?_
    refine z_iadd C dL_chances_67 ?_
    refine z_top (w := (nI (((4 * k) + 3)))) (nI_add _ _) ?_
    refine z_ialdN C dL_chances_68 (hrow 2 (by decide)) (show _ < 64 by omega) (by decide) ?_
    refine z_top (w := (cnt x a (nI k))) (d3) ?_
    refine z_istore C dL_chances_69 (by decide) ?_
    refine z_iload C dL_chances_71 rfl ?_
    rcases cnt_r (x := x) (a := a) (q := nI k) with hq | hqx
    · refine z_if_ge (tgt := 85) C dL_chances_73 (by decide) (fun h => absurd h (by rw [hq]; decide)) (fun _ => ?_)
      refine z_aload_n (i := 2) C dL_chances_76 rfl rfl ?_
      refine z_iconst (v := nI 4) C dL_chances_77 (by decide) ?_
      refine z_iload C dL_chances_78 rfl ?_
      refine z_imul C dL_chances_80 ?_
      refine z_top (w := (nI ((4 * k)))) (pk_mul _ _) ?_
      refine z_ialdN C dL_chances_81 (hrow 2 (by decide)) (show _ < 64 by omega) (by decide) ?_
      refine z_top (w := (a 17 k)) (d0) ?_
      refine z_goto (tgt := 110) C dL_chances_82 (by decide) ?_
      refine z_top (w := (wrt x a k)) ((if_pos hq).symm) ?_
      refine z_istore C dL_chances_110 (by decide) ?_
      refine z_iload C dL_chances_112 rfl ?_
      refine z_if_lt (tgt := 174) C dL_chances_114 (by decide) (fun h => absurd h (nI_pos (by omega))) (fun _ => ?_)
      refine z_iload C dL_chances_117 rfl ?_
      refine z_iconst (v := nI 5) C dL_chances_119 (by decide) ?_
      refine z_icmp_gt (tgt := 174) C dL_chances_120 (by decide) (fun h => absurd h (fun h => nI_ge (a := 5) (b := 6) (by decide) (by decide) (absurd ((nI_ltI (by decide) (by omega)).mp h) (by omega)))) (fun _ => ?_)
      refine z_iload C dL_chances_123 rfl ?_
      refine z_aload C dL_chances_125 rfl ?_
      refine z_bipush (v := nI 6) C dL_chances_127 (by decide) ?_
      refine z_ialdN C dL_chances_129 (hrow 4 (by decide)) (show _ < 7 by omega) (by decide) ?_
      refine z_top (w := (nI (zN (x 0)))) (g6) ?_
      refine z_aload_n (i := 2) C dL_chances_130 rfl rfl ?_
      refine z_iconst (v := nI 4) C dL_chances_131 (by decide) ?_
      refine z_iload C dL_chances_132 rfl ?_
      refine z_imul C dL_chances_134 ?_
      refine z_top (w := (nI ((4 * k)))) (pk_mul _ _) ?_
      refine z_iconst (v := nI 2) C dL_chances_135 (by decide) ?_
      refine z_iadd C dL_chances_136 ?_
      refine z_top (w := (nI (((4 * k) + 2)))) (nI_add _ _) ?_
      refine z_ialdN C dL_chances_137 (hrow 2 (by decide)) (show _ < 64 by omega) (by decide) ?_
      refine z_isub C dL_chances_138 ?_
      refine z_icmp_ne (tgt := 174) C dL_chances_139 (by decide) (fun h => absurd (by rw [day_6 hI hJ hTd hk9, ← i0.1]) h) (fun _ => ?_)
      refine z_aload_n (i := 0) C dL_chances_142 rfl rfl ?_
      refine z_iload C dL_chances_143 rfl ?_
      refine z_callSX C Y_L_worth sm_yL_worth ml_RL_113 (c_L_worth l hD hI) dL_chances_145 rfl rfl (fun _ => Nat.le_of_ble_eq_true rfl) ⟨Nat.le_of_ble_eq_true rfl, Nat.le_of_ble_eq_true rfl⟩ (by show _ ≤ 4000 ∧ _ ≤ 24000; omega) (z_q0 (w := (wrt x a (k))) (kq_cha hI.1 hk9) (by rw [zN_nI (by omega)]) ?_) z_nx
      refine z_iload C dL_chances_148 rfl ?_
      refine z_icmp_ne (tgt := 174) C dL_chances_150 (by decide) (fun h => absurd (rfl) h) (fun _ => ?_)
      refine z_aload_n (i := 0) C dL_chances_153 rfl rfl ?_
      refine z_iload C dL_chances_154 rfl ?_
      refine z_callSX C Y_L_counting sm_yL_counting ml_RL_115 (c_L_counting l hD hI) dL_chances_156 rfl rfl (fun _ => Nat.le_of_ble_eq_true rfl) ⟨Nat.le_of_ble_eq_true rfl, Nat.le_of_ble_eq_true rfl⟩ (by show _ ≤ 4000 ∧ _ ≤ 24000; omega) (z_q2 (kc_no hI.1 hk9 hq) ?_) z_nx
      refine z_iload C dL_chances_159 rfl ?_
      rw [hq]
      refine z_if_ge (tgt := 169) C dL_chances_161 (by decide) (fun h => absurd h (by decide)) (fun _ => ?_)
      refine z_ldc C dL_chances_164 kc_RL_18 ?_
      refine z_goto (tgt := 171) C dL_chances_166 (by decide) ?_
      refine z_icmp_eq (tgt := 176) C dL_chances_171 (by decide) (fun _ => ?_) (fun h => absurd (rfl) h)
      refine z_aload C dL_chances_176 rfl ?_
      refine z_iload C dL_chances_178 rfl ?_
      refine z_dup2 C (by first | trivial | rfl) (by first | trivial | rfl) dL_chances_180 ?_
      refine z_ialdN C dL_chances_181 (h5) (show _ < 6 by omega) (by decide) ?_
      refine z_iload C dL_chances_182 rfl ?_
      refine z_iadd C dL_chances_184 ?_
      refine z_iastN C dL_chances_185 h5 (by decide) (show _ < 6 by omega) (by decide) ?_
      refine z_iinc (v := nI (k + 1)) C dL_chances_186 (by decide) rfl (zinc _) ?_
      refine z_goto (tgt := 12) C dL_chances_189 (by decide) ?_
      refine z_sub (L' := [(0, aR 0 0), (1, aR 80 0), (2, aR 80 2), (3, aR 80 3), (4, aR 80 4), (5, aI (nI 0)), (6, aR 80 5), (7, aI (nI (k + 1)))]) (zs1 rfl (zs1 rfl (zs1 rfl (zs1 rfl (zs1 rfl (zs1 rfl (zs1 rfl (zs1 rfl zs0)))))))) ?_
      exact z_wd (by omega) (by omega) (ih (k + 1) _ _ (by omega) (fun k i h => (zput_n h).trans (hag k i h)) (zput_s _ _ _ _) (ch_all hf s5 es))
    · refine z_if_ge (tgt := 85) C dL_chances_73 (by decide) (fun _ => ?_) (fun h => absurd (by obtain ⟨q, hqn, hq⟩ := hqx; rw [hq]; exact nI_pos' (by omega)) h)
      refine z_aload_n (i := 2) C dL_chances_85 rfl rfl ?_
      refine z_iconst (v := nI 4) C dL_chances_86 (by decide) ?_
      refine z_iload C dL_chances_87 rfl ?_
      refine z_imul C dL_chances_89 ?_
      refine z_top (w := (nI ((4 * k)))) (pk_mul _ _) ?_
      refine z_ialdN C dL_chances_90 (hrow 2 (by decide)) (show _ < 64 by omega) (by decide) ?_
      refine z_top (w := (a 17 k)) (d0) ?_
      refine z_bipush (v := nI 100) C dL_chances_91 (by decide) ?_
      refine z_aload_n (i := 3) C dL_chances_93 rfl rfl ?_
      obtain ⟨q, hqn, hq⟩ := hqx
      obtain ⟨dd, hdd, ed⟩ := hJ.2.2.2.2.2.2.2.2 q hqn
      obtain ⟨⟨c9, hc9, ec9⟩, ⟨s9, hs9, es9⟩, -⟩ := iQ q hqn
      refine z_iload C dL_chances_94 rfl ?_
      refine z_top (w := nI q) hq ?_
      refine z_ialdN C dL_chances_96 (hrow 3 (by decide)) (show _ < 30 by omega) (by decide) ?_
      refine z_top (w := (nI (qN a q))) (hTq q hqn) ?_
      have hqb : qN a q < 2 ^ 31 ∧ qN a q / 1000 % 1000 = dd := by
        unfold qN
        rw [ec9, es9, ed, zN_nI (by omega), zN_nI (by omega), zN_nI (by omega)]
        by_cases e0 : a 28 q = 0
        · rw [if_pos e0]; omega
        · rw [if_neg e0]; omega
      have hqb1 := hqb.1
      refine z_sipush (v := nI 1000) C dL_chances_97 (by decide) ?_
      refine z_idiv C dL_chances_100 (by decide) ?_
      refine z_top (w := (nI ((qN a q / 1000)))) (pk_div (by omega) (by decide) (by decide)) ?_
      refine z_sipush (v := nI 1000) C dL_chances_101 (by decide) ?_
      refine z_irem C dL_chances_104 (by decide) ?_
      refine z_top (w := (nI (((qN a q / 1000) % 1000)))) (pk_rem (by omega) (by decide) (by decide)) ?_
      refine z_top (w := (nI (dd))) (by rw [hqb.2]) ?_
      refine z_isub C dL_chances_105 ?_
      refine z_imul C dL_chances_106 ?_
      refine z_bipush (v := nI 100) C dL_chances_107 (by decide) ?_
      refine z_idiv C dL_chances_109 (by decide) ?_
      refine z_top (w := (wrt x a k)) (by unfold wrt; rw [hq, if_neg (nI_nm1 (by omega)), zN_nI (by omega), ed]; rfl) ?_
      refine z_istore C dL_chances_110 (by decide) ?_
      refine z_iload C dL_chances_112 rfl ?_
      refine z_if_lt (tgt := 174) C dL_chances_114 (by decide) (fun h => absurd h (nI_pos (by omega))) (fun _ => ?_)
      refine z_iload C dL_chances_117 rfl ?_
      refine z_iconst (v := nI 5) C dL_chances_119 (by decide) ?_
      refine z_icmp_gt (tgt := 174) C dL_chances_120 (by decide) (fun h => absurd h (fun h => nI_ge (a := 5) (b := 6) (by decide) (by decide) (absurd ((nI_ltI (by decide) (by omega)).mp h) (by omega)))) (fun _ => ?_)
      refine z_iload C dL_chances_123 rfl ?_
      refine z_aload C dL_chances_125 rfl ?_
      refine z_bipush (v := nI 6) C dL_chances_127 (by decide) ?_
      refine z_ialdN C dL_chances_129 (hrow 4 (by decide)) (show _ < 7 by omega) (by decide) ?_
      refine z_top (w := (nI (zN (x 0)))) (g6) ?_
      refine z_aload_n (i := 2) C dL_chances_130 rfl rfl ?_
      refine z_iconst (v := nI 4) C dL_chances_131 (by decide) ?_
      refine z_iload C dL_chances_132 rfl ?_
      refine z_imul C dL_chances_134 ?_
      refine z_top (w := (nI ((4 * k)))) (pk_mul _ _) ?_
      refine z_iconst (v := nI 2) C dL_chances_135 (by decide) ?_
      refine z_iadd C dL_chances_136 ?_
      refine z_top (w := (nI (((4 * k) + 2)))) (nI_add _ _) ?_
      refine z_ialdN C dL_chances_137 (hrow 2 (by decide)) (show _ < 64 by omega) (by decide) ?_
      refine z_isub C dL_chances_138 ?_
      refine z_icmp_ne (tgt := 174) C dL_chances_139 (by decide) (fun h => absurd (by rw [day_6 hI hJ hTd hk9, ← i0.1]) h) (fun _ => ?_)
      refine z_aload_n (i := 0) C dL_chances_142 rfl rfl ?_
      refine z_iload C dL_chances_143 rfl ?_
      refine z_callSX C Y_L_worth sm_yL_worth ml_RL_113 (c_L_worth l hD hI) dL_chances_145 rfl rfl (fun _ => Nat.le_of_ble_eq_true rfl) ⟨Nat.le_of_ble_eq_true rfl, Nat.le_of_ble_eq_true rfl⟩ (by show _ ≤ 4000 ∧ _ ≤ 24000; omega) (z_q0 (w := (wrt x a (k))) (kq_cha hI.1 hk9) (by rw [zN_nI (by omega)]) ?_) z_nx
      refine z_iload C dL_chances_148 rfl ?_
      refine z_icmp_ne (tgt := 174) C dL_chances_150 (by decide) (fun h => absurd (rfl) h) (fun _ => ?_)
      refine z_aload_n (i := 0) C dL_chances_153 rfl rfl ?_
      refine z_iload C dL_chances_154 rfl ?_
      refine z_callSX C Y_L_counting sm_yL_counting ml_RL_115 (c_L_counting l hD hI) dL_chances_156 rfl rfl (fun _ => Nat.le_of_ble_eq_true rfl) ⟨Nat.le_of_ble_eq_true rfl, Nat.le_of_ble_eq_true rfl⟩ (by show _ ≤ 4000 ∧ _ ≤ 24000; omega) (z_q0 (w := (cnt x a (nI k))) (kc_ok hI.1 hk9 hqn hq) (rfl) ?_) z_nx
      refine z_iload C dL_chances_159 rfl ?_
      refine z_if_ge (tgt := 169) C dL_chances_161 (by decide) (fun _ => ?_) (fun h => absurd (by rw [hq]; exact nI_pos' (by omega)) h)
      refine z_iload C dL_chances_169 rfl ?_
      refine z_icmp_eq (tgt := 176) C dL_chances_171 (by decide) (fun _ => ?_) (fun h => absurd (rfl) h)
      refine z_aload C dL_chances_176 rfl ?_
      refine z_iload C dL_chances_178 rfl ?_
      refine z_dup2 C (by first | trivial | rfl) (by first | trivial | rfl) dL_chances_180 ?_
      refine z_ialdN C dL_chances_181 (h5) (show _ < 6 by omega) (by decide) ?_
      refine z_iload C dL_chances_182 rfl ?_
      refine z_iadd C dL_chances_184 ?_
      refine z_iastN C dL_chances_185 h5 (by decide) (show _ < 6 by omega) (by decide) ?_
      refine z_iinc (v := nI (k + 1)) C dL_chances_186 (by decide) rfl (zinc _) ?_
      refine z_goto (tgt := 12) C dL_chances_189 (by decide) ?_
      refine z_sub (L' := [(0, aR 0 0), (1, aR 80 0), (2, aR 80 2), (3, aR 80 3), (4, aR 80 4), (5, aI (nI 0)), (6, aR 80 5), (7, aI (nI (k + 1)))]) (zs1 rfl (zs1 rfl (zs1 rfl (zs1 rfl (zs1 rfl (zs1 rfl (zs1 rfl (zs1 rfl zs0)))))))) ?_
      exact z_wd (by omega) (by omega) (ih (k + 1) _ _ (by omega) (fun k i h => (zput_n h).trans (hag k i h)) (zput_s _ _ _ _) (ch_all hf s5 es))
end CHA
