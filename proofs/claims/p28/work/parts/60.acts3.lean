/-! acts: exceptions, adjustments, shares, moves -/
theorem r5_v {r : Nat} (h : r < 5) : nI r - nI 1 = -1 ∨ ∃ w, w < 4 ∧ nI r - nI 1 = nI w := by
  cases r with
  | zero => exact Or.inl (by decide)
  | succ j => exact Or.inr ⟨j, by omega, nI_pred j⟩
theorem e_lo {v : Int32} (h : v = -1 ∨ ∃ w, w < 4 ∧ v = nI w) : ¬ v < -1 := by
  rcases h with rfl | ⟨w, hw, rfl⟩
  · decide
  · rcases (show w = 0 ∨ w = 1 ∨ w = 2 ∨ w = 3 by omega) with rfl | rfl | rfl | rfl <;> decide
theorem e_hi {v : Int32} (h : v = -1 ∨ ∃ w, w < 4 ∧ v = nI w) : ¬ nI 4 ≤ v := by
  rcases h with rfl | ⟨w, hw, rfl⟩
  · decide
  · rcases (show w = 0 ∨ w = 1 ∨ w = 2 ∨ w = 3 by omega) with rfl | rfl | rfl | rfl <;> decide
theorem inB_adj {m : Nat} (h : m ≤ 2007) : inB (nI m - nI 1000) (-1000000) 1000000 = true := by
  have e := pk_sub_toInt (a := m) (b := 1000) (by omega) (by decide)
  refine inB_t.mpr ⟨?_, ?_⟩
  · rw [Int32.le_iff_toInt_le, e]
    have : (-1000000 : Int32).toInt = -1000000 := by decide
    omega
  · rw [Int32.le_iff_toInt_le, e]
    have : (1000000 : Int32).toInt = 1000000 := by decide
    omega
theorem nI_nn {n : Nat} {v : Int32} (h : n < 2 ^ 31) (hv : v < 0) : ¬ nI n = v := fun e => nI_pos h (e ▸ hv)
theorem shN_e {x : Nat → Int32} {a : Nat → Nat → Int32} (hJ : ZJ x a) {c s : Nat} (hc : c < zN (x 15)) (hs : s < 8) : a 21 (8 * c + s) = nI (shN a c s) ∧ shN a c s ≤ 100 := by
  obtain ⟨u, hu, eu⟩ := hJ.2.2.2.2.2.2.1.1 c s hc hs
  unfold shN
  rw [eu, zN_nI (by omega)]
  exact ⟨rfl, hu⟩
theorem sub_add9 {u w : Int32} : u - w + w = u := by
  rw [Int32.sub_eq_add_neg, Int32.add_assoc, Int32.add_left_neg, Int32.add_zero]
theorem add_sub9 {u w : Int32} : u + w - w = u := by
  rw [Int32.sub_eq_add_neg, Int32.add_assoc, Int32.add_right_neg, Int32.add_zero]
theorem sh_back {a : Nat → Nat → Int32} {c j t : Nat} {w : Int32} (h : j ≠ t) : shA (shA a c j t w) c t j w = a := by
  funext r k
  by_cases e : r = 21
  · subst e
    rw [shA_at (fun z => h z.symm), shA_at h]
    by_cases e1 : k = 8 * c + j
    · rw [if_pos e1, if_neg (by omega), if_pos e1]; exact sub_add9
    · rw [if_neg e1]
      by_cases e2 : k = 8 * c + t
      · rw [if_pos e2, if_pos e2]; exact add_sub9
      · rw [if_neg e2, if_neg e2, if_neg e1]
  · unfold shA
    rw [ua_n e, ua_n e, ua_n e, ua_n e]
section AC3
variable {X : zX} {p : Program} {l : Launch} {e : Env} {s : State} {m : MethodId} {args : Array Value} {below : List Frame} {meth : Method} {c9 : Code} {σ0 σ : zHp} {loc0 : zK → Nat} {x : Nat → Int32} {a A : Nat → Nat → Int32} {K kd ac se ch : Nat} {xx yy : Int32}
set_option maxRecDepth 100000 in
set_option maxHeartbeats 4000000 in
theorem ac_exc (C : zC X p l s m args meth c9 cL_acts 18 RL) (hr : meth.sig.returnType = some .boolean) (hW : LW x a x a A σ) (hT : TI x a A K) (hK : K < 95) (hac : ac < zN (x 1)) (hse : se < zN (x 11)) (hch : ch < zN (x 15)) : AG X p l e s m args below meth c9 σ0 loc0 K 0 0 σ 880 [(0, aR 0 0), (1, aR 40 0), (2, aR 80 0), (3, aR 80 1), (4, aR 80 2), (5, aR 80 3), (6, aR 80 4), (7, aI (xx)), (8, aI (yy)), (9, aI (nI (kd))), (10, aI (nI (ac))), (11, aI (nI (se))), (12, aI (nI (ch)))] [] := by
  obtain ⟨hI, hJ, ⟨⟨t0, t1, t2, t3, t4, t5, t6⟩, hTa, hTb, hTd, hTq⟩, h0⟩ := id hT
  obtain ⟨i0, i1, i6, i11, i15, i23, i24, i29, iA, iS, iC, iQ, iP⟩ := id hI.1
  have b0 := i0.2
  have b1 := i1.2
  have b6 := i6.2
  have b11 := i11.2
  have b15 := hJ.1.1
  have b23 := hJ.1.2
  have b29 := i29.2
  have g0 : A 4 0 = nI (zN (x 1)) := t0.trans i1.1
  have g1 : A 4 1 = nI (zN (x 11)) := t1.trans i11.1
  have g2 : A 4 2 = nI (zN (x 15)) := t2.trans i15.1
  have g3 : A 4 3 = nI (zN (x 23)) := t3.trans i23.1
  have g4 : A 4 4 = nI (zN (x 6)) := t4.trans i6.1
  have g5 : A 4 5 = nI (zN (x 29)) := t5.trans i29.1
  have g6 : A 4 6 = nI (zN (x 0)) := t6.trans i0.1
  have hK1 := hT.up
  have hxb : ∀ n, n ≤ 100 → n < 2 ^ 31 := fun n h => by omega
  have hacb : ac < 2 ^ 31 := by omega
  obtain ⟨r5, er5⟩ : ∃ r5, lowN (yy >>> (nI 8 &&& 31)) 5 = r5 := ⟨_, rfl⟩
  have hr5 : r5 < 5 := by rw [← er5]; exact lowN_lt (by decide)
  have hrv := r5_v hr5
  obtain ⟨rv, erv⟩ : ∃ rv, nI r5 - nI 1 = rv := ⟨_, rfl⟩
  rw [erv] at hrv
  have hT2 := keep_except (A' := A) (i := ac) (v := rv) hT hrv rfl rfl rfl rfl rfl
  have hI2 := hT2.1
  have hold := hJ.2.1 ac hac
  refine z_iload C dL_acts_880 rfl ?_
  refine z_bipush (v := nI 8) C dL_acts_882 (by decide) ?_
  refine z_ishr C dL_acts_884 ?_
  refine z_iconst (v := nI 5) C dL_acts_885 (by decide) ?_
  refine z_callS C Y_L_low sm_yL_low ml_RL_147 (c_L_low l (n := 5) (by omega) (by omega)) dL_acts_886 rfl rfl (fun _ => Nat.le_of_ble_eq_true rfl) ⟨Nat.le_of_ble_eq_true rfl, Nat.le_of_ble_eq_true rfl⟩ (by show _ ≤ 300 ∧ _ ≤ 5000; omega) (z_p0 (w := (nI (r5))) (congrArg nI er5) ?_) z_nx
  refine z_iconst (v := nI 1) C dL_acts_889 (by decide) ?_
  refine z_isub C dL_acts_890 ?_
  refine z_top (w := rv) erv ?_
  refine z_istore C dL_acts_891 (by decide) ?_
  refine z_aload_n (i := 0) C dL_acts_893 rfl rfl ?_
  refine z_iload C dL_acts_894 rfl ?_
  refine z_iload C dL_acts_896 rfl ?_
  refine z_callSX C Y_L_except sm_yL_except ml_RL_139 (c_L_except l hW.1 hI) dL_acts_898 rfl rfl (fun _ => Nat.le_of_ble_eq_true rfl) ⟨Nat.le_of_ble_eq_true rfl, Nat.le_of_ble_eq_true rfl⟩ (by show _ ≤ 300 ∧ _ ≤ 5000; omega) (z_w0 (w := (a 5 ac)) hW (goC_0.mpr ⟨kacc hI hac, inB_e hrv, rfl⟩) (by rw [zN_nI hacb]) (fun σ1 hW1 => ?_)) z_nx
  rw [zN_nI hacb] at hW1
  refine z_istore C dL_acts_901 (by decide) ?_
  refine z_aload_n (i := 1) C dL_acts_903 rfl rfl ?_
  refine z_iload C dL_acts_904 rfl ?_
  refine z_iload C dL_acts_906 rfl ?_
  refine z_callSX C Y_L_except sm_yL_except ml_RL_139 (c_T_except l hW1.2.1 hI) dL_acts_908 rfl rfl (fun _ => Nat.le_of_ble_eq_true rfl) ⟨Nat.le_of_ble_eq_true rfl, Nat.le_of_ble_eq_true rfl⟩ (by show _ ≤ 300 ∧ _ ≤ 5000; omega) (z_x0 (w := (a 5 ac)) hW1 (goC_0.mpr ⟨kacc hI hac, inB_e hrv, rfl⟩) (by rw [zN_nI hacb]) (fun σ2 hW2 => ?_)) z_nx
  rw [zN_nI hacb] at hW2
  refine z_iload C dL_acts_911 rfl ?_
  refine z_icmp_ne (tgt := 987) C dL_acts_913 (by decide) (fun h => absurd (rfl) h) (fun _ => ?_)
  refine z_iload C dL_acts_916 rfl ?_
  refine z_iconst (v := (-1)) C dL_acts_918 (by decide) ?_
  refine z_icmp_lt (tgt := 987) C dL_acts_919 (by decide) (fun h => absurd h (e_lo hold)) (fun _ => ?_)
  refine z_iload C dL_acts_922 rfl ?_
  refine z_iconst (v := nI 4) C dL_acts_924 (by decide) ?_
  refine z_icmp_ge (tgt := 987) C dL_acts_925 (by decide) (fun h => absurd h (e_hi hold)) (fun _ => ?_)
  refine z_iload C dL_acts_928 rfl ?_
  rcases id hrv with ev | ⟨v9, hv9, ev⟩
  · refine z_if_lt (tgt := 944) C dL_acts_930 (by decide) (fun _ => ?_) (fun h => absurd (by rw [ev]; decide) h)
    refine z_aload_n (i := 0) C dL_acts_944 rfl rfl ?_
    refine z_iload C dL_acts_945 rfl ?_
    refine z_iload C dL_acts_947 rfl ?_
    refine z_callSX C Y_L_except sm_yL_except ml_RL_139 (c_L_except l hW2.1 hI2) dL_acts_949 rfl rfl (fun _ => Nat.le_of_ble_eq_true rfl) ⟨Nat.le_of_ble_eq_true rfl, Nat.le_of_ble_eq_true rfl⟩ (by show _ ≤ 300 ∧ _ ≤ 5000; omega) (z_w0 (w := (rv)) hW2 (goC_0.mpr ⟨kacc hI2 hac, inB_e hrv, rfl⟩) (by rw [zN_nI hacb]; exact upd_at) (fun σ3 hW3 => ?_)) z_nx
    rw [zN_nI hacb, ua_same (show ua a 5 (upd (a 5) ac rv) 5 ac = rv from upd_at)] at hW3
    refine z_iload C dL_acts_952 rfl ?_
    refine z_icmp_ne (tgt := 987) C dL_acts_954 (by decide) (fun h => absurd (rfl) h) (fun _ => ?_)
    refine z_aload_n (i := 0) C dL_acts_957 rfl rfl ?_
    refine z_iload C dL_acts_958 rfl ?_
    refine z_iconst (v := nI 4) C dL_acts_960 (by decide) ?_
    refine z_callSX C Y_L_except sm_yL_except ml_RL_139 (c_L_except l hW3.1 hI2) dL_acts_961 rfl rfl (fun _ => Nat.le_of_ble_eq_true rfl) ⟨Nat.le_of_ble_eq_true rfl, Nat.le_of_ble_eq_true rfl⟩ (by show _ ≤ 300 ∧ _ ≤ 5000; omega) (z_w2 (kx_2 (kacc hI2 hac) (by decide)) ?_) z_nx
    refine z_ldc C dL_acts_964 kc_RL_18 ?_
    refine z_icmp_ne (tgt := 987) C dL_acts_966 (by decide) (fun h => absurd (rfl) h) (fun _ => ?_)
    refine z_aload_n (i := 0) C dL_acts_969 rfl rfl ?_
    refine z_aload C dL_acts_970 rfl ?_
    refine z_iconst (v := nI 0) C dL_acts_972 (by decide) ?_
    refine z_ialdN C dL_acts_973 (hW3.2.2.1 4 (by decide)) (show _ < 7 by omega) (by decide) ?_
    refine z_top (w := (nI (zN (x 1)))) (g0) ?_
    refine z_iconst (v := nI 4) C dL_acts_974 (by decide) ?_
    refine z_callSX C Y_L_except sm_yL_except ml_RL_139 (c_L_except l hW3.1 hI2) dL_acts_975 rfl rfl (fun _ => Nat.le_of_ble_eq_true rfl) ⟨Nat.le_of_ble_eq_true rfl, Nat.le_of_ble_eq_true rfl⟩ (by show _ ≤ 300 ∧ _ ≤ 5000; omega) (z_w1 (kx_1 (kacc_n hI2)) ?_) z_nx
    refine z_ldc C dL_acts_978 kc_RL_28 ?_
    refine z_icmp_ne (tgt := 987) C dL_acts_980 (by decide) (fun h => absurd (rfl) h) (fun _ => ?_)
    refine z_iconst (v := nI 1) C dL_acts_983 (by decide) ?_
    refine z_goto (tgt := 988) C dL_acts_984 (by decide) ?_
    exact z_iret C hr rfl dL_acts_988 (Nat.le_of_ble_eq_true rfl) (Nat.le_of_ble_eq_true rfl) ⟨_, rfl, rfl, _, _, A, hW3, hT2.up⟩
  · refine z_if_lt (tgt := 944) C dL_acts_930 (by decide) (fun h => absurd h (by rw [ev]; exact nI_pos (by omega))) (fun _ => ?_)
    refine z_aload_n (i := 0) C dL_acts_933 rfl rfl ?_
    refine z_iload C dL_acts_934 rfl ?_
    refine z_callSX C Y_L_regionOf sm_yL_regionOf ml_RL_137 (c_L_regionOf l hW2.1 hI2) dL_acts_936 rfl rfl (fun _ => Nat.le_of_ble_eq_true rfl) ⟨Nat.le_of_ble_eq_true rfl, Nat.le_of_ble_eq_true rfl⟩ (by show _ ≤ 300 ∧ _ ≤ 5000; omega) (z_q0 (w := (rv)) (goC_0.mpr ⟨kacc hI2 hac, rfl, rfl⟩) (by rw [zN_nI hacb, ev]; exact regS_ex hv9 upd_at) ?_) z_nx
    refine z_iload C dL_acts_939 rfl ?_
    refine z_icmp_ne (tgt := 987) C dL_acts_941 (by decide) (fun h => absurd (rfl) h) (fun _ => ?_)
    refine z_aload_n (i := 0) C dL_acts_944 rfl rfl ?_
    refine z_iload C dL_acts_945 rfl ?_
    refine z_iload C dL_acts_947 rfl ?_
    refine z_callSX C Y_L_except sm_yL_except ml_RL_139 (c_L_except l hW2.1 hI2) dL_acts_949 rfl rfl (fun _ => Nat.le_of_ble_eq_true rfl) ⟨Nat.le_of_ble_eq_true rfl, Nat.le_of_ble_eq_true rfl⟩ (by show _ ≤ 300 ∧ _ ≤ 5000; omega) (z_w0 (w := (rv)) hW2 (goC_0.mpr ⟨kacc hI2 hac, inB_e hrv, rfl⟩) (by rw [zN_nI hacb]; exact upd_at) (fun σ3 hW3 => ?_)) z_nx
    rw [zN_nI hacb, ua_same (show ua a 5 (upd (a 5) ac rv) 5 ac = rv from upd_at)] at hW3
    refine z_iload C dL_acts_952 rfl ?_
    refine z_icmp_ne (tgt := 987) C dL_acts_954 (by decide) (fun h => absurd (rfl) h) (fun _ => ?_)
    refine z_aload_n (i := 0) C dL_acts_957 rfl rfl ?_
    refine z_iload C dL_acts_958 rfl ?_
    refine z_iconst (v := nI 4) C dL_acts_960 (by decide) ?_
    refine z_callSX C Y_L_except sm_yL_except ml_RL_139 (c_L_except l hW3.1 hI2) dL_acts_961 rfl rfl (fun _ => Nat.le_of_ble_eq_true rfl) ⟨Nat.le_of_ble_eq_true rfl, Nat.le_of_ble_eq_true rfl⟩ (by show _ ≤ 300 ∧ _ ≤ 5000; omega) (z_w2 (kx_2 (kacc hI2 hac) (by decide)) ?_) z_nx
    refine z_ldc C dL_acts_964 kc_RL_18 ?_
    refine z_icmp_ne (tgt := 987) C dL_acts_966 (by decide) (fun h => absurd (rfl) h) (fun _ => ?_)
    refine z_aload_n (i := 0) C dL_acts_969 rfl rfl ?_
    refine z_aload C dL_acts_970 rfl ?_
    refine z_iconst (v := nI 0) C dL_acts_972 (by decide) ?_
    refine z_ialdN C dL_acts_973 (hW3.2.2.1 4 (by decide)) (show _ < 7 by omega) (by decide) ?_
    refine z_top (w := (nI (zN (x 1)))) (g0) ?_
    refine z_iconst (v := nI 4) C dL_acts_974 (by decide) ?_
    refine z_callSX C Y_L_except sm_yL_except ml_RL_139 (c_L_except l hW3.1 hI2) dL_acts_975 rfl rfl (fun _ => Nat.le_of_ble_eq_true rfl) ⟨Nat.le_of_ble_eq_true rfl, Nat.le_of_ble_eq_true rfl⟩ (by show _ ≤ 300 ∧ _ ≤ 5000; omega) (z_w1 (kx_1 (kacc_n hI2)) ?_) z_nx
    refine z_ldc C dL_acts_978 kc_RL_28 ?_
    refine z_icmp_ne (tgt := 987) C dL_acts_980 (by decide) (fun h => absurd (rfl) h) (fun _ => ?_)
    refine z_iconst (v := nI 1) C dL_acts_983 (by decide) ?_
    refine z_goto (tgt := 988) C dL_acts_984 (by decide) ?_
    exact z_iret C hr rfl dL_acts_988 (Nat.le_of_ble_eq_true rfl) (Nat.le_of_ble_eq_true rfl) ⟨_, rfl, rfl, _, _, A, hW3, hT2.up⟩
set_option maxRecDepth 100000 in
set_option maxHeartbeats 4000000 in
theorem ac_adj (C : zC X p l s m args meth c9 cL_acts 18 RL) (hr : meth.sig.returnType = some .boolean) (hW : LW x a x a A σ) (hT : TI x a A K) (hK : K < 95) (hac : ac < zN (x 1)) (hse : se < zN (x 11)) (hch : ch < zN (x 15)) : AG X p l e s m args below meth c9 σ0 loc0 K 0 0 σ 996 [(0, aR 0 0), (1, aR 40 0), (2, aR 80 0), (3, aR 80 1), (4, aR 80 2), (5, aR 80 3), (6, aR 80 4), (7, aI (xx)), (8, aI (yy)), (9, aI (nI (kd))), (10, aI (nI (ac))), (11, aI (nI (se))), (12, aI (nI (ch)))] [] := by
  obtain ⟨hI, hJ, ⟨⟨t0, t1, t2, t3, t4, t5, t6⟩, hTa, hTb, hTd, hTq⟩, h0⟩ := id hT
  obtain ⟨i0, i1, i6, i11, i15, i23, i24, i29, iA, iS, iC, iQ, iP⟩ := id hI.1
  have b0 := i0.2
  have b1 := i1.2
  have b6 := i6.2
  have b11 := i11.2
  have b15 := hJ.1.1
  have b23 := hJ.1.2
  have b29 := i29.2
  have g0 : A 4 0 = nI (zN (x 1)) := t0.trans i1.1
  have g1 : A 4 1 = nI (zN (x 11)) := t1.trans i11.1
  have g2 : A 4 2 = nI (zN (x 15)) := t2.trans i15.1
  have g3 : A 4 3 = nI (zN (x 23)) := t3.trans i23.1
  have g4 : A 4 4 = nI (zN (x 6)) := t4.trans i6.1
  have g5 : A 4 5 = nI (zN (x 29)) := t5.trans i29.1
  have g6 : A 4 6 = nI (zN (x 0)) := t6.trans i0.1
  have hK1 := hT.up
  have hxb : ∀ n, n ≤ 100 → n < 2 ^ 31 := fun n h => by omega
  have hseb : se < 2 ^ 31 := by omega
  obtain ⟨m9, em⟩ : ∃ m9, lowN yy 2001 = m9 := ⟨_, rfl⟩
  have hm : m9 < 2001 := by rw [← em]; exact lowN_lt (by decide)
  refine z_aload_n (i := 3) C dL_acts_996 rfl rfl ?_
  refine z_iconst (v := nI 3) C dL_acts_997 (by decide) ?_
  refine z_iload C dL_acts_998 rfl ?_
  refine z_imul C dL_acts_1000 ?_
  refine z_top (w := (nI ((3 * se)))) (pk_mul _ _) ?_
  refine z_iconst (v := nI 2) C dL_acts_1001 (by decide) ?_
  refine z_iadd C dL_acts_1002 ?_
  refine z_top (w := (nI (((3 * se) + 2)))) (nI_add _ _) ?_
  refine z_ialdN C dL_acts_1003 (hW.2.2.1 1 (by decide)) (show _ < 24 by omega) (by decide) ?_
  refine z_top (w := (a 14 se)) (hTb.2 se (by omega)) ?_
  refine z_istore C dL_acts_1004 (by decide) ?_
  refine z_aload_n (i := 3) C dL_acts_1006 rfl rfl ?_
  refine z_iconst (v := nI 3) C dL_acts_1007 (by decide) ?_
  refine z_iload C dL_acts_1008 rfl ?_
  refine z_imul C dL_acts_1010 ?_
  refine z_top (w := (nI ((3 * se)))) (pk_mul _ _) ?_
  refine z_iconst (v := nI 2) C dL_acts_1011 (by decide) ?_
  refine z_iadd C dL_acts_1012 ?_
  refine z_top (w := (nI (((3 * se) + 2)))) (nI_add _ _) ?_
  refine z_iload C dL_acts_1013 rfl ?_
  refine z_sipush (v := nI 2001) C dL_acts_1015 (by decide) ?_
  refine z_callS C Y_L_low sm_yL_low ml_RL_147 (c_L_low l (n := 2001) (by omega) (by omega)) dL_acts_1018 rfl rfl (fun _ => Nat.le_of_ble_eq_true rfl) ⟨Nat.le_of_ble_eq_true rfl, Nat.le_of_ble_eq_true rfl⟩ (by show _ ≤ 300 ∧ _ ≤ 5000; omega) (z_p0 (w := (nI (m9))) (congrArg nI em) ?_) z_nx
  refine z_sipush (v := nI 1000) C dL_acts_1021 (by decide) ?_
  refine z_isub C dL_acts_1024 ?_
  refine z_iastW (idx := ((3 * se) + 2)) C hW (j := 1) (by decide) dL_acts_1025 (show _ < 24 by omega) (fun σ1 A1 hW1 eA1 => ?_)
  have g0_1 : A1 4 0 = nI (zN (x 1)) := by rw [eA1]; exact g0
  have g1_1 : A1 4 1 = nI (zN (x 11)) := by rw [eA1]; exact g1
  have g2_1 : A1 4 2 = nI (zN (x 15)) := by rw [eA1]; exact g2
  have g3_1 : A1 4 3 = nI (zN (x 23)) := by rw [eA1]; exact g3
  have g4_1 : A1 4 4 = nI (zN (x 6)) := by rw [eA1]; exact g4
  have g5_1 : A1 4 5 = nI (zN (x 29)) := by rw [eA1]; exact g5
  have g6_1 : A1 4 6 = nI (zN (x 0)) := by rw [eA1]; exact g6
  have hT2 := keep_adjust (A' := A1) (m := m9) hT hse (by omega) (by subst eA1; rfl) (by subst eA1; rfl) (by subst eA1; rfl) (by subst eA1; rfl) (by subst eA1; rfl)
  have hI2 := hT2.1
  refine z_aload_n (i := 0) C dL_acts_1026 rfl rfl ?_
  refine z_iload C dL_acts_1027 rfl ?_
  refine z_aload_n (i := 3) C dL_acts_1029 rfl rfl ?_
  refine z_iconst (v := nI 3) C dL_acts_1030 (by decide) ?_
  refine z_iload C dL_acts_1031 rfl ?_
  refine z_imul C dL_acts_1033 ?_
  refine z_top (w := (nI ((3 * se)))) (pk_mul _ _) ?_
  refine z_iconst (v := nI 2) C dL_acts_1034 (by decide) ?_
  refine z_iadd C dL_acts_1035 ?_
  refine z_top (w := (nI (((3 * se) + 2)))) (nI_add _ _) ?_
  refine z_ialdN C dL_acts_1036 (hW1.2.2.1 1 (by decide)) (show _ < 24 by omega) (by decide) ?_
  refine z_top (w := ((nI m9 - nI 1000))) (by rw [eA1, ua_s]; exact upd_at) ?_
  refine z_callSX C Y_L_adjust sm_yL_adjust ml_RL_161 (c_L_adjust l hW1.1 hI) dL_acts_1037 rfl rfl (fun _ => Nat.le_of_ble_eq_true rfl) ⟨Nat.le_of_ble_eq_true rfl, Nat.le_of_ble_eq_true rfl⟩ (by show _ ≤ 300 ∧ _ ≤ 5000; omega) (z_w0 (w := (a 14 se)) hW1 (goC_0.mpr ⟨ksel hI hse, inB_adj (by omega), rfl⟩) (by rw [zN_nI hseb]) (fun σ2 hW2 => ?_)) z_nx
  rw [zN_nI hseb] at hW2
  refine z_iload C dL_acts_1040 rfl ?_
  refine z_icmp_ne (tgt := 1095) C dL_acts_1042 (by decide) (fun h => absurd (rfl) h) (fun _ => ?_)
  refine z_aload_n (i := 1) C dL_acts_1045 rfl rfl ?_
  refine z_iload C dL_acts_1046 rfl ?_
  refine z_aload_n (i := 3) C dL_acts_1048 rfl rfl ?_
  refine z_iconst (v := nI 3) C dL_acts_1049 (by decide) ?_
  refine z_iload C dL_acts_1050 rfl ?_
  refine z_imul C dL_acts_1052 ?_
  refine z_top (w := (nI ((3 * se)))) (pk_mul _ _) ?_
  refine z_iconst (v := nI 2) C dL_acts_1053 (by decide) ?_
  refine z_iadd C dL_acts_1054 ?_
  refine z_top (w := (nI (((3 * se) + 2)))) (nI_add _ _) ?_
  refine z_ialdN C dL_acts_1055 (hW2.2.2.1 1 (by decide)) (show _ < 24 by omega) (by decide) ?_
  refine z_top (w := ((nI m9 - nI 1000))) (by rw [eA1, ua_s]; exact upd_at) ?_
  refine z_callSX C Y_L_adjust sm_yL_adjust ml_RL_161 (c_T_adjust l hW2.2.1 hI) dL_acts_1056 rfl rfl (fun _ => Nat.le_of_ble_eq_true rfl) ⟨Nat.le_of_ble_eq_true rfl, Nat.le_of_ble_eq_true rfl⟩ (by show _ ≤ 300 ∧ _ ≤ 5000; omega) (z_x0 (w := (a 14 se)) hW2 (goC_0.mpr ⟨ksel hI hse, inB_adj (by omega), rfl⟩) (by rw [zN_nI hseb]) (fun σ3 hW3 => ?_)) z_nx
  rw [zN_nI hseb] at hW3
  refine z_iload C dL_acts_1059 rfl ?_
  refine z_icmp_ne (tgt := 1095) C dL_acts_1061 (by decide) (fun h => absurd (rfl) h) (fun _ => ?_)
  refine z_aload_n (i := 0) C dL_acts_1064 rfl rfl ?_
  refine z_iload C dL_acts_1065 rfl ?_
  refine z_ldc C dL_acts_1067 kc_RL_163 ?_
  refine z_top (w := (nI 1000001)) (by decide) ?_
  refine z_callSX C Y_L_adjust sm_yL_adjust ml_RL_161 (c_L_adjust l hW3.1 hI2) dL_acts_1069 rfl rfl (fun _ => Nat.le_of_ble_eq_true rfl) ⟨Nat.le_of_ble_eq_true rfl, Nat.le_of_ble_eq_true rfl⟩ (by show _ ≤ 300 ∧ _ ≤ 5000; omega) (z_w2 (kx_2 (ksel hI2 hse) (by decide)) ?_) z_nx
  refine z_ldc C dL_acts_1072 kc_RL_50 ?_
  refine z_icmp_ne (tgt := 1095) C dL_acts_1074 (by decide) (fun h => absurd (rfl) h) (fun _ => ?_)
  refine z_aload_n (i := 0) C dL_acts_1077 rfl rfl ?_
  refine z_aload C dL_acts_1078 rfl ?_
  refine z_iconst (v := nI 1) C dL_acts_1080 (by decide) ?_
  refine z_ialdN C dL_acts_1081 (hW3.2.2.1 4 (by decide)) (show _ < 7 by omega) (by decide) ?_
  refine z_top (w := (nI (zN (x 11)))) (g1_1) ?_
  refine z_iconst (v := nI 0) C dL_acts_1082 (by decide) ?_
  refine z_callSX C Y_L_adjust sm_yL_adjust ml_RL_161 (c_L_adjust l hW3.1 hI2) dL_acts_1083 rfl rfl (fun _ => Nat.le_of_ble_eq_true rfl) ⟨Nat.le_of_ble_eq_true rfl, Nat.le_of_ble_eq_true rfl⟩ (by show _ ≤ 300 ∧ _ ≤ 5000; omega) (z_w1 (kx_1 (ksel_n hI2)) ?_) z_nx
  refine z_ldc C dL_acts_1086 kc_RL_49 ?_
  refine z_icmp_ne (tgt := 1095) C dL_acts_1088 (by decide) (fun h => absurd (rfl) h) (fun _ => ?_)
  refine z_iconst (v := nI 1) C dL_acts_1091 (by decide) ?_
  refine z_goto (tgt := 1096) C dL_acts_1092 (by decide) ?_
  exact z_iret C hr rfl dL_acts_1096 (Nat.le_of_ble_eq_true rfl) (Nat.le_of_ble_eq_true rfl) ⟨_, rfl, rfl, _, _, A1, hW3, hT2.up⟩
set_option maxRecDepth 100000 in
set_option maxHeartbeats 4000000 in
theorem ac_sh1 (C : zC X p l s m args meth c9 cL_acts 18 RL) (hr : meth.sig.returnType = some .boolean) (hW : LW x a x a A σ) (hT : TI x a A K) (hK : K < 95) (hac : ac < zN (x 1)) (hse : se < zN (x 11)) (hch : ch < zN (x 15)) {p0 : Nat} (hp0 : p0 < 100) : AG X p l e s m args below meth c9 σ0 loc0 K 0 0 σ 1132 [(0, aR 0 0), (1, aR 40 0), (2, aR 80 0), (3, aR 80 1), (4, aR 80 2), (5, aR 80 3), (6, aR 80 4), (7, aI (xx)), (8, aI (yy)), (9, aI (nI (kd))), (10, aI (nI (ac))), (11, aI (nI (se))), (12, aI (nI (ch))), (13, aI (nI (se))), (14, aI (nI (1 + p0)))] [] := by
  obtain ⟨hI, hJ, ⟨⟨t0, t1, t2, t3, t4, t5, t6⟩, hTa, hTb, hTd, hTq⟩, h0⟩ := id hT
  obtain ⟨i0, i1, i6, i11, i15, i23, i24, i29, iA, iS, iC, iQ, iP⟩ := id hI.1
  have b0 := i0.2
  have b1 := i1.2
  have b6 := i6.2
  have b11 := i11.2
  have b15 := hJ.1.1
  have b23 := hJ.1.2
  have b29 := i29.2
  have g0 : A 4 0 = nI (zN (x 1)) := t0.trans i1.1
  have g1 : A 4 1 = nI (zN (x 11)) := t1.trans i11.1
  have g2 : A 4 2 = nI (zN (x 15)) := t2.trans i15.1
  have g3 : A 4 3 = nI (zN (x 23)) := t3.trans i23.1
  have g4 : A 4 4 = nI (zN (x 6)) := t4.trans i6.1
  have g5 : A 4 5 = nI (zN (x 29)) := t5.trans i29.1
  have g6 : A 4 6 = nI (zN (x 0)) := t6.trans i0.1
  have hK1 := hT.up
  have hxb : ∀ n, n ≤ 100 → n < 2 ^ 31 := fun n h => by omega
  refine z_aload_n (i := 0) C dL_acts_1132 rfl rfl ?_
  refine z_iload C dL_acts_1133 rfl ?_
  refine z_iload C dL_acts_1135 rfl ?_
  refine z_iload C dL_acts_1137 rfl ?_
  refine z_iload C dL_acts_1139 rfl ?_
  refine z_callSX C Y_L_giveShare sm_yL_giveShare ml_RL_141 (c_L_giveShare l hW.1 hI) dL_acts_1141 rfl rfl (fun _ => Nat.le_of_ble_eq_true rfl) ⟨Nat.le_of_ble_eq_true rfl, Nat.le_of_ble_eq_true rfl⟩ (by show _ ≤ 300 ∧ _ ≤ 5000; omega) (z_w2 (kx_2 (band (kcha hI hch) (band (ksel hI hse) (ksel hI hse))) (band1 (by rw [decide_eq_true rfl]; rfl))) ?_) z_nx
  refine z_istore C dL_acts_1144 (by decide) ?_
  refine z_aload_n (i := 1) C dL_acts_1146 rfl rfl ?_
  refine z_iload C dL_acts_1147 rfl ?_
  refine z_iload C dL_acts_1149 rfl ?_
  refine z_iload C dL_acts_1151 rfl ?_
  refine z_iload C dL_acts_1153 rfl ?_
  refine z_callSX C Y_L_giveShare sm_yL_giveShare ml_RL_141 (c_T_giveShare l hW.2.1 hI) dL_acts_1155 rfl rfl (fun _ => Nat.le_of_ble_eq_true rfl) ⟨Nat.le_of_ble_eq_true rfl, Nat.le_of_ble_eq_true rfl⟩ (by show _ ≤ 300 ∧ _ ≤ 5000; omega) (z_x2 (kx_2 (band (kcha hI hch) (band (ksel hI hse) (ksel hI hse))) (band1 (by rw [decide_eq_true rfl]; rfl))) ?_) z_nx
  refine z_iload C dL_acts_1158 rfl ?_
  refine z_icmp_ne (tgt := 1205) C dL_acts_1160 (by decide) (fun h => absurd (rfl) h) (fun _ => ?_)
  refine z_iload C dL_acts_1163 rfl ?_
  refine z_iload C dL_acts_1165 rfl ?_
  refine z_icmp_ne (tgt := 1180) C dL_acts_1167 (by decide) (fun h => absurd (rfl) h) (fun _ => ?_)
  refine z_iload C dL_acts_1170 rfl ?_
  refine z_ldc C dL_acts_1172 kc_RL_18 ?_
  refine z_icmp_ne (tgt := 1205) C dL_acts_1174 (by decide) (fun h => absurd (rfl) h) (fun _ => ?_)
  refine z_goto (tgt := 1201) C dL_acts_1177 (by decide) ?_
  refine z_iconst (v := nI 1) C dL_acts_1201 (by decide) ?_
  refine z_goto (tgt := 1206) C dL_acts_1202 (by decide) ?_
  refine z_istore C dL_acts_1206 (by decide) ?_
  refine z_iload C dL_acts_1208 rfl ?_
  refine z_if_eq (tgt := 1273) C dL_acts_1210 (by decide) (fun h => absurd h (by decide)) (fun _ => ?_)
  refine z_iload C dL_acts_1213 rfl ?_
  refine z_if_lt (tgt := 1252) C dL_acts_1215 (by decide) (fun _ => ?_) (fun h => absurd (by decide) h)
  refine z_aload_n (i := 0) C dL_acts_1252 rfl rfl ?_
  refine z_iload C dL_acts_1253 rfl ?_
  refine z_iload C dL_acts_1255 rfl ?_
  refine z_iload C dL_acts_1257 rfl ?_
  refine z_bipush (v := nI 101) C dL_acts_1259 (by decide) ?_
  refine z_callSX C Y_L_giveShare sm_yL_giveShare ml_RL_141 (c_L_giveShare l hW.1 hI) dL_acts_1261 rfl rfl (fun _ => Nat.le_of_ble_eq_true rfl) ⟨Nat.le_of_ble_eq_true rfl, Nat.le_of_ble_eq_true rfl⟩ (by show _ ≤ 300 ∧ _ ≤ 5000; omega) (z_w2 (kx_2 (band (kcha hI hch) (band (ksel hI hse) (ksel hI hse))) (band0 (by decide))) ?_) z_nx
  refine z_ldc C dL_acts_1264 kc_RL_18 ?_
  refine z_icmp_ne (tgt := 1273) C dL_acts_1266 (by decide) (fun h => absurd (rfl) h) (fun _ => ?_)
  refine z_iconst (v := nI 1) C dL_acts_1269 (by decide) ?_
  refine z_goto (tgt := 1274) C dL_acts_1270 (by decide) ?_
  exact z_iret C hr rfl dL_acts_1274 (Nat.le_of_ble_eq_true rfl) (Nat.le_of_ble_eq_true rfl) ⟨_, rfl, rfl, x, a, A, hW, hK1⟩
set_option maxRecDepth 100000 in
set_option maxHeartbeats 4000000 in
theorem ac_sh2 (C : zC X p l s m args meth c9 cL_acts 18 RL) (hr : meth.sig.returnType = some .boolean) (hW : LW x a x a A σ) (hT : TI x a A K) (hK : K < 95) (hac : ac < zN (x 1)) (hse : se < zN (x 11)) (hch : ch < zN (x 15)) {to p0 : Nat} (hto : to < zN (x 11)) (hp0 : p0 < 100) (hjt : ¬ se = to) (hok : (opnB a ch && decide (nI (1 + p0) ≤ a 21 (8 * ch + se))) = false) : AG X p l e s m args below meth c9 σ0 loc0 K 0 0 σ 1132 [(0, aR 0 0), (1, aR 40 0), (2, aR 80 0), (3, aR 80 1), (4, aR 80 2), (5, aR 80 3), (6, aR 80 4), (7, aI (xx)), (8, aI (yy)), (9, aI (nI (kd))), (10, aI (nI (ac))), (11, aI (nI (se))), (12, aI (nI (ch))), (13, aI (nI (to))), (14, aI (nI (1 + p0)))] [] := by
  obtain ⟨hI, hJ, ⟨⟨t0, t1, t2, t3, t4, t5, t6⟩, hTa, hTb, hTd, hTq⟩, h0⟩ := id hT
  obtain ⟨i0, i1, i6, i11, i15, i23, i24, i29, iA, iS, iC, iQ, iP⟩ := id hI.1
  have b0 := i0.2
  have b1 := i1.2
  have b6 := i6.2
  have b11 := i11.2
  have b15 := hJ.1.1
  have b23 := hJ.1.2
  have b29 := i29.2
  have g0 : A 4 0 = nI (zN (x 1)) := t0.trans i1.1
  have g1 : A 4 1 = nI (zN (x 11)) := t1.trans i11.1
  have g2 : A 4 2 = nI (zN (x 15)) := t2.trans i15.1
  have g3 : A 4 3 = nI (zN (x 23)) := t3.trans i23.1
  have g4 : A 4 4 = nI (zN (x 6)) := t4.trans i6.1
  have g5 : A 4 5 = nI (zN (x 29)) := t5.trans i29.1
  have g6 : A 4 6 = nI (zN (x 0)) := t6.trans i0.1
  have hK1 := hT.up
  have hxb : ∀ n, n ≤ 100 → n < 2 ^ 31 := fun n h => by omega
  have hcb : ch < 2 ^ 31 := by omega
  have hseb : se < 2 ^ 31 := by omega
  have htob : to < 2 ^ 31 := by omega
  refine z_aload_n (i := 0) C dL_acts_1132 rfl rfl ?_
  refine z_iload C dL_acts_1133 rfl ?_
  refine z_iload C dL_acts_1135 rfl ?_
  refine z_iload C dL_acts_1137 rfl ?_
  refine z_iload C dL_acts_1139 rfl ?_
  refine z_callSX C Y_L_giveShare sm_yL_giveShare ml_RL_141 (c_L_giveShare l hW.1 hI) dL_acts_1141 rfl rfl (fun _ => Nat.le_of_ble_eq_true rfl) ⟨Nat.le_of_ble_eq_true rfl, Nat.le_of_ble_eq_true rfl⟩ (by show _ ≤ 300 ∧ _ ≤ 5000; omega) (z_w3 (kx_3 (band (kcha hI hch) (band (ksel hI hse) (ksel hI hto))) (band (inB_nn (a := 1) (b := 100) (by omega) (by omega) (by decide)) (by rw [decide_eq_false (fun z => hjt ((nI_eq (by omega) (by omega)).mp z))]; rfl)) (band1 (by rw [zN_nI hcb, zN_nI hseb]; exact hok))) ?_) z_nx
  refine z_istore C dL_acts_1144 (by decide) ?_
  refine z_aload_n (i := 1) C dL_acts_1146 rfl rfl ?_
  refine z_iload C dL_acts_1147 rfl ?_
  refine z_iload C dL_acts_1149 rfl ?_
  refine z_iload C dL_acts_1151 rfl ?_
  refine z_iload C dL_acts_1153 rfl ?_
  refine z_callSX C Y_L_giveShare sm_yL_giveShare ml_RL_141 (c_T_giveShare l hW.2.1 hI) dL_acts_1155 rfl rfl (fun _ => Nat.le_of_ble_eq_true rfl) ⟨Nat.le_of_ble_eq_true rfl, Nat.le_of_ble_eq_true rfl⟩ (by show _ ≤ 300 ∧ _ ≤ 5000; omega) (z_x3 (kx_3 (band (kcha hI hch) (band (ksel hI hse) (ksel hI hto))) (band (inB_nn (a := 1) (b := 100) (by omega) (by omega) (by decide)) (by rw [decide_eq_false (fun z => hjt ((nI_eq (by omega) (by omega)).mp z))]; rfl)) (band1 (by rw [zN_nI hcb, zN_nI hseb]; exact hok))) ?_) z_nx
  refine z_iload C dL_acts_1158 rfl ?_
  refine z_icmp_ne (tgt := 1205) C dL_acts_1160 (by decide) (fun h => absurd (rfl) h) (fun _ => ?_)
  refine z_iload C dL_acts_1163 rfl ?_
  refine z_iload C dL_acts_1165 rfl ?_
  refine z_icmp_ne (tgt := 1180) C dL_acts_1167 (by decide) (fun _ => ?_) (fun h => absurd h (fun z => hjt ((nI_eq (by omega) (by omega)).mp z.symm)))
  refine z_iload C dL_acts_1180 rfl ?_
  refine z_ldc C dL_acts_1182 kc_RL_21 ?_
  refine z_icmp_eq (tgt := 1201) C dL_acts_1184 (by decide) (fun _ => ?_) (fun h => absurd (rfl) h)
  refine z_iconst (v := nI 1) C dL_acts_1201 (by decide) ?_
  refine z_goto (tgt := 1206) C dL_acts_1202 (by decide) ?_
  refine z_istore C dL_acts_1206 (by decide) ?_
  refine z_iload C dL_acts_1208 rfl ?_
  refine z_if_eq (tgt := 1273) C dL_acts_1210 (by decide) (fun h => absurd h (by decide)) (fun _ => ?_)
  refine z_iload C dL_acts_1213 rfl ?_
  refine z_if_lt (tgt := 1252) C dL_acts_1215 (by decide) (fun _ => ?_) (fun h => absurd (by decide) h)
  refine z_aload_n (i := 0) C dL_acts_1252 rfl rfl ?_
  refine z_iload C dL_acts_1253 rfl ?_
  refine z_iload C dL_acts_1255 rfl ?_
  refine z_iload C dL_acts_1257 rfl ?_
  refine z_bipush (v := nI 101) C dL_acts_1259 (by decide) ?_
  refine z_callSX C Y_L_giveShare sm_yL_giveShare ml_RL_141 (c_L_giveShare l hW.1 hI) dL_acts_1261 rfl rfl (fun _ => Nat.le_of_ble_eq_true rfl) ⟨Nat.le_of_ble_eq_true rfl, Nat.le_of_ble_eq_true rfl⟩ (by show _ ≤ 300 ∧ _ ≤ 5000; omega) (z_w2 (kx_2 (band (kcha hI hch) (band (ksel hI hse) (ksel hI hto))) (band0 (by decide))) ?_) z_nx
  refine z_ldc C dL_acts_1264 kc_RL_18 ?_
  refine z_icmp_ne (tgt := 1273) C dL_acts_1266 (by decide) (fun h => absurd (rfl) h) (fun _ => ?_)
  refine z_iconst (v := nI 1) C dL_acts_1269 (by decide) ?_
  refine z_goto (tgt := 1274) C dL_acts_1270 (by decide) ?_
  exact z_iret C hr rfl dL_acts_1274 (Nat.le_of_ble_eq_true rfl) (Nat.le_of_ble_eq_true rfl) ⟨_, rfl, rfl, x, a, A, hW, hK1⟩
set_option maxRecDepth 100000 in
set_option maxHeartbeats 4000000 in
theorem ac_sh3 (C : zC X p l s m args meth c9 cL_acts 18 RL) (hr : meth.sig.returnType = some .boolean) (hW : LW x a x a A σ) (hT : TI x a A K) (hK : K < 95) (hac : ac < zN (x 1)) (hse : se < zN (x 11)) (hch : ch < zN (x 15)) {to p0 : Nat} (hto : to < zN (x 11)) (hp0 : p0 < 100) (hjt : ¬ se = to) (hok : (opnB a ch && decide (nI (1 + p0) ≤ a 21 (8 * ch + se))) = true) : AG X p l e s m args below meth c9 σ0 loc0 K 0 0 σ 1132 [(0, aR 0 0), (1, aR 40 0), (2, aR 80 0), (3, aR 80 1), (4, aR 80 2), (5, aR 80 3), (6, aR 80 4), (7, aI (xx)), (8, aI (yy)), (9, aI (nI (kd))), (10, aI (nI (ac))), (11, aI (nI (se))), (12, aI (nI (ch))), (13, aI (nI (to))), (14, aI (nI (1 + p0)))] [] := by
  obtain ⟨hI, hJ, ⟨⟨t0, t1, t2, t3, t4, t5, t6⟩, hTa, hTb, hTd, hTq⟩, h0⟩ := id hT
  obtain ⟨i0, i1, i6, i11, i15, i23, i24, i29, iA, iS, iC, iQ, iP⟩ := id hI.1
  have b0 := i0.2
  have b1 := i1.2
  have b6 := i6.2
  have b11 := i11.2
  have b15 := hJ.1.1
  have b23 := hJ.1.2
  have b29 := i29.2
  have g0 : A 4 0 = nI (zN (x 1)) := t0.trans i1.1
  have g1 : A 4 1 = nI (zN (x 11)) := t1.trans i11.1
  have g2 : A 4 2 = nI (zN (x 15)) := t2.trans i15.1
  have g3 : A 4 3 = nI (zN (x 23)) := t3.trans i23.1
  have g4 : A 4 4 = nI (zN (x 6)) := t4.trans i6.1
  have g5 : A 4 5 = nI (zN (x 29)) := t5.trans i29.1
  have g6 : A 4 6 = nI (zN (x 0)) := t6.trans i0.1
  have hK1 := hT.up
  have hxb : ∀ n, n ≤ 100 → n < 2 ^ 31 := fun n h => by omega
  have hcb : ch < 2 ^ 31 := by omega
  have hseb : se < 2 ^ 31 := by omega
  have htob : to < 2 ^ 31 := by omega
  obtain ⟨hop, hle⟩ := bAnd hok
  obtain ⟨es1, hs1⟩ := shN_e hJ hch (show se < 8 by omega)
  obtain ⟨et1, ht1⟩ := shN_e hJ hch (show to < 8 by omega)
  have hpl : 1 + p0 ≤ shN a ch se := by
    have h9 := of_decide_eq_true hle
    rw [es1] at h9
    exact (nI_leI (by omega) (by omega)).mp h9
  have hsum := sh_le hJ.2.2.2.2.2.2.1 hch (show se < 8 by omega) (show to < 8 by omega) hjt
  have hT2 := keep_share (A' := A) (p := 1 + p0) hT hch hse hto hjt hpl rfl rfl rfl rfl rfl
  have hI2 := hT2.1
  have a2s : shA a ch se to (nI (1 + p0)) 21 (8 * ch + to) = nI (shN a ch to + (1 + p0)) := by rw [shA_at hjt, if_pos rfl, et1, nI_add]
  have a2e : shA a ch se to (nI (1 + p0)) 21 (8 * ch + se) = a 21 (8 * ch + se) - nI (1 + p0) := by rw [shA_at hjt, if_neg (by omega), if_pos rfl]
  have a2b : shA (shA a ch se to (nI (1 + p0))) ch to se (nI (1 + p0)) 21 (8 * ch + se) = nI (shN a ch se) := by rw [sh_back hjt, es1]
  refine z_aload_n (i := 0) C dL_acts_1132 rfl rfl ?_
  refine z_iload C dL_acts_1133 rfl ?_
  refine z_iload C dL_acts_1135 rfl ?_
  refine z_iload C dL_acts_1137 rfl ?_
  refine z_iload C dL_acts_1139 rfl ?_
  refine z_callSX C Y_L_giveShare sm_yL_giveShare ml_RL_141 (c_L_giveShare l hW.1 hI) dL_acts_1141 rfl rfl (fun _ => Nat.le_of_ble_eq_true rfl) ⟨Nat.le_of_ble_eq_true rfl, Nat.le_of_ble_eq_true rfl⟩ (by show _ ≤ 300 ∧ _ ≤ 5000; omega) (z_w0 (w := (nI (shN a ch to + (1 + p0)))) hW (goC_0.mpr ⟨(band (kcha hI hch) (band (ksel hI hse) (ksel hI hto))), (band (inB_nn (a := 1) (b := 100) (by omega) (by omega) (by decide)) (by rw [decide_eq_false (fun z => hjt ((nI_eq (by omega) (by omega)).mp z))]; rfl)), band (band (kcha hI hch) (band (ksel hI hse) (ksel hI hto))) (by rw [zN_nI hcb, zN_nI hseb]; exact hok)⟩) (by rw [zN_nI hcb, zN_nI hseb, zN_nI htob]; exact a2s) (fun σ1 hW1 => ?_)) z_nx
  rw [zN_nI hcb, zN_nI hseb, zN_nI htob] at hW1
  replace hW1 : LW x (shA a ch se to (nI (1 + p0))) x (a) A σ1 := hW1
  refine z_istore C dL_acts_1144 (by decide) ?_
  refine z_aload_n (i := 1) C dL_acts_1146 rfl rfl ?_
  refine z_iload C dL_acts_1147 rfl ?_
  refine z_iload C dL_acts_1149 rfl ?_
  refine z_iload C dL_acts_1151 rfl ?_
  refine z_iload C dL_acts_1153 rfl ?_
  refine z_callSX C Y_L_giveShare sm_yL_giveShare ml_RL_141 (c_T_giveShare l hW1.2.1 hI) dL_acts_1155 rfl rfl (fun _ => Nat.le_of_ble_eq_true rfl) ⟨Nat.le_of_ble_eq_true rfl, Nat.le_of_ble_eq_true rfl⟩ (by show _ ≤ 300 ∧ _ ≤ 5000; omega) (z_x0 (w := (nI (shN a ch to + (1 + p0)))) hW1 (goC_0.mpr ⟨(band (kcha hI hch) (band (ksel hI hse) (ksel hI hto))), (band (inB_nn (a := 1) (b := 100) (by omega) (by omega) (by decide)) (by rw [decide_eq_false (fun z => hjt ((nI_eq (by omega) (by omega)).mp z))]; rfl)), band (band (kcha hI hch) (band (ksel hI hse) (ksel hI hto))) (by rw [zN_nI hcb, zN_nI hseb]; exact hok)⟩) (by rw [zN_nI hcb, zN_nI hseb, zN_nI htob]; exact a2s) (fun σ2 hW2 => ?_)) z_nx
  rw [zN_nI hcb, zN_nI hseb, zN_nI htob] at hW2
  replace hW2 : LW x (shA a ch se to (nI (1 + p0))) x (shA a ch se to (nI (1 + p0))) A σ2 := hW2
  refine z_iload C dL_acts_1158 rfl ?_
  refine z_icmp_ne (tgt := 1205) C dL_acts_1160 (by decide) (fun h => absurd (rfl) h) (fun _ => ?_)
  refine z_iload C dL_acts_1163 rfl ?_
  refine z_iload C dL_acts_1165 rfl ?_
  refine z_icmp_ne (tgt := 1180) C dL_acts_1167 (by decide) (fun _ => ?_) (fun h => absurd h (fun z => hjt ((nI_eq (by omega) (by omega)).mp z.symm)))
  refine z_iload C dL_acts_1180 rfl ?_
  refine z_ldc C dL_acts_1182 kc_RL_21 ?_
  refine z_icmp_eq (tgt := 1201) C dL_acts_1184 (by decide) (fun h => absurd h (nI_nn (by omega) (by decide))) (fun _ => ?_)
  refine z_iload C dL_acts_1187 rfl ?_
  refine z_iload C dL_acts_1189 rfl ?_
  refine z_icmp_lt (tgt := 1205) C dL_acts_1191 (by decide) (fun h => absurd h (nI_nlt (by omega) (by omega))) (fun _ => ?_)
  refine z_iload C dL_acts_1194 rfl ?_
  refine z_bipush (v := nI 100) C dL_acts_1196 (by decide) ?_
  refine z_icmp_gt (tgt := 1205) C dL_acts_1198 (by decide) (fun h => absurd h (nI_nlt (by omega) (by decide))) (fun _ => ?_)
  refine z_iconst (v := nI 1) C dL_acts_1201 (by decide) ?_
  refine z_goto (tgt := 1206) C dL_acts_1202 (by decide) ?_
  refine z_istore C dL_acts_1206 (by decide) ?_
  refine z_iload C dL_acts_1208 rfl ?_
  refine z_if_eq (tgt := 1273) C dL_acts_1210 (by decide) (fun h => absurd h (by decide)) (fun _ => ?_)
  refine z_iload C dL_acts_1213 rfl ?_
  refine z_if_lt (tgt := 1252) C dL_acts_1215 (by decide) (fun h => absurd h (nI_pos (by omega))) (fun _ => ?_)
  refine z_aload_n (i := 0) C dL_acts_1218 rfl rfl ?_
  refine z_iload C dL_acts_1219 rfl ?_
  refine z_iload C dL_acts_1221 rfl ?_
  refine z_iload C dL_acts_1223 rfl ?_
  refine z_iload C dL_acts_1225 rfl ?_
  refine z_callSX C Y_L_giveShare sm_yL_giveShare ml_RL_141 (c_L_giveShare l hW2.1 hI2) dL_acts_1227 rfl rfl (fun _ => Nat.le_of_ble_eq_true rfl) ⟨Nat.le_of_ble_eq_true rfl, Nat.le_of_ble_eq_true rfl⟩ (by show _ ≤ 300 ∧ _ ≤ 5000; omega) (z_w0 (w := (nI (shN a ch se))) hW2 (goC_0.mpr ⟨(band (kcha hI2 hch) (band (ksel hI2 hto) (ksel hI2 hse))), (band (inB_nn (a := 1) (b := 100) (by omega) (by omega) (by decide)) (by rw [decide_eq_false (fun z => hjt ((nI_eq (by omega) (by omega)).mp z.symm))]; rfl)), band (band (kcha hI2 hch) (band (ksel hI2 hto) (ksel hI2 hse))) (by rw [zN_nI hcb, zN_nI htob, a2s]; exact band hop (decide_eq_true (nI_le (by omega) (by omega))))⟩) (by rw [zN_nI hcb, zN_nI hseb, zN_nI htob]; exact a2b) (fun σ3 hW3 => ?_)) z_nx
  rw [zN_nI hcb, zN_nI hseb, zN_nI htob] at hW3
  replace hW3 : LW x (shA (shA a ch se to (nI (1 + p0))) ch to se (nI (1 + p0))) x (shA a ch se to (nI (1 + p0))) A σ3 := hW3
  rw [sh_back hjt] at hW3
  refine z_iload C dL_acts_1230 rfl ?_
  refine z_icmp_lt (tgt := 1273) C dL_acts_1232 (by decide) (fun h => absurd h (nI_nlt (by omega) (by omega))) (fun _ => ?_)
  refine z_aload_n (i := 0) C dL_acts_1235 rfl rfl ?_
  refine z_iload C dL_acts_1236 rfl ?_
  refine z_iload C dL_acts_1238 rfl ?_
  refine z_iload C dL_acts_1240 rfl ?_
  refine z_iload C dL_acts_1242 rfl ?_
  refine z_callSX C Y_L_giveShare sm_yL_giveShare ml_RL_141 (c_L_giveShare l hW3.1 hI) dL_acts_1244 rfl rfl (fun _ => Nat.le_of_ble_eq_true rfl) ⟨Nat.le_of_ble_eq_true rfl, Nat.le_of_ble_eq_true rfl⟩ (by show _ ≤ 300 ∧ _ ≤ 5000; omega) (z_w0 (w := (nI (shN a ch to + (1 + p0)))) hW3 (goC_0.mpr ⟨(band (kcha hI hch) (band (ksel hI hse) (ksel hI hto))), (band (inB_nn (a := 1) (b := 100) (by omega) (by omega) (by decide)) (by rw [decide_eq_false (fun z => hjt ((nI_eq (by omega) (by omega)).mp z))]; rfl)), band (band (kcha hI hch) (band (ksel hI hse) (ksel hI hto))) (by rw [zN_nI hcb, zN_nI hseb]; exact hok)⟩) (by rw [zN_nI hcb, zN_nI hseb, zN_nI htob]; exact a2s) (fun σ4 hW4 => ?_)) z_nx
  rw [zN_nI hcb, zN_nI hseb, zN_nI htob] at hW4
  replace hW4 : LW x (shA a ch se to (nI (1 + p0))) x (shA a ch se to (nI (1 + p0))) A σ4 := hW4
  refine z_iload C dL_acts_1247 rfl ?_
  refine z_icmp_ne (tgt := 1273) C dL_acts_1249 (by decide) (fun h => absurd (rfl) h) (fun _ => ?_)
  refine z_aload_n (i := 0) C dL_acts_1252 rfl rfl ?_
  refine z_iload C dL_acts_1253 rfl ?_
  refine z_iload C dL_acts_1255 rfl ?_
  refine z_iload C dL_acts_1257 rfl ?_
  refine z_bipush (v := nI 101) C dL_acts_1259 (by decide) ?_
  refine z_callSX C Y_L_giveShare sm_yL_giveShare ml_RL_141 (c_L_giveShare l hW4.1 hI2) dL_acts_1261 rfl rfl (fun _ => Nat.le_of_ble_eq_true rfl) ⟨Nat.le_of_ble_eq_true rfl, Nat.le_of_ble_eq_true rfl⟩ (by show _ ≤ 300 ∧ _ ≤ 5000; omega) (z_w2 (kx_2 (band (kcha hI2 hch) (band (ksel hI2 hse) (ksel hI2 hto))) (band0 (by decide))) ?_) z_nx
  refine z_ldc C dL_acts_1264 kc_RL_18 ?_
  refine z_icmp_ne (tgt := 1273) C dL_acts_1266 (by decide) (fun h => absurd (rfl) h) (fun _ => ?_)
  refine z_iconst (v := nI 1) C dL_acts_1269 (by decide) ?_
  refine z_goto (tgt := 1274) C dL_acts_1270 (by decide) ?_
  exact z_iret C hr rfl dL_acts_1274 (Nat.le_of_ble_eq_true rfl) (Nat.le_of_ble_eq_true rfl) ⟨_, rfl, rfl, _, _, A, hW4, hT2.up⟩
set_option maxRecDepth 100000 in
set_option maxHeartbeats 4000000 in
theorem ac_sh (C : zC X p l s m args meth c9 cL_acts 18 RL) (hr : meth.sig.returnType = some .boolean) (hW : LW x a x a A σ) (hT : TI x a A K) (hK : K < 95) (hac : ac < zN (x 1)) (hse : se < zN (x 11)) (hch : ch < zN (x 15)) : AG X p l e s m args below meth c9 σ0 loc0 K 0 0 σ 1104 [(0, aR 0 0), (1, aR 40 0), (2, aR 80 0), (3, aR 80 1), (4, aR 80 2), (5, aR 80 3), (6, aR 80 4), (7, aI (xx)), (8, aI (yy)), (9, aI (nI (kd))), (10, aI (nI (ac))), (11, aI (nI (se))), (12, aI (nI (ch)))] [] := by
  obtain ⟨hI, hJ, ⟨⟨t0, t1, t2, t3, t4, t5, t6⟩, hTa, hTb, hTd, hTq⟩, h0⟩ := id hT
  obtain ⟨i0, i1, i6, i11, i15, i23, i24, i29, iA, iS, iC, iQ, iP⟩ := id hI.1
  have b0 := i0.2
  have b1 := i1.2
  have b6 := i6.2
  have b11 := i11.2
  have b15 := hJ.1.1
  have b23 := hJ.1.2
  have b29 := i29.2
  have g0 : A 4 0 = nI (zN (x 1)) := t0.trans i1.1
  have g1 : A 4 1 = nI (zN (x 11)) := t1.trans i11.1
  have g2 : A 4 2 = nI (zN (x 15)) := t2.trans i15.1
  have g3 : A 4 3 = nI (zN (x 23)) := t3.trans i23.1
  have g4 : A 4 4 = nI (zN (x 6)) := t4.trans i6.1
  have g5 : A 4 5 = nI (zN (x 29)) := t5.trans i29.1
  have g6 : A 4 6 = nI (zN (x 0)) := t6.trans i0.1
  have hK1 := hT.up
  have hxb : ∀ n, n ≤ 100 → n < 2 ^ 31 := fun n h => by omega
  obtain ⟨to, eto⟩ : ∃ to, lowN (yy >>> (nI 8 &&& 31)) (zN (x 11)) = to := ⟨_, rfl⟩
  have hto : to < zN (x 11) := by rw [← eto]; exact lowN_lt (by omega)
  obtain ⟨p0, ep0⟩ : ∃ p0, lowN (yy >>> (nI 11 &&& 31)) 100 = p0 := ⟨_, rfl⟩
  have hp0 : p0 < 100 := by rw [← ep0]; exact lowN_lt (by decide)
  refine z_iload C dL_acts_1104 rfl ?_
  refine z_bipush (v := nI 8) C dL_acts_1106 (by decide) ?_
  refine z_ishr C dL_acts_1108 ?_
  refine z_aload C dL_acts_1109 rfl ?_
  refine z_iconst (v := nI 1) C dL_acts_1111 (by decide) ?_
  refine z_ialdN C dL_acts_1112 (hW.2.2.1 4 (by decide)) (show _ < 7 by omega) (by decide) ?_
  refine z_top (w := (nI (zN (x 11)))) (g1) ?_
  refine z_callS C Y_L_low sm_yL_low ml_RL_147 (c_L_low l (n := zN (x 11)) (by omega) (by omega)) dL_acts_1113 rfl rfl (fun _ => Nat.le_of_ble_eq_true rfl) ⟨Nat.le_of_ble_eq_true rfl, Nat.le_of_ble_eq_true rfl⟩ (by show _ ≤ 300 ∧ _ ≤ 5000; omega) (z_p0 (w := (nI (to))) (congrArg nI eto) ?_) z_nx
  refine z_istore C dL_acts_1116 (by decide) ?_
  refine z_iconst (v := nI 1) C dL_acts_1118 (by decide) ?_
  refine z_iload C dL_acts_1119 rfl ?_
  refine z_bipush (v := nI 11) C dL_acts_1121 (by decide) ?_
  refine z_ishr C dL_acts_1123 ?_
  refine z_bipush (v := nI 100) C dL_acts_1124 (by decide) ?_
  refine z_callS C Y_L_low sm_yL_low ml_RL_147 (c_L_low l (n := 100) (by omega) (by omega)) dL_acts_1126 rfl rfl (fun _ => Nat.le_of_ble_eq_true rfl) ⟨Nat.le_of_ble_eq_true rfl, Nat.le_of_ble_eq_true rfl⟩ (by show _ ≤ 300 ∧ _ ≤ 5000; omega) (z_p0 (w := (nI (p0))) (congrArg nI ep0) ?_) z_nx
  refine z_iadd C dL_acts_1129 ?_
  refine z_top (w := (nI ((1 + p0)))) (nI_add _ _) ?_
  refine z_istore C dL_acts_1130 (by decide) ?_
  by_cases hjt : se = to
  · subst hjt
    refine z_sub (L' := [(0, aR 0 0), (1, aR 40 0), (2, aR 80 0), (3, aR 80 1), (4, aR 80 2), (5, aR 80 3), (6, aR 80 4), (7, aI (xx)), (8, aI (yy)), (9, aI (nI (kd))), (10, aI (nI (ac))), (11, aI (nI (se))), (12, aI (nI (ch))), (13, aI (nI (se))), (14, aI (nI (1 + p0)))]) (zs1 rfl (zs1 rfl (zs1 rfl (zs1 rfl (zs1 rfl (zs1 rfl (zs1 rfl (zs1 rfl (zs1 rfl (zs1 rfl (zs1 rfl (zs1 rfl (zs1 rfl (zs1 rfl (zs1 rfl zs0))))))))))))))) ?_
    exact ac_sh1 C hr hW hT hK hac hse hch hp0

  · refine z_sub (L' := [(0, aR 0 0), (1, aR 40 0), (2, aR 80 0), (3, aR 80 1), (4, aR 80 2), (5, aR 80 3), (6, aR 80 4), (7, aI (xx)), (8, aI (yy)), (9, aI (nI (kd))), (10, aI (nI (ac))), (11, aI (nI (se))), (12, aI (nI (ch))), (13, aI (nI (to))), (14, aI (nI (1 + p0)))]) (zs1 rfl (zs1 rfl (zs1 rfl (zs1 rfl (zs1 rfl (zs1 rfl (zs1 rfl (zs1 rfl (zs1 rfl (zs1 rfl (zs1 rfl (zs1 rfl (zs1 rfl (zs1 rfl (zs1 rfl zs0))))))))))))))) ?_
    cases hok : (opnB a ch && decide (nI (1 + p0) ≤ a 21 (8 * ch + se))) with
    | false => exact ac_sh2 C hr hW hT hK hac hse hch hto hp0 hjt hok
    | true => exact ac_sh3 C hr hW hT hK hac hse hch hto hp0 hjt hok
set_option maxRecDepth 100000 in
set_option maxHeartbeats 4000000 in
theorem ac_mv2 (C : zC X p l s m args meth c9 cL_acts 18 RL) (hr : meth.sig.returnType = some .boolean) (hW : LW x a x a A σ) (hT : TI x a A K) (hK : K < 95) (hac : ac < zN (x 1)) (hse : se < zN (x 11)) (hch : ch < zN (x 15)) {nx : Nat} (hn : nx ≤ 5) (h2 : 2 ≤ zN (x 11)) : AG X p l e s m args below meth c9 σ0 loc0 K 30 500 σ 1338 [(0, aR 0 0), (1, aR 40 0), (2, aR 80 0), (3, aR 80 1), (4, aR 80 2), (5, aR 80 3), (6, aR 80 4), (7, aI (xx)), (8, aI (yy)), (9, aI (nI (kd))), (10, aI (nI (ac))), (11, aI (nI (se))), (12, aI (nI (ch)))] [aI (nI nx)] := by
  obtain ⟨hI, hJ, ⟨⟨t0, t1, t2, t3, t4, t5, t6⟩, hTa, hTb, hTd, hTq⟩, h0⟩ := id hT
  obtain ⟨i0, i1, i6, i11, i15, i23, i24, i29, iA, iS, iC, iQ, iP⟩ := id hI.1
  have b0 := i0.2
  have b1 := i1.2
  have b6 := i6.2
  have b11 := i11.2
  have b15 := hJ.1.1
  have b23 := hJ.1.2
  have b29 := i29.2
  have g0 : A 4 0 = nI (zN (x 1)) := t0.trans i1.1
  have g1 : A 4 1 = nI (zN (x 11)) := t1.trans i11.1
  have g2 : A 4 2 = nI (zN (x 15)) := t2.trans i15.1
  have g3 : A 4 3 = nI (zN (x 23)) := t3.trans i23.1
  have g4 : A 4 4 = nI (zN (x 6)) := t4.trans i6.1
  have g5 : A 4 5 = nI (zN (x 29)) := t5.trans i29.1
  have g6 : A 4 6 = nI (zN (x 0)) := t6.trans i0.1
  have hK1 := hT.up
  have hxb : ∀ n, n ≤ 100 → n < 2 ^ 31 := fun n h => by omega
  refine z_istore C dL_acts_1338 (by decide) ?_
  refine z_aload_n (i := 0) C dL_acts_1340 rfl rfl ?_
  refine z_aload_n (i := 1) C dL_acts_1341 rfl rfl ?_
  refine z_aload C dL_acts_1342 rfl ?_
  refine z_aload C dL_acts_1344 rfl ?_
  refine z_iload C dL_acts_1346 rfl ?_
  refine z_iload C dL_acts_1348 rfl ?_
  refine z_callS C Y_L_moves sm_yL_moves ml_RL_164 (c_L_moves l hW hT hch hn h2) dL_acts_1350 rfl rfl (fun _ => Nat.le_of_ble_eq_true rfl) ⟨Nat.le_of_ble_eq_true rfl, Nat.le_of_ble_eq_true rfl⟩ (by show _ ≤ 300 ∧ _ ≤ 5000; omega) (z_ri (fun r9 σ1 hx => ?_)) z_nx
  obtain ⟨rfl, x1, a1, hW1, hT1⟩ := hx
  exact z_iret C hr rfl dL_acts_1353 (Nat.le_of_ble_eq_true rfl) (Nat.le_of_ble_eq_true rfl) ⟨_, rfl, rfl, x1, a1, A, hW1, hT1.up⟩
set_option maxRecDepth 100000 in
set_option maxHeartbeats 4000000 in
theorem ac_mv (C : zC X p l s m args meth c9 cL_acts 18 RL) (hr : meth.sig.returnType = some .boolean) (hW : LW x a x a A σ) (hT : TI x a A K) (hK : K < 95) (hac : ac < zN (x 1)) (hse : se < zN (x 11)) (hch : ch < zN (x 15)) (h2 : 2 ≤ zN (x 11)) : AG X p l e s m args below meth c9 σ0 loc0 K 0 0 σ 1282 [(0, aR 0 0), (1, aR 40 0), (2, aR 80 0), (3, aR 80 1), (4, aR 80 2), (5, aR 80 3), (6, aR 80 4), (7, aI (xx)), (8, aI (yy)), (9, aI (nI (kd))), (10, aI (nI (ac))), (11, aI (nI (se))), (12, aI (nI (ch)))] [] := by
  obtain ⟨hI, hJ, ⟨⟨t0, t1, t2, t3, t4, t5, t6⟩, hTa, hTb, hTd, hTq⟩, h0⟩ := id hT
  obtain ⟨i0, i1, i6, i11, i15, i23, i24, i29, iA, iS, iC, iQ, iP⟩ := id hI.1
  have b0 := i0.2
  have b1 := i1.2
  have b6 := i6.2
  have b11 := i11.2
  have b15 := hJ.1.1
  have b23 := hJ.1.2
  have b29 := i29.2
  have g0 : A 4 0 = nI (zN (x 1)) := t0.trans i1.1
  have g1 : A 4 1 = nI (zN (x 11)) := t1.trans i11.1
  have g2 : A 4 2 = nI (zN (x 15)) := t2.trans i15.1
  have g3 : A 4 3 = nI (zN (x 23)) := t3.trans i23.1
  have g4 : A 4 4 = nI (zN (x 6)) := t4.trans i6.1
  have g5 : A 4 5 = nI (zN (x 29)) := t5.trans i29.1
  have g6 : A 4 6 = nI (zN (x 0)) := t6.trans i0.1
  have hK1 := hT.up
  have hxb : ∀ n, n ≤ 100 → n < 2 ^ 31 := fun n h => by omega
  have hcb : ch < 2 ^ 31 := by omega
  obtain ⟨hs5, es⟩ := st_N hI hch
  obtain ⟨n6, en6⟩ : ∃ n6, lowN (yy >>> (nI 10 &&& 31)) 6 = n6 := ⟨_, rfl⟩
  have hn6 : n6 < 6 := by rw [← en6]; exact lowN_lt (by decide)
  refine z_iload C dL_acts_1282 rfl ?_
  refine z_bipush (v := nI 8) C dL_acts_1284 (by decide) ?_
  refine z_ishr C dL_acts_1286 ?_
  refine z_iconst (v := nI 3) C dL_acts_1287 (by decide) ?_
  refine z_callS C Y_L_low sm_yL_low ml_RL_147 (c_L_low l (n := 3) (by omega) (by omega)) dL_acts_1288 rfl rfl (fun _ => Nat.le_of_ble_eq_true rfl) ⟨Nat.le_of_ble_eq_true rfl, Nat.le_of_ble_eq_true rfl⟩ (by show _ ≤ 300 ∧ _ ≤ 5000; omega) (z_p0 (w := (nI (lowN (yy >>> (nI 8 &&& 31)) 3))) (rfl) ?_) z_nx
  refine z_if_ne (tgt := 1307) C dL_acts_1291 (by decide) (fun h1291 => ?_) (fun h1291 => ?_)
  · refine z_aload_n (i := 0) C dL_acts_1307 rfl rfl ?_
    refine z_iload C dL_acts_1308 rfl ?_
    refine z_callSX C Y_L_stage sm_yL_stage ml_RL_107 (c_L_stage l hW.1 hI) dL_acts_1310 rfl rfl (fun _ => Nat.le_of_ble_eq_true rfl) ⟨Nat.le_of_ble_eq_true rfl, Nat.le_of_ble_eq_true rfl⟩ (by show _ ≤ 300 ∧ _ ≤ 5000; omega) (z_q0 (w := (nI (stN a ch))) (goC_0.mpr ⟨kcha hI hch, rfl, rfl⟩) (by rw [zN_nI hcb]; exact es) ?_) z_nx
    refine z_iconst (v := nI 4) C dL_acts_1313 (by decide) ?_
    refine z_icmp_ge (tgt := 1328) C dL_acts_1314 (by decide) (fun h1314 => ?_) (fun h1314 => ?_)
    · refine z_iload C dL_acts_1328 rfl ?_
      refine z_bipush (v := nI 10) C dL_acts_1330 (by decide) ?_
      refine z_ishr C dL_acts_1332 ?_
      refine z_bipush (v := nI 6) C dL_acts_1333 (by decide) ?_
      refine z_callS C Y_L_low sm_yL_low ml_RL_147 (c_L_low l (n := 6) (by omega) (by omega)) dL_acts_1335 rfl rfl (fun _ => Nat.le_of_ble_eq_true rfl) ⟨Nat.le_of_ble_eq_true rfl, Nat.le_of_ble_eq_true rfl⟩ (by show _ ≤ 300 ∧ _ ≤ 5000; omega) (z_p0 (w := (nI (n6))) (congrArg nI en6) ?_) z_nx
      refine z_sub (L' := [(0, aR 0 0), (1, aR 40 0), (2, aR 80 0), (3, aR 80 1), (4, aR 80 2), (5, aR 80 3), (6, aR 80 4), (7, aI (xx)), (8, aI (yy)), (9, aI (nI (kd))), (10, aI (nI (ac))), (11, aI (nI (se))), (12, aI (nI (ch)))]) (zs1 rfl (zs1 rfl (zs1 rfl (zs1 rfl (zs1 rfl (zs1 rfl (zs1 rfl (zs1 rfl (zs1 rfl (zs1 rfl (zs1 rfl (zs1 rfl (zs1 rfl zs0))))))))))))) ?_
      exact z_wd (by omega) (by omega) (ac_mv2 C hr hW hT hK hac hse hch (by omega) h2)
  
    · have hs4 : stN a ch < 4 := by
        rcases Nat.lt_or_ge (stN a ch) 4 with z | z
        · exact z
        · exact absurd (nI_le (a := 4) z (by omega)) h1314
      refine z_aload_n (i := 0) C dL_acts_1317 rfl rfl ?_
      refine z_iload C dL_acts_1318 rfl ?_
      refine z_callSX C Y_L_stage sm_yL_stage ml_RL_107 (c_L_stage l hW.1 hI) dL_acts_1320 rfl rfl (fun _ => Nat.le_of_ble_eq_true rfl) ⟨Nat.le_of_ble_eq_true rfl, Nat.le_of_ble_eq_true rfl⟩ (by show _ ≤ 300 ∧ _ ≤ 5000; omega) (z_q0 (w := (nI (stN a ch))) (goC_0.mpr ⟨kcha hI hch, rfl, rfl⟩) (by rw [zN_nI hcb]; exact es) ?_) z_nx
      refine z_iconst (v := nI 1) C dL_acts_1323 (by decide) ?_
      refine z_iadd C dL_acts_1324 ?_
      refine z_top (w := (nI ((stN a ch + 1)))) (nI_add _ _) ?_
      refine z_goto (tgt := 1338) C dL_acts_1325 (by decide) ?_
      refine z_sub (L' := [(0, aR 0 0), (1, aR 40 0), (2, aR 80 0), (3, aR 80 1), (4, aR 80 2), (5, aR 80 3), (6, aR 80 4), (7, aI (xx)), (8, aI (yy)), (9, aI (nI (kd))), (10, aI (nI (ac))), (11, aI (nI (se))), (12, aI (nI (ch)))]) (zs1 rfl (zs1 rfl (zs1 rfl (zs1 rfl (zs1 rfl (zs1 rfl (zs1 rfl (zs1 rfl (zs1 rfl (zs1 rfl (zs1 rfl (zs1 rfl (zs1 rfl zs0))))))))))))) ?_
      exact z_wd (by omega) (by omega) (ac_mv2 C hr hW hT hK hac hse hch (by omega) h2)
  · refine z_iload C dL_acts_1294 rfl ?_
    refine z_bipush (v := nI 10) C dL_acts_1296 (by decide) ?_
    refine z_ishr C dL_acts_1298 ?_
    refine z_bipush (v := nI 6) C dL_acts_1299 (by decide) ?_
    refine z_callS C Y_L_low sm_yL_low ml_RL_147 (c_L_low l (n := 6) (by omega) (by omega)) dL_acts_1301 rfl rfl (fun _ => Nat.le_of_ble_eq_true rfl) ⟨Nat.le_of_ble_eq_true rfl, Nat.le_of_ble_eq_true rfl⟩ (by show _ ≤ 300 ∧ _ ≤ 5000; omega) (z_p0 (w := (nI (n6))) (congrArg nI en6) ?_) z_nx
    refine z_goto (tgt := 1338) C dL_acts_1304 (by decide) ?_
    refine z_sub (L' := [(0, aR 0 0), (1, aR 40 0), (2, aR 80 0), (3, aR 80 1), (4, aR 80 2), (5, aR 80 3), (6, aR 80 4), (7, aI (xx)), (8, aI (yy)), (9, aI (nI (kd))), (10, aI (nI (ac))), (11, aI (nI (se))), (12, aI (nI (ch)))]) (zs1 rfl (zs1 rfl (zs1 rfl (zs1 rfl (zs1 rfl (zs1 rfl (zs1 rfl (zs1 rfl (zs1 rfl (zs1 rfl (zs1 rfl (zs1 rfl (zs1 rfl zs0))))))))))))) ?_
    exact z_wd (by omega) (by omega) (ac_mv2 C hr hW hT hK hac hse hch (by omega) h2)
end AC3
