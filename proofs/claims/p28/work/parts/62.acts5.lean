/-! acts: freezes, days; the contract -/
theorem wrt_e {x x' : Nat → Int32} {a a' : Nat → Nat → Int32} {c : Nat} (h23 : x' 23 = x 23) (h17 : a' 17 = a 17) (h25 : a' 25 = a 25) (h27 : a' 27 = a 27) (h28 : a' 28 = a 28) : wrt x' a' c = wrt x a c := by
  unfold wrt
  rw [cnt_e h23 h25 h28, h17, h27]
theorem ownL_e {x x' : Nat → Int32} {a a' : Nat → Nat → Int32} {s : Nat} (hw : ∀ k, wrt x' a' k = wrt x a k) (h18 : a' 18 = a 18) (h21 : a' 21 = a 21) : ∀ n, ownL x' a' s n = ownL x a s n
  | 0 => rfl
  | n + 1 => by rw [ownL, ownL, ownL_e hw h18 h21 n, hw, h18, h21]
theorem abvF_e {a a' : Nat → Nat → Int32} {t : Int32} (h : a' 12 = a 12) : ∀ (f : Nat) (v : Int32), abvF a' t f v = abvF a t f v
  | 0, _ => rfl
  | f + 1, v => by rw [abvF, abvF, h, abvF_e h f]
theorem tmB_e {a a' : Nat → Nat → Int32} {k i : Nat} (h : a' 12 = a 12) : tmB a' k i = tmB a k i := by
  unfold tmB abvB
  rw [h, abvF_e h]
theorem forS_fr {x : Nat → Int32} {a : Nat → Nat → Int32} {v : Int32} {F : Nat → Int32} {t : Nat} : forS (upd x 29 v) (ua a 30 F) t = forS x a t := by
  unfold forS
  rw [forL_S, forL_S]
  show sumL _ (zN (x 11)) = _
  refine sumL_cg (fun k _ => ?_)
  rw [tmB_e (a := a) (a' := ua a 30 F) rfl]
  rw [show ownS (upd x 29 v) (ua a 30 F) k = ownS x a k from ownL_e (x := x) (x' := upd x 29 v) (a := a) (a' := ua a 30 F) (fun _ => wrt_e (by rfl) (by rfl) (by rfl) (by rfl) (by rfl)) (by rfl) (by rfl) _]
  rfl
theorem forS_ad {x : Nat → Int32} {a : Nat → Nat → Int32} {v : Int32} {t : Nat} (ht : t < zN (x 11)) : forS x (ua a 14 (upd (a 14) t (a 14 t + v))) t = forS x a t + v := by
  have e1 : v = sumL (fun k => cond (decide (k = t)) v 0) (zN (x 11)) := by
    rw [sumL_one ht (fun j _ hj => by rw [decide_eq_false hj]; rfl), decide_eq_true rfl]
    rfl
  unfold forS
  rw [forL_S, forL_S]
  refine Eq.trans ?_ (congrArg (fun z => sumL (fun k => cond (tmB a t k) (ownS x a k + a 14 k) 0) (zN (x 11)) + z) e1.symm)
  rw [← sumL_add]
  refine sumL_cg (fun k _ => ?_)
  rw [tmB_e (a := a) (a' := ua a 14 (upd (a 14) t (a 14 t + v))) rfl]
  rw [show ownS x (ua a 14 (upd (a 14) t (a 14 t + v))) k = ownS x a k from ownL_e (x := x) (x' := x) (a := a) (a' := ua a 14 (upd (a 14) t (a 14 t + v))) (fun _ => wrt_e (by rfl) (by rfl) (by rfl) (by rfl) (by rfl)) (by rfl) (by rfl) _]
  show cond (tmB a t k) (ownS x a k + upd (a 14) t (a 14 t + v) k) 0 = _
  by_cases e : k = t
  · subst e
    rw [upd_at, decide_eq_true rfl, show tmB a k k = true by unfold tmB; rw [decide_eq_true rfl, Bool.true_or]]
    show ownS x a k + (a 14 k + v) = ownS x a k + a 14 k + v
    rw [Int32.add_assoc]
  · rw [upd_ne e, decide_eq_false e]
    show _ = _ + (0 : Int32)
    rw [Int32.add_zero]
theorem frz_at {x : Nat → Int32} {a : Nat → Nat → Int32} {z k s : Nat} (h : s < k) : frz x a z k (8 * z + s) = forS x a s := by
  unfold frz
  rw [if_pos ⟨by omega, by omega⟩, show 8 * z + s - 8 * z = s by omega]
theorem add_sub8 {u w : Int32} : u + w - u = w := by rw [Int32.add_comm]; exact add_sub9
theorem inB_ad7 {m : Nat} (h : m ≤ 2000) : inB (nI m - 1000 + nI 7) (-1000000) 1000000 = true := by
  have e : nI m - 1000 + nI 7 = nI (m + 7) - nI 1000 := by
    rw [← nI_add, Int32.sub_eq_add_neg, Int32.sub_eq_add_neg, Int32.add_assoc, Int32.add_assoc, Int32.add_comm (-1000) (nI 7)]
    rfl
  rw [e]
  exact inB_adj (by omega)
section AC5
variable {X : zX} {p : Program} {l : Launch} {e : Env} {s : State} {m : MethodId} {args : Array Value} {below : List Frame} {meth : Method} {c9 : Code} {σ0 σ : zHp} {loc0 : zK → Nat} {x : Nat → Int32} {a A : Nat → Nat → Int32} {K kd ac se ch : Nat} {xx yy : Int32}
set_option maxRecDepth 100000 in
set_option maxHeartbeats 4000000 in
theorem ac_fr0 (C : zC X p l s m args meth c9 cL_acts 18 RL) (hr : meth.sig.returnType = some .boolean) (hW : LW x a x a A σ) (hT : TI x a A K) (hK : K < 95) (hac : ac < zN (x 1)) (hse : se < zN (x 11)) (hch : ch < zN (x 15)) (hn : 20 ≤ zN (x 29)) : AG X p l e s m args below meth c9 σ0 loc0 K 0 0 σ 1874 [(0, aR 0 0), (1, aR 40 0), (2, aR 80 0), (3, aR 80 1), (4, aR 80 2), (5, aR 80 3), (6, aR 80 4), (7, aI (xx)), (8, aI (yy)), (9, aI (nI (kd))), (10, aI (nI (ac))), (11, aI (nI (se))), (12, aI (nI (ch)))] [] := by
  obtain ⟨hI, hJ, ⟨⟨t0, t1, t2, t3, t4, t5, t6⟩, hTa, hTb, hTd, hTq⟩, h0⟩ := id hT
  obtain ⟨i0, i1, i6, i11, i15, i23, i24, i29, iA, iS, iC, iQ, iP⟩ := id hI.1
  have b0 := i0.2
  have b1 := i1.2
  have b6 := i6.2
  have b11 := i11.2
  have b15 := hJ.1.1
  have b23 := hJ.1.2
  have b29 := i29.2
  have g0 : A 4 0 = nI (zN (x 1)) := t0.trans i1.1
  have g1 : A 4 1 = nI (zN (x 11)) := t1.trans i11.1
  have g2 : A 4 2 = nI (zN (x 15)) := t2.trans i15.1
  have g3 : A 4 3 = nI (zN (x 23)) := t3.trans i23.1
  have g4 : A 4 4 = nI (zN (x 6)) := t4.trans i6.1
  have g5 : A 4 5 = nI (zN (x 29)) := t5.trans i29.1
  have g6 : A 4 6 = nI (zN (x 0)) := t6.trans i0.1
  have hK1 := hT.up
  have hxb : ∀ n, n ≤ 100 → n < 2 ^ 31 := fun n h => by omega
  refine z_aload C dL_acts_1874 rfl ?_
  refine z_iconst (v := nI 5) C dL_acts_1876 (by decide) ?_
  refine z_ialdN C dL_acts_1877 (hW.2.2.1 4 (by decide)) (show _ < 7 by omega) (by decide) ?_
  refine z_top (w := (nI (zN (x 29)))) (g5) ?_
  refine z_bipush (v := nI 20) C dL_acts_1878 (by decide) ?_
  refine z_icmp_ge (tgt := 1890) C dL_acts_1880 (by decide) (fun _ => ?_) (fun h => absurd (nI_le (a := 20) hn (by omega)) h)
  refine z_ldc C dL_acts_1890 kc_RL_21 ?_
  refine z_istore C dL_acts_1892 (by decide) ?_
  refine z_aload C dL_acts_1894 rfl ?_
  refine z_iconst (v := nI 5) C dL_acts_1896 (by decide) ?_
  refine z_dup2 C (by first | trivial | rfl) (by first | trivial | rfl) dL_acts_1897 ?_
  refine z_ialdN C dL_acts_1898 (hW.2.2.1 4 (by decide)) (show _ < 7 by omega) (by decide) ?_
  refine z_top (w := (nI (zN (x 29)))) (g5) ?_
  refine z_iload C dL_acts_1899 rfl ?_
  refine z_if_ge (tgt := 1908) C dL_acts_1901 (by decide) (fun h => absurd h (by decide)) (fun _ => ?_)
  refine z_iconst (v := nI 0) C dL_acts_1904 (by decide) ?_
  refine z_goto (tgt := 1909) C dL_acts_1905 (by decide) ?_
  refine z_iadd C dL_acts_1909 ?_
  refine z_top (w := (nI ((zN (x 29) + 0)))) (nI_add _ _) ?_
  refine z_iastW (idx := 5) C hW (j := 4) (by decide) dL_acts_1910 (show _ < 7 by omega) (fun σ1 A1 hW1 eA1 => ?_)
  have g0_1 : A1 4 0 = nI (zN (x 1)) := by rw [eA1]; exact g0
  have g1_1 : A1 4 1 = nI (zN (x 11)) := by rw [eA1]; exact g1
  have g2_1 : A1 4 2 = nI (zN (x 15)) := by rw [eA1]; exact g2
  have g3_1 : A1 4 3 = nI (zN (x 23)) := by rw [eA1]; exact g3
  have g4_1 : A1 4 4 = nI (zN (x 6)) := by rw [eA1]; exact g4
  have g5_1 : A1 4 5 = nI ((zN (x 29) + 0)) := by rw [eA1, ua_s]; exact upd_at
  have g6_1 : A1 4 6 = nI (zN (x 0)) := by rw [eA1]; exact g6
  have eA9 : A1 = A := eA1.trans (ua_same g5)
  clear eA1
  subst eA9
  have hseb : se < 2 ^ 31 := by omega
  refine z_aload_n (i := 0) C dL_acts_1911 rfl rfl ?_
  refine z_iload C dL_acts_1912 rfl ?_
  refine z_callSX C Y_L_forecast sm_yL_forecast ml_RL_130 (c_L_forecast l hW1.1 hI) dL_acts_1914 rfl rfl (fun _ => Nat.le_of_ble_eq_true rfl) ⟨Nat.le_of_ble_eq_true rfl, Nat.le_of_ble_eq_true rfl⟩ (by show _ ≤ 300 ∧ _ ≤ 5000; omega) (z_q0 (w := (forS x a se)) (kq_sel hI.1 hse) (by rw [zN_nI hseb]) ?_) z_nx
  refine z_istore C dL_acts_1917 (by decide) ?_
  refine z_aload_n (i := 0) C dL_acts_1919 rfl rfl ?_
  refine z_callSX C Y_L_freeze sm_yL_freeze ml_RL_171 (c_L_freeze l hW1.1 hI) dL_acts_1920 rfl rfl (fun _ => Nat.le_of_ble_eq_true rfl) ⟨Nat.le_of_ble_eq_true rfl, Nat.le_of_ble_eq_true rfl⟩ (by show _ ≤ 300 ∧ _ ≤ 5000; omega) (z_w1 (kx_1 (lt_f (n := 20) i29 (by decide) hn)) ?_) z_nx
  refine z_iload C dL_acts_1923 rfl ?_
  refine z_icmp_ne (tgt := 1956) C dL_acts_1925 (by decide) (fun h => absurd (rfl) h) (fun _ => ?_)
  refine z_aload_n (i := 1) C dL_acts_1928 rfl rfl ?_
  refine z_callSX C Y_L_freeze sm_yL_freeze ml_RL_171 (c_T_freeze l hW1.2.1 hI) dL_acts_1929 rfl rfl (fun _ => Nat.le_of_ble_eq_true rfl) ⟨Nat.le_of_ble_eq_true rfl, Nat.le_of_ble_eq_true rfl⟩ (by show _ ≤ 300 ∧ _ ≤ 5000; omega) (z_x1 (kx_1 (lt_f (n := 20) i29 (by decide) hn)) ?_) z_nx
  refine z_iload C dL_acts_1932 rfl ?_
  refine z_icmp_ne (tgt := 1956) C dL_acts_1934 (by decide) (fun h => absurd (rfl) h) (fun _ => ?_)
  refine z_aload_n (i := 0) C dL_acts_1937 rfl rfl ?_
  refine z_aload C dL_acts_1938 rfl ?_
  refine z_iconst (v := nI 5) C dL_acts_1940 (by decide) ?_
  refine z_ialdN C dL_acts_1941 (hW1.2.2.1 4 (by decide)) (show _ < 7 by omega) (by decide) ?_
  refine z_top (w := (nI ((zN (x 29) + 0)))) (g5_1) ?_
  refine z_iload C dL_acts_1942 rfl ?_
  refine z_callSX C Y_L_since sm_yL_since ml_RL_174 (c_L_since l hW1.1 hI) dL_acts_1944 rfl rfl (fun _ => Nat.le_of_ble_eq_true rfl) ⟨Nat.le_of_ble_eq_true rfl, Nat.le_of_ble_eq_true rfl⟩ (by show _ ≤ 300 ∧ _ ≤ 5000; omega) (z_q1 (kx_1 (band0 (inB_out i29 (by decide) (Nat.le_refl _) (by omega)))) ?_) z_nx
  refine z_ldc C dL_acts_1947 kc_RL_94 ?_
  refine z_icmp_ne (tgt := 1956) C dL_acts_1949 (by decide) (fun h => absurd (rfl) h) (fun _ => ?_)
  refine z_iconst (v := nI 1) C dL_acts_1952 (by decide) ?_
  refine z_goto (tgt := 1957) C dL_acts_1953 (by decide) ?_
  refine z_istore C dL_acts_1957 (by decide) ?_
  refine z_iload C dL_acts_1959 rfl ?_
  refine z_if_ge (tgt := 1967) C dL_acts_1961 (by decide) (fun h => absurd h (by decide)) (fun _ => ?_)
  refine z_iload C dL_acts_1964 rfl ?_
  exact z_iret C hr rfl dL_acts_1966 (Nat.le_of_ble_eq_true rfl) (Nat.le_of_ble_eq_true rfl) ⟨_, rfl, rfl, x, a, A1, hW1, hK1⟩
set_option maxRecDepth 100000 in
set_option maxHeartbeats 4000000 in
theorem ac_fr1 (C : zC X p l s m args meth c9 cL_acts 18 RL) (hr : meth.sig.returnType = some .boolean) (hW : LW x a x a A σ) (hT : TI x a A K) (hK : K < 95) (hac : ac < zN (x 1)) (hse : se < zN (x 11)) (hch : ch < zN (x 15)) (hn : zN (x 29) < 20) : AG X p l e s m args below meth c9 σ0 loc0 K 0 0 σ 1874 [(0, aR 0 0), (1, aR 40 0), (2, aR 80 0), (3, aR 80 1), (4, aR 80 2), (5, aR 80 3), (6, aR 80 4), (7, aI (xx)), (8, aI (yy)), (9, aI (nI (kd))), (10, aI (nI (ac))), (11, aI (nI (se))), (12, aI (nI (ch)))] [] := by
  obtain ⟨hI, hJ, ⟨⟨t0, t1, t2, t3, t4, t5, t6⟩, hTa, hTb, hTd, hTq⟩, h0⟩ := id hT
  obtain ⟨i0, i1, i6, i11, i15, i23, i24, i29, iA, iS, iC, iQ, iP⟩ := id hI.1
  have b0 := i0.2
  have b1 := i1.2
  have b6 := i6.2
  have b11 := i11.2
  have b15 := hJ.1.1
  have b23 := hJ.1.2
  have b29 := i29.2
  have g0 : A 4 0 = nI (zN (x 1)) := t0.trans i1.1
  have g1 : A 4 1 = nI (zN (x 11)) := t1.trans i11.1
  have g2 : A 4 2 = nI (zN (x 15)) := t2.trans i15.1
  have g3 : A 4 3 = nI (zN (x 23)) := t3.trans i23.1
  have g4 : A 4 4 = nI (zN (x 6)) := t4.trans i6.1
  have g5 : A 4 5 = nI (zN (x 29)) := t5.trans i29.1
  have g6 : A 4 6 = nI (zN (x 0)) := t6.trans i0.1
  have hK1 := hT.up
  have hxb : ∀ n, n ≤ 100 → n < 2 ^ 31 := fun n h => by omega
  refine z_aload C dL_acts_1874 rfl ?_
  refine z_iconst (v := nI 5) C dL_acts_1876 (by decide) ?_
  refine z_ialdN C dL_acts_1877 (hW.2.2.1 4 (by decide)) (show _ < 7 by omega) (by decide) ?_
  refine z_top (w := (nI (zN (x 29)))) (g5) ?_
  refine z_bipush (v := nI 20) C dL_acts_1878 (by decide) ?_
  refine z_icmp_ge (tgt := 1890) C dL_acts_1880 (by decide) (fun h => absurd h (nI_ge (b := 20) hn (by decide))) (fun _ => ?_)
  refine z_aload C dL_acts_1883 rfl ?_
  refine z_iconst (v := nI 5) C dL_acts_1885 (by decide) ?_
  refine z_ialdN C dL_acts_1886 (hW.2.2.1 4 (by decide)) (show _ < 7 by omega) (by decide) ?_
  refine z_top (w := (nI (zN (x 29)))) (g5) ?_
  refine z_goto (tgt := 1892) C dL_acts_1887 (by decide) ?_
  refine z_istore C dL_acts_1892 (by decide) ?_
  refine z_aload C dL_acts_1894 rfl ?_
  refine z_iconst (v := nI 5) C dL_acts_1896 (by decide) ?_
  refine z_dup2 C (by first | trivial | rfl) (by first | trivial | rfl) dL_acts_1897 ?_
  refine z_ialdN C dL_acts_1898 (hW.2.2.1 4 (by decide)) (show _ < 7 by omega) (by decide) ?_
  refine z_top (w := (nI (zN (x 29)))) (g5) ?_
  refine z_iload C dL_acts_1899 rfl ?_
  refine z_if_ge (tgt := 1908) C dL_acts_1901 (by decide) (fun _ => ?_) (fun h => absurd (nI_pos' (by omega)) h)
  refine z_iconst (v := nI 1) C dL_acts_1908 (by decide) ?_
  refine z_iadd C dL_acts_1909 ?_
  refine z_top (w := (nI ((zN (x 29) + 1)))) (nI_add _ _) ?_
  refine z_iastW (idx := 5) C hW (j := 4) (by decide) dL_acts_1910 (show _ < 7 by omega) (fun σ1 A1 hW1 eA1 => ?_)
  have g0_1 : A1 4 0 = nI (zN (x 1)) := by rw [eA1]; exact g0
  have g1_1 : A1 4 1 = nI (zN (x 11)) := by rw [eA1]; exact g1
  have g2_1 : A1 4 2 = nI (zN (x 15)) := by rw [eA1]; exact g2
  have g3_1 : A1 4 3 = nI (zN (x 23)) := by rw [eA1]; exact g3
  have g4_1 : A1 4 4 = nI (zN (x 6)) := by rw [eA1]; exact g4
  have g5_1 : A1 4 5 = nI ((zN (x 29) + 1)) := by rw [eA1, ua_s]; exact upd_at
  have g6_1 : A1 4 6 = nI (zN (x 0)) := by rw [eA1]; exact g6
  have hseb : se < 2 ^ 31 := by omega
  have h29b : zN (x 29) < 2 ^ 31 := by omega
  refine z_aload_n (i := 0) C dL_acts_1911 rfl rfl ?_
  refine z_iload C dL_acts_1912 rfl ?_
  refine z_callSX C Y_L_forecast sm_yL_forecast ml_RL_130 (c_L_forecast l hW1.1 hI) dL_acts_1914 rfl rfl (fun _ => Nat.le_of_ble_eq_true rfl) ⟨Nat.le_of_ble_eq_true rfl, Nat.le_of_ble_eq_true rfl⟩ (by show _ ≤ 300 ∧ _ ≤ 5000; omega) (z_q0 (w := (forS x a se)) (kq_sel hI.1 hse) (by rw [zN_nI hseb]) ?_) z_nx
  have hT2 := keep_freeze (A' := A1) hT hn (by subst eA1; rfl) (by subst eA1; rfl) (by subst eA1; rfl) (by subst eA1; rfl) (by subst eA1; rfl)
  have hI2 := hT2.1
  have hz29 : zN (upd x 29 (x 29 + 1) 29) = zN (x 29) + 1 := by rw [upd_at]; exact (zN_s i29 (by decide)).2
  obtain ⟨m9, hm9, em9⟩ := hJ.2.2.2.2.1 se
  refine z_istore C dL_acts_1917 (by decide) ?_
  refine z_aload_n (i := 0) C dL_acts_1919 rfl rfl ?_
  refine z_callSX C Y_L_freeze sm_yL_freeze ml_RL_171 (c_L_freeze l hW1.1 hI) dL_acts_1920 rfl rfl (fun _ => Nat.le_of_ble_eq_true rfl) ⟨Nat.le_of_ble_eq_true rfl, Nat.le_of_ble_eq_true rfl⟩ (by show _ ≤ 300 ∧ _ ≤ 5000; omega) (z_w0 (w := (nI (zN (x 29)))) hW1 (goC_0.mpr ⟨lt_t (n := 20) i29 (by decide) hn (by decide), rfl, rfl⟩) (i29.1) (fun σ2 hW2 => ?_)) z_nx
  refine z_iload C dL_acts_1923 rfl ?_
  refine z_icmp_ne (tgt := 1956) C dL_acts_1925 (by decide) (fun h => absurd (rfl) h) (fun _ => ?_)
  refine z_aload_n (i := 1) C dL_acts_1928 rfl rfl ?_
  refine z_callSX C Y_L_freeze sm_yL_freeze ml_RL_171 (c_T_freeze l hW2.2.1 hI) dL_acts_1929 rfl rfl (fun _ => Nat.le_of_ble_eq_true rfl) ⟨Nat.le_of_ble_eq_true rfl, Nat.le_of_ble_eq_true rfl⟩ (by show _ ≤ 300 ∧ _ ≤ 5000; omega) (z_x0 (w := (nI (zN (x 29)))) hW2 (goC_0.mpr ⟨lt_t (n := 20) i29 (by decide) hn (by decide), rfl, rfl⟩) (i29.1) (fun σ3 hW3 => ?_)) z_nx
  refine z_iload C dL_acts_1932 rfl ?_
  refine z_icmp_ne (tgt := 1956) C dL_acts_1934 (by decide) (fun h => absurd (rfl) h) (fun _ => ?_)
  refine z_aload_n (i := 0) C dL_acts_1937 rfl rfl ?_
  refine z_aload C dL_acts_1938 rfl ?_
  refine z_iconst (v := nI 5) C dL_acts_1940 (by decide) ?_
  refine z_ialdN C dL_acts_1941 (hW3.2.2.1 4 (by decide)) (show _ < 7 by omega) (by decide) ?_
  refine z_top (w := (nI ((zN (x 29) + 1)))) (g5_1) ?_
  refine z_iload C dL_acts_1942 rfl ?_
  refine z_callSX C Y_L_since sm_yL_since ml_RL_174 (c_L_since l hW3.1 hI2) dL_acts_1944 rfl rfl (fun _ => Nat.le_of_ble_eq_true rfl) ⟨Nat.le_of_ble_eq_true rfl, Nat.le_of_ble_eq_true rfl⟩ (by show _ ≤ 300 ∧ _ ≤ 5000; omega) (z_q1 (kx_1 (band0 (inB_out hI2.1.2.2.2.2.2.2.2.1 (by decide) (by rw [hz29]; exact Nat.le_refl _) (by omega)))) ?_) z_nx
  refine z_ldc C dL_acts_1947 kc_RL_94 ?_
  refine z_icmp_ne (tgt := 1956) C dL_acts_1949 (by decide) (fun h => absurd (rfl) h) (fun _ => ?_)
  refine z_iconst (v := nI 1) C dL_acts_1952 (by decide) ?_
  refine z_goto (tgt := 1957) C dL_acts_1953 (by decide) ?_
  refine z_istore C dL_acts_1957 (by decide) ?_
  refine z_iload C dL_acts_1959 rfl ?_
  refine z_if_ge (tgt := 1967) C dL_acts_1961 (by decide) (fun _ => ?_) (fun h => absurd (nI_pos' (by omega)) h)
  refine z_aload_n (i := 3) C dL_acts_1967 rfl rfl ?_
  refine z_iconst (v := nI 3) C dL_acts_1968 (by decide) ?_
  refine z_iload C dL_acts_1969 rfl ?_
  refine z_imul C dL_acts_1971 ?_
  refine z_top (w := (nI ((3 * se)))) (pk_mul _ _) ?_
  refine z_iconst (v := nI 2) C dL_acts_1972 (by decide) ?_
  refine z_iadd C dL_acts_1973 ?_
  refine z_top (w := (nI (((3 * se) + 2)))) (nI_add _ _) ?_
  refine z_ialdN C dL_acts_1974 (hW3.2.2.1 1 (by decide)) (show _ < 24 by omega) (by decide) ?_
  refine z_top (w := (a 14 se)) (by rw [eA1]; exact hTb.2 se (by omega)) ?_
  refine z_bipush (v := nI 7) C dL_acts_1975 (by decide) ?_
  refine z_iadd C dL_acts_1977 ?_
  refine z_istore C dL_acts_1978 (by decide) ?_
  refine z_iload C dL_acts_1980 rfl ?_
  refine z_if_eq (tgt := 2059) C dL_acts_1982 (by decide) (fun h => absurd h (by decide)) (fun _ => ?_)
  refine z_aload_n (i := 0) C dL_acts_1985 rfl rfl ?_
  refine z_iload C dL_acts_1986 rfl ?_
  refine z_iload C dL_acts_1988 rfl ?_
  refine z_callSX C Y_L_since sm_yL_since ml_RL_174 (c_L_since l hW3.1 hI2) dL_acts_1990 rfl rfl (fun _ => Nat.le_of_ble_eq_true rfl) ⟨Nat.le_of_ble_eq_true rfl, Nat.le_of_ble_eq_true rfl⟩ (by show _ ≤ 300 ∧ _ ≤ 5000; omega) (z_q0 (w := (0)) (goC_0.mpr ⟨band (inB_nI hI2.1.2.2.2.2.2.2.2.1 (by decide) (by rw [hz29]; omega)) (ksel hI2 hse), rfl, rfl⟩) (by
    rw [zN_nI h29b, zN_nI hseb, forS_fr]
    show forS x a se - frz x a (zN (x 29)) (zN (x 11)) (8 * zN (x 29) + se) = 0
    rw [frz_at hse, Int32.sub_self]) ?_) z_nx
  refine z_if_ne (tgt := 2059) C dL_acts_1993 (by decide) (fun h => absurd (rfl) h) (fun _ => ?_)
  refine z_aload_n (i := 0) C dL_acts_1996 rfl rfl ?_
  refine z_iload C dL_acts_1997 rfl ?_
  refine z_iload C dL_acts_1999 rfl ?_
  refine z_callSX C Y_L_adjust sm_yL_adjust ml_RL_161 (c_L_adjust l hW3.1 hI2) dL_acts_2001 rfl rfl (fun _ => Nat.le_of_ble_eq_true rfl) ⟨Nat.le_of_ble_eq_true rfl, Nat.le_of_ble_eq_true rfl⟩ (by show _ ≤ 300 ∧ _ ≤ 5000; omega) (z_w0 (w := (a 14 se)) hW3 (goC_0.mpr ⟨ksel hI2 hse, by rw [em9]; exact inB_ad7 hm9, rfl⟩) (by rw [zN_nI hseb]; rfl) (fun σ4 hW4 => ?_)) z_nx
  rw [zN_nI hseb] at hW4
  have hI3 : zIv (upd x 29 (x 29 + 1)) (ua (ua a 30 (frz x a (zN (x 29)) (zN (x 11)))) 14 (upd (ua a 30 (frz x a (zN (x 29)) (zN (x 11))) 14) se (a 14 se + nI 7))) := iv_adjust hI2 hse
  refine z_iload C dL_acts_2004 rfl ?_
  refine z_bipush (v := nI 7) C dL_acts_2006 (by decide) ?_
  refine z_isub C dL_acts_2008 ?_
  refine z_top (w := a 14 se) add_sub9 ?_
  refine z_icmp_ne (tgt := 2059) C dL_acts_2009 (by decide) (fun h => absurd (rfl) h) (fun _ => ?_)
  have hfa := show forS (upd x 29 (x 29 + 1)) (ua (ua a 30 (frz x a (zN (x 29)) (zN (x 11)))) 14 (upd (ua a 30 (frz x a (zN (x 29)) (zN (x 11))) 14) se (a 14 se + nI 7))) se = forS x a se + nI 7 from (forS_ad (x := upd x 29 (x 29 + 1)) (a := ua a 30 (frz x a (zN (x 29)) (zN (x 11)))) (v := nI 7) hse).trans (by rw [forS_fr])
  refine z_aload_n (i := 0) C dL_acts_2012 rfl rfl ?_
  refine z_iload C dL_acts_2013 rfl ?_
  refine z_iload C dL_acts_2015 rfl ?_
  refine z_callSX C Y_L_since sm_yL_since ml_RL_174 (c_L_since l hW4.1 hI3) dL_acts_2017 rfl rfl (fun _ => Nat.le_of_ble_eq_true rfl) ⟨Nat.le_of_ble_eq_true rfl, Nat.le_of_ble_eq_true rfl⟩ (by show _ ≤ 300 ∧ _ ≤ 5000; omega) (z_q0 (w := (nI 7)) (goC_0.mpr ⟨band (inB_nI hI3.1.2.2.2.2.2.2.2.1 (by decide) (by rw [hz29]; omega)) (ksel hI3 hse), rfl, rfl⟩) (by
    rw [zN_nI h29b, zN_nI hseb, hfa]
    show forS x a se + nI 7 - frz x a (zN (x 29)) (zN (x 11)) (8 * zN (x 29) + se) = nI 7
    rw [frz_at hse]
    exact add_sub8) ?_) z_nx
  refine z_bipush (v := nI 7) C dL_acts_2020 (by decide) ?_
  refine z_icmp_ne (tgt := 2059) C dL_acts_2022 (by decide) (fun h => absurd (rfl) h) (fun _ => ?_)
  refine z_aload_n (i := 0) C dL_acts_2025 rfl rfl ?_
  refine z_iload C dL_acts_2026 rfl ?_
  refine z_callSX C Y_L_forecast sm_yL_forecast ml_RL_130 (c_L_forecast l hW4.1 hI3) dL_acts_2028 rfl rfl (fun _ => Nat.le_of_ble_eq_true rfl) ⟨Nat.le_of_ble_eq_true rfl, Nat.le_of_ble_eq_true rfl⟩ (by show _ ≤ 300 ∧ _ ≤ 5000; omega) (z_q0 (w := (forS x a se + nI 7)) (kq_sel hI3.1 hse) (by rw [zN_nI hseb]; exact hfa) ?_) z_nx
  refine z_iload C dL_acts_2031 rfl ?_
  refine z_bipush (v := nI 7) C dL_acts_2033 (by decide) ?_
  refine z_iadd C dL_acts_2035 ?_
  refine z_icmp_ne (tgt := 2059) C dL_acts_2036 (by decide) (fun h => absurd (rfl) h) (fun _ => ?_)
  refine z_aload_n (i := 0) C dL_acts_2039 rfl rfl ?_
  refine z_iload C dL_acts_2040 rfl ?_
  refine z_iload C dL_acts_2042 rfl ?_
  refine z_bipush (v := nI 7) C dL_acts_2044 (by decide) ?_
  refine z_isub C dL_acts_2046 ?_
  refine z_top (w := a 14 se) add_sub9 ?_
  refine z_callSX C Y_L_adjust sm_yL_adjust ml_RL_161 (c_L_adjust l hW4.1 hI3) dL_acts_2047 rfl rfl (fun _ => Nat.le_of_ble_eq_true rfl) ⟨Nat.le_of_ble_eq_true rfl, Nat.le_of_ble_eq_true rfl⟩ (by show _ ≤ 300 ∧ _ ≤ 5000; omega) (z_w0 (w := ((a 14 se + nI 7))) hW4 (goC_0.mpr ⟨ksel hI3 hse, by rw [em9]; exact inB_adj (by omega), rfl⟩) (by rw [zN_nI hseb]; exact upd_at) (fun σ5 hW5 => ?_)) z_nx
  rw [zN_nI hseb, ua_back (show ua a 30 (frz x a (zN (x 29)) (zN (x 11))) 14 se = a 14 se from rfl)] at hW5
  refine z_iload C dL_acts_2050 rfl ?_
  refine z_icmp_ne (tgt := 2059) C dL_acts_2052 (by decide) (fun h => absurd (rfl) h) (fun _ => ?_)
  refine z_iconst (v := nI 1) C dL_acts_2055 (by decide) ?_
  refine z_goto (tgt := 2060) C dL_acts_2056 (by decide) ?_
  exact z_iret C hr rfl dL_acts_2060 (Nat.le_of_ble_eq_true rfl) (Nat.le_of_ble_eq_true rfl) ⟨_, rfl, rfl, _, _, A1, hW5, hT2.up⟩
set_option maxRecDepth 100000 in
set_option maxHeartbeats 4000000 in
theorem ac_ps2 (C : zC X p l s m args meth c9 cL_acts 18 RL) (hr : meth.sig.returnType = some .boolean) (hW : LW x a x a A σ) (hT : TI x a A K) (hK : K < 95) (hac : ac < zN (x 1)) (hse : se < zN (x 11)) (hch : ch < zN (x 15)) {d : Nat} (hd1 : 1 ≤ d) (hd2 : d ≤ 1000) : AG X p l e s m args below meth c9 σ0 loc0 K 0 0 σ 2088 [(0, aR 0 0), (1, aR 40 0), (2, aR 80 0), (3, aR 80 1), (4, aR 80 2), (5, aR 80 3), (6, aR 80 4), (7, aI (xx)), (8, aI (yy)), (9, aI (nI (kd))), (10, aI (nI (ac))), (11, aI (nI (se))), (12, aI (nI (ch)))] [aI (nI d)] := by
  obtain ⟨hI, hJ, ⟨⟨t0, t1, t2, t3, t4, t5, t6⟩, hTa, hTb, hTd, hTq⟩, h0⟩ := id hT
  obtain ⟨i0, i1, i6, i11, i15, i23, i24, i29, iA, iS, iC, iQ, iP⟩ := id hI.1
  have b0 := i0.2
  have b1 := i1.2
  have b6 := i6.2
  have b11 := i11.2
  have b15 := hJ.1.1
  have b23 := hJ.1.2
  have b29 := i29.2
  have g0 : A 4 0 = nI (zN (x 1)) := t0.trans i1.1
  have g1 : A 4 1 = nI (zN (x 11)) := t1.trans i11.1
  have g2 : A 4 2 = nI (zN (x 15)) := t2.trans i15.1
  have g3 : A 4 3 = nI (zN (x 23)) := t3.trans i23.1
  have g4 : A 4 4 = nI (zN (x 6)) := t4.trans i6.1
  have g5 : A 4 5 = nI (zN (x 29)) := t5.trans i29.1
  have g6 : A 4 6 = nI (zN (x 0)) := t6.trans i0.1
  have hK1 := hT.up
  have hxb : ∀ n, n ≤ 100 → n < 2 ^ 31 := fun n h => by omega
  have hKb : zN (x 0) ≤ 1000 * K := h0
  refine z_istore C dL_acts_2088 (by decide) ?_
  refine z_aload C dL_acts_2090 rfl ?_
  refine z_bipush (v := nI 6) C dL_acts_2092 (by decide) ?_
  refine z_dup2 C (by first | trivial | rfl) (by first | trivial | rfl) dL_acts_2094 ?_
  refine z_ialdN C dL_acts_2095 (hW.2.2.1 4 (by decide)) (show _ < 7 by omega) (by decide) ?_
  refine z_top (w := (nI (zN (x 0)))) (g6) ?_
  refine z_iload C dL_acts_2096 rfl ?_
  refine z_iadd C dL_acts_2098 ?_
  refine z_top (w := (nI ((zN (x 0) + d)))) (nI_add _ _) ?_
  refine z_iastW (idx := 6) C hW (j := 4) (by decide) dL_acts_2099 (show _ < 7 by omega) (fun σ1 A1 hW1 eA1 => ?_)
  have g0_1 : A1 4 0 = nI (zN (x 1)) := by rw [eA1]; exact g0
  have g1_1 : A1 4 1 = nI (zN (x 11)) := by rw [eA1]; exact g1
  have g2_1 : A1 4 2 = nI (zN (x 15)) := by rw [eA1]; exact g2
  have g3_1 : A1 4 3 = nI (zN (x 23)) := by rw [eA1]; exact g3
  have g4_1 : A1 4 4 = nI (zN (x 6)) := by rw [eA1]; exact g4
  have g5_1 : A1 4 5 = nI (zN (x 29)) := by rw [eA1]; exact g5
  have g6_1 : A1 4 6 = nI ((zN (x 0) + d)) := by rw [eA1, ua_s]; exact upd_at
  have hT2 := keep_pass (A' := A1) hT hd1 hd2 hK (by subst eA1; rfl) (by subst eA1; rfl) (by subst eA1; rfl) (by subst eA1; rfl) (by subst eA1; rfl)
  have hI2 := hT2.1
  have ed : x 0 + nI d = nI (zN (x 0) + d) := by rw [← nI_add, ← i0.1]
  refine z_aload_n (i := 0) C dL_acts_2100 rfl rfl ?_
  refine z_iload C dL_acts_2101 rfl ?_
  refine z_callSX C Y_L_pass sm_yL_pass ml_RL_176 (c_L_pass l hW1.1 hI) dL_acts_2103 rfl rfl (fun _ => Nat.le_of_ble_eq_true rfl) ⟨Nat.le_of_ble_eq_true rfl, Nat.le_of_ble_eq_true rfl⟩ (by show _ ≤ 300 ∧ _ ≤ 5000; omega) (z_w0 (w := (nI (zN (x 0) + d))) hW1 (goC_0.mpr ⟨(inB_nn (a := 1) (b := 1000) hd1 hd2 (by decide)), band (inB_nn (a := 1) (b := 1000) hd1 hd2 (by decide)) (decide_eq_true (by rw [ed]; exact nI_le (b := 100000) (by omega) (by decide))), rfl⟩) (ed) (fun σ2 hW2 => ?_)) z_nx
  refine z_aload C dL_acts_2106 rfl ?_
  refine z_bipush (v := nI 6) C dL_acts_2108 (by decide) ?_
  refine z_ialdN C dL_acts_2110 (hW2.2.2.1 4 (by decide)) (show _ < 7 by omega) (by decide) ?_
  refine z_top (w := (nI ((zN (x 0) + d)))) (g6_1) ?_
  refine z_icmp_ne (tgt := 2154) C dL_acts_2111 (by decide) (fun h => absurd (rfl) h) (fun _ => ?_)
  refine z_aload_n (i := 1) C dL_acts_2114 rfl rfl ?_
  refine z_iload C dL_acts_2115 rfl ?_
  refine z_callSX C Y_L_pass sm_yL_pass ml_RL_176 (c_T_pass l hW2.2.1 hI) dL_acts_2117 rfl rfl (fun _ => Nat.le_of_ble_eq_true rfl) ⟨Nat.le_of_ble_eq_true rfl, Nat.le_of_ble_eq_true rfl⟩ (by show _ ≤ 300 ∧ _ ≤ 5000; omega) (z_x0 (w := (nI (zN (x 0) + d))) hW2 (goC_0.mpr ⟨(inB_nn (a := 1) (b := 1000) hd1 hd2 (by decide)), band (inB_nn (a := 1) (b := 1000) hd1 hd2 (by decide)) (decide_eq_true (by rw [ed]; exact nI_le (b := 100000) (by omega) (by decide))), rfl⟩) (ed) (fun σ3 hW3 => ?_)) z_nx
  refine z_aload C dL_acts_2120 rfl ?_
  refine z_bipush (v := nI 6) C dL_acts_2122 (by decide) ?_
  refine z_ialdN C dL_acts_2124 (hW3.2.2.1 4 (by decide)) (show _ < 7 by omega) (by decide) ?_
  refine z_top (w := (nI ((zN (x 0) + d)))) (g6_1) ?_
  refine z_icmp_ne (tgt := 2154) C dL_acts_2125 (by decide) (fun h => absurd (rfl) h) (fun _ => ?_)
  refine z_aload_n (i := 0) C dL_acts_2128 rfl rfl ?_
  refine z_iconst (v := nI 0) C dL_acts_2129 (by decide) ?_
  refine z_callSX C Y_L_pass sm_yL_pass ml_RL_176 (c_L_pass l hW3.1 hI2) dL_acts_2130 rfl rfl (fun _ => Nat.le_of_ble_eq_true rfl) ⟨Nat.le_of_ble_eq_true rfl, Nat.le_of_ble_eq_true rfl⟩ (by show _ ≤ 300 ∧ _ ≤ 5000; omega) (z_w1 (kx_1 (by decide)) ?_) z_nx
  refine z_ldc C dL_acts_2133 kc_RL_18 ?_
  refine z_icmp_ne (tgt := 2154) C dL_acts_2135 (by decide) (fun h => absurd (rfl) h) (fun _ => ?_)
  refine z_aload_n (i := 0) C dL_acts_2138 rfl rfl ?_
  refine z_sipush (v := nI 1001) C dL_acts_2139 (by decide) ?_
  refine z_callSX C Y_L_pass sm_yL_pass ml_RL_176 (c_L_pass l hW3.1 hI2) dL_acts_2142 rfl rfl (fun _ => Nat.le_of_ble_eq_true rfl) ⟨Nat.le_of_ble_eq_true rfl, Nat.le_of_ble_eq_true rfl⟩ (by show _ ≤ 300 ∧ _ ≤ 5000; omega) (z_w1 (kx_1 (by decide)) ?_) z_nx
  refine z_ldc C dL_acts_2145 kc_RL_18 ?_
  refine z_icmp_ne (tgt := 2154) C dL_acts_2147 (by decide) (fun h => absurd (rfl) h) (fun _ => ?_)
  refine z_iconst (v := nI 1) C dL_acts_2150 (by decide) ?_
  refine z_goto (tgt := 2155) C dL_acts_2151 (by decide) ?_
  exact z_iret C hr rfl dL_acts_2155 (Nat.le_of_ble_eq_true rfl) (Nat.le_of_ble_eq_true rfl) ⟨_, rfl, rfl, _, _, A1, hW3, hT2⟩
set_option maxRecDepth 100000 in
set_option maxHeartbeats 4000000 in
theorem ac_ps (C : zC X p l s m args meth c9 cL_acts 18 RL) (hr : meth.sig.returnType = some .boolean) (hW : LW x a x a A σ) (hT : TI x a A K) (hK : K < 95) (hac : ac < zN (x 1)) (hse : se < zN (x 11)) (hch : ch < zN (x 15)) : AG X p l e s m args below meth c9 σ0 loc0 K 0 0 σ 2061 [(0, aR 0 0), (1, aR 40 0), (2, aR 80 0), (3, aR 80 1), (4, aR 80 2), (5, aR 80 3), (6, aR 80 4), (7, aI (xx)), (8, aI (yy)), (9, aI (nI (kd))), (10, aI (nI (ac))), (11, aI (nI (se))), (12, aI (nI (ch)))] [] := by
  obtain ⟨hI, hJ, ⟨⟨t0, t1, t2, t3, t4, t5, t6⟩, hTa, hTb, hTd, hTq⟩, h0⟩ := id hT
  obtain ⟨i0, i1, i6, i11, i15, i23, i24, i29, iA, iS, iC, iQ, iP⟩ := id hI.1
  have b0 := i0.2
  have b1 := i1.2
  have b6 := i6.2
  have b11 := i11.2
  have b15 := hJ.1.1
  have b23 := hJ.1.2
  have b29 := i29.2
  have g0 : A 4 0 = nI (zN (x 1)) := t0.trans i1.1
  have g1 : A 4 1 = nI (zN (x 11)) := t1.trans i11.1
  have g2 : A 4 2 = nI (zN (x 15)) := t2.trans i15.1
  have g3 : A 4 3 = nI (zN (x 23)) := t3.trans i23.1
  have g4 : A 4 4 = nI (zN (x 6)) := t4.trans i6.1
  have g5 : A 4 5 = nI (zN (x 29)) := t5.trans i29.1
  have g6 : A 4 6 = nI (zN (x 0)) := t6.trans i0.1
  have hK1 := hT.up
  have hxb : ∀ n, n ≤ 100 → n < 2 ^ 31 := fun n h => by omega
  refine z_iconst (v := nI 1) C dL_acts_2061 (by decide) ?_
  refine z_iload C dL_acts_2062 rfl ?_
  refine z_iload C dL_acts_2064 rfl ?_
  refine z_bipush (v := nI 8) C dL_acts_2066 (by decide) ?_
  refine z_ishr C dL_acts_2068 ?_
  refine z_iconst (v := nI 4) C dL_acts_2069 (by decide) ?_
  refine z_callS C Y_L_low sm_yL_low ml_RL_147 (c_L_low l (n := 4) (by omega) (by omega)) dL_acts_2070 rfl rfl (fun _ => Nat.le_of_ble_eq_true rfl) ⟨Nat.le_of_ble_eq_true rfl, Nat.le_of_ble_eq_true rfl⟩ (by show _ ≤ 300 ∧ _ ≤ 5000; omega) (z_p0 (w := (nI (lowN (xx >>> (nI 8 &&& 31)) 4))) (rfl) ?_) z_nx
  refine z_if_ne (tgt := 2082) C dL_acts_2073 (by decide) (fun h2073 => ?_) (fun h2073 => ?_)
  · obtain ⟨d0, ed0⟩ : ∃ d0, lowN yy 20 = d0 := ⟨_, rfl⟩
    have hd0 : d0 < 20 := by rw [← ed0]; exact lowN_lt (by decide)
    refine z_bipush (v := nI 20) C dL_acts_2082 (by decide) ?_
    refine z_callS C Y_L_low sm_yL_low ml_RL_147 (c_L_low l (n := 20) (by omega) (by omega)) dL_acts_2084 rfl rfl (fun _ => Nat.le_of_ble_eq_true rfl) ⟨Nat.le_of_ble_eq_true rfl, Nat.le_of_ble_eq_true rfl⟩ (by show _ ≤ 300 ∧ _ ≤ 5000; omega) (z_p0 (w := (nI (d0))) (congrArg nI ed0) ?_) z_nx
    refine z_iadd C dL_acts_2087 ?_
    refine z_top (w := (nI ((1 + d0)))) (nI_add _ _) ?_
    refine z_sub (L' := [(0, aR 0 0), (1, aR 40 0), (2, aR 80 0), (3, aR 80 1), (4, aR 80 2), (5, aR 80 3), (6, aR 80 4), (7, aI (xx)), (8, aI (yy)), (9, aI (nI (kd))), (10, aI (nI (ac))), (11, aI (nI (se))), (12, aI (nI (ch)))]) (zs1 rfl (zs1 rfl (zs1 rfl (zs1 rfl (zs1 rfl (zs1 rfl (zs1 rfl (zs1 rfl (zs1 rfl (zs1 rfl (zs1 rfl (zs1 rfl (zs1 rfl zs0))))))))))))) ?_
    exact ac_ps2 C hr hW hT hK hac hse hch (by omega) (by omega)
  · obtain ⟨d0, ed0⟩ : ∃ d0, lowN yy 1000 = d0 := ⟨_, rfl⟩
    have hd0 : d0 < 1000 := by rw [← ed0]; exact lowN_lt (by decide)
    refine z_sipush (v := nI 1000) C dL_acts_2076 (by decide) ?_
    refine z_goto (tgt := 2084) C dL_acts_2079 (by decide) ?_
    refine z_callS C Y_L_low sm_yL_low ml_RL_147 (c_L_low l (n := 1000) (by omega) (by omega)) dL_acts_2084 rfl rfl (fun _ => Nat.le_of_ble_eq_true rfl) ⟨Nat.le_of_ble_eq_true rfl, Nat.le_of_ble_eq_true rfl⟩ (by show _ ≤ 300 ∧ _ ≤ 5000; omega) (z_p0 (w := (nI (d0))) (congrArg nI ed0) ?_) z_nx
    refine z_iadd C dL_acts_2087 ?_
    refine z_top (w := (nI ((1 + d0)))) (nI_add _ _) ?_
    refine z_sub (L' := [(0, aR 0 0), (1, aR 40 0), (2, aR 80 0), (3, aR 80 1), (4, aR 80 2), (5, aR 80 3), (6, aR 80 4), (7, aI (xx)), (8, aI (yy)), (9, aI (nI (kd))), (10, aI (nI (ac))), (11, aI (nI (se))), (12, aI (nI (ch)))]) (zs1 rfl (zs1 rfl (zs1 rfl (zs1 rfl (zs1 rfl (zs1 rfl (zs1 rfl (zs1 rfl (zs1 rfl (zs1 rfl (zs1 rfl (zs1 rfl (zs1 rfl zs0))))))))))))) ?_
    exact ac_ps2 C hr hW hT hK hac hse hch (by omega) (by omega)
set_option maxRecDepth 100000 in
set_option maxHeartbeats 4000000 in
theorem ac_d3 (C : zC X p l s m args meth c9 cL_acts 18 RL) (hr : meth.sig.returnType = some .boolean) (hW : LW x a x a A σ) (hT : TI x a A K) (hK : K < 95) (hac : ac < zN (x 1)) (hse : se < zN (x 11)) (h15 : 0 < zN (x 15)) (h2 : 2 ≤ zN (x 11)) : AG X p l e s m args below meth c9 σ0 loc0 K 0 0 σ 550 [(0, aR 0 0), (1, aR 40 0), (2, aR 80 0), (3, aR 80 1), (4, aR 80 2), (5, aR 80 3), (6, aR 80 4), (7, aI (xx)), (8, aI (yy)), (9, aI (nI (kd))), (10, aI (nI (ac))), (11, aI (nI (se)))] [] := by
  obtain ⟨hI, hJ, ⟨⟨t0, t1, t2, t3, t4, t5, t6⟩, hTa, hTb, hTd, hTq⟩, h0⟩ := id hT
  obtain ⟨i0, i1, i6, i11, i15, i23, i24, i29, iA, iS, iC, iQ, iP⟩ := id hI.1
  have b0 := i0.2
  have b1 := i1.2
  have b6 := i6.2
  have b11 := i11.2
  have b15 := hJ.1.1
  have b23 := hJ.1.2
  have b29 := i29.2
  have g0 : A 4 0 = nI (zN (x 1)) := t0.trans i1.1
  have g1 : A 4 1 = nI (zN (x 11)) := t1.trans i11.1
  have g2 : A 4 2 = nI (zN (x 15)) := t2.trans i15.1
  have g3 : A 4 3 = nI (zN (x 23)) := t3.trans i23.1
  have g4 : A 4 4 = nI (zN (x 6)) := t4.trans i6.1
  have g5 : A 4 5 = nI (zN (x 29)) := t5.trans i29.1
  have g6 : A 4 6 = nI (zN (x 0)) := t6.trans i0.1
  have hK1 := hT.up
  have hxb : ∀ n, n ≤ 100 → n < 2 ^ 31 := fun n h => by omega
  obtain ⟨ch, ech⟩ : ∃ ch, lowN (yy >>> (nI 4 &&& 31)) (zN (x 15)) = ch := ⟨_, rfl⟩
  have hch : ch < zN (x 15) := by rw [← ech]; exact lowN_lt h15
  refine z_iload C dL_acts_550 rfl ?_
  refine z_iconst (v := nI 4) C dL_acts_552 (by decide) ?_
  refine z_ishr C dL_acts_553 ?_
  refine z_aload C dL_acts_554 rfl ?_
  refine z_iconst (v := nI 2) C dL_acts_556 (by decide) ?_
  refine z_ialdN C dL_acts_557 (hW.2.2.1 4 (by decide)) (show _ < 7 by omega) (by decide) ?_
  refine z_top (w := (nI (zN (x 15)))) (g2) ?_
  refine z_callS C Y_L_low sm_yL_low ml_RL_147 (c_L_low l (n := zN (x 15)) (by omega) (by omega)) dL_acts_558 rfl rfl (fun _ => Nat.le_of_ble_eq_true rfl) ⟨Nat.le_of_ble_eq_true rfl, Nat.le_of_ble_eq_true rfl⟩ (by show _ ≤ 300 ∧ _ ≤ 5000; omega) (z_p0 (w := (nI (ch))) (congrArg nI ech) ?_) z_nx
  refine z_istore C dL_acts_561 (by decide) ?_
  refine z_iload C dL_acts_563 rfl ?_
  refine z_bipush (v := nI 7) C dL_acts_565 (by decide) ?_
  refine z_icmp_ge (tgt := 873) C dL_acts_567 (by decide) (fun h567 => ?_) (fun h567 => ?_)
  · refine z_iload C dL_acts_873 rfl ?_
    refine z_bipush (v := nI 7) C dL_acts_875 (by decide) ?_
    refine z_icmp_ne (tgt := 989) C dL_acts_877 (by decide) (fun h877 => ?_) (fun h877 => ?_)
    · refine z_iload C dL_acts_989 rfl ?_
      refine z_bipush (v := nI 8) C dL_acts_991 (by decide) ?_
      refine z_icmp_ne (tgt := 1097) C dL_acts_993 (by decide) (fun h993 => ?_) (fun h993 => ?_)
      · refine z_iload C dL_acts_1097 rfl ?_
        refine z_bipush (v := nI 13) C dL_acts_1099 (by decide) ?_
        refine z_icmp_ge (tgt := 1275) C dL_acts_1101 (by decide) (fun h1101 => ?_) (fun h1101 => ?_)
        · refine z_iload C dL_acts_1275 rfl ?_
          refine z_bipush (v := nI 19) C dL_acts_1277 (by decide) ?_
          refine z_icmp_ge (tgt := 1354) C dL_acts_1279 (by decide) (fun h1279 => ?_) (fun h1279 => ?_)
          · refine z_iload C dL_acts_1354 rfl ?_
            refine z_bipush (v := nI 23) C dL_acts_1356 (by decide) ?_
            refine z_icmp_ge (tgt := 1606) C dL_acts_1358 (by decide) (fun h1358 => ?_) (fun h1358 => ?_)
            · refine z_iload C dL_acts_1606 rfl ?_
              refine z_bipush (v := nI 26) C dL_acts_1608 (by decide) ?_
              refine z_icmp_ge (tgt := 1867) C dL_acts_1610 (by decide) (fun h1610 => ?_) (fun h1610 => ?_)
              · refine z_iload C dL_acts_1867 rfl ?_
                refine z_bipush (v := nI 26) C dL_acts_1869 (by decide) ?_
                refine z_icmp_ne (tgt := 2061) C dL_acts_1871 (by decide) (fun h1871 => ?_) (fun h1871 => ?_)
                · refine z_sub (L' := [(0, aR 0 0), (1, aR 40 0), (2, aR 80 0), (3, aR 80 1), (4, aR 80 2), (5, aR 80 3), (6, aR 80 4), (7, aI (xx)), (8, aI (yy)), (9, aI (nI (kd))), (10, aI (nI (ac))), (11, aI (nI (se))), (12, aI (nI (ch)))]) (zs1 rfl (zs1 rfl (zs1 rfl (zs1 rfl (zs1 rfl (zs1 rfl (zs1 rfl (zs1 rfl (zs1 rfl (zs1 rfl (zs1 rfl (zs1 rfl (zs1 rfl zs0))))))))))))) ?_
                  exact ac_ps C hr hW hT hK hac hse hch
              
                · refine z_sub (L' := [(0, aR 0 0), (1, aR 40 0), (2, aR 80 0), (3, aR 80 1), (4, aR 80 2), (5, aR 80 3), (6, aR 80 4), (7, aI (xx)), (8, aI (yy)), (9, aI (nI (kd))), (10, aI (nI (ac))), (11, aI (nI (se))), (12, aI (nI (ch)))]) (zs1 rfl (zs1 rfl (zs1 rfl (zs1 rfl (zs1 rfl (zs1 rfl (zs1 rfl (zs1 rfl (zs1 rfl (zs1 rfl (zs1 rfl (zs1 rfl (zs1 rfl zs0))))))))))))) ?_
                  rcases Nat.lt_or_ge (zN (x 29)) 20 with hn | hn
                  · exact ac_fr1 C hr hW hT hK hac hse hch hn
                
                  · exact ac_fr0 C hr hW hT hK hac hse hch hn
            
              · refine z_aload C dL_acts_1613 rfl ?_
                refine z_iconst (v := nI 3) C dL_acts_1615 (by decide) ?_
                refine z_ialdN C dL_acts_1616 (hW.2.2.1 4 (by decide)) (show _ < 7 by omega) (by decide) ?_
                refine z_top (w := (nI (zN (x 23)))) (g3) ?_
                refine z_if_le (tgt := 1867) C dL_acts_1617 (by decide) (fun h1617 => ?_) (fun h1617 => ?_)
                · refine z_iload C dL_acts_1867 rfl ?_
                  refine z_bipush (v := nI 26) C dL_acts_1869 (by decide) ?_
                  refine z_icmp_ne (tgt := 2061) C dL_acts_1871 (by decide) (fun h1871 => ?_) (fun h1871 => ?_)
                  · refine z_sub (L' := [(0, aR 0 0), (1, aR 40 0), (2, aR 80 0), (3, aR 80 1), (4, aR 80 2), (5, aR 80 3), (6, aR 80 4), (7, aI (xx)), (8, aI (yy)), (9, aI (nI (kd))), (10, aI (nI (ac))), (11, aI (nI (se))), (12, aI (nI (ch)))]) (zs1 rfl (zs1 rfl (zs1 rfl (zs1 rfl (zs1 rfl (zs1 rfl (zs1 rfl (zs1 rfl (zs1 rfl (zs1 rfl (zs1 rfl (zs1 rfl (zs1 rfl zs0))))))))))))) ?_
                    exact ac_ps C hr hW hT hK hac hse hch
                
                  · refine z_sub (L' := [(0, aR 0 0), (1, aR 40 0), (2, aR 80 0), (3, aR 80 1), (4, aR 80 2), (5, aR 80 3), (6, aR 80 4), (7, aI (xx)), (8, aI (yy)), (9, aI (nI (kd))), (10, aI (nI (ac))), (11, aI (nI (se))), (12, aI (nI (ch)))]) (zs1 rfl (zs1 rfl (zs1 rfl (zs1 rfl (zs1 rfl (zs1 rfl (zs1 rfl (zs1 rfl (zs1 rfl (zs1 rfl (zs1 rfl (zs1 rfl (zs1 rfl zs0))))))))))))) ?_
                    rcases Nat.lt_or_ge (zN (x 29)) 20 with hn | hn
                    · exact ac_fr1 C hr hW hT hK hac hse hch hn
                  
                    · exact ac_fr0 C hr hW hT hK hac hse hch hn
              
                · refine z_sub (L' := [(0, aR 0 0), (1, aR 40 0), (2, aR 80 0), (3, aR 80 1), (4, aR 80 2), (5, aR 80 3), (6, aR 80 4), (7, aI (xx)), (8, aI (yy)), (9, aI (nI (kd))), (10, aI (nI (ac))), (11, aI (nI (se))), (12, aI (nI (ch)))]) (zs1 rfl (zs1 rfl (zs1 rfl (zs1 rfl (zs1 rfl (zs1 rfl (zs1 rfl (zs1 rfl (zs1 rfl (zs1 rfl (zs1 rfl (zs1 rfl (zs1 rfl zs0))))))))))))) ?_
                  exact ac_app C hr hW hT hK hac hse hch (by
                    rcases Nat.eq_zero_or_pos (zN (x 23)) with z | z
                    · exact absurd (by rw [z]; decide) h1617
                    · exact z)
          
            · refine z_sub (L' := [(0, aR 0 0), (1, aR 40 0), (2, aR 80 0), (3, aR 80 1), (4, aR 80 2), (5, aR 80 3), (6, aR 80 4), (7, aI (xx)), (8, aI (yy)), (9, aI (nI (kd))), (10, aI (nI (ac))), (11, aI (nI (se))), (12, aI (nI (ch)))]) (zs1 rfl (zs1 rfl (zs1 rfl (zs1 rfl (zs1 rfl (zs1 rfl (zs1 rfl (zs1 rfl (zs1 rfl (zs1 rfl (zs1 rfl (zs1 rfl (zs1 rfl zs0))))))))))))) ?_
              exact ac_q C hr hW hT hK hac hse hch
        
          · refine z_sub (L' := [(0, aR 0 0), (1, aR 40 0), (2, aR 80 0), (3, aR 80 1), (4, aR 80 2), (5, aR 80 3), (6, aR 80 4), (7, aI (xx)), (8, aI (yy)), (9, aI (nI (kd))), (10, aI (nI (ac))), (11, aI (nI (se))), (12, aI (nI (ch)))]) (zs1 rfl (zs1 rfl (zs1 rfl (zs1 rfl (zs1 rfl (zs1 rfl (zs1 rfl (zs1 rfl (zs1 rfl (zs1 rfl (zs1 rfl (zs1 rfl (zs1 rfl zs0))))))))))))) ?_
            exact ac_mv C hr hW hT hK hac hse hch h2
      
        · refine z_sub (L' := [(0, aR 0 0), (1, aR 40 0), (2, aR 80 0), (3, aR 80 1), (4, aR 80 2), (5, aR 80 3), (6, aR 80 4), (7, aI (xx)), (8, aI (yy)), (9, aI (nI (kd))), (10, aI (nI (ac))), (11, aI (nI (se))), (12, aI (nI (ch)))]) (zs1 rfl (zs1 rfl (zs1 rfl (zs1 rfl (zs1 rfl (zs1 rfl (zs1 rfl (zs1 rfl (zs1 rfl (zs1 rfl (zs1 rfl (zs1 rfl (zs1 rfl zs0))))))))))))) ?_
          exact ac_sh C hr hW hT hK hac hse hch
    
      · refine z_sub (L' := [(0, aR 0 0), (1, aR 40 0), (2, aR 80 0), (3, aR 80 1), (4, aR 80 2), (5, aR 80 3), (6, aR 80 4), (7, aI (xx)), (8, aI (yy)), (9, aI (nI (kd))), (10, aI (nI (ac))), (11, aI (nI (se))), (12, aI (nI (ch)))]) (zs1 rfl (zs1 rfl (zs1 rfl (zs1 rfl (zs1 rfl (zs1 rfl (zs1 rfl (zs1 rfl (zs1 rfl (zs1 rfl (zs1 rfl (zs1 rfl (zs1 rfl zs0))))))))))))) ?_
        exact ac_adj C hr hW hT hK hac hse hch
  
    · refine z_sub (L' := [(0, aR 0 0), (1, aR 40 0), (2, aR 80 0), (3, aR 80 1), (4, aR 80 2), (5, aR 80 3), (6, aR 80 4), (7, aI (xx)), (8, aI (yy)), (9, aI (nI (kd))), (10, aI (nI (ac))), (11, aI (nI (se))), (12, aI (nI (ch)))]) (zs1 rfl (zs1 rfl (zs1 rfl (zs1 rfl (zs1 rfl (zs1 rfl (zs1 rfl (zs1 rfl (zs1 rfl (zs1 rfl (zs1 rfl (zs1 rfl (zs1 rfl zs0))))))))))))) ?_
      exact ac_exc C hr hW hT hK hac hse hch
  · refine z_sub (L' := [(0, aR 0 0), (1, aR 40 0), (2, aR 80 0), (3, aR 80 1), (4, aR 80 2), (5, aR 80 3), (6, aR 80 4), (7, aI (xx)), (8, aI (yy)), (9, aI (nI (kd))), (10, aI (nI (ac))), (11, aI (nI (se))), (12, aI (nI (ch)))]) (zs1 rfl (zs1 rfl (zs1 rfl (zs1 rfl (zs1 rfl (zs1 rfl (zs1 rfl (zs1 rfl (zs1 rfl (zs1 rfl (zs1 rfl (zs1 rfl (zs1 rfl zs0))))))))))))) ?_
    exact ac_rule C hr hW hT hK hac hse hch
set_option maxRecDepth 100000 in
set_option maxHeartbeats 4000000 in
theorem ac_d2 (C : zC X p l s m args meth c9 cL_acts 18 RL) (hr : meth.sig.returnType = some .boolean) (hW : LW x a x a A σ) (hT : TI x a A K) (hK : K < 95) (h1 : 0 < zN (x 1)) (h2 : 2 ≤ zN (x 11)) : AG X p l e s m args below meth c9 σ0 loc0 K 0 0 σ 331 [(0, aR 0 0), (1, aR 40 0), (2, aR 80 0), (3, aR 80 1), (4, aR 80 2), (5, aR 80 3), (6, aR 80 4), (7, aI (xx)), (8, aI (yy)), (9, aI (nI (kd)))] [] := by
  obtain ⟨hI, hJ, ⟨⟨t0, t1, t2, t3, t4, t5, t6⟩, hTa, hTb, hTd, hTq⟩, h0⟩ := id hT
  obtain ⟨i0, i1, i6, i11, i15, i23, i24, i29, iA, iS, iC, iQ, iP⟩ := id hI.1
  have b0 := i0.2
  have b1 := i1.2
  have b6 := i6.2
  have b11 := i11.2
  have b15 := hJ.1.1
  have b23 := hJ.1.2
  have b29 := i29.2
  have g0 : A 4 0 = nI (zN (x 1)) := t0.trans i1.1
  have g1 : A 4 1 = nI (zN (x 11)) := t1.trans i11.1
  have g2 : A 4 2 = nI (zN (x 15)) := t2.trans i15.1
  have g3 : A 4 3 = nI (zN (x 23)) := t3.trans i23.1
  have g4 : A 4 4 = nI (zN (x 6)) := t4.trans i6.1
  have g5 : A 4 5 = nI (zN (x 29)) := t5.trans i29.1
  have g6 : A 4 6 = nI (zN (x 0)) := t6.trans i0.1
  have hK1 := hT.up
  have hxb : ∀ n, n ≤ 100 → n < 2 ^ 31 := fun n h => by omega
  obtain ⟨ac, eac⟩ : ∃ ac, lowN yy (zN (x 1)) = ac := ⟨_, rfl⟩
  have hac : ac < zN (x 1) := by rw [← eac]; exact lowN_lt h1
  obtain ⟨se, ese⟩ : ∃ se, lowN (xx >>> (nI 5 &&& 31)) (zN (x 11)) = se := ⟨_, rfl⟩
  have hse : se < zN (x 11) := by rw [← ese]; exact lowN_lt (by omega)
  refine z_iload C dL_acts_331 rfl ?_
  refine z_aload C dL_acts_333 rfl ?_
  refine z_iconst (v := nI 0) C dL_acts_335 (by decide) ?_
  refine z_ialdN C dL_acts_336 (hW.2.2.1 4 (by decide)) (show _ < 7 by omega) (by decide) ?_
  refine z_top (w := (nI (zN (x 1)))) (g0) ?_
  refine z_callS C Y_L_low sm_yL_low ml_RL_147 (c_L_low l (n := zN (x 1)) (by omega) (by omega)) dL_acts_337 rfl rfl (fun _ => Nat.le_of_ble_eq_true rfl) ⟨Nat.le_of_ble_eq_true rfl, Nat.le_of_ble_eq_true rfl⟩ (by show _ ≤ 300 ∧ _ ≤ 5000; omega) (z_p0 (w := (nI (ac))) (congrArg nI eac) ?_) z_nx
  refine z_istore C dL_acts_340 (by decide) ?_
  refine z_iload C dL_acts_342 rfl ?_
  refine z_iconst (v := nI 5) C dL_acts_344 (by decide) ?_
  refine z_ishr C dL_acts_345 ?_
  refine z_aload C dL_acts_346 rfl ?_
  refine z_iconst (v := nI 1) C dL_acts_348 (by decide) ?_
  refine z_ialdN C dL_acts_349 (hW.2.2.1 4 (by decide)) (show _ < 7 by omega) (by decide) ?_
  refine z_top (w := (nI (zN (x 11)))) (g1) ?_
  refine z_callS C Y_L_low sm_yL_low ml_RL_147 (c_L_low l (n := zN (x 11)) (by omega) (by omega)) dL_acts_350 rfl rfl (fun _ => Nat.le_of_ble_eq_true rfl) ⟨Nat.le_of_ble_eq_true rfl, Nat.le_of_ble_eq_true rfl⟩ (by show _ ≤ 300 ∧ _ ≤ 5000; omega) (z_p0 (w := (nI (se))) (congrArg nI ese) ?_) z_nx
  refine z_istore C dL_acts_353 (by decide) ?_
  refine z_aload C dL_acts_355 rfl ?_
  refine z_iconst (v := nI 2) C dL_acts_357 (by decide) ?_
  refine z_ialdN C dL_acts_358 (hW.2.2.1 4 (by decide)) (show _ < 7 by omega) (by decide) ?_
  refine z_top (w := (nI (zN (x 15)))) (g2) ?_
  refine z_if_eq (tgt := 377) C dL_acts_359 (by decide) (fun h359 => ?_) (fun h359 => ?_)
  · refine z_sub (L' := [(0, aR 0 0), (1, aR 40 0), (2, aR 80 0), (3, aR 80 1), (4, aR 80 2), (5, aR 80 3), (6, aR 80 4), (7, aI (xx)), (8, aI (yy)), (9, aI (nI (kd))), (10, aI (nI (ac))), (11, aI (nI (se)))]) (zs1 rfl (zs1 rfl (zs1 rfl (zs1 rfl (zs1 rfl (zs1 rfl (zs1 rfl (zs1 rfl (zs1 rfl (zs1 rfl (zs1 rfl (zs1 rfl zs0)))))))))))) ?_
    exact ac_cha C hr hW hT hK hac hse (by
      rcases Nat.eq_zero_or_pos (zN (x 15)) with z | z
      · omega
      · exact absurd h359 (nI_ne0 z (by omega)))
  · have h15 : 0 < zN (x 15) := by
      rcases Nat.eq_zero_or_pos (zN (x 15)) with z | z
      · exact absurd (by rw [z]; rfl) h359
      · exact z
    refine z_iload C dL_acts_362 rfl ?_
    refine z_iconst (v := nI 4) C dL_acts_364 (by decide) ?_
    refine z_icmp_ge (tgt := 550) C dL_acts_365 (by decide) (fun h365 => ?_) (fun h365 => ?_)
    · refine z_sub (L' := [(0, aR 0 0), (1, aR 40 0), (2, aR 80 0), (3, aR 80 1), (4, aR 80 2), (5, aR 80 3), (6, aR 80 4), (7, aI (xx)), (8, aI (yy)), (9, aI (nI (kd))), (10, aI (nI (ac))), (11, aI (nI (se)))]) (zs1 rfl (zs1 rfl (zs1 rfl (zs1 rfl (zs1 rfl (zs1 rfl (zs1 rfl (zs1 rfl (zs1 rfl (zs1 rfl (zs1 rfl (zs1 rfl zs0)))))))))))) ?_
      exact ac_d3 C hr hW hT hK hac hse h15 h2
  
    · refine z_aload C dL_acts_368 rfl ?_
      refine z_iconst (v := nI 2) C dL_acts_370 (by decide) ?_
      refine z_ialdN C dL_acts_371 (hW.2.2.1 4 (by decide)) (show _ < 7 by omega) (by decide) ?_
      refine z_top (w := (nI (zN (x 15)))) (g2) ?_
      refine z_bipush (v := nI 16) C dL_acts_372 (by decide) ?_
      refine z_icmp_ge (tgt := 550) C dL_acts_374 (by decide) (fun h374 => ?_) (fun h374 => ?_)
      · refine z_sub (L' := [(0, aR 0 0), (1, aR 40 0), (2, aR 80 0), (3, aR 80 1), (4, aR 80 2), (5, aR 80 3), (6, aR 80 4), (7, aI (xx)), (8, aI (yy)), (9, aI (nI (kd))), (10, aI (nI (ac))), (11, aI (nI (se)))]) (zs1 rfl (zs1 rfl (zs1 rfl (zs1 rfl (zs1 rfl (zs1 rfl (zs1 rfl (zs1 rfl (zs1 rfl (zs1 rfl (zs1 rfl (zs1 rfl zs0)))))))))))) ?_
        exact ac_d3 C hr hW hT hK hac hse h15 h2
    
      · refine z_sub (L' := [(0, aR 0 0), (1, aR 40 0), (2, aR 80 0), (3, aR 80 1), (4, aR 80 2), (5, aR 80 3), (6, aR 80 4), (7, aI (xx)), (8, aI (yy)), (9, aI (nI (kd))), (10, aI (nI (ac))), (11, aI (nI (se)))]) (zs1 rfl (zs1 rfl (zs1 rfl (zs1 rfl (zs1 rfl (zs1 rfl (zs1 rfl (zs1 rfl (zs1 rfl (zs1 rfl (zs1 rfl (zs1 rfl zs0)))))))))))) ?_
        exact ac_cha C hr hW hT hK hac hse (by
          rcases Nat.lt_or_ge (zN (x 15)) 16 with z | z
          · exact z
          · exact absurd (nI_le (a := 16) z (by omega)) h374)
set_option maxRecDepth 100000 in
set_option maxHeartbeats 4000000 in
theorem ac_d1 (C : zC X p l s m args meth c9 cL_acts 18 RL) (hr : meth.sig.returnType = some .boolean) (hW : LW x a x a A σ) (hT : TI x a A K) (hK : K < 95) (h1 : 0 < zN (x 1)) : AG X p l e s m args below meth c9 σ0 loc0 K 0 0 σ 184 [(0, aR 0 0), (1, aR 40 0), (2, aR 80 0), (3, aR 80 1), (4, aR 80 2), (5, aR 80 3), (6, aR 80 4), (7, aI (xx)), (8, aI (yy)), (9, aI (nI (kd)))] [] := by
  obtain ⟨hI, hJ, ⟨⟨t0, t1, t2, t3, t4, t5, t6⟩, hTa, hTb, hTd, hTq⟩, h0⟩ := id hT
  obtain ⟨i0, i1, i6, i11, i15, i23, i24, i29, iA, iS, iC, iQ, iP⟩ := id hI.1
  have b0 := i0.2
  have b1 := i1.2
  have b6 := i6.2
  have b11 := i11.2
  have b15 := hJ.1.1
  have b23 := hJ.1.2
  have b29 := i29.2
  have g0 : A 4 0 = nI (zN (x 1)) := t0.trans i1.1
  have g1 : A 4 1 = nI (zN (x 11)) := t1.trans i11.1
  have g2 : A 4 2 = nI (zN (x 15)) := t2.trans i15.1
  have g3 : A 4 3 = nI (zN (x 23)) := t3.trans i23.1
  have g4 : A 4 4 = nI (zN (x 6)) := t4.trans i6.1
  have g5 : A 4 5 = nI (zN (x 29)) := t5.trans i29.1
  have g6 : A 4 6 = nI (zN (x 0)) := t6.trans i0.1
  have hK1 := hT.up
  have hxb : ∀ n, n ≤ 100 → n < 2 ^ 31 := fun n h => by omega
  refine z_aload C dL_acts_184 rfl ?_
  refine z_iconst (v := nI 1) C dL_acts_186 (by decide) ?_
  refine z_ialdN C dL_acts_187 (hW.2.2.1 4 (by decide)) (show _ < 7 by omega) (by decide) ?_
  refine z_top (w := (nI (zN (x 11)))) (g1) ?_
  refine z_iconst (v := nI 2) C dL_acts_188 (by decide) ?_
  refine z_icmp_lt (tgt := 198) C dL_acts_189 (by decide) (fun h189 => ?_) (fun h189 => ?_)
  · refine z_sub (L' := [(0, aR 0 0), (1, aR 40 0), (2, aR 80 0), (3, aR 80 1), (4, aR 80 2), (5, aR 80 3), (6, aR 80 4), (7, aI (xx)), (8, aI (yy)), (9, aI (nI (kd)))]) (zs1 rfl (zs1 rfl (zs1 rfl (zs1 rfl (zs1 rfl (zs1 rfl (zs1 rfl (zs1 rfl (zs1 rfl (zs1 rfl zs0)))))))))) ?_
    exact ac_sel C hr hW hT hK
  · have h2 : 2 ≤ zN (x 11) := by
      rcases Nat.lt_or_ge (zN (x 11)) 2 with z | z
      · exact absurd (nI_lt (b := 2) z (by decide)) h189
      · exact z
    refine z_iload C dL_acts_192 rfl ?_
    refine z_iconst (v := nI 1) C dL_acts_194 (by decide) ?_
    refine z_icmp_ne (tgt := 331) C dL_acts_195 (by decide) (fun h195 => ?_) (fun h195 => ?_)
    · refine z_sub (L' := [(0, aR 0 0), (1, aR 40 0), (2, aR 80 0), (3, aR 80 1), (4, aR 80 2), (5, aR 80 3), (6, aR 80 4), (7, aI (xx)), (8, aI (yy)), (9, aI (nI (kd)))]) (zs1 rfl (zs1 rfl (zs1 rfl (zs1 rfl (zs1 rfl (zs1 rfl (zs1 rfl (zs1 rfl (zs1 rfl (zs1 rfl zs0)))))))))) ?_
      exact ac_d2 C hr hW hT hK h1 h2
  
    · refine z_sub (L' := [(0, aR 0 0), (1, aR 40 0), (2, aR 80 0), (3, aR 80 1), (4, aR 80 2), (5, aR 80 3), (6, aR 80 4), (7, aI (xx)), (8, aI (yy)), (9, aI (nI (kd)))]) (zs1 rfl (zs1 rfl (zs1 rfl (zs1 rfl (zs1 rfl (zs1 rfl (zs1 rfl (zs1 rfl (zs1 rfl (zs1 rfl zs0)))))))))) ?_
      exact ac_sel C hr hW hT hK
end AC5
set_option maxRecDepth 100000 in
set_option maxHeartbeats 4000000 in
theorem c_L_acts {X : zX} (l : Launch) {x : Nat → Int32} {a A : Nat → Nat → Int32} {σ : zHp} {K : Nat} {xx yy : Int32} (hW : LW x a x a A σ) (hT : TI x a A K) (hK : K < 95) : zM X l yL_acts cL_acts 18 (some .boolean) 11 300 5000 [aR 0 0, aR 40 0, aR 80 0, aR 80 1, aR 80 2, aR 80 3, aR 80 4, aI xx, aI yy] σ (zPi (fun r σ1 => r = 1 ∧ AcQ K σ1)) zNx := by
  refine zM.of (by decide +kernel) (Nat.le_of_ble_eq_true rfl) (by simp [zcat, Value.category]) ?_
  intro p e s m args below meth c9 loc0 C hr hnm hXT
  obtain ⟨hI, hJ, ⟨⟨t0, t1, t2, t3, t4, t5, t6⟩, hTa, hTb, hTd, hTq⟩, h0⟩ := id hT
  obtain ⟨i0, i1, i6, i11, i15, i23, i24, i29, iA, iS, iC, iQ, iP⟩ := id hI.1
  have b0 := i0.2
  have b1 := i1.2
  have b6 := i6.2
  have b11 := i11.2
  have b15 := hJ.1.1
  have b23 := hJ.1.2
  have b29 := i29.2
  have g0 : A 4 0 = nI (zN (x 1)) := t0.trans i1.1
  have g1 : A 4 1 = nI (zN (x 11)) := t1.trans i11.1
  have g2 : A 4 2 = nI (zN (x 15)) := t2.trans i15.1
  have g3 : A 4 3 = nI (zN (x 23)) := t3.trans i23.1
  have g4 : A 4 4 = nI (zN (x 6)) := t4.trans i6.1
  have g5 : A 4 5 = nI (zN (x 29)) := t5.trans i29.1
  have g6 : A 4 6 = nI (zN (x 0)) := t6.trans i0.1
  have hK1 := hT.up
  have hxb : ∀ n, n ≤ 100 → n < 2 ^ 31 := fun n h => by omega
  obtain ⟨kd, ekd⟩ : ∃ kd, lowN xx 30 = kd := ⟨_, rfl⟩
  refine z_iload C dL_acts_0 rfl ?_
  refine z_bipush (v := nI 30) C dL_acts_2 (by decide) ?_
  refine z_callS C Y_L_low sm_yL_low ml_RL_147 (c_L_low l (n := 30) (by omega) (by omega)) dL_acts_4 rfl rfl (fun _ => Nat.le_of_ble_eq_true rfl) ⟨Nat.le_of_ble_eq_true rfl, Nat.le_of_ble_eq_true rfl⟩ (by show _ ≤ 300 ∧ _ ≤ 5000; omega) (z_p0 (w := (nI (kd))) (congrArg nI ekd) ?_) z_nx
  refine z_istore C dL_acts_7 (by decide) ?_
  refine z_aload C dL_acts_9 rfl ?_
  refine z_iconst (v := nI 0) C dL_acts_11 (by decide) ?_
  refine z_ialdN C dL_acts_12 (hW.2.2.1 4 (by decide)) (show _ < 7 by omega) (by decide) ?_
  refine z_top (w := (nI (zN (x 1)))) (g0) ?_
  refine z_if_eq (tgt := 21) C dL_acts_13 (by decide) (fun h13 => ?_) (fun h13 => ?_)
  · refine z_sub (L' := [(0, aR 0 0), (1, aR 40 0), (2, aR 80 0), (3, aR 80 1), (4, aR 80 2), (5, aR 80 3), (6, aR 80 4), (7, aI (xx)), (8, aI (yy)), (9, aI (nI (kd)))]) (zs1 rfl (zs1 rfl (zs1 rfl (zs1 rfl (zs1 rfl (zs1 rfl (zs1 rfl (zs1 rfl (zs1 rfl (zs1 rfl zs0)))))))))) ?_
    exact ac_acc C hr hW hT hK
  · have h1 : 0 < zN (x 1) := by
      rcases Nat.eq_zero_or_pos (zN (x 1)) with z | z
      · exact absurd (by rw [z]; rfl) h13
      · exact z
    refine z_iload C dL_acts_16 rfl ?_
    refine z_if_ne (tgt := 184) C dL_acts_18 (by decide) (fun h18 => ?_) (fun h18 => ?_)
    · refine z_sub (L' := [(0, aR 0 0), (1, aR 40 0), (2, aR 80 0), (3, aR 80 1), (4, aR 80 2), (5, aR 80 3), (6, aR 80 4), (7, aI (xx)), (8, aI (yy)), (9, aI (nI (kd)))]) (zs1 rfl (zs1 rfl (zs1 rfl (zs1 rfl (zs1 rfl (zs1 rfl (zs1 rfl (zs1 rfl (zs1 rfl (zs1 rfl zs0)))))))))) ?_
      exact ac_d1 C hr hW hT hK h1
  
    · refine z_sub (L' := [(0, aR 0 0), (1, aR 40 0), (2, aR 80 0), (3, aR 80 1), (4, aR 80 2), (5, aR 80 3), (6, aR 80 4), (7, aI (xx)), (8, aI (yy)), (9, aI (nI (kd)))]) (zs1 rfl (zs1 rfl (zs1 rfl (zs1 rfl (zs1 rfl (zs1 rfl (zs1 rfl (zs1 rfl (zs1 rfl (zs1 rfl zs0)))))))))) ?_
      exact ac_acc C hr hW hT hK
