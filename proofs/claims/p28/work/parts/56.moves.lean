/-! the law's method moves -/
def comN (st nx : Nat) (q : Bool) : Bool := decide (st < 4) && ((decide (nx < st) || (decide (nx = 5) || decide (nx = st + 1))) && (! decide (st = 2) || (! decide (nx = 3) || q)))
theorem comB_N {x : Nat → Int32} {a : Nat → Nat → Int32} {c nx : Nat} (h5 : stN a c ≤ 5) (es : a 18 c = nI (stN a c)) (hn : nx ≤ 5) : comB x a c (nI nx) = comN (stN a c) nx (! decide (cnt x a (nI c) = -1)) := by
  unfold comB opnB comN
  rw [es, nI_1]
  rw [show decide (nI (stN a c) < (4 : Int32)) = decide (stN a c < 4) from decide_eq_decide.mpr (nI_ltI (b := 4) (by omega) (by decide))]
  rw [show decide (nI nx < nI (stN a c)) = decide (nx < stN a c) from decide_eq_decide.mpr (nI_ltI (by omega) (by omega))]
  rw [show decide (nI nx = (5 : Int32)) = decide (nx = 5) from decide_eq_decide.mpr (nI_eq (b := 5) (by omega) (by decide))]
  rw [show decide (nI nx = nI (stN a c + 1)) = decide (nx = stN a c + 1) from decide_eq_decide.mpr (nI_eq (by omega) (by omega))]
  rw [show decide (nI (stN a c) = (2 : Int32)) = decide (stN a c = 2) from decide_eq_decide.mpr (nI_eq (b := 2) (by omega) (by decide))]
  rw [show decide (nI nx = (3 : Int32)) = decide (nx = 3) from decide_eq_decide.mpr (nI_eq (b := 3) (by omega) (by decide))]
theorem kcha {x : Nat → Int32} {a : Nat → Nat → Int32} (hI : zIv x a) {c : Nat} (hc : c < zN (x 15)) : isCha x (nI c) = true := inB_nI hI.1.2.2.2.2.1 (by decide) hc
theorem ksel {x : Nat → Int32} {a : Nat → Nat → Int32} (hI : zIv x a) {c : Nat} (hc : c < zN (x 11)) : isSel x (nI c) = true := inB_nI hI.1.2.2.2.1 (by decide) hc
theorem kacc {x : Nat → Int32} {a : Nat → Nat → Int32} (hI : zIv x a) {c : Nat} (hc : c < zN (x 1)) : isAcc x (nI c) = true := inB_nI hI.1.2.1 (by decide) hc
theorem kcha_n {x : Nat → Int32} {a : Nat → Nat → Int32} (hI : zIv x a) : isCha x (nI (zN (x 15))) = false := inB_out hI.1.2.2.2.2.1 (by decide) (Nat.le_refl _) (by have := hI.1.2.2.2.2.1.2; omega)
theorem ksel_n {x : Nat → Int32} {a : Nat → Nat → Int32} (hI : zIv x a) : isSel x (nI (zN (x 11))) = false := inB_out hI.1.2.2.2.1 (by decide) (Nat.le_refl _) (by have := hI.1.2.2.2.1.2; omega)
theorem kacc_n {x : Nat → Int32} {a : Nat → Nat → Int32} (hI : zIv x a) : isAcc x (nI (zN (x 1))) = false := inB_out hI.1.2.1 (by decide) (Nat.le_refl _) (by have := hI.1.2.1.2; omega)
theorem kx_2 {p q r : Bool} (hp : p = true) (h : q = false) : goC p q r = 2 := by rw [hp, h]; rfl
theorem kx_3 {p q r : Bool} (hp : p = true) (hq : q = true) (h : r = false) : goC p q r = 3 := by rw [hp, hq, h]; rfl
theorem band {p q : Bool} (hp : p = true) (hq : q = true) : (p && q) = true := by rw [hp, hq]; rfl
theorem band0 {p q : Bool} (hp : p = false) : (p && q) = false := by rw [hp]; rfl
theorem band1 {p q : Bool} (hq : q = false) : (p && q) = false := by rw [hq, Bool.and_false]
theorem km_0 {x : Nat → Int32} {a : Nat → Nat → Int32} (hI : zIv x a) {c nx : Nat} (hc : c < zN (x 15)) (hn : nx ≤ 5) (h : comB x a c (nI nx) = true) : k_move x a (nI c) (nI nx) = 0 := by
  have h1 := kcha hI hc
  have h2 : inB (nI nx) 0 5 = true := inB_nn (a := 0) (b := 5) (Nat.zero_le _) hn (by decide)
  have hb := hI.1.2.2.2.2.1.2
  exact goC_0.mpr ⟨h1, h2, band h1 (band h2 (by rw [zN_nI (by omega)]; exact h))⟩
theorem km_3 {x : Nat → Int32} {a : Nat → Nat → Int32} (hI : zIv x a) {c nx : Nat} (hc : c < zN (x 15)) (hn : nx ≤ 5) (h : comB x a c (nI nx) = false) : k_move x a (nI c) (nI nx) = 3 := by
  have h1 := kcha hI hc
  have h2 : inB (nI nx) 0 5 = true := inB_nn (a := 0) (b := 5) (Nat.zero_le _) hn (by decide)
  have hb := hI.1.2.2.2.2.1.2
  exact kx_3 h1 h2 (band1 (band1 (by rw [zN_nI (by omega)]; exact h)))
theorem regS_ex {x : Nat → Int32} {a : Nat → Nat → Int32} {i w : Nat} (hw : w < 4) (h : a 5 i = nI w) : regS x a i = nI w := by
  have ho : ownR x a i = nI w := by
    unfold ownR
    rw [h, if_neg (nI_nm1 (by omega))]
  unfold regS
  rw [regF, ho, if_neg (nI_nm1 (by omega))]
theorem wrt_ex {x : Nat → Int32} {a : Nat → Nat → Int32} {F : Nat → Int32} {c : Nat} : wrt x (ua a 5 F) c = wrt x a c := by
  unfold wrt
  rw [show cnt x (ua a 5 F) (nI c) = cnt x a (nI c) from cnt_e (by rfl) (by rfl) (by rfl) _]
  rfl
theorem inrL_ex {x : Nat → Int32} {a : Nat → Nat → Int32} {F : Nat → Int32} {w : Int32} {nx : Nat} (h4 : 4 ≤ nx) (h5 : nx ≤ 5) : ∀ n, inrL x (ua a 5 F) w (nI nx) n = inrL x a w (nI nx) n
  | 0 => rfl
  | n + 1 => by
    rw [inrL, inrL, inrL_ex h4 h5 n, wrt_ex]
    congr 1
    have e18 : ua a 5 F 18 n = a 18 n := rfl
    rw [e18]
    by_cases e : a 18 n = nI nx
    · have e2 : rgnC x (ua a 5 F) n = rgnC x a n := by
        unfold rgnC opnB
        rw [e18, e, decide_eq_false (show ¬ nI nx < (4 : Int32) from nI_nlt (b := nx) (a := nx) (Nat.le_refl _) (by omega) |> fun _ => nI_nlt (b := 4) h4 (by omega))]
        rfl
      rw [e2]
    · rw [decide_eq_false e, Bool.and_false, Bool.and_false]
theorem ua_back {a : Nat → Nat → Int32} {j i : Nat} {u v : Int32} (h : a j i = v) : ua (ua a j (upd (a j) i u)) j (upd (ua a j (upd (a j) i u) j) i v) = a := by
  funext k
  by_cases e : k = j
  · subst e
    show ua (ua a k (upd (a k) i u)) k (upd (ua a k (upd (a k) i u) k) i v) k = a k
    rw [ua_s, ua_s, upd_back h]
  · rw [ua_n e, ua_n e]
theorem inB_w {w : Nat} (h : w < 4) : inB (nI w) (-1) 3 = true := by
  rcases (show w = 0 ∨ w = 1 ∨ w = 2 ∨ w = 3 by omega) with rfl | rfl | rfl | rfl <;> decide
theorem inB_e {v : Int32} (h : v = -1 ∨ ∃ w, w < 4 ∧ v = nI w) : inB v (-1) 3 = true := by
  rcases h with rfl | ⟨w, hw, rfl⟩
  · decide
  · exact inB_w hw
/-- at a method's end: both desks alike, and what always holds -/
def AcP (A : Nat → Nat → Int32) (K : Nat) (σ : zHp) : Prop := ∃ (x : Nat → Int32) (a : Nat → Nat → Int32), LW x a x a A σ ∧ TI x a A K
section MVS
variable {X : zX} {p : Program} {l : Launch} {e : Env} {s : State} {m : MethodId} {args : Array Value} {below : List Frame} {meth : Method} {c9 : Code} {σ0 σ : zHp} {loc0 : zK → Nat} {x : Nat → Int32} {a A : Nat → Nat → Int32} {K c nx i9 t9 u9 : Nat}
set_option maxRecDepth 100000 in
set_option maxHeartbeats 4000000 in
theorem mv_0 (C : zC X p l s m args meth c9 cL_moves 15 RL) (hr : meth.sig.returnType = some .boolean) (hW : LW x a x a A σ) (hT : TI x a A K) (hc : c < zN (x 15)) (hn : nx ≤ 5) (h2 : 2 ≤ zN (x 11)) (hi9 : i9 < zN (x 1)) (ei9 : a 16 c = nI i9) (ht9 : t9 ≤ zN (x 0)) (et9 : a 19 c = nI t9) (hcan : comB x a c (nI nx) = false) : zG X p l e (zRm 10 200 3000) s m args below meth c9 15 σ0 loc0 (zQ X σ0 loc0 below (zPi (fun r σ1 => r = 1 ∧ AcP A K σ1)) zNx args s 200 3000) 6 36 σ 78 [(0, aR 0 0), (1, aR 40 0), (2, aR 80 2), (3, aR 80 4), (4, aI (nI (c))), (5, aI (nI (nx))), (6, aI (nI (stN a c))), (7, aI (nI (u9 + (zN (x 0) - t9)))), (8, aI (nI (i9)))] [aI (nI 0)] := by
  obtain ⟨hI, hJ, ⟨⟨t0, t1, t2, t3, t4, t5, t6⟩, hTa, hTb, hTd, hTq⟩, h0⟩ := id hT
  obtain ⟨i0, i1, i6, i11, i15, i23, i24, i29, iA, iS, iC, iQ, iP⟩ := id hI.1
  have b0 := i0.2
  have b1 := i1.2
  have b6 := i6.2
  have b11 := i11.2
  have b15 := hJ.1.1
  have b23 := hJ.1.2
  have b29 := i29.2
  have g0 : A 4 0 = nI (zN (x 1)) := t0.trans i1.1
  have g1 : A 4 1 = nI (zN (x 11)) := t1.trans i11.1
  have g2 : A 4 2 = nI (zN (x 15)) := t2.trans i15.1
  have g3 : A 4 3 = nI (zN (x 23)) := t3.trans i23.1
  have g4 : A 4 4 = nI (zN (x 6)) := t4.trans i6.1
  have g5 : A 4 5 = nI (zN (x 29)) := t5.trans i29.1
  have g6 : A 4 6 = nI (zN (x 0)) := t6.trans i0.1
  have hcb : c < 2 ^ 31 := by omega
  have hib : i9 < 2 ^ 31 := by omega
  obtain ⟨hs5, es⟩ := st_N hI hc
  refine z_istore C dL_moves_78 (by decide) ?_
  refine z_aload_n (i := 0) C dL_moves_80 rfl rfl ?_
  refine z_iload C dL_moves_81 rfl ?_
  refine z_iload C dL_moves_83 rfl ?_
  refine z_callSX C Y_L_move sm_yL_move ml_RL_135 (c_L_move l hW.1 hI) dL_moves_85 rfl rfl (fun _ => Nat.le_of_ble_eq_true rfl) ⟨Nat.le_of_ble_eq_true rfl, Nat.le_of_ble_eq_true rfl⟩ (by show _ ≤ 200 ∧ _ ≤ 3000; omega) (z_w3 (km_3 hI hc hn hcan) ?_) z_nx
  refine z_istore C dL_moves_88 (by decide) ?_
  refine z_aload_n (i := 1) C dL_moves_90 rfl rfl ?_
  refine z_iload C dL_moves_91 rfl ?_
  refine z_iload C dL_moves_93 rfl ?_
  refine z_callSX C Y_L_move sm_yL_move ml_RL_135 (c_T_move l hW.2.1 hI) dL_moves_95 rfl rfl (fun _ => Nat.le_of_ble_eq_true rfl) ⟨Nat.le_of_ble_eq_true rfl, Nat.le_of_ble_eq_true rfl⟩ (by show _ ≤ 200 ∧ _ ≤ 3000; omega) (z_x3 (km_3 hI hc hn hcan) ?_) z_nx
  refine z_iload C dL_moves_98 rfl ?_
  refine z_icmp_ne (tgt := 182) C dL_moves_100 (by decide) (fun h => absurd (rfl) h) (fun _ => ?_)
  refine z_iload C dL_moves_103 rfl ?_
  refine z_if_eq (tgt := 123) C dL_moves_105 (by decide) (fun _ => ?_) (fun h => absurd (rfl) h)
  refine z_iload C dL_moves_123 rfl ?_
  refine z_ldc C dL_moves_125 kc_RL_21 ?_
  refine z_icmp_ne (tgt := 182) C dL_moves_127 (by decide) (fun h => absurd (rfl) h) (fun _ => ?_)
  refine z_aload_n (i := 0) C dL_moves_130 rfl rfl ?_
  refine z_iload C dL_moves_131 rfl ?_
  refine z_callSX C Y_L_stage sm_yL_stage ml_RL_107 (c_L_stage l hW.1 hI) dL_moves_133 rfl rfl (fun _ => Nat.le_of_ble_eq_true rfl) ⟨Nat.le_of_ble_eq_true rfl, Nat.le_of_ble_eq_true rfl⟩ (by show _ ≤ 200 ∧ _ ≤ 3000; omega) (z_q0 (w := (nI (stN a c))) (goC_0.mpr ⟨kcha hI hc, rfl, rfl⟩) (by rw [zN_nI hcb]; exact es) ?_) z_nx
  refine z_iload C dL_moves_136 rfl ?_
  refine z_if_eq (tgt := 146) C dL_moves_138 (by decide) (fun _ => ?_) (fun h => absurd (rfl) h)
  refine z_iload C dL_moves_146 rfl ?_
  refine z_icmp_ne (tgt := 182) C dL_moves_148 (by decide) (fun h => absurd (rfl) h) (fun _ => ?_)
  refine z_aload_n (i := 0) C dL_moves_151 rfl rfl ?_
  refine z_iload C dL_moves_152 rfl ?_
  refine z_bipush (v := nI 6) C dL_moves_154 (by decide) ?_
  refine z_callSX C Y_L_move sm_yL_move ml_RL_135 (c_L_move l hW.1 hI) dL_moves_156 rfl rfl (fun _ => Nat.le_of_ble_eq_true rfl) ⟨Nat.le_of_ble_eq_true rfl, Nat.le_of_ble_eq_true rfl⟩ (by show _ ≤ 200 ∧ _ ≤ 3000; omega) (z_w2 (kx_2 (kcha hI hc) (by decide)) ?_) z_nx
  refine z_ldc C dL_moves_159 kc_RL_18 ?_
  refine z_icmp_ne (tgt := 182) C dL_moves_161 (by decide) (fun h => absurd (rfl) h) (fun _ => ?_)
  refine z_aload_n (i := 0) C dL_moves_164 rfl rfl ?_
  refine z_aload_n (i := 3) C dL_moves_165 rfl rfl ?_
  refine z_iconst (v := nI 2) C dL_moves_166 (by decide) ?_
  refine z_ialdN C dL_moves_167 (hW.2.2.1 4 (by decide)) (show _ < 7 by omega) (by decide) ?_
  refine z_top (w := (nI (zN (x 15)))) (g2) ?_
  refine z_bipush (v := nI 6) C dL_moves_168 (by decide) ?_
  refine z_callSX C Y_L_move sm_yL_move ml_RL_135 (c_L_move l hW.1 hI) dL_moves_170 rfl rfl (fun _ => Nat.le_of_ble_eq_true rfl) ⟨Nat.le_of_ble_eq_true rfl, Nat.le_of_ble_eq_true rfl⟩ (by show _ ≤ 200 ∧ _ ≤ 3000; omega) (z_w1 (kx_1 (kcha_n hI)) ?_) z_nx
  refine z_ldc C dL_moves_173 kc_RL_28 ?_
  refine z_icmp_ne (tgt := 182) C dL_moves_175 (by decide) (fun h => absurd (rfl) h) (fun _ => ?_)
  refine z_iconst (v := nI 1) C dL_moves_178 (by decide) ?_
  refine z_goto (tgt := 183) C dL_moves_179 (by decide) ?_
  refine z_istore C dL_moves_183 (by decide) ?_
  refine z_iload C dL_moves_185 rfl ?_
  refine z_if_eq (tgt := 201) C dL_moves_187 (by decide) (fun h => absurd h (by decide)) (fun _ => ?_)
  refine z_iload C dL_moves_190 rfl ?_
  refine z_if_eq (tgt := 201) C dL_moves_192 (by decide) (fun _ => ?_) (fun h => absurd (rfl) h)
  refine z_iload C dL_moves_201 rfl ?_
  exact z_iret C hr rfl dL_moves_203 (Nat.le_of_ble_eq_true rfl) (Nat.le_of_ble_eq_true rfl) ⟨_, rfl, rfl, x, a, hW, hT⟩
set_option maxRecDepth 100000 in
set_option maxHeartbeats 4000000 in
theorem mv_1 (C : zC X p l s m args meth c9 cL_moves 15 RL) (hr : meth.sig.returnType = some .boolean) (hW : LW x a x a A σ) (hT : TI x a A K) (hc : c < zN (x 15)) (hn : nx ≤ 5) (h2 : 2 ≤ zN (x 11)) (hi9 : i9 < zN (x 1)) (ei9 : a 16 c = nI i9) (ht9 : t9 ≤ zN (x 0)) (et9 : a 19 c = nI t9) (hu9 : u9 ≤ zN (x 0)) (hcan : comB x a c (nI nx) = true) : zG X p l e (zRm 10 200 3000) s m args below meth c9 15 σ0 loc0 (zQ X σ0 loc0 below (zPi (fun r σ1 => r = 1 ∧ AcP A K σ1)) zNx args s 200 3000) 6 36 σ 78 [(0, aR 0 0), (1, aR 40 0), (2, aR 80 2), (3, aR 80 4), (4, aI (nI (c))), (5, aI (nI (nx))), (6, aI (nI (stN a c))), (7, aI (nI (u9 + (zN (x 0) - t9)))), (8, aI (nI (i9)))] [aI (nI 1)] := by
  obtain ⟨hI, hJ, ⟨⟨t0, t1, t2, t3, t4, t5, t6⟩, hTa, hTb, hTd, hTq⟩, h0⟩ := id hT
  obtain ⟨i0, i1, i6, i11, i15, i23, i24, i29, iA, iS, iC, iQ, iP⟩ := id hI.1
  have b0 := i0.2
  have b1 := i1.2
  have b6 := i6.2
  have b11 := i11.2
  have b15 := hJ.1.1
  have b23 := hJ.1.2
  have b29 := i29.2
  have g0 : A 4 0 = nI (zN (x 1)) := t0.trans i1.1
  have g1 : A 4 1 = nI (zN (x 11)) := t1.trans i11.1
  have g2 : A 4 2 = nI (zN (x 15)) := t2.trans i15.1
  have g3 : A 4 3 = nI (zN (x 23)) := t3.trans i23.1
  have g4 : A 4 4 = nI (zN (x 6)) := t4.trans i6.1
  have g5 : A 4 5 = nI (zN (x 29)) := t5.trans i29.1
  have g6 : A 4 6 = nI (zN (x 0)) := t6.trans i0.1
  have hcb : c < 2 ^ 31 := by omega
  have hib : i9 < 2 ^ 31 := by omega
  obtain ⟨hs5, es⟩ := st_N hI hc
  have hT2 : TI x (mvA x a c nx) A K := keep_move hT hc hn rfl rfl rfl rfl rfl
  have hI2 := hT2.1
  have htold : x 0 - a 19 c = nI (zN (x 0) - t9) := by rw [et9, ← pk_sub ht9, ← i0.1]
  refine z_istore C dL_moves_78 (by decide) ?_
  refine z_aload_n (i := 0) C dL_moves_80 rfl rfl ?_
  refine z_iload C dL_moves_81 rfl ?_
  refine z_iload C dL_moves_83 rfl ?_
  refine z_callSX C Y_L_move sm_yL_move ml_RL_135 (c_L_move l hW.1 hI) dL_moves_85 rfl rfl (fun _ => Nat.le_of_ble_eq_true rfl) ⟨Nat.le_of_ble_eq_true rfl, Nat.le_of_ble_eq_true rfl⟩ (by show _ ≤ 200 ∧ _ ≤ 3000; omega) (z_w0 (w := (nI (zN (x 0) - t9))) hW (km_0 hI hc hn hcan) (by rw [zN_nI hcb]; exact htold) (fun σ1 hW1 => ?_)) z_nx
  rw [zN_nI hcb] at hW1
  replace hW1 : LW x (mvA x a c nx) x a A σ1 := hW1
  refine z_istore C dL_moves_88 (by decide) ?_
  refine z_aload_n (i := 1) C dL_moves_90 rfl rfl ?_
  refine z_iload C dL_moves_91 rfl ?_
  refine z_iload C dL_moves_93 rfl ?_
  refine z_callSX C Y_L_move sm_yL_move ml_RL_135 (c_T_move l hW1.2.1 hI) dL_moves_95 rfl rfl (fun _ => Nat.le_of_ble_eq_true rfl) ⟨Nat.le_of_ble_eq_true rfl, Nat.le_of_ble_eq_true rfl⟩ (by show _ ≤ 200 ∧ _ ≤ 3000; omega) (z_x0 (w := (nI (zN (x 0) - t9))) hW1 (km_0 hI hc hn hcan) (by rw [zN_nI hcb]; exact htold) (fun σ2 hW2 => ?_)) z_nx
  rw [zN_nI hcb] at hW2
  replace hW2 : LW x (mvA x a c nx) x (mvA x a c nx) A σ2 := hW2
  refine z_iload C dL_moves_98 rfl ?_
  refine z_icmp_ne (tgt := 182) C dL_moves_100 (by decide) (fun h => absurd (rfl) h) (fun _ => ?_)
  refine z_iload C dL_moves_103 rfl ?_
  refine z_if_eq (tgt := 123) C dL_moves_105 (by decide) (fun h => absurd h (by decide)) (fun _ => ?_)
  refine z_iload C dL_moves_108 rfl ?_
  refine z_if_lt (tgt := 182) C dL_moves_110 (by decide) (fun h => absurd h (nI_pos (by omega))) (fun _ => ?_)
  refine z_iload C dL_moves_113 rfl ?_
  refine z_iload C dL_moves_115 rfl ?_
  refine z_icmp_gt (tgt := 182) C dL_moves_117 (by decide) (fun h => absurd h (nI_nlt (by omega) (by omega))) (fun _ => ?_)
  refine z_goto (tgt := 130) C dL_moves_120 (by decide) ?_
  refine z_aload_n (i := 0) C dL_moves_130 rfl rfl ?_
  refine z_iload C dL_moves_131 rfl ?_
  refine z_callSX C Y_L_stage sm_yL_stage ml_RL_107 (c_L_stage l hW2.1 hI2) dL_moves_133 rfl rfl (fun _ => Nat.le_of_ble_eq_true rfl) ⟨Nat.le_of_ble_eq_true rfl, Nat.le_of_ble_eq_true rfl⟩ (by show _ ≤ 200 ∧ _ ≤ 3000; omega) (z_q0 (w := (nI (nx))) (goC_0.mpr ⟨kcha hI2 hc, rfl, rfl⟩) (by rw [zN_nI hcb]; exact upd_at) ?_) z_nx
  refine z_iload C dL_moves_136 rfl ?_
  refine z_if_eq (tgt := 146) C dL_moves_138 (by decide) (fun h => absurd h (by decide)) (fun _ => ?_)
  refine z_iload C dL_moves_141 rfl ?_
  refine z_goto (tgt := 148) C dL_moves_143 (by decide) ?_
  refine z_icmp_ne (tgt := 182) C dL_moves_148 (by decide) (fun h => absurd (rfl) h) (fun _ => ?_)
  refine z_aload_n (i := 0) C dL_moves_151 rfl rfl ?_
  refine z_iload C dL_moves_152 rfl ?_
  refine z_bipush (v := nI 6) C dL_moves_154 (by decide) ?_
  refine z_callSX C Y_L_move sm_yL_move ml_RL_135 (c_L_move l hW2.1 hI2) dL_moves_156 rfl rfl (fun _ => Nat.le_of_ble_eq_true rfl) ⟨Nat.le_of_ble_eq_true rfl, Nat.le_of_ble_eq_true rfl⟩ (by show _ ≤ 200 ∧ _ ≤ 3000; omega) (z_w2 (kx_2 (kcha hI2 hc) (by decide)) ?_) z_nx
  refine z_ldc C dL_moves_159 kc_RL_18 ?_
  refine z_icmp_ne (tgt := 182) C dL_moves_161 (by decide) (fun h => absurd (rfl) h) (fun _ => ?_)
  refine z_aload_n (i := 0) C dL_moves_164 rfl rfl ?_
  refine z_aload_n (i := 3) C dL_moves_165 rfl rfl ?_
  refine z_iconst (v := nI 2) C dL_moves_166 (by decide) ?_
  refine z_ialdN C dL_moves_167 (hW2.2.2.1 4 (by decide)) (show _ < 7 by omega) (by decide) ?_
  refine z_top (w := (nI (zN (x 15)))) (g2) ?_
  refine z_bipush (v := nI 6) C dL_moves_168 (by decide) ?_
  refine z_callSX C Y_L_move sm_yL_move ml_RL_135 (c_L_move l hW2.1 hI2) dL_moves_170 rfl rfl (fun _ => Nat.le_of_ble_eq_true rfl) ⟨Nat.le_of_ble_eq_true rfl, Nat.le_of_ble_eq_true rfl⟩ (by show _ ≤ 200 ∧ _ ≤ 3000; omega) (z_w1 (kx_1 (kcha_n hI2)) ?_) z_nx
  refine z_ldc C dL_moves_173 kc_RL_28 ?_
  refine z_icmp_ne (tgt := 182) C dL_moves_175 (by decide) (fun h => absurd (rfl) h) (fun _ => ?_)
  refine z_iconst (v := nI 1) C dL_moves_178 (by decide) ?_
  refine z_goto (tgt := 183) C dL_moves_179 (by decide) ?_
  refine z_istore C dL_moves_183 (by decide) ?_
  refine z_iload C dL_moves_185 rfl ?_
  refine z_if_eq (tgt := 201) C dL_moves_187 (by decide) (fun h => absurd h (by decide)) (fun _ => ?_)
  refine z_iload C dL_moves_190 rfl ?_
  refine z_if_eq (tgt := 201) C dL_moves_192 (by decide) (fun h => absurd h (by decide)) (fun _ => ?_)
  refine z_iload C dL_moves_195 rfl ?_
  refine z_iconst (v := nI 4) C dL_moves_197 (by decide) ?_
  refine z_icmp_ge (tgt := 204) C dL_moves_198 (by decide) (fun h198 => ?_) (fun h198 => ?_)
  · have h4 : 4 ≤ nx := (nI_leI (a := 4) (by decide) (by omega)).mp h198
    obtain ⟨w0, hw0, ew0⟩ := regS_4 hI2 hT2.2.1 hi9
    have hop : opnB (mvA x a c nx) c = false := by
      show decide (upd (a 18) c (nI nx) c < 4) = false
      rw [upd_at]
      exact decide_eq_false (nI_nlt (b := 4) h4 (by omega))
    refine z_aload_n (i := 0) C dL_moves_204 rfl rfl ?_
    refine z_iload C dL_moves_205 rfl ?_
    refine z_callSX C Y_L_regionOf sm_yL_regionOf ml_RL_137 (c_L_regionOf l hW2.1 hI2) dL_moves_207 rfl rfl (fun _ => Nat.le_of_ble_eq_true rfl) ⟨Nat.le_of_ble_eq_true rfl, Nat.le_of_ble_eq_true rfl⟩ (by show _ ≤ 200 ∧ _ ≤ 3000; omega) (z_q0 (w := (nI (w0))) (goC_0.mpr ⟨kacc hI2 hi9, rfl, rfl⟩) (by rw [zN_nI hib]; exact ew0) ?_) z_nx
    refine z_istore C dL_moves_210 (by decide) ?_
    refine z_aload_n (i := 0) C dL_moves_212 rfl rfl ?_
    refine z_iload C dL_moves_213 rfl ?_
    refine z_iload C dL_moves_215 rfl ?_
    refine z_callSX C Y_L_inRegion sm_yL_inRegion ml_RL_118 (c_L_inRegion l hW2.1 hI2) dL_moves_217 rfl rfl (fun _ => Nat.le_of_ble_eq_true rfl) ⟨Nat.le_of_ble_eq_true rfl, Nat.le_of_ble_eq_true rfl⟩ (by show _ ≤ 200 ∧ _ ≤ 3000; omega) (z_q0 (w := (inrL x (mvA x a c nx) (nI w0) (nI nx) (zN (x 15)))) (goC_0.mpr ⟨band (inB_nn (a := 0) (b := 3) (by omega) (by omega) (by decide)) (inB_nn (a := 0) (b := 5) (by omega) hn (by decide)), rfl, rfl⟩) (rfl) ?_) z_nx
    refine z_istore C dL_moves_220 (by decide) ?_
    refine z_aload_n (i := 0) C dL_moves_222 rfl rfl ?_
    refine z_iload C dL_moves_223 rfl ?_
    refine z_iload C dL_moves_225 rfl ?_
    refine z_iconst (v := nI 1) C dL_moves_227 (by decide) ?_
    refine z_iadd C dL_moves_228 ?_
    refine z_top (w := (nI ((w0 + 1)))) (nI_add _ _) ?_
    refine z_iconst (v := nI 4) C dL_moves_229 (by decide) ?_
    refine z_irem C dL_moves_230 (by decide) ?_
    refine z_top (w := (nI (((w0 + 1) % 4)))) (pk_rem (by omega) (by decide) (by decide)) ?_
    refine z_callSX C Y_L_except sm_yL_except ml_RL_139 (c_L_except l hW2.1 hI2) dL_moves_231 rfl rfl (fun _ => Nat.le_of_ble_eq_true rfl) ⟨Nat.le_of_ble_eq_true rfl, Nat.le_of_ble_eq_true rfl⟩ (by show _ ≤ 200 ∧ _ ≤ 3000; omega) (z_w0 (w := ((mvA x a c nx) 5 i9)) hW2 (goC_0.mpr ⟨kacc hI2 hi9, inB_w (by omega), rfl⟩) (by rw [zN_nI hib]) (fun σ3 hW3 => ?_)) z_nx
    rw [zN_nI hib] at hW3
    have hI3 : zIv x (ua (mvA x a c nx) 5 (upd ((mvA x a c nx) 5) i9 (nI ((w0 + 1) % 4)))) := iv_except hI2
    refine z_istore C dL_moves_234 (by decide) ?_
    refine z_aload_n (i := 0) C dL_moves_236 rfl rfl ?_
    refine z_iload C dL_moves_237 rfl ?_
    refine z_callSX C Y_L_regionOf sm_yL_regionOf ml_RL_137 (c_L_regionOf l hW3.1 hI3) dL_moves_239 rfl rfl (fun _ => Nat.le_of_ble_eq_true rfl) ⟨Nat.le_of_ble_eq_true rfl, Nat.le_of_ble_eq_true rfl⟩ (by show _ ≤ 200 ∧ _ ≤ 3000; omega) (z_q0 (w := (nI (((w0 + 1) % 4)))) (goC_0.mpr ⟨kacc hI3 hi9, rfl, rfl⟩) (by rw [zN_nI hib]; exact regS_ex (by omega) upd_at) ?_) z_nx
    refine z_iload C dL_moves_242 rfl ?_
    refine z_iconst (v := nI 1) C dL_moves_244 (by decide) ?_
    refine z_iadd C dL_moves_245 ?_
    refine z_top (w := (nI ((w0 + 1)))) (nI_add _ _) ?_
    refine z_iconst (v := nI 4) C dL_moves_246 (by decide) ?_
    refine z_irem C dL_moves_247 (by decide) ?_
    refine z_top (w := (nI (((w0 + 1) % 4)))) (pk_rem (by omega) (by decide) (by decide)) ?_
    refine z_icmp_ne (tgt := 296) C dL_moves_248 (by decide) (fun h => absurd (rfl) h) (fun _ => ?_)
    refine z_aload_n (i := 0) C dL_moves_251 rfl rfl ?_
    refine z_iload C dL_moves_252 rfl ?_
    refine z_iload C dL_moves_254 rfl ?_
    refine z_callSX C Y_L_inRegion sm_yL_inRegion ml_RL_118 (c_L_inRegion l hW3.1 hI3) dL_moves_256 rfl rfl (fun _ => Nat.le_of_ble_eq_true rfl) ⟨Nat.le_of_ble_eq_true rfl, Nat.le_of_ble_eq_true rfl⟩ (by show _ ≤ 200 ∧ _ ≤ 3000; omega) (z_q0 (w := (inrL x (mvA x a c nx) (nI w0) (nI nx) (zN (x 15)))) (goC_0.mpr ⟨band (inB_nn (a := 0) (b := 3) (by omega) (by omega) (by decide)) (inB_nn (a := 0) (b := 5) (by omega) hn (by decide)), rfl, rfl⟩) (inrL_ex h4 hn _) ?_) z_nx
    refine z_iload C dL_moves_259 rfl ?_
    refine z_icmp_ne (tgt := 296) C dL_moves_261 (by decide) (fun h => absurd (rfl) h) (fun _ => ?_)
    refine z_aload_n (i := 0) C dL_moves_264 rfl rfl ?_
    refine z_iload C dL_moves_265 rfl ?_
    refine z_iload C dL_moves_267 rfl ?_
    refine z_callSX C Y_L_except sm_yL_except ml_RL_139 (c_L_except l hW3.1 hI3) dL_moves_269 rfl rfl (fun _ => Nat.le_of_ble_eq_true rfl) ⟨Nat.le_of_ble_eq_true rfl, Nat.le_of_ble_eq_true rfl⟩ (by show _ ≤ 200 ∧ _ ≤ 3000; omega) (z_w0 (w := (nI (((w0 + 1) % 4)))) hW3 (goC_0.mpr ⟨kacc hI3 hi9, inB_e (hT2.2.1.2.1 i9 hi9), rfl⟩) (by rw [zN_nI hib]; exact upd_at) (fun σ4 hW4 => ?_)) z_nx
    rw [zN_nI hib, ua_back rfl] at hW4
    refine z_iload C dL_moves_272 rfl ?_
    refine z_iconst (v := nI 1) C dL_moves_274 (by decide) ?_
    refine z_iadd C dL_moves_275 ?_
    refine z_top (w := (nI ((w0 + 1)))) (nI_add _ _) ?_
    refine z_iconst (v := nI 4) C dL_moves_276 (by decide) ?_
    refine z_irem C dL_moves_277 (by decide) ?_
    refine z_top (w := (nI (((w0 + 1) % 4)))) (pk_rem (by omega) (by decide) (by decide)) ?_
    refine z_icmp_ne (tgt := 296) C dL_moves_278 (by decide) (fun h => absurd (rfl) h) (fun _ => ?_)
    refine z_aload_n (i := 0) C dL_moves_281 rfl rfl ?_
    refine z_iload C dL_moves_282 rfl ?_
    refine z_callSX C Y_L_regionOf sm_yL_regionOf ml_RL_137 (c_L_regionOf l hW4.1 hI2) dL_moves_284 rfl rfl (fun _ => Nat.le_of_ble_eq_true rfl) ⟨Nat.le_of_ble_eq_true rfl, Nat.le_of_ble_eq_true rfl⟩ (by show _ ≤ 200 ∧ _ ≤ 3000; omega) (z_q0 (w := (nI (w0))) (goC_0.mpr ⟨kacc hI2 hi9, rfl, rfl⟩) (by rw [zN_nI hib]; exact ew0) ?_) z_nx
    refine z_iload C dL_moves_287 rfl ?_
    refine z_icmp_ne (tgt := 296) C dL_moves_289 (by decide) (fun h => absurd (rfl) h) (fun _ => ?_)
    refine z_iconst (v := nI 1) C dL_moves_292 (by decide) ?_
    refine z_goto (tgt := 297) C dL_moves_293 (by decide) ?_
    refine z_istore C dL_moves_297 (by decide) ?_
    refine z_iload C dL_moves_299 rfl ?_
    refine z_if_eq (tgt := 347) C dL_moves_301 (by decide) (fun h => absurd h (by decide)) (fun _ => ?_)
    refine z_aload_n (i := 0) C dL_moves_304 rfl rfl ?_
    refine z_iload C dL_moves_305 rfl ?_
    refine z_iconst (v := nI 0) C dL_moves_307 (by decide) ?_
    refine z_callSX C Y_L_move sm_yL_move ml_RL_135 (c_L_move l hW4.1 hI2) dL_moves_308 rfl rfl (fun _ => Nat.le_of_ble_eq_true rfl) ⟨Nat.le_of_ble_eq_true rfl, Nat.le_of_ble_eq_true rfl⟩ (by show _ ≤ 200 ∧ _ ≤ 3000; omega) (z_w3 (km_3 hI2 hc (by omega) (band0 hop)) ?_) z_nx
    refine z_ldc C dL_moves_311 kc_RL_21 ?_
    refine z_icmp_ne (tgt := 347) C dL_moves_313 (by decide) (fun h => absurd (rfl) h) (fun _ => ?_)
    refine z_aload_n (i := 0) C dL_moves_316 rfl rfl ?_
    refine z_iload C dL_moves_317 rfl ?_
    refine z_iconst (v := nI 0) C dL_moves_319 (by decide) ?_
    refine z_iconst (v := nI 1) C dL_moves_320 (by decide) ?_
    refine z_iconst (v := nI 1) C dL_moves_321 (by decide) ?_
    refine z_callSX C Y_L_giveShare sm_yL_giveShare ml_RL_141 (c_L_giveShare l hW4.1 hI2) dL_moves_322 rfl rfl (fun _ => Nat.le_of_ble_eq_true rfl) ⟨Nat.le_of_ble_eq_true rfl, Nat.le_of_ble_eq_true rfl⟩ (by show _ ≤ 200 ∧ _ ≤ 3000; omega) (z_w3 (kx_3 (band (kcha hI2 hc) (band (ksel hI2 (by omega)) (ksel hI2 (by omega)))) (by decide) (band1 (band0 (by rw [zN_nI hcb]; exact hop)))) ?_) z_nx
    refine z_ldc C dL_moves_325 kc_RL_21 ?_
    refine z_icmp_ne (tgt := 347) C dL_moves_327 (by decide) (fun h => absurd (rfl) h) (fun _ => ?_)
    refine z_aload_n (i := 0) C dL_moves_330 rfl rfl ?_
    refine z_iload C dL_moves_331 rfl ?_
    refine z_iconst (v := nI 0) C dL_moves_333 (by decide) ?_
    refine z_iconst (v := nI 0) C dL_moves_334 (by decide) ?_
    refine z_callSX C Y_L_quote sm_yL_quote ml_RL_144 (c_L_quote l hW4.1 hI2) dL_moves_335 rfl rfl (fun _ => Nat.le_of_ble_eq_true rfl) ⟨Nat.le_of_ble_eq_true rfl, Nat.le_of_ble_eq_true rfl⟩ (by show _ ≤ 200 ∧ _ ≤ 3000; omega) (z_w3 (kx_3 (band (kcha hI2 hc) (ksel hI2 (by omega))) (by decide) (band1 (band0 (by rw [zN_nI hcb]; exact hop)))) ?_) z_nx
    refine z_ldc C dL_moves_338 kc_RL_21 ?_
    refine z_icmp_ne (tgt := 347) C dL_moves_340 (by decide) (fun h => absurd (rfl) h) (fun _ => ?_)
    refine z_iconst (v := nI 1) C dL_moves_343 (by decide) ?_
    refine z_goto (tgt := 348) C dL_moves_344 (by decide) ?_
    exact z_iret C hr rfl dL_moves_348 (Nat.le_of_ble_eq_true rfl) (Nat.le_of_ble_eq_true rfl) ⟨_, rfl, rfl, x, mvA x a c nx, hW4, hT2⟩
  · refine z_iload C dL_moves_201 rfl ?_
    exact z_iret C hr rfl dL_moves_203 (Nat.le_of_ble_eq_true rfl) (Nat.le_of_ble_eq_true rfl) ⟨_, rfl, rfl, x, mvA x a c nx, hW2, hT2⟩
end MVS
set_option maxRecDepth 100000 in
set_option maxHeartbeats 4000000 in
theorem c_L_moves {X : zX} (l : Launch) {x : Nat → Int32} {a A : Nat → Nat → Int32} {σ : zHp} {K c nx : Nat} (hW : LW x a x a A σ) (hT : TI x a A K) (hc : c < zN (x 15)) (hn : nx ≤ 5) (h2 : 2 ≤ zN (x 11)) : zM X l yL_moves cL_moves 15 (some .boolean) 10 200 3000 [aR 0 0, aR 40 0, aR 80 2, aR 80 4, aI (nI c), aI (nI nx)] σ (zPi (fun r σ1 => r = 1 ∧ AcP A K σ1)) zNx := by
  refine zM.of (by decide +kernel) (Nat.le_of_ble_eq_true rfl) (by simp [zcat, Value.category]) ?_
  intro p e s m args below meth c9 loc0 C hr hnm hXT
  obtain ⟨hI, hJ, ⟨⟨t0, t1, t2, t3, t4, t5, t6⟩, hTa, hTb, hTd, hTq⟩, h0⟩ := id hT
  obtain ⟨i0, i1, i6, i11, i15, i23, i24, i29, iA, iS, iC, iQ, iP⟩ := id hI.1
  have b0 := i0.2
  have b1 := i1.2
  have b6 := i6.2
  have b11 := i11.2
  have b15 := hJ.1.1
  have b23 := hJ.1.2
  have b29 := i29.2
  have g0 : A 4 0 = nI (zN (x 1)) := t0.trans i1.1
  have g1 : A 4 1 = nI (zN (x 11)) := t1.trans i11.1
  have g2 : A 4 2 = nI (zN (x 15)) := t2.trans i15.1
  have g3 : A 4 3 = nI (zN (x 23)) := t3.trans i23.1
  have g4 : A 4 4 = nI (zN (x 6)) := t4.trans i6.1
  have g5 : A 4 5 = nI (zN (x 29)) := t5.trans i29.1
  have g6 : A 4 6 = nI (zN (x 0)) := t6.trans i0.1
  have hcb : c < 2 ^ 31 := by omega
  obtain ⟨hs5, es⟩ := st_N hI hc
  obtain ⟨⟨i9, hi9, ei9⟩, -⟩ := iC c hc
  obtain ⟨t9, ht9, et9⟩ := hJ.2.2.2.2.2.2.2.1.1 c hc
  obtain ⟨u9, hu9, eu9⟩ := hJ.2.2.2.2.2.2.2.1.2 c (stN a c) hc (by omega)
  refine z_aload_n (i := 0) C dL_moves_0 rfl rfl ?_
  refine z_iload C dL_moves_1 rfl ?_
  refine z_callSX C Y_L_stage sm_yL_stage ml_RL_107 (c_L_stage l hW.1 hI) dL_moves_3 rfl rfl (fun _ => Nat.le_of_ble_eq_true rfl) ⟨Nat.le_of_ble_eq_true rfl, Nat.le_of_ble_eq_true rfl⟩ (by show _ ≤ 200 ∧ _ ≤ 3000; omega) (z_q0 (w := (nI (stN a c))) (goC_0.mpr ⟨kcha hI hc, rfl, rfl⟩) (by rw [zN_nI hcb]; exact es) ?_) z_nx
  refine z_istore C dL_moves_6 (by decide) ?_
  refine z_aload_n (i := 0) C dL_moves_8 rfl rfl ?_
  refine z_iload C dL_moves_9 rfl ?_
  refine z_iload C dL_moves_11 rfl ?_
  refine z_callSX C Y_L_daysIn sm_yL_daysIn ml_RL_110 (c_L_daysIn l hW.1 hI) dL_moves_13 rfl rfl (fun _ => Nat.le_of_ble_eq_true rfl) ⟨Nat.le_of_ble_eq_true rfl, Nat.le_of_ble_eq_true rfl⟩ (by show _ ≤ 200 ∧ _ ≤ 3000; omega) (z_q0 (w := (nI (u9 + (zN (x 0) - t9)))) (goC_0.mpr ⟨kcha hI hc, inB_nn (a := 0) (b := 5) (by omega) hs5 (by decide), rfl⟩) (by rw [zN_nI hcb, zN_nI (by omega), if_pos es, eu9, et9, ← nI_add, ← pk_sub ht9, ← i0.1]) ?_) z_nx
  refine z_istore C dL_moves_16 (by decide) ?_
  refine z_aload_n (i := 2) C dL_moves_18 rfl rfl ?_
  refine z_iconst (v := nI 4) C dL_moves_19 (by decide) ?_
  refine z_iload C dL_moves_20 rfl ?_
  refine z_imul C dL_moves_22 ?_
  refine z_top (w := (nI ((4 * c)))) (pk_mul _ _) ?_
  refine z_iconst (v := nI 1) C dL_moves_23 (by decide) ?_
  refine z_iadd C dL_moves_24 ?_
  refine z_top (w := (nI (((4 * c) + 1)))) (nI_add _ _) ?_
  refine z_ialdN C dL_moves_25 (hW.2.2.1 2 (by decide)) (show _ < 64 by omega) (by decide) ?_
  refine z_top (w := (nI (i9))) ((hTd c hc).2.1.trans ei9) ?_
  refine z_istore C dL_moves_26 (by decide) ?_
  rcases Nat.lt_or_ge (stN a c) 4 with q4 | q4
  · rcases Nat.lt_or_ge nx (stN a c) with q1 | q1
    · refine z_iload C dL_moves_28 rfl ?_
      refine z_iconst (v := nI 4) C dL_moves_30 (by decide) ?_
      refine z_icmp_ge (tgt := 77) C dL_moves_31 (by decide) (fun h => absurd h (nI_ge q4 (by decide))) (fun _ => ?_)
      refine z_iload C dL_moves_34 rfl ?_
      refine z_iload C dL_moves_36 rfl ?_
      refine z_icmp_lt (tgt := 73) C dL_moves_38 (by decide) (fun _ => ?_) (fun h => absurd (nI_lt q1 (by omega)) h)
      refine z_iconst (v := nI 1) C dL_moves_73 (by decide) ?_
      refine z_goto (tgt := 78) C dL_moves_74 (by decide) ?_
      refine z_sub (L' := [(0, aR 0 0), (1, aR 40 0), (2, aR 80 2), (3, aR 80 4), (4, aI (nI (c))), (5, aI (nI (nx))), (6, aI (nI (stN a c))), (7, aI (nI (u9 + (zN (x 0) - t9)))), (8, aI (nI (i9)))]) (zs1 rfl (zs1 rfl (zs1 rfl (zs1 rfl (zs1 rfl (zs1 rfl (zs1 rfl (zs1 rfl (zs1 rfl zs0))))))))) ?_
      exact mv_1 C hr hW hT hc hn h2 hi9 ei9 ht9 et9 hu9 (by rw [comB_N hs5 es hn]; have q3 : ¬ nx = 3 := (by omega); simp [comN, q4, q1, q3])
  
    · by_cases q5 : nx = 5
      · refine z_iload C dL_moves_28 rfl ?_
        refine z_iconst (v := nI 4) C dL_moves_30 (by decide) ?_
        refine z_icmp_ge (tgt := 77) C dL_moves_31 (by decide) (fun h => absurd h (nI_ge q4 (by decide))) (fun _ => ?_)
        refine z_iload C dL_moves_34 rfl ?_
        refine z_iload C dL_moves_36 rfl ?_
        refine z_icmp_lt (tgt := 73) C dL_moves_38 (by decide) (fun h => absurd h (nI_nlt q1 (by omega))) (fun _ => ?_)
        refine z_iload C dL_moves_41 rfl ?_
        refine z_iconst (v := nI 5) C dL_moves_43 (by decide) ?_
        refine z_icmp_eq (tgt := 73) C dL_moves_44 (by decide) (fun _ => ?_) (fun h => absurd (by rw [q5]) h)
        refine z_iconst (v := nI 1) C dL_moves_73 (by decide) ?_
        refine z_goto (tgt := 78) C dL_moves_74 (by decide) ?_
        refine z_sub (L' := [(0, aR 0 0), (1, aR 40 0), (2, aR 80 2), (3, aR 80 4), (4, aI (nI (c))), (5, aI (nI (nx))), (6, aI (nI (stN a c))), (7, aI (nI (u9 + (zN (x 0) - t9)))), (8, aI (nI (i9)))]) (zs1 rfl (zs1 rfl (zs1 rfl (zs1 rfl (zs1 rfl (zs1 rfl (zs1 rfl (zs1 rfl (zs1 rfl zs0))))))))) ?_
        exact mv_1 C hr hW hT hc hn h2 hi9 ei9 ht9 et9 hu9 (by rw [comB_N hs5 es hn]; have q3 : ¬ nx = 3 := (by omega); simp [comN, q4, q5])
    
      · by_cases q6 : nx = stN a c + 1
        · by_cases q2 : stN a c = 2
          · rcases cnt_r (x := x) (a := a) (q := nI c) with hq | ⟨q, hqn, hq⟩
            · refine z_iload C dL_moves_28 rfl ?_
              refine z_iconst (v := nI 4) C dL_moves_30 (by decide) ?_
              refine z_icmp_ge (tgt := 77) C dL_moves_31 (by decide) (fun h => absurd h (nI_ge q4 (by decide))) (fun _ => ?_)
              refine z_iload C dL_moves_34 rfl ?_
              refine z_iload C dL_moves_36 rfl ?_
              refine z_icmp_lt (tgt := 73) C dL_moves_38 (by decide) (fun h => absurd h (nI_nlt q1 (by omega))) (fun _ => ?_)
              refine z_iload C dL_moves_41 rfl ?_
              refine z_iconst (v := nI 5) C dL_moves_43 (by decide) ?_
              refine z_icmp_eq (tgt := 73) C dL_moves_44 (by decide) (fun h => absurd h (fun z => q5 ((nI_eq (b := 5) (by omega) (by decide)).mp z))) (fun _ => ?_)
              refine z_iload C dL_moves_47 rfl ?_
              refine z_iload C dL_moves_49 rfl ?_
              refine z_iconst (v := nI 1) C dL_moves_51 (by decide) ?_
              refine z_iadd C dL_moves_52 ?_
              refine z_top (w := (nI ((stN a c + 1)))) (nI_add _ _) ?_
              refine z_icmp_ne (tgt := 77) C dL_moves_53 (by decide) (fun h => absurd (by rw [q6]) h) (fun _ => ?_)
              refine z_iload C dL_moves_56 rfl ?_
              refine z_iconst (v := nI 2) C dL_moves_58 (by decide) ?_
              refine z_icmp_ne (tgt := 73) C dL_moves_59 (by decide) (fun h => absurd (by rw [q2]) h) (fun _ => ?_)
              refine z_aload_n (i := 2) C dL_moves_62 rfl rfl ?_
              refine z_iconst (v := nI 4) C dL_moves_63 (by decide) ?_
              refine z_iload C dL_moves_64 rfl ?_
              refine z_imul C dL_moves_66 ?_
              refine z_top (w := (nI ((4 * c)))) (pk_mul _ _) ?_
              refine z_iconst (v := nI 3) C dL_moves_67 (by decide) ?_
              refine z_iadd C dL_moves_68 ?_
              refine z_top (w := (nI (((4 * c) + 3)))) (nI_add _ _) ?_
              refine z_ialdN C dL_moves_69 (hW.2.2.1 2 (by decide)) (show _ < 64 by omega) (by decide) ?_
              refine z_top (w := (cnt x a (nI c))) ((hTd c hc).2.2.1) ?_
              refine z_if_lt (tgt := 77) C dL_moves_70 (by decide) (fun _ => ?_) (fun h => absurd (by rw [hq]; decide) h)
              refine z_iconst (v := nI 0) C dL_moves_77 (by decide) ?_
              refine z_sub (L' := [(0, aR 0 0), (1, aR 40 0), (2, aR 80 2), (3, aR 80 4), (4, aI (nI (c))), (5, aI (nI (nx))), (6, aI (nI (stN a c))), (7, aI (nI (u9 + (zN (x 0) - t9)))), (8, aI (nI (i9)))]) (zs1 rfl (zs1 rfl (zs1 rfl (zs1 rfl (zs1 rfl (zs1 rfl (zs1 rfl (zs1 rfl (zs1 rfl zs0))))))))) ?_
              exact mv_0 C hr hW hT hc hn h2 hi9 ei9 ht9 et9 (by rw [comB_N hs5 es hn]; rw [hq]; simp [comN, q2, q6])
          
            · refine z_iload C dL_moves_28 rfl ?_
              refine z_iconst (v := nI 4) C dL_moves_30 (by decide) ?_
              refine z_icmp_ge (tgt := 77) C dL_moves_31 (by decide) (fun h => absurd h (nI_ge q4 (by decide))) (fun _ => ?_)
              refine z_iload C dL_moves_34 rfl ?_
              refine z_iload C dL_moves_36 rfl ?_
              refine z_icmp_lt (tgt := 73) C dL_moves_38 (by decide) (fun h => absurd h (nI_nlt q1 (by omega))) (fun _ => ?_)
              refine z_iload C dL_moves_41 rfl ?_
              refine z_iconst (v := nI 5) C dL_moves_43 (by decide) ?_
              refine z_icmp_eq (tgt := 73) C dL_moves_44 (by decide) (fun h => absurd h (fun z => q5 ((nI_eq (b := 5) (by omega) (by decide)).mp z))) (fun _ => ?_)
              refine z_iload C dL_moves_47 rfl ?_
              refine z_iload C dL_moves_49 rfl ?_
              refine z_iconst (v := nI 1) C dL_moves_51 (by decide) ?_
              refine z_iadd C dL_moves_52 ?_
              refine z_top (w := (nI ((stN a c + 1)))) (nI_add _ _) ?_
              refine z_icmp_ne (tgt := 77) C dL_moves_53 (by decide) (fun h => absurd (by rw [q6]) h) (fun _ => ?_)
              refine z_iload C dL_moves_56 rfl ?_
              refine z_iconst (v := nI 2) C dL_moves_58 (by decide) ?_
              refine z_icmp_ne (tgt := 73) C dL_moves_59 (by decide) (fun h => absurd (by rw [q2]) h) (fun _ => ?_)
              refine z_aload_n (i := 2) C dL_moves_62 rfl rfl ?_
              refine z_iconst (v := nI 4) C dL_moves_63 (by decide) ?_
              refine z_iload C dL_moves_64 rfl ?_
              refine z_imul C dL_moves_66 ?_
              refine z_top (w := (nI ((4 * c)))) (pk_mul _ _) ?_
              refine z_iconst (v := nI 3) C dL_moves_67 (by decide) ?_
              refine z_iadd C dL_moves_68 ?_
              refine z_top (w := (nI (((4 * c) + 3)))) (nI_add _ _) ?_
              refine z_ialdN C dL_moves_69 (hW.2.2.1 2 (by decide)) (show _ < 64 by omega) (by decide) ?_
              refine z_top (w := (cnt x a (nI c))) ((hTd c hc).2.2.1) ?_
              refine z_if_lt (tgt := 77) C dL_moves_70 (by decide) (fun h => absurd h (by rw [hq]; exact nI_pos (by omega))) (fun _ => ?_)
              refine z_iconst (v := nI 1) C dL_moves_73 (by decide) ?_
              refine z_goto (tgt := 78) C dL_moves_74 (by decide) ?_
              refine z_sub (L' := [(0, aR 0 0), (1, aR 40 0), (2, aR 80 2), (3, aR 80 4), (4, aI (nI (c))), (5, aI (nI (nx))), (6, aI (nI (stN a c))), (7, aI (nI (u9 + (zN (x 0) - t9)))), (8, aI (nI (i9)))]) (zs1 rfl (zs1 rfl (zs1 rfl (zs1 rfl (zs1 rfl (zs1 rfl (zs1 rfl (zs1 rfl (zs1 rfl zs0))))))))) ?_
              exact mv_1 C hr hW hT hc hn h2 hi9 ei9 ht9 et9 hu9 (by rw [comB_N hs5 es hn]; rw [hq, decide_eq_false (nI_nm1 (by omega))]; simp [comN, q2, q6])
        
          · refine z_iload C dL_moves_28 rfl ?_
            refine z_iconst (v := nI 4) C dL_moves_30 (by decide) ?_
            refine z_icmp_ge (tgt := 77) C dL_moves_31 (by decide) (fun h => absurd h (nI_ge q4 (by decide))) (fun _ => ?_)
            refine z_iload C dL_moves_34 rfl ?_
            refine z_iload C dL_moves_36 rfl ?_
            refine z_icmp_lt (tgt := 73) C dL_moves_38 (by decide) (fun h => absurd h (nI_nlt q1 (by omega))) (fun _ => ?_)
            refine z_iload C dL_moves_41 rfl ?_
            refine z_iconst (v := nI 5) C dL_moves_43 (by decide) ?_
            refine z_icmp_eq (tgt := 73) C dL_moves_44 (by decide) (fun h => absurd h (fun z => q5 ((nI_eq (b := 5) (by omega) (by decide)).mp z))) (fun _ => ?_)
            refine z_iload C dL_moves_47 rfl ?_
            refine z_iload C dL_moves_49 rfl ?_
            refine z_iconst (v := nI 1) C dL_moves_51 (by decide) ?_
            refine z_iadd C dL_moves_52 ?_
            refine z_top (w := (nI ((stN a c + 1)))) (nI_add _ _) ?_
            refine z_icmp_ne (tgt := 77) C dL_moves_53 (by decide) (fun h => absurd (by rw [q6]) h) (fun _ => ?_)
            refine z_iload C dL_moves_56 rfl ?_
            refine z_iconst (v := nI 2) C dL_moves_58 (by decide) ?_
            refine z_icmp_ne (tgt := 73) C dL_moves_59 (by decide) (fun _ => ?_) (fun h => absurd h (fun z => q2 ((nI_eq (b := 2) (by omega) (by decide)).mp z)))
            refine z_iconst (v := nI 1) C dL_moves_73 (by decide) ?_
            refine z_goto (tgt := 78) C dL_moves_74 (by decide) ?_
            refine z_sub (L' := [(0, aR 0 0), (1, aR 40 0), (2, aR 80 2), (3, aR 80 4), (4, aI (nI (c))), (5, aI (nI (nx))), (6, aI (nI (stN a c))), (7, aI (nI (u9 + (zN (x 0) - t9)))), (8, aI (nI (i9)))]) (zs1 rfl (zs1 rfl (zs1 rfl (zs1 rfl (zs1 rfl (zs1 rfl (zs1 rfl (zs1 rfl (zs1 rfl zs0))))))))) ?_
            exact mv_1 C hr hW hT hc hn h2 hi9 ei9 ht9 et9 hu9 (by rw [comB_N hs5 es hn]; simp [comN, q4, q6, q2])
      
        · refine z_iload C dL_moves_28 rfl ?_
          refine z_iconst (v := nI 4) C dL_moves_30 (by decide) ?_
          refine z_icmp_ge (tgt := 77) C dL_moves_31 (by decide) (fun h => absurd h (nI_ge q4 (by decide))) (fun _ => ?_)
          refine z_iload C dL_moves_34 rfl ?_
          refine z_iload C dL_moves_36 rfl ?_
          refine z_icmp_lt (tgt := 73) C dL_moves_38 (by decide) (fun h => absurd h (nI_nlt q1 (by omega))) (fun _ => ?_)
          refine z_iload C dL_moves_41 rfl ?_
          refine z_iconst (v := nI 5) C dL_moves_43 (by decide) ?_
          refine z_icmp_eq (tgt := 73) C dL_moves_44 (by decide) (fun h => absurd h (fun z => q5 ((nI_eq (b := 5) (by omega) (by decide)).mp z))) (fun _ => ?_)
          refine z_iload C dL_moves_47 rfl ?_
          refine z_iload C dL_moves_49 rfl ?_
          refine z_iconst (v := nI 1) C dL_moves_51 (by decide) ?_
          refine z_iadd C dL_moves_52 ?_
          refine z_top (w := (nI ((stN a c + 1)))) (nI_add _ _) ?_
          refine z_icmp_ne (tgt := 77) C dL_moves_53 (by decide) (fun _ => ?_) (fun h => absurd h (fun z => q6 ((nI_eq (by omega) (by omega)).mp z)))
          refine z_iconst (v := nI 0) C dL_moves_77 (by decide) ?_
          refine z_sub (L' := [(0, aR 0 0), (1, aR 40 0), (2, aR 80 2), (3, aR 80 4), (4, aI (nI (c))), (5, aI (nI (nx))), (6, aI (nI (stN a c))), (7, aI (nI (u9 + (zN (x 0) - t9)))), (8, aI (nI (i9)))]) (zs1 rfl (zs1 rfl (zs1 rfl (zs1 rfl (zs1 rfl (zs1 rfl (zs1 rfl (zs1 rfl (zs1 rfl zs0))))))))) ?_
          exact mv_0 C hr hW hT hc hn h2 hi9 ei9 ht9 et9 (by rw [comB_N hs5 es hn]; have q7 : ¬ nx < stN a c := (by omega); simp [comN, q7, q5, q6])

  · refine z_iload C dL_moves_28 rfl ?_
    refine z_iconst (v := nI 4) C dL_moves_30 (by decide) ?_
    refine z_icmp_ge (tgt := 77) C dL_moves_31 (by decide) (fun _ => ?_) (fun h => absurd (nI_le q4 (by omega)) h)
    refine z_iconst (v := nI 0) C dL_moves_77 (by decide) ?_
    refine z_sub (L' := [(0, aR 0 0), (1, aR 40 0), (2, aR 80 2), (3, aR 80 4), (4, aI (nI (c))), (5, aI (nI (nx))), (6, aI (nI (stN a c))), (7, aI (nI (u9 + (zN (x 0) - t9)))), (8, aI (nI (i9)))]) (zs1 rfl (zs1 rfl (zs1 rfl (zs1 rfl (zs1 rfl (zs1 rfl (zs1 rfl (zs1 rfl (zs1 rfl zs0))))))))) ?_
    exact mv_0 C hr hW hT hc hn h2 hi9 ei9 ht9 et9 (by rw [comB_N hs5 es hn]; have q7 : ¬ stN a c < 4 := (by omega); simp [comN, q7])
