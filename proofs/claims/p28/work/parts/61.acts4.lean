/-! acts: quotes and approvals -/
theorem keep_quote_at {x : Nat → Int32} {a A A' : Nat → Nat → Int32} {K : Nat} (h : TI x a A K) {c s d : Nat} (hc : c < zN (x 15)) (hs : s < zN (x 11)) (hd : d ≤ 99) (hn : zN (x 23) < 30) (hA0 : A' 0 = A 0) (hA1 : A' 1 = A 1) (hA2 : A' 2 = upd (A 2) (4 * c + 3) (nI (zN (x 23)))) (hA3 : A' 3 = upd (A 3) (zN (x 23)) (nI (10000000 * c + 1000 * d + 10 * s + 1))) (hA4 : A' 4 = upd (A 4) 3 (nI (zN (x 23) + 1))) : TI (upd (upd x 23 (x 23 + 1)) 24 (x 24 + 1)) (ua (ua (ua (ua a 25 (upd (a 25) (zN (x 23)) (nI c))) 26 (upd (a 26) (zN (x 23)) (nI s))) 27 (upd (a 27) (zN (x 23)) (nI d))) 28 (upd (a 28) (zN (x 23)) (x 24 + 1))) A' K := by
  have hI := h.1
  obtain ⟨i0, i1, i6, i11, i15, i23, i24, i29, iA, iS, iC, iQ, iP⟩ := id hI.1
  have b15 := h.2.1.1.1
  have b11 := i11.2
  have w5 := hI.2.2.2.2.2.1
  obtain ⟨e, ez⟩ := zN_s i23 (by decide)
  have e1 : zN (upd x 23 (x 23 + 1) 23) = zN (x 23) + 1 := by rw [upd_at]; exact ez
  have h1 := keep_quote (A' := ua (ua A 3 (upd (A 3) (zN (x 23)) (nI (10000000 * c + 1000 * d + 10 * s)))) 4 (upd (A 4) 3 (nI (zN (x 23) + 1)))) h hc hs hd hn rfl rfl rfl rfl rfl
  have hq : qN (ua (ua (ua a 25 (upd (a 25) (zN (x 23)) (nI c))) 26 (upd (a 26) (zN (x 23)) (nI s))) 27 (upd (a 27) (zN (x 23)) (nI d))) (zN (x 23)) = 10000000 * c + 1000 * d + 10 * s := by
    show 10000000 * zN (upd (a 25) (zN (x 23)) (nI c) (zN (x 23))) + 1000 * zN (upd (a 27) (zN (x 23)) (nI d) (zN (x 23))) + 10 * zN (upd (a 26) (zN (x 23)) (nI s) (zN (x 23))) + (if a 28 (zN (x 23)) = 0 then 0 else 1) = _
    rw [upd_at, upd_at, upd_at, zN_nI (by omega), zN_nI (by omega), zN_nI (by omega), if_pos (w5 _ (Nat.le_refl _))]
    rfl
  refine keep_approve (A' := A') h1 (q := zN (x 23)) (c := c) (by rw [e1]; omega) upd_at hc (w5 _ (Nat.le_refl _)) hA0 hA1 hA2 ?_ hA4
  rw [hq, hA3]
  exact upd_upd.symm
section AC4
variable {X : zX} {p : Program} {l : Launch} {e : Env} {s : State} {m : MethodId} {args : Array Value} {below : List Frame} {meth : Method} {c9 : Code} {σ0 σ : zHp} {loc0 : zK → Nat} {x : Nat → Int32} {a A : Nat → Nat → Int32} {K kd ac se ch : Nat} {xx yy : Int32}
set_option maxRecDepth 100000 in
set_option maxHeartbeats 4000000 in
theorem ac_q1 (C : zC X p l s m args meth c9 cL_acts 18 RL) (hr : meth.sig.returnType = some .boolean) (hW : LW x a x a A σ) (hT : TI x a A K) (hK : K < 95) (hac : ac < zN (x 1)) (hse : se < zN (x 11)) (hch : ch < zN (x 15)) (q4 : stN a ch < 4) (hn : 30 ≤ zN (x 23)) : AG X p l e s m args below meth c9 σ0 loc0 K 0 0 σ 1361 [(0, aR 0 0), (1, aR 40 0), (2, aR 80 0), (3, aR 80 1), (4, aR 80 2), (5, aR 80 3), (6, aR 80 4), (7, aI (xx)), (8, aI (yy)), (9, aI (nI (kd))), (10, aI (nI (ac))), (11, aI (nI (se))), (12, aI (nI (ch)))] [] := by
  obtain ⟨hI, hJ, ⟨⟨t0, t1, t2, t3, t4, t5, t6⟩, hTa, hTb, hTd, hTq⟩, h0⟩ := id hT
  obtain ⟨i0, i1, i6, i11, i15, i23, i24, i29, iA, iS, iC, iQ, iP⟩ := id hI.1
  have b0 := i0.2
  have b1 := i1.2
  have b6 := i6.2
  have b11 := i11.2
  have b15 := hJ.1.1
  have b23 := hJ.1.2
  have b29 := i29.2
  have g0 : A 4 0 = nI (zN (x 1)) := t0.trans i1.1
  have g1 : A 4 1 = nI (zN (x 11)) := t1.trans i11.1
  have g2 : A 4 2 = nI (zN (x 15)) := t2.trans i15.1
  have g3 : A 4 3 = nI (zN (x 23)) := t3.trans i23.1
  have g4 : A 4 4 = nI (zN (x 6)) := t4.trans i6.1
  have g5 : A 4 5 = nI (zN (x 29)) := t5.trans i29.1
  have g6 : A 4 6 = nI (zN (x 0)) := t6.trans i0.1
  have hK1 := hT.up
  have hxb : ∀ n, n ≤ 100 → n < 2 ^ 31 := fun n h => by omega
  have hcb : ch < 2 ^ 31 := by omega
  have hseb : se < 2 ^ 31 := by omega
  obtain ⟨hs5, es⟩ := st_N hI hch
  obtain ⟨di, edi⟩ : ∃ di, lowN (yy >>> (nI 8 &&& 31)) 100 = di := ⟨_, rfl⟩
  have hdi : di < 100 := by rw [← edi]; exact lowN_lt (by decide)
  refine z_iload C dL_acts_1361 rfl ?_
  refine z_bipush (v := nI 8) C dL_acts_1363 (by decide) ?_
  refine z_ishr C dL_acts_1365 ?_
  refine z_bipush (v := nI 100) C dL_acts_1366 (by decide) ?_
  refine z_callS C Y_L_low sm_yL_low ml_RL_147 (c_L_low l (n := 100) (by omega) (by omega)) dL_acts_1368 rfl rfl (fun _ => Nat.le_of_ble_eq_true rfl) ⟨Nat.le_of_ble_eq_true rfl, Nat.le_of_ble_eq_true rfl⟩ (by show _ ≤ 300 ∧ _ ≤ 5000; omega) (z_p0 (w := (nI (di))) (congrArg nI edi) ?_) z_nx
  refine z_istore C dL_acts_1371 (by decide) ?_
  refine z_aload_n (i := 0) C dL_acts_1373 rfl rfl ?_
  refine z_iload C dL_acts_1374 rfl ?_
  refine z_callSX C Y_L_stage sm_yL_stage ml_RL_107 (c_L_stage l hW.1 hI) dL_acts_1376 rfl rfl (fun _ => Nat.le_of_ble_eq_true rfl) ⟨Nat.le_of_ble_eq_true rfl, Nat.le_of_ble_eq_true rfl⟩ (by show _ ≤ 300 ∧ _ ≤ 5000; omega) (z_q0 (w := (nI (stN a ch))) (goC_0.mpr ⟨kcha hI hch, rfl, rfl⟩) (by rw [zN_nI hcb]; exact es) ?_) z_nx
  refine z_iconst (v := nI 4) C dL_acts_1379 (by decide) ?_
  refine z_icmp_ge (tgt := 1387) C dL_acts_1380 (by decide) (fun h => absurd h (nI_ge q4 (by decide))) (fun _ => ?_)
  refine z_iconst (v := nI 1) C dL_acts_1383 (by decide) ?_
  refine z_goto (tgt := 1388) C dL_acts_1384 (by decide) ?_
  refine z_istore C dL_acts_1388 (by decide) ?_
  refine z_aload C dL_acts_1390 rfl ?_
  refine z_iconst (v := nI 3) C dL_acts_1392 (by decide) ?_
  refine z_ialdN C dL_acts_1393 (hW.2.2.1 4 (by decide)) (show _ < 7 by omega) (by decide) ?_
  refine z_top (w := (nI (zN (x 23)))) (g3) ?_
  refine z_istore C dL_acts_1394 (by decide) ?_
  refine z_iload C dL_acts_1396 rfl ?_
  refine z_if_eq (tgt := 1413) C dL_acts_1398 (by decide) (fun h => absurd h (by decide)) (fun _ => ?_)
  refine z_iload C dL_acts_1401 rfl ?_
  refine z_bipush (v := nI 30) C dL_acts_1403 (by decide) ?_
  refine z_icmp_ge (tgt := 1413) C dL_acts_1405 (by decide) (fun _ => ?_) (fun h => absurd (nI_le (a := 30) (by omega) (by omega)) h)
  refine z_ldc C dL_acts_1413 kc_RL_21 ?_
  refine z_istore C dL_acts_1415 (by decide) ?_
  refine z_iload C dL_acts_1417 rfl ?_
  refine z_bipush (v := nI 30) C dL_acts_1419 (by decide) ?_
  refine z_icmp_ne (tgt := 1461) C dL_acts_1421 (by decide) (fun h => absurd (by rw [show zN (x 23) = 30 by omega]) h) (fun _ => ?_)
  refine z_aload_n (i := 0) C dL_acts_1424 rfl rfl ?_
  refine z_iload C dL_acts_1425 rfl ?_
  refine z_iload C dL_acts_1427 rfl ?_
  refine z_bipush (v := nI 100) C dL_acts_1429 (by decide) ?_
  refine z_callSX C Y_L_quote sm_yL_quote ml_RL_144 (c_L_quote l hW.1 hI) dL_acts_1431 rfl rfl (fun _ => Nat.le_of_ble_eq_true rfl) ⟨Nat.le_of_ble_eq_true rfl, Nat.le_of_ble_eq_true rfl⟩ (by show _ ≤ 300 ∧ _ ≤ 5000; omega) (z_w2 (kx_2 (band (kcha hI hch) (ksel hI hse)) (by decide)) ?_) z_nx
  refine z_ldc C dL_acts_1434 kc_RL_18 ?_
  refine z_icmp_ne (tgt := 1459) C dL_acts_1436 (by decide) (fun h => absurd (rfl) h) (fun _ => ?_)
  refine z_aload_n (i := 0) C dL_acts_1439 rfl rfl ?_
  refine z_iload C dL_acts_1440 rfl ?_
  refine z_aload C dL_acts_1442 rfl ?_
  refine z_iconst (v := nI 1) C dL_acts_1444 (by decide) ?_
  refine z_ialdN C dL_acts_1445 (hW.2.2.1 4 (by decide)) (show _ < 7 by omega) (by decide) ?_
  refine z_top (w := (nI (zN (x 11)))) (g1) ?_
  refine z_iconst (v := nI 0) C dL_acts_1446 (by decide) ?_
  refine z_callSX C Y_L_quote sm_yL_quote ml_RL_144 (c_L_quote l hW.1 hI) dL_acts_1447 rfl rfl (fun _ => Nat.le_of_ble_eq_true rfl) ⟨Nat.le_of_ble_eq_true rfl, Nat.le_of_ble_eq_true rfl⟩ (by show _ ≤ 300 ∧ _ ≤ 5000; omega) (z_w1 (kx_1 (band1 (ksel_n hI))) ?_) z_nx
  refine z_ldc C dL_acts_1450 kc_RL_28 ?_
  refine z_icmp_ne (tgt := 1459) C dL_acts_1452 (by decide) (fun h => absurd (rfl) h) (fun _ => ?_)
  refine z_iconst (v := nI 1) C dL_acts_1455 (by decide) ?_
  refine z_goto (tgt := 1460) C dL_acts_1456 (by decide) ?_
  exact z_iret C hr rfl dL_acts_1460 (Nat.le_of_ble_eq_true rfl) (Nat.le_of_ble_eq_true rfl) ⟨_, rfl, rfl, x, a, A, hW, hK1⟩
set_option maxRecDepth 100000 in
set_option maxHeartbeats 4000000 in
theorem ac_q2 (C : zC X p l s m args meth c9 cL_acts 18 RL) (hr : meth.sig.returnType = some .boolean) (hW : LW x a x a A σ) (hT : TI x a A K) (hK : K < 95) (hac : ac < zN (x 1)) (hse : se < zN (x 11)) (hch : ch < zN (x 15)) (q4 : 4 ≤ stN a ch) (hn : 30 ≤ zN (x 23)) : AG X p l e s m args below meth c9 σ0 loc0 K 0 0 σ 1361 [(0, aR 0 0), (1, aR 40 0), (2, aR 80 0), (3, aR 80 1), (4, aR 80 2), (5, aR 80 3), (6, aR 80 4), (7, aI (xx)), (8, aI (yy)), (9, aI (nI (kd))), (10, aI (nI (ac))), (11, aI (nI (se))), (12, aI (nI (ch)))] [] := by
  obtain ⟨hI, hJ, ⟨⟨t0, t1, t2, t3, t4, t5, t6⟩, hTa, hTb, hTd, hTq⟩, h0⟩ := id hT
  obtain ⟨i0, i1, i6, i11, i15, i23, i24, i29, iA, iS, iC, iQ, iP⟩ := id hI.1
  have b0 := i0.2
  have b1 := i1.2
  have b6 := i6.2
  have b11 := i11.2
  have b15 := hJ.1.1
  have b23 := hJ.1.2
  have b29 := i29.2
  have g0 : A 4 0 = nI (zN (x 1)) := t0.trans i1.1
  have g1 : A 4 1 = nI (zN (x 11)) := t1.trans i11.1
  have g2 : A 4 2 = nI (zN (x 15)) := t2.trans i15.1
  have g3 : A 4 3 = nI (zN (x 23)) := t3.trans i23.1
  have g4 : A 4 4 = nI (zN (x 6)) := t4.trans i6.1
  have g5 : A 4 5 = nI (zN (x 29)) := t5.trans i29.1
  have g6 : A 4 6 = nI (zN (x 0)) := t6.trans i0.1
  have hK1 := hT.up
  have hxb : ∀ n, n ≤ 100 → n < 2 ^ 31 := fun n h => by omega
  have hcb : ch < 2 ^ 31 := by omega
  have hseb : se < 2 ^ 31 := by omega
  obtain ⟨hs5, es⟩ := st_N hI hch
  obtain ⟨di, edi⟩ : ∃ di, lowN (yy >>> (nI 8 &&& 31)) 100 = di := ⟨_, rfl⟩
  have hdi : di < 100 := by rw [← edi]; exact lowN_lt (by decide)
  refine z_iload C dL_acts_1361 rfl ?_
  refine z_bipush (v := nI 8) C dL_acts_1363 (by decide) ?_
  refine z_ishr C dL_acts_1365 ?_
  refine z_bipush (v := nI 100) C dL_acts_1366 (by decide) ?_
  refine z_callS C Y_L_low sm_yL_low ml_RL_147 (c_L_low l (n := 100) (by omega) (by omega)) dL_acts_1368 rfl rfl (fun _ => Nat.le_of_ble_eq_true rfl) ⟨Nat.le_of_ble_eq_true rfl, Nat.le_of_ble_eq_true rfl⟩ (by show _ ≤ 300 ∧ _ ≤ 5000; omega) (z_p0 (w := (nI (di))) (congrArg nI edi) ?_) z_nx
  refine z_istore C dL_acts_1371 (by decide) ?_
  refine z_aload_n (i := 0) C dL_acts_1373 rfl rfl ?_
  refine z_iload C dL_acts_1374 rfl ?_
  refine z_callSX C Y_L_stage sm_yL_stage ml_RL_107 (c_L_stage l hW.1 hI) dL_acts_1376 rfl rfl (fun _ => Nat.le_of_ble_eq_true rfl) ⟨Nat.le_of_ble_eq_true rfl, Nat.le_of_ble_eq_true rfl⟩ (by show _ ≤ 300 ∧ _ ≤ 5000; omega) (z_q0 (w := (nI (stN a ch))) (goC_0.mpr ⟨kcha hI hch, rfl, rfl⟩) (by rw [zN_nI hcb]; exact es) ?_) z_nx
  refine z_iconst (v := nI 4) C dL_acts_1379 (by decide) ?_
  refine z_icmp_ge (tgt := 1387) C dL_acts_1380 (by decide) (fun _ => ?_) (fun h => absurd (nI_le q4 (by omega)) h)
  refine z_iconst (v := nI 0) C dL_acts_1387 (by decide) ?_
  refine z_istore C dL_acts_1388 (by decide) ?_
  refine z_aload C dL_acts_1390 rfl ?_
  refine z_iconst (v := nI 3) C dL_acts_1392 (by decide) ?_
  refine z_ialdN C dL_acts_1393 (hW.2.2.1 4 (by decide)) (show _ < 7 by omega) (by decide) ?_
  refine z_top (w := (nI (zN (x 23)))) (g3) ?_
  refine z_istore C dL_acts_1394 (by decide) ?_
  refine z_iload C dL_acts_1396 rfl ?_
  refine z_if_eq (tgt := 1413) C dL_acts_1398 (by decide) (fun _ => ?_) (fun h => absurd (rfl) h)
  refine z_ldc C dL_acts_1413 kc_RL_21 ?_
  refine z_istore C dL_acts_1415 (by decide) ?_
  refine z_iload C dL_acts_1417 rfl ?_
  refine z_bipush (v := nI 30) C dL_acts_1419 (by decide) ?_
  refine z_icmp_ne (tgt := 1461) C dL_acts_1421 (by decide) (fun h => absurd (by rw [show zN (x 23) = 30 by omega]) h) (fun _ => ?_)
  refine z_aload_n (i := 0) C dL_acts_1424 rfl rfl ?_
  refine z_iload C dL_acts_1425 rfl ?_
  refine z_iload C dL_acts_1427 rfl ?_
  refine z_bipush (v := nI 100) C dL_acts_1429 (by decide) ?_
  refine z_callSX C Y_L_quote sm_yL_quote ml_RL_144 (c_L_quote l hW.1 hI) dL_acts_1431 rfl rfl (fun _ => Nat.le_of_ble_eq_true rfl) ⟨Nat.le_of_ble_eq_true rfl, Nat.le_of_ble_eq_true rfl⟩ (by show _ ≤ 300 ∧ _ ≤ 5000; omega) (z_w2 (kx_2 (band (kcha hI hch) (ksel hI hse)) (by decide)) ?_) z_nx
  refine z_ldc C dL_acts_1434 kc_RL_18 ?_
  refine z_icmp_ne (tgt := 1459) C dL_acts_1436 (by decide) (fun h => absurd (rfl) h) (fun _ => ?_)
  refine z_aload_n (i := 0) C dL_acts_1439 rfl rfl ?_
  refine z_iload C dL_acts_1440 rfl ?_
  refine z_aload C dL_acts_1442 rfl ?_
  refine z_iconst (v := nI 1) C dL_acts_1444 (by decide) ?_
  refine z_ialdN C dL_acts_1445 (hW.2.2.1 4 (by decide)) (show _ < 7 by omega) (by decide) ?_
  refine z_top (w := (nI (zN (x 11)))) (g1) ?_
  refine z_iconst (v := nI 0) C dL_acts_1446 (by decide) ?_
  refine z_callSX C Y_L_quote sm_yL_quote ml_RL_144 (c_L_quote l hW.1 hI) dL_acts_1447 rfl rfl (fun _ => Nat.le_of_ble_eq_true rfl) ⟨Nat.le_of_ble_eq_true rfl, Nat.le_of_ble_eq_true rfl⟩ (by show _ ≤ 300 ∧ _ ≤ 5000; omega) (z_w1 (kx_1 (band1 (ksel_n hI))) ?_) z_nx
  refine z_ldc C dL_acts_1450 kc_RL_28 ?_
  refine z_icmp_ne (tgt := 1459) C dL_acts_1452 (by decide) (fun h => absurd (rfl) h) (fun _ => ?_)
  refine z_iconst (v := nI 1) C dL_acts_1455 (by decide) ?_
  refine z_goto (tgt := 1460) C dL_acts_1456 (by decide) ?_
  exact z_iret C hr rfl dL_acts_1460 (Nat.le_of_ble_eq_true rfl) (Nat.le_of_ble_eq_true rfl) ⟨_, rfl, rfl, x, a, A, hW, hK1⟩
set_option maxRecDepth 100000 in
set_option maxHeartbeats 4000000 in
theorem ac_q3 (C : zC X p l s m args meth c9 cL_acts 18 RL) (hr : meth.sig.returnType = some .boolean) (hW : LW x a x a A σ) (hT : TI x a A K) (hK : K < 95) (hac : ac < zN (x 1)) (hse : se < zN (x 11)) (hch : ch < zN (x 15)) (q4 : 4 ≤ stN a ch) (hn : zN (x 23) < 30) : AG X p l e s m args below meth c9 σ0 loc0 K 0 0 σ 1361 [(0, aR 0 0), (1, aR 40 0), (2, aR 80 0), (3, aR 80 1), (4, aR 80 2), (5, aR 80 3), (6, aR 80 4), (7, aI (xx)), (8, aI (yy)), (9, aI (nI (kd))), (10, aI (nI (ac))), (11, aI (nI (se))), (12, aI (nI (ch)))] [] := by
  obtain ⟨hI, hJ, ⟨⟨t0, t1, t2, t3, t4, t5, t6⟩, hTa, hTb, hTd, hTq⟩, h0⟩ := id hT
  obtain ⟨i0, i1, i6, i11, i15, i23, i24, i29, iA, iS, iC, iQ, iP⟩ := id hI.1
  have b0 := i0.2
  have b1 := i1.2
  have b6 := i6.2
  have b11 := i11.2
  have b15 := hJ.1.1
  have b23 := hJ.1.2
  have b29 := i29.2
  have g0 : A 4 0 = nI (zN (x 1)) := t0.trans i1.1
  have g1 : A 4 1 = nI (zN (x 11)) := t1.trans i11.1
  have g2 : A 4 2 = nI (zN (x 15)) := t2.trans i15.1
  have g3 : A 4 3 = nI (zN (x 23)) := t3.trans i23.1
  have g4 : A 4 4 = nI (zN (x 6)) := t4.trans i6.1
  have g5 : A 4 5 = nI (zN (x 29)) := t5.trans i29.1
  have g6 : A 4 6 = nI (zN (x 0)) := t6.trans i0.1
  have hK1 := hT.up
  have hxb : ∀ n, n ≤ 100 → n < 2 ^ 31 := fun n h => by omega
  have hcb : ch < 2 ^ 31 := by omega
  have hseb : se < 2 ^ 31 := by omega
  obtain ⟨hs5, es⟩ := st_N hI hch
  obtain ⟨di, edi⟩ : ∃ di, lowN (yy >>> (nI 8 &&& 31)) 100 = di := ⟨_, rfl⟩
  have hdi : di < 100 := by rw [← edi]; exact lowN_lt (by decide)
  refine z_iload C dL_acts_1361 rfl ?_
  refine z_bipush (v := nI 8) C dL_acts_1363 (by decide) ?_
  refine z_ishr C dL_acts_1365 ?_
  refine z_bipush (v := nI 100) C dL_acts_1366 (by decide) ?_
  refine z_callS C Y_L_low sm_yL_low ml_RL_147 (c_L_low l (n := 100) (by omega) (by omega)) dL_acts_1368 rfl rfl (fun _ => Nat.le_of_ble_eq_true rfl) ⟨Nat.le_of_ble_eq_true rfl, Nat.le_of_ble_eq_true rfl⟩ (by show _ ≤ 300 ∧ _ ≤ 5000; omega) (z_p0 (w := (nI (di))) (congrArg nI edi) ?_) z_nx
  refine z_istore C dL_acts_1371 (by decide) ?_
  refine z_aload_n (i := 0) C dL_acts_1373 rfl rfl ?_
  refine z_iload C dL_acts_1374 rfl ?_
  refine z_callSX C Y_L_stage sm_yL_stage ml_RL_107 (c_L_stage l hW.1 hI) dL_acts_1376 rfl rfl (fun _ => Nat.le_of_ble_eq_true rfl) ⟨Nat.le_of_ble_eq_true rfl, Nat.le_of_ble_eq_true rfl⟩ (by show _ ≤ 300 ∧ _ ≤ 5000; omega) (z_q0 (w := (nI (stN a ch))) (goC_0.mpr ⟨kcha hI hch, rfl, rfl⟩) (by rw [zN_nI hcb]; exact es) ?_) z_nx
  refine z_iconst (v := nI 4) C dL_acts_1379 (by decide) ?_
  refine z_icmp_ge (tgt := 1387) C dL_acts_1380 (by decide) (fun _ => ?_) (fun h => absurd (nI_le q4 (by omega)) h)
  refine z_iconst (v := nI 0) C dL_acts_1387 (by decide) ?_
  refine z_istore C dL_acts_1388 (by decide) ?_
  refine z_aload C dL_acts_1390 rfl ?_
  refine z_iconst (v := nI 3) C dL_acts_1392 (by decide) ?_
  refine z_ialdN C dL_acts_1393 (hW.2.2.1 4 (by decide)) (show _ < 7 by omega) (by decide) ?_
  refine z_top (w := (nI (zN (x 23)))) (g3) ?_
  refine z_istore C dL_acts_1394 (by decide) ?_
  refine z_iload C dL_acts_1396 rfl ?_
  refine z_if_eq (tgt := 1413) C dL_acts_1398 (by decide) (fun _ => ?_) (fun h => absurd (rfl) h)
  refine z_ldc C dL_acts_1413 kc_RL_21 ?_
  refine z_istore C dL_acts_1415 (by decide) ?_
  refine z_iload C dL_acts_1417 rfl ?_
  refine z_bipush (v := nI 30) C dL_acts_1419 (by decide) ?_
  have hop : opnB a ch = false := by unfold opnB; rw [es]; exact decide_eq_false (nI_nlt (b := 4) q4 (by omega))
  refine z_icmp_ne (tgt := 1461) C dL_acts_1421 (by decide) (fun _ => ?_) (fun h => absurd h (fun z => absurd ((nI_eq (b := 30) (by omega) (by decide)).mp z) (by omega)))
  refine z_iload C dL_acts_1461 rfl ?_
  refine z_if_lt (tgt := 1556) C dL_acts_1463 (by decide) (fun _ => ?_) (fun h => absurd (by decide) h)
  refine z_aload_n (i := 0) C dL_acts_1556 rfl rfl ?_
  refine z_iload C dL_acts_1557 rfl ?_
  refine z_iload C dL_acts_1559 rfl ?_
  refine z_iload C dL_acts_1561 rfl ?_
  refine z_callSX C Y_L_quote sm_yL_quote ml_RL_144 (c_L_quote l hW.1 hI) dL_acts_1563 rfl rfl (fun _ => Nat.le_of_ble_eq_true rfl) ⟨Nat.le_of_ble_eq_true rfl, Nat.le_of_ble_eq_true rfl⟩ (by show _ ≤ 300 ∧ _ ≤ 5000; omega) (z_w3 (kx_3 (band (kcha hI hch) (ksel hI hse)) (inB_nn (a := 0) (b := 99) (by omega) (by omega) (by decide)) (band1 (band0 (by rw [zN_nI hcb]; exact hop)))) ?_) z_nx
  refine z_iload C dL_acts_1566 rfl ?_
  refine z_icmp_ne (tgt := 1604) C dL_acts_1568 (by decide) (fun h => absurd (rfl) h) (fun _ => ?_)
  refine z_aload_n (i := 1) C dL_acts_1571 rfl rfl ?_
  refine z_iload C dL_acts_1572 rfl ?_
  refine z_iload C dL_acts_1574 rfl ?_
  refine z_iload C dL_acts_1576 rfl ?_
  refine z_callSX C Y_L_quote sm_yL_quote ml_RL_144 (c_T_quote l hW.2.1 hI) dL_acts_1578 rfl rfl (fun _ => Nat.le_of_ble_eq_true rfl) ⟨Nat.le_of_ble_eq_true rfl, Nat.le_of_ble_eq_true rfl⟩ (by show _ ≤ 300 ∧ _ ≤ 5000; omega) (z_x3 (kx_3 (band (kcha hI hch) (ksel hI hse)) (inB_nn (a := 0) (b := 99) (by omega) (by omega) (by decide)) (band1 (band0 (by rw [zN_nI hcb]; exact hop)))) ?_) z_nx
  refine z_iload C dL_acts_1581 rfl ?_
  refine z_icmp_ne (tgt := 1604) C dL_acts_1583 (by decide) (fun h => absurd (rfl) h) (fun _ => ?_)
  refine z_aload_n (i := 0) C dL_acts_1586 rfl rfl ?_
  refine z_iload C dL_acts_1587 rfl ?_
  refine z_iload C dL_acts_1589 rfl ?_
  refine z_iconst (v := (-1)) C dL_acts_1591 (by decide) ?_
  refine z_callSX C Y_L_quote sm_yL_quote ml_RL_144 (c_L_quote l hW.1 hI) dL_acts_1592 rfl rfl (fun _ => Nat.le_of_ble_eq_true rfl) ⟨Nat.le_of_ble_eq_true rfl, Nat.le_of_ble_eq_true rfl⟩ (by show _ ≤ 300 ∧ _ ≤ 5000; omega) (z_w2 (kx_2 (band (kcha hI hch) (ksel hI hse)) (by decide)) ?_) z_nx
  refine z_ldc C dL_acts_1595 kc_RL_18 ?_
  refine z_icmp_ne (tgt := 1604) C dL_acts_1597 (by decide) (fun h => absurd (rfl) h) (fun _ => ?_)
  refine z_iconst (v := nI 1) C dL_acts_1600 (by decide) ?_
  refine z_goto (tgt := 1605) C dL_acts_1601 (by decide) ?_
  exact z_iret C hr rfl dL_acts_1605 (Nat.le_of_ble_eq_true rfl) (Nat.le_of_ble_eq_true rfl) ⟨_, rfl, rfl, x, a, A, hW, hK1⟩
set_option maxRecDepth 100000 in
set_option maxHeartbeats 4000000 in
theorem ac_q4 (C : zC X p l s m args meth c9 cL_acts 18 RL) (hr : meth.sig.returnType = some .boolean) (hW : LW x a x a A σ) (hT : TI x a A K) (hK : K < 95) (hac : ac < zN (x 1)) (hse : se < zN (x 11)) (hch : ch < zN (x 15)) (q4 : stN a ch < 4) (hn : zN (x 23) < 30) : AG X p l e s m args below meth c9 σ0 loc0 K 0 0 σ 1361 [(0, aR 0 0), (1, aR 40 0), (2, aR 80 0), (3, aR 80 1), (4, aR 80 2), (5, aR 80 3), (6, aR 80 4), (7, aI (xx)), (8, aI (yy)), (9, aI (nI (kd))), (10, aI (nI (ac))), (11, aI (nI (se))), (12, aI (nI (ch)))] [] := by
  obtain ⟨hI, hJ, ⟨⟨t0, t1, t2, t3, t4, t5, t6⟩, hTa, hTb, hTd, hTq⟩, h0⟩ := id hT
  obtain ⟨i0, i1, i6, i11, i15, i23, i24, i29, iA, iS, iC, iQ, iP⟩ := id hI.1
  have b0 := i0.2
  have b1 := i1.2
  have b6 := i6.2
  have b11 := i11.2
  have b15 := hJ.1.1
  have b23 := hJ.1.2
  have b29 := i29.2
  have g0 : A 4 0 = nI (zN (x 1)) := t0.trans i1.1
  have g1 : A 4 1 = nI (zN (x 11)) := t1.trans i11.1
  have g2 : A 4 2 = nI (zN (x 15)) := t2.trans i15.1
  have g3 : A 4 3 = nI (zN (x 23)) := t3.trans i23.1
  have g4 : A 4 4 = nI (zN (x 6)) := t4.trans i6.1
  have g5 : A 4 5 = nI (zN (x 29)) := t5.trans i29.1
  have g6 : A 4 6 = nI (zN (x 0)) := t6.trans i0.1
  have hK1 := hT.up
  have hxb : ∀ n, n ≤ 100 → n < 2 ^ 31 := fun n h => by omega
  have hcb : ch < 2 ^ 31 := by omega
  have hseb : se < 2 ^ 31 := by omega
  obtain ⟨hs5, es⟩ := st_N hI hch
  obtain ⟨di, edi⟩ : ∃ di, lowN (yy >>> (nI 8 &&& 31)) 100 = di := ⟨_, rfl⟩
  have hdi : di < 100 := by rw [← edi]; exact lowN_lt (by decide)
  by_cases hat : nI di ≤ a 13 se
  · refine z_iload C dL_acts_1361 rfl ?_
    refine z_bipush (v := nI 8) C dL_acts_1363 (by decide) ?_
    refine z_ishr C dL_acts_1365 ?_
    refine z_bipush (v := nI 100) C dL_acts_1366 (by decide) ?_
    refine z_callS C Y_L_low sm_yL_low ml_RL_147 (c_L_low l (n := 100) (by omega) (by omega)) dL_acts_1368 rfl rfl (fun _ => Nat.le_of_ble_eq_true rfl) ⟨Nat.le_of_ble_eq_true rfl, Nat.le_of_ble_eq_true rfl⟩ (by show _ ≤ 300 ∧ _ ≤ 5000; omega) (z_p0 (w := (nI (di))) (congrArg nI edi) ?_) z_nx
    refine z_istore C dL_acts_1371 (by decide) ?_
    refine z_aload_n (i := 0) C dL_acts_1373 rfl rfl ?_
    refine z_iload C dL_acts_1374 rfl ?_
    refine z_callSX C Y_L_stage sm_yL_stage ml_RL_107 (c_L_stage l hW.1 hI) dL_acts_1376 rfl rfl (fun _ => Nat.le_of_ble_eq_true rfl) ⟨Nat.le_of_ble_eq_true rfl, Nat.le_of_ble_eq_true rfl⟩ (by show _ ≤ 300 ∧ _ ≤ 5000; omega) (z_q0 (w := (nI (stN a ch))) (goC_0.mpr ⟨kcha hI hch, rfl, rfl⟩) (by rw [zN_nI hcb]; exact es) ?_) z_nx
    refine z_iconst (v := nI 4) C dL_acts_1379 (by decide) ?_
    refine z_icmp_ge (tgt := 1387) C dL_acts_1380 (by decide) (fun h => absurd h (nI_ge q4 (by decide))) (fun _ => ?_)
    refine z_iconst (v := nI 1) C dL_acts_1383 (by decide) ?_
    refine z_goto (tgt := 1388) C dL_acts_1384 (by decide) ?_
    refine z_istore C dL_acts_1388 (by decide) ?_
    refine z_aload C dL_acts_1390 rfl ?_
    refine z_iconst (v := nI 3) C dL_acts_1392 (by decide) ?_
    refine z_ialdN C dL_acts_1393 (hW.2.2.1 4 (by decide)) (show _ < 7 by omega) (by decide) ?_
    refine z_top (w := (nI (zN (x 23)))) (g3) ?_
    refine z_istore C dL_acts_1394 (by decide) ?_
    refine z_iload C dL_acts_1396 rfl ?_
    refine z_if_eq (tgt := 1413) C dL_acts_1398 (by decide) (fun h => absurd h (by decide)) (fun _ => ?_)
    refine z_iload C dL_acts_1401 rfl ?_
    refine z_bipush (v := nI 30) C dL_acts_1403 (by decide) ?_
    refine z_icmp_ge (tgt := 1413) C dL_acts_1405 (by decide) (fun h => absurd h (nI_ge (b := 30) hn (by decide))) (fun _ => ?_)
    refine z_iload C dL_acts_1408 rfl ?_
    refine z_goto (tgt := 1415) C dL_acts_1410 (by decide) ?_
    refine z_istore C dL_acts_1415 (by decide) ?_
    refine z_iload C dL_acts_1417 rfl ?_
    refine z_bipush (v := nI 30) C dL_acts_1419 (by decide) ?_
    have hop : opnB a ch = true := by unfold opnB; rw [es]; exact decide_eq_true (nI_lt (b := 4) q4 (by decide))
    refine z_icmp_ne (tgt := 1461) C dL_acts_1421 (by decide) (fun _ => ?_) (fun h => absurd h (fun z => absurd ((nI_eq (b := 30) (by omega) (by decide)).mp z) (by omega)))
    refine z_iload C dL_acts_1461 rfl ?_
    refine z_if_lt (tgt := 1556) C dL_acts_1463 (by decide) (fun h => absurd h (nI_pos (by omega))) (fun _ => ?_)
    refine z_iload C dL_acts_1466 rfl ?_
    refine z_aload_n (i := 3) C dL_acts_1468 rfl rfl ?_
    refine z_iconst (v := nI 3) C dL_acts_1469 (by decide) ?_
    refine z_iload C dL_acts_1470 rfl ?_
    refine z_imul C dL_acts_1472 ?_
    refine z_top (w := (nI ((3 * se)))) (pk_mul _ _) ?_
    refine z_iconst (v := nI 1) C dL_acts_1473 (by decide) ?_
    refine z_iadd C dL_acts_1474 ?_
    refine z_top (w := (nI (((3 * se) + 1)))) (nI_add _ _) ?_
    refine z_ialdN C dL_acts_1475 (hW.2.2.1 1 (by decide)) (show _ < 24 by omega) (by decide) ?_
    refine z_top (w := (a 13 se)) ((hTb.1 se hse).2) ?_
    refine z_icmp_gt (tgt := 1483) C dL_acts_1476 (by decide) (fun h => absurd h (fun z => absurd (Int32.not_le.mpr z) (fun z2 => z2 hat))) (fun _ => ?_)
    refine z_iconst (v := nI 1) C dL_acts_1479 (by decide) ?_
    refine z_goto (tgt := 1484) C dL_acts_1480 (by decide) ?_
    refine z_istore C dL_acts_1484 (by decide) ?_
    refine z_aload C dL_acts_1486 rfl ?_
    refine z_iload C dL_acts_1488 rfl ?_
    refine z_ldc C dL_acts_1490 kc_RL_168 ?_
    refine z_top (w := (nI 10000000)) (by decide) ?_
    refine z_iload C dL_acts_1492 rfl ?_
    refine z_imul C dL_acts_1494 ?_
    refine z_top (w := (nI ((10000000 * ch)))) (pk_mul _ _) ?_
    refine z_sipush (v := nI 1000) C dL_acts_1495 (by decide) ?_
    refine z_iload C dL_acts_1498 rfl ?_
    refine z_imul C dL_acts_1500 ?_
    refine z_top (w := (nI ((1000 * di)))) (pk_mul _ _) ?_
    refine z_iadd C dL_acts_1501 ?_
    refine z_top (w := (nI (((10000000 * ch) + (1000 * di))))) (nI_add _ _) ?_
    refine z_bipush (v := nI 10) C dL_acts_1502 (by decide) ?_
    refine z_iload C dL_acts_1504 rfl ?_
    refine z_imul C dL_acts_1506 ?_
    refine z_top (w := (nI ((10 * se)))) (pk_mul _ _) ?_
    refine z_iadd C dL_acts_1507 ?_
    refine z_top (w := (nI ((((10000000 * ch) + (1000 * di)) + (10 * se))))) (nI_add _ _) ?_
    refine z_iload C dL_acts_1508 rfl ?_
    refine z_if_eq (tgt := 1517) C dL_acts_1510 (by decide) (fun h => absurd h (by decide)) (fun _ => ?_)
    refine z_iconst (v := nI 1) C dL_acts_1513 (by decide) ?_
    refine z_goto (tgt := 1518) C dL_acts_1514 (by decide) ?_
    refine z_iadd C dL_acts_1518 ?_
    refine z_top (w := (nI (((((10000000 * ch) + (1000 * di)) + (10 * se)) + 1)))) (nI_add _ _) ?_
    refine z_iastW (idx := zN (x 23)) C hW (j := 3) (by decide) dL_acts_1519 (show _ < 30 by omega) (fun σ1 A1 hW1 eA1 => ?_)
    have g0_1 : A1 4 0 = nI (zN (x 1)) := by rw [eA1]; exact g0
    have g1_1 : A1 4 1 = nI (zN (x 11)) := by rw [eA1]; exact g1
    have g2_1 : A1 4 2 = nI (zN (x 15)) := by rw [eA1]; exact g2
    have g3_1 : A1 4 3 = nI (zN (x 23)) := by rw [eA1]; exact g3
    have g4_1 : A1 4 4 = nI (zN (x 6)) := by rw [eA1]; exact g4
    have g5_1 : A1 4 5 = nI (zN (x 29)) := by rw [eA1]; exact g5
    have g6_1 : A1 4 6 = nI (zN (x 0)) := by rw [eA1]; exact g6
    refine z_aload C dL_acts_1520 rfl ?_
    refine z_iconst (v := nI 4) C dL_acts_1522 (by decide) ?_
    refine z_iload C dL_acts_1523 rfl ?_
    refine z_imul C dL_acts_1525 ?_
    refine z_top (w := (nI ((4 * ch)))) (pk_mul _ _) ?_
    refine z_iconst (v := nI 3) C dL_acts_1526 (by decide) ?_
    refine z_iadd C dL_acts_1527 ?_
    refine z_top (w := (nI (((4 * ch) + 3)))) (nI_add _ _) ?_
    refine z_iload C dL_acts_1528 rfl ?_
    refine z_if_eq (tgt := 1538) C dL_acts_1530 (by decide) (fun h => absurd h (by decide)) (fun _ => ?_)
    refine z_iload C dL_acts_1533 rfl ?_
    refine z_goto (tgt := 1547) C dL_acts_1535 (by decide) ?_
    refine z_iastW (idx := ((4 * ch) + 3)) C hW1 (j := 2) (by decide) dL_acts_1547 (show _ < 64 by omega) (fun σ2 A2 hW2 eA2 => ?_)
    have g0_2 : A2 4 0 = nI (zN (x 1)) := by rw [eA2]; exact g0_1
    have g1_2 : A2 4 1 = nI (zN (x 11)) := by rw [eA2]; exact g1_1
    have g2_2 : A2 4 2 = nI (zN (x 15)) := by rw [eA2]; exact g2_1
    have g3_2 : A2 4 3 = nI (zN (x 23)) := by rw [eA2]; exact g3_1
    have g4_2 : A2 4 4 = nI (zN (x 6)) := by rw [eA2]; exact g4_1
    have g5_2 : A2 4 5 = nI (zN (x 29)) := by rw [eA2]; exact g5_1
    have g6_2 : A2 4 6 = nI (zN (x 0)) := by rw [eA2]; exact g6_1
    refine z_aload C dL_acts_1548 rfl ?_
    refine z_iconst (v := nI 3) C dL_acts_1550 (by decide) ?_
    refine z_dup2 C (by first | trivial | rfl) (by first | trivial | rfl) dL_acts_1551 ?_
    refine z_ialdN C dL_acts_1552 (hW2.2.2.1 4 (by decide)) (show _ < 7 by omega) (by decide) ?_
    refine z_top (w := (nI (zN (x 23)))) (g3_2) ?_
    refine z_iconst (v := nI 1) C dL_acts_1553 (by decide) ?_
    refine z_iadd C dL_acts_1554 ?_
    refine z_top (w := (nI ((zN (x 23) + 1)))) (nI_add _ _) ?_
    refine z_iastW (idx := 3) C hW2 (j := 4) (by decide) dL_acts_1555 (show _ < 7 by omega) (fun σ3 A3 hW3 eA3 => ?_)
    have g0_3 : A3 4 0 = nI (zN (x 1)) := by rw [eA3]; exact g0_2
    have g1_3 : A3 4 1 = nI (zN (x 11)) := by rw [eA3]; exact g1_2
    have g2_3 : A3 4 2 = nI (zN (x 15)) := by rw [eA3]; exact g2_2
    have g3_3 : A3 4 3 = nI ((zN (x 23) + 1)) := by rw [eA3, ua_s]; exact upd_at
    have g4_3 : A3 4 4 = nI (zN (x 6)) := by rw [eA3]; exact g4_2
    have g5_3 : A3 4 5 = nI (zN (x 29)) := by rw [eA3]; exact g5_2
    have g6_3 : A3 4 6 = nI (zN (x 0)) := by rw [eA3]; exact g6_2
    have hT2 := keep_quote_at (A' := A3) (c := ch) (s := se) (d := di) hT hch hse (by omega) hn (by subst eA3; subst eA2; subst eA1; rfl) (by subst eA3; subst eA2; subst eA1; rfl) (by subst eA3; subst eA2; subst eA1; rfl) (by subst eA3; subst eA2; subst eA1; rfl) (by subst eA3; subst eA2; subst eA1; rfl)
    have hI2 := hT2.1
    refine z_aload_n (i := 0) C dL_acts_1556 rfl rfl ?_
    refine z_iload C dL_acts_1557 rfl ?_
    refine z_iload C dL_acts_1559 rfl ?_
    refine z_iload C dL_acts_1561 rfl ?_
    refine z_callSX C Y_L_quote sm_yL_quote ml_RL_144 (c_L_quote l hW3.1 hI) dL_acts_1563 rfl rfl (fun _ => Nat.le_of_ble_eq_true rfl) ⟨Nat.le_of_ble_eq_true rfl, Nat.le_of_ble_eq_true rfl⟩ (by show _ ≤ 300 ∧ _ ≤ 5000; omega) (z_w0 (w := (nI (zN (x 23)))) hW3 (goC_0.mpr ⟨(band (kcha hI hch) (ksel hI hse)), (inB_nn (a := 0) (b := 99) (by omega) (by omega) (by decide)), band (band (kcha hI hch) (ksel hI hse)) (band (by rw [zN_nI hcb]; exact hop) (lt_t (n := 40) i23 (by decide) (by omega) (by decide)))⟩) (i23.1) (fun σ4 hW4 => ?_)) z_nx
    rw [zN_nI hseb, if_pos hat, if_pos hat] at hW4
    refine z_iload C dL_acts_1566 rfl ?_
    refine z_icmp_ne (tgt := 1604) C dL_acts_1568 (by decide) (fun h => absurd (rfl) h) (fun _ => ?_)
    refine z_aload_n (i := 1) C dL_acts_1571 rfl rfl ?_
    refine z_iload C dL_acts_1572 rfl ?_
    refine z_iload C dL_acts_1574 rfl ?_
    refine z_iload C dL_acts_1576 rfl ?_
    refine z_callSX C Y_L_quote sm_yL_quote ml_RL_144 (c_T_quote l hW4.2.1 hI) dL_acts_1578 rfl rfl (fun _ => Nat.le_of_ble_eq_true rfl) ⟨Nat.le_of_ble_eq_true rfl, Nat.le_of_ble_eq_true rfl⟩ (by show _ ≤ 300 ∧ _ ≤ 5000; omega) (z_x0 (w := (nI (zN (x 23)))) hW4 (goC_0.mpr ⟨(band (kcha hI hch) (ksel hI hse)), (inB_nn (a := 0) (b := 99) (by omega) (by omega) (by decide)), band (band (kcha hI hch) (ksel hI hse)) (band (by rw [zN_nI hcb]; exact hop) (lt_t (n := 40) i23 (by decide) (by omega) (by decide)))⟩) (i23.1) (fun σ5 hW5 => ?_)) z_nx
    rw [zN_nI hseb, if_pos hat, if_pos hat] at hW5
    refine z_iload C dL_acts_1581 rfl ?_
    refine z_icmp_ne (tgt := 1604) C dL_acts_1583 (by decide) (fun h => absurd (rfl) h) (fun _ => ?_)
    refine z_aload_n (i := 0) C dL_acts_1586 rfl rfl ?_
    refine z_iload C dL_acts_1587 rfl ?_
    refine z_iload C dL_acts_1589 rfl ?_
    refine z_iconst (v := (-1)) C dL_acts_1591 (by decide) ?_
    refine z_callSX C Y_L_quote sm_yL_quote ml_RL_144 (c_L_quote l hW5.1 hI2) dL_acts_1592 rfl rfl (fun _ => Nat.le_of_ble_eq_true rfl) ⟨Nat.le_of_ble_eq_true rfl, Nat.le_of_ble_eq_true rfl⟩ (by show _ ≤ 300 ∧ _ ≤ 5000; omega) (z_w2 (kx_2 (band (kcha hI2 hch) (ksel hI2 hse)) (by decide)) ?_) z_nx
    refine z_ldc C dL_acts_1595 kc_RL_18 ?_
    refine z_icmp_ne (tgt := 1604) C dL_acts_1597 (by decide) (fun h => absurd (rfl) h) (fun _ => ?_)
    refine z_iconst (v := nI 1) C dL_acts_1600 (by decide) ?_
    refine z_goto (tgt := 1605) C dL_acts_1601 (by decide) ?_
    exact z_iret C hr rfl dL_acts_1605 (Nat.le_of_ble_eq_true rfl) (Nat.le_of_ble_eq_true rfl) ⟨_, rfl, rfl, _, _, A3, hW5, hT2.up⟩

  · refine z_iload C dL_acts_1361 rfl ?_
    refine z_bipush (v := nI 8) C dL_acts_1363 (by decide) ?_
    refine z_ishr C dL_acts_1365 ?_
    refine z_bipush (v := nI 100) C dL_acts_1366 (by decide) ?_
    refine z_callS C Y_L_low sm_yL_low ml_RL_147 (c_L_low l (n := 100) (by omega) (by omega)) dL_acts_1368 rfl rfl (fun _ => Nat.le_of_ble_eq_true rfl) ⟨Nat.le_of_ble_eq_true rfl, Nat.le_of_ble_eq_true rfl⟩ (by show _ ≤ 300 ∧ _ ≤ 5000; omega) (z_p0 (w := (nI (di))) (congrArg nI edi) ?_) z_nx
    refine z_istore C dL_acts_1371 (by decide) ?_
    refine z_aload_n (i := 0) C dL_acts_1373 rfl rfl ?_
    refine z_iload C dL_acts_1374 rfl ?_
    refine z_callSX C Y_L_stage sm_yL_stage ml_RL_107 (c_L_stage l hW.1 hI) dL_acts_1376 rfl rfl (fun _ => Nat.le_of_ble_eq_true rfl) ⟨Nat.le_of_ble_eq_true rfl, Nat.le_of_ble_eq_true rfl⟩ (by show _ ≤ 300 ∧ _ ≤ 5000; omega) (z_q0 (w := (nI (stN a ch))) (goC_0.mpr ⟨kcha hI hch, rfl, rfl⟩) (by rw [zN_nI hcb]; exact es) ?_) z_nx
    refine z_iconst (v := nI 4) C dL_acts_1379 (by decide) ?_
    refine z_icmp_ge (tgt := 1387) C dL_acts_1380 (by decide) (fun h => absurd h (nI_ge q4 (by decide))) (fun _ => ?_)
    refine z_iconst (v := nI 1) C dL_acts_1383 (by decide) ?_
    refine z_goto (tgt := 1388) C dL_acts_1384 (by decide) ?_
    refine z_istore C dL_acts_1388 (by decide) ?_
    refine z_aload C dL_acts_1390 rfl ?_
    refine z_iconst (v := nI 3) C dL_acts_1392 (by decide) ?_
    refine z_ialdN C dL_acts_1393 (hW.2.2.1 4 (by decide)) (show _ < 7 by omega) (by decide) ?_
    refine z_top (w := (nI (zN (x 23)))) (g3) ?_
    refine z_istore C dL_acts_1394 (by decide) ?_
    refine z_iload C dL_acts_1396 rfl ?_
    refine z_if_eq (tgt := 1413) C dL_acts_1398 (by decide) (fun h => absurd h (by decide)) (fun _ => ?_)
    refine z_iload C dL_acts_1401 rfl ?_
    refine z_bipush (v := nI 30) C dL_acts_1403 (by decide) ?_
    refine z_icmp_ge (tgt := 1413) C dL_acts_1405 (by decide) (fun h => absurd h (nI_ge (b := 30) hn (by decide))) (fun _ => ?_)
    refine z_iload C dL_acts_1408 rfl ?_
    refine z_goto (tgt := 1415) C dL_acts_1410 (by decide) ?_
    refine z_istore C dL_acts_1415 (by decide) ?_
    refine z_iload C dL_acts_1417 rfl ?_
    refine z_bipush (v := nI 30) C dL_acts_1419 (by decide) ?_
    have hop : opnB a ch = true := by unfold opnB; rw [es]; exact decide_eq_true (nI_lt (b := 4) q4 (by decide))
    refine z_icmp_ne (tgt := 1461) C dL_acts_1421 (by decide) (fun _ => ?_) (fun h => absurd h (fun z => absurd ((nI_eq (b := 30) (by omega) (by decide)).mp z) (by omega)))
    refine z_iload C dL_acts_1461 rfl ?_
    refine z_if_lt (tgt := 1556) C dL_acts_1463 (by decide) (fun h => absurd h (nI_pos (by omega))) (fun _ => ?_)
    refine z_iload C dL_acts_1466 rfl ?_
    refine z_aload_n (i := 3) C dL_acts_1468 rfl rfl ?_
    refine z_iconst (v := nI 3) C dL_acts_1469 (by decide) ?_
    refine z_iload C dL_acts_1470 rfl ?_
    refine z_imul C dL_acts_1472 ?_
    refine z_top (w := (nI ((3 * se)))) (pk_mul _ _) ?_
    refine z_iconst (v := nI 1) C dL_acts_1473 (by decide) ?_
    refine z_iadd C dL_acts_1474 ?_
    refine z_top (w := (nI (((3 * se) + 1)))) (nI_add _ _) ?_
    refine z_ialdN C dL_acts_1475 (hW.2.2.1 1 (by decide)) (show _ < 24 by omega) (by decide) ?_
    refine z_top (w := (a 13 se)) ((hTb.1 se hse).2) ?_
    refine z_icmp_gt (tgt := 1483) C dL_acts_1476 (by decide) (fun _ => ?_) (fun h => absurd (Int32.not_le.mp hat) h)
    refine z_iconst (v := nI 0) C dL_acts_1483 (by decide) ?_
    refine z_istore C dL_acts_1484 (by decide) ?_
    refine z_aload C dL_acts_1486 rfl ?_
    refine z_iload C dL_acts_1488 rfl ?_
    refine z_ldc C dL_acts_1490 kc_RL_168 ?_
    refine z_top (w := (nI 10000000)) (by decide) ?_
    refine z_iload C dL_acts_1492 rfl ?_
    refine z_imul C dL_acts_1494 ?_
    refine z_top (w := (nI ((10000000 * ch)))) (pk_mul _ _) ?_
    refine z_sipush (v := nI 1000) C dL_acts_1495 (by decide) ?_
    refine z_iload C dL_acts_1498 rfl ?_
    refine z_imul C dL_acts_1500 ?_
    refine z_top (w := (nI ((1000 * di)))) (pk_mul _ _) ?_
    refine z_iadd C dL_acts_1501 ?_
    refine z_top (w := (nI (((10000000 * ch) + (1000 * di))))) (nI_add _ _) ?_
    refine z_bipush (v := nI 10) C dL_acts_1502 (by decide) ?_
    refine z_iload C dL_acts_1504 rfl ?_
    refine z_imul C dL_acts_1506 ?_
    refine z_top (w := (nI ((10 * se)))) (pk_mul _ _) ?_
    refine z_iadd C dL_acts_1507 ?_
    refine z_top (w := (nI ((((10000000 * ch) + (1000 * di)) + (10 * se))))) (nI_add _ _) ?_
    refine z_iload C dL_acts_1508 rfl ?_
    refine z_if_eq (tgt := 1517) C dL_acts_1510 (by decide) (fun _ => ?_) (fun h => absurd (rfl) h)
    refine z_iconst (v := nI 0) C dL_acts_1517 (by decide) ?_
    refine z_iadd C dL_acts_1518 ?_
    refine z_top (w := (nI (((((10000000 * ch) + (1000 * di)) + (10 * se)) + 0)))) (nI_add _ _) ?_
    refine z_iastW (idx := zN (x 23)) C hW (j := 3) (by decide) dL_acts_1519 (show _ < 30 by omega) (fun σ1 A1 hW1 eA1 => ?_)
    have g0_1 : A1 4 0 = nI (zN (x 1)) := by rw [eA1]; exact g0
    have g1_1 : A1 4 1 = nI (zN (x 11)) := by rw [eA1]; exact g1
    have g2_1 : A1 4 2 = nI (zN (x 15)) := by rw [eA1]; exact g2
    have g3_1 : A1 4 3 = nI (zN (x 23)) := by rw [eA1]; exact g3
    have g4_1 : A1 4 4 = nI (zN (x 6)) := by rw [eA1]; exact g4
    have g5_1 : A1 4 5 = nI (zN (x 29)) := by rw [eA1]; exact g5
    have g6_1 : A1 4 6 = nI (zN (x 0)) := by rw [eA1]; exact g6
    refine z_aload C dL_acts_1520 rfl ?_
    refine z_iconst (v := nI 4) C dL_acts_1522 (by decide) ?_
    refine z_iload C dL_acts_1523 rfl ?_
    refine z_imul C dL_acts_1525 ?_
    refine z_top (w := (nI ((4 * ch)))) (pk_mul _ _) ?_
    refine z_iconst (v := nI 3) C dL_acts_1526 (by decide) ?_
    refine z_iadd C dL_acts_1527 ?_
    refine z_top (w := (nI (((4 * ch) + 3)))) (nI_add _ _) ?_
    refine z_iload C dL_acts_1528 rfl ?_
    refine z_if_eq (tgt := 1538) C dL_acts_1530 (by decide) (fun _ => ?_) (fun h => absurd (rfl) h)
    refine z_aload C dL_acts_1538 rfl ?_
    refine z_iconst (v := nI 4) C dL_acts_1540 (by decide) ?_
    refine z_iload C dL_acts_1541 rfl ?_
    refine z_imul C dL_acts_1543 ?_
    refine z_top (w := (nI ((4 * ch)))) (pk_mul _ _) ?_
    refine z_iconst (v := nI 3) C dL_acts_1544 (by decide) ?_
    refine z_iadd C dL_acts_1545 ?_
    refine z_top (w := (nI (((4 * ch) + 3)))) (nI_add _ _) ?_
    refine z_ialdN C dL_acts_1546 (hW1.2.2.1 2 (by decide)) (show _ < 64 by omega) (by decide) ?_
    refine z_top (w := (cnt x a (nI ch))) (by rw [eA1]; exact (hTd ch hch).2.2.1) ?_
    refine z_iastW (idx := ((4 * ch) + 3)) C hW1 (j := 2) (by decide) dL_acts_1547 (show _ < 64 by omega) (fun σ2 A2 hW2 eA2 => ?_)
    have g0_2 : A2 4 0 = nI (zN (x 1)) := by rw [eA2]; exact g0_1
    have g1_2 : A2 4 1 = nI (zN (x 11)) := by rw [eA2]; exact g1_1
    have g2_2 : A2 4 2 = nI (zN (x 15)) := by rw [eA2]; exact g2_1
    have g3_2 : A2 4 3 = nI (zN (x 23)) := by rw [eA2]; exact g3_1
    have g4_2 : A2 4 4 = nI (zN (x 6)) := by rw [eA2]; exact g4_1
    have g5_2 : A2 4 5 = nI (zN (x 29)) := by rw [eA2]; exact g5_1
    have g6_2 : A2 4 6 = nI (zN (x 0)) := by rw [eA2]; exact g6_1
    have eA9 : A2 = A1 := eA2.trans (ua_same (by rw [eA1]; exact (hTd ch hch).2.2.1))
    clear eA2
    subst eA9
    refine z_aload C dL_acts_1548 rfl ?_
    refine z_iconst (v := nI 3) C dL_acts_1550 (by decide) ?_
    refine z_dup2 C (by first | trivial | rfl) (by first | trivial | rfl) dL_acts_1551 ?_
    refine z_ialdN C dL_acts_1552 (hW2.2.2.1 4 (by decide)) (show _ < 7 by omega) (by decide) ?_
    refine z_top (w := (nI (zN (x 23)))) (g3_2) ?_
    refine z_iconst (v := nI 1) C dL_acts_1553 (by decide) ?_
    refine z_iadd C dL_acts_1554 ?_
    refine z_top (w := (nI ((zN (x 23) + 1)))) (nI_add _ _) ?_
    refine z_iastW (idx := 3) C hW2 (j := 4) (by decide) dL_acts_1555 (show _ < 7 by omega) (fun σ3 A3 hW3 eA3 => ?_)
    have g0_3 : A3 4 0 = nI (zN (x 1)) := by rw [eA3]; exact g0_2
    have g1_3 : A3 4 1 = nI (zN (x 11)) := by rw [eA3]; exact g1_2
    have g2_3 : A3 4 2 = nI (zN (x 15)) := by rw [eA3]; exact g2_2
    have g3_3 : A3 4 3 = nI ((zN (x 23) + 1)) := by rw [eA3, ua_s]; exact upd_at
    have g4_3 : A3 4 4 = nI (zN (x 6)) := by rw [eA3]; exact g4_2
    have g5_3 : A3 4 5 = nI (zN (x 29)) := by rw [eA3]; exact g5_2
    have g6_3 : A3 4 6 = nI (zN (x 0)) := by rw [eA3]; exact g6_2
    have hT2 := keep_quote (A' := A3) (c := ch) (s := se) (d := di) hT hch hse (by omega) hn (by subst eA3; subst eA1; rfl) (by subst eA3; subst eA1; rfl) (by subst eA3; subst eA1; rfl) (by subst eA3; subst eA1; rfl) (by subst eA3; subst eA1; rfl)
    have hI2 := hT2.1
    refine z_aload_n (i := 0) C dL_acts_1556 rfl rfl ?_
    refine z_iload C dL_acts_1557 rfl ?_
    refine z_iload C dL_acts_1559 rfl ?_
    refine z_iload C dL_acts_1561 rfl ?_
    refine z_callSX C Y_L_quote sm_yL_quote ml_RL_144 (c_L_quote l hW3.1 hI) dL_acts_1563 rfl rfl (fun _ => Nat.le_of_ble_eq_true rfl) ⟨Nat.le_of_ble_eq_true rfl, Nat.le_of_ble_eq_true rfl⟩ (by show _ ≤ 300 ∧ _ ≤ 5000; omega) (z_w0 (w := (nI (zN (x 23)))) hW3 (goC_0.mpr ⟨(band (kcha hI hch) (ksel hI hse)), (inB_nn (a := 0) (b := 99) (by omega) (by omega) (by decide)), band (band (kcha hI hch) (ksel hI hse)) (band (by rw [zN_nI hcb]; exact hop) (lt_t (n := 40) i23 (by decide) (by omega) (by decide)))⟩) (i23.1) (fun σ4 hW4 => ?_)) z_nx
    rw [zN_nI hseb, if_neg hat, if_neg hat] at hW4
    refine z_iload C dL_acts_1566 rfl ?_
    refine z_icmp_ne (tgt := 1604) C dL_acts_1568 (by decide) (fun h => absurd (rfl) h) (fun _ => ?_)
    refine z_aload_n (i := 1) C dL_acts_1571 rfl rfl ?_
    refine z_iload C dL_acts_1572 rfl ?_
    refine z_iload C dL_acts_1574 rfl ?_
    refine z_iload C dL_acts_1576 rfl ?_
    refine z_callSX C Y_L_quote sm_yL_quote ml_RL_144 (c_T_quote l hW4.2.1 hI) dL_acts_1578 rfl rfl (fun _ => Nat.le_of_ble_eq_true rfl) ⟨Nat.le_of_ble_eq_true rfl, Nat.le_of_ble_eq_true rfl⟩ (by show _ ≤ 300 ∧ _ ≤ 5000; omega) (z_x0 (w := (nI (zN (x 23)))) hW4 (goC_0.mpr ⟨(band (kcha hI hch) (ksel hI hse)), (inB_nn (a := 0) (b := 99) (by omega) (by omega) (by decide)), band (band (kcha hI hch) (ksel hI hse)) (band (by rw [zN_nI hcb]; exact hop) (lt_t (n := 40) i23 (by decide) (by omega) (by decide)))⟩) (i23.1) (fun σ5 hW5 => ?_)) z_nx
    rw [zN_nI hseb, if_neg hat, if_neg hat] at hW5
    refine z_iload C dL_acts_1581 rfl ?_
    refine z_icmp_ne (tgt := 1604) C dL_acts_1583 (by decide) (fun h => absurd (rfl) h) (fun _ => ?_)
    refine z_aload_n (i := 0) C dL_acts_1586 rfl rfl ?_
    refine z_iload C dL_acts_1587 rfl ?_
    refine z_iload C dL_acts_1589 rfl ?_
    refine z_iconst (v := (-1)) C dL_acts_1591 (by decide) ?_
    refine z_callSX C Y_L_quote sm_yL_quote ml_RL_144 (c_L_quote l hW5.1 hI2) dL_acts_1592 rfl rfl (fun _ => Nat.le_of_ble_eq_true rfl) ⟨Nat.le_of_ble_eq_true rfl, Nat.le_of_ble_eq_true rfl⟩ (by show _ ≤ 300 ∧ _ ≤ 5000; omega) (z_w2 (kx_2 (band (kcha hI2 hch) (ksel hI2 hse)) (by decide)) ?_) z_nx
    refine z_ldc C dL_acts_1595 kc_RL_18 ?_
    refine z_icmp_ne (tgt := 1604) C dL_acts_1597 (by decide) (fun h => absurd (rfl) h) (fun _ => ?_)
    refine z_iconst (v := nI 1) C dL_acts_1600 (by decide) ?_
    refine z_goto (tgt := 1605) C dL_acts_1601 (by decide) ?_
    exact z_iret C hr rfl dL_acts_1605 (Nat.le_of_ble_eq_true rfl) (Nat.le_of_ble_eq_true rfl) ⟨_, rfl, rfl, _, _, A3, hW5, hT2.up⟩
theorem ac_q (C : zC X p l s m args meth c9 cL_acts 18 RL) (hr : meth.sig.returnType = some .boolean) (hW : LW x a x a A σ) (hT : TI x a A K) (hK : K < 95) (hac : ac < zN (x 1)) (hse : se < zN (x 11)) (hch : ch < zN (x 15)) : AG X p l e s m args below meth c9 σ0 loc0 K 0 0 σ 1361 [(0, aR 0 0), (1, aR 40 0), (2, aR 80 0), (3, aR 80 1), (4, aR 80 2), (5, aR 80 3), (6, aR 80 4), (7, aI (xx)), (8, aI (yy)), (9, aI (nI (kd))), (10, aI (nI (ac))), (11, aI (nI (se))), (12, aI (nI (ch)))] [] := by
  rcases Nat.lt_or_ge (stN a ch) 4 with q4 | q4
  · rcases Nat.lt_or_ge (zN (x 23)) 30 with hn | hn
    · exact ac_q4 C hr hW hT hK hac hse hch q4 hn
    · exact ac_q1 C hr hW hT hK hac hse hch q4 hn
  · rcases Nat.lt_or_ge (zN (x 23)) 30 with hn | hn
    · exact ac_q3 C hr hW hT hK hac hse hch q4 hn
    · exact ac_q2 C hr hW hT hK hac hse hch q4 hn
set_option maxRecDepth 100000 in
set_option maxHeartbeats 4000000 in
theorem ap_1 (C : zC X p l s m args meth c9 cL_acts 18 RL) (hr : meth.sig.returnType = some .boolean) (hW : LW x a x a A σ) (hT : TI x a A K) (hK : K < 95) (hac : ac < zN (x 1)) (hse : se < zN (x 11)) (hch : ch < zN (x 15)) {k9 c0 s9 d9 : Nat} (hk9 : k9 < zN (x 23)) (hc0 : c0 < zN (x 15)) (ec0 : a 25 k9 = nI c0) (hs9 : s9 < zN (x 11)) (es9 : a 26 k9 = nI s9) (hd9 : d9 ≤ 99) (ed9 : a 27 k9 = nI d9) (hcan : (decide (a 28 k9 = 0) && (opnB a c0 && (abvB a (nI se) s9 && decide (a 27 k9 ≤ a 13 se)))) = true) : AG X p l e s m args below meth c9 σ0 loc0 K 30 500 σ 1754 [(0, aR 0 0), (1, aR 40 0), (2, aR 80 0), (3, aR 80 1), (4, aR 80 2), (5, aR 80 3), (6, aR 80 4), (7, aI (xx)), (8, aI (yy)), (9, aI (nI (kd))), (10, aI (nI (ac))), (11, aI (nI (se))), (12, aI (nI (ch))), (13, aI (nI (k9))), (14, aI (nI (c0)))] [aI (nI 1)] := by
  obtain ⟨hI, hJ, ⟨⟨t0, t1, t2, t3, t4, t5, t6⟩, hTa, hTb, hTd, hTq⟩, h0⟩ := id hT
  obtain ⟨i0, i1, i6, i11, i15, i23, i24, i29, iA, iS, iC, iQ, iP⟩ := id hI.1
  have b0 := i0.2
  have b1 := i1.2
  have b6 := i6.2
  have b11 := i11.2
  have b15 := hJ.1.1
  have b23 := hJ.1.2
  have b29 := i29.2
  have g0 : A 4 0 = nI (zN (x 1)) := t0.trans i1.1
  have g1 : A 4 1 = nI (zN (x 11)) := t1.trans i11.1
  have g2 : A 4 2 = nI (zN (x 15)) := t2.trans i15.1
  have g3 : A 4 3 = nI (zN (x 23)) := t3.trans i23.1
  have g4 : A 4 4 = nI (zN (x 6)) := t4.trans i6.1
  have g5 : A 4 5 = nI (zN (x 29)) := t5.trans i29.1
  have g6 : A 4 6 = nI (zN (x 0)) := t6.trans i0.1
  have hK1 := hT.up
  have hxb : ∀ n, n ≤ 100 → n < 2 ^ 31 := fun n h => by omega
  have hkb : k9 < 2 ^ 31 := by omega
  have hcb : c0 < 2 ^ 31 := by omega
  have hseb : se < 2 ^ 31 := by omega
  have hsb : s9 < 2 ^ 31 := by omega
  have hq9 := hTq k9 hk9
  have hqb : qN a k9 < 2 ^ 31 ∧ qN a k9 / 10000000 = c0 ∧ qN a k9 / 10 % 10 = s9 ∧ qN a k9 / 1000 % 1000 = d9 ∧ qN a k9 % 10 = if a 28 k9 = 0 then 0 else 1 := by
    unfold qN
    rw [ec0, es9, ed9, zN_nI (by omega), zN_nI (by omega), zN_nI (by omega)]
    by_cases e0 : a 28 k9 = 0
    · rw [if_pos e0]; omega
    · rw [if_neg e0]; omega
  obtain ⟨hq1, hq2, hq3, hq4, hq5⟩ := hqb
  refine z_istore C dL_acts_1754 (by decide) ?_
  refine z_aload C dL_acts_1756 rfl ?_
  refine z_iload C dL_acts_1758 rfl ?_
  refine z_dup2 C (by first | trivial | rfl) (by first | trivial | rfl) dL_acts_1760 ?_
  refine z_ialdN C dL_acts_1761 (hW.2.2.1 3 (by decide)) (show _ < 30 by omega) (by decide) ?_
  refine z_top (w := (nI (qN a k9))) (hq9) ?_
  refine z_iload C dL_acts_1762 rfl ?_
  refine z_if_eq (tgt := 1771) C dL_acts_1764 (by decide) (fun h => absurd h (by decide)) (fun _ => ?_)
  refine z_iconst (v := nI 1) C dL_acts_1767 (by decide) ?_
  refine z_goto (tgt := 1772) C dL_acts_1768 (by decide) ?_
  refine z_iadd C dL_acts_1772 ?_
  refine z_top (w := (nI ((qN a k9 + 1)))) (nI_add _ _) ?_
  refine z_iastW (idx := k9) C hW (j := 3) (by decide) dL_acts_1773 (show _ < 30 by omega) (fun σ1 A1 hW1 eA1 => ?_)
  have g0_1 : A1 4 0 = nI (zN (x 1)) := by rw [eA1]; exact g0
  have g1_1 : A1 4 1 = nI (zN (x 11)) := by rw [eA1]; exact g1
  have g2_1 : A1 4 2 = nI (zN (x 15)) := by rw [eA1]; exact g2
  have g3_1 : A1 4 3 = nI (zN (x 23)) := by rw [eA1]; exact g3
  have g4_1 : A1 4 4 = nI (zN (x 6)) := by rw [eA1]; exact g4
  have g5_1 : A1 4 5 = nI (zN (x 29)) := by rw [eA1]; exact g5
  have g6_1 : A1 4 6 = nI (zN (x 0)) := by rw [eA1]; exact g6
  refine z_aload C dL_acts_1774 rfl ?_
  refine z_iconst (v := nI 4) C dL_acts_1776 (by decide) ?_
  refine z_iload C dL_acts_1777 rfl ?_
  refine z_imul C dL_acts_1779 ?_
  refine z_top (w := (nI ((4 * c0)))) (pk_mul _ _) ?_
  refine z_iconst (v := nI 3) C dL_acts_1780 (by decide) ?_
  refine z_iadd C dL_acts_1781 ?_
  refine z_top (w := (nI (((4 * c0) + 3)))) (nI_add _ _) ?_
  refine z_iload C dL_acts_1782 rfl ?_
  refine z_if_eq (tgt := 1792) C dL_acts_1784 (by decide) (fun h => absurd h (by decide)) (fun _ => ?_)
  refine z_iload C dL_acts_1787 rfl ?_
  refine z_goto (tgt := 1801) C dL_acts_1789 (by decide) ?_
  refine z_iastW (idx := ((4 * c0) + 3)) C hW1 (j := 2) (by decide) dL_acts_1801 (show _ < 64 by omega) (fun σ2 A2 hW2 eA2 => ?_)
  have g0_2 : A2 4 0 = nI (zN (x 1)) := by rw [eA2]; exact g0_1
  have g1_2 : A2 4 1 = nI (zN (x 11)) := by rw [eA2]; exact g1_1
  have g2_2 : A2 4 2 = nI (zN (x 15)) := by rw [eA2]; exact g2_1
  have g3_2 : A2 4 3 = nI (zN (x 23)) := by rw [eA2]; exact g3_1
  have g4_2 : A2 4 4 = nI (zN (x 6)) := by rw [eA2]; exact g4_1
  have g5_2 : A2 4 5 = nI (zN (x 29)) := by rw [eA2]; exact g5_1
  have g6_2 : A2 4 6 = nI (zN (x 0)) := by rw [eA2]; exact g6_1
  have h28 := of_decide_eq_true (bAnd hcan).1
  have hT2 := keep_approve (A' := A2) hT hk9 ec0 hc0 h28 (by subst eA2; subst eA1; rfl) (by subst eA2; subst eA1; rfl) (by subst eA2; subst eA1; rfl) (by subst eA2; subst eA1; rfl) (by subst eA2; subst eA1; rfl)
  have hI2 := hT2.1
  refine z_aload_n (i := 0) C dL_acts_1802 rfl rfl ?_
  refine z_iload C dL_acts_1803 rfl ?_
  refine z_iload C dL_acts_1805 rfl ?_
  refine z_callSX C Y_L_approve sm_yL_approve ml_RL_169 (c_L_approve l hW2.1 hI) dL_acts_1807 rfl rfl (fun _ => Nat.le_of_ble_eq_true rfl) ⟨Nat.le_of_ble_eq_true rfl, Nat.le_of_ble_eq_true rfl⟩ (by show _ ≤ 300 ∧ _ ≤ 5000; omega) (z_w0 (w := (nI 0)) hW2 (goC_0.mpr ⟨(band (inB_nI i23 (by decide) hk9) (ksel hI hse)), band (band (inB_nI i23 (by decide) hk9) (ksel hI hse)) (by rw [zN_nI hkb, ec0, es9, zN_nI hcb, zN_nI hsb, zN_nI hseb]; exact hcan), rfl⟩) (rfl) (fun σ3 hW3 => ?_)) z_nx
  rw [zN_nI hkb] at hW3
  refine z_iload C dL_acts_1810 rfl ?_
  refine z_if_eq (tgt := 1819) C dL_acts_1812 (by decide) (fun h => absurd h (by decide)) (fun _ => ?_)
  refine z_iconst (v := nI 0) C dL_acts_1815 (by decide) ?_
  refine z_goto (tgt := 1821) C dL_acts_1816 (by decide) ?_
  refine z_icmp_ne (tgt := 1865) C dL_acts_1821 (by decide) (fun h => absurd (rfl) h) (fun _ => ?_)
  refine z_aload_n (i := 1) C dL_acts_1824 rfl rfl ?_
  refine z_iload C dL_acts_1825 rfl ?_
  refine z_iload C dL_acts_1827 rfl ?_
  refine z_callSX C Y_L_approve sm_yL_approve ml_RL_169 (c_T_approve l hW3.2.1 hI) dL_acts_1829 rfl rfl (fun _ => Nat.le_of_ble_eq_true rfl) ⟨Nat.le_of_ble_eq_true rfl, Nat.le_of_ble_eq_true rfl⟩ (by show _ ≤ 300 ∧ _ ≤ 5000; omega) (z_x0 (w := (nI 0)) hW3 (goC_0.mpr ⟨(band (inB_nI i23 (by decide) hk9) (ksel hI hse)), band (band (inB_nI i23 (by decide) hk9) (ksel hI hse)) (by rw [zN_nI hkb, ec0, es9, zN_nI hcb, zN_nI hsb, zN_nI hseb]; exact hcan), rfl⟩) (rfl) (fun σ4 hW4 => ?_)) z_nx
  rw [zN_nI hkb] at hW4
  refine z_iload C dL_acts_1832 rfl ?_
  refine z_if_eq (tgt := 1841) C dL_acts_1834 (by decide) (fun h => absurd h (by decide)) (fun _ => ?_)
  refine z_iconst (v := nI 0) C dL_acts_1837 (by decide) ?_
  refine z_goto (tgt := 1843) C dL_acts_1838 (by decide) ?_
  refine z_icmp_ne (tgt := 1865) C dL_acts_1843 (by decide) (fun h => absurd (rfl) h) (fun _ => ?_)
  refine z_aload_n (i := 0) C dL_acts_1846 rfl rfl ?_
  refine z_aload C dL_acts_1847 rfl ?_
  refine z_iconst (v := nI 3) C dL_acts_1849 (by decide) ?_
  refine z_ialdN C dL_acts_1850 (hW4.2.2.1 4 (by decide)) (show _ < 7 by omega) (by decide) ?_
  refine z_top (w := (nI (zN (x 23)))) (g3_2) ?_
  refine z_iload C dL_acts_1851 rfl ?_
  refine z_callSX C Y_L_approve sm_yL_approve ml_RL_169 (c_L_approve l hW4.1 hI2) dL_acts_1853 rfl rfl (fun _ => Nat.le_of_ble_eq_true rfl) ⟨Nat.le_of_ble_eq_true rfl, Nat.le_of_ble_eq_true rfl⟩ (by show _ ≤ 300 ∧ _ ≤ 5000; omega) (z_w1 (kx_1 (band0 (inB_out hI2.1.2.2.2.2.2.1 (by decide) (Nat.le_refl _) (by omega)))) ?_) z_nx
  refine z_ldc C dL_acts_1856 kc_RL_28 ?_
  refine z_icmp_ne (tgt := 1865) C dL_acts_1858 (by decide) (fun h => absurd (rfl) h) (fun _ => ?_)
  refine z_iconst (v := nI 1) C dL_acts_1861 (by decide) ?_
  refine z_goto (tgt := 1866) C dL_acts_1862 (by decide) ?_
  exact z_iret C hr rfl dL_acts_1866 (Nat.le_of_ble_eq_true rfl) (Nat.le_of_ble_eq_true rfl) ⟨_, rfl, rfl, _, _, A2, hW4, hT2.up⟩
set_option maxRecDepth 100000 in
set_option maxHeartbeats 4000000 in
theorem ap_0 (C : zC X p l s m args meth c9 cL_acts 18 RL) (hr : meth.sig.returnType = some .boolean) (hW : LW x a x a A σ) (hT : TI x a A K) (hK : K < 95) (hac : ac < zN (x 1)) (hse : se < zN (x 11)) (hch : ch < zN (x 15)) {k9 c0 s9 d9 : Nat} (hk9 : k9 < zN (x 23)) (hc0 : c0 < zN (x 15)) (ec0 : a 25 k9 = nI c0) (hs9 : s9 < zN (x 11)) (es9 : a 26 k9 = nI s9) (hd9 : d9 ≤ 99) (ed9 : a 27 k9 = nI d9) (hcan : (decide (a 28 k9 = 0) && (opnB a c0 && (abvB a (nI se) s9 && decide (a 27 k9 ≤ a 13 se)))) = false) : AG X p l e s m args below meth c9 σ0 loc0 K 30 500 σ 1754 [(0, aR 0 0), (1, aR 40 0), (2, aR 80 0), (3, aR 80 1), (4, aR 80 2), (5, aR 80 3), (6, aR 80 4), (7, aI (xx)), (8, aI (yy)), (9, aI (nI (kd))), (10, aI (nI (ac))), (11, aI (nI (se))), (12, aI (nI (ch))), (13, aI (nI (k9))), (14, aI (nI (c0)))] [aI (nI 0)] := by
  obtain ⟨hI, hJ, ⟨⟨t0, t1, t2, t3, t4, t5, t6⟩, hTa, hTb, hTd, hTq⟩, h0⟩ := id hT
  obtain ⟨i0, i1, i6, i11, i15, i23, i24, i29, iA, iS, iC, iQ, iP⟩ := id hI.1
  have b0 := i0.2
  have b1 := i1.2
  have b6 := i6.2
  have b11 := i11.2
  have b15 := hJ.1.1
  have b23 := hJ.1.2
  have b29 := i29.2
  have g0 : A 4 0 = nI (zN (x 1)) := t0.trans i1.1
  have g1 : A 4 1 = nI (zN (x 11)) := t1.trans i11.1
  have g2 : A 4 2 = nI (zN (x 15)) := t2.trans i15.1
  have g3 : A 4 3 = nI (zN (x 23)) := t3.trans i23.1
  have g4 : A 4 4 = nI (zN (x 6)) := t4.trans i6.1
  have g5 : A 4 5 = nI (zN (x 29)) := t5.trans i29.1
  have g6 : A 4 6 = nI (zN (x 0)) := t6.trans i0.1
  have hK1 := hT.up
  have hxb : ∀ n, n ≤ 100 → n < 2 ^ 31 := fun n h => by omega
  have hkb : k9 < 2 ^ 31 := by omega
  have hcb : c0 < 2 ^ 31 := by omega
  have hseb : se < 2 ^ 31 := by omega
  have hsb : s9 < 2 ^ 31 := by omega
  have hq9 := hTq k9 hk9
  have hqb : qN a k9 < 2 ^ 31 ∧ qN a k9 / 10000000 = c0 ∧ qN a k9 / 10 % 10 = s9 ∧ qN a k9 / 1000 % 1000 = d9 ∧ qN a k9 % 10 = if a 28 k9 = 0 then 0 else 1 := by
    unfold qN
    rw [ec0, es9, ed9, zN_nI (by omega), zN_nI (by omega), zN_nI (by omega)]
    by_cases e0 : a 28 k9 = 0
    · rw [if_pos e0]; omega
    · rw [if_neg e0]; omega
  obtain ⟨hq1, hq2, hq3, hq4, hq5⟩ := hqb
  refine z_istore C dL_acts_1754 (by decide) ?_
  refine z_aload C dL_acts_1756 rfl ?_
  refine z_iload C dL_acts_1758 rfl ?_
  refine z_dup2 C (by first | trivial | rfl) (by first | trivial | rfl) dL_acts_1760 ?_
  refine z_ialdN C dL_acts_1761 (hW.2.2.1 3 (by decide)) (show _ < 30 by omega) (by decide) ?_
  refine z_top (w := (nI (qN a k9))) (hq9) ?_
  refine z_iload C dL_acts_1762 rfl ?_
  refine z_if_eq (tgt := 1771) C dL_acts_1764 (by decide) (fun _ => ?_) (fun h => absurd (rfl) h)
  refine z_iconst (v := nI 0) C dL_acts_1771 (by decide) ?_
  refine z_iadd C dL_acts_1772 ?_
  refine z_top (w := (nI ((qN a k9 + 0)))) (nI_add _ _) ?_
  refine z_iastW (idx := k9) C hW (j := 3) (by decide) dL_acts_1773 (show _ < 30 by omega) (fun σ1 A1 hW1 eA1 => ?_)
  have g0_1 : A1 4 0 = nI (zN (x 1)) := by rw [eA1]; exact g0
  have g1_1 : A1 4 1 = nI (zN (x 11)) := by rw [eA1]; exact g1
  have g2_1 : A1 4 2 = nI (zN (x 15)) := by rw [eA1]; exact g2
  have g3_1 : A1 4 3 = nI (zN (x 23)) := by rw [eA1]; exact g3
  have g4_1 : A1 4 4 = nI (zN (x 6)) := by rw [eA1]; exact g4
  have g5_1 : A1 4 5 = nI (zN (x 29)) := by rw [eA1]; exact g5
  have g6_1 : A1 4 6 = nI (zN (x 0)) := by rw [eA1]; exact g6
  have eA9 : A1 = A := eA1.trans (ua_same hq9)
  clear eA1
  subst eA9
  refine z_aload C dL_acts_1774 rfl ?_
  refine z_iconst (v := nI 4) C dL_acts_1776 (by decide) ?_
  refine z_iload C dL_acts_1777 rfl ?_
  refine z_imul C dL_acts_1779 ?_
  refine z_top (w := (nI ((4 * c0)))) (pk_mul _ _) ?_
  refine z_iconst (v := nI 3) C dL_acts_1780 (by decide) ?_
  refine z_iadd C dL_acts_1781 ?_
  refine z_top (w := (nI (((4 * c0) + 3)))) (nI_add _ _) ?_
  refine z_iload C dL_acts_1782 rfl ?_
  refine z_if_eq (tgt := 1792) C dL_acts_1784 (by decide) (fun _ => ?_) (fun h => absurd (rfl) h)
  refine z_aload C dL_acts_1792 rfl ?_
  refine z_iconst (v := nI 4) C dL_acts_1794 (by decide) ?_
  refine z_iload C dL_acts_1795 rfl ?_
  refine z_imul C dL_acts_1797 ?_
  refine z_top (w := (nI ((4 * c0)))) (pk_mul _ _) ?_
  refine z_iconst (v := nI 3) C dL_acts_1798 (by decide) ?_
  refine z_iadd C dL_acts_1799 ?_
  refine z_top (w := (nI (((4 * c0) + 3)))) (nI_add _ _) ?_
  refine z_ialdN C dL_acts_1800 (hW1.2.2.1 2 (by decide)) (show _ < 64 by omega) (by decide) ?_
  refine z_top (w := (cnt x a (nI c0))) ((hTd c0 hc0).2.2.1) ?_
  refine z_iastW (idx := ((4 * c0) + 3)) C hW1 (j := 2) (by decide) dL_acts_1801 (show _ < 64 by omega) (fun σ2 A2 hW2 eA2 => ?_)
  have g0_2 : A2 4 0 = nI (zN (x 1)) := by rw [eA2]; exact g0_1
  have g1_2 : A2 4 1 = nI (zN (x 11)) := by rw [eA2]; exact g1_1
  have g2_2 : A2 4 2 = nI (zN (x 15)) := by rw [eA2]; exact g2_1
  have g3_2 : A2 4 3 = nI (zN (x 23)) := by rw [eA2]; exact g3_1
  have g4_2 : A2 4 4 = nI (zN (x 6)) := by rw [eA2]; exact g4_1
  have g5_2 : A2 4 5 = nI (zN (x 29)) := by rw [eA2]; exact g5_1
  have g6_2 : A2 4 6 = nI (zN (x 0)) := by rw [eA2]; exact g6_1
  have eA9 : A2 = A1 := eA2.trans (ua_same (hTd c0 hc0).2.2.1)
  clear eA2
  subst eA9
  refine z_aload_n (i := 0) C dL_acts_1802 rfl rfl ?_
  refine z_iload C dL_acts_1803 rfl ?_
  refine z_iload C dL_acts_1805 rfl ?_
  refine z_callSX C Y_L_approve sm_yL_approve ml_RL_169 (c_L_approve l hW2.1 hI) dL_acts_1807 rfl rfl (fun _ => Nat.le_of_ble_eq_true rfl) ⟨Nat.le_of_ble_eq_true rfl, Nat.le_of_ble_eq_true rfl⟩ (by show _ ≤ 300 ∧ _ ≤ 5000; omega) (z_w2 (kx_2 (band (inB_nI i23 (by decide) hk9) (ksel hI hse)) (band1 (by rw [zN_nI hkb, ec0, es9, zN_nI hcb, zN_nI hsb, zN_nI hseb]; exact hcan))) ?_) z_nx
  refine z_iload C dL_acts_1810 rfl ?_
  refine z_if_eq (tgt := 1819) C dL_acts_1812 (by decide) (fun _ => ?_) (fun h => absurd (rfl) h)
  refine z_ldc C dL_acts_1819 kc_RL_21 ?_
  refine z_icmp_ne (tgt := 1865) C dL_acts_1821 (by decide) (fun h => absurd (rfl) h) (fun _ => ?_)
  refine z_aload_n (i := 1) C dL_acts_1824 rfl rfl ?_
  refine z_iload C dL_acts_1825 rfl ?_
  refine z_iload C dL_acts_1827 rfl ?_
  refine z_callSX C Y_L_approve sm_yL_approve ml_RL_169 (c_T_approve l hW2.2.1 hI) dL_acts_1829 rfl rfl (fun _ => Nat.le_of_ble_eq_true rfl) ⟨Nat.le_of_ble_eq_true rfl, Nat.le_of_ble_eq_true rfl⟩ (by show _ ≤ 300 ∧ _ ≤ 5000; omega) (z_x2 (kx_2 (band (inB_nI i23 (by decide) hk9) (ksel hI hse)) (band1 (by rw [zN_nI hkb, ec0, es9, zN_nI hcb, zN_nI hsb, zN_nI hseb]; exact hcan))) ?_) z_nx
  refine z_iload C dL_acts_1832 rfl ?_
  refine z_if_eq (tgt := 1841) C dL_acts_1834 (by decide) (fun _ => ?_) (fun h => absurd (rfl) h)
  refine z_ldc C dL_acts_1841 kc_RL_21 ?_
  refine z_icmp_ne (tgt := 1865) C dL_acts_1843 (by decide) (fun h => absurd (rfl) h) (fun _ => ?_)
  refine z_aload_n (i := 0) C dL_acts_1846 rfl rfl ?_
  refine z_aload C dL_acts_1847 rfl ?_
  refine z_iconst (v := nI 3) C dL_acts_1849 (by decide) ?_
  refine z_ialdN C dL_acts_1850 (hW2.2.2.1 4 (by decide)) (show _ < 7 by omega) (by decide) ?_
  refine z_top (w := (nI (zN (x 23)))) (g3_2) ?_
  refine z_iload C dL_acts_1851 rfl ?_
  refine z_callSX C Y_L_approve sm_yL_approve ml_RL_169 (c_L_approve l hW2.1 hI) dL_acts_1853 rfl rfl (fun _ => Nat.le_of_ble_eq_true rfl) ⟨Nat.le_of_ble_eq_true rfl, Nat.le_of_ble_eq_true rfl⟩ (by show _ ≤ 300 ∧ _ ≤ 5000; omega) (z_w1 (kx_1 (band0 (inB_out i23 (by decide) (Nat.le_refl _) (by omega)))) ?_) z_nx
  refine z_ldc C dL_acts_1856 kc_RL_28 ?_
  refine z_icmp_ne (tgt := 1865) C dL_acts_1858 (by decide) (fun h => absurd (rfl) h) (fun _ => ?_)
  refine z_iconst (v := nI 1) C dL_acts_1861 (by decide) ?_
  refine z_goto (tgt := 1866) C dL_acts_1862 (by decide) ?_
  exact z_iret C hr rfl dL_acts_1866 (Nat.le_of_ble_eq_true rfl) (Nat.le_of_ble_eq_true rfl) ⟨_, rfl, rfl, x, a, A2, hW2, hK1⟩
def bN (b : Bool) : Nat := cond b 1 0
set_option maxRecDepth 100000 in
set_option maxHeartbeats 4000000 in
theorem ap_c (C : zC X p l s m args meth c9 cL_acts 18 RL) (hr : meth.sig.returnType = some .boolean) (hW : LW x a x a A σ) (hT : TI x a A K) (hK : K < 95) (hac : ac < zN (x 1)) (hse : se < zN (x 11)) (hch : ch < zN (x 15)) {k9 c0 s9 d9 : Nat} (hk9 : k9 < zN (x 23)) (hc0 : c0 < zN (x 15)) (ec0 : a 25 k9 = nI c0) (hs9 : s9 < zN (x 11)) (es9 : a 26 k9 = nI s9) (hd9 : d9 ≤ 99) (ed9 : a 27 k9 = nI d9) {h9 : Nat} : AG X p l e s m args below meth c9 σ0 loc0 K 0 0 σ 1699 [(0, aR 0 0), (1, aR 40 0), (2, aR 80 0), (3, aR 80 1), (4, aR 80 2), (5, aR 80 3), (6, aR 80 4), (7, aI (xx)), (8, aI (yy)), (9, aI (nI (kd))), (10, aI (nI (ac))), (11, aI (nI (se))), (12, aI (nI (ch))), (13, aI (nI (k9))), (14, aI (nI (c0))), (15, aI (nI (h9))), (16, aI (nI (bN (abvB a (nI se) s9))))] [] := by
  obtain ⟨hI, hJ, ⟨⟨t0, t1, t2, t3, t4, t5, t6⟩, hTa, hTb, hTd, hTq⟩, h0⟩ := id hT
  obtain ⟨i0, i1, i6, i11, i15, i23, i24, i29, iA, iS, iC, iQ, iP⟩ := id hI.1
  have b0 := i0.2
  have b1 := i1.2
  have b6 := i6.2
  have b11 := i11.2
  have b15 := hJ.1.1
  have b23 := hJ.1.2
  have b29 := i29.2
  have g0 : A 4 0 = nI (zN (x 1)) := t0.trans i1.1
  have g1 : A 4 1 = nI (zN (x 11)) := t1.trans i11.1
  have g2 : A 4 2 = nI (zN (x 15)) := t2.trans i15.1
  have g3 : A 4 3 = nI (zN (x 23)) := t3.trans i23.1
  have g4 : A 4 4 = nI (zN (x 6)) := t4.trans i6.1
  have g5 : A 4 5 = nI (zN (x 29)) := t5.trans i29.1
  have g6 : A 4 6 = nI (zN (x 0)) := t6.trans i0.1
  have hK1 := hT.up
  have hxb : ∀ n, n ≤ 100 → n < 2 ^ 31 := fun n h => by omega
  have hkb : k9 < 2 ^ 31 := by omega
  have hcb : c0 < 2 ^ 31 := by omega
  have hseb : se < 2 ^ 31 := by omega
  have hsb : s9 < 2 ^ 31 := by omega
  have hq9 := hTq k9 hk9
  have hqb : qN a k9 < 2 ^ 31 ∧ qN a k9 / 10000000 = c0 ∧ qN a k9 / 10 % 10 = s9 ∧ qN a k9 / 1000 % 1000 = d9 ∧ qN a k9 % 10 = if a 28 k9 = 0 then 0 else 1 := by
    unfold qN
    rw [ec0, es9, ed9, zN_nI (by omega), zN_nI (by omega), zN_nI (by omega)]
    by_cases e0 : a 28 k9 = 0
    · rw [if_pos e0]; omega
    · rw [if_neg e0]; omega
  obtain ⟨hq1, hq2, hq3, hq4, hq5⟩ := hqb
  obtain ⟨hs5, es⟩ := st_N hI hc0
  by_cases e0 : a 28 k9 = 0
  · rcases Nat.lt_or_ge (stN a c0) 4 with q4 | q4
    · cases eab : abvB a (nI se) s9 with
      | true =>
        by_cases hl : a 27 k9 ≤ a 13 se
        · refine z_aload C dL_acts_1699 rfl ?_
          refine z_iload C dL_acts_1701 rfl ?_
          refine z_ialdN C dL_acts_1703 (hW.2.2.1 3 (by decide)) (show _ < 30 by omega) (by decide) ?_
          refine z_top (w := (nI (qN a k9))) (hq9) ?_
          refine z_bipush (v := nI 10) C dL_acts_1704 (by decide) ?_
          refine z_irem C dL_acts_1706 (by decide) ?_
          refine z_top (w := (nI ((qN a k9 % 10)))) (pk_rem (by omega) (by decide) (by decide)) ?_
          refine z_if_ne (tgt := 1753) C dL_acts_1707 (by decide) (fun h => absurd (by rw [hq5, if_pos e0]; rfl) h) (fun _ => ?_)
          refine z_aload_n (i := 0) C dL_acts_1710 rfl rfl ?_
          refine z_iload C dL_acts_1711 rfl ?_
          refine z_callSX C Y_L_stage sm_yL_stage ml_RL_107 (c_L_stage l hW.1 hI) dL_acts_1713 rfl rfl (fun _ => Nat.le_of_ble_eq_true rfl) ⟨Nat.le_of_ble_eq_true rfl, Nat.le_of_ble_eq_true rfl⟩ (by show _ ≤ 300 ∧ _ ≤ 5000; omega) (z_q0 (w := (nI (stN a c0))) (goC_0.mpr ⟨kcha hI hc0, rfl, rfl⟩) (by rw [zN_nI hcb]; exact es) ?_) z_nx
          refine z_iconst (v := nI 4) C dL_acts_1716 (by decide) ?_
          refine z_icmp_ge (tgt := 1753) C dL_acts_1717 (by decide) (fun h => absurd h (nI_ge q4 (by decide))) (fun _ => ?_)
          refine z_iload C dL_acts_1720 rfl ?_
          refine z_if_eq (tgt := 1753) C dL_acts_1722 (by decide) (fun h => absurd h (by decide)) (fun _ => ?_)
          refine z_aload C dL_acts_1725 rfl ?_
          refine z_iload C dL_acts_1727 rfl ?_
          refine z_ialdN C dL_acts_1729 (hW.2.2.1 3 (by decide)) (show _ < 30 by omega) (by decide) ?_
          refine z_top (w := (nI (qN a k9))) (hq9) ?_
          refine z_sipush (v := nI 1000) C dL_acts_1730 (by decide) ?_
          refine z_idiv C dL_acts_1733 (by decide) ?_
          refine z_top (w := (nI ((qN a k9 / 1000)))) (pk_div (by omega) (by decide) (by decide)) ?_
          refine z_sipush (v := nI 1000) C dL_acts_1734 (by decide) ?_
          refine z_irem C dL_acts_1737 (by decide) ?_
          refine z_top (w := (nI (((qN a k9 / 1000) % 1000)))) (pk_rem (by omega) (by decide) (by decide)) ?_
          refine z_top (w := nI d9) (congrArg nI hq4) ?_
          refine z_aload_n (i := 3) C dL_acts_1738 rfl rfl ?_
          refine z_iconst (v := nI 3) C dL_acts_1739 (by decide) ?_
          refine z_iload C dL_acts_1740 rfl ?_
          refine z_imul C dL_acts_1742 ?_
          refine z_top (w := (nI ((3 * se)))) (pk_mul _ _) ?_
          refine z_iconst (v := nI 1) C dL_acts_1743 (by decide) ?_
          refine z_iadd C dL_acts_1744 ?_
          refine z_top (w := (nI (((3 * se) + 1)))) (nI_add _ _) ?_
          refine z_ialdN C dL_acts_1745 (hW.2.2.1 1 (by decide)) (show _ < 24 by omega) (by decide) ?_
          refine z_top (w := (a 13 se)) ((hTb.1 se hse).2) ?_
          refine z_icmp_gt (tgt := 1753) C dL_acts_1746 (by decide) (fun h => absurd h (by rw [← ed9]; exact Int32.not_lt.mpr hl)) (fun _ => ?_)
          refine z_iconst (v := nI 1) C dL_acts_1749 (by decide) ?_
          refine z_goto (tgt := 1754) C dL_acts_1750 (by decide) ?_
          refine z_sub (L' := [(0, aR 0 0), (1, aR 40 0), (2, aR 80 0), (3, aR 80 1), (4, aR 80 2), (5, aR 80 3), (6, aR 80 4), (7, aI (xx)), (8, aI (yy)), (9, aI (nI (kd))), (10, aI (nI (ac))), (11, aI (nI (se))), (12, aI (nI (ch))), (13, aI (nI (k9))), (14, aI (nI (c0)))]) (zs1 rfl (zs1 rfl (zs1 rfl (zs1 rfl (zs1 rfl (zs1 rfl (zs1 rfl (zs1 rfl (zs1 rfl (zs1 rfl (zs1 rfl (zs1 rfl (zs1 rfl (zs1 rfl (zs1 rfl zs0))))))))))))))) ?_
          exact z_wd (by omega) (by omega) (ap_1 C hr hW hT hK hac hse hch hk9 hc0 ec0 hs9 es9 hd9 ed9 (by rw [decide_eq_true e0, show opnB a c0 = true by unfold opnB; rw [es]; exact decide_eq_true (nI_lt (b := 4) q4 (by decide)), eab, decide_eq_true hl]; rfl))
    
        · refine z_aload C dL_acts_1699 rfl ?_
          refine z_iload C dL_acts_1701 rfl ?_
          refine z_ialdN C dL_acts_1703 (hW.2.2.1 3 (by decide)) (show _ < 30 by omega) (by decide) ?_
          refine z_top (w := (nI (qN a k9))) (hq9) ?_
          refine z_bipush (v := nI 10) C dL_acts_1704 (by decide) ?_
          refine z_irem C dL_acts_1706 (by decide) ?_
          refine z_top (w := (nI ((qN a k9 % 10)))) (pk_rem (by omega) (by decide) (by decide)) ?_
          refine z_if_ne (tgt := 1753) C dL_acts_1707 (by decide) (fun h => absurd (by rw [hq5, if_pos e0]; rfl) h) (fun _ => ?_)
          refine z_aload_n (i := 0) C dL_acts_1710 rfl rfl ?_
          refine z_iload C dL_acts_1711 rfl ?_
          refine z_callSX C Y_L_stage sm_yL_stage ml_RL_107 (c_L_stage l hW.1 hI) dL_acts_1713 rfl rfl (fun _ => Nat.le_of_ble_eq_true rfl) ⟨Nat.le_of_ble_eq_true rfl, Nat.le_of_ble_eq_true rfl⟩ (by show _ ≤ 300 ∧ _ ≤ 5000; omega) (z_q0 (w := (nI (stN a c0))) (goC_0.mpr ⟨kcha hI hc0, rfl, rfl⟩) (by rw [zN_nI hcb]; exact es) ?_) z_nx
          refine z_iconst (v := nI 4) C dL_acts_1716 (by decide) ?_
          refine z_icmp_ge (tgt := 1753) C dL_acts_1717 (by decide) (fun h => absurd h (nI_ge q4 (by decide))) (fun _ => ?_)
          refine z_iload C dL_acts_1720 rfl ?_
          refine z_if_eq (tgt := 1753) C dL_acts_1722 (by decide) (fun h => absurd h (by decide)) (fun _ => ?_)
          refine z_aload C dL_acts_1725 rfl ?_
          refine z_iload C dL_acts_1727 rfl ?_
          refine z_ialdN C dL_acts_1729 (hW.2.2.1 3 (by decide)) (show _ < 30 by omega) (by decide) ?_
          refine z_top (w := (nI (qN a k9))) (hq9) ?_
          refine z_sipush (v := nI 1000) C dL_acts_1730 (by decide) ?_
          refine z_idiv C dL_acts_1733 (by decide) ?_
          refine z_top (w := (nI ((qN a k9 / 1000)))) (pk_div (by omega) (by decide) (by decide)) ?_
          refine z_sipush (v := nI 1000) C dL_acts_1734 (by decide) ?_
          refine z_irem C dL_acts_1737 (by decide) ?_
          refine z_top (w := (nI (((qN a k9 / 1000) % 1000)))) (pk_rem (by omega) (by decide) (by decide)) ?_
          refine z_top (w := nI d9) (congrArg nI hq4) ?_
          refine z_aload_n (i := 3) C dL_acts_1738 rfl rfl ?_
          refine z_iconst (v := nI 3) C dL_acts_1739 (by decide) ?_
          refine z_iload C dL_acts_1740 rfl ?_
          refine z_imul C dL_acts_1742 ?_
          refine z_top (w := (nI ((3 * se)))) (pk_mul _ _) ?_
          refine z_iconst (v := nI 1) C dL_acts_1743 (by decide) ?_
          refine z_iadd C dL_acts_1744 ?_
          refine z_top (w := (nI (((3 * se) + 1)))) (nI_add _ _) ?_
          refine z_ialdN C dL_acts_1745 (hW.2.2.1 1 (by decide)) (show _ < 24 by omega) (by decide) ?_
          refine z_top (w := (a 13 se)) ((hTb.1 se hse).2) ?_
          refine z_icmp_gt (tgt := 1753) C dL_acts_1746 (by decide) (fun _ => ?_) (fun h => absurd (by rw [← ed9]; exact Int32.not_le.mp hl) h)
          refine z_iconst (v := nI 0) C dL_acts_1753 (by decide) ?_
          refine z_sub (L' := [(0, aR 0 0), (1, aR 40 0), (2, aR 80 0), (3, aR 80 1), (4, aR 80 2), (5, aR 80 3), (6, aR 80 4), (7, aI (xx)), (8, aI (yy)), (9, aI (nI (kd))), (10, aI (nI (ac))), (11, aI (nI (se))), (12, aI (nI (ch))), (13, aI (nI (k9))), (14, aI (nI (c0)))]) (zs1 rfl (zs1 rfl (zs1 rfl (zs1 rfl (zs1 rfl (zs1 rfl (zs1 rfl (zs1 rfl (zs1 rfl (zs1 rfl (zs1 rfl (zs1 rfl (zs1 rfl (zs1 rfl (zs1 rfl zs0))))))))))))))) ?_
          exact z_wd (by omega) (by omega) (ap_0 C hr hW hT hK hac hse hch hk9 hc0 ec0 hs9 es9 hd9 ed9 (by rw [decide_eq_false hl, Bool.and_false, Bool.and_false, Bool.and_false]))
      | false =>
        refine z_aload C dL_acts_1699 rfl ?_
        refine z_iload C dL_acts_1701 rfl ?_
        refine z_ialdN C dL_acts_1703 (hW.2.2.1 3 (by decide)) (show _ < 30 by omega) (by decide) ?_
        refine z_top (w := (nI (qN a k9))) (hq9) ?_
        refine z_bipush (v := nI 10) C dL_acts_1704 (by decide) ?_
        refine z_irem C dL_acts_1706 (by decide) ?_
        refine z_top (w := (nI ((qN a k9 % 10)))) (pk_rem (by omega) (by decide) (by decide)) ?_
        refine z_if_ne (tgt := 1753) C dL_acts_1707 (by decide) (fun h => absurd (by rw [hq5, if_pos e0]; rfl) h) (fun _ => ?_)
        refine z_aload_n (i := 0) C dL_acts_1710 rfl rfl ?_
        refine z_iload C dL_acts_1711 rfl ?_
        refine z_callSX C Y_L_stage sm_yL_stage ml_RL_107 (c_L_stage l hW.1 hI) dL_acts_1713 rfl rfl (fun _ => Nat.le_of_ble_eq_true rfl) ⟨Nat.le_of_ble_eq_true rfl, Nat.le_of_ble_eq_true rfl⟩ (by show _ ≤ 300 ∧ _ ≤ 5000; omega) (z_q0 (w := (nI (stN a c0))) (goC_0.mpr ⟨kcha hI hc0, rfl, rfl⟩) (by rw [zN_nI hcb]; exact es) ?_) z_nx
        refine z_iconst (v := nI 4) C dL_acts_1716 (by decide) ?_
        refine z_icmp_ge (tgt := 1753) C dL_acts_1717 (by decide) (fun h => absurd h (nI_ge q4 (by decide))) (fun _ => ?_)
        refine z_iload C dL_acts_1720 rfl ?_
        refine z_if_eq (tgt := 1753) C dL_acts_1722 (by decide) (fun _ => ?_) (fun h => absurd (rfl) h)
        refine z_iconst (v := nI 0) C dL_acts_1753 (by decide) ?_
        refine z_sub (L' := [(0, aR 0 0), (1, aR 40 0), (2, aR 80 0), (3, aR 80 1), (4, aR 80 2), (5, aR 80 3), (6, aR 80 4), (7, aI (xx)), (8, aI (yy)), (9, aI (nI (kd))), (10, aI (nI (ac))), (11, aI (nI (se))), (12, aI (nI (ch))), (13, aI (nI (k9))), (14, aI (nI (c0)))]) (zs1 rfl (zs1 rfl (zs1 rfl (zs1 rfl (zs1 rfl (zs1 rfl (zs1 rfl (zs1 rfl (zs1 rfl (zs1 rfl (zs1 rfl (zs1 rfl (zs1 rfl (zs1 rfl (zs1 rfl zs0))))))))))))))) ?_
        exact z_wd (by omega) (by omega) (ap_0 C hr hW hT hK hac hse hch hk9 hc0 ec0 hs9 es9 hd9 ed9 (by rw [eab, Bool.false_and, Bool.and_false, Bool.and_false]))
  
    · refine z_aload C dL_acts_1699 rfl ?_
      refine z_iload C dL_acts_1701 rfl ?_
      refine z_ialdN C dL_acts_1703 (hW.2.2.1 3 (by decide)) (show _ < 30 by omega) (by decide) ?_
      refine z_top (w := (nI (qN a k9))) (hq9) ?_
      refine z_bipush (v := nI 10) C dL_acts_1704 (by decide) ?_
      refine z_irem C dL_acts_1706 (by decide) ?_
      refine z_top (w := (nI ((qN a k9 % 10)))) (pk_rem (by omega) (by decide) (by decide)) ?_
      refine z_if_ne (tgt := 1753) C dL_acts_1707 (by decide) (fun h => absurd (by rw [hq5, if_pos e0]; rfl) h) (fun _ => ?_)
      refine z_aload_n (i := 0) C dL_acts_1710 rfl rfl ?_
      refine z_iload C dL_acts_1711 rfl ?_
      refine z_callSX C Y_L_stage sm_yL_stage ml_RL_107 (c_L_stage l hW.1 hI) dL_acts_1713 rfl rfl (fun _ => Nat.le_of_ble_eq_true rfl) ⟨Nat.le_of_ble_eq_true rfl, Nat.le_of_ble_eq_true rfl⟩ (by show _ ≤ 300 ∧ _ ≤ 5000; omega) (z_q0 (w := (nI (stN a c0))) (goC_0.mpr ⟨kcha hI hc0, rfl, rfl⟩) (by rw [zN_nI hcb]; exact es) ?_) z_nx
      refine z_iconst (v := nI 4) C dL_acts_1716 (by decide) ?_
      refine z_icmp_ge (tgt := 1753) C dL_acts_1717 (by decide) (fun _ => ?_) (fun h => absurd (nI_le q4 (by omega)) h)
      refine z_iconst (v := nI 0) C dL_acts_1753 (by decide) ?_
      refine z_sub (L' := [(0, aR 0 0), (1, aR 40 0), (2, aR 80 0), (3, aR 80 1), (4, aR 80 2), (5, aR 80 3), (6, aR 80 4), (7, aI (xx)), (8, aI (yy)), (9, aI (nI (kd))), (10, aI (nI (ac))), (11, aI (nI (se))), (12, aI (nI (ch))), (13, aI (nI (k9))), (14, aI (nI (c0)))]) (zs1 rfl (zs1 rfl (zs1 rfl (zs1 rfl (zs1 rfl (zs1 rfl (zs1 rfl (zs1 rfl (zs1 rfl (zs1 rfl (zs1 rfl (zs1 rfl (zs1 rfl (zs1 rfl (zs1 rfl zs0))))))))))))))) ?_
      exact z_wd (by omega) (by omega) (ap_0 C hr hW hT hK hac hse hch hk9 hc0 ec0 hs9 es9 hd9 ed9 (by rw [show opnB a c0 = false by unfold opnB; rw [es]; exact decide_eq_false (nI_nlt (b := 4) q4 (by omega)), Bool.false_and, Bool.and_false]))

  · refine z_aload C dL_acts_1699 rfl ?_
    refine z_iload C dL_acts_1701 rfl ?_
    refine z_ialdN C dL_acts_1703 (hW.2.2.1 3 (by decide)) (show _ < 30 by omega) (by decide) ?_
    refine z_top (w := (nI (qN a k9))) (hq9) ?_
    refine z_bipush (v := nI 10) C dL_acts_1704 (by decide) ?_
    refine z_irem C dL_acts_1706 (by decide) ?_
    refine z_top (w := (nI ((qN a k9 % 10)))) (pk_rem (by omega) (by decide) (by decide)) ?_
    refine z_if_ne (tgt := 1753) C dL_acts_1707 (by decide) (fun _ => ?_) (fun h => absurd h (by rw [hq5, if_neg e0]; decide))
    refine z_iconst (v := nI 0) C dL_acts_1753 (by decide) ?_
    refine z_sub (L' := [(0, aR 0 0), (1, aR 40 0), (2, aR 80 0), (3, aR 80 1), (4, aR 80 2), (5, aR 80 3), (6, aR 80 4), (7, aI (xx)), (8, aI (yy)), (9, aI (nI (kd))), (10, aI (nI (ac))), (11, aI (nI (se))), (12, aI (nI (ch))), (13, aI (nI (k9))), (14, aI (nI (c0)))]) (zs1 rfl (zs1 rfl (zs1 rfl (zs1 rfl (zs1 rfl (zs1 rfl (zs1 rfl (zs1 rfl (zs1 rfl (zs1 rfl (zs1 rfl (zs1 rfl (zs1 rfl (zs1 rfl (zs1 rfl zs0))))))))))))))) ?_
    exact z_wd (by omega) (by omega) (ap_0 C hr hW hT hK hac hse hch hk9 hc0 ec0 hs9 es9 hd9 ed9 (by rw [decide_eq_false e0, Bool.false_and]))
set_option maxRecDepth 100000 in
set_option maxHeartbeats 4000000 in
theorem ap_lp (C : zC X p l s m args meth c9 cL_acts 18 RL) (hr : meth.sig.returnType = some .boolean) (hW : LW x a x a A σ) (hT : TI x a A K) (hK : K < 95) (hac : ac < zN (x 1)) (hse : se < zN (x 11)) (hch : ch < zN (x 15)) {k9 c0 s9 d9 : Nat} (hk9 : k9 < zN (x 23)) (hc0 : c0 < zN (x 15)) (ec0 : a 25 k9 = nI c0) (hs9 : s9 < zN (x 11)) (es9 : a 26 k9 = nI s9) (hd9 : d9 ≤ 99) (ed9 : a 27 k9 = nI d9) : ∀ (h : Nat), h < zN (x 11) → ∀ (b : Bool), (b || abvB a (nI se) h) = abvB a (nI se) s9 → AG X p l e s m args below meth c9 σ0 loc0 K 0 0 σ 1660 [(0, aR 0 0), (1, aR 40 0), (2, aR 80 0), (3, aR 80 1), (4, aR 80 2), (5, aR 80 3), (6, aR 80 4), (7, aI (xx)), (8, aI (yy)), (9, aI (nI (kd))), (10, aI (nI (ac))), (11, aI (nI (se))), (12, aI (nI (ch))), (13, aI (nI (k9))), (14, aI (nI (c0))), (15, aI (nI (h))), (16, aI (nI (bN b)))] [] := by
  obtain ⟨hI, hJ, ⟨⟨t0, t1, t2, t3, t4, t5, t6⟩, hTa, hTb, hTd, hTq⟩, h0⟩ := id hT
  obtain ⟨i0, i1, i6, i11, i15, i23, i24, i29, iA, iS, iC, iQ, iP⟩ := id hI.1
  have b0 := i0.2
  have b1 := i1.2
  have b6 := i6.2
  have b11 := i11.2
  have b15 := hJ.1.1
  have b23 := hJ.1.2
  have b29 := i29.2
  have g0 : A 4 0 = nI (zN (x 1)) := t0.trans i1.1
  have g1 : A 4 1 = nI (zN (x 11)) := t1.trans i11.1
  have g2 : A 4 2 = nI (zN (x 15)) := t2.trans i15.1
  have g3 : A 4 3 = nI (zN (x 23)) := t3.trans i23.1
  have g4 : A 4 4 = nI (zN (x 6)) := t4.trans i6.1
  have g5 : A 4 5 = nI (zN (x 29)) := t5.trans i29.1
  have g6 : A 4 6 = nI (zN (x 0)) := t6.trans i0.1
  have hK1 := hT.up
  have hxb : ∀ n, n ≤ 100 → n < 2 ^ 31 := fun n h => by omega
  have hkb : k9 < 2 ^ 31 := by omega
  have hcb : c0 < 2 ^ 31 := by omega
  have hseb : se < 2 ^ 31 := by omega
  have hsb : s9 < 2 ^ 31 := by omega
  have hq9 := hTq k9 hk9
  have hqb : qN a k9 < 2 ^ 31 ∧ qN a k9 / 10000000 = c0 ∧ qN a k9 / 10 % 10 = s9 ∧ qN a k9 / 1000 % 1000 = d9 ∧ qN a k9 % 10 = if a 28 k9 = 0 then 0 else 1 := by
    unfold qN
    rw [ec0, es9, ed9, zN_nI (by omega), zN_nI (by omega), zN_nI (by omega)]
    by_cases e0 : a 28 k9 = 0
    · rw [if_pos e0]; omega
    · rw [if_neg e0]; omega
  obtain ⟨hq1, hq2, hq3, hq4, hq5⟩ := hqb
  intro h
  induction h using Nat.strongRecOn with
  | _ h ih =>
    intro hh b hab
    rcases iS h hh with e | ⟨p9, hp9, e⟩
    · refine z_aload_n (i := 3) C dL_acts_1660 rfl rfl ?_
      refine z_iconst (v := nI 3) C dL_acts_1661 (by decide) ?_
      refine z_iload C dL_acts_1662 rfl ?_
      refine z_imul C dL_acts_1664 ?_
      refine z_top (w := (nI ((3 * h)))) (pk_mul _ _) ?_
      refine z_ialdN C dL_acts_1665 (hW.2.2.1 1 (by decide)) (show _ < 24 by omega) (by decide) ?_
      refine z_top (w := (a 12 h)) ((hTb.1 h hh).1) ?_
      refine z_if_lt (tgt := 1699) C dL_acts_1666 (by decide) (fun _ => ?_) (fun h => absurd (by rw [e]; decide) h)
      have hb9 : b = abvB a (nI se) s9 := by
        rw [← hab]
        unfold abvB
        rw [e, abvF, if_pos rfl, Bool.or_false]
      refine z_sub (L' := [(0, aR 0 0), (1, aR 40 0), (2, aR 80 0), (3, aR 80 1), (4, aR 80 2), (5, aR 80 3), (6, aR 80 4), (7, aI (xx)), (8, aI (yy)), (9, aI (nI (kd))), (10, aI (nI (ac))), (11, aI (nI (se))), (12, aI (nI (ch))), (13, aI (nI (k9))), (14, aI (nI (c0))), (15, aI (nI (h))), (16, aI (nI (bN b)))]) (zs1 rfl (zs1 rfl (zs1 rfl (zs1 rfl (zs1 rfl (zs1 rfl (zs1 rfl (zs1 rfl (zs1 rfl (zs1 rfl (zs1 rfl (zs1 rfl (zs1 rfl (zs1 rfl (zs1 rfl (zs1 rfl (zs1 rfl zs0))))))))))))))))) ?_
      rw [hb9]
      exact ap_c C hr hW hT hK hac hse hch hk9 hc0 ec0 hs9 es9 hd9 ed9

    · refine z_aload_n (i := 3) C dL_acts_1660 rfl rfl ?_
      refine z_iconst (v := nI 3) C dL_acts_1661 (by decide) ?_
      refine z_iload C dL_acts_1662 rfl ?_
      refine z_imul C dL_acts_1664 ?_
      refine z_top (w := (nI ((3 * h)))) (pk_mul _ _) ?_
      refine z_ialdN C dL_acts_1665 (hW.2.2.1 1 (by decide)) (show _ < 24 by omega) (by decide) ?_
      refine z_top (w := (a 12 h)) ((hTb.1 h hh).1) ?_
      refine z_if_lt (tgt := 1699) C dL_acts_1666 (by decide) (fun h => absurd h (by rw [e]; exact nI_pos (by omega))) (fun _ => ?_)
      rw [abvB_p iS (by omega) hh hse hp9 e] at hab
      refine z_aload_n (i := 3) C dL_acts_1669 rfl rfl ?_
      refine z_iconst (v := nI 3) C dL_acts_1670 (by decide) ?_
      refine z_iload C dL_acts_1671 rfl ?_
      refine z_imul C dL_acts_1673 ?_
      refine z_top (w := (nI ((3 * h)))) (pk_mul _ _) ?_
      refine z_ialdN C dL_acts_1674 (hW.2.2.1 1 (by decide)) (show _ < 24 by omega) (by decide) ?_
      refine z_top (w := (nI (p9))) ((hTb.1 h hh).1.trans e) ?_
      refine z_istore C dL_acts_1675 (by decide) ?_
      refine z_iload C dL_acts_1677 rfl ?_
      cases b with
      | true =>
        refine z_if_ne (tgt := 1689) C dL_acts_1679 (by decide) (fun _ => ?_) (fun h => absurd h (by decide))
        refine z_iconst (v := nI 1) C dL_acts_1689 (by decide) ?_
        refine z_goto (tgt := 1694) C dL_acts_1690 (by decide) ?_
        refine z_istore C dL_acts_1694 (by decide) ?_
        refine z_goto (tgt := 1660) C dL_acts_1696 (by decide) ?_
        refine z_sub (L' := [(0, aR 0 0), (1, aR 40 0), (2, aR 80 0), (3, aR 80 1), (4, aR 80 2), (5, aR 80 3), (6, aR 80 4), (7, aI (xx)), (8, aI (yy)), (9, aI (nI (kd))), (10, aI (nI (ac))), (11, aI (nI (se))), (12, aI (nI (ch))), (13, aI (nI (k9))), (14, aI (nI (c0))), (15, aI (nI (p9))), (16, aI (nI (bN true)))]) (zs1 rfl (zs1 rfl (zs1 rfl (zs1 rfl (zs1 rfl (zs1 rfl (zs1 rfl (zs1 rfl (zs1 rfl (zs1 rfl (zs1 rfl (zs1 rfl (zs1 rfl (zs1 rfl (zs1 rfl (zs1 rfl (zs1 rfl zs0))))))))))))))))) ?_
        exact ih p9 hp9 (by omega) true (by rw [← hab]; rfl)
      | false =>
        by_cases ep : p9 = se
        · refine z_if_ne (tgt := 1689) C dL_acts_1679 (by decide) (fun h => absurd (by decide) h) (fun _ => ?_)
          refine z_iload C dL_acts_1682 rfl ?_
          refine z_iload C dL_acts_1684 rfl ?_
          refine z_icmp_ne (tgt := 1693) C dL_acts_1686 (by decide) (fun h => absurd (by rw [ep]) h) (fun _ => ?_)
          refine z_iconst (v := nI 1) C dL_acts_1689 (by decide) ?_
          refine z_goto (tgt := 1694) C dL_acts_1690 (by decide) ?_
          refine z_istore C dL_acts_1694 (by decide) ?_
          refine z_goto (tgt := 1660) C dL_acts_1696 (by decide) ?_
          refine z_sub (L' := [(0, aR 0 0), (1, aR 40 0), (2, aR 80 0), (3, aR 80 1), (4, aR 80 2), (5, aR 80 3), (6, aR 80 4), (7, aI (xx)), (8, aI (yy)), (9, aI (nI (kd))), (10, aI (nI (ac))), (11, aI (nI (se))), (12, aI (nI (ch))), (13, aI (nI (k9))), (14, aI (nI (c0))), (15, aI (nI (p9))), (16, aI (nI (bN true)))]) (zs1 rfl (zs1 rfl (zs1 rfl (zs1 rfl (zs1 rfl (zs1 rfl (zs1 rfl (zs1 rfl (zs1 rfl (zs1 rfl (zs1 rfl (zs1 rfl (zs1 rfl (zs1 rfl (zs1 rfl (zs1 rfl (zs1 rfl zs0))))))))))))))))) ?_
          exact ih p9 hp9 (by omega) true (by rw [← hab, tmB, decide_eq_true ep]; rfl)
        · refine z_if_ne (tgt := 1689) C dL_acts_1679 (by decide) (fun h => absurd (by decide) h) (fun _ => ?_)
          refine z_iload C dL_acts_1682 rfl ?_
          refine z_iload C dL_acts_1684 rfl ?_
          refine z_icmp_ne (tgt := 1693) C dL_acts_1686 (by decide) (fun _ => ?_) (fun h => absurd h (fun z => ep ((nI_eq (by omega) (by omega)).mp z)))
          refine z_iconst (v := nI 0) C dL_acts_1693 (by decide) ?_
          refine z_istore C dL_acts_1694 (by decide) ?_
          refine z_goto (tgt := 1660) C dL_acts_1696 (by decide) ?_
          refine z_sub (L' := [(0, aR 0 0), (1, aR 40 0), (2, aR 80 0), (3, aR 80 1), (4, aR 80 2), (5, aR 80 3), (6, aR 80 4), (7, aI (xx)), (8, aI (yy)), (9, aI (nI (kd))), (10, aI (nI (ac))), (11, aI (nI (se))), (12, aI (nI (ch))), (13, aI (nI (k9))), (14, aI (nI (c0))), (15, aI (nI (p9))), (16, aI (nI (bN false)))]) (zs1 rfl (zs1 rfl (zs1 rfl (zs1 rfl (zs1 rfl (zs1 rfl (zs1 rfl (zs1 rfl (zs1 rfl (zs1 rfl (zs1 rfl (zs1 rfl (zs1 rfl (zs1 rfl (zs1 rfl (zs1 rfl (zs1 rfl zs0))))))))))))))))) ?_
          exact ih p9 hp9 (by omega) false (by rw [← hab, tmB, decide_eq_false ep]; rfl)
set_option maxRecDepth 100000 in
set_option maxHeartbeats 4000000 in
theorem ac_app (C : zC X p l s m args meth c9 cL_acts 18 RL) (hr : meth.sig.returnType = some .boolean) (hW : LW x a x a A σ) (hT : TI x a A K) (hK : K < 95) (hac : ac < zN (x 1)) (hse : se < zN (x 11)) (hch : ch < zN (x 15)) (hq0 : 0 < zN (x 23)) : AG X p l e s m args below meth c9 σ0 loc0 K 0 0 σ 1620 [(0, aR 0 0), (1, aR 40 0), (2, aR 80 0), (3, aR 80 1), (4, aR 80 2), (5, aR 80 3), (6, aR 80 4), (7, aI (xx)), (8, aI (yy)), (9, aI (nI (kd))), (10, aI (nI (ac))), (11, aI (nI (se))), (12, aI (nI (ch)))] [] := by
  obtain ⟨hI, hJ, ⟨⟨t0, t1, t2, t3, t4, t5, t6⟩, hTa, hTb, hTd, hTq⟩, h0⟩ := id hT
  obtain ⟨i0, i1, i6, i11, i15, i23, i24, i29, iA, iS, iC, iQ, iP⟩ := id hI.1
  have b0 := i0.2
  have b1 := i1.2
  have b6 := i6.2
  have b11 := i11.2
  have b15 := hJ.1.1
  have b23 := hJ.1.2
  have b29 := i29.2
  have g0 : A 4 0 = nI (zN (x 1)) := t0.trans i1.1
  have g1 : A 4 1 = nI (zN (x 11)) := t1.trans i11.1
  have g2 : A 4 2 = nI (zN (x 15)) := t2.trans i15.1
  have g3 : A 4 3 = nI (zN (x 23)) := t3.trans i23.1
  have g4 : A 4 4 = nI (zN (x 6)) := t4.trans i6.1
  have g5 : A 4 5 = nI (zN (x 29)) := t5.trans i29.1
  have g6 : A 4 6 = nI (zN (x 0)) := t6.trans i0.1
  have hK1 := hT.up
  have hxb : ∀ n, n ≤ 100 → n < 2 ^ 31 := fun n h => by omega
  obtain ⟨k9, ek9⟩ : ∃ k9, lowN (yy >>> (nI 8 &&& 31)) (zN (x 23)) = k9 := ⟨_, rfl⟩
  have hk9 : k9 < zN (x 23) := by rw [← ek9]; exact lowN_lt hq0
  obtain ⟨⟨c0, hc0, ec0⟩, ⟨s9, hs9, es9⟩, -⟩ := iQ k9 hk9
  obtain ⟨d9, hd9, ed9⟩ := hJ.2.2.2.2.2.2.2.2 k9 hk9
  have hkb : k9 < 2 ^ 31 := by omega
  have hcb : c0 < 2 ^ 31 := by omega
  have hseb : se < 2 ^ 31 := by omega
  have hsb : s9 < 2 ^ 31 := by omega
  have hq9 := hTq k9 hk9
  have hqb : qN a k9 < 2 ^ 31 ∧ qN a k9 / 10000000 = c0 ∧ qN a k9 / 10 % 10 = s9 ∧ qN a k9 / 1000 % 1000 = d9 ∧ qN a k9 % 10 = if a 28 k9 = 0 then 0 else 1 := by
    unfold qN
    rw [ec0, es9, ed9, zN_nI (by omega), zN_nI (by omega), zN_nI (by omega)]
    by_cases e0 : a 28 k9 = 0
    · rw [if_pos e0]; omega
    · rw [if_neg e0]; omega
  obtain ⟨hq1, hq2, hq3, hq4, hq5⟩ := hqb
  refine z_iload C dL_acts_1620 rfl ?_
  refine z_bipush (v := nI 8) C dL_acts_1622 (by decide) ?_
  refine z_ishr C dL_acts_1624 ?_
  refine z_aload C dL_acts_1625 rfl ?_
  refine z_iconst (v := nI 3) C dL_acts_1627 (by decide) ?_
  refine z_ialdN C dL_acts_1628 (hW.2.2.1 4 (by decide)) (show _ < 7 by omega) (by decide) ?_
  refine z_top (w := (nI (zN (x 23)))) (g3) ?_
  refine z_callS C Y_L_low sm_yL_low ml_RL_147 (c_L_low l (n := zN (x 23)) (by omega) (by omega)) dL_acts_1629 rfl rfl (fun _ => Nat.le_of_ble_eq_true rfl) ⟨Nat.le_of_ble_eq_true rfl, Nat.le_of_ble_eq_true rfl⟩ (by show _ ≤ 300 ∧ _ ≤ 5000; omega) (z_p0 (w := (nI (k9))) (congrArg nI ek9) ?_) z_nx
  refine z_istore C dL_acts_1632 (by decide) ?_
  refine z_aload C dL_acts_1634 rfl ?_
  refine z_iload C dL_acts_1636 rfl ?_
  refine z_ialdN C dL_acts_1638 (hW.2.2.1 3 (by decide)) (show _ < 30 by omega) (by decide) ?_
  refine z_top (w := (nI (qN a k9))) (hq9) ?_
  refine z_ldc C dL_acts_1639 kc_RL_168 ?_
  refine z_top (w := (nI 10000000)) (by decide) ?_
  refine z_idiv C dL_acts_1641 (by decide) ?_
  refine z_top (w := (nI ((qN a k9 / 10000000)))) (pk_div (by omega) (by decide) (by decide)) ?_
  refine z_top (w := nI c0) (congrArg nI hq2) ?_
  refine z_istore C dL_acts_1642 (by decide) ?_
  refine z_aload C dL_acts_1644 rfl ?_
  refine z_iload C dL_acts_1646 rfl ?_
  refine z_ialdN C dL_acts_1648 (hW.2.2.1 3 (by decide)) (show _ < 30 by omega) (by decide) ?_
  refine z_top (w := (nI (qN a k9))) (hq9) ?_
  refine z_bipush (v := nI 10) C dL_acts_1649 (by decide) ?_
  refine z_idiv C dL_acts_1651 (by decide) ?_
  refine z_top (w := (nI ((qN a k9 / 10)))) (pk_div (by omega) (by decide) (by decide)) ?_
  refine z_bipush (v := nI 10) C dL_acts_1652 (by decide) ?_
  refine z_irem C dL_acts_1654 (by decide) ?_
  refine z_top (w := (nI (((qN a k9 / 10) % 10)))) (pk_rem (by omega) (by decide) (by decide)) ?_
  refine z_top (w := nI s9) (congrArg nI hq3) ?_
  refine z_istore C dL_acts_1655 (by decide) ?_
  refine z_iconst (v := nI 0) C dL_acts_1657 (by decide) ?_
  refine z_istore C dL_acts_1658 (by decide) ?_
  refine z_sub (L' := [(0, aR 0 0), (1, aR 40 0), (2, aR 80 0), (3, aR 80 1), (4, aR 80 2), (5, aR 80 3), (6, aR 80 4), (7, aI (xx)), (8, aI (yy)), (9, aI (nI (kd))), (10, aI (nI (ac))), (11, aI (nI (se))), (12, aI (nI (ch))), (13, aI (nI (k9))), (14, aI (nI (c0))), (15, aI (nI (s9))), (16, aI (nI (bN false)))]) (zs1 rfl (zs1 rfl (zs1 rfl (zs1 rfl (zs1 rfl (zs1 rfl (zs1 rfl (zs1 rfl (zs1 rfl (zs1 rfl (zs1 rfl (zs1 rfl (zs1 rfl (zs1 rfl (zs1 rfl (zs1 rfl (zs1 rfl zs0))))))))))))))))) ?_
  exact ap_lp C hr hW hT hK hac hse hch hk9 hc0 ec0 hs9 es9 hd9 ed9 s9 hs9 false (Bool.false_or _)
end AC4
