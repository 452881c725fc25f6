/-! the desk: quotes, rules -/
/-- the quotes that count stay, when a quote is made -/
theorem ct_q {x : Nat → Int32} {a : Nat → Nat → Int32} (hI : zInv x a) (hW : zInw x a) {c n : Nat} (_hc : c < zN (x 15)) (hn : n = zN (x 23)) (x' : Nat → Int32) (a' : Nat → Nat → Int32) {v : Int32} (h23 : x' 23 = x 23 + 1) (h25 : a' 25 = upd (a 25) n v) (h28 : a' 28 = a 28) : cnt x a (nI c) = cnt x' a' (nI c) := by
  obtain ⟨i0, i1, i6, i11, i15, i23, i24, i29, iA, iS, iC, iQ, iP⟩ := hI
  unfold cnt
  rw [h23, (zN_s i23 (by decide)).2, ← hn]
  have b23 := i23.2
  have hlow : ∀ k, k ≤ n → cntL a' (nI c) k = cntL a (nI c) k := by
    intro k
    induction k with
    | zero => intro _; rfl
    | succ k ih =>
      intro hk
      rw [cntL, cntL, ih (by omega)]
      have e : cntC a' (nI c) k (cntL a (nI c) k) = cntC a (nI c) k (cntL a (nI c) k) := by
        unfold cntC
        rw [h25, h28, upd_ne (by omega)]
      rw [e]
  rw [cntL, hlow n (Nat.le_refl _)]
  have e : cntC a' (nI c) n (cntL a (nI c) n) = false := by
    unfold cntC
    rw [h28, hW.2.2.2.2.1 n (by omega), decide_eq_false (by decide : ¬ (0 : Int32) < 0)]
    simp only [Bool.false_and, Bool.and_false]
  rw [e, cond_false]
set_option maxRecDepth 100000 in
set_option maxHeartbeats 4000000 in
theorem c_X6_quote {X : zX} (l : Launch) {x : Nat → Int32} {a : Nat → Nat → Int32} {σ : zHp} (hD : DK x a σ) (hI : zInv x a) (hW : zInw x a) {i j w : Int32} : zM X l yX6_quote cX6_quote 7 (some .int) 8 10 200 [aR 0 0, aI i, aI j, aI w] σ (zPi (zDz (k_quote x a i j w) (x 23) (if w ≤ a 13 (zN j) then upd (upd x 23 (x 23 + 1)) 24 (x 24 + 1) else upd x 23 (x 23 + 1)) (if w ≤ a 13 (zN j) then ua (ua (ua (ua a 25 (upd (a 25) (zN (x 23)) i)) 26 (upd (a 26) (zN (x 23)) j)) 27 (upd (a 27) (zN (x 23)) w)) 28 (upd (a 28) (zN (x 23)) (x 24 + 1)) else (ua (ua (ua a 25 (upd (a 25) (zN (x 23)) i)) 26 (upd (a 26) (zN (x 23)) j)) 27 (upd (a 27) (zN (x 23)) w))) σ)) (zXk (k_quote x a i j w) eIO eIA eIS σ) := by
  obtain ⟨i0, i1, i6, i11, i15, i23, i24, i29, iA, iS, iC, iQ, iP⟩ := id hI
  have b1 := i1.2
  have b6 := i6.2
  have b11 := i11.2
  have b15 := i15.2
  have b23 := i23.2
  have b24 := i24.2
  have b29 := i29.2
  obtain ⟨hE, dF⟩ := id hD
  obtain ⟨d0, dA, dR, dS, dC, dQ⟩ := id hE
  have lA := dA.1
  have lS := dS.1
  have lC := dC.1
  have lQ := dQ.1
  have lF := dF.1
  refine zM.of (by decide +kernel) (Nat.le_of_ble_eq_true rfl) (by simp [zcat, Value.category]) ?_
  intro p e s m args below meth c9 loc0 C hr hnm hT
  refine z_aload_n (i := 0) C dX6_quote_0 rfl rfl ?_
  refine z_iload_n (i := 1) C dX6_quote_1 rfl rfl ?_
  refine z_callV C Y_X6_chanceAt V_X6_chanceAt ml_RX6_122 (c_X6_chanceAt l hE hI) dX6_quote_2 rfl rfl d0 ⟨_, _, rfl⟩ (fun _ => Nat.le_of_ble_eq_true rfl) ⟨Nat.le_of_ble_eq_true rfl, Nat.le_of_ble_eq_true rfl⟩ ⟨Nat.le_of_ble_eq_true rfl, Nat.le_of_ble_eq_true rfl⟩ (z_rr (fun r9 σ1 hx => ?_)) (fun E9 σ9 hx => by obtain ⟨rfl, hx, rfl⟩ := hx; exact z_out hT C.2.2.2.2.2.2.2.1 (Nat.le_of_ble_eq_true rfl) (Nat.le_of_ble_eq_true rfl) (zXk.e1 (by simp only [hx, eq_self, decide_true, decide_false, Bool.and_true, Bool.true_and, Bool.and_false, Bool.false_and, Bool.or_true, Bool.true_or, Bool.or_false, Bool.false_or, Bool.not_true, Bool.not_false, not_true, not_false_eq_true, if_true, if_false])))
  obtain ⟨t2, rfl, rfl⟩ := hx
  obtain ⟨i, hi, rfl⟩ := inB_ix i15 (by decide) t2
  have zi : zN (nI i) = i := zN_nI (by omega)
  rw [zi]
  refine z_astore C dX6_quote_5 (by decide) ?_
  refine z_aload_n (i := 0) C dX6_quote_7 rfl rfl ?_
  refine z_iload_n (i := 2) C dX6_quote_8 rfl rfl ?_
  refine z_callV C Y_X6_sellerAt V_X6_sellerAt ml_RX6_94 (c_X6_sellerAt l hE hI) dX6_quote_9 rfl rfl d0 ⟨_, _, rfl⟩ (fun _ => Nat.le_of_ble_eq_true rfl) ⟨Nat.le_of_ble_eq_true rfl, Nat.le_of_ble_eq_true rfl⟩ ⟨Nat.le_of_ble_eq_true rfl, Nat.le_of_ble_eq_true rfl⟩ (z_rr (fun r9 σ1 hx => ?_)) (fun E9 σ9 hx => by obtain ⟨rfl, hx, rfl⟩ := hx; exact z_out hT C.2.2.2.2.2.2.2.1 (Nat.le_of_ble_eq_true rfl) (Nat.le_of_ble_eq_true rfl) (zXk.e1 (by simp only [t2, zi, hx, eq_self, decide_true, decide_false, Bool.and_true, Bool.true_and, Bool.and_false, Bool.false_and, Bool.or_true, Bool.true_or, Bool.or_false, Bool.false_or, Bool.not_true, Bool.not_false, not_true, not_false_eq_true, if_true, if_false])))
  obtain ⟨t9, rfl, rfl⟩ := hx
  obtain ⟨j, hj, rfl⟩ := inB_ix i11 (by decide) t9
  have zj : zN (nI j) = j := zN_nI (by omega)
  rw [zj]
  refine z_astore C dX6_quote_12 (by decide) ?_
  refine z_iload_n (i := 3) C dX6_quote_14 rfl rfl ?_
  refine z_iconst (v := 0) C dX6_quote_15 (by decide) ?_
  refine z_bipush (v := 99) C dX6_quote_16 (by decide) ?_
  refine z_callS C Y_X6_requireRange sm_yX6_requireRange ml_RX6_35 (c_X6_requireRange l) dX6_quote_18 rfl rfl (fun _ => Nat.le_of_ble_eq_true rfl) ⟨Nat.le_of_ble_eq_true rfl, Nat.le_of_ble_eq_true rfl⟩ ⟨Nat.le_of_ble_eq_true rfl, Nat.le_of_ble_eq_true rfl⟩ (z_rv (fun σ1 hx => ?_)) (fun E9 σ9 hx => by obtain ⟨rfl, hx, rfl⟩ := hx; exact z_out hT C.2.2.2.2.2.2.2.1 (Nat.le_of_ble_eq_true rfl) (Nat.le_of_ble_eq_true rfl) (zXk.e2 (by simp only [t2, zi, t9, zj, eq_self, decide_true, decide_false, Bool.and_true, Bool.true_and, Bool.and_false, Bool.false_and, Bool.or_true, Bool.true_or, Bool.or_false, Bool.false_or, Bool.not_true, Bool.not_false, not_true, not_false_eq_true, if_true, if_false]) (by simp only [t2, zi, t9, zj, hx, eq_self, decide_true, decide_false, Bool.and_true, Bool.true_and, Bool.and_false, Bool.false_and, Bool.or_true, Bool.true_or, Bool.or_false, Bool.false_or, Bool.not_true, Bool.not_false, not_true, not_false_eq_true, if_true, if_false])))
  obtain ⟨t18, rfl⟩ := hx
  refine z_aload C dX6_quote_21 rfl ?_
  refine z_callS C Y_X6_requireOpen sm_yX6_requireOpen ml_RX6_131 (c_X6_requireOpen l (dC.2.1 _ (by first | assumption | omega))) dX6_quote_23 rfl rfl (fun _ => Nat.le_of_ble_eq_true rfl) ⟨Nat.le_of_ble_eq_true rfl, Nat.le_of_ble_eq_true rfl⟩ ⟨Nat.le_of_ble_eq_true rfl, Nat.le_of_ble_eq_true rfl⟩ (z_rv (fun σ1 hx => ?_)) (fun E9 σ9 hx => by obtain ⟨rfl, hx, rfl⟩ := hx; exact z_out hT C.2.2.2.2.2.2.2.1 (Nat.le_of_ble_eq_true rfl) (Nat.le_of_ble_eq_true rfl) (zXk.e3 (by simp only [t2, zi, t9, zj, t18, eq_self, decide_true, decide_false, Bool.and_true, Bool.true_and, Bool.and_false, Bool.false_and, Bool.or_true, Bool.true_or, Bool.or_false, Bool.false_or, Bool.not_true, Bool.not_false, not_true, not_false_eq_true, if_true, if_false]) (by simp only [t2, zi, t9, zj, t18, eq_self, decide_true, decide_false, Bool.and_true, Bool.true_and, Bool.and_false, Bool.false_and, Bool.or_true, Bool.true_or, Bool.or_false, Bool.false_or, Bool.not_true, Bool.not_false, not_true, not_false_eq_true, if_true, if_false]) (by simp only [t2, zi, t9, zj, t18, hx, eq_self, decide_true, decide_false, Bool.and_true, Bool.true_and, Bool.and_false, Bool.false_and, Bool.or_true, Bool.true_or, Bool.or_false, Bool.false_or, Bool.not_true, Bool.not_false, not_true, not_false_eq_true, if_true, if_false])))
  obtain ⟨t23, rfl⟩ := hx
  refine z_aload_n (i := 0) C dX6_quote_26 rfl rfl ?_
  refine z_getf C f_RX6_25 dX6_quote_27 d0 rfl ?_
  refine z_callV C Y_Jx4a65c_size_8abf5 V_Jx4a65c_size_8abf5 ml_RX6_51 (c_Jx4a65c_size_8abf5 l lQ) dX6_quote_30 rfl rfl (zLs.ob lQ) ⟨_, _, rfl⟩ (fun _ => Nat.le_of_ble_eq_true rfl) ⟨Nat.le_of_ble_eq_true rfl, Nat.le_of_ble_eq_true rfl⟩ ⟨Nat.le_of_ble_eq_true rfl, Nat.le_of_ble_eq_true rfl⟩ (z_ri (fun x σ1 hx => ?_)) (z_nx)
  obtain ⟨rfl, rfl⟩ := hx
  refine z_bipush (v := 40) C dX6_quote_33 (by decide) ?_

  rw [← i23.1]
  refine z_callS C Y_X6_requireRoom sm_yX6_requireRoom ml_RX6_55 (c_X6_requireRoom l) dX6_quote_35 rfl rfl (fun _ => Nat.le_of_ble_eq_true rfl) ⟨Nat.le_of_ble_eq_true rfl, Nat.le_of_ble_eq_true rfl⟩ ⟨Nat.le_of_ble_eq_true rfl, Nat.le_of_ble_eq_true rfl⟩ (z_rv (fun σ1 hx => ?_)) (fun E9 σ9 hx => by obtain ⟨rfl, hx, rfl⟩ := hx; exact z_out hT C.2.2.2.2.2.2.2.1 (Nat.le_of_ble_eq_true rfl) (Nat.le_of_ble_eq_true rfl) (zXk.e3 (by simp only [t2, zi, t9, zj, t18, t23, eq_self, decide_true, decide_false, Bool.and_true, Bool.true_and, Bool.and_false, Bool.false_and, Bool.or_true, Bool.true_or, Bool.or_false, Bool.false_or, Bool.not_true, Bool.not_false, not_true, not_false_eq_true, if_true, if_false]) (by simp only [t2, zi, t9, zj, t18, t23, eq_self, decide_true, decide_false, Bool.and_true, Bool.true_and, Bool.and_false, Bool.false_and, Bool.or_true, Bool.true_or, Bool.or_false, Bool.false_or, Bool.not_true, Bool.not_false, not_true, not_false_eq_true, if_true, if_false]) (by simp only [t2, zi, t9, zj, t18, t23, hx, eq_self, decide_true, decide_false, Bool.and_true, Bool.true_and, Bool.and_false, Bool.false_and, Bool.or_true, Bool.true_or, Bool.or_false, Bool.false_or, Bool.not_true, Bool.not_false, not_true, not_false_eq_true, if_true, if_false])))
  obtain ⟨t35, rfl⟩ := hx
  have tR := t35
  have hn : zN (x 23) < 40 := zN_lt i23 (by decide) (of_decide_eq_true tR)
  have hIq := iv_quote0 (w := w) ⟨hI, hW⟩ hi hj hn
  obtain ⟨n, en⟩ : ∃ n, n = zN (x 23) := ⟨_, rfl⟩
  have e1 : zN (x 23 + 1) = n + 1 := by rw [en]; exact (zN_s i23 (by decide)).2
  have ex : x 23 = nI n := by rw [en]; exact i23.1
  have en9 : n = zN (x 23) := en
  rw [← en] at hIq ⊢
  refine z_new C 9 n n_RX6_185 dX6_quote_38 (by decide) (dQ.2.2 n (by omega)) ⟨Nat.le_of_ble_eq_true rfl, Nat.le_of_ble_eq_true rfl⟩ ?_
  refine z_dup C (by first | trivial | rfl) dX6_quote_41 ?_
  refine z_aload_n (i := 0) C dX6_quote_42 rfl rfl ?_
  refine z_getf C f_RX6_25 dX6_quote_43 (by rw [zput_n (by omega)]; exact d0) rfl ?_
  have lQ9 : zLs (zput _ 9 n (oC 6 [aI 0, aN, aN, aI 0, aI 0])) 4 (zN (x 23)) _ := lQ.ag (fun k9 i9 z => zput_n (by omega))
  refine z_callV C Y_Jx4a65c_size_8abf5 V_Jx4a65c_size_8abf5 ml_RX6_51 (c_Jx4a65c_size_8abf5 l lQ9) dX6_quote_46 rfl rfl (zLs.ob lQ9) ⟨_, _, rfl⟩ (fun _ => Nat.le_of_ble_eq_true rfl) ⟨Nat.le_of_ble_eq_true rfl, Nat.le_of_ble_eq_true rfl⟩ ⟨Nat.le_of_ble_eq_true rfl, Nat.le_of_ble_eq_true rfl⟩ (z_ri (fun x σ1 hx => ?_)) (z_nx)
  obtain ⟨rfl, rfl⟩ := hx
  rw [← en]
  refine z_aload C dX6_quote_49 rfl ?_
  refine z_aload C dX6_quote_51 rfl ?_
  refine z_iload_n (i := 3) C dX6_quote_53 rfl rfl ?_
  refine z_callI C Y_X3_init im_yX3_init rfl ml_RX6_187 (c_X3_init l (zput_s _ _ _ _)) dX6_quote_54 rfl rfl (fun _ => Nat.le_of_ble_eq_true rfl) ⟨Nat.le_of_ble_eq_true rfl, Nat.le_of_ble_eq_true rfl⟩ ⟨Nat.le_of_ble_eq_true rfl, Nat.le_of_ble_eq_true rfl⟩ (z_rv (fun σ2 hx => ?_)) (z_nx)
  obtain ⟨hc2, hfr⟩ := hx
  have hf2 : ∀ k9 i9, ¬ (k9 = 9 ∧ i9 = n) → σ2 k9 i9 = σ1 k9 i9 := fun k9 i9 z => (hfr k9 i9 z).trans (zput_n z)
  have l2 := lQ.ag (σ1 := σ2) (fun k9 i9 z => hf2 k9 i9 (by omega))
  rw [← en] at l2
  refine z_astore C dX6_quote_57 (by decide) ?_
  refine z_aload_n (i := 0) C dX6_quote_59 rfl rfl ?_
  refine z_getf C f_RX6_25 dX6_quote_60 ((hf2 0 0 (by omega)).trans d0) rfl ?_
  refine z_aload C dX6_quote_63 rfl ?_
  refine z_callV C Y_Jx4a65c_add_9ea2d V_Jx4a65c_add_9ea2d ml_RX6_64 (c_Jx4a65c_add_9ea2d l l2 (by omega) (fun i9 hi9 => ⟨_, _, (hf2 9 i9 (by omega)).trans (dQ.2.1 i9 (by omega)), elt6⟩) hc2 elt6 (fun z => by cases z.1) (fun _ _ z => by cases z.1)) dX6_quote_65 rfl rfl (zLs.ob l2) ⟨_, _, rfl⟩ (fun _ => Nat.le_of_ble_eq_true rfl) ⟨Nat.le_of_ble_eq_true rfl, Nat.le_of_ble_eq_true rfl⟩ ⟨Nat.le_of_ble_eq_true rfl, Nat.le_of_ble_eq_true rfl⟩ (z_ri (fun r9 σ3 hx => ?_)) (z_nx)
  obtain ⟨rfl, hL3, hlf⟩ := hx
  refine z_pop C (by first | trivial | rfl) dX6_quote_68 ?_
  have hfF : ∀ k9 i9, ¬ (k9 = 9 ∧ i9 = n) → ¬ (k9 = 1 ∧ i9 = 4) → k9 ≠ 24 → σ3 k9 i9 = σ1 k9 i9 := fun k9 i9 z z1 z2 => (hlf k9 i9 z1 z2).trans (hf2 k9 i9 z)
  have h93 := (hlf 9 n (by omega) (by omega)).trans hc2
  have h63 := (hfF 6 i (by omega) (by omega) (by omega)).trans (dC.2.1 i hi)
  have hD3 : DK (upd x 23 (x 23 + 1)) (ua (ua (ua a 25 (upd (a 25) n (nI i))) 26 (upd (a 26) n (nI j))) 27 (upd (a 27) n w)) σ3 := ⟨⟨(hfF 0 0 (by omega) (by omega) (by omega)).trans d0, dA.ag (fun k9 i9 z => hfF k9 i9 (by omega) (by omega) (by omega)), dR.ag (fun k9 i9 z => hfF k9 i9 (by omega) (by omega) (by omega)), dS.ag (fun k9 i9 z => hfF k9 i9 (by omega) (by omega) (by omega)), dC.ag (fun k9 i9 z => hfF k9 i9 (by omega) (by omega) (by omega)) (fun c9 h9 => (ct_q (v := nI i) hI hW h9 en _ _ (by rfl) (by rfl) (by rfl)).symm), (by show DQ (zN (x 23 + 1)) (upd (a 25) n _) (upd (a 26) n _) (upd (a 27) n _) (a 28) _; rw [e1]; rw [← en] at dQ; exact dQ.add hL3 (hW.2.2.2.2.1 n (by omega)) (by rw [zi, zj]; exact h93) (fun i9 z => (hlf 9 i9 (by omega) (by omega)).trans (hf2 9 i9 (by omega))))⟩, dF.ag (fun k9 i9 z => hfF k9 i9 (by omega) (by omega) (by omega))⟩
  have hF3 : Fk σ1 σ3 := fun k9 i9 z => hfF k9 i9 (by omega) (by omega) (by omega)
  refine z_iload_n (i := 3) C dX6_quote_69 rfl rfl ?_
  refine z_aload C dX6_quote_70 rfl ?_
  refine z_getf C f_RX6_190 dX6_quote_72 ((hfF 5 j (by omega) (by omega) (by omega)).trans (dS.2.1 j hj)) rfl ?_
  refine z_icmp_gt (tgt := 83) C dX6_quote_75 (by decide) (fun h75 => ?_) (fun h75 => ?_)
  · have g75 := Int32.not_le.mpr h75
    refine z_aload C dX6_quote_83 rfl ?_
    refine z_getf C f_RX6_197 dX6_quote_85 h93 rfl ?_
    exact z_iret C hr rfl dX6_quote_88 (Nat.le_of_ble_eq_true rfl) (Nat.le_of_ble_eq_true rfl) ⟨_, rfl, zDz.ok (by simp only [t2, t9, zi, zj, t18, t23, t35, eq_self, decide_true, decide_false, Bool.and_true, Bool.true_and, Bool.and_false, Bool.false_and, Bool.or_true, Bool.true_or, Bool.or_false, Bool.false_or, Bool.not_true, Bool.not_false, not_true, not_false_eq_true, if_true, if_false]) (by simp only [t2, t9, zi, zj, t18, t23, t35, eq_self, decide_true, decide_false, Bool.and_true, Bool.true_and, Bool.and_false, Bool.false_and, Bool.or_true, Bool.true_or, Bool.or_false, Bool.false_or, Bool.not_true, Bool.not_false, not_true, not_false_eq_true, if_true, if_false]) (by simp only [t2, t9, zi, zj, t18, t23, t35, eq_self, decide_true, decide_false, Bool.and_true, Bool.true_and, Bool.and_false, Bool.false_and, Bool.or_true, Bool.true_or, Bool.or_false, Bool.false_or, Bool.not_true, Bool.not_false, not_true, not_false_eq_true, if_true, if_false]) ex.symm (by rw [if_neg g75, if_neg g75]; exact hD3) hF3⟩
  · have g75 := Int32.not_lt.mp h75
    refine z_aload C dX6_quote_78 rfl ?_
    refine z_callS C Y_X6_letCount sm_yX6_letCount ml_RX6_193 (c_X6_letCount l (h9 := h93) (h6 := h63)) dX6_quote_80 rfl rfl (fun _ => Nat.le_of_ble_eq_true rfl) ⟨Nat.le_of_ble_eq_true rfl, Nat.le_of_ble_eq_true rfl⟩ ⟨Nat.le_of_ble_eq_true rfl, Nat.le_of_ble_eq_true rfl⟩ (z_rv (fun σ4 hx => ?_)) (z_nx)
    subst hx
    refine z_aload C dX6_quote_83 rfl ?_
    refine z_getf C f_RX6_197 dX6_quote_85 ((zput_n (by omega)).trans (zput_s _ _ _ _)) rfl ?_
    have hA := DK.app (q := n) (c := i) hD3 hIq.1 (by show n < zN (x 23 + 1); omega) hi (by show upd (a 25) n (nI i) n = nI i; exact upd_at)
    rw [show (ua (ua (ua a 25 (upd (a 25) n (nI i))) 26 (upd (a 26) n (nI j))) 27 (upd (a 27) n w)) 26 n = nI j from upd_at, show (ua (ua (ua a 25 (upd (a 25) n (nI i))) 26 (upd (a 26) n (nI j))) 27 (upd (a 27) n w)) 27 n = w from upd_at, zj] at hA
    exact z_iret C hr rfl dX6_quote_88 (Nat.le_of_ble_eq_true rfl) (Nat.le_of_ble_eq_true rfl) ⟨_, rfl, zDz.ok (by simp only [t2, t9, zi, zj, t18, t23, t35, eq_self, decide_true, decide_false, Bool.and_true, Bool.true_and, Bool.and_false, Bool.false_and, Bool.or_true, Bool.true_or, Bool.or_false, Bool.false_or, Bool.not_true, Bool.not_false, not_true, not_false_eq_true, if_true, if_false]) (by simp only [t2, t9, zi, zj, t18, t23, t35, eq_self, decide_true, decide_false, Bool.and_true, Bool.true_and, Bool.and_false, Bool.false_and, Bool.or_true, Bool.true_or, Bool.or_false, Bool.false_or, Bool.not_true, Bool.not_false, not_true, not_false_eq_true, if_true, if_false]) (by simp only [t2, t9, zi, zj, t18, t23, t35, eq_self, decide_true, decide_false, Bool.and_true, Bool.true_and, Bool.and_false, Bool.false_and, Bool.or_true, Bool.true_or, Bool.or_false, Bool.false_or, Bool.not_true, Bool.not_false, not_true, not_false_eq_true, if_true, if_false]) ex.symm (by rw [if_pos g75, if_pos g75]; exact hA) (hF3.tr ((Fk.put (by decide)).tr (Fk.put (by decide))))⟩

theorem DR.ins {n p nr : Nat} {rk : Nat → Nat} {b7 b8 b9 b10 : Nat → Int32} {f u g w : Int32} {σ σ1 : zHp} (hL : zLs σ1 1 (n + 1) (zIns (fun i => (7, rk i)) p (7, nr))) (dr : ∀ i, i < n → σ 7 (rk i) = some (oC 7 [aI (b7 i), aI (b8 i), aI (b9 i), aI (b10 i)])) (dn : ∀ i, nr ≤ i → σ 7 i = none) (hp : p ≤ n) (hc : σ1 7 nr = some (oC 7 [aI f, aI u, aI g, aI w])) (hg : ∀ i, i ≠ nr → σ1 7 i = σ 7 i) : DR (n + 1) (upd (insG p n b7) p f) (upd (insG p n b8) p u) (upd (insG p n b9) p g) (upd (insG p n b10) p w) σ1 := by
  have hlt : ∀ i, i < n → rk i ≠ nr := fun i hi e => by
    have h1 := dr i hi
    rw [e, dn nr (Nat.le_refl _)] at h1
    cases h1
  refine ⟨fun i => if i < p then rk i else if i = p then nr else rk (i - 1), nr + 1, ?_, fun i hi => ?_, fun i hi => by rw [hg i (by omega)]; exact dn i (by omega)⟩
  · rw [show (fun i => ((7, if i < p then rk i else if i = p then nr else rk (i - 1)) : zK)) = zIns (fun i => (7, rk i)) p (7, nr) from ?_]
    · exact hL
    · funext i
      unfold zIns
      by_cases h1 : i < p
      · rw [if_pos h1, if_pos h1]
      · by_cases h2 : i = p
        · rw [if_neg h1, if_neg h1, if_pos h2, if_pos h2]
        · rw [if_neg h1, if_neg h1, if_neg h2, if_neg h2]
  · show σ1 7 (if i < p then rk i else if i = p then nr else rk (i - 1)) = _
    by_cases h1 : i < p
    · rw [if_pos h1, hg _ (hlt i (by omega)), dr i (by omega), upd_ne (by omega), upd_ne (by omega), upd_ne (by omega), upd_ne (by omega)]
      simp only [insG]
      rw [if_neg (by omega), if_neg (by omega), if_neg (by omega), if_neg (by omega)]
    · by_cases h2 : i = p
      · rw [if_neg h1, if_pos h2, hc, h2, upd_at, upd_at, upd_at, upd_at]
      · rw [if_neg h1, if_neg h2, hg _ (hlt (i - 1) (by omega)), dr (i - 1) (by omega), upd_ne h2, upd_ne h2, upd_ne h2, upd_ne h2]
        simp only [insG]
        rw [if_pos (by omega), if_pos (by omega), if_pos (by omega), if_pos (by omega)]
theorem DR.del {n p nr : Nat} {rk : Nat → Nat} {b7 b8 b9 b10 : Nat → Int32} {σ σ1 : zHp} (hL : zLs σ1 1 n (zDel (fun i => (7, rk i)) p)) (dr : ∀ i, i < n + 1 → σ 7 (rk i) = some (oC 7 [aI (b7 i), aI (b8 i), aI (b9 i), aI (b10 i)])) (dn : ∀ i, nr ≤ i → σ 7 i = none) (hp : p ≤ n) (hg : ∀ i, σ1 7 i = σ 7 i) : DR n (delG p n b7) (delG p n b8) (delG p n b9) (delG p n b10) σ1 := by
  refine ⟨fun i => if i < p then rk i else rk (i + 1), nr, ?_, fun i hi => ?_, fun i hi => by rw [hg i]; exact dn i hi⟩
  · rw [show (fun i => ((7, if i < p then rk i else rk (i + 1)) : zK)) = zDel (fun i => (7, rk i)) p from ?_]
    · exact hL
    · funext i
      unfold zDel
      by_cases h1 : i < p
      · rw [if_pos h1, if_pos h1]
      · rw [if_neg h1, if_neg h1]
  · show σ1 7 (if i < p then rk i else rk (i + 1)) = _
    by_cases h1 : i < p
    · rw [if_pos h1, hg, dr i (by omega)]
      simp only [delG]
      rw [if_neg (by omega), if_neg (by omega), if_neg (by omega), if_neg (by omega)]
    · rw [if_neg h1, hg, dr (i + 1) (by omega)]
      simp only [delG]
      rw [if_pos (by omega), if_pos (by omega), if_pos (by omega), if_pos (by omega)]
set_option maxRecDepth 100000 in
set_option maxHeartbeats 4000000 in
theorem c_X6_putRule {X : zX} (l : Launch) {x : Nat → Int32} {a : Nat → Nat → Int32} {σ : zHp} (hD : DK x a σ) (hI : zInv x a) {pl f u g w : Int32} : zM X l yX6_putRule cX6_putRule 6 (some .int) 8 10 200 [aR 0 0, aI pl, aI f, aI u, aI g, aI w] σ (zPi (zDz (k_putRule x a pl f u g w) (x 6 + 1) (upd x 6 (x 6 + 1)) (putR a (zN pl) (zN (x 6)) f u g w) σ)) (zXk (k_putRule x a pl f u g w) eIO eIA eIS σ) := by
  obtain ⟨i0, i1, i6, i11, i15, i23, i24, i29, iA, iS, iC, iQ, iP⟩ := id hI
  have b1 := i1.2
  have b6 := i6.2
  have b11 := i11.2
  have b15 := i15.2
  have b23 := i23.2
  have b24 := i24.2
  have b29 := i29.2
  obtain ⟨hE, dF⟩ := id hD
  obtain ⟨d0, dA, dR, dS, dC, dQ⟩ := id hE
  have lA := dA.1
  have lS := dS.1
  have lC := dC.1
  have lQ := dQ.1
  have lF := dF.1
  have dR9 := dR
  obtain ⟨rk, nr, lR, dr, dn⟩ := dR9
  refine zM.of (by decide +kernel) (Nat.le_of_ble_eq_true rfl) (by simp [zcat, Value.category]) ?_
  intro p e s m args below meth c9 loc0 C hr hnm hT
  refine z_iload_n (i := 1) C dX6_putRule_0 rfl rfl ?_
  refine z_if_lt (tgt := 15) C dX6_putRule_1 (by decide) (fun h1 => ?_) (fun h1 => ?_)
  · exact z_throwS (text := "there is no such place") C hT th_IOE rfl (by decide +kernel) dX6_putRule_15 dX6_putRule_18 dX6_putRule_19 dX6_putRule_21 dX6_putRule_24 ⟨Nat.le_of_ble_eq_true rfl, Nat.le_of_ble_eq_true rfl⟩ ⟨Nat.le_of_ble_eq_true rfl, Nat.le_of_ble_eq_true rfl⟩ (Nat.le_of_ble_eq_true rfl) (Nat.le_of_ble_eq_true rfl) (zXk.e1 (inB_f (Or.inl h1)))
  · refine z_iload_n (i := 1) C dX6_putRule_4 rfl rfl ?_
    refine z_aload_n (i := 0) C dX6_putRule_5 rfl rfl ?_
    refine z_getf C f_RX6_16 dX6_putRule_6 d0 rfl ?_
    refine z_callV C Y_Jx4a65c_size_8abf5 V_Jx4a65c_size_8abf5 ml_RX6_51 (c_Jx4a65c_size_8abf5 l lR) dX6_putRule_9 rfl rfl (zLs.ob lR) ⟨_, _, rfl⟩ (fun _ => Nat.le_of_ble_eq_true rfl) ⟨Nat.le_of_ble_eq_true rfl, Nat.le_of_ble_eq_true rfl⟩ ⟨Nat.le_of_ble_eq_true rfl, Nat.le_of_ble_eq_true rfl⟩ (z_ri (fun x σ1 hx => ?_)) (z_nx)
    obtain ⟨rfl, rfl⟩ := hx
    refine z_icmp_le (tgt := 25) C dX6_putRule_12 (by decide) (fun h12 => ?_) (fun h12 => ?_)
    · have t0 : inB pl 0 (x 6) = true := inB_t.mpr ⟨Int32.not_lt.mp h1, by rw [i6.1]; exact h12⟩
      have t0b : inB pl 0 (nI (zN (x 6))) = true := by rw [← i6.1]; exact t0
      obtain ⟨p9, hp9, rfl⟩ := inB_to (by omega) t0b
      have zp : zN (nI p9) = p9 := zN_nI (by omega)
      refine z_iload_n (i := 2) C dX6_putRule_25 rfl rfl ?_
      refine z_iconst (v := 0) C dX6_putRule_26 (by decide) ?_
      refine z_bipush (v := 9) C dX6_putRule_27 (by decide) ?_
      refine z_callS C Y_X6_requireRange sm_yX6_requireRange ml_RX6_35 (c_X6_requireRange l) dX6_putRule_29 rfl rfl (fun _ => Nat.le_of_ble_eq_true rfl) ⟨Nat.le_of_ble_eq_true rfl, Nat.le_of_ble_eq_true rfl⟩ ⟨Nat.le_of_ble_eq_true rfl, Nat.le_of_ble_eq_true rfl⟩ (z_rv (fun σ1 hx => ?_)) (fun E9 σ9 hx => by obtain ⟨rfl, hx, rfl⟩ := hx; exact z_out hT C.2.2.2.2.2.2.2.1 (Nat.le_of_ble_eq_true rfl) (Nat.le_of_ble_eq_true rfl) (zXk.e2 (by simp only [t0, eq_self, decide_true, decide_false, Bool.and_true, Bool.true_and, Bool.and_false, Bool.false_and, Bool.or_true, Bool.true_or, Bool.or_false, Bool.false_or, Bool.not_true, Bool.not_false, not_true, not_false_eq_true, if_true, if_false]) (by simp only [t0, hx, eq_self, decide_true, decide_false, Bool.and_true, Bool.true_and, Bool.and_false, Bool.false_and, Bool.or_true, Bool.true_or, Bool.or_false, Bool.false_or, Bool.not_true, Bool.not_false, not_true, not_false_eq_true, if_true, if_false])))
      obtain ⟨t29, rfl⟩ := hx
      refine z_iload_n (i := 3) C dX6_putRule_32 rfl rfl ?_
      refine z_iload_n (i := 2) C dX6_putRule_33 rfl rfl ?_
      refine z_bipush (v := 9) C dX6_putRule_34 (by decide) ?_
      refine z_callS C Y_X6_requireRange sm_yX6_requireRange ml_RX6_35 (c_X6_requireRange l) dX6_putRule_36 rfl rfl (fun _ => Nat.le_of_ble_eq_true rfl) ⟨Nat.le_of_ble_eq_true rfl, Nat.le_of_ble_eq_true rfl⟩ ⟨Nat.le_of_ble_eq_true rfl, Nat.le_of_ble_eq_true rfl⟩ (z_rv (fun σ1 hx => ?_)) (fun E9 σ9 hx => by obtain ⟨rfl, hx, rfl⟩ := hx; exact z_out hT C.2.2.2.2.2.2.2.1 (Nat.le_of_ble_eq_true rfl) (Nat.le_of_ble_eq_true rfl) (zXk.e2 (by simp only [t0, t29, eq_self, decide_true, decide_false, Bool.and_true, Bool.true_and, Bool.and_false, Bool.false_and, Bool.or_true, Bool.true_or, Bool.or_false, Bool.false_or, Bool.not_true, Bool.not_false, not_true, not_false_eq_true, if_true, if_false]) (by simp only [t0, t29, hx, eq_self, decide_true, decide_false, Bool.and_true, Bool.true_and, Bool.and_false, Bool.false_and, Bool.or_true, Bool.true_or, Bool.or_false, Bool.false_or, Bool.not_true, Bool.not_false, not_true, not_false_eq_true, if_true, if_false])))
      obtain ⟨t36, rfl⟩ := hx
      refine z_iload C dX6_putRule_39 rfl ?_
      refine z_iconst (v := 0) C dX6_putRule_41 (by decide) ?_
      refine z_bipush (v := 9) C dX6_putRule_42 (by decide) ?_
      refine z_callS C Y_X6_requireRange sm_yX6_requireRange ml_RX6_35 (c_X6_requireRange l) dX6_putRule_44 rfl rfl (fun _ => Nat.le_of_ble_eq_true rfl) ⟨Nat.le_of_ble_eq_true rfl, Nat.le_of_ble_eq_true rfl⟩ ⟨Nat.le_of_ble_eq_true rfl, Nat.le_of_ble_eq_true rfl⟩ (z_rv (fun σ1 hx => ?_)) (fun E9 σ9 hx => by obtain ⟨rfl, hx, rfl⟩ := hx; exact z_out hT C.2.2.2.2.2.2.2.1 (Nat.le_of_ble_eq_true rfl) (Nat.le_of_ble_eq_true rfl) (zXk.e2 (by simp only [t0, t29, t36, eq_self, decide_true, decide_false, Bool.and_true, Bool.true_and, Bool.and_false, Bool.false_and, Bool.or_true, Bool.true_or, Bool.or_false, Bool.false_or, Bool.not_true, Bool.not_false, not_true, not_false_eq_true, if_true, if_false]) (by simp only [t0, t29, t36, hx, eq_self, decide_true, decide_false, Bool.and_true, Bool.true_and, Bool.and_false, Bool.false_and, Bool.or_true, Bool.true_or, Bool.or_false, Bool.false_or, Bool.not_true, Bool.not_false, not_true, not_false_eq_true, if_true, if_false])))
      obtain ⟨t44, rfl⟩ := hx
      refine z_iload C dX6_putRule_47 rfl ?_
      refine z_iconst (v := 0) C dX6_putRule_49 (by decide) ?_
      refine z_iconst (v := 3) C dX6_putRule_50 (by decide) ?_
      refine z_callS C Y_X6_requireRange sm_yX6_requireRange ml_RX6_35 (c_X6_requireRange l) dX6_putRule_51 rfl rfl (fun _ => Nat.le_of_ble_eq_true rfl) ⟨Nat.le_of_ble_eq_true rfl, Nat.le_of_ble_eq_true rfl⟩ ⟨Nat.le_of_ble_eq_true rfl, Nat.le_of_ble_eq_true rfl⟩ (z_rv (fun σ1 hx => ?_)) (fun E9 σ9 hx => by obtain ⟨rfl, hx, rfl⟩ := hx; exact z_out hT C.2.2.2.2.2.2.2.1 (Nat.le_of_ble_eq_true rfl) (Nat.le_of_ble_eq_true rfl) (zXk.e2 (by simp only [t0, t29, t36, t44, eq_self, decide_true, decide_false, Bool.and_true, Bool.true_and, Bool.and_false, Bool.false_and, Bool.or_true, Bool.true_or, Bool.or_false, Bool.false_or, Bool.not_true, Bool.not_false, not_true, not_false_eq_true, if_true, if_false]) (by simp only [t0, t29, t36, t44, hx, eq_self, decide_true, decide_false, Bool.and_true, Bool.true_and, Bool.and_false, Bool.false_and, Bool.or_true, Bool.true_or, Bool.or_false, Bool.false_or, Bool.not_true, Bool.not_false, not_true, not_false_eq_true, if_true, if_false])))
      obtain ⟨t51, rfl⟩ := hx
    
      refine z_aload_n (i := 0) C dX6_putRule_54 rfl rfl ?_
      refine z_getf C f_RX6_16 dX6_putRule_55 d0 rfl ?_
      refine z_callV C Y_Jx4a65c_size_8abf5 V_Jx4a65c_size_8abf5 ml_RX6_51 (c_Jx4a65c_size_8abf5 l lR) dX6_putRule_58 rfl rfl (zLs.ob lR) ⟨_, _, rfl⟩ (fun _ => Nat.le_of_ble_eq_true rfl) ⟨Nat.le_of_ble_eq_true rfl, Nat.le_of_ble_eq_true rfl⟩ ⟨Nat.le_of_ble_eq_true rfl, Nat.le_of_ble_eq_true rfl⟩ (z_ri (fun x σ1 hx => ?_)) (z_nx)
      obtain ⟨rfl, rfl⟩ := hx
      refine z_bipush (v := 8) C dX6_putRule_61 (by decide) ?_
      rw [← i6.1]
      refine z_callS C Y_X6_requireRoom sm_yX6_requireRoom ml_RX6_55 (c_X6_requireRoom l) dX6_putRule_63 rfl rfl (fun _ => Nat.le_of_ble_eq_true rfl) ⟨Nat.le_of_ble_eq_true rfl, Nat.le_of_ble_eq_true rfl⟩ ⟨Nat.le_of_ble_eq_true rfl, Nat.le_of_ble_eq_true rfl⟩ (z_rv (fun σ1 hx => ?_)) (fun E9 σ9 hx => by obtain ⟨rfl, hx, rfl⟩ := hx; exact z_out hT C.2.2.2.2.2.2.2.1 (Nat.le_of_ble_eq_true rfl) (Nat.le_of_ble_eq_true rfl) (zXk.e3 (by simp only [t0, t29, t36, t44, t51, eq_self, decide_true, decide_false, Bool.and_true, Bool.true_and, Bool.and_false, Bool.false_and, Bool.or_true, Bool.true_or, Bool.or_false, Bool.false_or, Bool.not_true, Bool.not_false, not_true, not_false_eq_true, if_true, if_false]) (by simp only [t0, t29, t36, t44, t51, eq_self, decide_true, decide_false, Bool.and_true, Bool.true_and, Bool.and_false, Bool.false_and, Bool.or_true, Bool.true_or, Bool.or_false, Bool.false_or, Bool.not_true, Bool.not_false, not_true, not_false_eq_true, if_true, if_false]) (by simp only [t0, t29, t36, t44, t51, hx, eq_self, decide_true, decide_false, Bool.and_true, Bool.true_and, Bool.and_false, Bool.false_and, Bool.or_true, Bool.true_or, Bool.or_false, Bool.false_or, Bool.not_true, Bool.not_false, not_true, not_false_eq_true, if_true, if_false])))
      obtain ⟨t63, rfl⟩ := hx
      have tR := t63
      have hn : zN (x 6) < 8 := zN_lt i6 (by decide) (of_decide_eq_true tR)
      obtain ⟨n, en⟩ : ∃ n, n = zN (x 6) := ⟨_, rfl⟩
      have e1 : zN (x 6 + 1) = n + 1 := by rw [en]; exact (zN_s i6 (by decide)).2
      have ex : x 6 + 1 = nI (n + 1) := by rw [en]; exact (zN_s i6 (by decide)).1
      rw [← en, zp]
      refine z_aload_n (i := 0) C dX6_putRule_66 rfl rfl ?_
      refine z_getf C f_RX6_16 dX6_putRule_67 d0 rfl ?_
      refine z_iload_n (i := 1) C dX6_putRule_70 rfl rfl ?_
      refine z_new C 7 nr n_RX6_73 dX6_putRule_71 (by decide) (dn nr (Nat.le_refl _)) ⟨Nat.le_of_ble_eq_true rfl, Nat.le_of_ble_eq_true rfl⟩ ?_
      refine z_dup C (by first | trivial | rfl) dX6_putRule_74 ?_
      refine z_iload_n (i := 2) C dX6_putRule_75 rfl rfl ?_
      refine z_iload_n (i := 3) C dX6_putRule_76 rfl rfl ?_
      refine z_iload C dX6_putRule_77 rfl ?_
      refine z_iload C dX6_putRule_79 rfl ?_
      refine z_callI C Y_X4_init im_yX4_init rfl ml_RX6_75 (c_X4_init l (zput_s _ _ _ _)) dX6_putRule_81 rfl rfl (fun _ => Nat.le_of_ble_eq_true rfl) ⟨Nat.le_of_ble_eq_true rfl, Nat.le_of_ble_eq_true rfl⟩ ⟨Nat.le_of_ble_eq_true rfl, Nat.le_of_ble_eq_true rfl⟩ (z_rv (fun σ2 hx => ?_)) (z_nx)
      obtain ⟨hc2, hfr⟩ := hx
      have hf2 : ∀ k9 i9, ¬ (k9 = 7 ∧ i9 = nr) → σ2 k9 i9 = σ1 k9 i9 := fun k9 i9 z => (hfr k9 i9 z).trans (zput_n z)
      have hne : ∀ i9, i9 < zN (x 6) → rk i9 ≠ nr := fun i9 h9 e9 => by
        have h8 := dr i9 h9
        rw [e9, dn nr (Nat.le_refl _)] at h8
        cases h8
      have l2 := lR.ag (σ1 := σ2) (fun k9 i9 z => hf2 k9 i9 (by omega))
      rw [← en] at l2
      refine z_callV C Y_Jx4a65c_add_7a177 V_Jx4a65c_add_7a177 ml_RX6_78 (c_Jx4a65c_add_7a177 l l2 (by omega) (k := p9) (by omega) (fun i9 hi9 => ⟨_, _, (hf2 7 _ (fun z => hne i9 (by omega) z.2)).trans (dr i9 (by omega)), elt7⟩) hc2 elt7 ⟨(fun z => by cases z.1), (show (7 : Nat) ≠ 20 + 1 by decide)⟩ (fun _ _ => ⟨(fun z => by cases z.1), (show (7 : Nat) ≠ 20 + 1 by decide)⟩)) dX6_putRule_84 rfl rfl (zLs.ob l2) ⟨_, _, rfl⟩ (fun _ => Nat.le_of_ble_eq_true rfl) ⟨Nat.le_of_ble_eq_true rfl, Nat.le_of_ble_eq_true rfl⟩ ⟨Nat.le_of_ble_eq_true rfl, Nat.le_of_ble_eq_true rfl⟩ (z_rv (fun σ3 hx => ?_)) (z_nx)
      obtain ⟨hL3, hlf⟩ := hx
      have d03 : D0 (x 0) σ3 := (hlf 0 0 (by omega) (by omega)).trans ((hf2 0 0 (by omega)).trans d0)
      refine z_aload_n (i := 0) C dX6_putRule_87 rfl rfl ?_
      refine z_getf C f_RX6_16 dX6_putRule_88 d03 rfl ?_
      refine z_callV C Y_Jx4a65c_size_8abf5 V_Jx4a65c_size_8abf5 ml_RX6_51 (c_Jx4a65c_size_8abf5 l hL3) dX6_putRule_91 rfl rfl (zLs.ob hL3) ⟨_, _, rfl⟩ (fun _ => Nat.le_of_ble_eq_true rfl) ⟨Nat.le_of_ble_eq_true rfl, Nat.le_of_ble_eq_true rfl⟩ ⟨Nat.le_of_ble_eq_true rfl, Nat.le_of_ble_eq_true rfl⟩ (z_ri (fun x σ1 hx => ?_)) (z_nx)
      obtain ⟨rfl, rfl⟩ := hx
      exact z_iret C hr rfl dX6_putRule_94 (Nat.le_of_ble_eq_true rfl) (Nat.le_of_ble_eq_true rfl) ⟨_, rfl, zDz.ok (by simp only [t0, t29, t36, t44, t51, t63, eq_self, decide_true, decide_false, Bool.and_true, Bool.true_and, Bool.and_false, Bool.false_and, Bool.or_true, Bool.true_or, Bool.or_false, Bool.false_or, Bool.not_true, Bool.not_false, not_true, not_false_eq_true, if_true, if_false]) (by simp only [t0, t29, t36, t44, t51, t63, eq_self, decide_true, decide_false, Bool.and_true, Bool.true_and, Bool.and_false, Bool.false_and, Bool.or_true, Bool.true_or, Bool.or_false, Bool.false_or, Bool.not_true, Bool.not_false, not_true, not_false_eq_true, if_true, if_false]) (by simp only [t0, t29, t36, t44, t51, t63, eq_self, decide_true, decide_false, Bool.and_true, Bool.true_and, Bool.and_false, Bool.false_and, Bool.or_true, Bool.true_or, Bool.or_false, Bool.false_or, Bool.not_true, Bool.not_false, not_true, not_false_eq_true, if_true, if_false]) ex.symm ⟨⟨d03, dA.ag (fun k9 i9 z => (hlf k9 i9 (by omega) (by omega)).trans (hf2 k9 i9 (by omega))), (by show DR (zN (x 6 + 1)) (upd (insG p9 n (a 7)) p9 f) (upd (insG p9 n (a 8)) p9 u) (upd (insG p9 n (a 9)) p9 g) (upd (insG p9 n (a 10)) p9 w) _; rw [e1]; rw [← en] at dr; exact DR.ins hL3 dr dn (by omega) ((hlf 7 nr (by omega) (by omega)).trans hc2) (fun i9 z => (hlf 7 i9 (by omega) (by omega)).trans (hf2 7 i9 (by omega)))), dS.ag (fun k9 i9 z => (hlf k9 i9 (by omega) (by omega)).trans (hf2 k9 i9 (by omega))), dC.ag (fun k9 i9 z => (hlf k9 i9 (by omega) (by omega)).trans (hf2 k9 i9 (by omega))) (fun c9 _ => by apply cnt_cg <;> rfl), dQ.ag (fun k9 i9 z => (hlf k9 i9 (by omega) (by omega)).trans (hf2 k9 i9 (by omega)))⟩, dF.ag (fun k9 i9 z => (hlf k9 i9 (by omega) (by omega)).trans (hf2 k9 i9 (by omega)))⟩ (fun k9 i9 z => (hlf k9 i9 (by omega) (by omega)).trans (hf2 k9 i9 (by omega)))⟩
    · exact z_throwS (text := "there is no such place") C hT th_IOE rfl (by decide +kernel) dX6_putRule_15 dX6_putRule_18 dX6_putRule_19 dX6_putRule_21 dX6_putRule_24 ⟨Nat.le_of_ble_eq_true rfl, Nat.le_of_ble_eq_true rfl⟩ ⟨Nat.le_of_ble_eq_true rfl, Nat.le_of_ble_eq_true rfl⟩ (Nat.le_of_ble_eq_true rfl) (Nat.le_of_ble_eq_true rfl) (zXk.e1 (inB_f (Or.inr (by rw [i6.1]; exact Int32.not_le.mp h12))))

set_option maxRecDepth 100000 in
set_option maxHeartbeats 4000000 in
theorem c_X6_removeRule {X : zX} (l : Launch) {x : Nat → Int32} {a : Nat → Nat → Int32} {σ : zHp} (hD : DK x a σ) (hI : zInv x a) {pl : Int32} : zM X l yX6_removeRule cX6_removeRule 2 (some .int) 8 10 200 [aR 0 0, aI pl] σ (zPi (zDz (k_removeRule x a pl) (x 6 - 1) (upd x 6 (x 6 - 1)) (R4 a (delG (zN pl) (zN (x 6) - 1))) σ)) (zXk (k_removeRule x a pl) eIO eIA eIS σ) := by
  obtain ⟨i0, i1, i6, i11, i15, i23, i24, i29, iA, iS, iC, iQ, iP⟩ := id hI
  have b1 := i1.2
  have b6 := i6.2
  have b11 := i11.2
  have b15 := i15.2
  have b23 := i23.2
  have b24 := i24.2
  have b29 := i29.2
  obtain ⟨hE, dF⟩ := id hD
  obtain ⟨d0, dA, dR, dS, dC, dQ⟩ := id hE
  have lA := dA.1
  have lS := dS.1
  have lC := dC.1
  have lQ := dQ.1
  have lF := dF.1
  have dR9 := dR
  obtain ⟨rk, nr, lR, dr, dn⟩ := dR9
  refine zM.of (by decide +kernel) (Nat.le_of_ble_eq_true rfl) (by simp [zcat, Value.category]) ?_
  intro p e s m args below meth c9 loc0 C hr hnm hT
  refine z_iload_n (i := 1) C dX6_removeRule_0 rfl rfl ?_
  refine z_if_lt (tgt := 15) C dX6_removeRule_1 (by decide) (fun h1 => ?_) (fun h1 => ?_)
  · exact z_throwS (text := "there is no such rule") C hT th_IOE rfl (by decide +kernel) dX6_removeRule_15 dX6_removeRule_18 dX6_removeRule_19 dX6_removeRule_21 dX6_removeRule_24 ⟨Nat.le_of_ble_eq_true rfl, Nat.le_of_ble_eq_true rfl⟩ ⟨Nat.le_of_ble_eq_true rfl, Nat.le_of_ble_eq_true rfl⟩ (Nat.le_of_ble_eq_true rfl) (Nat.le_of_ble_eq_true rfl) (zXk.e1 (inB_f (Or.inl h1)))
  · refine z_iload_n (i := 1) C dX6_removeRule_4 rfl rfl ?_
    refine z_aload_n (i := 0) C dX6_removeRule_5 rfl rfl ?_
    refine z_getf C f_RX6_16 dX6_removeRule_6 d0 rfl ?_
    refine z_callV C Y_Jx4a65c_size_8abf5 V_Jx4a65c_size_8abf5 ml_RX6_51 (c_Jx4a65c_size_8abf5 l lR) dX6_removeRule_9 rfl rfl (zLs.ob lR) ⟨_, _, rfl⟩ (fun _ => Nat.le_of_ble_eq_true rfl) ⟨Nat.le_of_ble_eq_true rfl, Nat.le_of_ble_eq_true rfl⟩ ⟨Nat.le_of_ble_eq_true rfl, Nat.le_of_ble_eq_true rfl⟩ (z_ri (fun x σ1 hx => ?_)) (z_nx)
    obtain ⟨rfl, rfl⟩ := hx
    refine z_icmp_lt (tgt := 25) C dX6_removeRule_12 (by decide) (fun h12 => ?_) (fun h12 => ?_)
    · rw [← i6.1] at h12
      obtain ⟨p9, hp9, rfl⟩ := inB_yes i6 (by decide) h1 h12
      have t0 : inB (nI p9) 0 (x 6 - 1) = true := inB_nI i6 (by decide) hp9
      have zp : zN (nI p9) = p9 := zN_nI (by omega)
      obtain ⟨n, en⟩ : ∃ n, zN (x 6) = n + 1 := ⟨zN (x 6) - 1, by omega⟩
      have ex : x 6 - 1 = nI n := by rw [i6.1, en]; exact nI_pred n
      have e1 : zN (x 6 - 1) = n := by rw [ex]; exact zN_nI (by omega)
      rw [zp]
      rw [en] at lR dr
      refine z_aload_n (i := 0) C dX6_removeRule_25 rfl rfl ?_
      refine z_getf C f_RX6_16 dX6_removeRule_26 d0 rfl ?_
      refine z_iload_n (i := 1) C dX6_removeRule_29 rfl rfl ?_
      refine z_callV C Y_Jx4a65c_remove_915e3 V_Jx4a65c_remove_915e3 ml_RX6_83 (c_Jx4a65c_remove_915e3 l lR (by omega) (k := p9) (by omega) (fun i9 hi9 => ⟨_, _, dr i9 hi9, elt7⟩) (fun _ _ => ⟨(fun z => by cases z.1), (show (7 : Nat) ≠ 20 + 1 by decide)⟩)) dX6_removeRule_30 rfl rfl (zLs.ob lR) ⟨_, _, rfl⟩ (fun _ => Nat.le_of_ble_eq_true rfl) ⟨Nat.le_of_ble_eq_true rfl, Nat.le_of_ble_eq_true rfl⟩ ⟨Nat.le_of_ble_eq_true rfl, Nat.le_of_ble_eq_true rfl⟩ (z_rr (fun r9 σ3 hx => ?_)) (z_nx)
      obtain ⟨hL3, hlf⟩ := hx
      rw [Nat.add_sub_cancel] at hL3
      refine z_pop C (by first | trivial | rfl) dX6_removeRule_33 ?_
      have d03 : D0 (x 0) σ3 := (hlf 0 0 (by omega) (by omega)).trans d0
      refine z_aload_n (i := 0) C dX6_removeRule_34 rfl rfl ?_
      refine z_getf C f_RX6_16 dX6_removeRule_35 d03 rfl ?_
      refine z_callV C Y_Jx4a65c_size_8abf5 V_Jx4a65c_size_8abf5 ml_RX6_51 (c_Jx4a65c_size_8abf5 l hL3) dX6_removeRule_38 rfl rfl (zLs.ob hL3) ⟨_, _, rfl⟩ (fun _ => Nat.le_of_ble_eq_true rfl) ⟨Nat.le_of_ble_eq_true rfl, Nat.le_of_ble_eq_true rfl⟩ ⟨Nat.le_of_ble_eq_true rfl, Nat.le_of_ble_eq_true rfl⟩ (z_ri (fun x σ1 hx => ?_)) (z_nx)
      obtain ⟨rfl, rfl⟩ := hx
      exact z_iret C hr rfl dX6_removeRule_41 (Nat.le_of_ble_eq_true rfl) (Nat.le_of_ble_eq_true rfl) ⟨_, rfl, zDz.ok (by simp only [t0, eq_self, decide_true, decide_false, Bool.and_true, Bool.true_and, Bool.and_false, Bool.false_and, Bool.or_true, Bool.true_or, Bool.or_false, Bool.false_or, Bool.not_true, Bool.not_false, not_true, not_false_eq_true, if_true, if_false]) rfl rfl ex.symm ⟨⟨d03, dA.ag (fun k9 i9 z => hlf k9 i9 (by omega) (by omega)), (by show DR (zN (x 6 - 1)) (delG p9 (zN (x 6) - 1) (a 7)) (delG p9 (zN (x 6) - 1) (a 8)) (delG p9 (zN (x 6) - 1) (a 9)) (delG p9 (zN (x 6) - 1) (a 10)) _; rw [e1, show zN (x 6) - 1 = n by omega]; exact DR.del hL3 dr dn (by omega) (fun i9 => hlf 7 i9 (by omega) (by omega))), dS.ag (fun k9 i9 z => hlf k9 i9 (by omega) (by omega)), dC.ag (fun k9 i9 z => hlf k9 i9 (by omega) (by omega)) (fun c9 _ => by apply cnt_cg <;> rfl), dQ.ag (fun k9 i9 z => hlf k9 i9 (by omega) (by omega))⟩, dF.ag (fun k9 i9 z => hlf k9 i9 (by omega) (by omega))⟩ (fun k9 i9 z => hlf k9 i9 (by omega) (by omega))⟩
    · rw [← i6.1] at h12
      exact z_throwS (text := "there is no such rule") C hT th_IOE rfl (by decide +kernel) dX6_removeRule_15 dX6_removeRule_18 dX6_removeRule_19 dX6_removeRule_21 dX6_removeRule_24 ⟨Nat.le_of_ble_eq_true rfl, Nat.le_of_ble_eq_true rfl⟩ ⟨Nat.le_of_ble_eq_true rfl, Nat.le_of_ble_eq_true rfl⟩ (Nat.le_of_ble_eq_true rfl) (Nat.le_of_ble_eq_true rfl) (zXk.e1 (inB_no i6 (by decide) h12))

