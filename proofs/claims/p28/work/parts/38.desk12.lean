/-! the desk: chances and quotes -/
set_option maxRecDepth 100000 in
set_option maxHeartbeats 4000000 in
theorem c_X6_addChance {X : zX} (l : Launch) {x : Nat → Int32} {a : Nat → Nat → Int32} {σ : zHp} (hD : DK x a σ) (hI : zInv x a) (hW : zInw x a) {i j w : Int32} : zM X l yX6_addChance cX6_addChance 7 (some .int) 8 10 200 [aR 0 0, aI i, aI j, aI w] σ (zPi (zDz (k_addChance x a i j w) (x 15) (upd x 15 (x 15 + 1)) (ua (ua (ua (ua a 16 (upd (a 16) (zN (x 15)) i)) 17 (upd (a 17) (zN (x 15)) w)) 19 (upd (a 19) (zN (x 15)) (x 0))) 21 (upd (a 21) (8 * zN (x 15) + zN j) 100)) σ)) (zXk (k_addChance x a i j w) eIO eIA eIS σ) := by
  obtain ⟨i0, i1, i6, i11, i15, i23, i24, i29, iA, iS, iC, iQ, iP⟩ := id hI
  have b1 := i1.2
  have b6 := i6.2
  have b11 := i11.2
  have b15 := i15.2
  have b23 := i23.2
  have b24 := i24.2
  have b29 := i29.2
  obtain ⟨hE, dF⟩ := id hD
  obtain ⟨d0, dA, dR, dS, dC, dQ⟩ := id hE
  have lA := dA.1
  have lS := dS.1
  have lC := dC.1
  have lQ := dQ.1
  have lF := dF.1
  refine zM.of (by decide +kernel) (Nat.le_of_ble_eq_true rfl) (by simp [zcat, Value.category]) ?_
  intro p e s m args below meth c9 loc0 C hr hnm hT
  refine z_aload_n (i := 0) C dX6_addChance_0 rfl rfl ?_
  refine z_iload_n (i := 1) C dX6_addChance_1 rfl rfl ?_
  refine z_callV C Y_X6_accountAt V_X6_accountAt ml_RX6_47 (c_X6_accountAt l hE hI) dX6_addChance_2 rfl rfl d0 ⟨_, _, rfl⟩ (fun _ => Nat.le_of_ble_eq_true rfl) ⟨Nat.le_of_ble_eq_true rfl, Nat.le_of_ble_eq_true rfl⟩ ⟨Nat.le_of_ble_eq_true rfl, Nat.le_of_ble_eq_true rfl⟩ (z_rr (fun r9 σ1 hx => ?_)) (fun E9 σ9 hx => by obtain ⟨rfl, hx, rfl⟩ := hx; exact z_out hT C.2.2.2.2.2.2.2.1 (Nat.le_of_ble_eq_true rfl) (Nat.le_of_ble_eq_true rfl) (zXk.e1 (by simp only [hx, eq_self, decide_true, decide_false, Bool.and_true, Bool.true_and, Bool.and_false, Bool.false_and, Bool.or_true, Bool.true_or, Bool.or_false, Bool.false_or, Bool.not_true, Bool.not_false, not_true, not_false_eq_true, if_true, if_false])))
  obtain ⟨t2, rfl, rfl⟩ := hx
  obtain ⟨i, hi, rfl⟩ := inB_ix i1 (by decide) t2
  have zi : zN (nI i) = i := zN_nI (by omega)
  rw [zi]
  refine z_astore C dX6_addChance_5 (by decide) ?_
  refine z_aload_n (i := 0) C dX6_addChance_7 rfl rfl ?_
  refine z_iload_n (i := 2) C dX6_addChance_8 rfl rfl ?_
  refine z_callV C Y_X6_sellerAt V_X6_sellerAt ml_RX6_94 (c_X6_sellerAt l hE hI) dX6_addChance_9 rfl rfl d0 ⟨_, _, rfl⟩ (fun _ => Nat.le_of_ble_eq_true rfl) ⟨Nat.le_of_ble_eq_true rfl, Nat.le_of_ble_eq_true rfl⟩ ⟨Nat.le_of_ble_eq_true rfl, Nat.le_of_ble_eq_true rfl⟩ (z_rr (fun r9 σ1 hx => ?_)) (fun E9 σ9 hx => by obtain ⟨rfl, hx, rfl⟩ := hx; exact z_out hT C.2.2.2.2.2.2.2.1 (Nat.le_of_ble_eq_true rfl) (Nat.le_of_ble_eq_true rfl) (zXk.e1 (by simp only [t2, zi, hx, eq_self, decide_true, decide_false, Bool.and_true, Bool.true_and, Bool.and_false, Bool.false_and, Bool.or_true, Bool.true_or, Bool.or_false, Bool.false_or, Bool.not_true, Bool.not_false, not_true, not_false_eq_true, if_true, if_false])))
  obtain ⟨t9, rfl, rfl⟩ := hx
  obtain ⟨j, hj, rfl⟩ := inB_ix i11 (by decide) t9
  have zj : zN (nI j) = j := zN_nI (by omega)
  rw [zj]
  refine z_astore C dX6_addChance_12 (by decide) ?_
  refine z_iload_n (i := 3) C dX6_addChance_14 rfl rfl ?_
  refine z_iconst (v := 1) C dX6_addChance_15 (by decide) ?_
  refine z_ldc C dX6_addChance_16 kc_RX6_104 ?_
  refine z_callS C Y_X6_requireRange sm_yX6_requireRange ml_RX6_35 (c_X6_requireRange l) dX6_addChance_18 rfl rfl (fun _ => Nat.le_of_ble_eq_true rfl) ⟨Nat.le_of_ble_eq_true rfl, Nat.le_of_ble_eq_true rfl⟩ ⟨Nat.le_of_ble_eq_true rfl, Nat.le_of_ble_eq_true rfl⟩ (z_rv (fun σ1 hx => ?_)) (fun E9 σ9 hx => by obtain ⟨rfl, hx, rfl⟩ := hx; exact z_out hT C.2.2.2.2.2.2.2.1 (Nat.le_of_ble_eq_true rfl) (Nat.le_of_ble_eq_true rfl) (zXk.e2 (by simp only [t2, zi, t9, zj, eq_self, decide_true, decide_false, Bool.and_true, Bool.true_and, Bool.and_false, Bool.false_and, Bool.or_true, Bool.true_or, Bool.or_false, Bool.false_or, Bool.not_true, Bool.not_false, not_true, not_false_eq_true, if_true, if_false]) (by simp only [t2, zi, t9, zj, hx, eq_self, decide_true, decide_false, Bool.and_true, Bool.true_and, Bool.and_false, Bool.false_and, Bool.or_true, Bool.true_or, Bool.or_false, Bool.false_or, Bool.not_true, Bool.not_false, not_true, not_false_eq_true, if_true, if_false])))
  obtain ⟨t18, rfl⟩ := hx
  refine z_aload_n (i := 0) C dX6_addChance_21 rfl rfl ?_
  refine z_getf C f_RX6_22 dX6_addChance_22 d0 rfl ?_
  refine z_callV C Y_Jx4a65c_size_8abf5 V_Jx4a65c_size_8abf5 ml_RX6_51 (c_Jx4a65c_size_8abf5 l lC) dX6_addChance_25 rfl rfl (zLs.ob lC) ⟨_, _, rfl⟩ (fun _ => Nat.le_of_ble_eq_true rfl) ⟨Nat.le_of_ble_eq_true rfl, Nat.le_of_ble_eq_true rfl⟩ ⟨Nat.le_of_ble_eq_true rfl, Nat.le_of_ble_eq_true rfl⟩ (z_ri (fun x σ1 hx => ?_)) (z_nx)
  obtain ⟨rfl, rfl⟩ := hx
  refine z_bipush (v := 30) C dX6_addChance_28 (by decide) ?_

  rw [← i15.1]
  refine z_callS C Y_X6_requireRoom sm_yX6_requireRoom ml_RX6_55 (c_X6_requireRoom l) dX6_addChance_30 rfl rfl (fun _ => Nat.le_of_ble_eq_true rfl) ⟨Nat.le_of_ble_eq_true rfl, Nat.le_of_ble_eq_true rfl⟩ ⟨Nat.le_of_ble_eq_true rfl, Nat.le_of_ble_eq_true rfl⟩ (z_rv (fun σ1 hx => ?_)) (fun E9 σ9 hx => by obtain ⟨rfl, hx, rfl⟩ := hx; exact z_out hT C.2.2.2.2.2.2.2.1 (Nat.le_of_ble_eq_true rfl) (Nat.le_of_ble_eq_true rfl) (zXk.e3 (by simp only [t2, zi, t9, zj, t18, eq_self, decide_true, decide_false, Bool.and_true, Bool.true_and, Bool.and_false, Bool.false_and, Bool.or_true, Bool.true_or, Bool.or_false, Bool.false_or, Bool.not_true, Bool.not_false, not_true, not_false_eq_true, if_true, if_false]) (by simp only [t2, zi, t9, zj, t18, eq_self, decide_true, decide_false, Bool.and_true, Bool.true_and, Bool.and_false, Bool.false_and, Bool.or_true, Bool.true_or, Bool.or_false, Bool.false_or, Bool.not_true, Bool.not_false, not_true, not_false_eq_true, if_true, if_false]) (by simp only [t2, zi, t9, zj, t18, hx, eq_self, decide_true, decide_false, Bool.and_true, Bool.true_and, Bool.and_false, Bool.false_and, Bool.or_true, Bool.true_or, Bool.or_false, Bool.false_or, Bool.not_true, Bool.not_false, not_true, not_false_eq_true, if_true, if_false])))
  obtain ⟨t30, rfl⟩ := hx
  have tR := t30
  have hn : zN (x 15) < 30 := zN_lt i15 (by decide) (of_decide_eq_true tR)
  obtain ⟨n, en⟩ : ∃ n, n = zN (x 15) := ⟨_, rfl⟩
  have e1 : zN (x 15 + 1) = n + 1 := by rw [en]; exact (zN_s i15 (by decide)).2
  have ex : x 15 = nI n := by rw [en]; exact i15.1
  rw [← en]
  have fr9 := dC.2.2.2.2 n (by omega)
  refine z_new C 6 n n_RX6_108 dX6_addChance_33 (by decide) fr9.1 ⟨Nat.le_of_ble_eq_true rfl, Nat.le_of_ble_eq_true rfl⟩ ?_
  refine z_dup C (by first | trivial | rfl) dX6_addChance_36 ?_
  refine z_aload C dX6_addChance_37 rfl ?_
  refine z_iload_n (i := 3) C dX6_addChance_39 rfl rfl ?_
  refine z_aload_n (i := 0) C dX6_addChance_40 rfl rfl ?_
  refine z_getf C f_RX6_31 dX6_addChance_41 (by rw [zput_n (by omega)]; exact d0) rfl ?_
  refine z_callI C Y_X1_init im_yX1_init rfl ml_RX6_110 (c_X1_init l (zput_s _ _ _ _) (by rw [zput_n (by omega)]; exact fr9.2.1) (by rw [zput_n (by omega)]; exact fr9.2.2)) dX6_addChance_44 rfl rfl (fun _ => Nat.le_of_ble_eq_true rfl) ⟨Nat.le_of_ble_eq_true rfl, Nat.le_of_ble_eq_true rfl⟩ ⟨Nat.le_of_ble_eq_true rfl, Nat.le_of_ble_eq_true rfl⟩ (z_rv (fun σ2 hx => ?_)) (z_nx)
  obtain ⟨hc6, h30, h31, hfr⟩ := hx
  have hf0 : ∀ k9 i9, ¬ (k9 = 6 ∧ i9 = n) → ¬ (k9 = 30 ∧ i9 = n) → ¬ (k9 = 31 ∧ i9 = n) → σ2 k9 i9 = σ1 k9 i9 := fun k9 i9 z z1 z2 => (hfr k9 i9 z z1 z2).trans (zput_n z)
  refine z_astore C dX6_addChance_47 (by decide) ?_
  refine z_aload C dX6_addChance_49 rfl ?_
  refine z_getf C f_RX6_111 dX6_addChance_51 hc6 rfl ?_
  refine z_aload C dX6_addChance_54 rfl ?_
  refine z_getf C f_RX6_115 dX6_addChance_56 ((hf0 5 j (by omega) (by omega) (by omega)).trans (dS.2.1 j hj)) rfl ?_
  refine z_bipush (v := 100) C dX6_addChance_59 (by decide) ?_
  refine z_callS C Y_X6_addTo sm_yX6_addTo ml_RX6_118 (c_X6_addTo l h30 (by decide) (by omega) (by decide)) dX6_addChance_61 rfl rfl (fun _ => Nat.le_of_ble_eq_true rfl) ⟨Nat.le_of_ble_eq_true rfl, Nat.le_of_ble_eq_true rfl⟩ ⟨Nat.le_of_ble_eq_true rfl, Nat.le_of_ble_eq_true rfl⟩ (z_rv (fun σ4 hx => ?_)) (z_nx)
  have hc2 : σ4 6 n = some (oC 4 [aR 3 i, aI w, aR 30 n, aR 31 n, aI 0, aI (x 0), aI (-1), aN]) := by rw [hx, zput_n (by omega)]; exact hc6
  have hs2 := (congrFun (congrFun hx 30) n).trans (zput_s _ _ _ _)
  have hd2 := (congrFun (congrFun hx 31) n).trans ((zput_n (by omega)).trans h31)
  have hf2 : ∀ k9 i9, ¬ (k9 = 6 ∧ i9 = n) → ¬ (k9 = 30 ∧ i9 = n) → ¬ (k9 = 31 ∧ i9 = n) → σ4 k9 i9 = σ1 k9 i9 := fun k9 i9 z z1 z2 => by rw [hx, zput_n z1]; exact hf0 k9 i9 z z1 z2
  have l2 := lC.ag (σ1 := σ4) (fun k9 i9 z => hf2 k9 i9 (by omega) (by omega) (by omega))
  rw [← en] at l2
  refine z_aload_n (i := 0) C dX6_addChance_64 rfl rfl ?_
  refine z_getf C f_RX6_22 dX6_addChance_65 ((hf2 0 0 (by omega) (by omega) (by omega)).trans d0) rfl ?_
  refine z_aload C dX6_addChance_68 rfl ?_
  refine z_callV C Y_Jx4a65c_add_9ea2d V_Jx4a65c_add_9ea2d ml_RX6_64 (c_Jx4a65c_add_9ea2d l l2 (by omega) (fun i9 hi9 => ⟨_, _, (hf2 6 i9 (by omega) (by omega) (by omega)).trans (dC.2.1 i9 (by omega)), elt4⟩) hc2 elt4 (fun z => by cases z.1) (fun _ _ z => by cases z.1)) dX6_addChance_70 rfl rfl (zLs.ob l2) ⟨_, _, rfl⟩ (fun _ => Nat.le_of_ble_eq_true rfl) ⟨Nat.le_of_ble_eq_true rfl, Nat.le_of_ble_eq_true rfl⟩ ⟨Nat.le_of_ble_eq_true rfl, Nat.le_of_ble_eq_true rfl⟩ (z_ri (fun r9 σ3 hx => ?_)) (z_nx)
  obtain ⟨rfl, hL3, hlf⟩ := hx
  refine z_pop C (by first | trivial | rfl) dX6_addChance_73 ?_
  have d03 : D0 (x 0) σ3 := (hlf 0 0 (by omega) (by omega)).trans ((hf2 0 0 (by omega) (by omega) (by omega)).trans d0)
  have ct9 : ∀ (x' : Nat → Int32) (a' : Nat → Nat → Int32), x 23 = x' 23 → a 25 = a' 25 → a 28 = a' 28 → ∀ q, cnt x' a' q = cnt x a q := fun x' a' h1 h2 h3 q => (cnt_cg h1 h2 h3).symm
  refine z_aload_n (i := 0) C dX6_addChance_74 rfl rfl ?_
  refine z_getf C f_RX6_22 dX6_addChance_75 d03 rfl ?_
  refine z_callV C Y_Jx4a65c_size_8abf5 V_Jx4a65c_size_8abf5 ml_RX6_51 (c_Jx4a65c_size_8abf5 l hL3) dX6_addChance_78 rfl rfl (zLs.ob hL3) ⟨_, _, rfl⟩ (fun _ => Nat.le_of_ble_eq_true rfl) ⟨Nat.le_of_ble_eq_true rfl, Nat.le_of_ble_eq_true rfl⟩ ⟨Nat.le_of_ble_eq_true rfl, Nat.le_of_ble_eq_true rfl⟩ (z_ri (fun x σ1 hx => ?_)) (z_nx)
  obtain ⟨rfl, rfl⟩ := hx
  refine z_iconst (v := 1) C dX6_addChance_81 (by decide) ?_
  refine z_isub C dX6_addChance_82 ?_
  exact z_iret C hr rfl dX6_addChance_83 (Nat.le_of_ble_eq_true rfl) (Nat.le_of_ble_eq_true rfl) ⟨_, rfl, zDz.ok (by simp only [t2, t9, zi, zj, t18, t30, eq_self, decide_true, decide_false, Bool.and_true, Bool.true_and, Bool.and_false, Bool.false_and, Bool.or_true, Bool.true_or, Bool.or_false, Bool.false_or, Bool.not_true, Bool.not_false, not_true, not_false_eq_true, if_true, if_false]) (by simp only [t2, t9, zi, zj, t18, t30, eq_self, decide_true, decide_false, Bool.and_true, Bool.true_and, Bool.and_false, Bool.false_and, Bool.or_true, Bool.true_or, Bool.or_false, Bool.false_or, Bool.not_true, Bool.not_false, not_true, not_false_eq_true, if_true, if_false]) (by simp only [t2, t9, zi, zj, t18, t30, eq_self, decide_true, decide_false, Bool.and_true, Bool.true_and, Bool.and_false, Bool.false_and, Bool.or_true, Bool.true_or, Bool.or_false, Bool.false_or, Bool.not_true, Bool.not_false, not_true, not_false_eq_true, if_true, if_false]) (by rw [nI_pred]; exact ex.symm) ⟨⟨d03, dA.ag (fun k9 i9 z => (hlf k9 i9 (by omega) (by omega)).trans (hf2 k9 i9 (by omega) (by omega) (by omega))), dR.ag (fun k9 i9 z => (hlf k9 i9 (by omega) (by omega)).trans (hf2 k9 i9 (by omega) (by omega) (by omega))), dS.ag (fun k9 i9 z => (hlf k9 i9 (by omega) (by omega)).trans (hf2 k9 i9 (by omega) (by omega) (by omega))), (by show DC (zN (x 15 + 1)) (upd (a 16) n _) (upd (a 17) n _) (a 18) (upd (a 19) n _) (a 20) (upd (a 21) (8 * n + _) 100) (a 22) _ _; rw [e1]; rw [← en] at dC; exact dC.add (j := j) hL3 (hW.1 n (by omega)) (fun t ht => hW.2.1 t (by omega)) (fun t ht => hW.2.2.1 t (by omega)) ((ct9 _ _ (by rfl) (by rfl) (by rfl) _).trans (cnt_new (n := n) (by omega) (fun q hq => by obtain ⟨⟨c9, h9, e9⟩, -, -⟩ := iQ q hq; exact ⟨c9, by omega, e9⟩))) (fun c9 h9 => ct9 _ _ (by rfl) (by rfl) (by rfl) _) (by omega) ((hlf 6 n (by omega) (by omega)).trans (by rw [zi]; exact hc2)) ((hlf 30 n (by omega) (by omega)).trans hs2) ((hlf 31 n (by omega) (by omega)).trans hd2) (fun k9 i9 z z1 => (hlf k9 i9 (by omega) (by omega)).trans (hf2 k9 i9 (by omega) (by omega) (by omega)))), dQ.ag (fun k9 i9 z => (hlf k9 i9 (by omega) (by omega)).trans (hf2 k9 i9 (by omega) (by omega) (by omega)))⟩, dF.ag (fun k9 i9 z => (hlf k9 i9 (by omega) (by omega)).trans (hf2 k9 i9 (by omega) (by omega) (by omega)))⟩ (fun k9 i9 z => (hlf k9 i9 (by omega) (by omega)).trans (hf2 k9 i9 (by omega) (by omega) (by omega)))⟩

set_option maxRecDepth 100000 in
set_option maxHeartbeats 4000000 in
theorem c_X6_giveShare {X : zX} (l : Launch) {x : Nat → Int32} {a : Nat → Nat → Int32} {σ : zHp} (hD : DK x a σ) (hI : zInv x a) {i j t w : Int32} : zM X l yX6_giveShare cX6_giveShare 8 (some .int) 8 10 200 [aR 0 0, aI i, aI j, aI t, aI w] σ (zPi (zDz (k_giveShare x a i j t w) (upd (upd (a 21) (8 * zN i + zN j) (a 21 (8 * zN i + zN j) - w)) (8 * zN i + zN t) ((upd (a 21) (8 * zN i + zN j) (a 21 (8 * zN i + zN j) - w)) (8 * zN i + zN t) + w) (8 * zN i + zN t)) (x) (ua (ua a 21 (upd (a 21) (8 * zN i + zN j) (a 21 (8 * zN i + zN j) - w))) 21 (upd (upd (a 21) (8 * zN i + zN j) (a 21 (8 * zN i + zN j) - w)) (8 * zN i + zN t) ((upd (a 21) (8 * zN i + zN j) (a 21 (8 * zN i + zN j) - w)) (8 * zN i + zN t) + w))) σ)) (zXk (k_giveShare x a i j t w) eIO eIA eIS σ) := by
  obtain ⟨i0, i1, i6, i11, i15, i23, i24, i29, iA, iS, iC, iQ, iP⟩ := id hI
  have b1 := i1.2
  have b6 := i6.2
  have b11 := i11.2
  have b15 := i15.2
  have b23 := i23.2
  have b24 := i24.2
  have b29 := i29.2
  obtain ⟨hE, dF⟩ := id hD
  obtain ⟨d0, dA, dR, dS, dC, dQ⟩ := id hE
  have lA := dA.1
  have lS := dS.1
  have lC := dC.1
  have lQ := dQ.1
  have lF := dF.1
  refine zM.of (by decide +kernel) (Nat.le_of_ble_eq_true rfl) (by simp [zcat, Value.category]) ?_
  intro p e s m args below meth c9 loc0 C hr hnm hT
  refine z_aload_n (i := 0) C dX6_giveShare_0 rfl rfl ?_
  refine z_iload_n (i := 1) C dX6_giveShare_1 rfl rfl ?_
  refine z_callV C Y_X6_chanceAt V_X6_chanceAt ml_RX6_122 (c_X6_chanceAt l hE hI) dX6_giveShare_2 rfl rfl d0 ⟨_, _, rfl⟩ (fun _ => Nat.le_of_ble_eq_true rfl) ⟨Nat.le_of_ble_eq_true rfl, Nat.le_of_ble_eq_true rfl⟩ ⟨Nat.le_of_ble_eq_true rfl, Nat.le_of_ble_eq_true rfl⟩ (z_rr (fun r9 σ1 hx => ?_)) (fun E9 σ9 hx => by obtain ⟨rfl, hx, rfl⟩ := hx; exact z_out hT C.2.2.2.2.2.2.2.1 (Nat.le_of_ble_eq_true rfl) (Nat.le_of_ble_eq_true rfl) (zXk.e1 (by simp only [hx, eq_self, decide_true, decide_false, Bool.and_true, Bool.true_and, Bool.and_false, Bool.false_and, Bool.or_true, Bool.true_or, Bool.or_false, Bool.false_or, Bool.not_true, Bool.not_false, not_true, not_false_eq_true, if_true, if_false])))
  obtain ⟨t2, rfl, rfl⟩ := hx
  obtain ⟨i, hi, rfl⟩ := inB_ix i15 (by decide) t2
  have zi : zN (nI i) = i := zN_nI (by omega)
  rw [zi]
  refine z_astore C dX6_giveShare_5 (by decide) ?_
  refine z_aload_n (i := 0) C dX6_giveShare_7 rfl rfl ?_
  refine z_iload_n (i := 2) C dX6_giveShare_8 rfl rfl ?_
  refine z_callV C Y_X6_sellerAt V_X6_sellerAt ml_RX6_94 (c_X6_sellerAt l hE hI) dX6_giveShare_9 rfl rfl d0 ⟨_, _, rfl⟩ (fun _ => Nat.le_of_ble_eq_true rfl) ⟨Nat.le_of_ble_eq_true rfl, Nat.le_of_ble_eq_true rfl⟩ ⟨Nat.le_of_ble_eq_true rfl, Nat.le_of_ble_eq_true rfl⟩ (z_rr (fun r9 σ1 hx => ?_)) (fun E9 σ9 hx => by obtain ⟨rfl, hx, rfl⟩ := hx; exact z_out hT C.2.2.2.2.2.2.2.1 (Nat.le_of_ble_eq_true rfl) (Nat.le_of_ble_eq_true rfl) (zXk.e1 (by simp only [t2, zi, hx, eq_self, decide_true, decide_false, Bool.and_true, Bool.true_and, Bool.and_false, Bool.false_and, Bool.or_true, Bool.true_or, Bool.or_false, Bool.false_or, Bool.not_true, Bool.not_false, not_true, not_false_eq_true, if_true, if_false])))
  obtain ⟨t9, rfl, rfl⟩ := hx
  obtain ⟨j, hj, rfl⟩ := inB_ix i11 (by decide) t9
  have zj : zN (nI j) = j := zN_nI (by omega)
  rw [zj]
  refine z_astore C dX6_giveShare_12 (by decide) ?_
  refine z_aload_n (i := 0) C dX6_giveShare_14 rfl rfl ?_
  refine z_iload_n (i := 3) C dX6_giveShare_15 rfl rfl ?_
  refine z_callV C Y_X6_sellerAt V_X6_sellerAt ml_RX6_94 (c_X6_sellerAt l hE hI) dX6_giveShare_16 rfl rfl d0 ⟨_, _, rfl⟩ (fun _ => Nat.le_of_ble_eq_true rfl) ⟨Nat.le_of_ble_eq_true rfl, Nat.le_of_ble_eq_true rfl⟩ ⟨Nat.le_of_ble_eq_true rfl, Nat.le_of_ble_eq_true rfl⟩ (z_rr (fun r9 σ1 hx => ?_)) (fun E9 σ9 hx => by obtain ⟨rfl, hx, rfl⟩ := hx; exact z_out hT C.2.2.2.2.2.2.2.1 (Nat.le_of_ble_eq_true rfl) (Nat.le_of_ble_eq_true rfl) (zXk.e1 (by simp only [t2, zi, t9, zj, hx, eq_self, decide_true, decide_false, Bool.and_true, Bool.true_and, Bool.and_false, Bool.false_and, Bool.or_true, Bool.true_or, Bool.or_false, Bool.false_or, Bool.not_true, Bool.not_false, not_true, not_false_eq_true, if_true, if_false])))
  obtain ⟨t16, rfl, rfl⟩ := hx
  obtain ⟨t, ht, rfl⟩ := inB_ix i11 (by decide) t16
  have zt : zN (nI t) = t := zN_nI (by omega)
  rw [zt]
  refine z_astore C dX6_giveShare_19 (by decide) ?_
  refine z_iload C dX6_giveShare_21 rfl ?_
  refine z_iconst (v := 1) C dX6_giveShare_23 (by decide) ?_
  refine z_bipush (v := 100) C dX6_giveShare_24 (by decide) ?_
  refine z_callS C Y_X6_requireRange sm_yX6_requireRange ml_RX6_35 (c_X6_requireRange l) dX6_giveShare_26 rfl rfl (fun _ => Nat.le_of_ble_eq_true rfl) ⟨Nat.le_of_ble_eq_true rfl, Nat.le_of_ble_eq_true rfl⟩ ⟨Nat.le_of_ble_eq_true rfl, Nat.le_of_ble_eq_true rfl⟩ (z_rv (fun σ1 hx => ?_)) (fun E9 σ9 hx => by obtain ⟨rfl, hx, rfl⟩ := hx; exact z_out hT C.2.2.2.2.2.2.2.1 (Nat.le_of_ble_eq_true rfl) (Nat.le_of_ble_eq_true rfl) (zXk.e2 (by simp only [t2, zi, t9, zj, t16, zt, eq_self, decide_true, decide_false, Bool.and_true, Bool.true_and, Bool.and_false, Bool.false_and, Bool.or_true, Bool.true_or, Bool.or_false, Bool.false_or, Bool.not_true, Bool.not_false, not_true, not_false_eq_true, if_true, if_false]) (by simp only [t2, zi, t9, zj, t16, zt, hx, eq_self, decide_true, decide_false, Bool.and_true, Bool.true_and, Bool.and_false, Bool.false_and, Bool.or_true, Bool.true_or, Bool.or_false, Bool.false_or, Bool.not_true, Bool.not_false, not_true, not_false_eq_true, if_true, if_false])))
  obtain ⟨t26, rfl⟩ := hx
  refine z_aload C dX6_giveShare_29 rfl ?_
  refine z_aload C dX6_giveShare_31 rfl ?_
  refine z_acmp_ne (o := some (5, j)) (o' := some (5, t)) (tgt := 46) C dX6_giveShare_33 (by decide) (fun hne => ?_) (fun he => ?_)
  · have hjt : ¬ j = t := fun z => hne (by rw [z])
    have tn : (nI j = nI t) = False := eq_false (fun z => hjt ((nI_eq (by omega) (by omega)).mp z))
    refine z_aload C dX6_giveShare_46 rfl ?_
    refine z_callS C Y_X6_requireOpen sm_yX6_requireOpen ml_RX6_131 (c_X6_requireOpen l (dC.2.1 _ (by first | assumption | omega))) dX6_giveShare_48 rfl rfl (fun _ => Nat.le_of_ble_eq_true rfl) ⟨Nat.le_of_ble_eq_true rfl, Nat.le_of_ble_eq_true rfl⟩ ⟨Nat.le_of_ble_eq_true rfl, Nat.le_of_ble_eq_true rfl⟩ (z_rv (fun σ1 hx => ?_)) (fun E9 σ9 hx => by obtain ⟨rfl, hx, rfl⟩ := hx; exact z_out hT C.2.2.2.2.2.2.2.1 (Nat.le_of_ble_eq_true rfl) (Nat.le_of_ble_eq_true rfl) (zXk.e3 (by simp only [t2, zi, t9, zj, t16, zt, t26, tn, eq_self, decide_true, decide_false, Bool.and_true, Bool.true_and, Bool.and_false, Bool.false_and, Bool.or_true, Bool.true_or, Bool.or_false, Bool.false_or, Bool.not_true, Bool.not_false, not_true, not_false_eq_true, if_true, if_false]) (by simp only [t2, zi, t9, zj, t16, zt, t26, tn, eq_self, decide_true, decide_false, Bool.and_true, Bool.true_and, Bool.and_false, Bool.false_and, Bool.or_true, Bool.true_or, Bool.or_false, Bool.false_or, Bool.not_true, Bool.not_false, not_true, not_false_eq_true, if_true, if_false]) (by simp only [t2, zi, t9, zj, t16, zt, t26, tn, hx, eq_self, decide_true, decide_false, Bool.and_true, Bool.true_and, Bool.and_false, Bool.false_and, Bool.or_true, Bool.true_or, Bool.or_false, Bool.false_or, Bool.not_true, Bool.not_false, not_true, not_false_eq_true, if_true, if_false])))
    obtain ⟨t48, rfl⟩ := hx
    refine z_aload C dX6_giveShare_51 rfl ?_
    refine z_getf C f_RX6_111 dX6_giveShare_53 (dC.2.1 _ (by first | assumption | omega)) rfl ?_
    refine z_aload C dX6_giveShare_56 rfl ?_
    refine z_getf C f_RX6_115 dX6_giveShare_58 (dS.2.1 _ (by first | assumption | omega)) rfl ?_
    obtain ⟨f, hfs, ef⟩ := dC.2.2.1 i hi
    refine z_callS C Y_X6_at sm_yX6_at ml_RX6_135 (c_X6_at l hfs (j := j) (by omega) (by decide)) dX6_giveShare_61 rfl rfl (fun _ => Nat.le_of_ble_eq_true rfl) ⟨Nat.le_of_ble_eq_true rfl, Nat.le_of_ble_eq_true rfl⟩ ⟨Nat.le_of_ble_eq_true rfl, Nat.le_of_ble_eq_true rfl⟩ (z_ri (fun x σ1 hx => ?_)) (z_nx)
    obtain ⟨rfl, rfl⟩ := hx
    rw [ef j (by omega)]
    refine z_iload C dX6_giveShare_64 rfl ?_
    refine z_icmp_ge (tgt := 79) C dX6_giveShare_66 (by decide) (fun h66 => ?_) (fun h66 => ?_)
    · have e1 : ∀ s, s < 8 → upd f j (f j + -w) s = (upd (a 21) (8 * i + j) (a 21 (8 * i + j) - w)) (8 * i + s) := sh_u (w := 8) ef (by rw [ef j (by omega), Int32.sub_eq_add_neg])
      have e2 : ∀ s, s < 8 → upd (upd f j (f j + -w)) t (upd f j (f j + -w) t + w) s = upd (upd (a 21) (8 * i + j) (a 21 (8 * i + j) - w)) (8 * i + t) ((upd (a 21) (8 * i + j) (a 21 (8 * i + j) - w)) (8 * i + t) + w) (8 * i + s) := sh_u (w := 8) e1 (by rw [e1 t (by omega)])
      refine z_aload C dX6_giveShare_79 rfl ?_
      refine z_getf C f_RX6_111 dX6_giveShare_81 (dC.2.1 _ hi) rfl ?_
      refine z_aload C dX6_giveShare_84 rfl ?_
      refine z_getf C f_RX6_115 dX6_giveShare_86 (dS.2.1 _ hj) rfl ?_
      refine z_iload C dX6_giveShare_89 rfl ?_
      refine z_ineg C dX6_giveShare_91 ?_
      refine z_callS C Y_X6_addTo sm_yX6_addTo ml_RX6_118 (c_X6_addTo l hfs (by decide) (by omega) (by decide)) dX6_giveShare_92 rfl rfl (fun _ => Nat.le_of_ble_eq_true rfl) ⟨Nat.le_of_ble_eq_true rfl, Nat.le_of_ble_eq_true rfl⟩ ⟨Nat.le_of_ble_eq_true rfl, Nat.le_of_ble_eq_true rfl⟩ (z_rv (fun σ4 hx => ?_)) (z_nx)
      subst hx
      refine z_aload C dX6_giveShare_95 rfl ?_
      refine z_getf C f_RX6_111 dX6_giveShare_97 (by rw [zput_n (by omega)]; exact dC.2.1 _ hi) rfl ?_
      refine z_aload C dX6_giveShare_100 rfl ?_
      refine z_getf C f_RX6_115 dX6_giveShare_102 (by rw [zput_n (by omega)]; exact dS.2.1 _ ht) rfl ?_
      refine z_iload C dX6_giveShare_105 rfl ?_
      refine z_callS C Y_X6_addTo sm_yX6_addTo ml_RX6_118 (c_X6_addTo l (zput_s _ _ _ _) (by decide) (by omega) (by decide)) dX6_giveShare_107 rfl rfl (fun _ => Nat.le_of_ble_eq_true rfl) ⟨Nat.le_of_ble_eq_true rfl, Nat.le_of_ble_eq_true rfl⟩ ⟨Nat.le_of_ble_eq_true rfl, Nat.le_of_ble_eq_true rfl⟩ (z_rv (fun σ5 hx => ?_)) (z_nx)
      subst hx
      refine z_aload C dX6_giveShare_110 rfl ?_
      refine z_getf C f_RX6_111 dX6_giveShare_112 (by rw [zput_n (by omega), zput_n (by omega)]; exact dC.2.1 _ hi) rfl ?_
      refine z_aload C dX6_giveShare_115 rfl ?_
      refine z_getf C f_RX6_115 dX6_giveShare_117 (by rw [zput_n (by omega), zput_n (by omega)]; exact dS.2.1 _ ht) rfl ?_
      refine z_callS C Y_X6_at sm_yX6_at ml_RX6_135 (c_X6_at l (zput_s _ _ _ _) (j := t) (by omega) (by decide)) dX6_giveShare_120 rfl rfl (fun _ => Nat.le_of_ble_eq_true rfl) ⟨Nat.le_of_ble_eq_true rfl, Nat.le_of_ble_eq_true rfl⟩ ⟨Nat.le_of_ble_eq_true rfl, Nat.le_of_ble_eq_true rfl⟩ (z_ri (fun x σ1 hx => ?_)) (z_nx)
      obtain ⟨rfl, hσ9⟩ := hx
      rw [hσ9]
      exact z_iret C hr rfl dX6_giveShare_123 (Nat.le_of_ble_eq_true rfl) (Nat.le_of_ble_eq_true rfl) ⟨_, rfl, zDz.ok (by simp only [t2, zi, t9, zj, t16, zt, t26, tn, t48, h66, eq_self, decide_true, decide_false, Bool.and_true, Bool.true_and, Bool.and_false, Bool.false_and, Bool.or_true, Bool.true_or, Bool.or_false, Bool.false_or, Bool.not_true, Bool.not_false, not_true, not_false_eq_true, if_true, if_false]) (by simp only [t2, zi, t9, zj, t16, zt, t26, tn, t48, h66, eq_self, decide_true, decide_false, Bool.and_true, Bool.true_and, Bool.and_false, Bool.false_and, Bool.or_true, Bool.true_or, Bool.or_false, Bool.false_or, Bool.not_true, Bool.not_false, not_true, not_false_eq_true, if_true, if_false]) (by simp only [t2, zi, t9, zj, t16, zt, t26, tn, t48, h66, eq_self, decide_true, decide_false, Bool.and_true, Bool.true_and, Bool.and_false, Bool.false_and, Bool.or_true, Bool.true_or, Bool.or_false, Bool.false_or, Bool.not_true, Bool.not_false, not_true, not_false_eq_true, if_true, if_false]) (e2 t (by omega)) ⟨⟨(show D0 _ _ from by unfold D0; rw [zput_n (by omega), zput_n (by omega)]; exact d0), dA.ag (fun k9 i9 z => by rw [zput_n (by omega), zput_n (by omega)]), dR.ag (fun k9 i9 z => by rw [zput_n (by omega), zput_n (by omega)]), dS.ag (fun k9 i9 z => by rw [zput_n (by omega), zput_n (by omega)]), dC.u21 (f := _) (zput_s _ _ _ _) e2 (fun t9 h9 => by show upd (upd (a 21) (8 * i + j) (a 21 (8 * i + j) - w)) _ _ t9 = _; rw [upd_ne (by omega), upd_ne (by omega)]) (fun k9 i9 z => by rw [zput_n z, zput_n z]) hi (fun c9 _ => by apply cnt_cg <;> rfl), dQ.ag (fun k9 i9 z => by rw [zput_n (by omega), zput_n (by omega)])⟩, dF.ag (fun k9 i9 z => by rw [zput_n (by omega), zput_n (by omega)])⟩ ((Fk.put (by decide)).tr (Fk.put (by decide)))⟩
    · exact z_throwS (text := "the seller has less") C hT th_ISE rfl (by decide +kernel) dX6_giveShare_69 dX6_giveShare_72 dX6_giveShare_73 dX6_giveShare_75 dX6_giveShare_78 ⟨Nat.le_of_ble_eq_true rfl, Nat.le_of_ble_eq_true rfl⟩ ⟨Nat.le_of_ble_eq_true rfl, Nat.le_of_ble_eq_true rfl⟩ (Nat.le_of_ble_eq_true rfl) (Nat.le_of_ble_eq_true rfl) (zXk.e3 (by simp only [t2, zi, t9, zj, t16, zt, t26, tn, t48, h66, eq_self, decide_true, decide_false, Bool.and_true, Bool.true_and, Bool.and_false, Bool.false_and, Bool.or_true, Bool.true_or, Bool.or_false, Bool.false_or, Bool.not_true, Bool.not_false, not_true, not_false_eq_true, if_true, if_false]) (by simp only [t2, zi, t9, zj, t16, zt, t26, tn, t48, h66, eq_self, decide_true, decide_false, Bool.and_true, Bool.true_and, Bool.and_false, Bool.false_and, Bool.or_true, Bool.true_or, Bool.or_false, Bool.false_or, Bool.not_true, Bool.not_false, not_true, not_false_eq_true, if_true, if_false]) (by simp only [t2, zi, t9, zj, t16, zt, t26, tn, t48, h66, eq_self, decide_true, decide_false, Bool.and_true, Bool.true_and, Bool.and_false, Bool.false_and, Bool.or_true, Bool.true_or, Bool.or_false, Bool.false_or, Bool.not_true, Bool.not_false, not_true, not_false_eq_true, if_true, if_false]))
  · cases he
    have tq : (nI j = nI j) = True := eq_self _
    exact z_throwS (text := "both sellers are the same") C hT th_IAE rfl (by decide +kernel) dX6_giveShare_36 dX6_giveShare_39 dX6_giveShare_40 dX6_giveShare_42 dX6_giveShare_45 ⟨Nat.le_of_ble_eq_true rfl, Nat.le_of_ble_eq_true rfl⟩ ⟨Nat.le_of_ble_eq_true rfl, Nat.le_of_ble_eq_true rfl⟩ (Nat.le_of_ble_eq_true rfl) (Nat.le_of_ble_eq_true rfl) (zXk.e2 (by simp only [t2, zi, t9, zj, t16, zt, t26, tq, eq_self, decide_true, decide_false, Bool.and_true, Bool.true_and, Bool.and_false, Bool.false_and, Bool.or_true, Bool.true_or, Bool.or_false, Bool.false_or, Bool.not_true, Bool.not_false, not_true, not_false_eq_true, if_true, if_false]) (by simp only [t2, zi, t9, zj, t16, zt, t26, tq, eq_self, decide_true, decide_false, Bool.and_true, Bool.true_and, Bool.and_false, Bool.false_and, Bool.or_true, Bool.true_or, Bool.or_false, Bool.false_or, Bool.not_true, Bool.not_false, not_true, not_false_eq_true, if_true, if_false]))

