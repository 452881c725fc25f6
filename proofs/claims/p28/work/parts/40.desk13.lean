/-! the desk: moves, quotes, approvals -/
section ZAB
variable {X : zX} {p : Program} {l : Launch} {e : Env} {s : State} {m : MethodId} {args : Array Value} {below : List Frame} {meth : Method} {c : Code} {nL : Nat} {σ0 σ : zHp} {loc0 : zK → Nat} {Q : State → Prop} {mc ms : Nat} {R : Room} {cells slots pc : Nat} {L : List (Nat × zV)} {st : List zV}
theorem z_abs (kk : ∀ σ', σ' = σ → zG X p l e R s m args below meth c nL σ0 loc0 Q cells slots σ' pc L st) : zG X p l e R s m args below meth c nL σ0 loc0 Q cells slots σ pc L st := kk σ rfl
end ZAB
set_option maxRecDepth 100000 in
set_option maxHeartbeats 4000000 in
theorem c_X6_move {X : zX} (l : Launch) {x : Nat → Int32} {a : Nat → Nat → Int32} {σ : zHp} (hD : DK x a σ) (hI : zInv x a) (hW : zInw x a) {i w : Int32} : zM X l yX6_move cX6_move 5 (some .int) 8 10 200 [aR 0 0, aI i, aI w] σ (zPi (zDz (k_move x a i w) (x 0 - a 19 (zN i)) (x) (ua (ua (ua (ua a 22 (upd (a 22) (6 * zN i + zN (a 18 (zN i))) (a 22 (6 * zN i + zN (a 18 (zN i))) + (x 0 - a 19 (zN i))))) 18 (upd (a 18) (zN i) w)) 19 (upd (a 19) (zN i) (x 0))) 20 (upd (a 20) (zN i) (regS x a (zN (a 16 (zN i)))))) σ)) (zXk (k_move x a i w) eIO eIA eIS σ) := by
  obtain ⟨i0, i1, i6, i11, i15, i23, i24, i29, iA, iS, iC, iQ, iP⟩ := id hI
  have b1 := i1.2
  have b6 := i6.2
  have b11 := i11.2
  have b15 := i15.2
  have b23 := i23.2
  have b24 := i24.2
  have b29 := i29.2
  obtain ⟨hE, dF⟩ := id hD
  obtain ⟨d0, dA, dR, dS, dC, dQ⟩ := id hE
  have lA := dA.1
  have lS := dS.1
  have lC := dC.1
  have lQ := dQ.1
  have lF := dF.1
  refine zM.of (by decide +kernel) (Nat.le_of_ble_eq_true rfl) (by simp [zcat, Value.category]) ?_
  intro p e s m args below meth c9 loc0 C hr hnm hT
  refine z_aload_n (i := 0) C dX6_move_0 rfl rfl ?_
  refine z_iload_n (i := 1) C dX6_move_1 rfl rfl ?_
  refine z_callV C Y_X6_chanceAt V_X6_chanceAt ml_RX6_122 (c_X6_chanceAt l hE hI) dX6_move_2 rfl rfl d0 ⟨_, _, rfl⟩ (fun _ => Nat.le_of_ble_eq_true rfl) ⟨Nat.le_of_ble_eq_true rfl, Nat.le_of_ble_eq_true rfl⟩ ⟨Nat.le_of_ble_eq_true rfl, Nat.le_of_ble_eq_true rfl⟩ (z_rr (fun r9 σ1 hx => ?_)) (fun E9 σ9 hx => by obtain ⟨rfl, hx, rfl⟩ := hx; exact z_out hT C.2.2.2.2.2.2.2.1 (Nat.le_of_ble_eq_true rfl) (Nat.le_of_ble_eq_true rfl) (zXk.e1 (by simp only [hx, eq_self, decide_true, decide_false, Bool.and_true, Bool.true_and, Bool.and_false, Bool.false_and, Bool.or_true, Bool.true_or, Bool.or_false, Bool.false_or, Bool.not_true, Bool.not_false, not_true, not_false_eq_true, if_true, if_false])))
  obtain ⟨t2, rfl, rfl⟩ := hx
  obtain ⟨i, hi, rfl⟩ := inB_ix i15 (by decide) t2
  have zi : zN (nI i) = i := zN_nI (by omega)
  rw [zi]
  refine z_astore_n (i := 3) C dX6_move_5 rfl (by decide) ?_
  refine z_iload_n (i := 2) C dX6_move_6 rfl rfl ?_
  refine z_callS C Y_X6_requireStage sm_yX6_requireStage ml_RX6_141 (c_X6_requireStage l) dX6_move_7 rfl rfl (fun _ => Nat.le_of_ble_eq_true rfl) ⟨Nat.le_of_ble_eq_true rfl, Nat.le_of_ble_eq_true rfl⟩ ⟨Nat.le_of_ble_eq_true rfl, Nat.le_of_ble_eq_true rfl⟩ (z_rv (fun σ1 hx => ?_)) (fun E9 σ9 hx => by obtain ⟨rfl, hx, rfl⟩ := hx; exact z_out hT C.2.2.2.2.2.2.2.1 (Nat.le_of_ble_eq_true rfl) (Nat.le_of_ble_eq_true rfl) (zXk.e2 (by simp only [t2, zi, eq_self, decide_true, decide_false, Bool.and_true, Bool.true_and, Bool.and_false, Bool.false_and, Bool.or_true, Bool.true_or, Bool.or_false, Bool.false_or, Bool.not_true, Bool.not_false, not_true, not_false_eq_true, if_true, if_false]) (by simp only [t2, zi, hx, eq_self, decide_true, decide_false, Bool.and_true, Bool.true_and, Bool.and_false, Bool.false_and, Bool.or_true, Bool.true_or, Bool.or_false, Bool.false_or, Bool.not_true, Bool.not_false, not_true, not_false_eq_true, if_true, if_false])))
  obtain ⟨t7, rfl⟩ := hx
  refine z_aload_n (i := 3) C dX6_move_10 rfl rfl ?_
  refine z_iload_n (i := 2) C dX6_move_11 rfl rfl ?_
  obtain ⟨w, hw, rfl⟩ := inB_to (n := 5) (by decide) t7
  obtain ⟨⟨ia, hia, ea⟩, ts, hts5, es⟩ := iC i hi
  have hts : ts < 6 := by omega
  have zt : zN (a 18 i) = ts := by rw [es, zN_nI (by omega)]
  have za : zN (a 16 i) = ia := by rw [ea, zN_nI (by omega)]
  rw [zt, za]
  refine z_callS C Y_X6_canCome sm_yX6_canCome ml_RX6_145 (c_X6_canCome l hE hI hi) dX6_move_12 rfl rfl (fun _ => Nat.le_of_ble_eq_true rfl) ⟨Nat.le_of_ble_eq_true rfl, Nat.le_of_ble_eq_true rfl⟩ ⟨Nat.le_of_ble_eq_true rfl, Nat.le_of_ble_eq_true rfl⟩ (z_ri (fun x σ1 hx => ?_)) (z_nx)
  obtain ⟨rfl, rfl⟩ := hx
  refine z_if_neB (tgt := 28) C dX6_move_15 (by decide) (fun hc => ?_) (fun hc => ?_)
  · have ho := (bAnd hc).1
    obtain ⟨f, hfd, efd⟩ := dC.2.2.2.1 i hi
    have hch : σ1 6 i = some (oC 4 [aR 3 ia, aI (a 17 i), aR 30 i, aR 31 i, aI (a 18 i), aI (a 19 i), aI (-1), aO (oR 9 (cnt x a (nI i)))]) := by
      rw [dC.2.1 i hi]
      unfold chF
      rw [za, if_pos (of_decide_eq_true ho)]
    refine z_aload_n (i := 0) C dX6_move_28 rfl rfl ?_
    refine z_getf C f_RX6_31 dX6_move_29 d0 rfl ?_
    refine z_aload_n (i := 3) C dX6_move_32 rfl rfl ?_
    refine z_getf C f_RX6_151 dX6_move_33 hch rfl ?_
    refine z_isub C dX6_move_36 ?_
    refine z_istore C dX6_move_37 (by decide) ?_
    refine z_aload_n (i := 3) C dX6_move_39 rfl rfl ?_
    refine z_getf C f_RX6_154 dX6_move_40 hch rfl ?_
    refine z_aload_n (i := 3) C dX6_move_43 rfl rfl ?_
    refine z_getf C f_RX6_157 dX6_move_44 hch rfl ?_
    refine z_top es ?_
    refine z_iload C dX6_move_47 rfl ?_
    refine z_callS C Y_X6_addTo sm_yX6_addTo ml_RX6_118 (c_X6_addTo l hfd (by decide) (j := ts) (by omega) (by decide)) dX6_move_49 rfl rfl (fun _ => Nat.le_of_ble_eq_true rfl) ⟨Nat.le_of_ble_eq_true rfl, Nat.le_of_ble_eq_true rfl⟩ ⟨Nat.le_of_ble_eq_true rfl, Nat.le_of_ble_eq_true rfl⟩ (z_rv (fun σ4 hx => ?_)) (z_nx)
    subst hx
    refine z_aload_n (i := 3) C dX6_move_52 rfl rfl ?_
    refine z_iload_n (i := 2) C dX6_move_53 rfl rfl ?_
    refine z_putf C fp_RX6_157 dX6_move_54 ((zput_n (by omega)).trans hch) (by decide) (Nat.le_of_ble_eq_true rfl) (fun _ => ⟨rfl, rfl⟩) ?_
    refine z_aload_n (i := 3) C dX6_move_57 rfl rfl ?_
    refine z_aload_n (i := 0) C dX6_move_58 rfl rfl ?_
    refine z_getf C f_RX6_31 dX6_move_59 (by rw [zput_n (by omega), zput_n (by omega)]; exact d0) rfl ?_
    refine z_putf C fp_RX6_151 dX6_move_62 (zput_s _ _ _ _) (by decide) (Nat.le_of_ble_eq_true rfl) (fun _ => ⟨rfl, rfl⟩) ?_
    refine z_abs (fun σ4 e4 => ?_)
    have hc4 : σ4 6 i = some (oC 4 [aR 3 ia, aI (a 17 i), aR 30 i, aR 31 i, aI (nI w), aI (x 0), aI (-1), aO (oR 9 (cnt x a (nI i)))]) := by rw [e4, zput_s]; rfl
    have hd4 := (congrFun (congrFun e4 31) i).trans ((zput_n (by omega)).trans ((zput_n (by omega)).trans (zput_s _ _ _ _)))
    have hf4 : ∀ k9 i9, ¬ (k9 = 6 ∧ i9 = i) → ¬ (k9 = 31 ∧ i9 = i) → σ4 k9 i9 = σ1 k9 i9 := fun k9 i9 z z' => by rw [e4, zput_n z, zput_n z, zput_n z']
    have hF4 : Fk σ1 σ4 := fun k9 i9 z => hf4 k9 i9 (by omega) (by omega)
    refine z_aload_n (i := 3) C dX6_move_65 rfl rfl ?_
    refine z_callS C Y_X6_isOpen sm_yX6_isOpen ml_RX6_160 (c_X6_isOpenF l hc4) dX6_move_66 rfl rfl (fun _ => Nat.le_of_ble_eq_true rfl) ⟨Nat.le_of_ble_eq_true rfl, Nat.le_of_ble_eq_true rfl⟩ ⟨Nat.le_of_ble_eq_true rfl, Nat.le_of_ble_eq_true rfl⟩ (z_ri (fun x σ1 hx => ?_)) (z_nx)
    obtain ⟨rfl, hσ9⟩ := hx
    rw [hσ9]
    refine z_if_neB (tgt := 84) C dX6_move_69 (by decide) (fun h69 => ?_) (fun h69 => ?_)
    · refine z_iload C dX6_move_84 rfl ?_
      exact z_iret C hr rfl dX6_move_86 (Nat.le_of_ble_eq_true rfl) (Nat.le_of_ble_eq_true rfl) ⟨_, rfl, zDz.ok (by simp only [t2, zi, t7, hc, eq_self, decide_true, decide_false, Bool.and_true, Bool.true_and, Bool.and_false, Bool.false_and, Bool.or_true, Bool.true_or, Bool.or_false, Bool.false_or, Bool.not_true, Bool.not_false, not_true, not_false_eq_true, if_true, if_false]) (by simp only [t2, zi, t7, hc, eq_self, decide_true, decide_false, Bool.and_true, Bool.true_and, Bool.and_false, Bool.false_and, Bool.or_true, Bool.true_or, Bool.or_false, Bool.false_or, Bool.not_true, Bool.not_false, not_true, not_false_eq_true, if_true, if_false]) (by simp only [t2, zi, t7, hc, eq_self, decide_true, decide_false, Bool.and_true, Bool.true_and, Bool.and_false, Bool.false_and, Bool.or_true, Bool.true_or, Bool.or_false, Bool.false_or, Bool.not_true, Bool.not_false, not_true, not_false_eq_true, if_true, if_false]) rfl ⟨⟨(hf4 0 0 (by omega) (by omega)).trans d0, dA.ag (fun k9 i9 z => hf4 k9 i9 (by omega) (by omega)), dR.ag (fun k9 i9 z => hf4 k9 i9 (by omega) (by omega)), dS.ag (fun k9 i9 z => hf4 k9 i9 (by omega) (by omega)), (dC.mv (u := nI w) (t0 := x 0) (g := regS x a ia) (d := x 0 - a 19 i) hi efd hts (by rw [hc4, za, if_pos (of_decide_eq_true h69)]) hd4 (fun k9 i9 z z1 => hf4 k9 i9 z z1) (fun c9 _ => by apply cnt_cg <;> rfl)), dQ.ag (fun k9 i9 z => hf4 k9 i9 (by omega) (by omega))⟩, dF.ag (fun k9 i9 z => hf4 k9 i9 (by omega) (by omega))⟩ hF4⟩
    · have n4 : ¬ nI w < 4 := of_decide_eq_false h69
      have hE4 : DE x (ua (ua (ua (ua a 22 (upd (a 22) (6 * i + ts) (a 22 (6 * i + ts) + (x 0 - a 19 i)))) 18 (upd (a 18) i (nI w))) 19 (upd (a 19) i (x 0))) 20 (upd (a 20) i (-1))) σ4 := ⟨(hf4 0 0 (by omega) (by omega)).trans d0, dA.ag (fun k9 i9 z => hf4 k9 i9 (by omega) (by omega)), dR.ag (fun k9 i9 z => hf4 k9 i9 (by omega) (by omega)), dS.ag (fun k9 i9 z => hf4 k9 i9 (by omega) (by omega)), dC.mv (u := nI w) (t0 := x 0) (g := -1) (d := x 0 - a 19 i) hi efd hts (by rw [hc4, za, if_neg n4]) hd4 (fun k9 i9 z z1 => hf4 k9 i9 z z1) (fun c9 _ => by apply cnt_cg <;> rfl), dQ.ag (fun k9 i9 z => hf4 k9 i9 (by omega) (by omega))⟩
      have hI4 : zInv x (ua (ua (ua (ua a 22 (upd (a 22) (6 * i + ts) (a 22 (6 * i + ts) + (x 0 - a 19 i)))) 18 (upd (a 18) i (nI w))) 19 (upd (a 19) i (x 0))) 20 (upd (a 20) i (-1))) := (iv_move ⟨hI, hW⟩ hi hw hts).1
      refine z_aload_n (i := 3) C dX6_move_72 rfl rfl ?_
      refine z_aload_n (i := 0) C dX6_move_73 rfl rfl ?_
      refine z_aload_n (i := 3) C dX6_move_74 rfl rfl ?_
      refine z_getf C f_RX6_164 dX6_move_75 hc4 rfl ?_
      refine z_callV C Y_X6_regionNow V_X6_regionNow ml_RX6_90 (c_X6_regionNow l hE4 hI4 hia) dX6_move_78 rfl rfl ((hf4 0 0 (by omega) (by omega)).trans d0) ⟨_, _, rfl⟩ (fun _ => Nat.le_of_ble_eq_true rfl) ⟨Nat.le_of_ble_eq_true rfl, Nat.le_of_ble_eq_true rfl⟩ ⟨Nat.le_of_ble_eq_true rfl, Nat.le_of_ble_eq_true rfl⟩ (z_ri (fun x σ1 hx => ?_)) (z_nx)
      obtain ⟨rfl, hσ8⟩ := hx
      rw [hσ8]
      refine z_top (w := regS x a ia) (by show regF _ _ _ _ = regF _ _ _ _; exact regF_a (x := x) (a := ua (ua (ua (ua a 22 (upd (a 22) (6 * i + ts) (a 22 (6 * i + ts) + (x 0 - a 19 i)))) 18 (upd (a 18) i (nI w))) 19 (upd (a 19) i (x 0))) 20 (upd (a 20) i (-1))) (a' := a) rfl rfl (fun _ _ => rfl) rfl _ _) ?_
      refine z_putf C fp_RX6_168 dX6_move_81 hc4 (by decide) (Nat.le_of_ble_eq_true rfl) (fun _ => ⟨rfl, rfl⟩) ?_
      refine z_iload C dX6_move_84 rfl ?_
      exact z_iret C hr rfl dX6_move_86 (Nat.le_of_ble_eq_true rfl) (Nat.le_of_ble_eq_true rfl) ⟨_, rfl, zDz.ok (by simp only [t2, zi, t7, hc, eq_self, decide_true, decide_false, Bool.and_true, Bool.true_and, Bool.and_false, Bool.false_and, Bool.or_true, Bool.true_or, Bool.or_false, Bool.false_or, Bool.not_true, Bool.not_false, not_true, not_false_eq_true, if_true, if_false]) (by simp only [t2, zi, t7, hc, eq_self, decide_true, decide_false, Bool.and_true, Bool.true_and, Bool.and_false, Bool.false_and, Bool.or_true, Bool.true_or, Bool.or_false, Bool.false_or, Bool.not_true, Bool.not_false, not_true, not_false_eq_true, if_true, if_false]) (by simp only [t2, zi, t7, hc, eq_self, decide_true, decide_false, Bool.and_true, Bool.true_and, Bool.and_false, Bool.false_and, Bool.or_true, Bool.true_or, Bool.or_false, Bool.false_or, Bool.not_true, Bool.not_false, not_true, not_false_eq_true, if_true, if_false]) rfl ⟨⟨(zput_n (by omega)).trans ((hf4 0 0 (by omega) (by omega)).trans d0), dA.ag (fun k9 i9 z => (zput_n (by omega)).trans (hf4 k9 i9 (by omega) (by omega))), dR.ag (fun k9 i9 z => (zput_n (by omega)).trans (hf4 k9 i9 (by omega) (by omega))), dS.ag (fun k9 i9 z => (zput_n (by omega)).trans (hf4 k9 i9 (by omega) (by omega))), (dC.mv (u := nI w) (t0 := x 0) (g := regS x a ia) (d := x 0 - a 19 i) hi efd hts (by rw [zput_s, za, if_neg n4]; rfl) ((zput_n (by omega)).trans hd4) (fun k9 i9 z z1 => (zput_n z).trans (hf4 k9 i9 z z1)) (fun c9 _ => by apply cnt_cg <;> rfl)), dQ.ag (fun k9 i9 z => (zput_n (by omega)).trans (hf4 k9 i9 (by omega) (by omega)))⟩, dF.ag (fun k9 i9 z => (zput_n (by omega)).trans (hf4 k9 i9 (by omega) (by omega)))⟩ (hF4.tr (Fk.put (by decide)))⟩
  · exact z_throwS (text := "the chance cannot come to this stage") C hT th_ISE rfl (by decide +kernel) dX6_move_18 dX6_move_21 dX6_move_22 dX6_move_24 dX6_move_27 ⟨Nat.le_of_ble_eq_true rfl, Nat.le_of_ble_eq_true rfl⟩ ⟨Nat.le_of_ble_eq_true rfl, Nat.le_of_ble_eq_true rfl⟩ (Nat.le_of_ble_eq_true rfl) (Nat.le_of_ble_eq_true rfl) (zXk.e3 (by simp only [t2, zi, t7, hc, eq_self, decide_true, decide_false, Bool.and_true, Bool.true_and, Bool.and_false, Bool.false_and, Bool.or_true, Bool.true_or, Bool.or_false, Bool.false_or, Bool.not_true, Bool.not_false, not_true, not_false_eq_true, if_true, if_false]) (by simp only [t2, zi, t7, hc, eq_self, decide_true, decide_false, Bool.and_true, Bool.true_and, Bool.and_false, Bool.false_and, Bool.or_true, Bool.true_or, Bool.or_false, Bool.false_or, Bool.not_true, Bool.not_false, not_true, not_false_eq_true, if_true, if_false]) (by simp only [t2, zi, t7, hc, eq_self, decide_true, decide_false, Bool.and_true, Bool.true_and, Bool.and_false, Bool.false_and, Bool.or_true, Bool.true_or, Bool.or_false, Bool.false_or, Bool.not_true, Bool.not_false, not_true, not_false_eq_true, if_true, if_false]))

set_option maxRecDepth 100000 in
set_option maxHeartbeats 4000000 in
theorem c_X6_approve {X : zX} (l : Launch) {x : Nat → Int32} {a : Nat → Nat → Int32} {σ : zHp} (hD : DK x a σ) (hI : zInv x a) {i j : Int32} : zM X l yX6_approve cX6_approve 5 none 8 10 200 [aR 0 0, aI i, aI j] σ (zPv (zDz (k_approve x a i j) (0) (upd x 24 (x 24 + 1)) (ua a 28 (upd (a 28) (zN i) (x 24 + 1))) σ 0)) (zXk (k_approve x a i j) eIO eIS eIS σ) := by
  obtain ⟨i0, i1, i6, i11, i15, i23, i24, i29, iA, iS, iC, iQ, iP⟩ := id hI
  have b1 := i1.2
  have b6 := i6.2
  have b11 := i11.2
  have b15 := i15.2
  have b23 := i23.2
  have b24 := i24.2
  have b29 := i29.2
  obtain ⟨hE, dF⟩ := id hD
  obtain ⟨d0, dA, dR, dS, dC, dQ⟩ := id hE
  have lA := dA.1
  have lS := dS.1
  have lC := dC.1
  have lQ := dQ.1
  have lF := dF.1
  refine zM.of (by decide +kernel) (Nat.le_of_ble_eq_true rfl) (by simp [zcat, Value.category]) ?_
  intro p e s m args below meth c9 loc0 C hr hnm hT
  refine z_aload_n (i := 0) C dX6_approve_0 rfl rfl ?_
  refine z_iload_n (i := 1) C dX6_approve_1 rfl rfl ?_
  refine z_callV C Y_X6_quoteAt V_X6_quoteAt ml_RX6_198 (c_X6_quoteAt l hE hI) dX6_approve_2 rfl rfl d0 ⟨_, _, rfl⟩ (fun _ => Nat.le_of_ble_eq_true rfl) ⟨Nat.le_of_ble_eq_true rfl, Nat.le_of_ble_eq_true rfl⟩ ⟨Nat.le_of_ble_eq_true rfl, Nat.le_of_ble_eq_true rfl⟩ (z_rr (fun r9 σ1 hx => ?_)) (fun E9 σ9 hx => by obtain ⟨rfl, hx, rfl⟩ := hx; exact z_out hT C.2.2.2.2.2.2.2.1 (Nat.le_of_ble_eq_true rfl) (Nat.le_of_ble_eq_true rfl) (zXk.e1 (by simp only [hx, eq_self, decide_true, decide_false, Bool.and_true, Bool.true_and, Bool.and_false, Bool.false_and, Bool.or_true, Bool.true_or, Bool.or_false, Bool.false_or, Bool.not_true, Bool.not_false, not_true, not_false_eq_true, if_true, if_false])))
  obtain ⟨t2, rfl, rfl⟩ := hx
  obtain ⟨i, hi, rfl⟩ := inB_ix i23 (by decide) t2
  have zi : zN (nI i) = i := zN_nI (by omega)
  rw [zi]
  refine z_astore_n (i := 3) C dX6_approve_5 rfl (by decide) ?_
  refine z_aload_n (i := 0) C dX6_approve_6 rfl rfl ?_
  refine z_iload_n (i := 2) C dX6_approve_7 rfl rfl ?_
  refine z_callV C Y_X6_sellerAt V_X6_sellerAt ml_RX6_94 (c_X6_sellerAt l hE hI) dX6_approve_8 rfl rfl d0 ⟨_, _, rfl⟩ (fun _ => Nat.le_of_ble_eq_true rfl) ⟨Nat.le_of_ble_eq_true rfl, Nat.le_of_ble_eq_true rfl⟩ ⟨Nat.le_of_ble_eq_true rfl, Nat.le_of_ble_eq_true rfl⟩ (z_rr (fun r9 σ1 hx => ?_)) (fun E9 σ9 hx => by obtain ⟨rfl, hx, rfl⟩ := hx; exact z_out hT C.2.2.2.2.2.2.2.1 (Nat.le_of_ble_eq_true rfl) (Nat.le_of_ble_eq_true rfl) (zXk.e1 (by simp only [t2, zi, hx, eq_self, decide_true, decide_false, Bool.and_true, Bool.true_and, Bool.and_false, Bool.false_and, Bool.or_true, Bool.true_or, Bool.or_false, Bool.false_or, Bool.not_true, Bool.not_false, not_true, not_false_eq_true, if_true, if_false])))
  obtain ⟨t8, rfl, rfl⟩ := hx
  obtain ⟨j, hj, rfl⟩ := inB_ix i11 (by decide) t8
  have zj : zN (nI j) = j := zN_nI (by omega)
  rw [zj]
  refine z_astore C dX6_approve_11 (by decide) ?_
  refine z_aload_n (i := 3) C dX6_approve_13 rfl rfl ?_
  refine z_getf C f_RX6_202 dX6_approve_14 (dQ.2.1 _ hi) rfl ?_
  obtain ⟨⟨c, hcn, ec⟩, -, -⟩ := iQ i hi
  have zc : zN (a 25 i) = c := by rw [ec, zN_nI (by omega)]
  rw [zc]
  refine z_callS C Y_X6_requireOpen sm_yX6_requireOpen ml_RX6_131 (c_X6_requireOpen l (dC.2.1 c hcn)) dX6_approve_17 rfl rfl (fun _ => Nat.le_of_ble_eq_true rfl) ⟨Nat.le_of_ble_eq_true rfl, Nat.le_of_ble_eq_true rfl⟩ ⟨Nat.le_of_ble_eq_true rfl, Nat.le_of_ble_eq_true rfl⟩ (z_rv (fun σ1 hx => ?_)) (fun E9 σ9 hx => by obtain ⟨rfl, hx, rfl⟩ := hx; exact z_out hT C.2.2.2.2.2.2.2.1 (Nat.le_of_ble_eq_true rfl) (Nat.le_of_ble_eq_true rfl) (zXk.e2 (by simp only [t2, zi, t8, zj, zc, eq_self, decide_true, decide_false, Bool.and_true, Bool.true_and, Bool.and_false, Bool.false_and, Bool.or_true, Bool.true_or, Bool.or_false, Bool.false_or, Bool.not_true, Bool.not_false, not_true, not_false_eq_true, if_true, if_false]) (by simp only [t2, zi, t8, zj, zc, hx, eq_self, decide_true, decide_false, Bool.and_true, Bool.true_and, Bool.and_false, Bool.false_and, Bool.or_true, Bool.true_or, Bool.or_false, Bool.false_or, Bool.not_true, Bool.not_false, not_true, not_false_eq_true, if_true, if_false])))
  obtain ⟨t17, rfl⟩ := hx
  refine z_aload_n (i := 3) C dX6_approve_20 rfl rfl ?_
  refine z_getf C f_RX6_206 dX6_approve_21 (dQ.2.1 _ hi) rfl ?_
  refine z_if_neB (tgt := 36) C dX6_approve_24 (by decide) (fun h24 => ?_) (fun h24 => ?_)
  · have hn0 : decide (a 28 i = 0) = false := by cases e : decide (a 28 i = 0) <;> simp_all
    exact z_throwS (text := "the seller cannot approve the quote, or it is approved") C hT th_ISE rfl (by decide +kernel) dX6_approve_36 dX6_approve_39 dX6_approve_40 dX6_approve_42 dX6_approve_45 ⟨Nat.le_of_ble_eq_true rfl, Nat.le_of_ble_eq_true rfl⟩ ⟨Nat.le_of_ble_eq_true rfl, Nat.le_of_ble_eq_true rfl⟩ (Nat.le_of_ble_eq_true rfl) (Nat.le_of_ble_eq_true rfl) (zXk.e2 (by simp only [t2, zi, t8, zj, zc, t17, hn0, eq_self, decide_true, decide_false, Bool.and_true, Bool.true_and, Bool.and_false, Bool.false_and, Bool.or_true, Bool.true_or, Bool.or_false, Bool.false_or, Bool.not_true, Bool.not_false, not_true, not_false_eq_true, if_true, if_false]) (by simp only [t2, zi, t8, zj, zc, t17, hn0, eq_self, decide_true, decide_false, Bool.and_true, Bool.true_and, Bool.and_false, Bool.false_and, Bool.or_true, Bool.true_or, Bool.or_false, Bool.false_or, Bool.not_true, Bool.not_false, not_true, not_false_eq_true, if_true, if_false]))
  · have h0 : decide (a 28 i = 0) = true := by cases e : decide (a 28 i = 0) <;> simp_all
    refine z_aload_n (i := 3) C dX6_approve_27 rfl rfl ?_
    refine z_aload C dX6_approve_28 rfl ?_
    refine z_callS C Y_X6_canApprove sm_yX6_canApprove ml_RX6_210 (c_X6_canApprove l hE hI hi hj) dX6_approve_30 rfl rfl (fun _ => Nat.le_of_ble_eq_true rfl) ⟨Nat.le_of_ble_eq_true rfl, Nat.le_of_ble_eq_true rfl⟩ ⟨Nat.le_of_ble_eq_true rfl, Nat.le_of_ble_eq_true rfl⟩ (z_ri (fun x σ1 hx => ?_)) (z_nx)
    obtain ⟨rfl, rfl⟩ := hx
    refine z_if_neB (tgt := 46) C dX6_approve_33 (by decide) (fun h33 => ?_) (fun h33 => ?_)
    · obtain ⟨ha, hb⟩ := bAnd h33
      refine z_aload_n (i := 3) C dX6_approve_46 rfl rfl ?_
      refine z_callS C Y_X6_letCount sm_yX6_letCount ml_RX6_193 (c_X6_letCount l (h9 := by rw [dQ.2.1 i hi, zc]) (h6 := dC.2.1 c hcn)) dX6_approve_47 rfl rfl (fun _ => Nat.le_of_ble_eq_true rfl) ⟨Nat.le_of_ble_eq_true rfl, Nat.le_of_ble_eq_true rfl⟩ ⟨Nat.le_of_ble_eq_true rfl, Nat.le_of_ble_eq_true rfl⟩ (z_rv (fun σ4 hx => ?_)) (z_nx)
      subst hx
      exact z_vret C hr dX6_approve_50 (Nat.le_of_ble_eq_true rfl) (Nat.le_of_ble_eq_true rfl) ⟨rfl, zDz.ok (by simp only [t2, zi, t8, zj, zc, t17, h0, ha, hb, eq_self, decide_true, decide_false, Bool.and_true, Bool.true_and, Bool.and_false, Bool.false_and, Bool.or_true, Bool.true_or, Bool.or_false, Bool.false_or, Bool.not_true, Bool.not_false, not_true, not_false_eq_true, if_true, if_false]) (by simp only [t2, zi, t8, zj, zc, t17, h0, ha, hb, eq_self, decide_true, decide_false, Bool.and_true, Bool.true_and, Bool.and_false, Bool.false_and, Bool.or_true, Bool.true_or, Bool.or_false, Bool.false_or, Bool.not_true, Bool.not_false, not_true, not_false_eq_true, if_true, if_false]) (by simp only [t2, zi, t8, zj, zc, t17, h0, ha, hb, eq_self, decide_true, decide_false, Bool.and_true, Bool.true_and, Bool.and_false, Bool.false_and, Bool.or_true, Bool.true_or, Bool.or_false, Bool.false_or, Bool.not_true, Bool.not_false, not_true, not_false_eq_true, if_true, if_false]) rfl (DK.app ⟨⟨d0, dA, dR, dS, dC, dQ⟩, dF⟩ hI hi hcn ec) ((Fk.put (by decide)).tr (Fk.put (by decide)))⟩
    · exact z_throwS (text := "the seller cannot approve the quote, or it is approved") C hT th_ISE rfl (by decide +kernel) dX6_approve_36 dX6_approve_39 dX6_approve_40 dX6_approve_42 dX6_approve_45 ⟨Nat.le_of_ble_eq_true rfl, Nat.le_of_ble_eq_true rfl⟩ ⟨Nat.le_of_ble_eq_true rfl, Nat.le_of_ble_eq_true rfl⟩ (Nat.le_of_ble_eq_true rfl) (Nat.le_of_ble_eq_true rfl) (zXk.e2 (by simp only [t2, zi, t8, zj, zc, t17, h0, eq_self, decide_true, decide_false, Bool.and_true, Bool.true_and, Bool.and_false, Bool.false_and, Bool.or_true, Bool.true_or, Bool.or_false, Bool.false_or, Bool.not_true, Bool.not_false, not_true, not_false_eq_true, if_true, if_false]) (by rw [show (inB (nI i) 0 (x 23 - 1) && isSel x (nI j)) = true from (by simp only [t2, zi, t8, zj, zc, t17, h0, eq_self, decide_true, decide_false, Bool.and_true, Bool.true_and, Bool.and_false, Bool.false_and, Bool.or_true, Bool.true_or, Bool.or_false, Bool.false_or, Bool.not_true, Bool.not_false, not_true, not_false_eq_true, if_true, if_false])]; simp only [zi, zj, zc, t17, h0, Bool.true_and]; exact h33))

