/-! the desk: forecasts -/
theorem zWts_wgt : ∀ t, t ≤ 5 → zWts t = wgt (nI t) := by decide
section WT
variable {X : zX} {p : Program} {l : Launch} {e : Env} {s : State} {m : MethodId} {args : Array Value} {below : List Frame} {meth : Method} {c : Code} {nL : Nat} {σ0 σ : zHp} {loc0 : zK → Nat} {Q : State → Prop} {mc ms : Nat} {R : Room} {cells slots pc : Nat} {cc : ByteArray} {own : String} {L : List (Nat × zV)} {st : List zV}
theorem z_wts (C : zC X p l s m args meth c cc nL own) (kk : σ 91 0 = some (iC 6 zWts) → zG X p l e R s m args below meth c nL σ0 loc0 Q cells slots σ pc L st) : zG X p l e R s m args below meth c nL σ0 loc0 Q cells slots σ pc L st := fun loc H locs ls hI => kk hI.1.2.2.2.2.2.2.2 loc H locs ls hI
end WT
set_option maxRecDepth 100000 in
set_option maxHeartbeats 4000000 in
theorem c_X6_canCome {X : zX} (l : Launch) {x : Nat → Int32} {a : Nat → Nat → Int32} {σ : zHp} (hD : DE x a σ) (hI : zInv x a) {c : Nat} {n : Int32} (hc : c < zN (x 15)) : zM X l yX6_canCome cX6_canCome 2 (some .boolean) 1 0 0 [aR 6 c, aI n] σ (zPi (fun r σ1 => r = zb (comB x a c n) ∧ σ1 = σ)) zNx := by
  obtain ⟨i0, i1, i6, i11, i15, i23, i24, i29, iA, iS, iC, iQ, iP⟩ := id hI
  have b1 := i1.2
  have b6 := i6.2
  have b11 := i11.2
  have b15 := i15.2
  have b23 := i23.2
  have b24 := i24.2
  have b29 := i29.2
  obtain ⟨d0, dA, dR, dS, dC, dQ⟩ := id hD
  have lA := dA.1
  have lS := dS.1
  have lC := dC.1
  have lQ := dQ.1
  obtain ⟨-, ts, hts, es⟩ := iC c hc
  refine zM.of (by decide +kernel) (Nat.le_of_ble_eq_true rfl) (by simp [zcat, Value.category]) ?_
  intro p e s m args below meth c9 loc0 C hr hnm hT
  refine z_aload_n (i := 0) C dX6_canCome_0 rfl rfl ?_
  refine z_callS C Y_X6_isOpen sm_yX6_isOpen ml_RX6_160 (c_X6_isOpen l (dC.2.1 _ hc)) dX6_canCome_1 rfl rfl (fun _ => Nat.le_of_ble_eq_true rfl) ⟨Nat.le_of_ble_eq_true rfl, Nat.le_of_ble_eq_true rfl⟩ ⟨Nat.le_of_ble_eq_true rfl, Nat.le_of_ble_eq_true rfl⟩ (z_ri (fun x σ1 hx => ?_)) (z_nx)
  obtain ⟨rfl, rfl⟩ := hx
  refine z_if_neB (tgt := 9) C dX6_canCome_4 (by decide) (fun h4 => ?_) (fun h4 => ?_)
  · refine z_iload_n (i := 1) C dX6_canCome_9 rfl rfl ?_
    refine z_iconst (v := 5) C dX6_canCome_10 (by decide) ?_
    refine z_icmp_eq (tgt := 22) C dX6_canCome_11 (by decide) (fun h5 => ?_) (fun h5 => ?_)
    · have k3 : ¬ n = 3 := by rw [h5]; decide
      refine z_iconst (v := 1) C dX6_canCome_22 (by decide) ?_
      exact z_iret C hr rfl dX6_canCome_23 (Nat.le_of_ble_eq_true rfl) (Nat.le_of_ble_eq_true rfl) ⟨_, rfl, zbt (by simp only [comB, h4, decide_eq_true h5, decide_eq_false k3, eq_self, decide_true, decide_false, Bool.and_true, Bool.true_and, Bool.and_false, Bool.false_and, Bool.or_true, Bool.true_or, Bool.or_false, Bool.false_or, Bool.not_true, Bool.not_false, not_true, not_false_eq_true, if_true, if_false]), rfl⟩
    · refine z_iload_n (i := 1) C dX6_canCome_14 rfl rfl ?_
      refine z_aload_n (i := 0) C dX6_canCome_15 rfl rfl ?_
      refine z_getf C f_RX6_157 dX6_canCome_16 (dC.2.1 _ hc) rfl ?_
      refine z_icmp_ge (tgt := 24) C dX6_canCome_19 (by decide) (fun h19 => ?_) (fun h19 => ?_)
      · refine z_iload_n (i := 1) C dX6_canCome_24 rfl rfl ?_
        refine z_aload_n (i := 0) C dX6_canCome_25 rfl rfl ?_
        refine z_getf C f_RX6_157 dX6_canCome_26 (dC.2.1 _ hc) rfl ?_
        refine z_iconst (v := 1) C dX6_canCome_29 (by decide) ?_
        refine z_iadd C dX6_canCome_30 ?_
        refine z_icmp_eq (tgt := 36) C dX6_canCome_31 (by decide) (fun h31 => ?_) (fun h31 => ?_)
        · have e2 : a 18 c = 2 ↔ n = 3 := by
            have ho := of_decide_eq_true h4
            rw [h31, es]
            have hs4 : ts < 4 := by
              have h9 : nI ts < nI 4 := by rw [← es]; exact ho
              exact (nI_ltI (by omega) (by omega)).mp h9
            rcases (show ts = 0 ∨ ts = 1 ∨ ts = 2 ∨ ts = 3 by omega) with rfl | rfl | rfl | rfl <;> decide
          have hb : (decide (n < a 18 c) || (decide (n = 5) || decide (n = a 18 c + 1))) = true := by rw [decide_eq_true h31, Bool.or_true, Bool.or_true]
          refine z_iload_n (i := 1) C dX6_canCome_36 rfl rfl ?_
          refine z_iconst (v := 3) C dX6_canCome_37 (by decide) ?_
          refine z_icmp_ne (tgt := 48) C dX6_canCome_38 (by decide) (fun h38 => ?_) (fun h38 => ?_)
          · refine z_iconst (v := 1) C dX6_canCome_48 (by decide) ?_
            refine z_goto (tgt := 53) C dX6_canCome_49 (by decide) ?_
            exact z_iret C hr rfl dX6_canCome_53 (Nat.le_of_ble_eq_true rfl) (Nat.le_of_ble_eq_true rfl) ⟨_, rfl, zbt (by rw [comB, h4, hb, decide_eq_false h38]; simp), rfl⟩
          · by_cases hq : cnt x a (nI c) = -1
            · have hσ := hD.chN hc hq
              refine z_aload_n (i := 0) C dX6_canCome_41 rfl rfl ?_
              refine z_getf C f_RX6_216 dX6_canCome_42 hσ rfl ?_
              refine z_ifnull (o := none) (tgt := 52) C dX6_canCome_45 (by decide) (fun _ => ?_) (fun q h => by cases h)
              refine z_iconst (v := 0) C dX6_canCome_52 (by decide) ?_
              exact z_iret C hr rfl dX6_canCome_53 (Nat.le_of_ble_eq_true rfl) (Nat.le_of_ble_eq_true rfl) ⟨_, rfl, zbf (by rw [comB, h4, hb, decide_eq_true h38, decide_eq_true (e2.mpr h38), decide_eq_true hq]; rfl), rfl⟩
            · obtain ⟨j, hj, ej⟩ : ∃ j, j < zN (x 23) ∧ cnt x a (nI c) = nI j := by
                rcases cntL_rng a (nI c) (zN (x 23)) with h | h
                · exact absurd h hq
                · exact h
              have hσ := hD.chS hc (by omega) ej
              refine z_aload_n (i := 0) C dX6_canCome_41 rfl rfl ?_
              refine z_getf C f_RX6_216 dX6_canCome_42 hσ rfl ?_
              refine z_ifnull (o := some (9, j)) (tgt := 52) C dX6_canCome_45 (by decide) (fun h => by cases h) (fun q h => ?_)
              refine z_iconst (v := 1) C dX6_canCome_48 (by decide) ?_
              refine z_goto (tgt := 53) C dX6_canCome_49 (by decide) ?_
              exact z_iret C hr rfl dX6_canCome_53 (Nat.le_of_ble_eq_true rfl) (Nat.le_of_ble_eq_true rfl) ⟨_, rfl, zbt (by rw [comB, h4, hb, decide_eq_false hq]; simp), rfl⟩
        · refine z_iconst (v := 0) C dX6_canCome_34 (by decide) ?_
          exact z_iret C hr rfl dX6_canCome_35 (Nat.le_of_ble_eq_true rfl) (Nat.le_of_ble_eq_true rfl) ⟨_, rfl, zbf (by rw [comB, decide_eq_false (Int32.not_lt.mpr h19), decide_eq_false h5, decide_eq_false h31]; simp), rfl⟩
      · have h20 := Int32.not_le.mp h19
        have k3 : ¬ (a 18 c = 2 ∧ n = 3) := by
          rintro ⟨e, e'⟩
          rw [e, e'] at h20
          exact absurd h20 (by decide)
        refine z_iconst (v := 1) C dX6_canCome_22 (by decide) ?_
        exact z_iret C hr rfl dX6_canCome_23 (Nat.le_of_ble_eq_true rfl) (Nat.le_of_ble_eq_true rfl) ⟨_, rfl, zbt (by rw [comB, h4, decide_eq_true h20]; by_cases e : a 18 c = 2 <;> by_cases e3 : n = 3 <;> first | (simp [e, e3]; done) | exact absurd (And.intro e e3) k3), rfl⟩
  · refine z_iconst (v := 0) C dX6_canCome_7 (by decide) ?_
    exact z_iret C hr rfl dX6_canCome_8 (Nat.le_of_ble_eq_true rfl) (Nat.le_of_ble_eq_true rfl) ⟨_, rfl, zbf (by rw [comB, h4]; rfl), rfl⟩

set_option maxRecDepth 100000 in
set_option maxHeartbeats 4000000 in
theorem c_X6_ownNow {X : zX} (l : Launch) {x : Nat → Int32} {a : Nat → Nat → Int32} {σ : zHp} (hD : DE x a σ) (hI : zInv x a) {t : Nat} (ht : t < zN (x 11)) : zM X l yX6_ownNow cX6_ownNow 6 (some .int) 3 0 0 [aR 0 0, aR 5 t] σ (zPi (fun r σ1 => r = ownS x a t ∧ σ1 = σ)) zNx := by
  obtain ⟨i0, i1, i6, i11, i15, i23, i24, i29, iA, iS, iC, iQ, iP⟩ := id hI
  have b1 := i1.2
  have b6 := i6.2
  have b11 := i11.2
  have b15 := i15.2
  have b23 := i23.2
  have b24 := i24.2
  have b29 := i29.2
  obtain ⟨d0, dA, dR, dS, dC, dQ⟩ := id hD
  have lA := dA.1
  have lS := dS.1
  have lC := dC.1
  have lQ := dQ.1
  refine zM.of (by decide +kernel) (Nat.le_of_ble_eq_true rfl) (by simp [zcat, Value.category]) ?_
  intro p e s m args below meth c loc0 C hr hnm hT
  have lp : ∀ (r k : Nat), k + r = zN (x 15) → zG X p l e (zRm 3 0 0) s m args below meth c 6 σ loc0 (zQ X σ loc0 below (zPi (fun r σ1 => r = ownS x a t ∧ σ1 = σ)) zNx args s 0 0) 0 0 σ 4 [(0, aR 0 0), (1, aR 5 t), (2, aI (ownL x a t k)), (3, aI (nI k))] [] := by
    intro r
    induction r with
    | zero =>
      intro k hk
      refine z_iload_n (i := 3) C dX6_ownNow_4 rfl rfl ?_
      refine z_aload_n (i := 0) C dX6_ownNow_5 rfl rfl ?_
      refine z_getf C f_RX6_22 dX6_ownNow_6 d0 rfl ?_
      refine z_callV C Y_Jx4a65c_size_8abf5 V_Jx4a65c_size_8abf5 ml_RX6_51 (c_Jx4a65c_size_8abf5 l lC) dX6_ownNow_9 rfl rfl (zLs.ob lC) ⟨_, _, rfl⟩ (fun _ => Nat.le_of_ble_eq_true rfl) ⟨Nat.le_of_ble_eq_true rfl, Nat.le_of_ble_eq_true rfl⟩ ⟨Nat.le_of_ble_eq_true rfl, Nat.le_of_ble_eq_true rfl⟩ (z_ri (fun x σ1 hx => ?_)) (z_nx)
      obtain ⟨rfl, rfl⟩ := hx
      refine z_icmp_ge (tgt := 75) C dX6_ownNow_12 (by decide) (fun _ => ?_) (fun h => absurd (by rw [show k = zN (x 15) by omega]; exact Int32.le_refl _) h)
      refine z_iload_n (i := 2) C dX6_ownNow_75 rfl rfl ?_
      exact z_iret C hr rfl dX6_ownNow_76 (Nat.le_of_ble_eq_true rfl) (Nat.le_of_ble_eq_true rfl) ⟨_, rfl, by rw [show k = zN (x 15) by omega]; rfl, rfl⟩
    | succ r ih =>
      intro k hk
      refine z_iload_n (i := 3) C dX6_ownNow_4 rfl rfl ?_
      refine z_aload_n (i := 0) C dX6_ownNow_5 rfl rfl ?_
      refine z_getf C f_RX6_22 dX6_ownNow_6 d0 rfl ?_
      refine z_callV C Y_Jx4a65c_size_8abf5 V_Jx4a65c_size_8abf5 ml_RX6_51 (c_Jx4a65c_size_8abf5 l lC) dX6_ownNow_9 rfl rfl (zLs.ob lC) ⟨_, _, rfl⟩ (fun _ => Nat.le_of_ble_eq_true rfl) ⟨Nat.le_of_ble_eq_true rfl, Nat.le_of_ble_eq_true rfl⟩ ⟨Nat.le_of_ble_eq_true rfl, Nat.le_of_ble_eq_true rfl⟩ (z_ri (fun x σ1 hx => ?_)) (z_nx)
      obtain ⟨rfl, rfl⟩ := hx
      refine z_icmp_ge (tgt := 75) C dX6_ownNow_12 (by decide) (fun h => absurd h (nI_ge (by omega) (by omega))) (fun _ => ?_)
      obtain ⟨-, ts, hts, eks⟩ := iC k (by omega)
      refine z_aload_n (i := 0) C dX6_ownNow_15 rfl rfl ?_
      refine z_getf C f_RX6_22 dX6_ownNow_16 d0 rfl ?_
      refine z_iload_n (i := 3) C dX6_ownNow_19 rfl rfl ?_
      refine z_callV C Y_Jx4a65c_get_915e3 V_Jx4a65c_get_915e3 ml_RX6_171 (c_Jx4a65c_get_915e3 l lC (i := k) (by first | assumption | omega) (by omega)) dX6_ownNow_20 rfl rfl (zLs.ob lC) ⟨_, _, rfl⟩ (fun _ => Nat.le_of_ble_eq_true rfl) ⟨Nat.le_of_ble_eq_true rfl, Nat.le_of_ble_eq_true rfl⟩ ⟨Nat.le_of_ble_eq_true rfl, Nat.le_of_ble_eq_true rfl⟩ (z_rr (fun r9 σ1 hx => ?_)) (z_nx)
      obtain ⟨rfl, rfl⟩ := hx
      refine z_castR C dX6_ownNow_23 (dC.2.1 _ (by omega)) ⟨_, _, _, rfl, kl_RX6_108⟩ ?_
      refine z_astore C dX6_ownNow_26 (by decide) ?_
      refine z_aload C dX6_ownNow_28 rfl ?_
      refine z_callS C Y_X6_worthNow sm_yX6_worthNow ml_RX6_174 (c_X6_worthNow l hD hI (by omega)) dX6_ownNow_30 rfl rfl (fun _ => Nat.le_of_ble_eq_true rfl) ⟨Nat.le_of_ble_eq_true rfl, Nat.le_of_ble_eq_true rfl⟩ ⟨Nat.le_of_ble_eq_true rfl, Nat.le_of_ble_eq_true rfl⟩ (z_ri (fun x σ1 hx => ?_)) (z_nx)
      obtain ⟨rfl, rfl⟩ := hx
      refine z_aload C dX6_ownNow_33 rfl ?_
      refine z_getf C f_RX6_111 dX6_ownNow_35 (dC.2.1 _ (by omega)) rfl ?_
      refine z_aload_n (i := 1) C dX6_ownNow_38 rfl rfl ?_
      refine z_getf C f_RX6_115 dX6_ownNow_39 (dS.2.1 _ ht) rfl ?_
      obtain ⟨fs9, hs9, es9⟩ := dC.2.2.1 k (by omega)
      refine z_callS C Y_X6_at sm_yX6_at ml_RX6_135 (c_X6_at l hs9 (j := t) (by omega) (by omega)) dX6_ownNow_42 rfl rfl (fun _ => Nat.le_of_ble_eq_true rfl) ⟨Nat.le_of_ble_eq_true rfl, Nat.le_of_ble_eq_true rfl⟩ ⟨Nat.le_of_ble_eq_true rfl, Nat.le_of_ble_eq_true rfl⟩ (z_ri (fun x σ1 hx => ?_)) (z_nx)
      obtain ⟨rfl, rfl⟩ := hx
      rw [es9 t (by omega)]
      refine z_callS C Y_X6_hundredths sm_yX6_hundredths ml_RX6_291 (c_X6_hundredths l) dX6_ownNow_45 rfl rfl (fun _ => Nat.le_of_ble_eq_true rfl) ⟨Nat.le_of_ble_eq_true rfl, Nat.le_of_ble_eq_true rfl⟩ ⟨Nat.le_of_ble_eq_true rfl, Nat.le_of_ble_eq_true rfl⟩ (z_ri (fun x σ1 hx => ?_)) (z_nx)
      obtain ⟨rfl, rfl⟩ := hx
      refine z_istore C dX6_ownNow_48 (by decide) ?_
      refine z_iload_n (i := 2) C dX6_ownNow_50 rfl rfl ?_
      refine z_iload C dX6_ownNow_51 rfl ?_
      refine z_getsW C fl_RX6_295 dX6_ownNow_53 ?_
      refine z_aload C dX6_ownNow_56 rfl ?_
      refine z_getf C f_RX6_157 dX6_ownNow_58 (dC.2.1 _ (by omega)) rfl ?_
      rw [eks]
      refine z_wts C (fun h91 => ?_)
      refine z_callS C Y_X6_at sm_yX6_at ml_RX6_135 (c_X6_at l h91 (j := ts) (by omega) (by omega)) dX6_ownNow_61 rfl rfl (fun _ => Nat.le_of_ble_eq_true rfl) ⟨Nat.le_of_ble_eq_true rfl, Nat.le_of_ble_eq_true rfl⟩ ⟨Nat.le_of_ble_eq_true rfl, Nat.le_of_ble_eq_true rfl⟩ (z_ri (fun x σ1 hx => ?_)) (z_nx)
      obtain ⟨rfl, rfl⟩ := hx
      rw [show zWts ts = wgt (a 18 k) by rw [eks]; exact zWts_wgt ts hts]
      refine z_callS C Y_X6_hundredths sm_yX6_hundredths ml_RX6_291 (c_X6_hundredths l) dX6_ownNow_64 rfl rfl (fun _ => Nat.le_of_ble_eq_true rfl) ⟨Nat.le_of_ble_eq_true rfl, Nat.le_of_ble_eq_true rfl⟩ ⟨Nat.le_of_ble_eq_true rfl, Nat.le_of_ble_eq_true rfl⟩ (z_ri (fun x σ1 hx => ?_)) (z_nx)
      obtain ⟨rfl, rfl⟩ := hx
      refine z_iadd C dX6_ownNow_67 ?_
      refine z_istore_n (i := 2) C dX6_ownNow_68 rfl (by decide) ?_
      refine z_iinc C dX6_ownNow_69 (by decide) rfl (zinc k) ?_
      refine z_goto (tgt := 4) C dX6_ownNow_72 (by decide) ?_
      refine z_sub (L' := [(0, aR 0 0), (1, aR 5 t), (2, aI (ownL x a t (k + 1))), (3, aI (nI (k + 1)))]) (zs1 rfl (zs1 rfl (zs1 rfl (zs1 rfl zs0)))) ?_
      exact ih (k + 1) (by omega)
  refine z_iconst (v := 0) C dX6_ownNow_0 (by decide) ?_
  refine z_istore_n (i := 2) C dX6_ownNow_1 rfl (by decide) ?_
  refine z_iconst (v := 0) C dX6_ownNow_2 (by decide) ?_
  refine z_istore_n (i := 3) C dX6_ownNow_3 rfl (by decide) ?_
  refine z_sub (L' := [(0, aR 0 0), (1, aR 5 t), (2, aI (ownL x a t 0)), (3, aI (nI 0))]) (zs1 rfl (zs1 rfl (zs1 rfl (zs1 rfl zs0)))) ?_
  exact lp (zN (x 15)) 0 (Nat.zero_add _)

set_option maxRecDepth 100000 in
set_option maxHeartbeats 4000000 in
theorem c_X6_forecastNow {X : zX} (l : Launch) {x : Nat → Int32} {a : Nat → Nat → Int32} {σ : zHp} (hD : DE x a σ) (hI : zInv x a) {t : Nat} (ht : t < zN (x 11)) : zM X l yX6_forecastNow cX6_forecastNow 5 (some .int) 4 0 0 [aR 0 0, aR 5 t] σ (zPi (fun r σ1 => r = forS x a t ∧ σ1 = σ)) zNx := by
  obtain ⟨i0, i1, i6, i11, i15, i23, i24, i29, iA, iS, iC, iQ, iP⟩ := id hI
  have b1 := i1.2
  have b6 := i6.2
  have b11 := i11.2
  have b15 := i15.2
  have b23 := i23.2
  have b24 := i24.2
  have b29 := i29.2
  obtain ⟨d0, dA, dR, dS, dC, dQ⟩ := id hD
  have lA := dA.1
  have lS := dS.1
  have lC := dC.1
  have lQ := dQ.1
  refine zM.of (by decide +kernel) (Nat.le_of_ble_eq_true rfl) (by simp [zcat, Value.category]) ?_
  intro p e s m args below meth c loc0 C hr hnm hT
  have lp : ∀ (r k : Nat), k + r = zN (x 11) → zG X p l e (zRm 4 0 0) s m args below meth c 5 σ loc0 (zQ X σ loc0 below (zPi (fun r σ1 => r = forS x a t ∧ σ1 = σ)) zNx args s 0 0) 0 0 σ 4 [(0, aR 0 0), (1, aR 5 t), (2, aI (forL x a t k)), (3, aI (nI k))] [] := by
    intro r
    induction r with
    | zero =>
      intro k hk
      refine z_iload_n (i := 3) C dX6_forecastNow_4 rfl rfl ?_
      refine z_aload_n (i := 0) C dX6_forecastNow_5 rfl rfl ?_
      refine z_getf C f_RX6_19 dX6_forecastNow_6 d0 rfl ?_
      refine z_callV C Y_Jx4a65c_size_8abf5 V_Jx4a65c_size_8abf5 ml_RX6_51 (c_Jx4a65c_size_8abf5 l lS) dX6_forecastNow_9 rfl rfl (zLs.ob lS) ⟨_, _, rfl⟩ (fun _ => Nat.le_of_ble_eq_true rfl) ⟨Nat.le_of_ble_eq_true rfl, Nat.le_of_ble_eq_true rfl⟩ ⟨Nat.le_of_ble_eq_true rfl, Nat.le_of_ble_eq_true rfl⟩ (z_ri (fun x σ1 hx => ?_)) (z_nx)
      obtain ⟨rfl, rfl⟩ := hx
      refine z_icmp_ge (tgt := 58) C dX6_forecastNow_12 (by decide) (fun _ => ?_) (fun h => absurd (by rw [show k = zN (x 11) by omega]; exact Int32.le_refl _) h)
      refine z_iload_n (i := 2) C dX6_forecastNow_58 rfl rfl ?_
      exact z_iret C hr rfl dX6_forecastNow_59 (Nat.le_of_ble_eq_true rfl) (Nat.le_of_ble_eq_true rfl) ⟨_, rfl, by rw [show k = zN (x 11) by omega]; rfl, rfl⟩
    | succ r ih =>
      intro k hk
      refine z_iload_n (i := 3) C dX6_forecastNow_4 rfl rfl ?_
      refine z_aload_n (i := 0) C dX6_forecastNow_5 rfl rfl ?_
      refine z_getf C f_RX6_19 dX6_forecastNow_6 d0 rfl ?_
      refine z_callV C Y_Jx4a65c_size_8abf5 V_Jx4a65c_size_8abf5 ml_RX6_51 (c_Jx4a65c_size_8abf5 l lS) dX6_forecastNow_9 rfl rfl (zLs.ob lS) ⟨_, _, rfl⟩ (fun _ => Nat.le_of_ble_eq_true rfl) ⟨Nat.le_of_ble_eq_true rfl, Nat.le_of_ble_eq_true rfl⟩ ⟨Nat.le_of_ble_eq_true rfl, Nat.le_of_ble_eq_true rfl⟩ (z_ri (fun x σ1 hx => ?_)) (z_nx)
      obtain ⟨rfl, rfl⟩ := hx
      refine z_icmp_ge (tgt := 58) C dX6_forecastNow_12 (by decide) (fun h => absurd h (nI_ge (by omega) (by omega))) (fun _ => ?_)
      refine z_aload_n (i := 0) C dX6_forecastNow_15 rfl rfl ?_
      refine z_getf C f_RX6_19 dX6_forecastNow_16 d0 rfl ?_
      refine z_iload_n (i := 3) C dX6_forecastNow_19 rfl rfl ?_
      refine z_callV C Y_Jx4a65c_get_915e3 V_Jx4a65c_get_915e3 ml_RX6_171 (c_Jx4a65c_get_915e3 l lS (i := k) (by first | assumption | omega) (by omega)) dX6_forecastNow_20 rfl rfl (zLs.ob lS) ⟨_, _, rfl⟩ (fun _ => Nat.le_of_ble_eq_true rfl) ⟨Nat.le_of_ble_eq_true rfl, Nat.le_of_ble_eq_true rfl⟩ ⟨Nat.le_of_ble_eq_true rfl, Nat.le_of_ble_eq_true rfl⟩ (z_rr (fun r9 σ1 hx => ?_)) (z_nx)
      obtain ⟨rfl, rfl⟩ := hx
      refine z_castR C dX6_forecastNow_23 (dS.2.1 _ (by omega)) ⟨_, _, _, rfl, kl_RX6_98⟩ ?_
      refine z_astore C dX6_forecastNow_26 (by decide) ?_
      refine z_aload C dX6_forecastNow_28 rfl ?_
      refine z_aload_n (i := 1) C dX6_forecastNow_30 rfl rfl ?_
      have hab : abvF a (nI t) (k + 2) (nI k) = (decide (k = t) || abvB a (nI t) k) := by
        rw [abvF, if_neg (nI_nm1 (by omega)), zN_nI (by omega)]
        by_cases e : k = t
        · rw [if_pos (by rw [e]), decide_eq_true e]; rfl
        · rw [if_neg (fun z => e ((nI_eq (by omega) (by omega)).mp z)), decide_eq_false e]; rfl
      refine z_callS C Y_X6_isInTeam sm_yX6_isInTeam ml_RX6_281 (c_X6_isInTeam l hD hI (F := k + 2) (t := t) (v := nI k) (Or.inr ⟨k, by omega, by omega, rfl⟩) (by omega)) dX6_forecastNow_31 (by rw [oR_s (by omega)]; rfl) rfl (fun _ => Nat.le_of_ble_eq_true rfl) ⟨Nat.le_of_ble_eq_true rfl, Nat.le_of_ble_eq_true rfl⟩ ⟨Nat.le_of_ble_eq_true rfl, Nat.le_of_ble_eq_true rfl⟩ (z_ri (fun x σ1 hx => ?_)) (z_nx)
      obtain ⟨rfl, rfl⟩ := hx
      rw [hab]
      refine z_if_eqB (tgt := 52) C dX6_forecastNow_34 (by decide) (fun hb => ?_) (fun hb => ?_)
      · refine z_iinc C dX6_forecastNow_52 (by decide) rfl (zinc k) ?_
        refine z_goto (tgt := 4) C dX6_forecastNow_55 (by decide) ?_
        refine z_sub (L' := [(0, aR 0 0), (1, aR 5 t), (2, aI (forL x a t k + 0)), (3, aI (nI (k + 1)))]) (zs1 rfl (zs1 rfl (zs1 (by rw [Int32.add_zero]; rfl) (zs1 rfl zs0)))) ?_
        refine Eq.mp ?_ (ih (k + 1) (by omega))
        rw [forL, hb]
        rfl
      · refine z_iload_n (i := 2) C dX6_forecastNow_37 rfl rfl ?_
        refine z_aload_n (i := 0) C dX6_forecastNow_38 rfl rfl ?_
        refine z_aload C dX6_forecastNow_39 rfl ?_
        refine z_callV C Y_X6_ownNow V_X6_ownNow ml_RX6_229 (c_X6_ownNow l hD hI (t := k) (by omega)) dX6_forecastNow_41 rfl rfl d0 ⟨_, _, rfl⟩ (fun _ => Nat.le_of_ble_eq_true rfl) ⟨Nat.le_of_ble_eq_true rfl, Nat.le_of_ble_eq_true rfl⟩ ⟨Nat.le_of_ble_eq_true rfl, Nat.le_of_ble_eq_true rfl⟩ (z_ri (fun x σ1 hx => ?_)) (z_nx)
        obtain ⟨rfl, rfl⟩ := hx
        refine z_aload C dX6_forecastNow_44 rfl ?_
        refine z_getf C f_RX6_105 dX6_forecastNow_46 (dS.2.1 _ (by omega)) rfl ?_
        refine z_iadd C dX6_forecastNow_49 ?_
        refine z_iadd C dX6_forecastNow_50 ?_
        refine z_istore_n (i := 2) C dX6_forecastNow_51 rfl (by decide) ?_
        refine z_iinc C dX6_forecastNow_52 (by decide) rfl (zinc k) ?_
        refine z_goto (tgt := 4) C dX6_forecastNow_55 (by decide) ?_
        refine z_sub (L' := [(0, aR 0 0), (1, aR 5 t), (2, aI (forL x a t k + (ownS x a k + a 14 k))), (3, aI (nI (k + 1)))]) (zs1 rfl (zs1 rfl (zs1 rfl (zs1 rfl zs0)))) ?_
        refine Eq.mp ?_ (ih (k + 1) (by omega))
        rw [forL, hb]
        rfl
  refine z_iconst (v := 0) C dX6_forecastNow_0 (by decide) ?_
  refine z_istore_n (i := 2) C dX6_forecastNow_1 rfl (by decide) ?_
  refine z_iconst (v := 0) C dX6_forecastNow_2 (by decide) ?_
  refine z_istore_n (i := 3) C dX6_forecastNow_3 rfl (by decide) ?_
  refine z_sub (L' := [(0, aR 0 0), (1, aR 5 t), (2, aI (forL x a t 0)), (3, aI (nI 0))]) (zs1 rfl (zs1 rfl (zs1 rfl (zs1 rfl zs0)))) ?_
  exact lp (zN (x 11)) 0 (Nat.zero_add _)

