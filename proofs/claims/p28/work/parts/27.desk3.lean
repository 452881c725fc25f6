/-! the desk: regions, worths, forecasts -/
theorem ruled_nofit {a : Nat → Nat → Int32} {i : Nat} : ∀ (k : Nat) (f : Int32), (∀ j, j < k → fitR a i j = false) → ruledL a i k f = f
  | 0, _, _ => rfl
  | k + 1, f, h => by
    rw [ruledL, h k (Nat.lt_succ_self k)]
    exact ruled_nofit k _ (fun j hj => h j (by omega))
theorem ruled_split {a : Nat → Nat → Int32} {i m : Nat} (f : Int32) : ∀ d, ∃ g, ruledL a i (m + d) f = ruledL a i m g := by
  intro d
  induction d generalizing f with
  | zero => exact ⟨f, rfl⟩
  | succ d ih =>
    obtain ⟨g, hg⟩ := ih (cond (fitR a i (m + d)) (a 10 (m + d)) f)
    exact ⟨g, hg⟩
theorem ruled_first {a : Nat → Nat → Int32} {i n k : Nat} (hk : k < n) (h0 : ∀ j, j < k → fitR a i j = false) (h1 : fitR a i k = true) : ruledL a i n (-1) = a 10 k := by
  obtain ⟨d, rfl⟩ : ∃ d, n = k + 1 + d := ⟨n - k - 1, by omega⟩
  obtain ⟨g, hg⟩ := ruled_split (a := a) (i := i) (m := k + 1) (-1) d
  rw [hg, ruledL, h1]
  exact ruled_nofit k _ h0
set_option maxRecDepth 100000 in
set_option maxHeartbeats 4000000 in
theorem c_X6_ruledRegion {X : zX} (l : Launch) {x : Nat → Int32} {a : Nat → Nat → Int32} {σ : zHp} (hD : DE x a σ) (hI : zInv x a) {i : Nat} (hi : i < zN (x 1)) : zM X l yX6_ruledRegion cX6_ruledRegion 4 (some .int) 3 0 0 [aR 0 0, aR 3 i] σ (zPi (fun r σ1 => r = ruledL a i (zN (x 6)) (-1) ∧ σ1 = σ)) zNx := by
  obtain ⟨i0, i1, i6, i11, i15, i23, i24, i29, iA, iS, iC, iQ, iP⟩ := id hI
  have b1 := i1.2
  have b6 := i6.2
  have b11 := i11.2
  have b15 := i15.2
  have b23 := i23.2
  have b24 := i24.2
  have b29 := i29.2
  obtain ⟨d0, dA, dR, dS, dC, dQ⟩ := id hD
  have lA := dA.1
  have lS := dS.1
  have lC := dC.1
  have lQ := dQ.1
  obtain ⟨rk, nr, lR, dr, dn⟩ := dR
  refine zM.of (by decide +kernel) (Nat.le_of_ble_eq_true rfl) (by simp [zcat, Value.category]) ?_
  intro p e s m args below meth c loc0 C hr hnm hT
  have lp : ∀ (r k : Nat), k + r = zN (x 6) → (∀ j, j < k → fitR a i j = false) → zG X p l e (zRm 3 0 0) s m args below meth c 4 σ loc0 (zQ X σ loc0 below (zPi (fun r σ1 => r = ruledL a i (zN (x 6)) (-1) ∧ σ1 = σ)) zNx args s 0 0) 0 0 σ 2 [(0, aR 0 0), (1, aR 3 i), (2, aI (nI k))] [] := by
    intro r
    induction r with
    | zero =>
      intro k hk h0
      refine z_iload_n (i := 2) C dX6_ruledRegion_2 rfl rfl ?_
      refine z_aload_n (i := 0) C dX6_ruledRegion_3 rfl rfl ?_
      refine z_getf C f_RX6_16 dX6_ruledRegion_4 d0 rfl ?_
      refine z_callV C Y_Jx4a65c_size_8abf5 V_Jx4a65c_size_8abf5 ml_RX6_51 (c_Jx4a65c_size_8abf5 l lR) dX6_ruledRegion_7 rfl rfl (zLs.ob lR) ⟨_, _, rfl⟩ (fun _ => Nat.le_of_ble_eq_true rfl) ⟨Nat.le_of_ble_eq_true rfl, Nat.le_of_ble_eq_true rfl⟩ ⟨Nat.le_of_ble_eq_true rfl, Nat.le_of_ble_eq_true rfl⟩ (z_ri (fun x σ1 hx => ?_)) (z_nx)
      obtain ⟨rfl, rfl⟩ := hx
      refine z_icmp_ge (tgt := 69) C dX6_ruledRegion_10 (by decide) (fun _ => ?_) (fun h => absurd (by rw [show k = zN (x 6) by omega]; exact Int32.le_refl _) h)
      refine z_iconst (v := -1) C dX6_ruledRegion_69 (by decide) ?_
      exact z_iret C hr rfl dX6_ruledRegion_70 (Nat.le_of_ble_eq_true rfl) (Nat.le_of_ble_eq_true rfl) ⟨_, rfl, (ruled_nofit _ _ (fun j hj => h0 j (by omega))).symm, rfl⟩
    | succ r ih =>
      intro k hk h0
      refine z_iload_n (i := 2) C dX6_ruledRegion_2 rfl rfl ?_
      refine z_aload_n (i := 0) C dX6_ruledRegion_3 rfl rfl ?_
      refine z_getf C f_RX6_16 dX6_ruledRegion_4 d0 rfl ?_
      refine z_callV C Y_Jx4a65c_size_8abf5 V_Jx4a65c_size_8abf5 ml_RX6_51 (c_Jx4a65c_size_8abf5 l lR) dX6_ruledRegion_7 rfl rfl (zLs.ob lR) ⟨_, _, rfl⟩ (fun _ => Nat.le_of_ble_eq_true rfl) ⟨Nat.le_of_ble_eq_true rfl, Nat.le_of_ble_eq_true rfl⟩ ⟨Nat.le_of_ble_eq_true rfl, Nat.le_of_ble_eq_true rfl⟩ (z_ri (fun x σ1 hx => ?_)) (z_nx)
      obtain ⟨rfl, rfl⟩ := hx
      refine z_icmp_ge (tgt := 69) C dX6_ruledRegion_10 (by decide) (fun h => absurd h (nI_ge (by omega) (by omega))) (fun _ => ?_)
      refine z_aload_n (i := 0) C dX6_ruledRegion_13 rfl rfl ?_
      refine z_getf C f_RX6_16 dX6_ruledRegion_14 d0 rfl ?_
      refine z_iload_n (i := 2) C dX6_ruledRegion_17 rfl rfl ?_
      refine z_callV C Y_Jx4a65c_get_915e3 V_Jx4a65c_get_915e3 ml_RX6_171 (c_Jx4a65c_get_915e3 l lR (i := k) (by first | assumption | omega) (by omega)) dX6_ruledRegion_18 rfl rfl (zLs.ob lR) ⟨_, _, rfl⟩ (fun _ => Nat.le_of_ble_eq_true rfl) ⟨Nat.le_of_ble_eq_true rfl, Nat.le_of_ble_eq_true rfl⟩ ⟨Nat.le_of_ble_eq_true rfl, Nat.le_of_ble_eq_true rfl⟩ (z_rr (fun r9 σ1 hx => ?_)) (z_nx)
      obtain ⟨rfl, rfl⟩ := hx
      refine z_castR C dX6_ruledRegion_21 (dr _ (by omega)) ⟨_, _, _, rfl, kl_RX6_73⟩ ?_
      refine z_astore_n (i := 3) C dX6_ruledRegion_24 rfl (by decide) ?_
      refine z_aload_n (i := 3) C dX6_ruledRegion_25 rfl rfl ?_
      refine z_getf C f_RX6_260 dX6_ruledRegion_26 (dr _ (by omega)) rfl ?_
      refine z_aload_n (i := 1) C dX6_ruledRegion_29 rfl rfl ?_
      refine z_getf C f_RX6_263 dX6_ruledRegion_30 (dA.2.1 _ hi) rfl ?_
      refine z_icmp_gt (tgt := 63) C dX6_ruledRegion_33 (by decide) (fun h33 => ?_) (fun h33 => ?_)
      · refine z_iinc C dX6_ruledRegion_63 (by decide) rfl (zinc k) ?_
        refine z_goto (tgt := 2) C dX6_ruledRegion_66 (by decide) ?_
        refine z_sub (L' := [(0, aR 0 0), (1, aR 3 i), (2, aI (nI (k + 1)))]) (zs1 rfl (zs1 rfl (zs1 rfl zs0))) ?_
        refine ih (k + 1) (by omega) (fun j hj => ?_)
        by_cases e : j = k
        · subst e
          exact by rw [fitR, inB_f (Or.inl h33)]; rfl
        · exact h0 j (by omega)
      · refine z_aload_n (i := 1) C dX6_ruledRegion_36 rfl rfl ?_
        refine z_getf C f_RX6_263 dX6_ruledRegion_37 (dA.2.1 _ hi) rfl ?_
        refine z_aload_n (i := 3) C dX6_ruledRegion_40 rfl rfl ?_
        refine z_getf C f_RX6_266 dX6_ruledRegion_41 (dr _ (by omega)) rfl ?_
        refine z_icmp_gt (tgt := 63) C dX6_ruledRegion_44 (by decide) (fun h44 => ?_) (fun h44 => ?_)
        · refine z_iinc C dX6_ruledRegion_63 (by decide) rfl (zinc k) ?_
          refine z_goto (tgt := 2) C dX6_ruledRegion_66 (by decide) ?_
          refine z_sub (L' := [(0, aR 0 0), (1, aR 3 i), (2, aI (nI (k + 1)))]) (zs1 rfl (zs1 rfl (zs1 rfl zs0))) ?_
          refine ih (k + 1) (by omega) (fun j hj => ?_)
          by_cases e : j = k
          · subst e
            exact by rw [fitR, inB_f (Or.inr h44)]; rfl
          · exact h0 j (by omega)
        · refine z_aload_n (i := 3) C dX6_ruledRegion_47 rfl rfl ?_
          refine z_getf C f_RX6_269 dX6_ruledRegion_48 (dr _ (by omega)) rfl ?_
          refine z_aload_n (i := 1) C dX6_ruledRegion_51 rfl rfl ?_
          refine z_getf C f_RX6_271 dX6_ruledRegion_52 (dA.2.1 _ hi) rfl ?_
          refine z_icmp_gt (tgt := 63) C dX6_ruledRegion_55 (by decide) (fun h55 => ?_) (fun h55 => ?_)
          · refine z_iinc C dX6_ruledRegion_63 (by decide) rfl (zinc k) ?_
            refine z_goto (tgt := 2) C dX6_ruledRegion_66 (by decide) ?_
            refine z_sub (L' := [(0, aR 0 0), (1, aR 3 i), (2, aI (nI (k + 1)))]) (zs1 rfl (zs1 rfl (zs1 rfl zs0))) ?_
            refine ih (k + 1) (by omega) (fun j hj => ?_)
            by_cases e : j = k
            · subst e
              exact by rw [fitR, decide_eq_false (Int32.not_le.mpr h55), Bool.and_false]
            · exact h0 j (by omega)
          · refine z_aload_n (i := 3) C dX6_ruledRegion_58 rfl rfl ?_
            refine z_getf C f_RX6_272 dX6_ruledRegion_59 (dr _ (by omega)) rfl ?_
            exact z_iret C hr rfl dX6_ruledRegion_62 (Nat.le_of_ble_eq_true rfl) (Nat.le_of_ble_eq_true rfl) ⟨_, rfl, (ruled_first (by omega) h0 (by rw [fitR, inB_t.mpr ⟨Int32.not_lt.mp h33, Int32.not_lt.mp h44⟩, decide_eq_true (Int32.not_lt.mp h55)]; rfl)).symm, rfl⟩
  refine z_iconst (v := 0) C dX6_ruledRegion_0 (by decide) ?_
  refine z_istore_n (i := 2) C dX6_ruledRegion_1 rfl (by decide) ?_
  refine z_sub (L' := [(0, aR 0 0), (1, aR 3 i), (2, aI (nI 0))]) (zs1 rfl (zs1 rfl (zs1 rfl zs0))) ?_
  exact lp (zN (x 6)) 0 (Nat.zero_add _) (fun j hj => absurd hj (Nat.not_lt_zero _))

def regG (x : Nat → Int32) (a : Nat → Nat → Int32) : Nat → Int32 → Int32
  | 0, _ => 0
  | f + 1, v => if v = -1 then 0 else if ownR x a (zN v) = -1 then regG x a f (a 2 (zN v)) else ownR x a (zN v)
theorem regG_eq {x : Nat → Int32} {a : Nat → Nat → Int32} (iA : ∀ i, i < zN (x 1) → zUp (a 2 i) i) (h1 : zN (x 1) ≤ 16) : ∀ (f i : Nat), i < f → i < zN (x 1) → regG x a f (nI i) = regF x a f i
  | 0, i, h, _ => by omega
  | f + 1, i, h, hi => by
    rw [regG, regF, if_neg (nI_nm1 (by omega)), zN_nI (by omega)]
    by_cases e : ownR x a i = -1
    · rw [if_pos e, if_pos e]
      rcases iA i hi with h2 | ⟨j, hj, h2⟩
      · rw [if_pos h2, h2]
        cases f with
        | zero => rfl
        | succ f => rw [regG, if_pos rfl]
      · rw [h2, if_neg (nI_nm1 (by omega)), zN_nI (by omega)]
        exact regG_eq iA h1 f j (by omega) (by omega)
    · rw [if_neg e, if_neg e]
set_option maxRecDepth 100000 in
set_option maxHeartbeats 4000000 in
theorem c_X6_regionNow {X : zX} (l : Launch) {x : Nat → Int32} {a : Nat → Nat → Int32} {σ : zHp} (hD : DE x a σ) (hI : zInv x a) {i : Nat} (hi : i < zN (x 1)) : zM X l yX6_regionNow cX6_regionNow 4 (some .int) 4 0 0 [aR 0 0, aR 3 i] σ (zPi (fun r σ1 => r = regS x a i ∧ σ1 = σ)) zNx := by
  obtain ⟨i0, i1, i6, i11, i15, i23, i24, i29, iA, iS, iC, iQ, iP⟩ := id hI
  have b1 := i1.2
  have b6 := i6.2
  have b11 := i11.2
  have b15 := i15.2
  have b23 := i23.2
  have b24 := i24.2
  have b29 := i29.2
  obtain ⟨d0, dA, dR, dS, dC, dQ⟩ := id hD
  have lA := dA.1
  have lS := dS.1
  have lC := dC.1
  have lQ := dQ.1
  obtain ⟨b, hb⟩ : ∃ b, b = regS x a i := ⟨_, rfl⟩
  rw [← hb]
  refine zM.of (by decide +kernel) (Nat.le_of_ble_eq_true rfl) (by simp [zcat, Value.category]) ?_
  intro p e s m args below meth c loc0 C hr hnm hT
  have lp : ∀ (F : Nat) (v : Int32), (v = -1 ∨ ∃ j, j < F ∧ j < zN (x 1) ∧ v = nI j) → regG x a F v = b → zG X p l e (zRm 4 0 0) s m args below meth c 4 σ loc0 (zQ X σ loc0 below (zPi (fun r σ1 => r = b ∧ σ1 = σ)) zNx args s 0 0) 0 0 σ 2 [(0, aR 0 0), (2, aO (oR 3 v))] [] := by
    intro F
    induction F with
    | zero =>
      intro v hv hr0
      rcases hv with rfl | ⟨j, hj, -⟩
      · rw [oR_n rfl]
        refine z_aload_nN (i := 2) C dX6_regionNow_2 rfl rfl ?_
        refine z_ifnull (tgt := 42) (o := none) C dX6_regionNow_3 (by decide) (fun _ => ?_) (fun q h => by cases h)
        refine z_iconst (v := 0) C dX6_regionNow_42 (by decide) ?_
        exact z_iret C hr rfl dX6_regionNow_43 (Nat.le_of_ble_eq_true rfl) (Nat.le_of_ble_eq_true rfl) ⟨_, rfl, hr0, rfl⟩
      · omega
    | succ F ih =>
      intro v hv hr0
      rcases hv with rfl | ⟨j, hj, hjn, rfl⟩
      · rw [oR_n rfl]
        replace hr0 : 0 = b := by rw [← hr0, regG, if_pos rfl]
        refine z_aload_nN (i := 2) C dX6_regionNow_2 rfl rfl ?_
        refine z_ifnull (tgt := 42) (o := none) C dX6_regionNow_3 (by decide) (fun _ => ?_) (fun q h => by cases h)
        refine z_iconst (v := 0) C dX6_regionNow_42 (by decide) ?_
        exact z_iret C hr rfl dX6_regionNow_43 (Nat.le_of_ble_eq_true rfl) (Nat.le_of_ble_eq_true rfl) ⟨_, rfl, hr0, rfl⟩
      · rw [oR_s (by omega)]
        refine z_sub (L' := [(0, aR 0 0), (2, aR 3 j)]) (zs1 rfl (zs1 rfl zs0)) ?_
        refine z_aload_n (i := 2) C dX6_regionNow_2 rfl rfl ?_
        refine z_ifnull (tgt := 42) (o := some (3, j)) C dX6_regionNow_3 (by decide) (fun h => by cases h) (fun _ _ => ?_)
        refine z_join (pc' := 26) (L' := [(0, aR 0 0), (2, aR 3 j)]) (st' := [aI (ownR x a j)]) (fun kk => ?_) ?_
        · refine z_aload_n (i := 2) C dX6_regionNow_6 rfl rfl ?_
          refine z_getf C f_RX6_87 dX6_regionNow_7 (dA.2.1 _ hjn) rfl ?_
          refine z_iconst (v := -1) C dX6_regionNow_10 (by decide) ?_
          refine z_icmp_ne (tgt := 22) C dX6_regionNow_11 (by decide) (fun h11 => ?_) (fun h11 => ?_)
          · refine z_aload_n (i := 2) C dX6_regionNow_22 rfl rfl ?_
            refine z_getf C f_RX6_87 dX6_regionNow_23 (dA.2.1 _ hjn) rfl ?_
            exact z_subK (z_top (by simp only [h11, ownR, eq_self, decide_true, decide_false, Bool.and_true, Bool.true_and, Bool.and_false, Bool.false_and, Bool.or_true, Bool.true_or, Bool.or_false, Bool.false_or, Bool.not_true, Bool.not_false, not_true, not_false_eq_true, if_true, if_false]) kk) (zs1 rfl (zs1 rfl zs0))
          · refine z_aload_n (i := 0) C dX6_regionNow_14 rfl rfl ?_
            refine z_aload_n (i := 2) C dX6_regionNow_15 rfl rfl ?_
            refine z_callV C Y_X6_ruledRegion V_X6_ruledRegion ml_RX6_254 (c_X6_ruledRegion l hD hI hjn) dX6_regionNow_16 rfl rfl d0 ⟨_, _, rfl⟩ (fun _ => Nat.le_of_ble_eq_true rfl) ⟨Nat.le_of_ble_eq_true rfl, Nat.le_of_ble_eq_true rfl⟩ ⟨Nat.le_of_ble_eq_true rfl, Nat.le_of_ble_eq_true rfl⟩ (z_ri (fun x σ1 hx => ?_)) (z_nx)
            obtain ⟨rfl, rfl⟩ := hx
            refine z_goto (tgt := 26) C dX6_regionNow_19 (by decide) ?_
            exact z_subK (z_top (by simp only [h11, ownR, eq_self, decide_true, decide_false, Bool.and_true, Bool.true_and, Bool.and_false, Bool.false_and, Bool.or_true, Bool.true_or, Bool.or_false, Bool.false_or, Bool.not_true, Bool.not_false, not_true, not_false_eq_true, if_true, if_false]) kk) (zs1 rfl (zs1 rfl zs0))
        refine z_istore_n (i := 3) C dX6_regionNow_26 rfl (by decide) ?_
        refine z_iload_n (i := 3) C dX6_regionNow_27 rfl rfl ?_
        refine z_iconst (v := -1) C dX6_regionNow_28 (by decide) ?_
        refine z_icmp_eq (tgt := 34) C dX6_regionNow_29 (by decide) (fun h29 => ?_) (fun h29 => ?_)
        · refine z_aload_n (i := 2) C dX6_regionNow_34 rfl rfl ?_
          refine z_getf C f_RX6_257 dX6_regionNow_35 (dA.2.1 _ hjn) rfl ?_
          refine z_astore_nO (i := 2) C dX6_regionNow_38 rfl (by decide) ?_
          refine z_goto (tgt := 2) C dX6_regionNow_39 (by decide) ?_
          refine z_sub (L' := [(0, aR 0 0), (2, aO (oR 3 (a 2 j)))]) (zs1 rfl (zs1 rfl zs0)) ?_
          refine ih _ ?_ ?_
          · rcases iA j hjn with h | ⟨j2, hj2, h⟩
            · exact Or.inl h
            · exact Or.inr ⟨j2, by omega, by omega, h⟩
          · rw [← hr0, regG, if_neg (nI_nm1 (by omega)), zN_nI (by omega), if_pos h29]
        · refine z_iload_n (i := 3) C dX6_regionNow_32 rfl rfl ?_
          exact z_iret C hr rfl dX6_regionNow_33 (Nat.le_of_ble_eq_true rfl) (Nat.le_of_ble_eq_true rfl) ⟨_, rfl, by rw [← hr0, regG, if_neg (nI_nm1 (by omega)), zN_nI (by omega), if_neg h29], rfl⟩
  refine z_aload_n (i := 1) C dX6_regionNow_0 rfl rfl ?_
  refine z_astore_n (i := 2) C dX6_regionNow_1 rfl (by decide) ?_
  refine z_sub (L' := [(0, aR 0 0), (2, aO (oR 3 (nI i)))]) (zs1 rfl (zs1 (by rw [oR_s (by omega)]; rfl) zs0)) ?_
  exact lp (i + 1) (nI i) (Or.inr ⟨i, by omega, hi, rfl⟩) (by rw [regG_eq iA b1 (i + 1) i (by omega) hi, hb]; rfl)

set_option maxRecDepth 100000 in
set_option maxHeartbeats 4000000 in
theorem c_X6_regionFor {X : zX} (l : Launch) {x : Nat → Int32} {a : Nat → Nat → Int32} {σ : zHp} (hD : DE x a σ) (hI : zInv x a) {c : Nat} (hc : c < zN (x 15)) : zM X l yX6_regionFor cX6_regionFor 2 (some .int) 5 0 0 [aR 0 0, aR 6 c] σ (zPi (fun r σ1 => r = rgnC x a c ∧ σ1 = σ)) zNx := by
  obtain ⟨i0, i1, i6, i11, i15, i23, i24, i29, iA, iS, iC, iQ, iP⟩ := id hI
  have b1 := i1.2
  have b6 := i6.2
  have b11 := i11.2
  have b15 := i15.2
  have b23 := i23.2
  have b24 := i24.2
  have b29 := i29.2
  obtain ⟨d0, dA, dR, dS, dC, dQ⟩ := id hD
  have lA := dA.1
  have lS := dS.1
  have lC := dC.1
  have lQ := dQ.1
  obtain ⟨⟨ia, hia, ea⟩, ts, hts, es⟩ := iC c hc
  have za : zN (a 16 c) = ia := by rw [ea, zN_nI (by omega)]
  refine zM.of (by decide +kernel) (Nat.le_of_ble_eq_true rfl) (by simp [zcat, Value.category]) ?_
  intro p e s m args below meth c9 loc0 C hr hnm hT
  refine z_aload_n (i := 1) C dX6_regionFor_0 rfl rfl ?_
  refine z_callS C Y_X6_isOpen sm_yX6_isOpen ml_RX6_160 (c_X6_isOpen l (dC.2.1 _ hc)) dX6_regionFor_1 rfl rfl (fun _ => Nat.le_of_ble_eq_true rfl) ⟨Nat.le_of_ble_eq_true rfl, Nat.le_of_ble_eq_true rfl⟩ ⟨Nat.le_of_ble_eq_true rfl, Nat.le_of_ble_eq_true rfl⟩ (z_ri (fun x σ1 hx => ?_)) (z_nx)
  obtain ⟨rfl, rfl⟩ := hx
  refine z_if_eqB (tgt := 18) C dX6_regionFor_4 (by decide) (fun h4 => ?_) (fun h4 => ?_)
  · refine z_aload_n (i := 1) C dX6_regionFor_18 rfl rfl ?_
    refine z_getf C f_RX6_168 dX6_regionFor_19 (dC.2.1 _ hc) rfl ?_
    exact z_iret C hr rfl dX6_regionFor_22 (Nat.le_of_ble_eq_true rfl) (Nat.le_of_ble_eq_true rfl) ⟨_, rfl, by rw [rgnC, h4, if_neg (of_decide_eq_false h4)]; rfl, rfl⟩
  · refine z_aload_n (i := 0) C dX6_regionFor_7 rfl rfl ?_
    refine z_aload_n (i := 1) C dX6_regionFor_8 rfl rfl ?_
    refine z_getf C f_RX6_164 dX6_regionFor_9 (dC.2.1 _ hc) rfl ?_
    rw [za]
    refine z_callV C Y_X6_regionNow V_X6_regionNow ml_RX6_90 (c_X6_regionNow l hD hI hia) dX6_regionFor_12 rfl rfl d0 ⟨_, _, rfl⟩ (fun _ => Nat.le_of_ble_eq_true rfl) ⟨Nat.le_of_ble_eq_true rfl, Nat.le_of_ble_eq_true rfl⟩ ⟨Nat.le_of_ble_eq_true rfl, Nat.le_of_ble_eq_true rfl⟩ (z_ri (fun x σ1 hx => ?_)) (z_nx)
    obtain ⟨rfl, rfl⟩ := hx
    refine z_goto (tgt := 22) C dX6_regionFor_15 (by decide) ?_
    exact z_iret C hr rfl dX6_regionFor_22 (Nat.le_of_ble_eq_true rfl) (Nat.le_of_ble_eq_true rfl) ⟨_, rfl, by rw [rgnC, h4, za]; rfl, rfl⟩

set_option maxRecDepth 100000 in
set_option maxHeartbeats 4000000 in
theorem c_X6_worthNow {X : zX} (l : Launch) {x : Nat → Int32} {a : Nat → Nat → Int32} {σ : zHp} (hD : DE x a σ) (hI : zInv x a) {c : Nat} (hc : c < zN (x 15)) : zM X l yX6_worthNow cX6_worthNow 2 (some .int) 1 0 0 [aR 6 c] σ (zPi (fun r σ1 => r = wrt x a c ∧ σ1 = σ)) zNx := by
  obtain ⟨i0, i1, i6, i11, i15, i23, i24, i29, iA, iS, iC, iQ, iP⟩ := id hI
  have b1 := i1.2
  have b6 := i6.2
  have b11 := i11.2
  have b15 := i15.2
  have b23 := i23.2
  have b24 := i24.2
  have b29 := i29.2
  obtain ⟨d0, dA, dR, dS, dC, dQ⟩ := id hD
  have lA := dA.1
  have lS := dS.1
  have lC := dC.1
  have lQ := dQ.1
  refine zM.of (by decide +kernel) (Nat.le_of_ble_eq_true rfl) (by simp [zcat, Value.category]) ?_
  intro p e s m args below meth c9 loc0 C hr hnm hT
  by_cases hq : cnt x a (nI c) = -1
  · have hσ := hD.chN hc hq
    refine z_aload_n (i := 0) C dX6_worthNow_0 rfl rfl ?_
    refine z_getf C f_RX6_216 dX6_worthNow_1 hσ rfl ?_
    refine z_astore_nN (i := 1) C dX6_worthNow_4 rfl (by decide) ?_
    refine z_aload_nN (i := 1) C dX6_worthNow_5 rfl rfl ?_
    refine z_ifnonnull (o := none) (tgt := 16) C dX6_worthNow_6 (by decide) (fun q h => by cases h) (fun _ => ?_)
    refine z_aload_n (i := 0) C dX6_worthNow_9 rfl rfl ?_
    refine z_getf C f_RX6_288 dX6_worthNow_10 hσ rfl ?_
    refine z_goto (tgt := 30) C dX6_worthNow_13 (by decide) ?_
    exact z_iret C hr rfl dX6_worthNow_30 (Nat.le_of_ble_eq_true rfl) (Nat.le_of_ble_eq_true rfl) ⟨_, rfl, by rw [wrt, if_pos hq], rfl⟩
  · obtain ⟨j, hj, ej⟩ : ∃ j, j < zN (x 23) ∧ cnt x a (nI c) = nI j := by
      rcases cntL_rng a (nI c) (zN (x 23)) with h | h
      · exact absurd h hq
      · exact h
    have hσ := hD.chS hc (by omega) ej
    refine z_aload_n (i := 0) C dX6_worthNow_0 rfl rfl ?_
    refine z_getf C f_RX6_216 dX6_worthNow_1 hσ rfl ?_
    refine z_astore_n (i := 1) C dX6_worthNow_4 rfl (by decide) ?_
    refine z_aload_n (i := 1) C dX6_worthNow_5 rfl rfl ?_
    refine z_ifnonnull (o := some (9, j)) (tgt := 16) C dX6_worthNow_6 (by decide) (fun q _ => ?_) (fun h => by cases h)
    refine z_aload_n (i := 0) C dX6_worthNow_16 rfl rfl ?_
    refine z_getf C f_RX6_288 dX6_worthNow_17 hσ rfl ?_
    refine z_bipush (v := 100) C dX6_worthNow_20 (by decide) ?_
    refine z_aload_n (i := 1) C dX6_worthNow_22 rfl rfl ?_
    refine z_getf C f_RX6_285 dX6_worthNow_23 (dQ.2.1 _ hj) rfl ?_
    refine z_isub C dX6_worthNow_26 ?_
    refine z_callS C Y_X6_hundredths sm_yX6_hundredths ml_RX6_291 (c_X6_hundredths l) dX6_worthNow_27 rfl rfl (fun _ => Nat.le_of_ble_eq_true rfl) ⟨Nat.le_of_ble_eq_true rfl, Nat.le_of_ble_eq_true rfl⟩ ⟨Nat.le_of_ble_eq_true rfl, Nat.le_of_ble_eq_true rfl⟩ (z_ri (fun x σ1 hx => ?_)) (z_nx)
    obtain ⟨rfl, rfl⟩ := hx
    exact z_iret C hr rfl dX6_worthNow_30 (Nat.le_of_ble_eq_true rfl) (Nat.le_of_ble_eq_true rfl) ⟨_, rfl, by rw [wrt, if_neg hq, ej, zN_nI (by omega)], rfl⟩

set_option maxRecDepth 100000 in
set_option maxHeartbeats 4000000 in
theorem c_X6_canApprove {X : zX} (l : Launch) {x : Nat → Int32} {a : Nat → Nat → Int32} {σ : zHp} (hD : DE x a σ) (hI : zInv x a) {q t : Nat} (hq : q < zN (x 23)) (ht : t < zN (x 11)) : zM X l yX6_canApprove cX6_canApprove 2 (some .boolean) 1 0 0 [aR 9 q, aR 5 t] σ (zPi (fun r σ1 => r = zb (abvB a (nI t) (zN (a 26 q)) && decide (a 27 q ≤ a 13 t)) ∧ σ1 = σ)) zNx := by
  obtain ⟨i0, i1, i6, i11, i15, i23, i24, i29, iA, iS, iC, iQ, iP⟩ := id hI
  have b1 := i1.2
  have b6 := i6.2
  have b11 := i11.2
  have b15 := i15.2
  have b23 := i23.2
  have b24 := i24.2
  have b29 := i29.2
  obtain ⟨d0, dA, dR, dS, dC, dQ⟩ := id hD
  have lA := dA.1
  have lS := dS.1
  have lC := dC.1
  have lQ := dQ.1
  obtain ⟨-, ⟨ik, hik, ek⟩, -⟩ := iQ q hq
  have zk : zN (a 26 q) = ik := by rw [ek, zN_nI (by omega)]
  have hv : a 12 ik = -1 ∨ ∃ j, j < ik + 1 ∧ j < zN (x 11) ∧ a 12 ik = nI j := by
    rcases iS ik hik with h | ⟨j2, hj2, h⟩
    · exact Or.inl h
    · exact Or.inr ⟨j2, by omega, by omega, h⟩
  refine zM.of (by decide +kernel) (Nat.le_of_ble_eq_true rfl) (by simp [zcat, Value.category]) ?_
  intro p e s m args below meth c loc0 C hr hnm hT
  refine z_aload_n (i := 0) C dX6_canApprove_0 rfl rfl ?_
  refine z_getf C f_RX6_275 dX6_canApprove_1 (dQ.2.1 _ hq) rfl ?_
  rw [zk]
  refine z_getf C f_RX6_279 dX6_canApprove_4 (dS.2.1 _ hik) rfl ?_
  refine z_aload_n (i := 1) C dX6_canApprove_7 rfl rfl ?_
  refine z_callS C Y_X6_isInTeam sm_yX6_isInTeam ml_RX6_281 (c_X6_isInTeam l hD hI (F := ik + 1) (t := t) (v := a 12 ik) hv (by omega)) dX6_canApprove_8 rfl rfl (fun _ => Nat.le_of_ble_eq_true rfl) ⟨Nat.le_of_ble_eq_true rfl, Nat.le_of_ble_eq_true rfl⟩ ⟨Nat.le_of_ble_eq_true rfl, Nat.le_of_ble_eq_true rfl⟩ (z_ri (fun x σ1 hx => ?_)) (z_nx)
  obtain ⟨rfl, rfl⟩ := hx
  refine z_if_eqB (tgt := 29) C dX6_canApprove_11 (by decide) (fun h11 => ?_) (fun h11 => ?_)
  · refine z_iconst (v := 0) C dX6_canApprove_29 (by decide) ?_
    exact z_iret C hr rfl dX6_canApprove_30 (Nat.le_of_ble_eq_true rfl) (Nat.le_of_ble_eq_true rfl) ⟨_, rfl, zbf (by simp only [abvB, h11, Bool.false_and]), rfl⟩
  · refine z_aload_n (i := 0) C dX6_canApprove_14 rfl rfl ?_
    refine z_getf C f_RX6_285 dX6_canApprove_15 (dQ.2.1 _ hq) rfl ?_
    refine z_aload_n (i := 1) C dX6_canApprove_18 rfl rfl ?_
    refine z_getf C f_RX6_190 dX6_canApprove_19 (dS.2.1 _ ht) rfl ?_
    refine z_icmp_gt (tgt := 29) C dX6_canApprove_22 (by decide) (fun h22 => ?_) (fun h22 => ?_)
    · refine z_iconst (v := 0) C dX6_canApprove_29 (by decide) ?_
      exact z_iret C hr rfl dX6_canApprove_30 (Nat.le_of_ble_eq_true rfl) (Nat.le_of_ble_eq_true rfl) ⟨_, rfl, zbf (by simp only [abvB, h11, decide_eq_false (Int32.not_le.mpr h22), Bool.and_false]), rfl⟩
    · refine z_iconst (v := 1) C dX6_canApprove_25 (by decide) ?_
      refine z_goto (tgt := 30) C dX6_canApprove_26 (by decide) ?_
      exact z_iret C hr rfl dX6_canApprove_30 (Nat.le_of_ble_eq_true rfl) (Nat.le_of_ble_eq_true rfl) ⟨_, rfl, zbt (by simp only [abvB, h11, decide_eq_true (Int32.not_lt.mp h22), Bool.and_true]), rfl⟩

set_option maxRecDepth 100000 in
set_option maxHeartbeats 4000000 in
theorem c_X6_letCount {X : zX} (l : Launch) {σ : zHp} {q c : Nat} {f0 f2 f3 f4 g0 g1 g2 g3 g4 g5 g6 g7 : zV} (h9 : σ 9 q = some (oC 6 [f0, aR 6 c, f2, f3, f4])) (h6 : σ 6 c = some (oC 4 [g0, g1, g2, g3, g4, g5, g6, g7])) : zM X l yX6_letCount cX6_letCount 1 none 0 0 0 [aR 9 q] σ (zPv (fun σ1 => σ1 = zput (zput σ 9 q (oC 6 [f0, aR 6 c, f2, f3, aI 1])) 6 c (oC 4 [g0, g1, g2, g3, g4, g5, g6, aR 9 q]))) zNx := by
  refine zM.of (by decide +kernel) (Nat.le_of_ble_eq_true rfl) (by simp [zcat, Value.category]) ?_
  intro p e s m args below meth c9 loc0 C hr hnm hT
  refine z_aload_n (i := 0) C dX6_letCount_0 rfl rfl ?_
  refine z_iconst (v := 1) C dX6_letCount_1 (by decide) ?_
  refine z_putf C fp_RX6_206 dX6_letCount_2 h9 (by decide) (Nat.le_of_ble_eq_true rfl) (fun _ => ⟨rfl, rfl⟩) ?_
  refine z_aload_n (i := 0) C dX6_letCount_5 rfl rfl ?_
  refine z_getf C f_RX6_202 dX6_letCount_6 (zput_s _ _ _ _) rfl ?_
  refine z_aload_n (i := 0) C dX6_letCount_9 rfl rfl ?_
  refine z_putf C fp_RX6_216 dX6_letCount_10 (by rw [zput_n (by omega)]; exact h6) (by decide) (Nat.le_of_ble_eq_true rfl) (fun _ => ⟨rfl, rfl⟩) ?_
  exact z_vret C hr dX6_letCount_13 (Nat.le_of_ble_eq_true rfl) (Nat.le_of_ble_eq_true rfl) ⟨rfl, rfl⟩

