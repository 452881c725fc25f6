/-! the desk: what is looked up -/
theorem zcat_aO (o : Option zK) : zcat (aO o) := by cases o <;> simp [aO, zcat, Value.category]
theorem zLs.ob' {σ : zHp} {j n : Nat} {el : Nat → zK} (h : zLs σ j n el) : ∃ fs, σ 1 j = some (oC 2 fs) := by
  obtain ⟨mc, q, cap, f, h1, -⟩ := h
  exact ⟨_, h1⟩
theorem zLs.ob {σ : zHp} {j n : Nat} {el : Nat → zK} (h : zLs σ j n el) : σ 1 j = some (oC 2 (Classical.choose h.ob')) := Classical.choose_spec h.ob'
theorem inB_no {v m : Int32} {b : Nat} (hm : zCnt m b) (hb : b ≤ 1000) (h : ¬ v < m) : inB v 0 (m - 1) = false := by
  cases e : inB v 0 (m - 1) with
  | false => rfl
  | true =>
    obtain ⟨i, hi, rfl⟩ := inB_ix hm hb e
    refine absurd ?_ h
    rw [hm.1]
    exact nI_lt hi (by have := hm.2; omega)
theorem inB_yes {v m : Int32} {b : Nat} (hm : zCnt m b) (hb : b ≤ 1000) (h0 : ¬ v < 0) (h : v < m) : ∃ i, i < zN m ∧ v = nI i := by
  obtain ⟨i, hi, rfl⟩ := nI_of h0
  refine ⟨i, ?_, rfl⟩
  rw [hm.1] at h
  exact (nI_ltI hi (by have := hm.2; omega)).mp h
theorem DE.chN {x : Nat → Int32} {a : Nat → Nat → Int32} {σ : zHp} (hD : DE x a σ) {c : Nat} (hc : c < zN (x 15)) (h : cnt x a (nI c) = -1) : σ 6 c = some (oC 4 [aR 3 (zN (a 16 c)), aI (a 17 c), aR 30 c, aR 31 c, aI (a 18 c), aI (a 19 c), aI (if a 18 c < 4 then -1 else a 20 c), aN]) := by
  obtain ⟨d0, dA, dR, dS, dC, dQ⟩ := hD
  rw [dC.2.1 c hc]
  unfold chF
  rw [oR_n h]
  rfl
theorem DE.chS {x : Nat → Int32} {a : Nat → Nat → Int32} {σ : zHp} (hD : DE x a σ) {c q : Nat} (hc : c < zN (x 15)) (hq : q < 1000) (h : cnt x a (nI c) = nI q) : σ 6 c = some (oC 4 [aR 3 (zN (a 16 c)), aI (a 17 c), aR 30 c, aR 31 c, aI (a 18 c), aI (a 19 c), aI (if a 18 c < 4 then -1 else a 20 c), aR 9 q]) := by
  obtain ⟨d0, dA, dR, dS, dC, dQ⟩ := hD
  rw [dC.2.1 c hc]
  unfold chF
  show some (oC 4 [_, _, _, _, _, _, _, aO (oR 9 (cnt x a (nI c)))]) = _
  rw [h, oR_s (by omega)]
  rfl
set_option maxRecDepth 100000 in
set_option maxHeartbeats 4000000 in
theorem c_X6_accountAt {X : zX} (l : Launch) {x : Nat → Int32} {a : Nat → Nat → Int32} {σ : zHp} (hD : DE x a σ) (hI : zInv x a) {v : Int32} : zM X l yX6_accountAt cX6_accountAt 2 (some (.object "SalesDesk$Account")) 6 1 6 [aR 0 0, aI v] σ (zPr (fun r σ1 => isAcc x v = true ∧ r = (3, zN v) ∧ σ1 = σ)) (zXp eIO (isAcc x v) σ) := by
  obtain ⟨i0, i1, i6, i11, i15, i23, i24, i29, iA, iS, iC, iQ, iP⟩ := id hI
  have b1 := i1.2
  have b6 := i6.2
  have b11 := i11.2
  have b15 := i15.2
  have b23 := i23.2
  have b24 := i24.2
  have b29 := i29.2
  obtain ⟨d0, dA, dR, dS, dC, dQ⟩ := id hD
  have lA := dA.1
  have lS := dS.1
  have lC := dC.1
  have lQ := dQ.1
  refine zM.of (by decide +kernel) (Nat.le_of_ble_eq_true rfl) (by simp [zcat, Value.category]) ?_
  intro p e s m args below meth c loc0 C hr hnm hT
  refine z_iload_n (i := 1) C dX6_accountAt_0 rfl rfl ?_
  refine z_if_lt (tgt := 15) C dX6_accountAt_1 (by decide) (fun h1 => ?_) (fun h1 => ?_)
  · exact z_throwS (text := "there is no such account") C hT th_IOE rfl (by decide +kernel) dX6_accountAt_15 dX6_accountAt_18 dX6_accountAt_19 dX6_accountAt_21 dX6_accountAt_24 ⟨Nat.le_of_ble_eq_true rfl, Nat.le_of_ble_eq_true rfl⟩ ⟨Nat.le_of_ble_eq_true rfl, Nat.le_of_ble_eq_true rfl⟩ (Nat.le_of_ble_eq_true rfl) (Nat.le_of_ble_eq_true rfl) ⟨rfl, inB_f (Or.inl h1), rfl⟩
  · refine z_iload_n (i := 1) C dX6_accountAt_4 rfl rfl ?_
    refine z_aload_n (i := 0) C dX6_accountAt_5 rfl rfl ?_
    refine z_getf C f_RX6_10 dX6_accountAt_6 d0 rfl ?_
    refine z_callV C Y_Jx4a65c_size_8abf5 V_Jx4a65c_size_8abf5 ml_RX6_51 (c_Jx4a65c_size_8abf5 l lA) dX6_accountAt_9 rfl rfl (zLs.ob lA) ⟨_, _, rfl⟩ (fun _ => Nat.le_of_ble_eq_true rfl) ⟨Nat.le_of_ble_eq_true rfl, Nat.le_of_ble_eq_true rfl⟩ ⟨Nat.le_of_ble_eq_true rfl, Nat.le_of_ble_eq_true rfl⟩ (z_ri (fun x σ1 hx => ?_)) (z_nx)
    obtain ⟨rfl, rfl⟩ := hx
    refine z_icmp_lt (tgt := 25) C dX6_accountAt_12 (by decide) (fun h12 => ?_) (fun h12 => ?_)
    · rw [← i1.1] at h12
      obtain ⟨i, hi, rfl⟩ := inB_yes i1 (by decide) h1 h12
      refine z_aload_n (i := 0) C dX6_accountAt_25 rfl rfl ?_
      refine z_getf C f_RX6_10 dX6_accountAt_26 d0 rfl ?_
      refine z_iload_n (i := 1) C dX6_accountAt_29 rfl rfl ?_
      refine z_callV C Y_Jx4a65c_get_915e3 V_Jx4a65c_get_915e3 ml_RX6_171 (c_Jx4a65c_get_915e3 l lA (i := i) (by first | assumption | omega) (by omega)) dX6_accountAt_30 rfl rfl (zLs.ob lA) ⟨_, _, rfl⟩ (fun _ => Nat.le_of_ble_eq_true rfl) ⟨Nat.le_of_ble_eq_true rfl, Nat.le_of_ble_eq_true rfl⟩ ⟨Nat.le_of_ble_eq_true rfl, Nat.le_of_ble_eq_true rfl⟩ (z_rr (fun r9 σ1 hx => ?_)) (z_nx)
      obtain ⟨rfl, rfl⟩ := hx
      refine z_castR C dX6_accountAt_33 (dA.2.1 _ (by first | assumption | omega)) ⟨_, _, _, rfl, kl_RX6_59⟩ ?_
      exact z_aret C hr (Or.inl ⟨_, rfl⟩) ⟨some _, rfl⟩ dX6_accountAt_36 (Nat.le_of_ble_eq_true rfl) (Nat.le_of_ble_eq_true rfl) ⟨_, rfl, inB_nI i1 (by decide) hi, by rw [zN_nI (by omega)], rfl⟩
    · rw [← i1.1] at h12
      exact z_throwS (text := "there is no such account") C hT th_IOE rfl (by decide +kernel) dX6_accountAt_15 dX6_accountAt_18 dX6_accountAt_19 dX6_accountAt_21 dX6_accountAt_24 ⟨Nat.le_of_ble_eq_true rfl, Nat.le_of_ble_eq_true rfl⟩ ⟨Nat.le_of_ble_eq_true rfl, Nat.le_of_ble_eq_true rfl⟩ (Nat.le_of_ble_eq_true rfl) (Nat.le_of_ble_eq_true rfl) ⟨rfl, inB_no i1 (by decide) h12, rfl⟩

set_option maxRecDepth 100000 in
set_option maxHeartbeats 4000000 in
theorem c_X6_sellerAt {X : zX} (l : Launch) {x : Nat → Int32} {a : Nat → Nat → Int32} {σ : zHp} (hD : DE x a σ) (hI : zInv x a) {v : Int32} : zM X l yX6_sellerAt cX6_sellerAt 2 (some (.object "SalesDesk$Seller")) 6 1 6 [aR 0 0, aI v] σ (zPr (fun r σ1 => isSel x v = true ∧ r = (5, zN v) ∧ σ1 = σ)) (zXp eIO (isSel x v) σ) := by
  obtain ⟨i0, i1, i6, i11, i15, i23, i24, i29, iA, iS, iC, iQ, iP⟩ := id hI
  have b1 := i1.2
  have b6 := i6.2
  have b11 := i11.2
  have b15 := i15.2
  have b23 := i23.2
  have b24 := i24.2
  have b29 := i29.2
  obtain ⟨d0, dA, dR, dS, dC, dQ⟩ := id hD
  have lA := dA.1
  have lS := dS.1
  have lC := dC.1
  have lQ := dQ.1
  refine zM.of (by decide +kernel) (Nat.le_of_ble_eq_true rfl) (by simp [zcat, Value.category]) ?_
  intro p e s m args below meth c loc0 C hr hnm hT
  refine z_iload_n (i := 1) C dX6_sellerAt_0 rfl rfl ?_
  refine z_if_lt (tgt := 15) C dX6_sellerAt_1 (by decide) (fun h1 => ?_) (fun h1 => ?_)
  · exact z_throwS (text := "there is no such seller") C hT th_IOE rfl (by decide +kernel) dX6_sellerAt_15 dX6_sellerAt_18 dX6_sellerAt_19 dX6_sellerAt_21 dX6_sellerAt_24 ⟨Nat.le_of_ble_eq_true rfl, Nat.le_of_ble_eq_true rfl⟩ ⟨Nat.le_of_ble_eq_true rfl, Nat.le_of_ble_eq_true rfl⟩ (Nat.le_of_ble_eq_true rfl) (Nat.le_of_ble_eq_true rfl) ⟨rfl, inB_f (Or.inl h1), rfl⟩
  · refine z_iload_n (i := 1) C dX6_sellerAt_4 rfl rfl ?_
    refine z_aload_n (i := 0) C dX6_sellerAt_5 rfl rfl ?_
    refine z_getf C f_RX6_19 dX6_sellerAt_6 d0 rfl ?_
    refine z_callV C Y_Jx4a65c_size_8abf5 V_Jx4a65c_size_8abf5 ml_RX6_51 (c_Jx4a65c_size_8abf5 l lS) dX6_sellerAt_9 rfl rfl (zLs.ob lS) ⟨_, _, rfl⟩ (fun _ => Nat.le_of_ble_eq_true rfl) ⟨Nat.le_of_ble_eq_true rfl, Nat.le_of_ble_eq_true rfl⟩ ⟨Nat.le_of_ble_eq_true rfl, Nat.le_of_ble_eq_true rfl⟩ (z_ri (fun x σ1 hx => ?_)) (z_nx)
    obtain ⟨rfl, rfl⟩ := hx
    refine z_icmp_lt (tgt := 25) C dX6_sellerAt_12 (by decide) (fun h12 => ?_) (fun h12 => ?_)
    · rw [← i11.1] at h12
      obtain ⟨i, hi, rfl⟩ := inB_yes i11 (by decide) h1 h12
      refine z_aload_n (i := 0) C dX6_sellerAt_25 rfl rfl ?_
      refine z_getf C f_RX6_19 dX6_sellerAt_26 d0 rfl ?_
      refine z_iload_n (i := 1) C dX6_sellerAt_29 rfl rfl ?_
      refine z_callV C Y_Jx4a65c_get_915e3 V_Jx4a65c_get_915e3 ml_RX6_171 (c_Jx4a65c_get_915e3 l lS (i := i) (by first | assumption | omega) (by omega)) dX6_sellerAt_30 rfl rfl (zLs.ob lS) ⟨_, _, rfl⟩ (fun _ => Nat.le_of_ble_eq_true rfl) ⟨Nat.le_of_ble_eq_true rfl, Nat.le_of_ble_eq_true rfl⟩ ⟨Nat.le_of_ble_eq_true rfl, Nat.le_of_ble_eq_true rfl⟩ (z_rr (fun r9 σ1 hx => ?_)) (z_nx)
      obtain ⟨rfl, rfl⟩ := hx
      refine z_castR C dX6_sellerAt_33 (dS.2.1 _ (by first | assumption | omega)) ⟨_, _, _, rfl, kl_RX6_98⟩ ?_
      exact z_aret C hr (Or.inl ⟨_, rfl⟩) ⟨some _, rfl⟩ dX6_sellerAt_36 (Nat.le_of_ble_eq_true rfl) (Nat.le_of_ble_eq_true rfl) ⟨_, rfl, inB_nI i11 (by decide) hi, by rw [zN_nI (by omega)], rfl⟩
    · rw [← i11.1] at h12
      exact z_throwS (text := "there is no such seller") C hT th_IOE rfl (by decide +kernel) dX6_sellerAt_15 dX6_sellerAt_18 dX6_sellerAt_19 dX6_sellerAt_21 dX6_sellerAt_24 ⟨Nat.le_of_ble_eq_true rfl, Nat.le_of_ble_eq_true rfl⟩ ⟨Nat.le_of_ble_eq_true rfl, Nat.le_of_ble_eq_true rfl⟩ (Nat.le_of_ble_eq_true rfl) (Nat.le_of_ble_eq_true rfl) ⟨rfl, inB_no i11 (by decide) h12, rfl⟩

set_option maxRecDepth 100000 in
set_option maxHeartbeats 4000000 in
theorem c_X6_chanceAt {X : zX} (l : Launch) {x : Nat → Int32} {a : Nat → Nat → Int32} {σ : zHp} (hD : DE x a σ) (hI : zInv x a) {v : Int32} : zM X l yX6_chanceAt cX6_chanceAt 2 (some (.object "SalesDesk$Chance")) 6 1 6 [aR 0 0, aI v] σ (zPr (fun r σ1 => isCha x v = true ∧ r = (6, zN v) ∧ σ1 = σ)) (zXp eIO (isCha x v) σ) := by
  obtain ⟨i0, i1, i6, i11, i15, i23, i24, i29, iA, iS, iC, iQ, iP⟩ := id hI
  have b1 := i1.2
  have b6 := i6.2
  have b11 := i11.2
  have b15 := i15.2
  have b23 := i23.2
  have b24 := i24.2
  have b29 := i29.2
  obtain ⟨d0, dA, dR, dS, dC, dQ⟩ := id hD
  have lA := dA.1
  have lS := dS.1
  have lC := dC.1
  have lQ := dQ.1
  refine zM.of (by decide +kernel) (Nat.le_of_ble_eq_true rfl) (by simp [zcat, Value.category]) ?_
  intro p e s m args below meth c loc0 C hr hnm hT
  refine z_iload_n (i := 1) C dX6_chanceAt_0 rfl rfl ?_
  refine z_if_lt (tgt := 15) C dX6_chanceAt_1 (by decide) (fun h1 => ?_) (fun h1 => ?_)
  · exact z_throwS (text := "there is no such chance") C hT th_IOE rfl (by decide +kernel) dX6_chanceAt_15 dX6_chanceAt_18 dX6_chanceAt_19 dX6_chanceAt_21 dX6_chanceAt_24 ⟨Nat.le_of_ble_eq_true rfl, Nat.le_of_ble_eq_true rfl⟩ ⟨Nat.le_of_ble_eq_true rfl, Nat.le_of_ble_eq_true rfl⟩ (Nat.le_of_ble_eq_true rfl) (Nat.le_of_ble_eq_true rfl) ⟨rfl, inB_f (Or.inl h1), rfl⟩
  · refine z_iload_n (i := 1) C dX6_chanceAt_4 rfl rfl ?_
    refine z_aload_n (i := 0) C dX6_chanceAt_5 rfl rfl ?_
    refine z_getf C f_RX6_22 dX6_chanceAt_6 d0 rfl ?_
    refine z_callV C Y_Jx4a65c_size_8abf5 V_Jx4a65c_size_8abf5 ml_RX6_51 (c_Jx4a65c_size_8abf5 l lC) dX6_chanceAt_9 rfl rfl (zLs.ob lC) ⟨_, _, rfl⟩ (fun _ => Nat.le_of_ble_eq_true rfl) ⟨Nat.le_of_ble_eq_true rfl, Nat.le_of_ble_eq_true rfl⟩ ⟨Nat.le_of_ble_eq_true rfl, Nat.le_of_ble_eq_true rfl⟩ (z_ri (fun x σ1 hx => ?_)) (z_nx)
    obtain ⟨rfl, rfl⟩ := hx
    refine z_icmp_lt (tgt := 25) C dX6_chanceAt_12 (by decide) (fun h12 => ?_) (fun h12 => ?_)
    · rw [← i15.1] at h12
      obtain ⟨i, hi, rfl⟩ := inB_yes i15 (by decide) h1 h12
      refine z_aload_n (i := 0) C dX6_chanceAt_25 rfl rfl ?_
      refine z_getf C f_RX6_22 dX6_chanceAt_26 d0 rfl ?_
      refine z_iload_n (i := 1) C dX6_chanceAt_29 rfl rfl ?_
      refine z_callV C Y_Jx4a65c_get_915e3 V_Jx4a65c_get_915e3 ml_RX6_171 (c_Jx4a65c_get_915e3 l lC (i := i) (by first | assumption | omega) (by omega)) dX6_chanceAt_30 rfl rfl (zLs.ob lC) ⟨_, _, rfl⟩ (fun _ => Nat.le_of_ble_eq_true rfl) ⟨Nat.le_of_ble_eq_true rfl, Nat.le_of_ble_eq_true rfl⟩ ⟨Nat.le_of_ble_eq_true rfl, Nat.le_of_ble_eq_true rfl⟩ (z_rr (fun r9 σ1 hx => ?_)) (z_nx)
      obtain ⟨rfl, rfl⟩ := hx
      refine z_castR C dX6_chanceAt_33 (dC.2.1 _ (by first | assumption | omega)) ⟨_, _, _, rfl, kl_RX6_108⟩ ?_
      exact z_aret C hr (Or.inl ⟨_, rfl⟩) ⟨some _, rfl⟩ dX6_chanceAt_36 (Nat.le_of_ble_eq_true rfl) (Nat.le_of_ble_eq_true rfl) ⟨_, rfl, inB_nI i15 (by decide) hi, by rw [zN_nI (by omega)], rfl⟩
    · rw [← i15.1] at h12
      exact z_throwS (text := "there is no such chance") C hT th_IOE rfl (by decide +kernel) dX6_chanceAt_15 dX6_chanceAt_18 dX6_chanceAt_19 dX6_chanceAt_21 dX6_chanceAt_24 ⟨Nat.le_of_ble_eq_true rfl, Nat.le_of_ble_eq_true rfl⟩ ⟨Nat.le_of_ble_eq_true rfl, Nat.le_of_ble_eq_true rfl⟩ (Nat.le_of_ble_eq_true rfl) (Nat.le_of_ble_eq_true rfl) ⟨rfl, inB_no i15 (by decide) h12, rfl⟩

set_option maxRecDepth 100000 in
set_option maxHeartbeats 4000000 in
theorem c_X6_quoteAt {X : zX} (l : Launch) {x : Nat → Int32} {a : Nat → Nat → Int32} {σ : zHp} (hD : DE x a σ) (hI : zInv x a) {v : Int32} : zM X l yX6_quoteAt cX6_quoteAt 2 (some (.object "SalesDesk$Quote")) 6 1 6 [aR 0 0, aI v] σ (zPr (fun r σ1 => inB v 0 (x 23 - 1) = true ∧ r = (9, zN v) ∧ σ1 = σ)) (zXp eIO (inB v 0 (x 23 - 1)) σ) := by
  obtain ⟨i0, i1, i6, i11, i15, i23, i24, i29, iA, iS, iC, iQ, iP⟩ := id hI
  have b1 := i1.2
  have b6 := i6.2
  have b11 := i11.2
  have b15 := i15.2
  have b23 := i23.2
  have b24 := i24.2
  have b29 := i29.2
  obtain ⟨d0, dA, dR, dS, dC, dQ⟩ := id hD
  have lA := dA.1
  have lS := dS.1
  have lC := dC.1
  have lQ := dQ.1
  refine zM.of (by decide +kernel) (Nat.le_of_ble_eq_true rfl) (by simp [zcat, Value.category]) ?_
  intro p e s m args below meth c loc0 C hr hnm hT
  refine z_iload_n (i := 1) C dX6_quoteAt_0 rfl rfl ?_
  refine z_if_lt (tgt := 15) C dX6_quoteAt_1 (by decide) (fun h1 => ?_) (fun h1 => ?_)
  · exact z_throwS (text := "there is no such quote") C hT th_IOE rfl (by decide +kernel) dX6_quoteAt_15 dX6_quoteAt_18 dX6_quoteAt_19 dX6_quoteAt_21 dX6_quoteAt_24 ⟨Nat.le_of_ble_eq_true rfl, Nat.le_of_ble_eq_true rfl⟩ ⟨Nat.le_of_ble_eq_true rfl, Nat.le_of_ble_eq_true rfl⟩ (Nat.le_of_ble_eq_true rfl) (Nat.le_of_ble_eq_true rfl) ⟨rfl, inB_f (Or.inl h1), rfl⟩
  · refine z_iload_n (i := 1) C dX6_quoteAt_4 rfl rfl ?_
    refine z_aload_n (i := 0) C dX6_quoteAt_5 rfl rfl ?_
    refine z_getf C f_RX6_25 dX6_quoteAt_6 d0 rfl ?_
    refine z_callV C Y_Jx4a65c_size_8abf5 V_Jx4a65c_size_8abf5 ml_RX6_51 (c_Jx4a65c_size_8abf5 l lQ) dX6_quoteAt_9 rfl rfl (zLs.ob lQ) ⟨_, _, rfl⟩ (fun _ => Nat.le_of_ble_eq_true rfl) ⟨Nat.le_of_ble_eq_true rfl, Nat.le_of_ble_eq_true rfl⟩ ⟨Nat.le_of_ble_eq_true rfl, Nat.le_of_ble_eq_true rfl⟩ (z_ri (fun x σ1 hx => ?_)) (z_nx)
    obtain ⟨rfl, rfl⟩ := hx
    refine z_icmp_lt (tgt := 25) C dX6_quoteAt_12 (by decide) (fun h12 => ?_) (fun h12 => ?_)
    · rw [← i23.1] at h12
      obtain ⟨i, hi, rfl⟩ := inB_yes i23 (by decide) h1 h12
      refine z_aload_n (i := 0) C dX6_quoteAt_25 rfl rfl ?_
      refine z_getf C f_RX6_25 dX6_quoteAt_26 d0 rfl ?_
      refine z_iload_n (i := 1) C dX6_quoteAt_29 rfl rfl ?_
      refine z_callV C Y_Jx4a65c_get_915e3 V_Jx4a65c_get_915e3 ml_RX6_171 (c_Jx4a65c_get_915e3 l lQ (i := i) (by first | assumption | omega) (by omega)) dX6_quoteAt_30 rfl rfl (zLs.ob lQ) ⟨_, _, rfl⟩ (fun _ => Nat.le_of_ble_eq_true rfl) ⟨Nat.le_of_ble_eq_true rfl, Nat.le_of_ble_eq_true rfl⟩ ⟨Nat.le_of_ble_eq_true rfl, Nat.le_of_ble_eq_true rfl⟩ (z_rr (fun r9 σ1 hx => ?_)) (z_nx)
      obtain ⟨rfl, rfl⟩ := hx
      refine z_castR C dX6_quoteAt_33 (dQ.2.1 _ (by first | assumption | omega)) ⟨_, _, _, rfl, kl_RX6_185⟩ ?_
      exact z_aret C hr (Or.inl ⟨_, rfl⟩) ⟨some _, rfl⟩ dX6_quoteAt_36 (Nat.le_of_ble_eq_true rfl) (Nat.le_of_ble_eq_true rfl) ⟨_, rfl, inB_nI i23 (by decide) hi, by rw [zN_nI (by omega)], rfl⟩
    · rw [← i23.1] at h12
      exact z_throwS (text := "there is no such quote") C hT th_IOE rfl (by decide +kernel) dX6_quoteAt_15 dX6_quoteAt_18 dX6_quoteAt_19 dX6_quoteAt_21 dX6_quoteAt_24 ⟨Nat.le_of_ble_eq_true rfl, Nat.le_of_ble_eq_true rfl⟩ ⟨Nat.le_of_ble_eq_true rfl, Nat.le_of_ble_eq_true rfl⟩ (Nat.le_of_ble_eq_true rfl) (Nat.le_of_ble_eq_true rfl) ⟨rfl, inB_no i23 (by decide) h12, rfl⟩

set_option maxRecDepth 100000 in
set_option maxHeartbeats 4000000 in
theorem c_X6_isInTree {X : zX} (l : Launch) {x : Nat → Int32} {a : Nat → Nat → Int32} {σ : zHp} (hD : DE x a σ) (hI : zInv x a) {i t : Nat} (hi : i < zN (x 1)) (ht : t < 16) : zM X l yX6_isInTree cX6_isInTree 3 (some .boolean) 0 0 0 [aR 3 i, aR 3 t] σ (zPi (fun r σ1 => r = zb (traB a (nI t) i) ∧ σ1 = σ)) zNx := by
  obtain ⟨i0, i1, i6, i11, i15, i23, i24, i29, iA, iS, iC, iQ, iP⟩ := id hI
  have b1 := i1.2
  have b6 := i6.2
  have b11 := i11.2
  have b15 := i15.2
  have b23 := i23.2
  have b24 := i24.2
  have b29 := i29.2
  obtain ⟨d0, dA, dR, dS, dC, dQ⟩ := id hD
  have lA := dA.1
  have lS := dS.1
  have lC := dC.1
  have lQ := dQ.1
  obtain ⟨b, hb⟩ : ∃ b, b = traB a (nI t) i := ⟨_, rfl⟩
  rw [← hb]
  refine zM.of (by decide +kernel) (Nat.le_of_ble_eq_true rfl) (by simp only [List.forall_mem_cons]; exact ⟨by first | exact zcat_aO _ | simp [zcat], by first | exact zcat_aO _ | simp [zcat], fun _ h => by cases h⟩) ?_
  intro p e s m args below meth c loc0 C hr hnm hT
  have lp : ∀ (F : Nat) (v : Int32), (v = -1 ∨ ∃ j, j < F ∧ j < zN (x 1) ∧ v = nI j) → traF a (nI t) F v = b → zG X p l e (zRm 0 0 0) s m args below meth c 3 σ loc0 (zQ X σ loc0 below (zPi (fun r σ1 => r = zb b ∧ σ1 = σ)) zNx args s 0 0) 0 0 σ 2 [(1, aR 3 t), (2, aO (oR 3 v))] [] := by
    intro F
    induction F with
    | zero =>
      intro v hv hr0
      rcases hv with rfl | ⟨j, hj, -⟩
      · rw [oR_n rfl]
        replace hr0 : b = false := hr0.symm
        refine z_aload_nN (i := 2) C dX6_isInTree_2 rfl rfl ?_
        refine z_ifnull (tgt := 21) (o := none) C dX6_isInTree_3 (by decide) (fun _ => ?_) (fun q h => by cases h)
        refine z_iconst (v := 0) C dX6_isInTree_21 (by decide) ?_
        exact z_iret C hr rfl dX6_isInTree_22 (Nat.le_of_ble_eq_true rfl) (Nat.le_of_ble_eq_true rfl) ⟨_, rfl, zbf hr0, rfl⟩
      · omega
    | succ F ih =>
      intro v hv hr0
      rcases hv with rfl | ⟨j, hj, hjn, rfl⟩
      · rw [oR_n rfl]
        replace hr0 : b = false := hr0.symm.trans (if_pos rfl)
        refine z_aload_nN (i := 2) C dX6_isInTree_2 rfl rfl ?_
        refine z_ifnull (tgt := 21) (o := none) C dX6_isInTree_3 (by decide) (fun _ => ?_) (fun q h => by cases h)
        refine z_iconst (v := 0) C dX6_isInTree_21 (by decide) ?_
        exact z_iret C hr rfl dX6_isInTree_22 (Nat.le_of_ble_eq_true rfl) (Nat.le_of_ble_eq_true rfl) ⟨_, rfl, zbf hr0, rfl⟩
      · rw [oR_s (by omega)]
        refine z_sub (L' := [(1, aR 3 t), (2, aR 3 j)]) (zs1 rfl (zs1 rfl zs0)) ?_
        refine z_aload_n (i := 2) C dX6_isInTree_2 rfl rfl ?_
        refine z_ifnull (tgt := 21) (o := some (3, j)) C dX6_isInTree_3 (by decide) (fun h => by cases h) (fun _ _ => ?_)
        refine z_aload_n (i := 2) C dX6_isInTree_6 rfl rfl ?_
        refine z_aload_n (i := 1) C dX6_isInTree_7 rfl rfl ?_
        refine z_acmp_ne (o := some (3, j)) (o' := some (3, t)) (tgt := 13) C dX6_isInTree_8 (by decide) (fun hne => ?_) (fun he => ?_)
        · refine z_aload_n (i := 2) C dX6_isInTree_13 rfl rfl ?_
          refine z_getf C f_RX6_257 dX6_isInTree_14 (dA.2.1 _ hjn) rfl ?_
          refine z_astore_nO (i := 2) C dX6_isInTree_17 rfl (by decide) ?_
          refine z_goto (tgt := 2) C dX6_isInTree_18 (by decide) ?_
          refine z_sub (L' := [(1, aR 3 t), (2, aO (oR 3 (a 2 j)))]) (zs1 rfl (zs1 rfl zs0)) ?_
          refine ih _ ?_ ?_
          · rcases iA j hjn with h | ⟨j2, hj2, h⟩
            · exact Or.inl h
            · exact Or.inr ⟨j2, by omega, by omega, h⟩
          · rw [← hr0, traF, if_neg (nI_nm1 (by omega)), if_neg (fun e => hne (by rw [(nI_eq (by omega) (by omega)).mp e])), zN_nI (by omega)]
        · cases he
          refine z_iconst (v := 1) C dX6_isInTree_11 (by decide) ?_
          exact z_iret C hr rfl dX6_isInTree_12 (Nat.le_of_ble_eq_true rfl) (Nat.le_of_ble_eq_true rfl) ⟨_, rfl, zbt (by rw [← hr0, traF, if_neg (nI_nm1 (by omega)), if_pos rfl]), rfl⟩
  refine z_aload_n (i := 0) C dX6_isInTree_0 rfl rfl ?_
  refine z_astore_n (i := 2) C dX6_isInTree_1 rfl (by decide) ?_
  refine z_sub (L' := [(1, aR 3 t), (2, aO (oR 3 (nI i)))]) (zs1 rfl (zs1 (by rw [oR_s (by omega)]; rfl) zs0)) ?_
  exact lp (i + 1) (nI i) (Or.inr ⟨i, by omega, hi, rfl⟩) hb.symm

set_option maxRecDepth 100000 in
set_option maxHeartbeats 4000000 in
theorem c_X6_isInTeam {X : zX} (l : Launch) {x : Nat → Int32} {a : Nat → Nat → Int32} {σ : zHp} (hD : DE x a σ) (hI : zInv x a) {F t : Nat} {v : Int32} (hv : v = -1 ∨ ∃ j, j < F ∧ j < zN (x 11) ∧ v = nI j) (ht : t < 8) : zM X l yX6_isInTeam cX6_isInTeam 3 (some .boolean) 0 0 0 [aO (oR 5 v), aR 5 t] σ (zPi (fun r σ1 => r = zb (abvF a (nI t) F v) ∧ σ1 = σ)) zNx := by
  obtain ⟨i0, i1, i6, i11, i15, i23, i24, i29, iA, iS, iC, iQ, iP⟩ := id hI
  have b1 := i1.2
  have b6 := i6.2
  have b11 := i11.2
  have b15 := i15.2
  have b23 := i23.2
  have b24 := i24.2
  have b29 := i29.2
  obtain ⟨d0, dA, dR, dS, dC, dQ⟩ := id hD
  have lA := dA.1
  have lS := dS.1
  have lC := dC.1
  have lQ := dQ.1
  obtain ⟨b, hb⟩ : ∃ b, b = abvF a (nI t) F v := ⟨_, rfl⟩
  rw [← hb]
  refine zM.of (by decide +kernel) (Nat.le_of_ble_eq_true rfl) (by simp only [List.forall_mem_cons]; exact ⟨by first | exact zcat_aO _ | simp [zcat], by first | exact zcat_aO _ | simp [zcat], fun _ h => by cases h⟩) ?_
  intro p e s m args below meth c loc0 C hr hnm hT
  have lp : ∀ (F : Nat) (v : Int32), (v = -1 ∨ ∃ j, j < F ∧ j < zN (x 11) ∧ v = nI j) → abvF a (nI t) F v = b → zG X p l e (zRm 0 0 0) s m args below meth c 3 σ loc0 (zQ X σ loc0 below (zPi (fun r σ1 => r = zb b ∧ σ1 = σ)) zNx args s 0 0) 0 0 σ 2 [(1, aR 5 t), (2, aO (oR 5 v))] [] := by
    intro F
    induction F with
    | zero =>
      intro v hv hr0
      rcases hv with rfl | ⟨j, hj, -⟩
      · rw [oR_n rfl]
        replace hr0 : b = false := hr0.symm
        refine z_aload_nN (i := 2) C dX6_isInTeam_2 rfl rfl ?_
        refine z_ifnull (tgt := 21) (o := none) C dX6_isInTeam_3 (by decide) (fun _ => ?_) (fun q h => by cases h)
        refine z_iconst (v := 0) C dX6_isInTeam_21 (by decide) ?_
        exact z_iret C hr rfl dX6_isInTeam_22 (Nat.le_of_ble_eq_true rfl) (Nat.le_of_ble_eq_true rfl) ⟨_, rfl, zbf hr0, rfl⟩
      · omega
    | succ F ih =>
      intro v hv hr0
      rcases hv with rfl | ⟨j, hj, hjn, rfl⟩
      · rw [oR_n rfl]
        replace hr0 : b = false := hr0.symm.trans (if_pos rfl)
        refine z_aload_nN (i := 2) C dX6_isInTeam_2 rfl rfl ?_
        refine z_ifnull (tgt := 21) (o := none) C dX6_isInTeam_3 (by decide) (fun _ => ?_) (fun q h => by cases h)
        refine z_iconst (v := 0) C dX6_isInTeam_21 (by decide) ?_
        exact z_iret C hr rfl dX6_isInTeam_22 (Nat.le_of_ble_eq_true rfl) (Nat.le_of_ble_eq_true rfl) ⟨_, rfl, zbf hr0, rfl⟩
      · rw [oR_s (by omega)]
        refine z_sub (L' := [(1, aR 5 t), (2, aR 5 j)]) (zs1 rfl (zs1 rfl zs0)) ?_
        refine z_aload_n (i := 2) C dX6_isInTeam_2 rfl rfl ?_
        refine z_ifnull (tgt := 21) (o := some (5, j)) C dX6_isInTeam_3 (by decide) (fun h => by cases h) (fun _ _ => ?_)
        refine z_aload_n (i := 2) C dX6_isInTeam_6 rfl rfl ?_
        refine z_aload_n (i := 1) C dX6_isInTeam_7 rfl rfl ?_
        refine z_acmp_ne (o := some (5, j)) (o' := some (5, t)) (tgt := 13) C dX6_isInTeam_8 (by decide) (fun hne => ?_) (fun he => ?_)
        · refine z_aload_n (i := 2) C dX6_isInTeam_13 rfl rfl ?_
          refine z_getf C f_RX6_279 dX6_isInTeam_14 (dS.2.1 _ hjn) rfl ?_
          refine z_astore_nO (i := 2) C dX6_isInTeam_17 rfl (by decide) ?_
          refine z_goto (tgt := 2) C dX6_isInTeam_18 (by decide) ?_
          refine z_sub (L' := [(1, aR 5 t), (2, aO (oR 5 (a 12 j)))]) (zs1 rfl (zs1 rfl zs0)) ?_
          refine ih _ ?_ ?_
          · rcases iS j hjn with h | ⟨j2, hj2, h⟩
            · exact Or.inl h
            · exact Or.inr ⟨j2, by omega, by omega, h⟩
          · rw [← hr0, abvF, if_neg (nI_nm1 (by omega)), if_neg (fun e => hne (by rw [(nI_eq (by omega) (by omega)).mp e])), zN_nI (by omega)]
        · cases he
          refine z_iconst (v := 1) C dX6_isInTeam_11 (by decide) ?_
          exact z_iret C hr rfl dX6_isInTeam_12 (Nat.le_of_ble_eq_true rfl) (Nat.le_of_ble_eq_true rfl) ⟨_, rfl, zbt (by rw [← hr0, abvF, if_neg (nI_nm1 (by omega)), if_pos rfl]), rfl⟩
  refine z_aload_nO (i := 0) C dX6_isInTeam_0 rfl rfl ?_
  refine z_astore_nO (i := 2) C dX6_isInTeam_1 rfl (by decide) ?_
  refine z_sub (L' := [(1, aR 5 t), (2, aO (oR 5 v))]) (zs1 rfl (zs1 rfl zs0)) ?_
  exact lp F v hv hb.symm

