/-! the desk: what is added -/
theorem DA.add {n : Nat} {b2 b3 b4 b5 : Nat → Int32} {u v w : Int32} {σ σ1 : zHp} (h : DA n b2 b3 b4 b5 σ) (hL : zLs σ1 0 (n + 1) (va_up (fun i => (3, i)) n (3, n))) (hc : σ1 3 n = some (oC 3 [aO (oR 3 u), aI v, aI w, aI (-1)])) (hg : ∀ i, i ≠ n → σ1 3 i = σ 3 i) : DA (n + 1) (upd b2 n u) (upd b3 n v) (upd b4 n w) (upd b5 n (-1)) σ1 := by
  refine ⟨by rw [← va_up_id]; exact hL, fun j hj => ?_, fun j hj => by rw [hg j (by omega)]; exact h.2.2 j (by omega)⟩
  by_cases e : j = n
  · subst e; rw [hc, upd_at, upd_at, upd_at, upd_at]
  · rw [hg j e, h.2.1 j (by omega), upd_ne e, upd_ne e, upd_ne e, upd_ne e]
theorem DS.add {n : Nat} {b12 b13 b14 : Nat → Int32} {u v : Int32} {σ σ1 : zHp} (h : DS n b12 b13 b14 σ) (hL : zLs σ1 2 (n + 1) (va_up (fun i => (5, i)) n (5, n))) (h14 : b14 n = 0) (hc : σ1 5 n = some (oC 8 [aI (nI n), aO (oR 5 u), aI v, aI 0])) (hg : ∀ i, i ≠ n → σ1 5 i = σ 5 i) : DS (n + 1) (upd b12 n u) (upd b13 n v) b14 σ1 := by
  refine ⟨by rw [← va_up_id]; exact hL, fun j hj => ?_, fun j hj => by rw [hg j (by omega)]; exact h.2.2 j (by omega)⟩
  by_cases e : j = n
  · subst e; rw [hc, upd_at, upd_at, h14]
  · rw [hg j e, h.2.1 j (by omega), upd_ne e, upd_ne e]
theorem DQ.add {n : Nat} {b25 b26 b27 b28 : Nat → Int32} {u v w : Int32} {σ σ1 : zHp} (h : DQ n b25 b26 b27 b28 σ) (hL : zLs σ1 4 (n + 1) (va_up (fun i => (9, i)) n (9, n))) (h28 : b28 n = 0) (hc : σ1 9 n = some (oC 6 [aI (nI n), aR 6 (zN u), aR 5 (zN v), aI w, aI 0])) (hg : ∀ i, i ≠ n → σ1 9 i = σ 9 i) : DQ (n + 1) (upd b25 n u) (upd b26 n v) (upd b27 n w) b28 σ1 := by
  refine ⟨by rw [← va_up_id]; exact hL, fun j hj => ?_, fun j hj => by rw [hg j (by omega)]; exact h.2.2 j (by omega)⟩
  by_cases e : j = n
  · subst e; rw [hc, upd_at, upd_at, upd_at, h28]; rfl
  · rw [hg j e, h.2.1 j (by omega), upd_ne e, upd_ne e, upd_ne e]
theorem DC.add {n j : Nat} {b16 b17 b18 b19 b20 b21 b22 ct ct' : Nat → Int32} {u v w : Int32} {σ σ1 : zHp} (h : DC n b16 b17 b18 b19 b20 b21 b22 ct σ) (hL : zLs σ1 3 (n + 1) (va_up (fun i => (6, i)) n (6, n))) (h18 : b18 n = 0) (h21 : ∀ t, 8 * n ≤ t → b21 t = 0) (h22 : ∀ t, 6 * n ≤ t → b22 t = 0) (hct : ct' n = -1) (hcc : ∀ c, c < n → ct' c = ct c) (hj : j < 8)
    (hc : σ1 6 n = some (oC 4 [aR 3 (zN u), aI v, aR 30 n, aR 31 n, aI 0, aI w, aI (-1), aN])) (hs : σ1 30 n = some (iC 8 (upd (fun _ => 0) j (0 + 100)))) (hd : σ1 31 n = some (iC 6 (fun _ => 0))) (hg : ∀ k i, (k = 6 ∨ k = 30 ∨ k = 31) → i ≠ n → σ1 k i = σ k i) : DC (n + 1) (upd b16 n u) (upd b17 n v) b18 (upd b19 n w) b20 (upd b21 (8 * n + j) 100) b22 ct' σ1 := by
  obtain ⟨h1, h2, h3, h4, h5⟩ := h
  refine ⟨by rw [← va_up_id]; exact hL, fun i hi => ?_, fun i hi => ?_, fun i hi => ?_, fun i hi => ?_⟩
  · by_cases e : i = n
    · subst e
      rw [hc]
      unfold chF
      rw [upd_at, upd_at, upd_at, h18, hct, oR_n rfl, if_pos (by decide)]
      rfl
    · rw [hg 6 i (by omega) e, h2 i (by omega)]
      unfold chF
      rw [upd_ne e, upd_ne e, upd_ne e, hcc i (by omega)]
  · by_cases e : i = n
    · subst e
      refine ⟨_, hs, fun s hs8 => ?_⟩
      by_cases e2 : s = j
      · subst e2; rw [upd_at, upd_at]; rfl
      · rw [upd_ne e2, upd_ne (by omega), h21 _ (by omega)]
    · rw [hg 30 i (by omega) e]
      obtain ⟨f, g1, g2⟩ := h3 i (by omega)
      exact ⟨f, g1, fun s hs8 => by rw [g2 s hs8, upd_ne (by omega)]⟩
  · by_cases e : i = n
    · subst e
      exact ⟨_, hd, fun t ht => (h22 _ (by omega)).symm⟩
    · rw [hg 31 i (by omega) e]
      exact h4 i (by omega)
  · rw [hg 6 i (by omega) (by omega), hg 30 i (by omega) (by omega), hg 31 i (by omega) (by omega)]
    exact h5 i (by omega)
theorem cnt_new {x : Nat → Int32} {a : Nat → Nat → Int32} {n : Nat} (hn : n < 1000) (h : ∀ q, q < zN (x 23) → ∃ c, c < n ∧ a 25 q = nI c) : cnt x a (nI n) = -1 := by
  unfold cnt
  suffices hs : ∀ k, k ≤ zN (x 23) → cntL a (nI n) k = -1 from hs _ (Nat.le_refl _)
  intro k
  induction k with
  | zero => intro _; rfl
  | succ k ih =>
    intro hk
    obtain ⟨c, hc, e⟩ := h k (by omega)
    have hne : ¬ a 25 k = nI n := by
      rw [e]
      intro z
      have := (nI_eq (by omega) (by omega)).mp z
      omega
    rw [cntL, ih (by omega), cntC, decide_eq_false hne]
    rfl
set_option maxRecDepth 100000 in
set_option maxHeartbeats 4000000 in
theorem c_X6_addAccount {X : zX} (l : Launch) {x : Nat → Int32} {a : Nat → Nat → Int32} {σ : zHp} (hD : DK x a σ) (hI : zInv x a) (hW : zInw x a) {o w g : Int32} : zM X l yX6_addAccount cX6_addAccount 5 (some .int) 8 10 200 [aR 0 0, aI o, aI w, aI g] σ (zPi (zDz (k_addAccount x a o w g) (x 1) (upd x 1 (x 1 + 1)) (ua (ua (ua (ua a 2 (upd (a 2) (zN (x 1)) o)) 3 (upd (a 3) (zN (x 1)) w)) 4 (upd (a 4) (zN (x 1)) g)) 5 (upd (a 5) (zN (x 1)) (-1))) σ)) (zXk (k_addAccount x a o w g) eIO eIA eIS σ) := by
  obtain ⟨i0, i1, i6, i11, i15, i23, i24, i29, iA, iS, iC, iQ, iP⟩ := id hI
  have b1 := i1.2
  have b6 := i6.2
  have b11 := i11.2
  have b15 := i15.2
  have b23 := i23.2
  have b24 := i24.2
  have b29 := i29.2
  obtain ⟨hE, dF⟩ := id hD
  obtain ⟨d0, dA, dR, dS, dC, dQ⟩ := id hE
  have lA := dA.1
  have lS := dS.1
  have lC := dC.1
  have lQ := dQ.1
  have lF := dF.1
  refine zM.of (by decide +kernel) (Nat.le_of_ble_eq_true rfl) (by simp [zcat, Value.category]) ?_
  intro p e s m args below meth c9 loc0 C hr hnm hT
  refine z_joinP (P := (decide (o = -1) || isAcc x o) = true) (cells' := 1) (slots' := 6) (pc' := 14) (L' := [(0, aR 0 0), (1, aI o), (2, aI w), (3, aI g)]) (st' := [aO (oR 3 o)]) (fun kk => ?_) (fun tp => ?_)
  · refine z_iload_n (i := 1) C dX6_addAccount_0 rfl rfl ?_
    refine z_iconst (v := -1) C dX6_addAccount_1 (by decide) ?_
    refine z_icmp_ne (tgt := 9) C dX6_addAccount_2 (by decide) (fun h2 => ?_) (fun h2 => ?_)
    · refine z_aload_n (i := 0) C dX6_addAccount_9 rfl rfl ?_
      refine z_iload_n (i := 1) C dX6_addAccount_10 rfl rfl ?_
      refine z_callV C Y_X6_accountAt V_X6_accountAt ml_RX6_47 (c_X6_accountAt l hE hI) dX6_addAccount_11 rfl rfl d0 ⟨_, _, rfl⟩ (fun _ => Nat.le_of_ble_eq_true rfl) ⟨Nat.le_of_ble_eq_true rfl, Nat.le_of_ble_eq_true rfl⟩ ⟨Nat.le_of_ble_eq_true rfl, Nat.le_of_ble_eq_true rfl⟩ (z_rr (fun r9 σ1 hx => ?_)) (fun E9 σ9 hx => by obtain ⟨rfl, hx, rfl⟩ := hx; exact z_out hT C.2.2.2.2.2.2.2.1 (Nat.le_of_ble_eq_true rfl) (Nat.le_of_ble_eq_true rfl) (zXk.e1 (by simp only [h2, hx, eq_self, decide_true, decide_false, Bool.and_true, Bool.true_and, Bool.and_false, Bool.false_and, Bool.or_true, Bool.true_or, Bool.or_false, Bool.false_or, Bool.not_true, Bool.not_false, not_true, not_false_eq_true, if_true, if_false])))
      obtain ⟨t11, rfl, rfl⟩ := hx
      obtain ⟨i, hi, rfl⟩ := inB_ix i1 (by decide) t11
      have zi : zN (nI i) = i := zN_nI (by omega)
      rw [zi]
      replace kk := kk (by simp only [h2, t11, zi, eq_self, decide_true, decide_false, Bool.and_true, Bool.true_and, Bool.and_false, Bool.false_and, Bool.or_true, Bool.true_or, Bool.or_false, Bool.false_or, Bool.not_true, Bool.not_false, not_true, not_false_eq_true, if_true, if_false])
      rw [oR_s (by omega)] at kk
      exact z_subK kk (zs1 rfl (zs1 rfl (zs1 rfl (zs1 rfl zs0))))
    · refine z_null C dX6_addAccount_5 ?_
      refine z_goto (tgt := 14) C dX6_addAccount_6 (by decide) ?_
      replace kk := kk (by simp only [h2, eq_self, decide_true, decide_false, Bool.and_true, Bool.true_and, Bool.and_false, Bool.false_and, Bool.or_true, Bool.true_or, Bool.or_false, Bool.false_or, Bool.not_true, Bool.not_false, not_true, not_false_eq_true, if_true, if_false])
      rw [oR_n h2] at kk
      exact z_wd (Nat.zero_le _) (Nat.zero_le _) (z_subK kk (zs1 rfl (zs1 rfl (zs1 rfl (zs1 rfl zs0)))))
  refine z_astoreO C dX6_addAccount_14 (by decide) ?_
  refine z_iload_n (i := 2) C dX6_addAccount_16 rfl rfl ?_
  refine z_iconst (v := 0) C dX6_addAccount_17 (by decide) ?_
  refine z_bipush (v := 9) C dX6_addAccount_18 (by decide) ?_
  refine z_callS C Y_X6_requireRange sm_yX6_requireRange ml_RX6_35 (c_X6_requireRange l) dX6_addAccount_20 rfl rfl (fun _ => Nat.le_of_ble_eq_true rfl) ⟨Nat.le_of_ble_eq_true rfl, Nat.le_of_ble_eq_true rfl⟩ ⟨Nat.le_of_ble_eq_true rfl, Nat.le_of_ble_eq_true rfl⟩ (z_rv (fun σ1 hx => ?_)) (fun E9 σ9 hx => by obtain ⟨rfl, hx, rfl⟩ := hx; exact z_out hT C.2.2.2.2.2.2.2.1 (Nat.le_of_ble_eq_true rfl) (Nat.le_of_ble_eq_true rfl) (zXk.e2 (by simp only [tp, eq_self, decide_true, decide_false, Bool.and_true, Bool.true_and, Bool.and_false, Bool.false_and, Bool.or_true, Bool.true_or, Bool.or_false, Bool.false_or, Bool.not_true, Bool.not_false, not_true, not_false_eq_true, if_true, if_false]) (by simp only [tp, hx, eq_self, decide_true, decide_false, Bool.and_true, Bool.true_and, Bool.and_false, Bool.false_and, Bool.or_true, Bool.true_or, Bool.or_false, Bool.false_or, Bool.not_true, Bool.not_false, not_true, not_false_eq_true, if_true, if_false])))
  obtain ⟨t20, rfl⟩ := hx
  refine z_iload_n (i := 3) C dX6_addAccount_23 rfl rfl ?_
  refine z_iconst (v := 0) C dX6_addAccount_24 (by decide) ?_
  refine z_bipush (v := 9) C dX6_addAccount_25 (by decide) ?_
  refine z_callS C Y_X6_requireRange sm_yX6_requireRange ml_RX6_35 (c_X6_requireRange l) dX6_addAccount_27 rfl rfl (fun _ => Nat.le_of_ble_eq_true rfl) ⟨Nat.le_of_ble_eq_true rfl, Nat.le_of_ble_eq_true rfl⟩ ⟨Nat.le_of_ble_eq_true rfl, Nat.le_of_ble_eq_true rfl⟩ (z_rv (fun σ1 hx => ?_)) (fun E9 σ9 hx => by obtain ⟨rfl, hx, rfl⟩ := hx; exact z_out hT C.2.2.2.2.2.2.2.1 (Nat.le_of_ble_eq_true rfl) (Nat.le_of_ble_eq_true rfl) (zXk.e2 (by simp only [tp, t20, eq_self, decide_true, decide_false, Bool.and_true, Bool.true_and, Bool.and_false, Bool.false_and, Bool.or_true, Bool.true_or, Bool.or_false, Bool.false_or, Bool.not_true, Bool.not_false, not_true, not_false_eq_true, if_true, if_false]) (by simp only [tp, t20, hx, eq_self, decide_true, decide_false, Bool.and_true, Bool.true_and, Bool.and_false, Bool.false_and, Bool.or_true, Bool.true_or, Bool.or_false, Bool.false_or, Bool.not_true, Bool.not_false, not_true, not_false_eq_true, if_true, if_false])))
  obtain ⟨t27, rfl⟩ := hx
  refine z_aload_n (i := 0) C dX6_addAccount_30 rfl rfl ?_
  refine z_getf C f_RX6_10 dX6_addAccount_31 d0 rfl ?_
  refine z_callV C Y_Jx4a65c_size_8abf5 V_Jx4a65c_size_8abf5 ml_RX6_51 (c_Jx4a65c_size_8abf5 l lA) dX6_addAccount_34 rfl rfl (zLs.ob lA) ⟨_, _, rfl⟩ (fun _ => Nat.le_of_ble_eq_true rfl) ⟨Nat.le_of_ble_eq_true rfl, Nat.le_of_ble_eq_true rfl⟩ ⟨Nat.le_of_ble_eq_true rfl, Nat.le_of_ble_eq_true rfl⟩ (z_ri (fun x σ1 hx => ?_)) (z_nx)
  obtain ⟨rfl, rfl⟩ := hx
  refine z_bipush (v := 16) C dX6_addAccount_37 (by decide) ?_

  rw [← i1.1]
  refine z_callS C Y_X6_requireRoom sm_yX6_requireRoom ml_RX6_55 (c_X6_requireRoom l) dX6_addAccount_39 rfl rfl (fun _ => Nat.le_of_ble_eq_true rfl) ⟨Nat.le_of_ble_eq_true rfl, Nat.le_of_ble_eq_true rfl⟩ ⟨Nat.le_of_ble_eq_true rfl, Nat.le_of_ble_eq_true rfl⟩ (z_rv (fun σ1 hx => ?_)) (fun E9 σ9 hx => by obtain ⟨rfl, hx, rfl⟩ := hx; exact z_out hT C.2.2.2.2.2.2.2.1 (Nat.le_of_ble_eq_true rfl) (Nat.le_of_ble_eq_true rfl) (zXk.e3 (by simp only [tp, t20, t27, eq_self, decide_true, decide_false, Bool.and_true, Bool.true_and, Bool.and_false, Bool.false_and, Bool.or_true, Bool.true_or, Bool.or_false, Bool.false_or, Bool.not_true, Bool.not_false, not_true, not_false_eq_true, if_true, if_false]) (by simp only [tp, t20, t27, eq_self, decide_true, decide_false, Bool.and_true, Bool.true_and, Bool.and_false, Bool.false_and, Bool.or_true, Bool.true_or, Bool.or_false, Bool.false_or, Bool.not_true, Bool.not_false, not_true, not_false_eq_true, if_true, if_false]) (by simp only [tp, t20, t27, hx, eq_self, decide_true, decide_false, Bool.and_true, Bool.true_and, Bool.and_false, Bool.false_and, Bool.or_true, Bool.true_or, Bool.or_false, Bool.false_or, Bool.not_true, Bool.not_false, not_true, not_false_eq_true, if_true, if_false])))
  obtain ⟨t39, rfl⟩ := hx
  have tR := t39
  have hn : zN (x 1) < 16 := zN_lt i1 (by decide) (of_decide_eq_true tR)
  obtain ⟨n, en⟩ : ∃ n, n = zN (x 1) := ⟨_, rfl⟩
  have e1 : zN (x 1 + 1) = n + 1 := by rw [en]; exact (zN_s i1 (by decide)).2
  have ex : x 1 = nI n := by rw [en]; exact i1.1
  refine z_aload_n (i := 0) C dX6_addAccount_42 rfl rfl ?_
  refine z_getf C f_RX6_10 dX6_addAccount_43 d0 rfl ?_
  refine z_new C 3 n n_RX6_59 dX6_addAccount_46 (by decide) (dA.2.2 n (by omega)) ⟨Nat.le_of_ble_eq_true rfl, Nat.le_of_ble_eq_true rfl⟩ ?_
  refine z_dup C (by first | trivial | rfl) dX6_addAccount_49 ?_
  refine z_aloadO C dX6_addAccount_50 rfl ?_
  refine z_iload_n (i := 2) C dX6_addAccount_52 rfl rfl ?_
  refine z_iload_n (i := 3) C dX6_addAccount_53 rfl rfl ?_
  refine z_callI C Y_X0_init im_yX0_init rfl ml_RX6_61 (c_X0_init l (zput_s _ _ _ _)) dX6_addAccount_54 rfl rfl (fun _ => Nat.le_of_ble_eq_true rfl) ⟨Nat.le_of_ble_eq_true rfl, Nat.le_of_ble_eq_true rfl⟩ ⟨Nat.le_of_ble_eq_true rfl, Nat.le_of_ble_eq_true rfl⟩ (z_rv (fun σ2 hx => ?_)) (z_nx)
  obtain ⟨hc2, hfr⟩ := hx
  have hf2 : ∀ k9 i9, ¬ (k9 = 3 ∧ i9 = n) → σ2 k9 i9 = σ1 k9 i9 := fun k9 i9 z => (hfr k9 i9 z).trans (zput_n z)
  have l2 := lA.ag (σ1 := σ2) (fun k9 i9 z => hf2 k9 i9 (by omega))
  rw [← en] at l2
  refine z_callV C Y_Jx4a65c_add_9ea2d V_Jx4a65c_add_9ea2d ml_RX6_64 (c_Jx4a65c_add_9ea2d l l2 (by omega) (fun i9 hi9 => ⟨_, _, (hf2 3 i9 (by omega)).trans (dA.2.1 i9 (by omega)), elt3⟩) hc2 elt3 (fun z => by cases z.1) (fun _ _ z => by cases z.1)) dX6_addAccount_57 rfl rfl (zLs.ob l2) ⟨_, _, rfl⟩ (fun _ => Nat.le_of_ble_eq_true rfl) ⟨Nat.le_of_ble_eq_true rfl, Nat.le_of_ble_eq_true rfl⟩ ⟨Nat.le_of_ble_eq_true rfl, Nat.le_of_ble_eq_true rfl⟩ (z_ri (fun r9 σ3 hx => ?_)) (z_nx)
  obtain ⟨rfl, hL3, hlf⟩ := hx
  refine z_pop C (by first | trivial | rfl) dX6_addAccount_60 ?_
  have d03 : D0 (x 0) σ3 := (hlf 0 0 (by omega) (by omega)).trans ((hf2 0 0 (by omega)).trans d0)
  refine z_aload_n (i := 0) C dX6_addAccount_61 rfl rfl ?_
  refine z_getf C f_RX6_10 dX6_addAccount_62 d03 rfl ?_
  refine z_callV C Y_Jx4a65c_size_8abf5 V_Jx4a65c_size_8abf5 ml_RX6_51 (c_Jx4a65c_size_8abf5 l hL3) dX6_addAccount_65 rfl rfl (zLs.ob hL3) ⟨_, _, rfl⟩ (fun _ => Nat.le_of_ble_eq_true rfl) ⟨Nat.le_of_ble_eq_true rfl, Nat.le_of_ble_eq_true rfl⟩ ⟨Nat.le_of_ble_eq_true rfl, Nat.le_of_ble_eq_true rfl⟩ (z_ri (fun x σ1 hx => ?_)) (z_nx)
  obtain ⟨rfl, rfl⟩ := hx
  refine z_iconst (v := 1) C dX6_addAccount_68 (by decide) ?_
  refine z_isub C dX6_addAccount_69 ?_
  exact z_iret C hr rfl dX6_addAccount_70 (Nat.le_of_ble_eq_true rfl) (Nat.le_of_ble_eq_true rfl) ⟨_, rfl, zDz.ok (by simp only [tp, t20, t27, t39, eq_self, decide_true, decide_false, Bool.and_true, Bool.true_and, Bool.and_false, Bool.false_and, Bool.or_true, Bool.true_or, Bool.or_false, Bool.false_or, Bool.not_true, Bool.not_false, not_true, not_false_eq_true, if_true, if_false]) (by simp only [tp, t20, t27, t39, eq_self, decide_true, decide_false, Bool.and_true, Bool.true_and, Bool.and_false, Bool.false_and, Bool.or_true, Bool.true_or, Bool.or_false, Bool.false_or, Bool.not_true, Bool.not_false, not_true, not_false_eq_true, if_true, if_false]) (by simp only [tp, t20, t27, t39, eq_self, decide_true, decide_false, Bool.and_true, Bool.true_and, Bool.and_false, Bool.false_and, Bool.or_true, Bool.true_or, Bool.or_false, Bool.false_or, Bool.not_true, Bool.not_false, not_true, not_false_eq_true, if_true, if_false]) (by rw [nI_pred]; exact ex.symm) ⟨⟨d03, (by show DA (zN (x 1 + 1)) (upd (a 2) (zN (x 1)) o) (upd (a 3) (zN (x 1)) w) (upd (a 4) (zN (x 1)) g) (upd (a 5) (zN (x 1)) (-1)) _; rw [e1, ← en]; rw [← en] at dA; exact dA.add hL3 ((hlf 3 n (by omega) (by omega)).trans hc2) (fun i9 z => (hlf 3 i9 (by omega) (by omega)).trans (hf2 3 i9 (by omega)))), dR.ag (fun k9 i9 z => (hlf k9 i9 (by omega) (by omega)).trans (hf2 k9 i9 (by omega))), dS.ag (fun k9 i9 z => (hlf k9 i9 (by omega) (by omega)).trans (hf2 k9 i9 (by omega))), dC.ag (fun k9 i9 z => (hlf k9 i9 (by omega) (by omega)).trans (hf2 k9 i9 (by omega))) (fun c9 _ => by apply cnt_cg <;> rfl), dQ.ag (fun k9 i9 z => (hlf k9 i9 (by omega) (by omega)).trans (hf2 k9 i9 (by omega)))⟩, dF.ag (fun k9 i9 z => (hlf k9 i9 (by omega) (by omega)).trans (hf2 k9 i9 (by omega)))⟩ (fun k9 i9 z => (hlf k9 i9 (by omega) (by omega)).trans (hf2 k9 i9 (by omega)))⟩

set_option maxRecDepth 100000 in
set_option maxHeartbeats 4000000 in
theorem c_X6_addSeller {X : zX} (l : Launch) {x : Nat → Int32} {a : Nat → Nat → Int32} {σ : zHp} (hD : DK x a σ) (hI : zInv x a) (hW : zInw x a) {o w : Int32} : zM X l yX6_addSeller cX6_addSeller 4 (some .int) 8 10 200 [aR 0 0, aI o, aI w] σ (zPi (zDz (k_addSeller x a o w) (x 11) (upd x 11 (x 11 + 1)) (ua (ua a 12 (upd (a 12) (zN (x 11)) o)) 13 (upd (a 13) (zN (x 11)) w)) σ)) (zXk (k_addSeller x a o w) eIO eIA eIS σ) := by
  obtain ⟨i0, i1, i6, i11, i15, i23, i24, i29, iA, iS, iC, iQ, iP⟩ := id hI
  have b1 := i1.2
  have b6 := i6.2
  have b11 := i11.2
  have b15 := i15.2
  have b23 := i23.2
  have b24 := i24.2
  have b29 := i29.2
  obtain ⟨hE, dF⟩ := id hD
  obtain ⟨d0, dA, dR, dS, dC, dQ⟩ := id hE
  have lA := dA.1
  have lS := dS.1
  have lC := dC.1
  have lQ := dQ.1
  have lF := dF.1
  refine zM.of (by decide +kernel) (Nat.le_of_ble_eq_true rfl) (by simp [zcat, Value.category]) ?_
  intro p e s m args below meth c9 loc0 C hr hnm hT
  refine z_joinP (P := (decide (o = -1) || isSel x o) = true) (cells' := 1) (slots' := 6) (pc' := 14) (L' := [(0, aR 0 0), (1, aI o), (2, aI w)]) (st' := [aO (oR 5 o)]) (fun kk => ?_) (fun tp => ?_)
  · refine z_iload_n (i := 1) C dX6_addSeller_0 rfl rfl ?_
    refine z_iconst (v := -1) C dX6_addSeller_1 (by decide) ?_
    refine z_icmp_ne (tgt := 9) C dX6_addSeller_2 (by decide) (fun h2 => ?_) (fun h2 => ?_)
    · refine z_aload_n (i := 0) C dX6_addSeller_9 rfl rfl ?_
      refine z_iload_n (i := 1) C dX6_addSeller_10 rfl rfl ?_
      refine z_callV C Y_X6_sellerAt V_X6_sellerAt ml_RX6_94 (c_X6_sellerAt l hE hI) dX6_addSeller_11 rfl rfl d0 ⟨_, _, rfl⟩ (fun _ => Nat.le_of_ble_eq_true rfl) ⟨Nat.le_of_ble_eq_true rfl, Nat.le_of_ble_eq_true rfl⟩ ⟨Nat.le_of_ble_eq_true rfl, Nat.le_of_ble_eq_true rfl⟩ (z_rr (fun r9 σ1 hx => ?_)) (fun E9 σ9 hx => by obtain ⟨rfl, hx, rfl⟩ := hx; exact z_out hT C.2.2.2.2.2.2.2.1 (Nat.le_of_ble_eq_true rfl) (Nat.le_of_ble_eq_true rfl) (zXk.e1 (by simp only [h2, hx, eq_self, decide_true, decide_false, Bool.and_true, Bool.true_and, Bool.and_false, Bool.false_and, Bool.or_true, Bool.true_or, Bool.or_false, Bool.false_or, Bool.not_true, Bool.not_false, not_true, not_false_eq_true, if_true, if_false])))
      obtain ⟨t11, rfl, rfl⟩ := hx
      obtain ⟨i, hi, rfl⟩ := inB_ix i11 (by decide) t11
      have zi : zN (nI i) = i := zN_nI (by omega)
      rw [zi]
      replace kk := kk (by simp only [h2, t11, zi, eq_self, decide_true, decide_false, Bool.and_true, Bool.true_and, Bool.and_false, Bool.false_and, Bool.or_true, Bool.true_or, Bool.or_false, Bool.false_or, Bool.not_true, Bool.not_false, not_true, not_false_eq_true, if_true, if_false])
      rw [oR_s (by omega)] at kk
      exact z_subK kk (zs1 rfl (zs1 rfl (zs1 rfl zs0)))
    · refine z_null C dX6_addSeller_5 ?_
      refine z_goto (tgt := 14) C dX6_addSeller_6 (by decide) ?_
      replace kk := kk (by simp only [h2, eq_self, decide_true, decide_false, Bool.and_true, Bool.true_and, Bool.and_false, Bool.false_and, Bool.or_true, Bool.true_or, Bool.or_false, Bool.false_or, Bool.not_true, Bool.not_false, not_true, not_false_eq_true, if_true, if_false])
      rw [oR_n h2] at kk
      exact z_wd (Nat.zero_le _) (Nat.zero_le _) (z_subK kk (zs1 rfl (zs1 rfl (zs1 rfl zs0))))
  refine z_astore_nO (i := 3) C dX6_addSeller_14 rfl (by decide) ?_
  refine z_iload_n (i := 2) C dX6_addSeller_15 rfl rfl ?_
  refine z_iconst (v := 0) C dX6_addSeller_16 (by decide) ?_
  refine z_bipush (v := 99) C dX6_addSeller_17 (by decide) ?_
  refine z_callS C Y_X6_requireRange sm_yX6_requireRange ml_RX6_35 (c_X6_requireRange l) dX6_addSeller_19 rfl rfl (fun _ => Nat.le_of_ble_eq_true rfl) ⟨Nat.le_of_ble_eq_true rfl, Nat.le_of_ble_eq_true rfl⟩ ⟨Nat.le_of_ble_eq_true rfl, Nat.le_of_ble_eq_true rfl⟩ (z_rv (fun σ1 hx => ?_)) (fun E9 σ9 hx => by obtain ⟨rfl, hx, rfl⟩ := hx; exact z_out hT C.2.2.2.2.2.2.2.1 (Nat.le_of_ble_eq_true rfl) (Nat.le_of_ble_eq_true rfl) (zXk.e2 (by simp only [tp, eq_self, decide_true, decide_false, Bool.and_true, Bool.true_and, Bool.and_false, Bool.false_and, Bool.or_true, Bool.true_or, Bool.or_false, Bool.false_or, Bool.not_true, Bool.not_false, not_true, not_false_eq_true, if_true, if_false]) (by simp only [tp, hx, eq_self, decide_true, decide_false, Bool.and_true, Bool.true_and, Bool.and_false, Bool.false_and, Bool.or_true, Bool.true_or, Bool.or_false, Bool.false_or, Bool.not_true, Bool.not_false, not_true, not_false_eq_true, if_true, if_false])))
  obtain ⟨t19, rfl⟩ := hx
  refine z_aload_n (i := 0) C dX6_addSeller_22 rfl rfl ?_
  refine z_getf C f_RX6_19 dX6_addSeller_23 d0 rfl ?_
  refine z_callV C Y_Jx4a65c_size_8abf5 V_Jx4a65c_size_8abf5 ml_RX6_51 (c_Jx4a65c_size_8abf5 l lS) dX6_addSeller_26 rfl rfl (zLs.ob lS) ⟨_, _, rfl⟩ (fun _ => Nat.le_of_ble_eq_true rfl) ⟨Nat.le_of_ble_eq_true rfl, Nat.le_of_ble_eq_true rfl⟩ ⟨Nat.le_of_ble_eq_true rfl, Nat.le_of_ble_eq_true rfl⟩ (z_ri (fun x σ1 hx => ?_)) (z_nx)
  obtain ⟨rfl, rfl⟩ := hx
  refine z_bipush (v := 8) C dX6_addSeller_29 (by decide) ?_

  rw [← i11.1]
  refine z_callS C Y_X6_requireRoom sm_yX6_requireRoom ml_RX6_55 (c_X6_requireRoom l) dX6_addSeller_31 rfl rfl (fun _ => Nat.le_of_ble_eq_true rfl) ⟨Nat.le_of_ble_eq_true rfl, Nat.le_of_ble_eq_true rfl⟩ ⟨Nat.le_of_ble_eq_true rfl, Nat.le_of_ble_eq_true rfl⟩ (z_rv (fun σ1 hx => ?_)) (fun E9 σ9 hx => by obtain ⟨rfl, hx, rfl⟩ := hx; exact z_out hT C.2.2.2.2.2.2.2.1 (Nat.le_of_ble_eq_true rfl) (Nat.le_of_ble_eq_true rfl) (zXk.e3 (by simp only [tp, t19, eq_self, decide_true, decide_false, Bool.and_true, Bool.true_and, Bool.and_false, Bool.false_and, Bool.or_true, Bool.true_or, Bool.or_false, Bool.false_or, Bool.not_true, Bool.not_false, not_true, not_false_eq_true, if_true, if_false]) (by simp only [tp, t19, eq_self, decide_true, decide_false, Bool.and_true, Bool.true_and, Bool.and_false, Bool.false_and, Bool.or_true, Bool.true_or, Bool.or_false, Bool.false_or, Bool.not_true, Bool.not_false, not_true, not_false_eq_true, if_true, if_false]) (by simp only [tp, t19, hx, eq_self, decide_true, decide_false, Bool.and_true, Bool.true_and, Bool.and_false, Bool.false_and, Bool.or_true, Bool.true_or, Bool.or_false, Bool.false_or, Bool.not_true, Bool.not_false, not_true, not_false_eq_true, if_true, if_false])))
  obtain ⟨t31, rfl⟩ := hx
  have tR := t31
  have hn : zN (x 11) < 8 := zN_lt i11 (by decide) (of_decide_eq_true tR)
  obtain ⟨n, en⟩ : ∃ n, n = zN (x 11) := ⟨_, rfl⟩
  have e1 : zN (x 11 + 1) = n + 1 := by rw [en]; exact (zN_s i11 (by decide)).2
  have ex : x 11 = nI n := by rw [en]; exact i11.1
  refine z_aload_n (i := 0) C dX6_addSeller_34 rfl rfl ?_
  refine z_getf C f_RX6_19 dX6_addSeller_35 d0 rfl ?_
  refine z_new C 5 n n_RX6_98 dX6_addSeller_38 (by decide) (dS.2.2 n (by omega)) ⟨Nat.le_of_ble_eq_true rfl, Nat.le_of_ble_eq_true rfl⟩ ?_
  refine z_dup C (by first | trivial | rfl) dX6_addSeller_41 ?_
  refine z_aload_n (i := 0) C dX6_addSeller_42 rfl rfl ?_
  refine z_getf C f_RX6_19 dX6_addSeller_43 (by rw [zput_n (by omega)]; exact d0) rfl ?_
  have lS9 : zLs (zput _ 5 n (oC 8 [aI 0, aN, aI 0, aI 0])) 2 (zN (x 11)) _ := lS.ag (fun k9 i9 z => zput_n (by omega))
  refine z_callV C Y_Jx4a65c_size_8abf5 V_Jx4a65c_size_8abf5 ml_RX6_51 (c_Jx4a65c_size_8abf5 l lS9) dX6_addSeller_46 rfl rfl (zLs.ob lS9) ⟨_, _, rfl⟩ (fun _ => Nat.le_of_ble_eq_true rfl) ⟨Nat.le_of_ble_eq_true rfl, Nat.le_of_ble_eq_true rfl⟩ ⟨Nat.le_of_ble_eq_true rfl, Nat.le_of_ble_eq_true rfl⟩ (z_ri (fun x σ1 hx => ?_)) (z_nx)
  obtain ⟨rfl, rfl⟩ := hx
  rw [← en]
  refine z_aload_nO (i := 3) C dX6_addSeller_49 rfl rfl ?_
  refine z_iload_n (i := 2) C dX6_addSeller_50 rfl rfl ?_
  refine z_callI C Y_X5_init im_yX5_init rfl ml_RX6_100 (c_X5_init l (zput_s _ _ _ _)) dX6_addSeller_51 rfl rfl (fun _ => Nat.le_of_ble_eq_true rfl) ⟨Nat.le_of_ble_eq_true rfl, Nat.le_of_ble_eq_true rfl⟩ ⟨Nat.le_of_ble_eq_true rfl, Nat.le_of_ble_eq_true rfl⟩ (z_rv (fun σ2 hx => ?_)) (z_nx)
  obtain ⟨hc2, hfr⟩ := hx
  have hf2 : ∀ k9 i9, ¬ (k9 = 5 ∧ i9 = n) → σ2 k9 i9 = σ1 k9 i9 := fun k9 i9 z => (hfr k9 i9 z).trans (zput_n z)
  have l2 := lS.ag (σ1 := σ2) (fun k9 i9 z => hf2 k9 i9 (by omega))
  rw [← en] at l2
  refine z_callV C Y_Jx4a65c_add_9ea2d V_Jx4a65c_add_9ea2d ml_RX6_64 (c_Jx4a65c_add_9ea2d l l2 (by omega) (fun i9 hi9 => ⟨_, _, (hf2 5 i9 (by omega)).trans (dS.2.1 i9 (by omega)), elt8⟩) hc2 elt8 (fun z => by cases z.1) (fun _ _ z => by cases z.1)) dX6_addSeller_54 rfl rfl (zLs.ob l2) ⟨_, _, rfl⟩ (fun _ => Nat.le_of_ble_eq_true rfl) ⟨Nat.le_of_ble_eq_true rfl, Nat.le_of_ble_eq_true rfl⟩ ⟨Nat.le_of_ble_eq_true rfl, Nat.le_of_ble_eq_true rfl⟩ (z_ri (fun r9 σ3 hx => ?_)) (z_nx)
  obtain ⟨rfl, hL3, hlf⟩ := hx
  refine z_pop C (by first | trivial | rfl) dX6_addSeller_57 ?_
  have d03 : D0 (x 0) σ3 := (hlf 0 0 (by omega) (by omega)).trans ((hf2 0 0 (by omega)).trans d0)
  refine z_aload_n (i := 0) C dX6_addSeller_58 rfl rfl ?_
  refine z_getf C f_RX6_19 dX6_addSeller_59 d03 rfl ?_
  refine z_callV C Y_Jx4a65c_size_8abf5 V_Jx4a65c_size_8abf5 ml_RX6_51 (c_Jx4a65c_size_8abf5 l hL3) dX6_addSeller_62 rfl rfl (zLs.ob hL3) ⟨_, _, rfl⟩ (fun _ => Nat.le_of_ble_eq_true rfl) ⟨Nat.le_of_ble_eq_true rfl, Nat.le_of_ble_eq_true rfl⟩ ⟨Nat.le_of_ble_eq_true rfl, Nat.le_of_ble_eq_true rfl⟩ (z_ri (fun x σ1 hx => ?_)) (z_nx)
  obtain ⟨rfl, rfl⟩ := hx
  refine z_iconst (v := 1) C dX6_addSeller_65 (by decide) ?_
  refine z_isub C dX6_addSeller_66 ?_
  exact z_iret C hr rfl dX6_addSeller_67 (Nat.le_of_ble_eq_true rfl) (Nat.le_of_ble_eq_true rfl) ⟨_, rfl, zDz.ok (by simp only [tp, t19, t31, eq_self, decide_true, decide_false, Bool.and_true, Bool.true_and, Bool.and_false, Bool.false_and, Bool.or_true, Bool.true_or, Bool.or_false, Bool.false_or, Bool.not_true, Bool.not_false, not_true, not_false_eq_true, if_true, if_false]) (by simp only [tp, t19, t31, eq_self, decide_true, decide_false, Bool.and_true, Bool.true_and, Bool.and_false, Bool.false_and, Bool.or_true, Bool.true_or, Bool.or_false, Bool.false_or, Bool.not_true, Bool.not_false, not_true, not_false_eq_true, if_true, if_false]) (by simp only [tp, t19, t31, eq_self, decide_true, decide_false, Bool.and_true, Bool.true_and, Bool.and_false, Bool.false_and, Bool.or_true, Bool.true_or, Bool.or_false, Bool.false_or, Bool.not_true, Bool.not_false, not_true, not_false_eq_true, if_true, if_false]) (by rw [nI_pred]; exact ex.symm) ⟨⟨d03, dA.ag (fun k9 i9 z => (hlf k9 i9 (by omega) (by omega)).trans (hf2 k9 i9 (by omega))), dR.ag (fun k9 i9 z => (hlf k9 i9 (by omega) (by omega)).trans (hf2 k9 i9 (by omega))), (by show DS (zN (x 11 + 1)) (upd (a 12) _ o) (upd (a 13) _ w) (a 14) _; rw [e1]; (try rw [← en]); rw [← en] at dS; exact dS.add hL3 (hW.2.2.2.1 n (by omega)) ((hlf 5 n (by omega) (by omega)).trans hc2) (fun i9 z => (hlf 5 i9 (by omega) (by omega)).trans (hf2 5 i9 (by omega)))), dC.ag (fun k9 i9 z => (hlf k9 i9 (by omega) (by omega)).trans (hf2 k9 i9 (by omega))) (fun c9 _ => by apply cnt_cg <;> rfl), dQ.ag (fun k9 i9 z => (hlf k9 i9 (by omega) (by omega)).trans (hf2 k9 i9 (by omega)))⟩, dF.ag (fun k9 i9 z => (hlf k9 i9 (by omega) (by omega)).trans (hf2 k9 i9 (by omega)))⟩ (fun k9 i9 z => (hlf k9 i9 (by omega) (by omega)).trans (hf2 k9 i9 (by omega)))⟩

