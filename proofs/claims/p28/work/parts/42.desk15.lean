/-! the desk: freezes, and a new desk -/
theorem DE.ag {x : Nat → Int32} {a : Nat → Nat → Int32} {σ σ1 : zHp} (h : DE x a σ) (hg : ∀ k i, k ≠ 10 → k ≠ 32 → ¬ (k = 1 ∧ i = 5) → k ≠ 25 → σ1 k i = σ k i) : DE x a σ1 := by
  obtain ⟨d0, dA, dR, dS, dC, dQ⟩ := h
  exact ⟨(hg 0 0 (by omega) (by omega) (by omega) (by omega)).trans d0, dA.ag (fun k i z => hg k i (by omega) (by omega) (by omega) (by omega)), dR.ag (fun k i z => hg k i (by omega) (by omega) (by omega) (by omega)), dS.ag (fun k i z => hg k i (by omega) (by omega) (by omega) (by omega)), dC.ag (fun k i z => hg k i (by omega) (by omega) (by omega) (by omega)) (fun _ _ => rfl), dQ.ag (fun k i z => hg k i (by omega) (by omega) (by omega) (by omega))⟩
theorem DF.add {n : Nat} {b30 b30' f : Nat → Int32} {σ σ1 : zHp} (h : DF n b30 σ) (hL : zLs σ1 5 (n + 1) (va_up (fun i => (10, i)) n (10, n))) (hc : σ1 10 n = some (oC 5 [aR 32 n])) (hs : σ1 32 n = some (iC 8 f)) (hf : ∀ s, s < 8 → f s = b30' (8 * n + s)) (ho : ∀ t, t < 8 * n → b30' t = b30 t) (hg : ∀ k i, (k = 10 ∨ k = 32) → i ≠ n → σ1 k i = σ k i) : DF (n + 1) b30' σ1 := by
  obtain ⟨h1, h2, h3, h4⟩ := h
  refine ⟨by rw [← va_up_id]; exact hL, fun i hi => ?_, fun i hi => ?_, fun i hi => ?_⟩
  · by_cases e : i = n
    · subst e; exact hc
    · rw [hg 10 i (by omega) e]; exact h2 i (by omega)
  · by_cases e : i = n
    · subst e; exact ⟨f, hs, hf⟩
    · rw [hg 32 i (by omega) e]
      obtain ⟨g, g1, g2⟩ := h3 i (by omega)
      exact ⟨g, g1, fun s hs => by rw [g2 s hs, ho _ (by omega)]⟩
  · rw [hg 10 i (by omega) (by omega), hg 32 i (by omega) (by omega)]
    exact h4 i (by omega)
set_option maxRecDepth 100000 in
set_option maxHeartbeats 4000000 in
theorem c_X6_freeze {X : zX} (l : Launch) {x : Nat → Int32} {a : Nat → Nat → Int32} {σ : zHp} (hD : DK x a σ) (hI : zInv x a) (hW : zInw x a) : zM X l yX6_freeze cX6_freeze 4 (some .int) 8 10 200 [aR 0 0] σ (zPi (zDz (k_freeze x a 0) (x 29) (upd x 29 (x 29 + 1)) (ua a 30 (frz x a (zN (x 29)) (zN (x 11)))) σ)) (zXk (k_freeze x a 0) eIS eIS eIS σ) := by
  obtain ⟨i0, i1, i6, i11, i15, i23, i24, i29, iA, iS, iC, iQ, iP⟩ := id hI
  have b1 := i1.2
  have b6 := i6.2
  have b11 := i11.2
  have b15 := i15.2
  have b23 := i23.2
  have b24 := i24.2
  have b29 := i29.2
  obtain ⟨hE, dF⟩ := id hD
  obtain ⟨d0, dA, dR, dS, dC, dQ⟩ := id hE
  have lA := dA.1
  have lS := dS.1
  have lC := dC.1
  have lQ := dQ.1
  have lF := dF.1
  refine zM.of (by decide +kernel) (Nat.le_of_ble_eq_true rfl) (by simp [zcat, Value.category]) ?_
  intro p e s m args below meth c9 loc0 C hr hnm hT
  refine z_aload_n (i := 0) C dX6_freeze_0 rfl rfl ?_
  refine z_getf C f_RX6_28 dX6_freeze_1 d0 rfl ?_
  refine z_callV C Y_Jx4a65c_size_8abf5 V_Jx4a65c_size_8abf5 ml_RX6_51 (c_Jx4a65c_size_8abf5 l lF) dX6_freeze_4 rfl rfl (zLs.ob lF) ⟨_, _, rfl⟩ (fun _ => Nat.le_of_ble_eq_true rfl) ⟨Nat.le_of_ble_eq_true rfl, Nat.le_of_ble_eq_true rfl⟩ ⟨Nat.le_of_ble_eq_true rfl, Nat.le_of_ble_eq_true rfl⟩ (z_ri (fun x σ1 hx => ?_)) (z_nx)
  obtain ⟨rfl, rfl⟩ := hx
  refine z_bipush (v := 20) C dX6_freeze_7 (by decide) ?_
  rw [← i29.1]
  refine z_callS C Y_X6_requireRoom sm_yX6_requireRoom ml_RX6_55 (c_X6_requireRoom l) dX6_freeze_9 rfl rfl (fun _ => Nat.le_of_ble_eq_true rfl) ⟨Nat.le_of_ble_eq_true rfl, Nat.le_of_ble_eq_true rfl⟩ ⟨Nat.le_of_ble_eq_true rfl, Nat.le_of_ble_eq_true rfl⟩ (z_rv (fun σ1 hx => ?_)) (fun E9 σ9 hx => by obtain ⟨rfl, hx, rfl⟩ := hx; exact z_out hT C.2.2.2.2.2.2.2.1 (Nat.le_of_ble_eq_true rfl) (Nat.le_of_ble_eq_true rfl) (zXk.e1 (by simp only [hx, eq_self, decide_true, decide_false, Bool.and_true, Bool.true_and, Bool.and_false, Bool.false_and, Bool.or_true, Bool.true_or, Bool.or_false, Bool.false_or, Bool.not_true, Bool.not_false, not_true, not_false_eq_true, if_true, if_false])))
  obtain ⟨t9, rfl⟩ := hx
  have tR := t9
  have hn : zN (x 29) < 20 := zN_lt i29 (by decide) (of_decide_eq_true tR)
  obtain ⟨n, en⟩ : ∃ n, n = zN (x 29) := ⟨_, rfl⟩
  have e1 : zN (x 29 + 1) = n + 1 := by rw [en]; exact (zN_s i29 (by decide)).2
  have ex : x 29 = nI n := by rw [en]; exact i29.1
  have fr9 := dF.2.2.2 n (by omega)
  refine z_new C 10 n n_RX6_232 dX6_freeze_12 (by decide) fr9.1 ⟨Nat.le_of_ble_eq_true rfl, Nat.le_of_ble_eq_true rfl⟩ ?_
  refine z_dup C (by first | trivial | rfl) dX6_freeze_15 ?_
  refine z_callIN C Y_X2_init im_yX2_init rfl C.S.2.2.2.2.1.1 (c_X2_init l (zput_s _ _ _ _) (by rw [zput_n (by omega)]; exact fr9.2)) dX6_freeze_16 rfl rfl (fun _ => Nat.le_of_ble_eq_true rfl) ⟨Nat.le_of_ble_eq_true rfl, Nat.le_of_ble_eq_true rfl⟩ ⟨Nat.le_of_ble_eq_true rfl, Nat.le_of_ble_eq_true rfl⟩ (z_rv (fun σ2 hx => ?_)) (z_nx)
  obtain ⟨hc2, h32, hfr⟩ := hx
  clear iC
  have hf2 : ∀ k9 i9, ¬ (k9 = 10 ∧ i9 = n) → ¬ (k9 = 32 ∧ i9 = n) → σ2 k9 i9 = σ1 k9 i9 := fun k9 i9 z z1 => (hfr k9 i9 z z1).trans (zput_n z)
  have lp : ∀ (r k : Nat) (σk : zHp), k + r = zN (x 11) → (∃ f, σk 32 n = some (iC 8 f) ∧ ∀ s, s < 8 → f s = if s < k then forS x a s else 0) → (∀ k9 i9, ¬ (k9 = 32 ∧ i9 = n) → σk k9 i9 = σ2 k9 i9) → zG X p l e (zRm 8 10 200) s m args below meth c9 4 σ1 loc0 (zQ X σ1 loc0 below (zPi (zDz (k_freeze x a 0) (x 29) (upd x 29 (x 29 + 1)) (ua a 30 (frz x a (zN (x 29)) (zN (x 11)))) σ1)) (zXk (k_freeze x a 0) eIS eIS eIS σ1) args s 10 200) 3 15 σk 22 [(0, aR 0 0), (1, aR 10 n), (2, aI (nI k))] [] := by
    intro r
    induction r with
    | zero =>
      intro k σk hk hf9 hfk
      obtain ⟨f, hf32, ef⟩ := hf9
      have hEk : DE x a σk := hE.ag (fun k9 i9 z z1 z2 z3 => (hfk k9 i9 (by omega)).trans (hf2 k9 i9 (by omega) (by omega)))
      have lSk := hEk.2.2.2.1.1
      refine z_iload_n (i := 2) C dX6_freeze_22 rfl rfl ?_
      refine z_aload_n (i := 0) C dX6_freeze_23 rfl rfl ?_
      refine z_getf C f_RX6_19 dX6_freeze_24 hEk.1 rfl ?_
      refine z_callV C Y_Jx4a65c_size_8abf5 V_Jx4a65c_size_8abf5 ml_RX6_51 (c_Jx4a65c_size_8abf5 l lSk) dX6_freeze_27 rfl rfl (zLs.ob lSk) ⟨_, _, rfl⟩ (fun _ => Nat.le_of_ble_eq_true rfl) ⟨Nat.le_of_ble_eq_true rfl, Nat.le_of_ble_eq_true rfl⟩ ⟨Nat.le_of_ble_eq_true rfl, Nat.le_of_ble_eq_true rfl⟩ (z_ri (fun x σ1 hx => ?_)) (z_nx)
      obtain ⟨rfl, hσ9⟩ := hx
      rw [hσ9]
      refine z_icmp_ge (tgt := 67) C dX6_freeze_30 (by decide) (fun _ => ?_) (fun h => absurd (by rw [show k = zN (x 11) by omega]; exact Int32.le_refl _) h)
      have ek : k = zN (x 11) := by omega
      refine z_aload_n (i := 0) C dX6_freeze_67 rfl rfl ?_
      refine z_getf C f_RX6_28 dX6_freeze_68 hEk.1 rfl ?_
      refine z_aload_n (i := 1) C dX6_freeze_71 rfl rfl ?_
      have hcc : σk 10 n = some (oC 5 [aR 32 n]) := (hfk 10 n (by omega)).trans hc2
      have l2 := lF.ag (σ1 := σk) (fun k9 i9 z => (hfk k9 i9 (by omega)).trans (hf2 k9 i9 (by omega) (by omega)))
      rw [← en] at l2
      refine z_callV C Y_Jx4a65c_add_9ea2d V_Jx4a65c_add_9ea2d ml_RX6_64 (c_Jx4a65c_add_9ea2d l l2 (by omega) (fun i9 hi9 => ⟨_, _, (hfk 10 i9 (by omega)).trans ((hf2 10 i9 (by omega) (by omega)).trans (dF.2.1 i9 (by omega))), elt5⟩) hcc elt5 (fun z => by cases z.1) (fun _ _ z => by cases z.1)) dX6_freeze_72 rfl rfl (zLs.ob l2) ⟨_, _, rfl⟩ (fun _ => Nat.le_of_ble_eq_true rfl) ⟨Nat.le_of_ble_eq_true rfl, Nat.le_of_ble_eq_true rfl⟩ ⟨Nat.le_of_ble_eq_true rfl, Nat.le_of_ble_eq_true rfl⟩ (z_ri (fun r9 σ3 hx => ?_)) (z_nx)
      obtain ⟨rfl, hL3, hlf⟩ := hx
      refine z_pop C (by first | trivial | rfl) dX6_freeze_75 ?_
      have d03 : D0 (x 0) σ3 := (hlf 0 0 (by omega) (by omega)).trans hEk.1
      refine z_aload_n (i := 0) C dX6_freeze_76 rfl rfl ?_
      refine z_getf C f_RX6_28 dX6_freeze_77 d03 rfl ?_
      refine z_callV C Y_Jx4a65c_size_8abf5 V_Jx4a65c_size_8abf5 ml_RX6_51 (c_Jx4a65c_size_8abf5 l hL3) dX6_freeze_80 rfl rfl (zLs.ob hL3) ⟨_, _, rfl⟩ (fun _ => Nat.le_of_ble_eq_true rfl) ⟨Nat.le_of_ble_eq_true rfl, Nat.le_of_ble_eq_true rfl⟩ ⟨Nat.le_of_ble_eq_true rfl, Nat.le_of_ble_eq_true rfl⟩ (z_ri (fun x σ1 hx => ?_)) (z_nx)
      obtain ⟨rfl, rfl⟩ := hx
      refine z_iconst (v := 1) C dX6_freeze_83 (by decide) ?_
      refine z_isub C dX6_freeze_84 ?_
      exact z_iret C hr rfl dX6_freeze_85 (Nat.le_of_ble_eq_true rfl) (Nat.le_of_ble_eq_true rfl) ⟨_, rfl, zDz.ok (by simp only [t9, eq_self, decide_true, decide_false, Bool.and_true, Bool.true_and, Bool.and_false, Bool.false_and, Bool.or_true, Bool.true_or, Bool.or_false, Bool.false_or, Bool.not_true, Bool.not_false, not_true, not_false_eq_true, if_true, if_false]) rfl rfl (by rw [nI_pred]; exact ex.symm) ⟨⟨d03, dA.ag (fun k9 i9 z => (hlf k9 i9 (by omega) (by omega)).trans ((hfk k9 i9 (by omega)).trans (hf2 k9 i9 (by omega) (by omega)))), dR.ag (fun k9 i9 z => (hlf k9 i9 (by omega) (by omega)).trans ((hfk k9 i9 (by omega)).trans (hf2 k9 i9 (by omega) (by omega)))), dS.ag (fun k9 i9 z => (hlf k9 i9 (by omega) (by omega)).trans ((hfk k9 i9 (by omega)).trans (hf2 k9 i9 (by omega) (by omega)))), dC.ag (fun k9 i9 z => (hlf k9 i9 (by omega) (by omega)).trans ((hfk k9 i9 (by omega)).trans (hf2 k9 i9 (by omega) (by omega)))) (fun c9 _ => by apply cnt_cg <;> rfl), dQ.ag (fun k9 i9 z => (hlf k9 i9 (by omega) (by omega)).trans ((hfk k9 i9 (by omega)).trans (hf2 k9 i9 (by omega) (by omega))))⟩, (by show DF (zN (x 29 + 1)) (frz x a (zN (x 29)) (zN (x 11))) _; rw [e1, ← en]; rw [← en] at dF; exact dF.add hL3 ((hlf 10 n (by omega) (by omega)).trans hcc) ((hlf 32 n (by omega) (by omega)).trans hf32) (fun s hs => by rw [ef s hs, frz, ek]; by_cases h9 : s < zN (x 11); (rw [if_pos h9, if_pos (by omega), show 8 * n + s - 8 * n = s by omega]); (rw [if_neg h9, if_neg (by omega)]; exact (hW.2.2.2.2.2.1 _ (by omega)).symm)) (fun t9 h9 => by rw [frz, if_neg (by omega)]) (fun k9 i9 z z1 => (hlf k9 i9 (by omega) (by omega)).trans ((hfk k9 i9 (by omega)).trans (hf2 k9 i9 (by omega) (by omega)))))⟩ (fun k9 i9 z => (hlf k9 i9 (by omega) (by omega)).trans ((hfk k9 i9 (by omega)).trans (hf2 k9 i9 (by omega) (by omega))))⟩
    | succ r ih =>
      intro k σk hk hf9 hfk
      obtain ⟨f, hf32, ef⟩ := hf9
      have hEk : DE x a σk := hE.ag (fun k9 i9 z z1 z2 z3 => (hfk k9 i9 (by omega)).trans (hf2 k9 i9 (by omega) (by omega)))
      have lSk := hEk.2.2.2.1.1
      refine z_iload_n (i := 2) C dX6_freeze_22 rfl rfl ?_
      refine z_aload_n (i := 0) C dX6_freeze_23 rfl rfl ?_
      refine z_getf C f_RX6_19 dX6_freeze_24 hEk.1 rfl ?_
      refine z_callV C Y_Jx4a65c_size_8abf5 V_Jx4a65c_size_8abf5 ml_RX6_51 (c_Jx4a65c_size_8abf5 l lSk) dX6_freeze_27 rfl rfl (zLs.ob lSk) ⟨_, _, rfl⟩ (fun _ => Nat.le_of_ble_eq_true rfl) ⟨Nat.le_of_ble_eq_true rfl, Nat.le_of_ble_eq_true rfl⟩ ⟨Nat.le_of_ble_eq_true rfl, Nat.le_of_ble_eq_true rfl⟩ (z_ri (fun x σ1 hx => ?_)) (z_nx)
      obtain ⟨rfl, hσ9⟩ := hx
      rw [hσ9]
      refine z_icmp_ge (tgt := 67) C dX6_freeze_30 (by decide) (fun h => absurd h (nI_ge (by omega) (by omega))) (fun _ => ?_)
      have h5k := hEk.2.2.2.1.2.1 k (by omega)
      refine z_aload_n (i := 0) C dX6_freeze_33 rfl rfl ?_
      refine z_getf C f_RX6_19 dX6_freeze_34 hEk.1 rfl ?_
      refine z_iload_n (i := 2) C dX6_freeze_37 rfl rfl ?_
      refine z_callV C Y_Jx4a65c_get_915e3 V_Jx4a65c_get_915e3 ml_RX6_171 (c_Jx4a65c_get_915e3 l lSk (i := k) (by omega) (by omega)) dX6_freeze_38 rfl rfl (zLs.ob lSk) ⟨_, _, rfl⟩ (fun _ => Nat.le_of_ble_eq_true rfl) ⟨Nat.le_of_ble_eq_true rfl, Nat.le_of_ble_eq_true rfl⟩ ⟨Nat.le_of_ble_eq_true rfl, Nat.le_of_ble_eq_true rfl⟩ (z_rr (fun r9 σ1 hx => ?_)) (z_nx)
      obtain ⟨rfl, hσ9⟩ := hx
      rw [hσ9]
      refine z_castR C dX6_freeze_41 h5k ⟨_, _, _, rfl, kl_RX6_98⟩ ?_
      refine z_astore_n (i := 3) C dX6_freeze_44 rfl (by decide) ?_
      refine z_aload_n (i := 1) C dX6_freeze_45 rfl rfl ?_
      refine z_getf C f_RX6_235 dX6_freeze_46 ((hfk 10 n (by omega)).trans hc2) rfl ?_
      refine z_aload_n (i := 3) C dX6_freeze_49 rfl rfl ?_
      refine z_getf C f_RX6_115 dX6_freeze_50 h5k rfl ?_
      refine z_aload_n (i := 0) C dX6_freeze_53 rfl rfl ?_
      refine z_aload_n (i := 3) C dX6_freeze_54 rfl rfl ?_
      refine z_callV C Y_X6_forecastNow V_X6_forecastNow ml_RX6_225 (c_X6_forecastNow l hEk hI (t := k) (by omega)) dX6_freeze_55 rfl rfl hEk.1 ⟨_, _, rfl⟩ (fun _ => Nat.le_of_ble_eq_true rfl) ⟨Nat.le_of_ble_eq_true rfl, Nat.le_of_ble_eq_true rfl⟩ ⟨Nat.le_of_ble_eq_true rfl, Nat.le_of_ble_eq_true rfl⟩ (z_ri (fun x σ1 hx => ?_)) (z_nx)
      obtain ⟨rfl, hσ9⟩ := hx
      rw [hσ9]
      refine z_callS C Y_X6_addTo sm_yX6_addTo ml_RX6_118 (c_X6_addTo l hf32 (by decide) (by omega) (by decide)) dX6_freeze_58 rfl rfl (fun _ => Nat.le_of_ble_eq_true rfl) ⟨Nat.le_of_ble_eq_true rfl, Nat.le_of_ble_eq_true rfl⟩ ⟨Nat.le_of_ble_eq_true rfl, Nat.le_of_ble_eq_true rfl⟩ (z_rv (fun σ4 hx => ?_)) (z_nx)
      subst hx
      refine z_iinc C dX6_freeze_61 (by decide) rfl (zinc k) ?_
      refine z_goto (tgt := 22) C dX6_freeze_64 (by decide) ?_
      refine z_sub (L' := [(0, aR 0 0), (1, aR 10 n), (2, aI (nI (k + 1)))]) (zs1 rfl (zs1 rfl (zs1 rfl zs0))) ?_
      refine ih (k + 1) _ (by omega) ⟨_, zput_s _ _ _ _, fun s hs => ?_⟩ (fun k9 i9 z => (zput_n z).trans (hfk k9 i9 z))
      by_cases e : s = k
      · subst e
        rw [upd_at, ef s hs, if_neg (by omega), if_pos (by omega)]
        exact Int32.zero_add _
      · rw [upd_ne e, ef s hs]
        by_cases h9 : s < k
        · rw [if_pos h9, if_pos (by omega)]
        · rw [if_neg h9, if_neg (by omega)]
  refine z_astore_n (i := 1) C dX6_freeze_19 rfl (by decide) ?_
  refine z_iconst (v := 0) C dX6_freeze_20 (by decide) ?_
  refine z_istore_n (i := 2) C dX6_freeze_21 rfl (by decide) ?_
  refine z_sub (L' := [(0, aR 0 0), (1, aR 10 n), (2, aI (nI 0))]) (zs1 rfl (zs1 rfl (zs1 rfl zs0))) ?_
  exact lp (zN (x 11)) 0 σ2 (Nat.zero_add _) ⟨_, h32, fun s hs => by rw [if_neg (by omega)]⟩ (fun _ _ _ => rfl)

