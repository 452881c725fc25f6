/-! the reference: regions, quotes that count, forecasts -/
section ML2
variable {X : zX} {p : Program} {l : Launch} {e : Env} {s : State} {m : MethodId} {args : Array Value} {below : List Frame} {meth : Method} {c : Code} {nL : Nat} {σ0 σ : zHp} {loc0 : zK → Nat} {Q : State → Prop} {mc ms : Nat}
set_option maxRecDepth 100000 in
set_option maxHeartbeats 4000000 in
theorem lp_region (C : zC X p l s m args meth c cX7_region 3 yX7_region.cls) {x : Nat → Int32} {a : Nat → Nat → Int32} (hM : MD x a σ) (hI : zInv x a) {j : Nat} {r : Int32} (kk : zG X p l e (zRm 2 mc ms) s m args below meth c 3 σ0 loc0 Q 0 0 σ 40 [(0, aR 12 0)] [aI r]) : ∀ (f i : Nat), i < f → i < zN (x 1) → regF x a f i = r → zG X p l e (zRm 2 mc ms) s m args below meth c 3 σ0 loc0 Q 0 0 σ 2 [(0, aR 12 0), (1, aI (nI j)), (2, aI (nI i))] [] := by
  obtain ⟨i0, i1, i6, i11, i15, i23, i24, i29, iA, iS, iC, iQ, iP⟩ := id hI
  have b1 := i1.2
  have b6 := i6.2
  have b11 := i11.2
  have b15 := i15.2
  have b23 := i23.2
  have b24 := i24.2
  have b29 := i29.2
  intro f
  induction f with
  | zero =>
    intro i h
    omega
  | succ f ih =>
    intro i hi hn hr
    refine z_iload_n (i := 2) C dX7_region_2 rfl rfl ?_
    refine z_iconst (v := -1) C dX7_region_3 (by decide) ?_
    refine z_icmp_eq (tgt := 26) C dX7_region_4 (by decide) (fun h => absurd h (nI_nm1 (by omega))) (fun _ => ?_)
    refine z_aload_n (i := 0) C dX7_region_7 rfl rfl ?_
    refine z_iload_n (i := 2) C dX7_region_8 rfl rfl ?_
    refine z_callV C Y_X7_ownRegion V_X7_ownRegion ml_RX7_115 (c_X7_ownRegion l hM hI (i := i) (by omega)) dX7_region_9 rfl rfl hM.1 ⟨_, _, rfl⟩ (fun _ => Nat.le_of_ble_eq_true rfl) ⟨Nat.le_of_ble_eq_true rfl, Nat.le_of_ble_eq_true rfl⟩ ⟨Nat.zero_le _, Nat.zero_le _⟩ (z_ri (fun x σ1 hx => ?_)) (z_nx)
    obtain ⟨rfl, rfl⟩ := hx
    refine z_iconst (v := -1) C dX7_region_12 (by decide) ?_
    refine z_icmp_ne (tgt := 26) C dX7_region_13 (by decide) (fun hne => ?_) (fun heq => ?_)
    · refine z_iload_n (i := 2) C dX7_region_26 rfl rfl ?_
      refine z_iconst (v := -1) C dX7_region_27 (by decide) ?_
      refine z_icmp_ne (tgt := 35) C dX7_region_28 (by decide) (fun _ => ?_) (fun h => absurd h (nI_nm1 (by omega)))
      refine z_aload_n (i := 0) C dX7_region_35 rfl rfl ?_
      refine z_iload_n (i := 2) C dX7_region_36 rfl rfl ?_
      refine z_callV C Y_X7_ownRegion V_X7_ownRegion ml_RX7_115 (c_X7_ownRegion l hM hI (i := i) (by omega)) dX7_region_37 rfl rfl hM.1 ⟨_, _, rfl⟩ (fun _ => Nat.le_of_ble_eq_true rfl) ⟨Nat.le_of_ble_eq_true rfl, Nat.le_of_ble_eq_true rfl⟩ ⟨Nat.zero_le _, Nat.zero_le _⟩ (z_ri (fun x σ1 hx => ?_)) (z_nx)
      obtain ⟨rfl, rfl⟩ := hx
      refine z_sub (L' := [(0, aR 12 0)]) (zs1 rfl zs0) ?_
      rw [show ownR x a i = r by rw [← hr, regF, if_neg hne]]
      exact kk
    · refine z_aload_n (i := 0) C dX7_region_16 rfl rfl ?_
      refine z_getf C f_RX7_7 dX7_region_17 hM.1 rfl ?_
      refine z_iload_n (i := 2) C dX7_region_20 rfl rfl ?_
      refine z_ialdN C dX7_region_21 (hM.2 2 (by decide)) (show _ < 16 by omega) (by decide) ?_
      refine z_istore_n (i := 2) C dX7_region_22 rfl (by decide) ?_
      refine z_goto (tgt := 2) C dX7_region_23 (by decide) ?_
      rcases iA i hn with hu | ⟨j2, hj2, hu⟩
      · rw [hu]
        refine z_iload_n (i := 2) C dX7_region_2 rfl rfl ?_
        refine z_iconst (v := -1) C dX7_region_3 (by decide) ?_
        refine z_icmp_eq (tgt := 26) C dX7_region_4 (by decide) (fun _ => ?_) (fun h => absurd rfl h)
        refine z_iload_n (i := 2) C dX7_region_26 rfl rfl ?_
        refine z_iconst (v := -1) C dX7_region_27 (by decide) ?_
        refine z_icmp_ne (tgt := 35) C dX7_region_28 (by decide) (fun h => absurd rfl h) (fun _ => ?_)
        refine z_iconst (v := 0) C dX7_region_31 (by decide) ?_
        refine z_goto (tgt := 40) C dX7_region_32 (by decide) ?_
        refine z_sub (L' := [(0, aR 12 0)]) (zs1 rfl zs0) ?_
        rw [show (0 : Int32) = r by rw [← hr, regF, if_pos heq, if_pos hu]]
        exact kk
      · rw [hu]
        refine z_sub (L' := [(0, aR 12 0), (1, aI (nI j)), (2, aI (nI j2))]) (zs1 rfl (zs1 rfl (zs1 rfl zs0))) ?_
        refine ih j2 (by omega) (by omega) ?_
        rw [← hr, regF, if_pos heq, if_neg (by rw [hu]; exact nI_nm1 (by omega)), hu, zN_nI (by omega)]

theorem cntL_rng (a : Nat → Nat → Int32) (q : Int32) : ∀ k, cntL a q k = -1 ∨ ∃ j, j < k ∧ cntL a q k = nI j
  | 0 => Or.inl rfl
  | k + 1 => by
    rw [cntL]
    cases cntC a q k (cntL a q k) with
    | true => exact Or.inr ⟨k, by omega, rfl⟩
    | false =>
      rcases cntL_rng a q k with h | ⟨j, hj, h⟩
      · exact Or.inl h
      · exact Or.inr ⟨j, by omega, h⟩
set_option maxRecDepth 100000 in
set_option maxHeartbeats 4000000 in
theorem lp_counts (C : zC X p l s m args meth c cX7_counts 5 yX7_counts.cls) {x : Nat → Int32} {a : Nat → Nat → Int32} (hM : MD x a σ) (hI : zInv x a) {q : Int32} (kk : zG X p l e (zRm 0 mc ms) s m args below meth c 5 σ0 loc0 Q 0 0 σ 75 [(0, aR 12 0), (2, aI (cntL a q (zN (x 23))))] []) : ∀ (r k : Nat) (f : Int32), k + r = zN (x 23) → f = cntL a q k → zG X p l e (zRm 0 mc ms) s m args below meth c 5 σ0 loc0 Q 0 0 σ 4 [(0, aR 12 0), (1, aI q), (2, aI f), (3, aI (nI k))] [] := by
  obtain ⟨i0, i1, i6, i11, i15, i23, i24, i29, iA, iS, iC, iQ, iP⟩ := id hI
  have b1 := i1.2
  have b6 := i6.2
  have b11 := i11.2
  have b15 := i15.2
  have b23 := i23.2
  have b24 := i24.2
  have b29 := i29.2
  intro r
  induction r with
  | zero =>
    intro k f hk hf
    refine z_iload_n (i := 3) C dX7_counts_4 rfl rfl ?_
    refine z_aload_n (i := 0) C dX7_counts_5 rfl rfl ?_
    refine z_getf C f_RX7_133 dX7_counts_6 hM.1 rfl ?_
    have ek : k = zN (x 23) := by omega
    refine z_icmp_ge (tgt := 75) C dX7_counts_9 (by decide) (fun _ => ?_) (fun h => absurd (by rw [i23.1, ek]; exact Int32.le_refl _) h)
    subst ek
    subst hf
    refine z_sub (L' := [(0, aR 12 0), (2, aI (cntL a q (zN (x 23))))]) (zs1 rfl (zs1 rfl zs0)) ?_
    exact kk
  | succ r ih =>
    intro k f hk hf
    refine z_iload_n (i := 3) C dX7_counts_4 rfl rfl ?_
    refine z_aload_n (i := 0) C dX7_counts_5 rfl rfl ?_
    refine z_getf C f_RX7_133 dX7_counts_6 hM.1 rfl ?_
    refine z_icmp_ge (tgt := 75) C dX7_counts_9 (by decide) (fun h => absurd h (by rw [i23.1]; exact nI_ge (by omega) (by omega))) (fun _ => ?_)
    refine z_aload_n (i := 0) C dX7_counts_12 rfl rfl ?_
    refine z_getf C f_RX7_64 dX7_counts_13 hM.1 rfl ?_
    refine z_iload_n (i := 3) C dX7_counts_16 rfl rfl ?_
    refine z_ialdN C dX7_counts_17 (hM.2 25 (by decide)) (show _ < 40 by omega) (by decide) ?_
    refine z_iload_n (i := 1) C dX7_counts_18 rfl rfl ?_
    refine z_icmp_ne (tgt := 55) C dX7_counts_19 (by decide) (fun h1 => ?_) (fun h1 => ?_)
    · refine z_iconst (v := 0) C dX7_counts_55 (by decide) ?_
      refine z_istore C dX7_counts_56 (by decide) ?_
      refine z_iload C dX7_counts_58 rfl ?_
      refine z_if_eq (tgt := 67) C dX7_counts_60 (by decide) (fun _ => ?_) (fun h => absurd rfl h)
      refine z_iload_n (i := 2) C dX7_counts_67 rfl rfl ?_
      refine z_istore_n (i := 2) C dX7_counts_68 rfl (by decide) ?_
      refine z_iinc C dX7_counts_69 (by decide) rfl (zinc k) ?_
      refine z_goto (tgt := 4) C dX7_counts_72 (by decide) ?_
      refine z_sub (L' := [(0, aR 12 0), (1, aI q), (2, aI f), (3, aI (nI (k + 1)))]) (zs1 rfl (zs1 rfl (zs1 rfl (zs1 rfl zs0)))) ?_
      exact ih _ _ (by omega) (by rw [cntL, ← hf]; show _ = cond (cntC a q k f) _ _; rw [show cntC a q k f = false by simp [cntC, h1]]; rfl)
    · refine z_aload_n (i := 0) C dX7_counts_22 rfl rfl ?_
      refine z_getf C f_RX7_73 dX7_counts_23 hM.1 rfl ?_
      refine z_iload_n (i := 3) C dX7_counts_26 rfl rfl ?_
      refine z_ialdN C dX7_counts_27 (hM.2 28 (by decide)) (show _ < 40 by omega) (by decide) ?_
      refine z_if_le (tgt := 55) C dX7_counts_28 (by decide) (fun h2 => ?_) (fun h2 => ?_)
      · refine z_iconst (v := 0) C dX7_counts_55 (by decide) ?_
        refine z_istore C dX7_counts_56 (by decide) ?_
        refine z_iload C dX7_counts_58 rfl ?_
        refine z_if_eq (tgt := 67) C dX7_counts_60 (by decide) (fun _ => ?_) (fun h => absurd rfl h)
        refine z_iload_n (i := 2) C dX7_counts_67 rfl rfl ?_
        refine z_istore_n (i := 2) C dX7_counts_68 rfl (by decide) ?_
        refine z_iinc C dX7_counts_69 (by decide) rfl (zinc k) ?_
        refine z_goto (tgt := 4) C dX7_counts_72 (by decide) ?_
        refine z_sub (L' := [(0, aR 12 0), (1, aI q), (2, aI f), (3, aI (nI (k + 1)))]) (zs1 rfl (zs1 rfl (zs1 rfl (zs1 rfl zs0)))) ?_
        exact ih _ _ (by omega) (by rw [cntL, ← hf]; show _ = cond (cntC a q k f) _ _; rw [show cntC a q k f = false by simp [cntC, Int32.not_lt.mpr h2]]; rfl)
      · refine z_iload_n (i := 2) C dX7_counts_31 rfl rfl ?_
        refine z_iconst (v := -1) C dX7_counts_32 (by decide) ?_
        have h2 := Int32.not_le.mp h2
        refine z_icmp_eq (tgt := 51) C dX7_counts_33 (by decide) (fun h3 => ?_) (fun h3 => ?_)
        · refine z_iconst (v := 1) C dX7_counts_51 (by decide) ?_
          refine z_goto (tgt := 56) C dX7_counts_52 (by decide) ?_
          refine z_istore C dX7_counts_56 (by decide) ?_
          refine z_iload C dX7_counts_58 rfl ?_
          refine z_if_eq (tgt := 67) C dX7_counts_60 (by decide) (fun h => absurd h (by decide)) (fun _ => ?_)
          refine z_iload_n (i := 3) C dX7_counts_63 rfl rfl ?_
          refine z_goto (tgt := 68) C dX7_counts_64 (by decide) ?_
          refine z_istore_n (i := 2) C dX7_counts_68 rfl (by decide) ?_
          refine z_iinc C dX7_counts_69 (by decide) rfl (zinc k) ?_
          refine z_goto (tgt := 4) C dX7_counts_72 (by decide) ?_
          refine z_sub (L' := [(0, aR 12 0), (1, aI q), (2, aI (nI k)), (3, aI (nI (k + 1)))]) (zs1 rfl (zs1 rfl (zs1 rfl (zs1 rfl zs0)))) ?_
          exact ih _ _ (by omega) (by rw [cntL, ← hf]; show _ = cond (cntC a q k f) _ _; rw [show cntC a q k f = true by simp [cntC, h1, h2, h3]]; rfl)
        · obtain ⟨j, hj, ej⟩ : ∃ j, j < k ∧ f = nI j := by
            rcases cntL_rng a q k with h | h
            · exact absurd (hf.trans h) h3
            · obtain ⟨j, hj, e⟩ := h; exact ⟨j, hj, hf.trans e⟩
          refine z_aload_n (i := 0) C dX7_counts_36 rfl rfl ?_
          refine z_getf C f_RX7_73 dX7_counts_37 hM.1 rfl ?_
          refine z_iload_n (i := 3) C dX7_counts_40 rfl rfl ?_
          refine z_ialdN C dX7_counts_41 (hM.2 28 (by decide)) (show _ < 40 by omega) (by decide) ?_
          refine z_aload_n (i := 0) C dX7_counts_42 rfl rfl ?_
          refine z_getf C f_RX7_73 dX7_counts_43 hM.1 rfl ?_
          refine z_iload_n (i := 2) C dX7_counts_46 rfl rfl ?_
          refine z_iald C dX7_counts_47 (hM.2 28 (by decide)) (by rw [ej]; exact vp_in_nI (show j < 40 by omega) (by decide)) ?_
          refine z_icmp_le (tgt := 55) C dX7_counts_48 (by decide) (fun h4 => ?_) (fun h4 => ?_)
          · refine z_iconst (v := 0) C dX7_counts_55 (by decide) ?_
            refine z_istore C dX7_counts_56 (by decide) ?_
            refine z_iload C dX7_counts_58 rfl ?_
            refine z_if_eq (tgt := 67) C dX7_counts_60 (by decide) (fun _ => ?_) (fun h => absurd rfl h)
            refine z_iload_n (i := 2) C dX7_counts_67 rfl rfl ?_
            refine z_istore_n (i := 2) C dX7_counts_68 rfl (by decide) ?_
            refine z_iinc C dX7_counts_69 (by decide) rfl (zinc k) ?_
            refine z_goto (tgt := 4) C dX7_counts_72 (by decide) ?_
            refine z_sub (L' := [(0, aR 12 0), (1, aI q), (2, aI f), (3, aI (nI (k + 1)))]) (zs1 rfl (zs1 rfl (zs1 rfl (zs1 rfl zs0)))) ?_
            exact ih _ _ (by omega) (by rw [cntL, ← hf]; show _ = cond (cntC a q k f) _ _; rw [show cntC a q k f = false by simp [cntC, h3, Int32.not_lt.mpr (show a 28 k ≤ a 28 (zN f) from h4)]]; rfl)
          · refine z_iconst (v := 1) C dX7_counts_51 (by decide) ?_
            refine z_goto (tgt := 56) C dX7_counts_52 (by decide) ?_
            refine z_istore C dX7_counts_56 (by decide) ?_
            refine z_iload C dX7_counts_58 rfl ?_
            refine z_if_eq (tgt := 67) C dX7_counts_60 (by decide) (fun h => absurd h (by decide)) (fun _ => ?_)
            refine z_iload_n (i := 3) C dX7_counts_63 rfl rfl ?_
            refine z_goto (tgt := 68) C dX7_counts_64 (by decide) ?_
            refine z_istore_n (i := 2) C dX7_counts_68 rfl (by decide) ?_
            refine z_iinc C dX7_counts_69 (by decide) rfl (zinc k) ?_
            refine z_goto (tgt := 4) C dX7_counts_72 (by decide) ?_
            refine z_sub (L' := [(0, aR 12 0), (1, aI q), (2, aI (nI k)), (3, aI (nI (k + 1)))]) (zs1 rfl (zs1 rfl (zs1 rfl (zs1 rfl zs0)))) ?_
            exact ih _ _ (by omega) (by rw [cntL, ← hf]; show _ = cond (cntC a q k f) _ _; rw [show cntC a q k f = true by simp [cntC, h1, h2, Int32.not_le.mp (show ¬ a 28 k ≤ a 28 (zN f) from h4)]]; rfl)

set_option maxRecDepth 100000 in
set_option maxHeartbeats 4000000 in
theorem lp_isAbove (C : zC X p l s m args meth c cX7_isAbove 4 yX7_isAbove.cls) {x : Nat → Int32} {a : Nat → Nat → Int32} (hM : MD x a σ) (hI : zInv x a) {t : Nat} {r : Bool} (ht : t < 8) (kk : zG X p l e (zRm 0 mc ms) s m args below meth c 4 σ0 loc0 Q 0 0 σ 37 [(0, aR 12 0)] [aI (zb r)]) : ∀ (F : Nat) (h : Int32), zUp h F → F ≤ zN (x 11) → abvF a (nI t) F h = r → zG X p l e (zRm 0 mc ms) s m args below meth c 4 σ0 loc0 Q 0 0 σ 7 [(0, aR 12 0), (1, aI (nI t)), (3, aI h)] [] := by
  obtain ⟨i0, i1, i6, i11, i15, i23, i24, i29, iA, iS, iC, iQ, iP⟩ := id hI
  have b1 := i1.2
  have b6 := i6.2
  have b11 := i11.2
  have b15 := i15.2
  have b23 := i23.2
  have b24 := i24.2
  have b29 := i29.2
  intro F
  induction F with
  | zero =>
    intro h hu hF hr
    rcases hu with rfl | ⟨j, hj, -⟩
    · refine z_iload_n (i := 3) C dX7_isAbove_7 rfl rfl ?_
      refine z_iconst (v := -1) C dX7_isAbove_8 (by decide) ?_
      refine z_icmp_eq (tgt := 27) C dX7_isAbove_9 (by decide) (fun _ => ?_) (fun h => absurd rfl h)
      refine z_iload_n (i := 3) C dX7_isAbove_27 rfl rfl ?_
      refine z_iload_n (i := 1) C dX7_isAbove_28 rfl rfl ?_
      refine z_icmp_ne (tgt := 36) C dX7_isAbove_29 (by decide) (fun _ => ?_) (fun h => absurd h.symm (nI_nm1 (by omega)))
      refine z_iconst (v := 0) C dX7_isAbove_36 (by decide) ?_
      refine z_sub (L' := [(0, aR 12 0)]) (zs1 rfl zs0) ?_
      rw [show (0 : Int32) = zb r by rw [← hr]; rfl]
      exact kk
    · omega
  | succ F ih =>
    intro h hu hF hr
    rcases hu with rfl | ⟨j, hj, rfl⟩
    · refine z_iload_n (i := 3) C dX7_isAbove_7 rfl rfl ?_
      refine z_iconst (v := -1) C dX7_isAbove_8 (by decide) ?_
      refine z_icmp_eq (tgt := 27) C dX7_isAbove_9 (by decide) (fun _ => ?_) (fun h => absurd rfl h)
      refine z_iload_n (i := 3) C dX7_isAbove_27 rfl rfl ?_
      refine z_iload_n (i := 1) C dX7_isAbove_28 rfl rfl ?_
      refine z_icmp_ne (tgt := 36) C dX7_isAbove_29 (by decide) (fun _ => ?_) (fun h => absurd h.symm (nI_nm1 (by omega)))
      refine z_iconst (v := 0) C dX7_isAbove_36 (by decide) ?_
      refine z_sub (L' := [(0, aR 12 0)]) (zs1 rfl zs0) ?_
      rw [show (0 : Int32) = zb r by rw [← hr]; rfl]
      exact kk
    · refine z_iload_n (i := 3) C dX7_isAbove_7 rfl rfl ?_
      refine z_iconst (v := -1) C dX7_isAbove_8 (by decide) ?_
      refine z_icmp_eq (tgt := 27) C dX7_isAbove_9 (by decide) (fun h => absurd h (nI_nm1 (by omega))) (fun _ => ?_)
      refine z_iload_n (i := 3) C dX7_isAbove_12 rfl rfl ?_
      refine z_iload_n (i := 1) C dX7_isAbove_13 rfl rfl ?_
      refine z_icmp_eq (tgt := 27) C dX7_isAbove_14 (by decide) (fun he => ?_) (fun he => ?_)
      · refine z_iload_n (i := 3) C dX7_isAbove_27 rfl rfl ?_
        refine z_iload_n (i := 1) C dX7_isAbove_28 rfl rfl ?_
        refine z_icmp_ne (tgt := 36) C dX7_isAbove_29 (by decide) (fun h => absurd he h) (fun _ => ?_)
        refine z_iconst (v := 1) C dX7_isAbove_32 (by decide) ?_
        refine z_goto (tgt := 37) C dX7_isAbove_33 (by decide) ?_
        refine z_sub (L' := [(0, aR 12 0)]) (zs1 rfl zs0) ?_
        rw [show (1 : Int32) = zb r by rw [← hr, abvF, if_neg (nI_nm1 (by omega)), if_pos he]; rfl]
        exact kk
      · refine z_aload_n (i := 0) C dX7_isAbove_17 rfl rfl ?_
        refine z_getf C f_RX7_34 dX7_isAbove_18 hM.1 rfl ?_
        refine z_iload_n (i := 3) C dX7_isAbove_21 rfl rfl ?_
        refine z_ialdN C dX7_isAbove_22 (hM.2 12 (by decide)) (show _ < 8 by omega) (by decide) ?_
        refine z_istore_n (i := 3) C dX7_isAbove_23 rfl (by decide) ?_
        refine z_goto (tgt := 7) C dX7_isAbove_24 (by decide) ?_
        refine z_sub (L' := [(0, aR 12 0), (1, aI (nI t)), (3, aI (a 12 j))]) (zs1 rfl (zs1 rfl (zs1 rfl zs0))) ?_
        refine ih _ ?_ (by omega) ?_
        · rcases iS j (by omega) with h | ⟨j2, hj2, h⟩
          · exact Or.inl h
          · exact Or.inr ⟨j2, by omega, h⟩
        · rw [← hr, abvF, if_neg (nI_nm1 (by omega)), if_neg he, zN_nI (by omega)]

end ML2
set_option maxRecDepth 100000 in
set_option maxHeartbeats 4000000 in
theorem c_X7_region {X : zX} (l : Launch) {x : Nat → Int32} {a : Nat → Nat → Int32} {σ : zHp} (hM : MD x a σ) (hI : zInv x a) {i : Nat} (hi : i < zN (x 1)) : zM X l yX7_region cX7_region 3 (some .int) 2 0 0 [aR 12 0, aI (nI i)] σ (zPi (fun r σ1 => r = regS x a i ∧ σ1 = σ)) zNx := by
  refine zM.of (by decide +kernel) (Nat.le_of_ble_eq_true rfl) (by simp [zcat, Value.category]) ?_
  intro p e s m args below meth c loc0 C hr hnm hT
  refine z_iload_n (i := 1) C dX7_region_0 rfl rfl ?_
  refine z_istore_n (i := 2) C dX7_region_1 rfl (by decide) ?_
  refine z_sub (L' := [(0, aR 12 0), (1, aI (nI i)), (2, aI (nI i))]) (zs1 rfl (zs1 rfl (zs1 rfl zs0))) ?_
  refine lp_region C hM hI (r := regS x a i) ?_ (i + 1) i (by omega) hi rfl
  exact z_iret C hr rfl dX7_region_40 (Nat.le_of_ble_eq_true rfl) (Nat.le_of_ble_eq_true rfl) ⟨_, rfl, rfl, rfl⟩

set_option maxRecDepth 100000 in
set_option maxHeartbeats 4000000 in
theorem c_X7_counts {X : zX} (l : Launch) {x : Nat → Int32} {a : Nat → Nat → Int32} {σ : zHp} (hM : MD x a σ) (hI : zInv x a) {q : Int32} : zM X l yX7_counts cX7_counts 5 (some .int) 0 0 0 [aR 12 0, aI q] σ (zPi (fun r σ1 => r = cnt x a q ∧ σ1 = σ)) zNx := by
  refine zM.of (by decide +kernel) (Nat.le_of_ble_eq_true rfl) (by simp [zcat, Value.category]) ?_
  intro p e s m args below meth c loc0 C hr hnm hT
  refine z_iconst (v := -1) C dX7_counts_0 (by decide) ?_
  refine z_istore_n (i := 2) C dX7_counts_1 rfl (by decide) ?_
  refine z_iconst (v := 0) C dX7_counts_2 (by decide) ?_
  refine z_istore_n (i := 3) C dX7_counts_3 rfl (by decide) ?_
  refine z_sub (L' := [(0, aR 12 0), (1, aI q), (2, aI (-1)), (3, aI (nI 0))]) (zs1 rfl (zs1 rfl (zs1 rfl (zs1 rfl zs0)))) ?_
  refine lp_counts C hM hI ?_ (zN (x 23)) 0 (-1) (by omega) rfl
  refine z_iload_n (i := 2) C dX7_counts_75 rfl rfl ?_
  exact z_iret C hr rfl dX7_counts_76 (Nat.le_of_ble_eq_true rfl) (Nat.le_of_ble_eq_true rfl) ⟨_, rfl, rfl, rfl⟩

set_option maxRecDepth 100000 in
set_option maxHeartbeats 4000000 in
theorem c_X7_isAbove {X : zX} (l : Launch) {x : Nat → Int32} {a : Nat → Nat → Int32} {σ : zHp} (hM : MD x a σ) (hI : zInv x a) {t i : Nat} (ht : t < 8) (hi : i < zN (x 11)) : zM X l yX7_isAbove cX7_isAbove 4 (some .boolean) 0 0 0 [aR 12 0, aI (nI t), aI (nI i)] σ (zPi (fun r σ1 => r = zb (abvB a (nI t) i) ∧ σ1 = σ)) zNx := by
  obtain ⟨i0, i1, i6, i11, i15, i23, i24, i29, iA, iS, iC, iQ, iP⟩ := id hI
  have b1 := i1.2
  have b6 := i6.2
  have b11 := i11.2
  have b15 := i15.2
  have b23 := i23.2
  have b24 := i24.2
  have b29 := i29.2
  refine zM.of (by decide +kernel) (Nat.le_of_ble_eq_true rfl) (by simp [zcat, Value.category]) ?_
  intro p e s m args below meth c loc0 C hr hnm hT
  refine z_aload_n (i := 0) C dX7_isAbove_0 rfl rfl ?_
  refine z_getf C f_RX7_34 dX7_isAbove_1 hM.1 rfl ?_
  refine z_iload_n (i := 2) C dX7_isAbove_4 rfl rfl ?_
  refine z_ialdN C dX7_isAbove_5 (hM.2 12 (by decide)) (show _ < 8 by omega) (by decide) ?_
  refine z_istore_n (i := 3) C dX7_isAbove_6 rfl (by decide) ?_
  refine z_sub (L' := [(0, aR 12 0), (1, aI (nI t)), (3, aI (a 12 i))]) (zs1 rfl (zs1 rfl (zs1 rfl zs0))) ?_
  refine lp_isAbove C hM hI (r := abvB a (nI t) i) ht ?_ (i + 1) (a 12 i) ?_ (by omega) rfl
  · exact z_iret C hr (by cases abvB a (nI t) i <;> rfl) dX7_isAbove_37 (Nat.le_of_ble_eq_true rfl) (Nat.le_of_ble_eq_true rfl) ⟨_, rfl, rfl, rfl⟩
  · rcases iS i hi with h | ⟨j2, hj2, h⟩
    · exact Or.inl h
    · exact Or.inr ⟨j2, by omega, h⟩

