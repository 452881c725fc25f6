/-! the reference: the public methods with loops -/
theorem stlL_x {x : Nat → Int32} {a : Nat → Nat → Int32} {k d : Int32} : ∀ n, stlL (upd x 31 k) a d n = stlL x a d n
  | 0 => rfl
  | n + 1 => by
    simp only [stlL, stlL_x n]
    rfl
theorem inrL_x {x : Nat → Int32} {a : Nat → Nat → Int32} {k w t : Int32} : ∀ n, inrL (upd x 31 k) a w t n = inrL x a w t n
  | 0 => rfl
  | n + 1 => by
    have e : rgnC (upd x 31 k) a n = rgnC x a n := by simp only [rgnC, regS_x]
    simp only [inrL, inrL_x n, e]
    rfl
theorem wonL_x {x : Nat → Int32} {a : Nat → Nat → Int32} {k t : Int32} : ∀ n, wonL (upd x 31 k) a t n = wonL x a t n
  | 0 => rfl
  | n + 1 => by
    simp only [wonL, wonL_x n]
    rfl
section Llp_stalled
variable {X : zX} {p : Program} {l : Launch} {e : Env} {s : State} {m : MethodId} {args : Array Value} {below : List Frame} {meth : Method} {c : Code} {nL : Nat} {σ0 σ : zHp} {loc0 : zK → Nat} {Q : State → Prop} {mc ms : Nat}
set_option maxRecDepth 100000 in
set_option maxHeartbeats 4000000 in
theorem lp_stalled (C : zC X p l s m args meth c cX7_stalled 5 yX7_stalled.cls) {x : Nat → Int32} {a : Nat → Nat → Int32} (hM : MD x a σ) (hI : zInv x a) {d : Int32} (kk : zG X p l e (zRm 2 mc ms) s m args below meth c 5 σ0 loc0 Q 0 0 σ 71 [(2, aI (stlL x a d (zN (x 15))))] []) : ∀ (r k : Nat) (f : Int32), k + r = zN (x 15) → f = stlL x a d k → zG X p l e (zRm 2 mc ms) s m args below meth c 5 σ0 loc0 Q 0 0 σ 19 [(0, aR 12 0), (1, aI d), (2, aI f), (3, aI (zb true)), (4, aI (nI k))] [] := by
  obtain ⟨i0, i1, i6, i11, i15, i23, i24, i29, iA, iS, iC, iQ, iP⟩ := id hI
  have b1 := i1.2
  have b6 := i6.2
  have b11 := i11.2
  have b15 := i15.2
  have b23 := i23.2
  have b24 := i24.2
  have b29 := i29.2
  intro r
  induction r with
  | zero =>
    intro k f hk hf
    refine z_iload C dX7_stalled_19 rfl ?_
    refine z_aload_n (i := 0) C dX7_stalled_21 rfl rfl ?_
    refine z_getf C f_RX7_93 dX7_stalled_22 hM.1 rfl ?_
    have ek : k = zN (x 15) := by omega
    refine z_icmp_ge (tgt := 71) C dX7_stalled_25 (by decide) (fun _ => ?_) (fun h => absurd (by rw [i15.1, ek]; exact Int32.le_refl _) h)
    subst ek
    subst hf
    refine z_sub (L' := [(2, aI (stlL x a d (zN (x 15))))]) (zs1 rfl zs0) ?_
    exact kk
  | succ r ih =>
    intro k f hk hf
    subst hf
    refine z_iload C dX7_stalled_19 rfl ?_
    refine z_aload_n (i := 0) C dX7_stalled_21 rfl rfl ?_
    refine z_getf C f_RX7_93 dX7_stalled_22 hM.1 rfl ?_
    refine z_icmp_ge (tgt := 71) C dX7_stalled_25 (by decide) (fun h => absurd h (by rw [i15.1]; exact nI_ge (by omega) (by omega))) (fun _ => ?_)
    refine z_iload_n (i := 3) C dX7_stalled_28 rfl rfl ?_
    refine z_if_eqB (tgt := 71) C dX7_stalled_29 (by decide) (fun h => by cases h) (fun _ => ?_)
    refine z_iload_n (i := 2) C dX7_stalled_32 rfl rfl ?_
    refine z_join (pc' := 63) (L' := [(0, aR 12 0), (1, aI d), (2, aI (stlL x a d k)), (3, aI (zb true)), (4, aI (nI k))]) (st' := [aI (cond (opnB a k && decide (d < x 0 - a 19 k)) 1 0), aI (stlL x a d k)]) (fun kk => ?_) ?_
    · refine z_aload_n (i := 0) C dX7_stalled_33 rfl rfl ?_
      refine z_iload C dX7_stalled_34 rfl ?_
      refine z_callV C Y_X7_isOpen V_X7_isOpen ml_RX7_130 (c_X7_isOpen l hM (i := k) (by omega)) dX7_stalled_36 rfl rfl hM.1 ⟨_, _, rfl⟩ (fun _ => Nat.le_of_ble_eq_true rfl) ⟨Nat.le_of_ble_eq_true rfl, Nat.le_of_ble_eq_true rfl⟩ ⟨Nat.zero_le _, Nat.zero_le _⟩ (z_ri (fun x σ1 hx => ?_)) (z_nx)
      obtain ⟨rfl, rfl⟩ := hx
      refine z_if_eqB (tgt := 62) C dX7_stalled_39 (by decide) (fun h39 => ?_) (fun h39 => ?_)
      · refine z_iconst (v := 0) C dX7_stalled_62 (by decide) ?_
        exact z_subK (z_top (by simp only [h39, cond_true, cond_false, eq_self, decide_true, decide_false, Bool.and_true, Bool.true_and, Bool.and_false, Bool.false_and, Bool.or_true, Bool.true_or, Bool.or_false, Bool.false_or, Bool.not_true, Bool.not_false, not_true, not_false_eq_true, if_true, if_false]) kk) (zs1 rfl (zs1 rfl (zs1 rfl (zs1 rfl (zs1 rfl zs0)))))
      · refine z_aload_n (i := 0) C dX7_stalled_42 rfl rfl ?_
        refine z_getf C f_RX7_96 dX7_stalled_43 hM.1 rfl ?_
        refine z_aload_n (i := 0) C dX7_stalled_46 rfl rfl ?_
        refine z_getf C f_RX7_52 dX7_stalled_47 hM.1 rfl ?_
        refine z_iload C dX7_stalled_50 rfl ?_
        refine z_ialdW C dX7_stalled_52 hM 19 (by decide) (by first | rfl | exact i15.1 | exact i1.1 | exact i11.1 | exact i23.1 | exact i6.1) (show _ < 30 by omega) ?_
        refine z_isub C dX7_stalled_53 ?_
        refine z_iload_n (i := 1) C dX7_stalled_54 rfl rfl ?_
        refine z_icmp_le (tgt := 62) C dX7_stalled_55 (by decide) (fun h55 => ?_) (fun h55 => ?_)
        · have g55 := Int32.not_lt.mpr h55
          refine z_iconst (v := 0) C dX7_stalled_62 (by decide) ?_
          exact z_subK (z_top (by simp only [h39, h55, g55, cond_true, cond_false, eq_self, decide_true, decide_false, Bool.and_true, Bool.true_and, Bool.and_false, Bool.false_and, Bool.or_true, Bool.true_or, Bool.or_false, Bool.false_or, Bool.not_true, Bool.not_false, not_true, not_false_eq_true, if_true, if_false]) kk) (zs1 rfl (zs1 rfl (zs1 rfl (zs1 rfl (zs1 rfl zs0)))))
        · have g55 := Int32.not_le.mp h55
          refine z_iconst (v := 1) C dX7_stalled_58 (by decide) ?_
          refine z_goto (tgt := 63) C dX7_stalled_59 (by decide) ?_
          exact z_subK (z_top (by simp only [h39, h55, g55, cond_true, cond_false, eq_self, decide_true, decide_false, Bool.and_true, Bool.true_and, Bool.and_false, Bool.false_and, Bool.or_true, Bool.true_or, Bool.or_false, Bool.false_or, Bool.not_true, Bool.not_false, not_true, not_false_eq_true, if_true, if_false]) kk) (zs1 rfl (zs1 rfl (zs1 rfl (zs1 rfl (zs1 rfl zs0)))))
    refine z_iadd C dX7_stalled_63 ?_
    refine z_istore_n (i := 2) C dX7_stalled_64 rfl (by decide) ?_
    refine z_iinc C dX7_stalled_65 (by decide) rfl (zinc k) ?_
    refine z_goto (tgt := 19) C dX7_stalled_68 (by decide) ?_
    refine z_sub (L' := [(0, aR 12 0), (1, aI d), (2, aI (stlL x a d (k + 1))), (3, aI (zb true)), (4, aI (nI (k + 1)))]) (zs1 rfl (zs1 rfl (zs1 rfl (zs1 rfl (zs1 rfl zs0))))) ?_
    exact ih _ _ (by omega) rfl
end Llp_stalled
def k_stalled (x : Nat → Int32) (a : Nat → Nat → Int32) (d : Int32) : Int32 := goC (inB d 0 100000) (true) (true)
set_option maxRecDepth 100000 in
set_option maxHeartbeats 4000000 in
theorem c_X7_stalled {X : zX} (l : Launch) {x : Nat → Int32} {a : Nat → Nat → Int32} {σ : zHp} (hM : MD x a σ) (hI : zInv x a) {d : Int32} : zM X l yX7_stalled cX7_stalled 5 (some .int) 2 0 0 [aR 12 0, aI d] σ (zPi (fun r9 σ1 => zRz (k_stalled x a d) (stlL x a d (zN (x 15))) x a x a r9 σ σ1)) zNx := by
  obtain ⟨i0, i1, i6, i11, i15, i23, i24, i29, iA, iS, iC, iQ, iP⟩ := id hI
  have b1 := i1.2
  have b6 := i6.2
  have b11 := i11.2
  have b15 := i15.2
  have b23 := i23.2
  have b24 := i24.2
  have b29 := i29.2
  refine zM.of (by decide +kernel) (Nat.le_of_ble_eq_true rfl) (by simp [zcat, Value.category]) ?_
  intro p e s m args below meth c loc0 C hr hnm hT
  refine z_iconst (v := 0) C dX7_stalled_0 (by decide) ?_
  refine z_istore_n (i := 2) C dX7_stalled_1 rfl (by decide) ?_
  refine z_aload_n (i := 0) C dX7_stalled_2 rfl rfl ?_
  refine z_iload_n (i := 1) C dX7_stalled_3 rfl rfl ?_
  refine z_iconst (v := 0) C dX7_stalled_4 (by decide) ?_
  refine z_ldc C dX7_stalled_5 kc_RX7_99 ?_
  refine z_callS C Y_X7_in sm_yX7_in ml_RX7_86 (c_X7_in l) dX7_stalled_7 rfl rfl (fun _ => Nat.le_of_ble_eq_true rfl) ⟨Nat.le_of_ble_eq_true rfl, Nat.le_of_ble_eq_true rfl⟩ ⟨Nat.le_of_ble_eq_true rfl, Nat.le_of_ble_eq_true rfl⟩ (z_ri (fun x σ1 hx => ?_)) (z_nx)
  obtain ⟨rfl, rfl⟩ := hx
  refine z_iconst (v := 1) C dX7_stalled_10 (by decide) ?_
  refine z_iconst (v := 1) C dX7_stalled_11 (by decide) ?_
  refine z_callV C Y_X7_goes V_X7_goes ml_RX7_100 (c_X7_goes l hM (p1 := inB d 0 100000) (p2 := true) (p3 := true)) dX7_stalled_12 rfl rfl hM.1 ⟨_, _, rfl⟩ (fun _ => Nat.le_of_ble_eq_true rfl) ⟨Nat.le_of_ble_eq_true rfl, Nat.le_of_ble_eq_true rfl⟩ ⟨Nat.le_of_ble_eq_true rfl, Nat.le_of_ble_eq_true rfl⟩ (z_ri (fun x σ1 hx => ?_)) (z_nx)
  obtain ⟨rfl, hM, hF⟩ := hx
  cases h0 : decide (goC (inB d 0 100000) (true) (true) = 0) with
  | false =>
    refine z_istore_n (i := 3) C dX7_stalled_15 rfl (by decide) ?_
    refine z_iconst (v := 0) C dX7_stalled_16 (by decide) ?_
    refine z_istore C dX7_stalled_17 (by decide) ?_
    refine z_iload C dX7_stalled_19 rfl ?_
    refine z_aload_n (i := 0) C dX7_stalled_21 rfl rfl ?_
    refine z_getf C f_RX7_93 dX7_stalled_22 hM.1 rfl ?_
    refine z_icmp_ge (tgt := 71) C dX7_stalled_25 (by decide) (fun _ => ?_) (fun _ => ?_)
    · refine z_sub (L' := [(2, aI 0)]) (zs1 rfl zs0) ?_
      refine z_iload_n (i := 2) C dX7_stalled_71 rfl rfl ?_
      exact z_iret C hr rfl dX7_stalled_72 (Nat.le_of_ble_eq_true rfl) (Nat.le_of_ble_eq_true rfl) ⟨_, rfl, zRz.no h0 hM hF⟩
    · refine z_iload_n (i := 3) C dX7_stalled_28 rfl rfl ?_
      refine z_if_eqB (tgt := 71) C dX7_stalled_29 (by decide) (fun _ => ?_) (fun h => by cases h)
      refine z_sub (L' := [(2, aI 0)]) (zs1 rfl zs0) ?_
      refine z_iload_n (i := 2) C dX7_stalled_71 rfl rfl ?_
      exact z_iret C hr rfl dX7_stalled_72 (Nat.le_of_ble_eq_true rfl) (Nat.le_of_ble_eq_true rfl) ⟨_, rfl, zRz.no h0 hM hF⟩
  | true =>
    have h1 := of_decide_eq_true h0
    rw [h1] at hM
    obtain ⟨q1, q2, q3⟩ := goC_0.mp h1
    replace h0 : k_stalled x a d = 0 := h1
    have hI1 : zInv (upd x 31 0) a := hI
    refine z_istore_n (i := 3) C dX7_stalled_15 rfl (by decide) ?_
    refine z_iconst (v := 0) C dX7_stalled_16 (by decide) ?_
    refine z_istore C dX7_stalled_17 (by decide) ?_
    refine z_sub (L' := [(0, aR 12 0), (1, aI d), (2, aI 0), (3, aI (zb true)), (4, aI (nI 0))]) (zs1 rfl (zs1 rfl (zs1 rfl (zs1 rfl (zs1 rfl zs0))))) ?_
    refine lp_stalled C hM hI1 ?_ (zN (x 15)) 0 0 (by exact Nat.zero_add _) rfl
    refine z_iload_n (i := 2) C dX7_stalled_71 rfl rfl ?_
    exact z_iret C hr rfl dX7_stalled_72 (Nat.le_of_ble_eq_true rfl) (Nat.le_of_ble_eq_true rfl) ⟨_, rfl, zRz.ok h0 (by exact stlL_x _) hM rfl rfl hF⟩

section Llp_waiting
variable {X : zX} {p : Program} {l : Launch} {e : Env} {s : State} {m : MethodId} {args : Array Value} {below : List Frame} {meth : Method} {c : Code} {nL : Nat} {σ0 σ : zHp} {loc0 : zK → Nat} {Q : State → Prop} {mc ms : Nat}
set_option maxRecDepth 100000 in
set_option maxHeartbeats 4000000 in
theorem lp_waiting (C : zC X p l s m args meth c cX7_waiting 3 yX7_waiting.cls) {x : Nat → Int32} {a : Nat → Nat → Int32} (hM : MD x a σ) (hI : zInv x a) (kk : zG X p l e (zRm 2 mc ms) s m args below meth c 3 σ0 loc0 Q 0 0 σ 53 [(1, aI (watL a (zN (x 23))))] []) : ∀ (r k : Nat) (f : Int32), k + r = zN (x 23) → f = watL a k → zG X p l e (zRm 2 mc ms) s m args below meth c 3 σ0 loc0 Q 0 0 σ 9 [(0, aR 12 0), (1, aI f), (2, aI (nI k))] [] := by
  obtain ⟨i0, i1, i6, i11, i15, i23, i24, i29, iA, iS, iC, iQ, iP⟩ := id hI
  have b1 := i1.2
  have b6 := i6.2
  have b11 := i11.2
  have b15 := i15.2
  have b23 := i23.2
  have b24 := i24.2
  have b29 := i29.2
  intro r
  induction r with
  | zero =>
    intro k f hk hf
    refine z_iload_n (i := 2) C dX7_waiting_9 rfl rfl ?_
    refine z_aload_n (i := 0) C dX7_waiting_10 rfl rfl ?_
    refine z_getf C f_RX7_133 dX7_waiting_11 hM.1 rfl ?_
    have ek : k = zN (x 23) := by omega
    refine z_icmp_ge (tgt := 53) C dX7_waiting_14 (by decide) (fun _ => ?_) (fun h => absurd (by rw [i23.1, ek]; exact Int32.le_refl _) h)
    subst ek
    subst hf
    refine z_sub (L' := [(1, aI (watL a (zN (x 23))))]) (zs1 rfl zs0) ?_
    exact kk
  | succ r ih =>
    intro k f hk hf
    subst hf
    refine z_iload_n (i := 2) C dX7_waiting_9 rfl rfl ?_
    refine z_aload_n (i := 0) C dX7_waiting_10 rfl rfl ?_
    refine z_getf C f_RX7_133 dX7_waiting_11 hM.1 rfl ?_
    refine z_icmp_ge (tgt := 53) C dX7_waiting_14 (by decide) (fun h => absurd h (by rw [i23.1]; exact nI_ge (by omega) (by omega))) (fun _ => ?_)
    obtain ⟨⟨ic, hic, ec⟩, -, -⟩ := iQ k (by omega)
    have zc : zN (a 25 k) = ic := by rw [ec, zN_nI (by omega)]
    refine z_iload_n (i := 1) C dX7_waiting_17 rfl rfl ?_
    refine z_join (pc' := 45) (L' := [(0, aR 12 0), (1, aI (watL a k)), (2, aI (nI k))]) (st' := [aI (cond (decide (a 28 k = 0) && opnB a (zN (a 25 k))) 1 0), aI (watL a k)]) (fun kk => ?_) ?_
    · refine z_aload_n (i := 0) C dX7_waiting_18 rfl rfl ?_
      refine z_getf C f_RX7_73 dX7_waiting_19 hM.1 rfl ?_
      refine z_iload_n (i := 2) C dX7_waiting_22 rfl rfl ?_
      refine z_ialdW C dX7_waiting_23 hM 28 (by decide) (by first | rfl | exact i15.1 | exact i1.1 | exact i11.1 | exact i23.1 | exact i6.1) (show _ < 40 by omega) ?_
      refine z_if_ne (tgt := 44) C dX7_waiting_24 (by decide) (fun h24 => ?_) (fun h24 => ?_)
      · refine z_iconst (v := 0) C dX7_waiting_44 (by decide) ?_
        exact z_subK (z_top (by simp only [h24, zc, cond_true, cond_false, eq_self, decide_true, decide_false, Bool.and_true, Bool.true_and, Bool.and_false, Bool.false_and, Bool.or_true, Bool.true_or, Bool.or_false, Bool.false_or, Bool.not_true, Bool.not_false, not_true, not_false_eq_true, if_true, if_false]) kk) (zs1 rfl (zs1 rfl (zs1 rfl zs0)))
      · refine z_aload_n (i := 0) C dX7_waiting_27 rfl rfl ?_
        refine z_aload_n (i := 0) C dX7_waiting_28 rfl rfl ?_
        refine z_getf C f_RX7_64 dX7_waiting_29 hM.1 rfl ?_
        refine z_iload_n (i := 2) C dX7_waiting_32 rfl rfl ?_
        refine z_ialdW C dX7_waiting_33 hM 25 (by decide) (by first | rfl | exact i15.1 | exact i1.1 | exact i11.1 | exact i23.1 | exact i6.1) (show _ < 40 by omega) ?_
        refine z_top ec ?_
        refine z_callV C Y_X7_isOpen V_X7_isOpen ml_RX7_130 (c_X7_isOpen l hM (i := ic) (by omega)) dX7_waiting_34 rfl rfl hM.1 ⟨_, _, rfl⟩ (fun _ => Nat.le_of_ble_eq_true rfl) ⟨Nat.le_of_ble_eq_true rfl, Nat.le_of_ble_eq_true rfl⟩ ⟨Nat.zero_le _, Nat.zero_le _⟩ (z_ri (fun x σ1 hx => ?_)) (z_nx)
        obtain ⟨rfl, rfl⟩ := hx
        refine z_if_eqB (tgt := 44) C dX7_waiting_37 (by decide) (fun h37 => ?_) (fun h37 => ?_)
        · refine z_iconst (v := 0) C dX7_waiting_44 (by decide) ?_
          exact z_subK (z_top (by simp only [h24, h37, zc, cond_true, cond_false, eq_self, decide_true, decide_false, Bool.and_true, Bool.true_and, Bool.and_false, Bool.false_and, Bool.or_true, Bool.true_or, Bool.or_false, Bool.false_or, Bool.not_true, Bool.not_false, not_true, not_false_eq_true, if_true, if_false]) kk) (zs1 rfl (zs1 rfl (zs1 rfl zs0)))
        · refine z_iconst (v := 1) C dX7_waiting_40 (by decide) ?_
          refine z_goto (tgt := 45) C dX7_waiting_41 (by decide) ?_
          exact z_subK (z_top (by simp only [h24, h37, zc, cond_true, cond_false, eq_self, decide_true, decide_false, Bool.and_true, Bool.true_and, Bool.and_false, Bool.false_and, Bool.or_true, Bool.true_or, Bool.or_false, Bool.false_or, Bool.not_true, Bool.not_false, not_true, not_false_eq_true, if_true, if_false]) kk) (zs1 rfl (zs1 rfl (zs1 rfl zs0)))
    refine z_iadd C dX7_waiting_45 ?_
    refine z_istore_n (i := 1) C dX7_waiting_46 rfl (by decide) ?_
    refine z_iinc C dX7_waiting_47 (by decide) rfl (zinc k) ?_
    refine z_goto (tgt := 9) C dX7_waiting_50 (by decide) ?_
    refine z_sub (L' := [(0, aR 12 0), (1, aI (watL a (k + 1))), (2, aI (nI (k + 1)))]) (zs1 rfl (zs1 rfl (zs1 rfl zs0))) ?_
    exact ih _ _ (by omega) rfl
end Llp_waiting
set_option maxRecDepth 100000 in
set_option maxHeartbeats 4000000 in
theorem c_X7_waiting {X : zX} (l : Launch) {x : Nat → Int32} {a : Nat → Nat → Int32} {σ : zHp} (hM : MD x a σ) (hI : zInv x a) : zM X l yX7_waiting cX7_waiting 3 (some .int) 2 0 0 [aR 12 0] σ (zPi (fun r9 σ1 => zRz 0 (watL a (zN (x 23))) x a x a r9 σ σ1)) zNx := by
  obtain ⟨i0, i1, i6, i11, i15, i23, i24, i29, iA, iS, iC, iQ, iP⟩ := id hI
  have b1 := i1.2
  have b6 := i6.2
  have b11 := i11.2
  have b15 := i15.2
  have b23 := i23.2
  have b24 := i24.2
  have b29 := i29.2
  refine zM.of (by decide +kernel) (Nat.le_of_ble_eq_true rfl) (by simp [zcat, Value.category]) ?_
  intro p e s m args below meth c loc0 C hr hnm hT
  have hF : Fm σ σ := Fm.rf
  refine z_aload_n (i := 0) C dX7_waiting_0 rfl rfl ?_
  refine z_iconst (v := 0) C dX7_waiting_1 (by decide) ?_
  refine z_putM (j := 31) C fp_RX7_79 dX7_waiting_2 hM (by decide) (by decide) (fun σ hM hF9 => ?_)
  replace hF := hF.tr hF9
  refine z_iconst (v := 0) C dX7_waiting_5 (by decide) ?_
  refine z_istore_n (i := 1) C dX7_waiting_6 rfl (by decide) ?_
  refine z_iconst (v := 0) C dX7_waiting_7 (by decide) ?_
  refine z_istore_n (i := 2) C dX7_waiting_8 rfl (by decide) ?_
  refine z_sub (L' := [(0, aR 12 0), (1, aI 0), (2, aI (nI 0))]) (zs1 rfl (zs1 rfl (zs1 rfl zs0))) ?_
  have hI1 : zInv (upd x 31 0) a := hI
  refine lp_waiting C hM hI1 ?_ (zN (x 23)) 0 0 (by exact Nat.zero_add _) rfl
  refine z_iload_n (i := 1) C dX7_waiting_53 rfl rfl ?_
  exact z_iret C hr rfl dX7_waiting_54 (Nat.le_of_ble_eq_true rfl) (Nat.le_of_ble_eq_true rfl) ⟨_, rfl, zRz.ok rfl rfl hM rfl rfl hF⟩

section Llp_inRegion
variable {X : zX} {p : Program} {l : Launch} {e : Env} {s : State} {m : MethodId} {args : Array Value} {below : List Frame} {meth : Method} {c : Code} {nL : Nat} {σ0 σ : zHp} {loc0 : zK → Nat} {Q : State → Prop} {mc ms : Nat}
set_option maxRecDepth 100000 in
set_option maxHeartbeats 4000000 in
theorem lp_inRegion (C : zC X p l s m args meth c cX7_inRegion 7 yX7_inRegion.cls) {x : Nat → Int32} {a : Nat → Nat → Int32} (hM : MD x a σ) (hI : zInv x a) {w t : Int32} (kk : zG X p l e (zRm 3 mc ms) s m args below meth c 7 σ0 loc0 Q 0 0 σ 118 [(3, aI (inrL x a w t (zN (x 15))))] []) : ∀ (r k : Nat) (f : Int32), k + r = zN (x 15) → f = inrL x a w t k → zG X p l e (zRm 3 mc ms) s m args below meth c 7 σ0 loc0 Q 0 0 σ 36 [(0, aR 12 0), (1, aI w), (2, aI t), (3, aI f), (4, aI (zb true)), (5, aI (nI k))] [] := by
  obtain ⟨i0, i1, i6, i11, i15, i23, i24, i29, iA, iS, iC, iQ, iP⟩ := id hI
  have b1 := i1.2
  have b6 := i6.2
  have b11 := i11.2
  have b15 := i15.2
  have b23 := i23.2
  have b24 := i24.2
  have b29 := i29.2
  intro r
  induction r with
  | zero =>
    intro k f hk hf
    refine z_iload C dX7_inRegion_36 rfl ?_
    refine z_aload_n (i := 0) C dX7_inRegion_38 rfl rfl ?_
    refine z_getf C f_RX7_93 dX7_inRegion_39 hM.1 rfl ?_
    have ek : k = zN (x 15) := by omega
    refine z_icmp_ge (tgt := 118) C dX7_inRegion_42 (by decide) (fun _ => ?_) (fun h => absurd (by rw [i15.1, ek]; exact Int32.le_refl _) h)
    subst ek
    subst hf
    refine z_sub (L' := [(3, aI (inrL x a w t (zN (x 15))))]) (zs1 rfl zs0) ?_
    exact kk
  | succ r ih =>
    intro k f hk hf
    subst hf
    refine z_iload C dX7_inRegion_36 rfl ?_
    refine z_aload_n (i := 0) C dX7_inRegion_38 rfl rfl ?_
    refine z_getf C f_RX7_93 dX7_inRegion_39 hM.1 rfl ?_
    refine z_icmp_ge (tgt := 118) C dX7_inRegion_42 (by decide) (fun h => absurd h (by rw [i15.1]; exact nI_ge (by omega) (by omega))) (fun _ => ?_)
    obtain ⟨⟨ia, hia, ea⟩, -⟩ := iC k (by omega)
    have za : zN (a 16 k) = ia := by rw [ea, zN_nI (by omega)]
    refine z_iload C dX7_inRegion_45 rfl ?_
    refine z_if_eqB (tgt := 118) C dX7_inRegion_47 (by decide) (fun h => by cases h) (fun _ => ?_)
    refine z_join (pc' := 80) (L' := [(0, aR 12 0), (1, aI w), (2, aI t), (3, aI (inrL x a w t k)), (4, aI (zb true)), (5, aI (nI k))]) (st' := [aI (rgnC x a k)]) (fun kk => ?_) ?_
    · refine z_aload_n (i := 0) C dX7_inRegion_50 rfl rfl ?_
      refine z_iload C dX7_inRegion_51 rfl ?_
      refine z_callV C Y_X7_isOpen V_X7_isOpen ml_RX7_130 (c_X7_isOpen l hM (i := k) (by omega)) dX7_inRegion_53 rfl rfl hM.1 ⟨_, _, rfl⟩ (fun _ => Nat.le_of_ble_eq_true rfl) ⟨Nat.le_of_ble_eq_true rfl, Nat.le_of_ble_eq_true rfl⟩ ⟨Nat.zero_le _, Nat.zero_le _⟩ (z_ri (fun x σ1 hx => ?_)) (z_nx)
      obtain ⟨rfl, rfl⟩ := hx
      refine z_if_eqB (tgt := 73) C dX7_inRegion_56 (by decide) (fun h56 => ?_) (fun h56 => ?_)
      · refine z_aload_n (i := 0) C dX7_inRegion_73 rfl rfl ?_
        refine z_getf C f_RX7_55 dX7_inRegion_74 hM.1 rfl ?_
        refine z_iload C dX7_inRegion_77 rfl ?_
        refine z_ialdW C dX7_inRegion_79 hM 20 (by decide) (by first | rfl | exact i15.1 | exact i1.1 | exact i11.1 | exact i23.1 | exact i6.1) (show _ < 30 by omega) ?_
        exact z_subK (z_top (by simp only [h56, rgnC, za, cond_true, cond_false, eq_self, decide_true, decide_false, Bool.and_true, Bool.true_and, Bool.and_false, Bool.false_and, Bool.or_true, Bool.true_or, Bool.or_false, Bool.false_or, Bool.not_true, Bool.not_false, not_true, not_false_eq_true, if_true, if_false]) kk) (zs1 rfl (zs1 rfl (zs1 rfl (zs1 rfl (zs1 rfl (zs1 rfl zs0))))))
      · refine z_aload_n (i := 0) C dX7_inRegion_59 rfl rfl ?_
        refine z_aload_n (i := 0) C dX7_inRegion_60 rfl rfl ?_
        refine z_getf C f_RX7_43 dX7_inRegion_61 hM.1 rfl ?_
        refine z_iload C dX7_inRegion_64 rfl ?_
        refine z_ialdW C dX7_inRegion_66 hM 16 (by decide) (by first | rfl | exact i15.1 | exact i1.1 | exact i11.1 | exact i23.1 | exact i6.1) (show _ < 30 by omega) ?_
        refine z_top ea ?_
        refine z_callV C Y_X7_region V_X7_region ml_RX7_119 (c_X7_region l hM hI (i := ia) (by omega)) dX7_inRegion_67 rfl rfl hM.1 ⟨_, _, rfl⟩ (fun _ => Nat.le_of_ble_eq_true rfl) ⟨Nat.le_of_ble_eq_true rfl, Nat.le_of_ble_eq_true rfl⟩ ⟨Nat.zero_le _, Nat.zero_le _⟩ (z_ri (fun x σ1 hx => ?_)) (z_nx)
        obtain ⟨rfl, rfl⟩ := hx
        refine z_goto (tgt := 80) C dX7_inRegion_70 (by decide) ?_
        exact z_subK (z_top (by simp only [h56, rgnC, za, cond_true, cond_false, eq_self, decide_true, decide_false, Bool.and_true, Bool.true_and, Bool.and_false, Bool.false_and, Bool.or_true, Bool.true_or, Bool.or_false, Bool.false_or, Bool.not_true, Bool.not_false, not_true, not_false_eq_true, if_true, if_false]) kk) (zs1 rfl (zs1 rfl (zs1 rfl (zs1 rfl (zs1 rfl (zs1 rfl zs0))))))
    refine z_istore C dX7_inRegion_80 (by decide) ?_
    refine z_iload_n (i := 3) C dX7_inRegion_82 rfl rfl ?_
    refine z_join (pc' := 110) (L' := [(0, aR 12 0), (1, aI w), (2, aI t), (3, aI (inrL x a w t k)), (4, aI (zb true)), (5, aI (nI k)), (6, aI (rgnC x a k))]) (st' := [aI (cond (decide (rgnC x a k = w) && decide (a 18 k = t)) (wrt x a k) 0), aI (inrL x a w t k)]) (fun kk => ?_) ?_
    · refine z_iload C dX7_inRegion_83 rfl ?_
      refine z_iload_n (i := 1) C dX7_inRegion_85 rfl rfl ?_
      refine z_icmp_ne (tgt := 109) C dX7_inRegion_86 (by decide) (fun h86 => ?_) (fun h86 => ?_)
      · refine z_iconst (v := 0) C dX7_inRegion_109 (by decide) ?_
        exact z_subK (z_top (by simp only [h86, cond_true, cond_false, eq_self, decide_true, decide_false, Bool.and_true, Bool.true_and, Bool.and_false, Bool.false_and, Bool.or_true, Bool.true_or, Bool.or_false, Bool.false_or, Bool.not_true, Bool.not_false, not_true, not_false_eq_true, if_true, if_false]) kk) (zs1 rfl (zs1 rfl (zs1 rfl (zs1 rfl (zs1 rfl (zs1 rfl (zs1 rfl zs0)))))))
      · refine z_aload_n (i := 0) C dX7_inRegion_89 rfl rfl ?_
        refine z_getf C f_RX7_49 dX7_inRegion_90 hM.1 rfl ?_
        refine z_iload C dX7_inRegion_93 rfl ?_
        refine z_ialdW C dX7_inRegion_95 hM 18 (by decide) (by first | rfl | exact i15.1 | exact i1.1 | exact i11.1 | exact i23.1 | exact i6.1) (show _ < 30 by omega) ?_
        refine z_iload_n (i := 2) C dX7_inRegion_96 rfl rfl ?_
        refine z_icmp_ne (tgt := 109) C dX7_inRegion_97 (by decide) (fun h97 => ?_) (fun h97 => ?_)
        · refine z_iconst (v := 0) C dX7_inRegion_109 (by decide) ?_
          exact z_subK (z_top (by simp only [h86, h97, cond_true, cond_false, eq_self, decide_true, decide_false, Bool.and_true, Bool.true_and, Bool.and_false, Bool.false_and, Bool.or_true, Bool.true_or, Bool.or_false, Bool.false_or, Bool.not_true, Bool.not_false, not_true, not_false_eq_true, if_true, if_false]) kk) (zs1 rfl (zs1 rfl (zs1 rfl (zs1 rfl (zs1 rfl (zs1 rfl (zs1 rfl zs0)))))))
        · refine z_aload_n (i := 0) C dX7_inRegion_100 rfl rfl ?_
          refine z_iload C dX7_inRegion_101 rfl ?_
          refine z_callV C Y_X7_worthOf V_X7_worthOf ml_RX7_143 (c_X7_worthOf l hM hI (i := k) (by omega)) dX7_inRegion_103 rfl rfl hM.1 ⟨_, _, rfl⟩ (fun _ => Nat.le_of_ble_eq_true rfl) ⟨Nat.le_of_ble_eq_true rfl, Nat.le_of_ble_eq_true rfl⟩ ⟨Nat.zero_le _, Nat.zero_le _⟩ (z_ri (fun x σ1 hx => ?_)) (z_nx)
          obtain ⟨rfl, rfl⟩ := hx
          refine z_goto (tgt := 110) C dX7_inRegion_106 (by decide) ?_
          exact z_subK (z_top (by simp only [h86, h97, cond_true, cond_false, eq_self, decide_true, decide_false, Bool.and_true, Bool.true_and, Bool.and_false, Bool.false_and, Bool.or_true, Bool.true_or, Bool.or_false, Bool.false_or, Bool.not_true, Bool.not_false, not_true, not_false_eq_true, if_true, if_false]) kk) (zs1 rfl (zs1 rfl (zs1 rfl (zs1 rfl (zs1 rfl (zs1 rfl (zs1 rfl zs0)))))))
    refine z_iadd C dX7_inRegion_110 ?_
    refine z_istore_n (i := 3) C dX7_inRegion_111 rfl (by decide) ?_
    refine z_iinc C dX7_inRegion_112 (by decide) rfl (zinc k) ?_
    refine z_goto (tgt := 36) C dX7_inRegion_115 (by decide) ?_
    refine z_sub (L' := [(0, aR 12 0), (1, aI w), (2, aI t), (3, aI (inrL x a w t (k + 1))), (4, aI (zb true)), (5, aI (nI (k + 1)))]) (zs1 rfl (zs1 rfl (zs1 rfl (zs1 rfl (zs1 rfl (zs1 rfl zs0)))))) ?_
    exact ih _ _ (by omega) rfl
end Llp_inRegion
def k_inRegion (x : Nat → Int32) (a : Nat → Nat → Int32) (w t : Int32) : Int32 := goC (inB w 0 3 && inB t 0 5) (true) (true)
set_option maxRecDepth 100000 in
set_option maxHeartbeats 4000000 in
theorem c_X7_inRegion {X : zX} (l : Launch) {x : Nat → Int32} {a : Nat → Nat → Int32} {σ : zHp} (hM : MD x a σ) (hI : zInv x a) {w t : Int32} : zM X l yX7_inRegion cX7_inRegion 7 (some .int) 3 0 0 [aR 12 0, aI w, aI t] σ (zPi (fun r9 σ1 => zRz (k_inRegion x a w t) (inrL x a w t (zN (x 15))) x a x a r9 σ σ1)) zNx := by
  obtain ⟨i0, i1, i6, i11, i15, i23, i24, i29, iA, iS, iC, iQ, iP⟩ := id hI
  have b1 := i1.2
  have b6 := i6.2
  have b11 := i11.2
  have b15 := i15.2
  have b23 := i23.2
  have b24 := i24.2
  have b29 := i29.2
  refine zM.of (by decide +kernel) (Nat.le_of_ble_eq_true rfl) (by simp [zcat, Value.category]) ?_
  intro p e s m args below meth c loc0 C hr hnm hT
  refine z_iconst (v := 0) C dX7_inRegion_0 (by decide) ?_
  refine z_istore_n (i := 3) C dX7_inRegion_1 rfl (by decide) ?_
  refine z_aload_n (i := 0) C dX7_inRegion_2 rfl rfl ?_
  refine z_join (pc' := 26) (L' := [(0, aR 12 0), (1, aI w), (2, aI t), (3, aI 0)]) (st' := [aI (zb (inB w 0 3 && inB t 0 5)), aR 12 0]) (fun kk => ?_) ?_
  · refine z_iload_n (i := 1) C dX7_inRegion_3 rfl rfl ?_
    refine z_iconst (v := 0) C dX7_inRegion_4 (by decide) ?_
    refine z_iconst (v := 3) C dX7_inRegion_5 (by decide) ?_
    refine z_callS C Y_X7_in sm_yX7_in ml_RX7_86 (c_X7_in l) dX7_inRegion_6 rfl rfl (fun _ => Nat.le_of_ble_eq_true rfl) ⟨Nat.le_of_ble_eq_true rfl, Nat.le_of_ble_eq_true rfl⟩ ⟨Nat.le_of_ble_eq_true rfl, Nat.le_of_ble_eq_true rfl⟩ (z_ri (fun x σ1 hx => ?_)) (z_nx)
    obtain ⟨rfl, rfl⟩ := hx
    refine z_if_eqB (tgt := 25) C dX7_inRegion_9 (by decide) (fun h9 => ?_) (fun h9 => ?_)
    · refine z_iconst (v := 0) C dX7_inRegion_25 (by decide) ?_
      exact z_subK (z_b0 (by simp only [h9, eq_self, decide_true, decide_false, Bool.and_true, Bool.true_and, Bool.and_false, Bool.false_and, Bool.or_true, Bool.true_or, Bool.or_false, Bool.false_or, Bool.not_true, Bool.not_false, not_true, not_false_eq_true, if_true, if_false]) kk) (zs1 rfl (zs1 rfl (zs1 rfl (zs1 rfl zs0))))
    · refine z_iload_n (i := 2) C dX7_inRegion_12 rfl rfl ?_
      refine z_iconst (v := 0) C dX7_inRegion_13 (by decide) ?_
      refine z_iconst (v := 5) C dX7_inRegion_14 (by decide) ?_
      refine z_callS C Y_X7_in sm_yX7_in ml_RX7_86 (c_X7_in l) dX7_inRegion_15 rfl rfl (fun _ => Nat.le_of_ble_eq_true rfl) ⟨Nat.le_of_ble_eq_true rfl, Nat.le_of_ble_eq_true rfl⟩ ⟨Nat.le_of_ble_eq_true rfl, Nat.le_of_ble_eq_true rfl⟩ (z_ri (fun x σ1 hx => ?_)) (z_nx)
      obtain ⟨rfl, rfl⟩ := hx
      refine z_if_eqB (tgt := 25) C dX7_inRegion_18 (by decide) (fun h18 => ?_) (fun h18 => ?_)
      · refine z_iconst (v := 0) C dX7_inRegion_25 (by decide) ?_
        exact z_subK (z_b0 (by simp only [h9, h18, eq_self, decide_true, decide_false, Bool.and_true, Bool.true_and, Bool.and_false, Bool.false_and, Bool.or_true, Bool.true_or, Bool.or_false, Bool.false_or, Bool.not_true, Bool.not_false, not_true, not_false_eq_true, if_true, if_false]) kk) (zs1 rfl (zs1 rfl (zs1 rfl (zs1 rfl zs0))))
      · refine z_iconst (v := 1) C dX7_inRegion_21 (by decide) ?_
        refine z_goto (tgt := 26) C dX7_inRegion_22 (by decide) ?_
        exact z_subK (z_b1 (by simp only [h9, h18, eq_self, decide_true, decide_false, Bool.and_true, Bool.true_and, Bool.and_false, Bool.false_and, Bool.or_true, Bool.true_or, Bool.or_false, Bool.false_or, Bool.not_true, Bool.not_false, not_true, not_false_eq_true, if_true, if_false]) kk) (zs1 rfl (zs1 rfl (zs1 rfl (zs1 rfl zs0))))
  refine z_iconst (v := 1) C dX7_inRegion_26 (by decide) ?_
  refine z_iconst (v := 1) C dX7_inRegion_27 (by decide) ?_
  refine z_callV C Y_X7_goes V_X7_goes ml_RX7_100 (c_X7_goes l hM (p1 := inB w 0 3 && inB t 0 5) (p2 := true) (p3 := true)) dX7_inRegion_28 rfl rfl hM.1 ⟨_, _, rfl⟩ (fun _ => Nat.le_of_ble_eq_true rfl) ⟨Nat.le_of_ble_eq_true rfl, Nat.le_of_ble_eq_true rfl⟩ ⟨Nat.le_of_ble_eq_true rfl, Nat.le_of_ble_eq_true rfl⟩ (z_ri (fun x σ1 hx => ?_)) (z_nx)
  obtain ⟨rfl, hM, hF⟩ := hx
  cases h0 : decide (goC (inB w 0 3 && inB t 0 5) (true) (true) = 0) with
  | false =>
    refine z_istore C dX7_inRegion_31 (by decide) ?_
    refine z_iconst (v := 0) C dX7_inRegion_33 (by decide) ?_
    refine z_istore C dX7_inRegion_34 (by decide) ?_
    refine z_iload C dX7_inRegion_36 rfl ?_
    refine z_aload_n (i := 0) C dX7_inRegion_38 rfl rfl ?_
    refine z_getf C f_RX7_93 dX7_inRegion_39 hM.1 rfl ?_
    refine z_icmp_ge (tgt := 118) C dX7_inRegion_42 (by decide) (fun _ => ?_) (fun _ => ?_)
    · refine z_sub (L' := [(3, aI 0)]) (zs1 rfl zs0) ?_
      refine z_iload_n (i := 3) C dX7_inRegion_118 rfl rfl ?_
      exact z_iret C hr rfl dX7_inRegion_119 (Nat.le_of_ble_eq_true rfl) (Nat.le_of_ble_eq_true rfl) ⟨_, rfl, zRz.no h0 hM hF⟩
    · refine z_iload C dX7_inRegion_45 rfl ?_
      refine z_if_eqB (tgt := 118) C dX7_inRegion_47 (by decide) (fun _ => ?_) (fun h => by cases h)
      refine z_sub (L' := [(3, aI 0)]) (zs1 rfl zs0) ?_
      refine z_iload_n (i := 3) C dX7_inRegion_118 rfl rfl ?_
      exact z_iret C hr rfl dX7_inRegion_119 (Nat.le_of_ble_eq_true rfl) (Nat.le_of_ble_eq_true rfl) ⟨_, rfl, zRz.no h0 hM hF⟩
  | true =>
    have h1 := of_decide_eq_true h0
    rw [h1] at hM
    obtain ⟨q1, q2, q3⟩ := goC_0.mp h1
    replace h0 : k_inRegion x a w t = 0 := h1
    have hI1 : zInv (upd x 31 0) a := hI
    refine z_istore C dX7_inRegion_31 (by decide) ?_
    refine z_iconst (v := 0) C dX7_inRegion_33 (by decide) ?_
    refine z_istore C dX7_inRegion_34 (by decide) ?_
    refine z_sub (L' := [(0, aR 12 0), (1, aI w), (2, aI t), (3, aI 0), (4, aI (zb true)), (5, aI (nI 0))]) (zs1 rfl (zs1 rfl (zs1 rfl (zs1 rfl (zs1 rfl (zs1 rfl zs0)))))) ?_
    refine lp_inRegion C hM hI1 ?_ (zN (x 15)) 0 0 (by exact Nat.zero_add _) rfl
    refine z_iload_n (i := 3) C dX7_inRegion_118 rfl rfl ?_
    exact z_iret C hr rfl dX7_inRegion_119 (Nat.le_of_ble_eq_true rfl) (Nat.le_of_ble_eq_true rfl) ⟨_, rfl, zRz.ok h0 (by exact inrL_x _) hM rfl rfl hF⟩

section Llp_won1
variable {X : zX} {p : Program} {l : Launch} {e : Env} {s : State} {m : MethodId} {args : Array Value} {below : List Frame} {meth : Method} {c : Code} {nL : Nat} {σ0 σ : zHp} {loc0 : zK → Nat} {Q : State → Prop} {mc ms : Nat}
set_option maxRecDepth 100000 in
set_option maxHeartbeats 4000000 in
theorem lp_won1 (C : zC X p l s m args meth c cX7_won 6 yX7_won.cls) {x : Nat → Int32} {a : Nat → Nat → Int32} (hM : MD x a σ) (hI : zInv x a) {t k : Nat} {f : Int32} {b : Bool} (ht : t < 16) (kk : ∀ h : Int32, decide (h = nI t) = b → zG X p l e (zRm 2 mc ms) s m args below meth c 6 σ0 loc0 Q 0 0 σ 63 [(0, aR 12 0), (1, aI (nI t)), (2, aI f), (3, aI (zb true)), (4, aI (nI k)), (5, aI h)] []) : ∀ (F : Nat) (h : Int32), zUp h F → F ≤ zN (x 1) → traF a (nI t) F h = b → zG X p l e (zRm 2 mc ms) s m args below meth c 6 σ0 loc0 Q 0 0 σ 39 [(0, aR 12 0), (1, aI (nI t)), (2, aI f), (3, aI (zb true)), (4, aI (nI k)), (5, aI h)] [] := by
  obtain ⟨i0, i1, i6, i11, i15, i23, i24, i29, iA, iS, iC, iQ, iP⟩ := id hI
  have b1 := i1.2
  have b6 := i6.2
  have b11 := i11.2
  have b15 := i15.2
  have b23 := i23.2
  have b24 := i24.2
  have b29 := i29.2
  intro F
  induction F with
  | zero =>
    intro h hu hF hr
    rcases hu with rfl | ⟨j, hj, -⟩
    · refine z_iload C dX7_won_39 rfl ?_
      refine z_iconst (v := -1) C dX7_won_41 (by decide) ?_
      refine z_icmp_eq (tgt := 63) C dX7_won_42 (by decide) (fun _ => ?_) (fun h => absurd rfl h)
      refine z_sub (L' := [(0, aR 12 0), (1, aI (nI t)), (2, aI f), (3, aI (zb true)), (4, aI (nI k)), (5, aI (-1))]) (zs1 rfl (zs1 rfl (zs1 rfl (zs1 rfl (zs1 rfl (zs1 rfl zs0)))))) ?_
      exact kk _ (by rw [← hr]; exact decide_eq_false (fun e => nI_nm1 (by omega) e.symm))
    · omega
  | succ F ih =>
    intro h hu hF hr
    rcases hu with rfl | ⟨j, hj, rfl⟩
    · refine z_iload C dX7_won_39 rfl ?_
      refine z_iconst (v := -1) C dX7_won_41 (by decide) ?_
      refine z_icmp_eq (tgt := 63) C dX7_won_42 (by decide) (fun _ => ?_) (fun h => absurd rfl h)
      refine z_sub (L' := [(0, aR 12 0), (1, aI (nI t)), (2, aI f), (3, aI (zb true)), (4, aI (nI k)), (5, aI (-1))]) (zs1 rfl (zs1 rfl (zs1 rfl (zs1 rfl (zs1 rfl (zs1 rfl zs0)))))) ?_
      exact kk _ (by rw [← hr]; exact decide_eq_false (fun e => nI_nm1 (by omega) e.symm))
    · refine z_iload C dX7_won_39 rfl ?_
      refine z_iconst (v := -1) C dX7_won_41 (by decide) ?_
      refine z_icmp_eq (tgt := 63) C dX7_won_42 (by decide) (fun h => absurd h (nI_nm1 (by omega))) (fun _ => ?_)
      refine z_iload C dX7_won_45 rfl ?_
      refine z_iload_n (i := 1) C dX7_won_47 rfl rfl ?_
      refine z_icmp_eq (tgt := 63) C dX7_won_48 (by decide) (fun he => ?_) (fun he => ?_)
      · refine z_sub (L' := [(0, aR 12 0), (1, aI (nI t)), (2, aI f), (3, aI (zb true)), (4, aI (nI k)), (5, aI (nI j))]) (zs1 rfl (zs1 rfl (zs1 rfl (zs1 rfl (zs1 rfl (zs1 rfl zs0)))))) ?_
        exact kk _ (by rw [← hr, traF, if_neg (nI_nm1 (by omega)), if_pos he]; exact decide_eq_true he)
      · refine z_aload_n (i := 0) C dX7_won_51 rfl rfl ?_
        refine z_getf C f_RX7_7 dX7_won_52 hM.1 rfl ?_
        refine z_iload C dX7_won_55 rfl ?_
        refine z_ialdW C dX7_won_57 hM 2 (by decide) (by first | rfl | exact i15.1 | exact i1.1 | exact i11.1 | exact i23.1 | exact i6.1) (show _ < 16 by omega) ?_
        refine z_istore C dX7_won_58 (by decide) ?_
        refine z_goto (tgt := 39) C dX7_won_60 (by decide) ?_
        refine z_sub (L' := [(0, aR 12 0), (1, aI (nI t)), (2, aI f), (3, aI (zb true)), (4, aI (nI k)), (5, aI (a 2 j))]) (zs1 rfl (zs1 rfl (zs1 rfl (zs1 rfl (zs1 rfl (zs1 rfl zs0)))))) ?_
        refine ih _ ?_ (by omega) ?_
        · rcases iA j (by omega) with h | ⟨j2, hj2, h⟩
          · exact Or.inl h
          · exact Or.inr ⟨j2, by omega, h⟩
        · rw [← hr, traF, if_neg (nI_nm1 (by omega)), if_neg he, zN_nI (by omega)]
end Llp_won1
section Llp_won
variable {X : zX} {p : Program} {l : Launch} {e : Env} {s : State} {m : MethodId} {args : Array Value} {below : List Frame} {meth : Method} {c : Code} {nL : Nat} {σ0 σ : zHp} {loc0 : zK → Nat} {Q : State → Prop} {mc ms : Nat}
set_option maxRecDepth 100000 in
set_option maxHeartbeats 4000000 in
theorem lp_won (C : zC X p l s m args meth c cX7_won 6 yX7_won.cls) {x : Nat → Int32} {a : Nat → Nat → Int32} (hM : MD x a σ) (hI : zInv x a) {t : Nat} (ht : t < 16) (kk : zG X p l e (zRm 2 mc ms) s m args below meth c 6 σ0 loc0 Q 0 0 σ 99 [(2, aI (wonL x a (nI t) (zN (x 15))))] []) : ∀ (r k : Nat) (f : Int32), k + r = zN (x 15) → f = wonL x a (nI t) k → zG X p l e (zRm 2 mc ms) s m args below meth c 6 σ0 loc0 Q 0 0 σ 17 [(0, aR 12 0), (1, aI (nI t)), (2, aI f), (3, aI (zb true)), (4, aI (nI k))] [] := by
  obtain ⟨i0, i1, i6, i11, i15, i23, i24, i29, iA, iS, iC, iQ, iP⟩ := id hI
  have b1 := i1.2
  have b6 := i6.2
  have b11 := i11.2
  have b15 := i15.2
  have b23 := i23.2
  have b24 := i24.2
  have b29 := i29.2
  intro r
  induction r with
  | zero =>
    intro k f hk hf
    refine z_iload C dX7_won_17 rfl ?_
    refine z_aload_n (i := 0) C dX7_won_19 rfl rfl ?_
    refine z_getf C f_RX7_93 dX7_won_20 hM.1 rfl ?_
    have ek : k = zN (x 15) := by omega
    refine z_icmp_ge (tgt := 99) C dX7_won_23 (by decide) (fun _ => ?_) (fun h => absurd (by rw [i15.1, ek]; exact Int32.le_refl _) h)
    subst ek
    subst hf
    refine z_sub (L' := [(2, aI (wonL x a (nI t) (zN (x 15))))]) (zs1 rfl zs0) ?_
    exact kk
  | succ r ih =>
    intro k f hk hf
    subst hf
    refine z_iload C dX7_won_17 rfl ?_
    refine z_aload_n (i := 0) C dX7_won_19 rfl rfl ?_
    refine z_getf C f_RX7_93 dX7_won_20 hM.1 rfl ?_
    refine z_icmp_ge (tgt := 99) C dX7_won_23 (by decide) (fun h => absurd h (by rw [i15.1]; exact nI_ge (by omega) (by omega))) (fun _ => ?_)
    obtain ⟨⟨ia, hia, ea⟩, -⟩ := iC k (by omega)
    have za : zN (a 16 k) = ia := by rw [ea, zN_nI (by omega)]
    refine z_iload_n (i := 3) C dX7_won_26 rfl rfl ?_
    refine z_if_eqB (tgt := 99) C dX7_won_27 (by decide) (fun h => by cases h) (fun _ => ?_)
    refine z_aload_n (i := 0) C dX7_won_30 rfl rfl ?_
    refine z_getf C f_RX7_43 dX7_won_31 hM.1 rfl ?_
    refine z_iload C dX7_won_34 rfl ?_
    refine z_ialdW C dX7_won_36 hM 16 (by decide) (by first | rfl | exact i15.1 | exact i1.1 | exact i11.1 | exact i23.1 | exact i6.1) (show _ < 30 by omega) ?_
    refine z_top ea ?_
    refine z_istore C dX7_won_37 (by decide) ?_
    refine z_sub (L' := [(0, aR 12 0), (1, aI (nI t)), (2, aI (wonL x a (nI t) k)), (3, aI (zb true)), (4, aI (nI k)), (5, aI (nI ia))]) (zs1 rfl (zs1 rfl (zs1 rfl (zs1 rfl (zs1 rfl (zs1 rfl zs0)))))) ?_
    refine lp_won1 C hM hI ht (fun h hh => ?_) (ia + 1) (nI ia) (Or.inr ⟨ia, Nat.lt_succ_self _, rfl⟩) (by omega) rfl
    replace hh : decide (h = nI t) = traB a (nI t) ia := hh
    refine z_iload_n (i := 2) C dX7_won_63 rfl rfl ?_
    refine z_join (pc' := 91) (L' := [(0, aR 12 0), (1, aI (nI t)), (2, aI (wonL x a (nI t) k)), (3, aI (zb true)), (4, aI (nI k)), (5, aI h)]) (st' := [aI (cond (traB a (nI t) (zN (a 16 k)) && decide (a 18 k = 4)) (wrt x a k) 0), aI (wonL x a (nI t) k)]) (fun kk => ?_) ?_
    · refine z_iload C dX7_won_64 rfl ?_
      refine z_iload_n (i := 1) C dX7_won_66 rfl rfl ?_
      refine z_icmp_ne (tgt := 90) C dX7_won_67 (by decide) (fun h67 => ?_) (fun h67 => ?_)
      · refine z_iconst (v := 0) C dX7_won_90 (by decide) ?_
        exact z_subK (z_top (by simp only [h67, za, ← hh, cond_true, cond_false, eq_self, decide_true, decide_false, Bool.and_true, Bool.true_and, Bool.and_false, Bool.false_and, Bool.or_true, Bool.true_or, Bool.or_false, Bool.false_or, Bool.not_true, Bool.not_false, not_true, not_false_eq_true, if_true, if_false]) kk) (zs1 rfl (zs1 rfl (zs1 rfl (zs1 rfl (zs1 rfl (zs1 rfl zs0))))))
      · refine z_aload_n (i := 0) C dX7_won_70 rfl rfl ?_
        refine z_getf C f_RX7_49 dX7_won_71 hM.1 rfl ?_
        refine z_iload C dX7_won_74 rfl ?_
        refine z_ialdW C dX7_won_76 hM 18 (by decide) (by first | rfl | exact i15.1 | exact i1.1 | exact i11.1 | exact i23.1 | exact i6.1) (show _ < 30 by omega) ?_
        refine z_iconst (v := 4) C dX7_won_77 (by decide) ?_
        refine z_icmp_ne (tgt := 90) C dX7_won_78 (by decide) (fun h78 => ?_) (fun h78 => ?_)
        · refine z_iconst (v := 0) C dX7_won_90 (by decide) ?_
          exact z_subK (z_top (by simp only [h67, h78, za, ← hh, cond_true, cond_false, eq_self, decide_true, decide_false, Bool.and_true, Bool.true_and, Bool.and_false, Bool.false_and, Bool.or_true, Bool.true_or, Bool.or_false, Bool.false_or, Bool.not_true, Bool.not_false, not_true, not_false_eq_true, if_true, if_false]) kk) (zs1 rfl (zs1 rfl (zs1 rfl (zs1 rfl (zs1 rfl (zs1 rfl zs0))))))
        · refine z_aload_n (i := 0) C dX7_won_81 rfl rfl ?_
          refine z_iload C dX7_won_82 rfl ?_
          refine z_callV C Y_X7_worthOf V_X7_worthOf ml_RX7_143 (c_X7_worthOf l hM hI (i := k) (by omega)) dX7_won_84 rfl rfl hM.1 ⟨_, _, rfl⟩ (fun _ => Nat.le_of_ble_eq_true rfl) ⟨Nat.le_of_ble_eq_true rfl, Nat.le_of_ble_eq_true rfl⟩ ⟨Nat.zero_le _, Nat.zero_le _⟩ (z_ri (fun x σ1 hx => ?_)) (z_nx)
          obtain ⟨rfl, rfl⟩ := hx
          refine z_goto (tgt := 91) C dX7_won_87 (by decide) ?_
          exact z_subK (z_top (by simp only [h67, h78, za, ← hh, cond_true, cond_false, eq_self, decide_true, decide_false, Bool.and_true, Bool.true_and, Bool.and_false, Bool.false_and, Bool.or_true, Bool.true_or, Bool.or_false, Bool.false_or, Bool.not_true, Bool.not_false, not_true, not_false_eq_true, if_true, if_false]) kk) (zs1 rfl (zs1 rfl (zs1 rfl (zs1 rfl (zs1 rfl (zs1 rfl zs0))))))
    refine z_iadd C dX7_won_91 ?_
    refine z_istore_n (i := 2) C dX7_won_92 rfl (by decide) ?_
    refine z_iinc C dX7_won_93 (by decide) rfl (zinc k) ?_
    refine z_goto (tgt := 17) C dX7_won_96 (by decide) ?_
    refine z_sub (L' := [(0, aR 12 0), (1, aI (nI t)), (2, aI (wonL x a (nI t) (k + 1))), (3, aI (zb true)), (4, aI (nI (k + 1)))]) (zs1 rfl (zs1 rfl (zs1 rfl (zs1 rfl (zs1 rfl zs0))))) ?_
    exact ih _ _ (by omega) rfl
end Llp_won
def k_won (x : Nat → Int32) (a : Nat → Nat → Int32) (i : Int32) : Int32 := goC (isAcc x i) (true) (true)
set_option maxRecDepth 100000 in
set_option maxHeartbeats 4000000 in
theorem c_X7_won {X : zX} (l : Launch) {x : Nat → Int32} {a : Nat → Nat → Int32} {σ : zHp} (hM : MD x a σ) (hI : zInv x a) {i : Int32} : zM X l yX7_won cX7_won 6 (some .int) 2 0 0 [aR 12 0, aI i] σ (zPi (fun r9 σ1 => zRz (k_won x a i) (wonL x a i (zN (x 15))) x a x a r9 σ σ1)) zNx := by
  obtain ⟨i0, i1, i6, i11, i15, i23, i24, i29, iA, iS, iC, iQ, iP⟩ := id hI
  have b1 := i1.2
  have b6 := i6.2
  have b11 := i11.2
  have b15 := i15.2
  have b23 := i23.2
  have b24 := i24.2
  have b29 := i29.2
  refine zM.of (by decide +kernel) (Nat.le_of_ble_eq_true rfl) (by simp [zcat, Value.category]) ?_
  intro p e s m args below meth c loc0 C hr hnm hT
  refine z_iconst (v := 0) C dX7_won_0 (by decide) ?_
  refine z_istore_n (i := 2) C dX7_won_1 rfl (by decide) ?_
  refine z_aload_n (i := 0) C dX7_won_2 rfl rfl ?_
  refine z_aload_n (i := 0) C dX7_won_3 rfl rfl ?_
  refine z_iload_n (i := 1) C dX7_won_4 rfl rfl ?_
  refine z_callV C Y_X7_isAccount V_X7_isAccount ml_RX7_104 (c_X7_isAccount l hM) dX7_won_5 rfl rfl hM.1 ⟨_, _, rfl⟩ (fun _ => Nat.le_of_ble_eq_true rfl) ⟨Nat.le_of_ble_eq_true rfl, Nat.le_of_ble_eq_true rfl⟩ ⟨Nat.le_of_ble_eq_true rfl, Nat.le_of_ble_eq_true rfl⟩ (z_ri (fun x σ1 hx => ?_)) (z_nx)
  obtain ⟨rfl, rfl⟩ := hx
  refine z_iconst (v := 1) C dX7_won_8 (by decide) ?_
  refine z_iconst (v := 1) C dX7_won_9 (by decide) ?_
  refine z_callV C Y_X7_goes V_X7_goes ml_RX7_100 (c_X7_goes l hM (p1 := isAcc x i) (p2 := true) (p3 := true)) dX7_won_10 rfl rfl hM.1 ⟨_, _, rfl⟩ (fun _ => Nat.le_of_ble_eq_true rfl) ⟨Nat.le_of_ble_eq_true rfl, Nat.le_of_ble_eq_true rfl⟩ ⟨Nat.le_of_ble_eq_true rfl, Nat.le_of_ble_eq_true rfl⟩ (z_ri (fun x σ1 hx => ?_)) (z_nx)
  obtain ⟨rfl, hM, hF⟩ := hx
  cases h0 : decide (goC (isAcc x i) (true) (true) = 0) with
  | false =>
    refine z_istore_n (i := 3) C dX7_won_13 rfl (by decide) ?_
    refine z_iconst (v := 0) C dX7_won_14 (by decide) ?_
    refine z_istore C dX7_won_15 (by decide) ?_
    refine z_iload C dX7_won_17 rfl ?_
    refine z_aload_n (i := 0) C dX7_won_19 rfl rfl ?_
    refine z_getf C f_RX7_93 dX7_won_20 hM.1 rfl ?_
    refine z_icmp_ge (tgt := 99) C dX7_won_23 (by decide) (fun _ => ?_) (fun _ => ?_)
    · refine z_sub (L' := [(2, aI 0)]) (zs1 rfl zs0) ?_
      refine z_iload_n (i := 2) C dX7_won_99 rfl rfl ?_
      exact z_iret C hr rfl dX7_won_100 (Nat.le_of_ble_eq_true rfl) (Nat.le_of_ble_eq_true rfl) ⟨_, rfl, zRz.no h0 hM hF⟩
    · refine z_iload_n (i := 3) C dX7_won_26 rfl rfl ?_
      refine z_if_eqB (tgt := 99) C dX7_won_27 (by decide) (fun _ => ?_) (fun h => by cases h)
      refine z_sub (L' := [(2, aI 0)]) (zs1 rfl zs0) ?_
      refine z_iload_n (i := 2) C dX7_won_99 rfl rfl ?_
      exact z_iret C hr rfl dX7_won_100 (Nat.le_of_ble_eq_true rfl) (Nat.le_of_ble_eq_true rfl) ⟨_, rfl, zRz.no h0 hM hF⟩
  | true =>
    have h1 := of_decide_eq_true h0
    rw [h1] at hM
    obtain ⟨q1, q2, q3⟩ := goC_0.mp h1
    replace h0 : k_won x a i = 0 := h1
    have hI1 : zInv (upd x 31 0) a := hI
    obtain ⟨i, hi, rfl⟩ := inB_ix i1 (by decide) q1
    have zi : zN (nI i) = i := zN_nI (by omega)
    refine z_istore_n (i := 3) C dX7_won_13 rfl (by decide) ?_
    refine z_iconst (v := 0) C dX7_won_14 (by decide) ?_
    refine z_istore C dX7_won_15 (by decide) ?_
    refine z_sub (L' := [(0, aR 12 0), (1, aI (nI i)), (2, aI 0), (3, aI (zb true)), (4, aI (nI 0))]) (zs1 rfl (zs1 rfl (zs1 rfl (zs1 rfl (zs1 rfl zs0))))) ?_
    refine lp_won C hM hI1 (by omega) ?_ (zN (x 15)) 0 0 (by exact Nat.zero_add _) rfl
    refine z_iload_n (i := 2) C dX7_won_99 rfl rfl ?_
    exact z_iret C hr rfl dX7_won_100 (Nat.le_of_ble_eq_true rfl) (Nat.le_of_ble_eq_true rfl) ⟨_, rfl, zRz.ok h0 (by exact wonL_x _) hM rfl rfl hF⟩

