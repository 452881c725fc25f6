/-! the reference: worths, own forecasts, forecasts -/
theorem mdF_set (x : Nat → Int32) (v : Int32) : ∀ j, j < 32 → mdLen j = 0 → (mdF x).set j (aI v) = mdF (upd x j v) := by
  intro j hj h0
  have h : ∀ j, j < 32 → mdLen j = 0 → j = 0 ∨ j = 1 ∨ j = 6 ∨ j = 11 ∨ j = 15 ∨ j = 23 ∨ j = 24 ∨ j = 29 ∨ j = 31 := by decide
  rcases h j hj h0 with rfl | rfl | rfl | rfl | rfl | rfl | rfl | rfl | rfl <;> rfl
section MR2
variable {X : zX} {p : Program} {l : Launch} {e : Env} {s : State} {m : MethodId} {args : Array Value} {below : List Frame} {meth : Method} {c : Code} {nL : Nat} {σ0 σ : zHp} {loc0 : zK → Nat} {Q : State → Prop} {mc ms : Nat} {R : Room} {cells slots pc : Nat} {cc : ByteArray} {own : String} {L : List (Nat × zV)} {st : List zV}
theorem z_iastM (C : zC X p l s m args meth c cc nL own) {x : Nat → Int32} {a : Nat → Nat → Int32} {i : Nat} {v : Int32} (hd : decode cc pc = .ok (.iastore, 1)) (hM : MD x a σ) (j : Nat) (hj : 0 < mdLen j ∧ mdLen j ≤ 1000) (hi : i < mdLen j) (kk : ∀ σ', MD x (ua a j (upd (a j) i v)) σ' → Fm σ σ' → zG X p l e R s m args below meth c nL σ0 loc0 Q cells slots σ' (pc + 1) L st) : zG X p l e R s m args below meth c nL σ0 loc0 Q cells slots σ pc L (aI v :: aI (nI i) :: aR 13 j :: st) :=
  z_iastN C hd (hM.2 j hj.1) (by decide) hi hj.2 (kk _ (hM.row j _) Fm.p13)
theorem z_putM (C : zC X p l s m args meth c cc nL own) {x : Nat → Int32} {a : Nat → Nat → Int32} {j idx : Nat} {v : Int32} (hf : zFp own idx 10 j .int false) (hd : decode cc pc = .ok (.putfield idx, 3)) (hM : MD x a σ) (hj : j < 32) (h0 : mdLen j = 0) (kk : ∀ σ', MD (upd x j v) a σ' → Fm σ σ' → zG X p l e R s m args below meth c nL σ0 loc0 Q cells slots σ' (pc + 3) L st) : zG X p l e R s m args below meth c nL σ0 loc0 Q cells slots σ pc L (aI v :: aR 12 0 :: st) :=
  z_putf C hf hd hM.1 (by decide) (by rw [show (mdF x).length = 32 from rfl]; exact hj) (fun _ => ⟨rfl, rfl⟩) (kk _ (hM.obj (mdF_set x v j hj h0)) Fm.p12)
end MR2
set_option maxRecDepth 100000 in
set_option maxHeartbeats 4000000 in
theorem c_X7_worthOf {X : zX} (l : Launch) {x : Nat → Int32} {a : Nat → Nat → Int32} {σ : zHp} (hM : MD x a σ) (hI : zInv x a) {i : Nat} (hi : i < 30) : zM X l yX7_worthOf cX7_worthOf 3 (some .int) 1 0 0 [aR 12 0, aI (nI i)] σ (zPi (fun r σ1 => r = wrt x a i ∧ σ1 = σ)) zNx := by
  obtain ⟨i0, i1, i6, i11, i15, i23, i24, i29, iA, iS, iC, iQ, iP⟩ := id hI
  have b1 := i1.2
  have b6 := i6.2
  have b11 := i11.2
  have b15 := i15.2
  have b23 := i23.2
  have b24 := i24.2
  have b29 := i29.2
  refine zM.of (by decide +kernel) (Nat.le_of_ble_eq_true rfl) (by simp [zcat, Value.category]) ?_
  intro p e s m args below meth c loc0 C hr hnm hT
  refine z_aload_n (i := 0) C dX7_worthOf_0 rfl rfl ?_
  refine z_iload_n (i := 1) C dX7_worthOf_1 rfl rfl ?_
  refine z_callV C Y_X7_counts V_X7_counts ml_RX7_136 (c_X7_counts l hM hI) dX7_worthOf_2 rfl rfl hM.1 ⟨_, _, rfl⟩ (fun _ => Nat.le_of_ble_eq_true rfl) ⟨Nat.le_of_ble_eq_true rfl, Nat.le_of_ble_eq_true rfl⟩ ⟨Nat.zero_le _, Nat.zero_le _⟩ (z_ri (fun x σ1 hx => ?_)) (z_nx)
  obtain ⟨rfl, rfl⟩ := hx
  refine z_istore_n (i := 2) C dX7_worthOf_5 rfl (by decide) ?_
  refine z_iload_n (i := 2) C dX7_worthOf_6 rfl rfl ?_
  refine z_iconst (v := -1) C dX7_worthOf_7 (by decide) ?_
  refine z_icmp_ne (tgt := 20) C dX7_worthOf_8 (by decide) (fun h8 => ?_) (fun h8 => ?_)
  · obtain ⟨j, hj, ej⟩ : ∃ j, j < zN (x 23) ∧ cnt x a (nI i) = nI j := by
      rcases cntL_rng a (nI i) (zN (x 23)) with h | h
      · exact absurd h h8
      · exact h
    refine z_aload_n (i := 0) C dX7_worthOf_20 rfl rfl ?_
    refine z_getf C f_RX7_46 dX7_worthOf_21 hM.1 rfl ?_
    refine z_iload_n (i := 1) C dX7_worthOf_24 rfl rfl ?_
    refine z_ialdN C dX7_worthOf_25 (hM.2 17 (by decide)) (show _ < 30 by omega) (by decide) ?_
    refine z_bipush (v := 100) C dX7_worthOf_26 (by decide) ?_
    refine z_aload_n (i := 0) C dX7_worthOf_28 rfl rfl ?_
    refine z_getf C f_RX7_70 dX7_worthOf_29 hM.1 rfl ?_
    refine z_iload_n (i := 2) C dX7_worthOf_32 rfl rfl ?_
    rw [ej]
    refine z_ialdN C dX7_worthOf_33 (hM.2 27 (by decide)) (show _ < 40 by omega) (by decide) ?_
    refine z_isub C dX7_worthOf_34 ?_
    refine z_imul C dX7_worthOf_35 ?_
    refine z_bipush (v := 100) C dX7_worthOf_36 (by decide) ?_
    refine z_idiv C dX7_worthOf_38 (by decide) ?_
    exact z_iret C hr rfl dX7_worthOf_39 (Nat.le_of_ble_eq_true rfl) (Nat.le_of_ble_eq_true rfl) ⟨_, rfl, by rw [wrt, if_neg h8, ej, zN_nI (by omega)], rfl⟩
  · refine z_aload_n (i := 0) C dX7_worthOf_11 rfl rfl ?_
    refine z_getf C f_RX7_46 dX7_worthOf_12 hM.1 rfl ?_
    refine z_iload_n (i := 1) C dX7_worthOf_15 rfl rfl ?_
    refine z_ialdN C dX7_worthOf_16 (hM.2 17 (by decide)) (show _ < 30 by omega) (by decide) ?_
    refine z_goto (tgt := 39) C dX7_worthOf_17 (by decide) ?_
    exact z_iret C hr rfl dX7_worthOf_39 (Nat.le_of_ble_eq_true rfl) (Nat.le_of_ble_eq_true rfl) ⟨_, rfl, by rw [wrt, if_pos h8], rfl⟩

set_option maxRecDepth 100000 in
set_option maxHeartbeats 4000000 in
theorem c_X7_weight {X : zX} (l : Launch) {σ : zHp} {v : Int32} : zM X l yX7_weight cX7_weight 1 (some .int) 0 0 0 [aI v] σ (zPi (fun r σ1 => r = wgt v ∧ σ1 = σ)) zNx := by
  refine zM.of (by decide +kernel) (Nat.le_of_ble_eq_true rfl) (by simp [zcat, Value.category]) ?_
  intro p e s m args below meth c loc0 C hr hnm hT
  refine z_iload_n (i := 0) C dX7_weight_0 rfl rfl ?_
  refine z_if_ne (tgt := 9) C dX7_weight_1 (by decide) (fun h1 => ?_) (fun h1 => ?_)
  · refine z_iload_n (i := 0) C dX7_weight_9 rfl rfl ?_
    refine z_iconst (v := 1) C dX7_weight_10 (by decide) ?_
    refine z_icmp_ne (tgt := 19) C dX7_weight_11 (by decide) (fun h11 => ?_) (fun h11 => ?_)
    · refine z_iload_n (i := 0) C dX7_weight_19 rfl rfl ?_
      refine z_iconst (v := 2) C dX7_weight_20 (by decide) ?_
      refine z_icmp_ne (tgt := 29) C dX7_weight_21 (by decide) (fun h21 => ?_) (fun h21 => ?_)
      · refine z_iload_n (i := 0) C dX7_weight_29 rfl rfl ?_
        refine z_iconst (v := 3) C dX7_weight_30 (by decide) ?_
        refine z_icmp_ne (tgt := 39) C dX7_weight_31 (by decide) (fun h31 => ?_) (fun h31 => ?_)
        · refine z_iload_n (i := 0) C dX7_weight_39 rfl rfl ?_
          refine z_iconst (v := 4) C dX7_weight_40 (by decide) ?_
          refine z_icmp_ne (tgt := 49) C dX7_weight_41 (by decide) (fun h41 => ?_) (fun h41 => ?_)
          · refine z_iconst (v := 0) C dX7_weight_49 (by decide) ?_
            exact z_iret C hr rfl dX7_weight_50 (Nat.le_of_ble_eq_true rfl) (Nat.le_of_ble_eq_true rfl) ⟨_, rfl, by simp [wgt, h1, h11, h21, h31, h41], rfl⟩
          · refine z_bipush (v := 100) C dX7_weight_44 (by decide) ?_
            refine z_goto (tgt := 50) C dX7_weight_46 (by decide) ?_
            exact z_iret C hr rfl dX7_weight_50 (Nat.le_of_ble_eq_true rfl) (Nat.le_of_ble_eq_true rfl) ⟨_, rfl, by simp [wgt, h1, h11, h21, h31, h41], rfl⟩
        · refine z_bipush (v := 90) C dX7_weight_34 (by decide) ?_
          refine z_goto (tgt := 50) C dX7_weight_36 (by decide) ?_
          exact z_iret C hr rfl dX7_weight_50 (Nat.le_of_ble_eq_true rfl) (Nat.le_of_ble_eq_true rfl) ⟨_, rfl, by simp [wgt, h1, h11, h21, h31], rfl⟩
      · refine z_bipush (v := 60) C dX7_weight_24 (by decide) ?_
        refine z_goto (tgt := 50) C dX7_weight_26 (by decide) ?_
        exact z_iret C hr rfl dX7_weight_50 (Nat.le_of_ble_eq_true rfl) (Nat.le_of_ble_eq_true rfl) ⟨_, rfl, by simp [wgt, h1, h11, h21], rfl⟩
    · refine z_bipush (v := 30) C dX7_weight_14 (by decide) ?_
      refine z_goto (tgt := 50) C dX7_weight_16 (by decide) ?_
      exact z_iret C hr rfl dX7_weight_50 (Nat.le_of_ble_eq_true rfl) (Nat.le_of_ble_eq_true rfl) ⟨_, rfl, by simp [wgt, h1, h11], rfl⟩
  · refine z_bipush (v := 10) C dX7_weight_4 (by decide) ?_
    refine z_goto (tgt := 50) C dX7_weight_6 (by decide) ?_
    exact z_iret C hr rfl dX7_weight_50 (Nat.le_of_ble_eq_true rfl) (Nat.le_of_ble_eq_true rfl) ⟨_, rfl, by simp [wgt, h1], rfl⟩

section ML3
variable {X : zX} {p : Program} {l : Launch} {e : Env} {s : State} {m : MethodId} {args : Array Value} {below : List Frame} {meth : Method} {c : Code} {nL : Nat} {σ0 σ : zHp} {loc0 : zK → Nat} {Q : State → Prop} {mc ms : Nat}
theorem nI_lin8 (k i : Nat) : (8 : Int32) * nI k + nI i = nI (8 * k + i) := by
  show nI 8 * nI k + nI i = _
  rw [show nI 8 * nI k = nI (8 * k) from (Int32.ofNat_mul 8 k).symm, nI_add]
set_option maxRecDepth 100000 in
set_option maxHeartbeats 4000000 in
theorem lp_ownOf (C : zC X p l s m args meth c cX7_ownOf 5 yX7_ownOf.cls) {x : Nat → Int32} {a : Nat → Nat → Int32} (hM : MD x a σ) (hI : zInv x a) {i : Nat} (hi : i < 8) (kk : zG X p l e (zRm 2 mc ms) s m args below meth c 5 σ0 loc0 Q 0 0 σ 58 [(0, aR 12 0), (2, aI (ownL x a i (zN (x 15))))] []) : ∀ (r k : Nat) (f : Int32), k + r = zN (x 15) → f = ownL x a i k → zG X p l e (zRm 2 mc ms) s m args below meth c 5 σ0 loc0 Q 0 0 σ 4 [(0, aR 12 0), (1, aI (nI i)), (2, aI f), (3, aI (nI k))] [] := by
  obtain ⟨i0, i1, i6, i11, i15, i23, i24, i29, iA, iS, iC, iQ, iP⟩ := id hI
  have b1 := i1.2
  have b6 := i6.2
  have b11 := i11.2
  have b15 := i15.2
  have b23 := i23.2
  have b24 := i24.2
  have b29 := i29.2
  intro r
  induction r with
  | zero =>
    intro k f hk hf
    refine z_iload_n (i := 3) C dX7_ownOf_4 rfl rfl ?_
    refine z_aload_n (i := 0) C dX7_ownOf_5 rfl rfl ?_
    refine z_getf C f_RX7_93 dX7_ownOf_6 hM.1 rfl ?_
    have ek : k = zN (x 15) := by omega
    refine z_icmp_ge (tgt := 58) C dX7_ownOf_9 (by decide) (fun _ => ?_) (fun h => absurd (by rw [i15.1, ek]; exact Int32.le_refl _) h)
    subst ek
    subst hf
    refine z_sub (L' := [(0, aR 12 0), (2, aI (ownL x a i (zN (x 15))))]) (zs1 rfl (zs1 rfl zs0)) ?_
    exact kk
  | succ r ih =>
    intro k f hk hf
    subst hf
    refine z_iload_n (i := 3) C dX7_ownOf_4 rfl rfl ?_
    refine z_aload_n (i := 0) C dX7_ownOf_5 rfl rfl ?_
    refine z_getf C f_RX7_93 dX7_ownOf_6 hM.1 rfl ?_
    refine z_icmp_ge (tgt := 58) C dX7_ownOf_9 (by decide) (fun h => absurd h (by rw [i15.1]; exact nI_ge (by omega) (by omega))) (fun _ => ?_)
    refine z_aload_n (i := 0) C dX7_ownOf_12 rfl rfl ?_
    refine z_iload_n (i := 3) C dX7_ownOf_13 rfl rfl ?_
    refine z_callV C Y_X7_worthOf V_X7_worthOf ml_RX7_143 (c_X7_worthOf l hM hI (i := k) (by omega)) dX7_ownOf_14 rfl rfl hM.1 ⟨_, _, rfl⟩ (fun _ => Nat.le_of_ble_eq_true rfl) ⟨Nat.le_of_ble_eq_true rfl, Nat.le_of_ble_eq_true rfl⟩ ⟨Nat.zero_le _, Nat.zero_le _⟩ (z_ri (fun x σ1 hx => ?_)) (z_nx)
    obtain ⟨rfl, rfl⟩ := hx
    refine z_aload_n (i := 0) C dX7_ownOf_17 rfl rfl ?_
    refine z_getf C f_RX7_58 dX7_ownOf_18 hM.1 rfl ?_
    refine z_bipush (v := 8) C dX7_ownOf_21 (by decide) ?_
    refine z_iload_n (i := 3) C dX7_ownOf_23 rfl rfl ?_
    refine z_imul C dX7_ownOf_24 ?_
    refine z_iload_n (i := 1) C dX7_ownOf_25 rfl rfl ?_
    refine z_iadd C dX7_ownOf_26 ?_
    rw [nI_lin8 k i]
    refine z_ialdN C dX7_ownOf_27 (hM.2 21 (by decide)) (show _ < 240 by omega) (by decide) ?_
    refine z_imul C dX7_ownOf_28 ?_
    refine z_bipush (v := 100) C dX7_ownOf_29 (by decide) ?_
    refine z_idiv C dX7_ownOf_31 (by decide) ?_
    refine z_istore C dX7_ownOf_32 (by decide) ?_
    refine z_iload_n (i := 2) C dX7_ownOf_34 rfl rfl ?_
    refine z_iload C dX7_ownOf_35 rfl ?_
    refine z_aload_n (i := 0) C dX7_ownOf_37 rfl rfl ?_
    refine z_getf C f_RX7_49 dX7_ownOf_38 hM.1 rfl ?_
    refine z_iload_n (i := 3) C dX7_ownOf_41 rfl rfl ?_
    refine z_ialdN C dX7_ownOf_42 (hM.2 18 (by decide)) (show _ < 30 by omega) (by decide) ?_
    refine z_callS C Y_X7_weight sm_yX7_weight ml_RX7_156 (c_X7_weight l) dX7_ownOf_43 rfl rfl (fun _ => Nat.le_of_ble_eq_true rfl) ⟨Nat.le_of_ble_eq_true rfl, Nat.le_of_ble_eq_true rfl⟩ ⟨Nat.zero_le _, Nat.zero_le _⟩ (z_ri (fun x σ1 hx => ?_)) (z_nx)
    obtain ⟨rfl, rfl⟩ := hx
    refine z_imul C dX7_ownOf_46 ?_
    refine z_bipush (v := 100) C dX7_ownOf_47 (by decide) ?_
    refine z_idiv C dX7_ownOf_49 (by decide) ?_
    refine z_iadd C dX7_ownOf_50 ?_
    refine z_istore_n (i := 2) C dX7_ownOf_51 rfl (by decide) ?_
    refine z_iinc C dX7_ownOf_52 (by decide) rfl (zinc k) ?_
    refine z_goto (tgt := 4) C dX7_ownOf_55 (by decide) ?_
    refine z_sub (L' := [(0, aR 12 0), (1, aI (nI i)), (2, aI (ownL x a i (k + 1))), (3, aI (nI (k + 1)))]) (zs1 rfl (zs1 rfl (zs1 rfl (zs1 rfl zs0)))) ?_
    exact ih _ _ (by omega) rfl

end ML3
set_option maxRecDepth 100000 in
set_option maxHeartbeats 4000000 in
theorem c_X7_ownOf {X : zX} (l : Launch) {x : Nat → Int32} {a : Nat → Nat → Int32} {σ : zHp} (hM : MD x a σ) (hI : zInv x a) {i : Nat} (hi : i < 8) : zM X l yX7_ownOf cX7_ownOf 5 (some .int) 2 0 0 [aR 12 0, aI (nI i)] σ (zPi (fun r σ1 => r = ownS x a i ∧ σ1 = σ)) zNx := by
  refine zM.of (by decide +kernel) (Nat.le_of_ble_eq_true rfl) (by simp [zcat, Value.category]) ?_
  intro p e s m args below meth c loc0 C hr hnm hT
  refine z_iconst (v := 0) C dX7_ownOf_0 (by decide) ?_
  refine z_istore_n (i := 2) C dX7_ownOf_1 rfl (by decide) ?_
  refine z_iconst (v := 0) C dX7_ownOf_2 (by decide) ?_
  refine z_istore_n (i := 3) C dX7_ownOf_3 rfl (by decide) ?_
  refine z_sub (L' := [(0, aR 12 0), (1, aI (nI i)), (2, aI 0), (3, aI (nI 0))]) (zs1 rfl (zs1 rfl (zs1 rfl (zs1 rfl zs0)))) ?_
  refine lp_ownOf C hM hI hi ?_ (zN (x 15)) 0 0 (by omega) rfl
  refine z_iload_n (i := 2) C dX7_ownOf_58 rfl rfl ?_
  exact z_iret C hr rfl dX7_ownOf_59 (Nat.le_of_ble_eq_true rfl) (Nat.le_of_ble_eq_true rfl) ⟨_, rfl, rfl, rfl⟩

section ML4
variable {X : zX} {p : Program} {l : Launch} {e : Env} {s : State} {m : MethodId} {args : Array Value} {below : List Frame} {meth : Method} {c : Code} {nL : Nat} {σ0 σ : zHp} {loc0 : zK → Nat} {Q : State → Prop} {mc ms : Nat}
set_option maxRecDepth 100000 in
set_option maxHeartbeats 4000000 in
theorem lp_forecastOf (C : zC X p l s m args meth c cX7_forecastOf 4 yX7_forecastOf.cls) {x : Nat → Int32} {a : Nat → Nat → Int32} (hM : MD x a σ) (hI : zInv x a) {t : Nat} (ht : t < 8) (kk : zG X p l e (zRm 3 mc ms) s m args below meth c 4 σ0 loc0 Q 0 0 σ 51 [(0, aR 12 0), (2, aI (forL x a t (zN (x 11))))] []) : ∀ (r k : Nat) (f : Int32), k + r = zN (x 11) → f = forL x a t k → zG X p l e (zRm 3 mc ms) s m args below meth c 4 σ0 loc0 Q 0 0 σ 4 [(0, aR 12 0), (1, aI (nI t)), (2, aI f), (3, aI (nI k))] [] := by
  obtain ⟨i0, i1, i6, i11, i15, i23, i24, i29, iA, iS, iC, iQ, iP⟩ := id hI
  have b1 := i1.2
  have b6 := i6.2
  have b11 := i11.2
  have b15 := i15.2
  have b23 := i23.2
  have b24 := i24.2
  have b29 := i29.2
  intro r
  induction r with
  | zero =>
    intro k f hk hf
    refine z_iload_n (i := 3) C dX7_forecastOf_4 rfl rfl ?_
    refine z_aload_n (i := 0) C dX7_forecastOf_5 rfl rfl ?_
    refine z_getf C f_RX7_90 dX7_forecastOf_6 hM.1 rfl ?_
    have ek : k = zN (x 11) := by omega
    refine z_icmp_ge (tgt := 51) C dX7_forecastOf_9 (by decide) (fun _ => ?_) (fun h => absurd (by rw [i11.1, ek]; exact Int32.le_refl _) h)
    subst ek
    subst hf
    refine z_sub (L' := [(0, aR 12 0), (2, aI (forL x a t (zN (x 11))))]) (zs1 rfl (zs1 rfl zs0)) ?_
    exact kk
  | succ r ih =>
    intro k f hk hf
    subst hf
    refine z_iload_n (i := 3) C dX7_forecastOf_4 rfl rfl ?_
    refine z_aload_n (i := 0) C dX7_forecastOf_5 rfl rfl ?_
    refine z_getf C f_RX7_90 dX7_forecastOf_6 hM.1 rfl ?_
    refine z_icmp_ge (tgt := 51) C dX7_forecastOf_9 (by decide) (fun h => absurd h (by rw [i11.1]; exact nI_ge (by omega) (by omega))) (fun _ => ?_)
    refine z_iload_n (i := 2) C dX7_forecastOf_12 rfl rfl ?_
    refine z_iload_n (i := 3) C dX7_forecastOf_13 rfl rfl ?_
    refine z_iload_n (i := 1) C dX7_forecastOf_14 rfl rfl ?_
    refine z_icmp_eq (tgt := 27) C dX7_forecastOf_15 (by decide) (fun he => ?_) (fun hne => ?_)
    · refine z_aload_n (i := 0) C dX7_forecastOf_27 rfl rfl ?_
      refine z_iload_n (i := 3) C dX7_forecastOf_28 rfl rfl ?_
      refine z_callV C Y_X7_ownOf V_X7_ownOf ml_RX7_159 (c_X7_ownOf l hM hI (i := k) (by omega)) dX7_forecastOf_29 rfl rfl hM.1 ⟨_, _, rfl⟩ (fun _ => Nat.le_of_ble_eq_true rfl) ⟨Nat.le_of_ble_eq_true rfl, Nat.le_of_ble_eq_true rfl⟩ ⟨Nat.zero_le _, Nat.zero_le _⟩ (z_ri (fun x σ1 hx => ?_)) (z_nx)
      obtain ⟨rfl, rfl⟩ := hx
      refine z_aload_n (i := 0) C dX7_forecastOf_32 rfl rfl ?_
      refine z_getf C f_RX7_40 dX7_forecastOf_33 hM.1 rfl ?_
      refine z_iload_n (i := 3) C dX7_forecastOf_36 rfl rfl ?_
      refine z_ialdN C dX7_forecastOf_37 (hM.2 14 (by decide)) (show _ < 8 by omega) (by decide) ?_
      refine z_iadd C dX7_forecastOf_38 ?_
      refine z_goto (tgt := 43) C dX7_forecastOf_39 (by decide) ?_
      refine z_iadd C dX7_forecastOf_43 ?_
      refine z_istore_n (i := 2) C dX7_forecastOf_44 rfl (by decide) ?_
      refine z_iinc C dX7_forecastOf_45 (by decide) rfl (zinc k) ?_
      refine z_goto (tgt := 4) C dX7_forecastOf_48 (by decide) ?_
      refine z_sub (L' := [(0, aR 12 0), (1, aI (nI t)), (2, aI (forL x a t k + (ownS x a k + a 14 k))), (3, aI (nI (k + 1)))]) (zs1 rfl (zs1 rfl (zs1 rfl (zs1 rfl zs0)))) ?_
      exact ih _ _ (by omega) (by rw [forL, show (decide (k = t) || abvB a (nI t) k) = true by rw [decide_eq_true ((nI_eq (by omega) (by omega)).mp he)]; rfl]; rfl)
    · refine z_aload_n (i := 0) C dX7_forecastOf_18 rfl rfl ?_
      refine z_iload_n (i := 1) C dX7_forecastOf_19 rfl rfl ?_
      refine z_iload_n (i := 3) C dX7_forecastOf_20 rfl rfl ?_
      refine z_callV C Y_X7_isAbove V_X7_isAbove ml_RX7_153 (c_X7_isAbove l hM hI (t := t) (i := k) ht (by omega)) dX7_forecastOf_21 rfl rfl hM.1 ⟨_, _, rfl⟩ (fun _ => Nat.le_of_ble_eq_true rfl) ⟨Nat.le_of_ble_eq_true rfl, Nat.le_of_ble_eq_true rfl⟩ ⟨Nat.zero_le _, Nat.zero_le _⟩ (z_ri (fun x σ1 hx => ?_)) (z_nx)
      obtain ⟨rfl, rfl⟩ := hx
      refine z_if_eqB (tgt := 42) C dX7_forecastOf_24 (by decide) (fun hb => ?_) (fun hb => ?_)
      · refine z_iconst (v := 0) C dX7_forecastOf_42 (by decide) ?_
        refine z_iadd C dX7_forecastOf_43 ?_
        refine z_istore_n (i := 2) C dX7_forecastOf_44 rfl (by decide) ?_
        refine z_iinc C dX7_forecastOf_45 (by decide) rfl (zinc k) ?_
        refine z_goto (tgt := 4) C dX7_forecastOf_48 (by decide) ?_
        refine z_sub (L' := [(0, aR 12 0), (1, aI (nI t)), (2, aI (forL x a t k + 0)), (3, aI (nI (k + 1)))]) (zs1 rfl (zs1 rfl (zs1 rfl (zs1 rfl zs0)))) ?_
        exact ih _ _ (by omega) (by rw [forL, show (decide (k = t) || abvB a (nI t) k) = false by rw [hb, decide_eq_false (fun e => hne (by rw [e]))]; rfl]; rfl)
      · refine z_aload_n (i := 0) C dX7_forecastOf_27 rfl rfl ?_
        refine z_iload_n (i := 3) C dX7_forecastOf_28 rfl rfl ?_
        refine z_callV C Y_X7_ownOf V_X7_ownOf ml_RX7_159 (c_X7_ownOf l hM hI (i := k) (by omega)) dX7_forecastOf_29 rfl rfl hM.1 ⟨_, _, rfl⟩ (fun _ => Nat.le_of_ble_eq_true rfl) ⟨Nat.le_of_ble_eq_true rfl, Nat.le_of_ble_eq_true rfl⟩ ⟨Nat.zero_le _, Nat.zero_le _⟩ (z_ri (fun x σ1 hx => ?_)) (z_nx)
        obtain ⟨rfl, rfl⟩ := hx
        refine z_aload_n (i := 0) C dX7_forecastOf_32 rfl rfl ?_
        refine z_getf C f_RX7_40 dX7_forecastOf_33 hM.1 rfl ?_
        refine z_iload_n (i := 3) C dX7_forecastOf_36 rfl rfl ?_
        refine z_ialdN C dX7_forecastOf_37 (hM.2 14 (by decide)) (show _ < 8 by omega) (by decide) ?_
        refine z_iadd C dX7_forecastOf_38 ?_
        refine z_goto (tgt := 43) C dX7_forecastOf_39 (by decide) ?_
        refine z_iadd C dX7_forecastOf_43 ?_
        refine z_istore_n (i := 2) C dX7_forecastOf_44 rfl (by decide) ?_
        refine z_iinc C dX7_forecastOf_45 (by decide) rfl (zinc k) ?_
        refine z_goto (tgt := 4) C dX7_forecastOf_48 (by decide) ?_
        refine z_sub (L' := [(0, aR 12 0), (1, aI (nI t)), (2, aI (forL x a t k + (ownS x a k + a 14 k))), (3, aI (nI (k + 1)))]) (zs1 rfl (zs1 rfl (zs1 rfl (zs1 rfl zs0)))) ?_
        exact ih _ _ (by omega) (by rw [forL, show (decide (k = t) || abvB a (nI t) k) = true by rw [hb, Bool.or_true]]; rfl)

end ML4
set_option maxRecDepth 100000 in
set_option maxHeartbeats 4000000 in
theorem c_X7_forecastOf {X : zX} (l : Launch) {x : Nat → Int32} {a : Nat → Nat → Int32} {σ : zHp} (hM : MD x a σ) (hI : zInv x a) {t : Nat} (ht : t < 8) : zM X l yX7_forecastOf cX7_forecastOf 4 (some .int) 3 0 0 [aR 12 0, aI (nI t)] σ (zPi (fun r σ1 => r = forS x a t ∧ σ1 = σ)) zNx := by
  refine zM.of (by decide +kernel) (Nat.le_of_ble_eq_true rfl) (by simp [zcat, Value.category]) ?_
  intro p e s m args below meth c loc0 C hr hnm hT
  refine z_iconst (v := 0) C dX7_forecastOf_0 (by decide) ?_
  refine z_istore_n (i := 2) C dX7_forecastOf_1 rfl (by decide) ?_
  refine z_iconst (v := 0) C dX7_forecastOf_2 (by decide) ?_
  refine z_istore_n (i := 3) C dX7_forecastOf_3 rfl (by decide) ?_
  refine z_sub (L' := [(0, aR 12 0), (1, aI (nI t)), (2, aI 0), (3, aI (nI 0))]) (zs1 rfl (zs1 rfl (zs1 rfl (zs1 rfl zs0)))) ?_
  refine lp_forecastOf C hM hI ht ?_ (zN (x 11)) 0 0 (by omega) rfl
  refine z_iload_n (i := 2) C dX7_forecastOf_51 rfl rfl ?_
  exact z_iret C hr rfl dX7_forecastOf_52 (Nat.le_of_ble_eq_true rfl) (Nat.le_of_ble_eq_true rfl) ⟨_, rfl, rfl, rfl⟩

def cpR (a : Nat → Nat → Int32) (i j : Nat) : Nat → Nat → Int32 := ua (ua (ua (ua a 7 (upd (a 7) j (a 7 i))) 8 (upd (a 8) j (a 8 i))) 9 (upd (a 9) j (a 9 i))) 10 (upd (a 10) j (a 10 i))
set_option maxRecDepth 100000 in
set_option maxHeartbeats 4000000 in
theorem c_X7_copyRule {X : zX} (l : Launch) {x : Nat → Int32} {a : Nat → Nat → Int32} {σ : zHp} (hM : MD x a σ) {i j : Nat} (hi : i < 9) (hj : j < 9) : zM X l yX7_copyRule cX7_copyRule 3 none 0 0 0 [aR 12 0, aI (nI i), aI (nI j)] σ (zPv (fun σ1 => MD x (cpR a i j) σ1 ∧ Fm σ σ1)) zNx := by
  refine zM.of (by decide +kernel) (Nat.le_of_ble_eq_true rfl) (by simp [zcat, Value.category]) ?_
  intro p e s m args below meth c loc0 C hr hnm hT
  have hF : Fm σ σ := Fm.rf
  refine z_aload_n (i := 0) C dX7_copyRule_0 rfl rfl ?_
  refine z_getf C f_RX7_22 dX7_copyRule_1 hM.1 rfl ?_
  refine z_iload_n (i := 2) C dX7_copyRule_4 rfl rfl ?_
  refine z_aload_n (i := 0) C dX7_copyRule_5 rfl rfl ?_
  refine z_getf C f_RX7_22 dX7_copyRule_6 hM.1 rfl ?_
  refine z_iload_n (i := 1) C dX7_copyRule_9 rfl rfl ?_
  refine z_ialdN C dX7_copyRule_10 (hM.2 7 (by decide)) (show _ < 9 by omega) (by decide) ?_
  refine z_iastM C dX7_copyRule_11 hM 7 (by decide) (show _ < 9 by omega) (fun σ hM hF9 => ?_)
  replace hF := hF.tr hF9
  refine z_aload_n (i := 0) C dX7_copyRule_12 rfl rfl ?_
  refine z_getf C f_RX7_25 dX7_copyRule_13 hM.1 rfl ?_
  refine z_iload_n (i := 2) C dX7_copyRule_16 rfl rfl ?_
  refine z_aload_n (i := 0) C dX7_copyRule_17 rfl rfl ?_
  refine z_getf C f_RX7_25 dX7_copyRule_18 hM.1 rfl ?_
  refine z_iload_n (i := 1) C dX7_copyRule_21 rfl rfl ?_
  refine z_ialdN C dX7_copyRule_22 (hM.2 8 (by decide)) (show _ < 9 by omega) (by decide) ?_
  refine z_iastM C dX7_copyRule_23 hM 8 (by decide) (show _ < 9 by omega) (fun σ hM hF9 => ?_)
  replace hF := hF.tr hF9
  refine z_aload_n (i := 0) C dX7_copyRule_24 rfl rfl ?_
  refine z_getf C f_RX7_28 dX7_copyRule_25 hM.1 rfl ?_
  refine z_iload_n (i := 2) C dX7_copyRule_28 rfl rfl ?_
  refine z_aload_n (i := 0) C dX7_copyRule_29 rfl rfl ?_
  refine z_getf C f_RX7_28 dX7_copyRule_30 hM.1 rfl ?_
  refine z_iload_n (i := 1) C dX7_copyRule_33 rfl rfl ?_
  refine z_ialdN C dX7_copyRule_34 (hM.2 9 (by decide)) (show _ < 9 by omega) (by decide) ?_
  refine z_iastM C dX7_copyRule_35 hM 9 (by decide) (show _ < 9 by omega) (fun σ hM hF9 => ?_)
  replace hF := hF.tr hF9
  refine z_aload_n (i := 0) C dX7_copyRule_36 rfl rfl ?_
  refine z_getf C f_RX7_31 dX7_copyRule_37 hM.1 rfl ?_
  refine z_iload_n (i := 2) C dX7_copyRule_40 rfl rfl ?_
  refine z_aload_n (i := 0) C dX7_copyRule_41 rfl rfl ?_
  refine z_getf C f_RX7_31 dX7_copyRule_42 hM.1 rfl ?_
  refine z_iload_n (i := 1) C dX7_copyRule_45 rfl rfl ?_
  refine z_ialdN C dX7_copyRule_46 (hM.2 10 (by decide)) (show _ < 9 by omega) (by decide) ?_
  refine z_iastM C dX7_copyRule_47 hM 10 (by decide) (show _ < 9 by omega) (fun σ hM hF9 => ?_)
  replace hF := hF.tr hF9
  exact z_vret C hr dX7_copyRule_48 (Nat.le_of_ble_eq_true rfl) (Nat.le_of_ble_eq_true rfl) ⟨rfl, hM, hF⟩

set_option maxRecDepth 100000 in
set_option maxHeartbeats 4000000 in
theorem c_X7_approves {X : zX} (l : Launch) {x : Nat → Int32} {a : Nat → Nat → Int32} {σ : zHp} (hM : MD x a σ) {i : Nat} (hi : i < 40) : zM X l yX7_approves cX7_approves 2 none 0 0 0 [aR 12 0, aI (nI i)] σ (zPv (fun σ1 => MD (upd x 24 (x 24 + 1)) (ua a 28 (upd (a 28) i (x 24 + 1))) σ1 ∧ Fm σ σ1)) zNx := by
  refine zM.of (by decide +kernel) (Nat.le_of_ble_eq_true rfl) (by simp [zcat, Value.category]) ?_
  intro p e s m args below meth c loc0 C hr hnm hT
  have hF : Fm σ σ := Fm.rf
  refine z_aload_n (i := 0) C dX7_approves_0 rfl rfl ?_
  refine z_dup C (by first | trivial | rfl) dX7_approves_1 ?_
  refine z_getf C f_RX7_146 dX7_approves_2 hM.1 rfl ?_
  refine z_iconst (v := 1) C dX7_approves_5 (by decide) ?_
  refine z_iadd C dX7_approves_6 ?_
  refine z_putM (j := 24) C fp_RX7_146 dX7_approves_7 hM (by decide) (by decide) (fun σ hM hF9 => ?_)
  replace hF := hF.tr hF9
  refine z_aload_n (i := 0) C dX7_approves_10 rfl rfl ?_
  refine z_getf C f_RX7_73 dX7_approves_11 hM.1 rfl ?_
  refine z_iload_n (i := 1) C dX7_approves_14 rfl rfl ?_
  refine z_aload_n (i := 0) C dX7_approves_15 rfl rfl ?_
  refine z_getf C f_RX7_146 dX7_approves_16 hM.1 rfl ?_
  refine z_iastM C dX7_approves_19 hM 28 (by decide) (show _ < 40 by omega) (fun σ hM hF9 => ?_)
  replace hF := hF.tr hF9
  exact z_vret C hr dX7_approves_20 (Nat.le_of_ble_eq_true rfl) (Nat.le_of_ble_eq_true rfl) ⟨rfl, hM, hF⟩

set_option maxRecDepth 100000 in
set_option maxHeartbeats 4000000 in
theorem c_X7_canCome {X : zX} (l : Launch) {x : Nat → Int32} {a : Nat → Nat → Int32} {σ : zHp} (hM : MD x a σ) (hI : zInv x a) {i : Nat} (hi : i < 30) {n : Int32} : zM X l yX7_canCome cX7_canCome 5 (some .boolean) 1 0 0 [aR 12 0, aI (nI i), aI n] σ (zPi (fun r σ1 => r = zb (comB x a i n) ∧ σ1 = σ)) zNx := by
  obtain ⟨i0, i1, i6, i11, i15, i23, i24, i29, iA, iS, iC, iQ, iP⟩ := id hI
  have b1 := i1.2
  have b6 := i6.2
  have b11 := i11.2
  have b15 := i15.2
  have b23 := i23.2
  have b24 := i24.2
  have b29 := i29.2
  refine zM.of (by decide +kernel) (Nat.le_of_ble_eq_true rfl) (by simp [zcat, Value.category]) ?_
  intro p e s m args below meth c loc0 C hr hnm hT
  refine z_aload_n (i := 0) C dX7_canCome_0 rfl rfl ?_
  refine z_getf C f_RX7_49 dX7_canCome_1 hM.1 rfl ?_
  refine z_iload_n (i := 1) C dX7_canCome_4 rfl rfl ?_
  refine z_ialdN C dX7_canCome_5 (hM.2 18 (by decide)) (show _ < 30 by omega) (by decide) ?_
  refine z_istore_n (i := 3) C dX7_canCome_6 rfl (by decide) ?_
  refine z_iload_n (i := 2) C dX7_canCome_7 rfl rfl ?_
  refine z_iload_n (i := 3) C dX7_canCome_8 rfl rfl ?_
  refine z_icmp_lt (tgt := 24) C dX7_canCome_9 (by decide) (fun h9 => ?_) (fun h9 => ?_)
  · refine z_iconst (v := 1) C dX7_canCome_24 (by decide) ?_
    refine z_goto (tgt := 29) C dX7_canCome_25 (by decide) ?_
    refine z_istore C dX7_canCome_29 (by decide) ?_
    refine z_aload_n (i := 0) C dX7_canCome_31 rfl rfl ?_
    refine z_iload_n (i := 1) C dX7_canCome_32 rfl rfl ?_
    refine z_callV C Y_X7_isOpen V_X7_isOpen ml_RX7_130 (c_X7_isOpen l hM (i := i) hi) dX7_canCome_33 rfl rfl hM.1 ⟨_, _, rfl⟩ (fun _ => Nat.le_of_ble_eq_true rfl) ⟨Nat.le_of_ble_eq_true rfl, Nat.le_of_ble_eq_true rfl⟩ ⟨Nat.zero_le _, Nat.zero_le _⟩ (z_ri (fun x σ1 hx => ?_)) (z_nx)
    obtain ⟨rfl, rfl⟩ := hx
    refine z_if_eqB (tgt := 67) C dX7_canCome_36 (by decide) (fun ho => ?_) (fun ho => ?_)
    · refine z_iconst (v := 0) C dX7_canCome_67 (by decide) ?_
      exact z_iret C hr rfl dX7_canCome_68 (Nat.le_of_ble_eq_true rfl) (Nat.le_of_ble_eq_true rfl) ⟨_, rfl, by rw [show comB x a i n = false by simp [comB, ho]]; rfl, rfl⟩
    · refine z_iload C dX7_canCome_39 rfl ?_
      refine z_if_eq (tgt := 67) C dX7_canCome_41 (by decide) (fun h => absurd h (by decide)) (fun _ => ?_)
      refine z_iload_n (i := 3) C dX7_canCome_44 rfl rfl ?_
      refine z_iconst (v := 2) C dX7_canCome_45 (by decide) ?_
      refine z_icmp_ne (tgt := 63) C dX7_canCome_46 (by decide) (fun h2 => ?_) (fun h2 => ?_)
      · refine z_iconst (v := 1) C dX7_canCome_63 (by decide) ?_
        refine z_goto (tgt := 68) C dX7_canCome_64 (by decide) ?_
        exact z_iret C hr rfl dX7_canCome_68 (Nat.le_of_ble_eq_true rfl) (Nat.le_of_ble_eq_true rfl) ⟨_, rfl, by rw [show comB x a i n = true by simp only [comB, (show (decide (n < a 18 i) || (decide (n = 5) || decide (n = a 18 i + 1))) = true by simp [h9]), ho, decide_eq_false h2, decide_true, decide_false, Bool.not_true, Bool.not_false, Bool.and_true, Bool.true_and, Bool.true_or, Bool.or_true, Bool.false_or]]; rfl, rfl⟩
      · refine z_iload_n (i := 2) C dX7_canCome_49 rfl rfl ?_
        refine z_iconst (v := 3) C dX7_canCome_50 (by decide) ?_
        refine z_icmp_ne (tgt := 63) C dX7_canCome_51 (by decide) (fun h3 => ?_) (fun h3 => ?_)
        · refine z_iconst (v := 1) C dX7_canCome_63 (by decide) ?_
          refine z_goto (tgt := 68) C dX7_canCome_64 (by decide) ?_
          exact z_iret C hr rfl dX7_canCome_68 (Nat.le_of_ble_eq_true rfl) (Nat.le_of_ble_eq_true rfl) ⟨_, rfl, by rw [show comB x a i n = true by simp only [comB, (show (decide (n < a 18 i) || (decide (n = 5) || decide (n = a 18 i + 1))) = true by simp [h9]), ho, decide_eq_false h3, decide_true, decide_false, Bool.not_true, Bool.not_false, Bool.and_true, Bool.true_and, Bool.true_or, Bool.or_true, Bool.false_or]]; rfl, rfl⟩
        · refine z_aload_n (i := 0) C dX7_canCome_54 rfl rfl ?_
          refine z_iload_n (i := 1) C dX7_canCome_55 rfl rfl ?_
          refine z_callV C Y_X7_counts V_X7_counts ml_RX7_136 (c_X7_counts l hM hI) dX7_canCome_56 rfl rfl hM.1 ⟨_, _, rfl⟩ (fun _ => Nat.le_of_ble_eq_true rfl) ⟨Nat.le_of_ble_eq_true rfl, Nat.le_of_ble_eq_true rfl⟩ ⟨Nat.zero_le _, Nat.zero_le _⟩ (z_ri (fun x σ1 hx => ?_)) (z_nx)
          obtain ⟨rfl, rfl⟩ := hx
          refine z_iconst (v := -1) C dX7_canCome_59 (by decide) ?_
          refine z_icmp_eq (tgt := 67) C dX7_canCome_60 (by decide) (fun h4 => ?_) (fun h4 => ?_)
          · refine z_iconst (v := 0) C dX7_canCome_67 (by decide) ?_
            exact z_iret C hr rfl dX7_canCome_68 (Nat.le_of_ble_eq_true rfl) (Nat.le_of_ble_eq_true rfl) ⟨_, rfl, by rw [show comB x a i n = false by simp only [comB, (show (decide (n < a 18 i) || (decide (n = 5) || decide (n = a 18 i + 1))) = true by simp [h9]), ho, decide_eq_true h2, decide_eq_true h3, decide_eq_true h4, decide_true, decide_false, Bool.not_true, Bool.not_false, Bool.and_true, Bool.true_and, Bool.false_or, Bool.and_false]]; rfl, rfl⟩
          · refine z_iconst (v := 1) C dX7_canCome_63 (by decide) ?_
            refine z_goto (tgt := 68) C dX7_canCome_64 (by decide) ?_
            exact z_iret C hr rfl dX7_canCome_68 (Nat.le_of_ble_eq_true rfl) (Nat.le_of_ble_eq_true rfl) ⟨_, rfl, by rw [show comB x a i n = true by simp only [comB, (show (decide (n < a 18 i) || (decide (n = 5) || decide (n = a 18 i + 1))) = true by simp [h9]), ho, decide_eq_false h4, decide_true, decide_false, Bool.not_true, Bool.not_false, Bool.and_true, Bool.true_and, Bool.true_or, Bool.or_true, Bool.false_or]]; rfl, rfl⟩
  · refine z_iload_n (i := 2) C dX7_canCome_12 rfl rfl ?_
    refine z_iconst (v := 5) C dX7_canCome_13 (by decide) ?_
    refine z_icmp_eq (tgt := 24) C dX7_canCome_14 (by decide) (fun h14 => ?_) (fun h14 => ?_)
    · refine z_iconst (v := 1) C dX7_canCome_24 (by decide) ?_
      refine z_goto (tgt := 29) C dX7_canCome_25 (by decide) ?_
      refine z_istore C dX7_canCome_29 (by decide) ?_
      refine z_aload_n (i := 0) C dX7_canCome_31 rfl rfl ?_
      refine z_iload_n (i := 1) C dX7_canCome_32 rfl rfl ?_
      refine z_callV C Y_X7_isOpen V_X7_isOpen ml_RX7_130 (c_X7_isOpen l hM (i := i) hi) dX7_canCome_33 rfl rfl hM.1 ⟨_, _, rfl⟩ (fun _ => Nat.le_of_ble_eq_true rfl) ⟨Nat.le_of_ble_eq_true rfl, Nat.le_of_ble_eq_true rfl⟩ ⟨Nat.zero_le _, Nat.zero_le _⟩ (z_ri (fun x σ1 hx => ?_)) (z_nx)
      obtain ⟨rfl, rfl⟩ := hx
      refine z_if_eqB (tgt := 67) C dX7_canCome_36 (by decide) (fun ho => ?_) (fun ho => ?_)
      · refine z_iconst (v := 0) C dX7_canCome_67 (by decide) ?_
        exact z_iret C hr rfl dX7_canCome_68 (Nat.le_of_ble_eq_true rfl) (Nat.le_of_ble_eq_true rfl) ⟨_, rfl, by rw [show comB x a i n = false by simp [comB, ho]]; rfl, rfl⟩
      · refine z_iload C dX7_canCome_39 rfl ?_
        refine z_if_eq (tgt := 67) C dX7_canCome_41 (by decide) (fun h => absurd h (by decide)) (fun _ => ?_)
        refine z_iload_n (i := 3) C dX7_canCome_44 rfl rfl ?_
        refine z_iconst (v := 2) C dX7_canCome_45 (by decide) ?_
        refine z_icmp_ne (tgt := 63) C dX7_canCome_46 (by decide) (fun h2 => ?_) (fun h2 => ?_)
        · refine z_iconst (v := 1) C dX7_canCome_63 (by decide) ?_
          refine z_goto (tgt := 68) C dX7_canCome_64 (by decide) ?_
          exact z_iret C hr rfl dX7_canCome_68 (Nat.le_of_ble_eq_true rfl) (Nat.le_of_ble_eq_true rfl) ⟨_, rfl, by rw [show comB x a i n = true by simp only [comB, (show (decide (n < a 18 i) || (decide (n = 5) || decide (n = a 18 i + 1))) = true by simp [h14]), ho, decide_eq_false h2, decide_true, decide_false, Bool.not_true, Bool.not_false, Bool.and_true, Bool.true_and, Bool.true_or, Bool.or_true, Bool.false_or]]; rfl, rfl⟩
        · refine z_iload_n (i := 2) C dX7_canCome_49 rfl rfl ?_
          refine z_iconst (v := 3) C dX7_canCome_50 (by decide) ?_
          refine z_icmp_ne (tgt := 63) C dX7_canCome_51 (by decide) (fun h3 => ?_) (fun h3 => ?_)
          · refine z_iconst (v := 1) C dX7_canCome_63 (by decide) ?_
            refine z_goto (tgt := 68) C dX7_canCome_64 (by decide) ?_
            exact z_iret C hr rfl dX7_canCome_68 (Nat.le_of_ble_eq_true rfl) (Nat.le_of_ble_eq_true rfl) ⟨_, rfl, by rw [show comB x a i n = true by simp only [comB, (show (decide (n < a 18 i) || (decide (n = 5) || decide (n = a 18 i + 1))) = true by simp [h14]), ho, decide_eq_false h3, decide_true, decide_false, Bool.not_true, Bool.not_false, Bool.and_true, Bool.true_and, Bool.true_or, Bool.or_true, Bool.false_or]]; rfl, rfl⟩
          · refine z_aload_n (i := 0) C dX7_canCome_54 rfl rfl ?_
            refine z_iload_n (i := 1) C dX7_canCome_55 rfl rfl ?_
            refine z_callV C Y_X7_counts V_X7_counts ml_RX7_136 (c_X7_counts l hM hI) dX7_canCome_56 rfl rfl hM.1 ⟨_, _, rfl⟩ (fun _ => Nat.le_of_ble_eq_true rfl) ⟨Nat.le_of_ble_eq_true rfl, Nat.le_of_ble_eq_true rfl⟩ ⟨Nat.zero_le _, Nat.zero_le _⟩ (z_ri (fun x σ1 hx => ?_)) (z_nx)
            obtain ⟨rfl, rfl⟩ := hx
            refine z_iconst (v := -1) C dX7_canCome_59 (by decide) ?_
            refine z_icmp_eq (tgt := 67) C dX7_canCome_60 (by decide) (fun h4 => ?_) (fun h4 => ?_)
            · refine z_iconst (v := 0) C dX7_canCome_67 (by decide) ?_
              exact z_iret C hr rfl dX7_canCome_68 (Nat.le_of_ble_eq_true rfl) (Nat.le_of_ble_eq_true rfl) ⟨_, rfl, by rw [show comB x a i n = false by simp only [comB, (show (decide (n < a 18 i) || (decide (n = 5) || decide (n = a 18 i + 1))) = true by simp [h14]), ho, decide_eq_true h2, decide_eq_true h3, decide_eq_true h4, decide_true, decide_false, Bool.not_true, Bool.not_false, Bool.and_true, Bool.true_and, Bool.false_or, Bool.and_false]]; rfl, rfl⟩
            · refine z_iconst (v := 1) C dX7_canCome_63 (by decide) ?_
              refine z_goto (tgt := 68) C dX7_canCome_64 (by decide) ?_
              exact z_iret C hr rfl dX7_canCome_68 (Nat.le_of_ble_eq_true rfl) (Nat.le_of_ble_eq_true rfl) ⟨_, rfl, by rw [show comB x a i n = true by simp only [comB, (show (decide (n < a 18 i) || (decide (n = 5) || decide (n = a 18 i + 1))) = true by simp [h14]), ho, decide_eq_false h4, decide_true, decide_false, Bool.not_true, Bool.not_false, Bool.and_true, Bool.true_and, Bool.true_or, Bool.or_true, Bool.false_or]]; rfl, rfl⟩
    · refine z_iload_n (i := 2) C dX7_canCome_17 rfl rfl ?_
      refine z_iload_n (i := 3) C dX7_canCome_18 rfl rfl ?_
      refine z_iconst (v := 1) C dX7_canCome_19 (by decide) ?_
      refine z_iadd C dX7_canCome_20 ?_
      refine z_icmp_ne (tgt := 28) C dX7_canCome_21 (by decide) (fun h21 => ?_) (fun h21 => ?_)
      · refine z_iconst (v := 0) C dX7_canCome_28 (by decide) ?_
        refine z_istore C dX7_canCome_29 (by decide) ?_
        refine z_aload_n (i := 0) C dX7_canCome_31 rfl rfl ?_
        refine z_iload_n (i := 1) C dX7_canCome_32 rfl rfl ?_
        refine z_callV C Y_X7_isOpen V_X7_isOpen ml_RX7_130 (c_X7_isOpen l hM (i := i) hi) dX7_canCome_33 rfl rfl hM.1 ⟨_, _, rfl⟩ (fun _ => Nat.le_of_ble_eq_true rfl) ⟨Nat.le_of_ble_eq_true rfl, Nat.le_of_ble_eq_true rfl⟩ ⟨Nat.zero_le _, Nat.zero_le _⟩ (z_ri (fun x σ1 hx => ?_)) (z_nx)
        obtain ⟨rfl, rfl⟩ := hx
        refine z_if_eqB (tgt := 67) C dX7_canCome_36 (by decide) (fun ho => ?_) (fun ho => ?_)
        · refine z_iconst (v := 0) C dX7_canCome_67 (by decide) ?_
          exact z_iret C hr rfl dX7_canCome_68 (Nat.le_of_ble_eq_true rfl) (Nat.le_of_ble_eq_true rfl) ⟨_, rfl, by rw [show comB x a i n = false by simp [comB, ho]]; rfl, rfl⟩
        · refine z_iload C dX7_canCome_39 rfl ?_
          refine z_if_eq (tgt := 67) C dX7_canCome_41 (by decide) (fun _ => ?_) (fun h => absurd rfl h)
          refine z_iconst (v := 0) C dX7_canCome_67 (by decide) ?_
          exact z_iret C hr rfl dX7_canCome_68 (Nat.le_of_ble_eq_true rfl) (Nat.le_of_ble_eq_true rfl) ⟨_, rfl, by rw [show comB x a i n = false by simp only [comB, (show (decide (n < a 18 i) || (decide (n = 5) || decide (n = a 18 i + 1))) = false by rw [decide_eq_false h9, decide_eq_false h14, decide_eq_false h21]; rfl), Bool.false_and, Bool.and_false]]; rfl, rfl⟩
      · refine z_iconst (v := 1) C dX7_canCome_24 (by decide) ?_
        refine z_goto (tgt := 29) C dX7_canCome_25 (by decide) ?_
        refine z_istore C dX7_canCome_29 (by decide) ?_
        refine z_aload_n (i := 0) C dX7_canCome_31 rfl rfl ?_
        refine z_iload_n (i := 1) C dX7_canCome_32 rfl rfl ?_
        refine z_callV C Y_X7_isOpen V_X7_isOpen ml_RX7_130 (c_X7_isOpen l hM (i := i) hi) dX7_canCome_33 rfl rfl hM.1 ⟨_, _, rfl⟩ (fun _ => Nat.le_of_ble_eq_true rfl) ⟨Nat.le_of_ble_eq_true rfl, Nat.le_of_ble_eq_true rfl⟩ ⟨Nat.zero_le _, Nat.zero_le _⟩ (z_ri (fun x σ1 hx => ?_)) (z_nx)
        obtain ⟨rfl, rfl⟩ := hx
        refine z_if_eqB (tgt := 67) C dX7_canCome_36 (by decide) (fun ho => ?_) (fun ho => ?_)
        · refine z_iconst (v := 0) C dX7_canCome_67 (by decide) ?_
          exact z_iret C hr rfl dX7_canCome_68 (Nat.le_of_ble_eq_true rfl) (Nat.le_of_ble_eq_true rfl) ⟨_, rfl, by rw [show comB x a i n = false by simp [comB, ho]]; rfl, rfl⟩
        · refine z_iload C dX7_canCome_39 rfl ?_
          refine z_if_eq (tgt := 67) C dX7_canCome_41 (by decide) (fun h => absurd h (by decide)) (fun _ => ?_)
          refine z_iload_n (i := 3) C dX7_canCome_44 rfl rfl ?_
          refine z_iconst (v := 2) C dX7_canCome_45 (by decide) ?_
          refine z_icmp_ne (tgt := 63) C dX7_canCome_46 (by decide) (fun h2 => ?_) (fun h2 => ?_)
          · refine z_iconst (v := 1) C dX7_canCome_63 (by decide) ?_
            refine z_goto (tgt := 68) C dX7_canCome_64 (by decide) ?_
            exact z_iret C hr rfl dX7_canCome_68 (Nat.le_of_ble_eq_true rfl) (Nat.le_of_ble_eq_true rfl) ⟨_, rfl, by rw [show comB x a i n = true by simp only [comB, (show (decide (n < a 18 i) || (decide (n = 5) || decide (n = a 18 i + 1))) = true by rw [decide_eq_true h21]; simp), ho, decide_eq_false h2, decide_true, decide_false, Bool.not_true, Bool.not_false, Bool.and_true, Bool.true_and, Bool.true_or, Bool.or_true, Bool.false_or]]; rfl, rfl⟩
          · refine z_iload_n (i := 2) C dX7_canCome_49 rfl rfl ?_
            refine z_iconst (v := 3) C dX7_canCome_50 (by decide) ?_
            refine z_icmp_ne (tgt := 63) C dX7_canCome_51 (by decide) (fun h3 => ?_) (fun h3 => ?_)
            · refine z_iconst (v := 1) C dX7_canCome_63 (by decide) ?_
              refine z_goto (tgt := 68) C dX7_canCome_64 (by decide) ?_
              exact z_iret C hr rfl dX7_canCome_68 (Nat.le_of_ble_eq_true rfl) (Nat.le_of_ble_eq_true rfl) ⟨_, rfl, by rw [show comB x a i n = true by simp only [comB, (show (decide (n < a 18 i) || (decide (n = 5) || decide (n = a 18 i + 1))) = true by rw [decide_eq_true h21]; simp), ho, decide_eq_false h3, decide_true, decide_false, Bool.not_true, Bool.not_false, Bool.and_true, Bool.true_and, Bool.true_or, Bool.or_true, Bool.false_or]]; rfl, rfl⟩
            · refine z_aload_n (i := 0) C dX7_canCome_54 rfl rfl ?_
              refine z_iload_n (i := 1) C dX7_canCome_55 rfl rfl ?_
              refine z_callV C Y_X7_counts V_X7_counts ml_RX7_136 (c_X7_counts l hM hI) dX7_canCome_56 rfl rfl hM.1 ⟨_, _, rfl⟩ (fun _ => Nat.le_of_ble_eq_true rfl) ⟨Nat.le_of_ble_eq_true rfl, Nat.le_of_ble_eq_true rfl⟩ ⟨Nat.zero_le _, Nat.zero_le _⟩ (z_ri (fun x σ1 hx => ?_)) (z_nx)
              obtain ⟨rfl, rfl⟩ := hx
              refine z_iconst (v := -1) C dX7_canCome_59 (by decide) ?_
              refine z_icmp_eq (tgt := 67) C dX7_canCome_60 (by decide) (fun h4 => ?_) (fun h4 => ?_)
              · refine z_iconst (v := 0) C dX7_canCome_67 (by decide) ?_
                exact z_iret C hr rfl dX7_canCome_68 (Nat.le_of_ble_eq_true rfl) (Nat.le_of_ble_eq_true rfl) ⟨_, rfl, by rw [show comB x a i n = false by simp only [comB, (show (decide (n < a 18 i) || (decide (n = 5) || decide (n = a 18 i + 1))) = true by rw [decide_eq_true h21]; simp), ho, decide_eq_true h2, decide_eq_true h3, decide_eq_true h4, decide_true, decide_false, Bool.not_true, Bool.not_false, Bool.and_true, Bool.true_and, Bool.false_or, Bool.and_false]]; rfl, rfl⟩
              · refine z_iconst (v := 1) C dX7_canCome_63 (by decide) ?_
                refine z_goto (tgt := 68) C dX7_canCome_64 (by decide) ?_
                exact z_iret C hr rfl dX7_canCome_68 (Nat.le_of_ble_eq_true rfl) (Nat.le_of_ble_eq_true rfl) ⟨_, rfl, by rw [show comB x a i n = true by simp only [comB, (show (decide (n < a 18 i) || (decide (n = 5) || decide (n = a 18 i + 1))) = true by rw [decide_eq_true h21]; simp), ho, decide_eq_false h4, decide_true, decide_false, Bool.not_true, Bool.not_false, Bool.and_true, Bool.true_and, Bool.true_or, Bool.or_true, Bool.false_or]]; rfl, rfl⟩

