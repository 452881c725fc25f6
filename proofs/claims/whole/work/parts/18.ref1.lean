/-! the reference: its small methods -/
section MR
variable {X : zX} {p : Program} {l : Launch} {e : Env} {s : State} {m : MethodId} {args : Array Value} {below : List Frame} {meth : Method} {c : Code} {nL : Nat} {σ0 σ : zHp} {loc0 : zK → Nat} {Q : State → Prop} {mc ms : Nat} {R : Room} {cells slots pc : Nat} {cc : ByteArray} {own : String} {L : List (Nat × zV)} {st : List zV}
theorem z_ialdN (C : zC X p l s m args meth c cc nL own) {k i n j : Nat} {f : Nat → Int32} (hd : decode cc pc = .ok (.iaload, 1)) (hσ : σ k i = some (iC n f)) (hj : j < n) (hn : n ≤ 1000) (kk : zG X p l e R s m args below meth c nL σ0 loc0 Q cells slots σ (pc + 1) L (aI (f j) :: st)) : zG X p l e R s m args below meth c nL σ0 loc0 Q cells slots σ pc L (aI (nI j) :: aR k i :: st) := by
  have e : (nI j).toNatClampNeg = j := nI_clamp (by omega)
  refine z_iald C hd hσ (vp_in_nI hj (by omega)) ?_
  rw [e]
  exact kk
theorem z_iastN (C : zC X p l s m args meth c cc nL own) {k i n j : Nat} {f : Nat → Int32} {v : Int32} (hd : decode cc pc = .ok (.iastore, 1)) (hσ : σ k i = some (iC n f)) (hk : k < 90) (hj : j < n) (hn : n ≤ 1000) (kk : zG X p l e R s m args below meth c nL σ0 loc0 Q cells slots (zput σ k i (iC n (upd f j v))) (pc + 1) L st) : zG X p l e R s m args below meth c nL σ0 loc0 Q cells slots σ pc L (aI v :: aI (nI j) :: aR k i :: st) := by
  have e : (nI j).toNatClampNeg = j := nI_clamp (by omega)
  refine z_iast C hd hσ hk (vp_in_nI hj (by omega)) ?_
  rw [e]
  exact kk
theorem zbf {b : Bool} (h : b = false) : (0 : Int32) = zb b := by rw [h]; rfl
theorem zbt {b : Bool} (h : b = true) : (1 : Int32) = zb b := by rw [h]; rfl
end MR
set_option maxRecDepth 100000 in
set_option maxHeartbeats 4000000 in
theorem c_X7_in {X : zX} (l : Launch) {σ : zHp} {v lo hi : Int32} : zM X l yX7_in cX7_in 3 (some .boolean) 0 0 0 [aI v, aI lo, aI hi] σ (zPi (fun r σ1 => r = zb (inB v lo hi) ∧ σ1 = σ)) zNx := by
  refine zM.of (by decide +kernel) (Nat.le_of_ble_eq_true rfl) (by simp [zcat, Value.category]) ?_
  intro p e s m args below meth c loc0 C hr hnm hT
  refine z_iload_n (i := 0) C dX7_in_0 rfl rfl ?_
  refine z_iload_n (i := 1) C dX7_in_1 rfl rfl ?_
  refine z_icmp_lt (tgt := 14) C dX7_in_2 (by decide) (fun h2 => ?_) (fun h2 => ?_)
  · refine z_iconst (v := 0) C dX7_in_14 (by decide) ?_
    exact z_iret C hr rfl dX7_in_15 (Nat.le_of_ble_eq_true rfl) (Nat.le_of_ble_eq_true rfl) ⟨_, rfl, by rw [show inB v lo hi = false by simp [inB, Int32.not_le.mpr h2]]; rfl, rfl⟩
  · refine z_iload_n (i := 0) C dX7_in_5 rfl rfl ?_
    refine z_iload_n (i := 2) C dX7_in_6 rfl rfl ?_
    refine z_icmp_gt (tgt := 14) C dX7_in_7 (by decide) (fun h7 => ?_) (fun h7 => ?_)
    · refine z_iconst (v := 0) C dX7_in_14 (by decide) ?_
      exact z_iret C hr rfl dX7_in_15 (Nat.le_of_ble_eq_true rfl) (Nat.le_of_ble_eq_true rfl) ⟨_, rfl, by rw [show inB v lo hi = false by simp [inB, Int32.not_le.mpr h7]]; rfl, rfl⟩
    · refine z_iconst (v := 1) C dX7_in_10 (by decide) ?_
      refine z_goto (tgt := 15) C dX7_in_11 (by decide) ?_
      exact z_iret C hr rfl dX7_in_15 (Nat.le_of_ble_eq_true rfl) (Nat.le_of_ble_eq_true rfl) ⟨_, rfl, by rw [inB_t.mpr ⟨Int32.not_lt.mp h2, Int32.not_lt.mp h7⟩]; rfl, rfl⟩

set_option maxRecDepth 100000 in
set_option maxHeartbeats 4000000 in
theorem c_X7_thrown {X : zX} (l : Launch) {x : Nat → Int32} {a : Nat → Nat → Int32} {σ : zHp} (hM : MD x a σ) : zM X l yX7_thrown cX7_thrown 1 (some .int) 0 0 0 [aR 12 0] σ (zPi (fun r σ1 => r = x 31 ∧ σ1 = σ)) zNx := by
  refine zM.of (by decide +kernel) (Nat.le_of_ble_eq_true rfl) (by simp [zcat, Value.category]) ?_
  intro p e s m args below meth c loc0 C hr hnm hT
  refine z_aload_n (i := 0) C dX7_thrown_0 rfl rfl ?_
  refine z_getf C f_RX7_79 dX7_thrown_1 hM.1 rfl ?_
  exact z_iret C hr rfl dX7_thrown_4 (Nat.le_of_ble_eq_true rfl) (Nat.le_of_ble_eq_true rfl) ⟨_, rfl, rfl, rfl⟩

set_option maxRecDepth 100000 in
set_option maxHeartbeats 4000000 in
theorem c_X7_goes {X : zX} (l : Launch) {x : Nat → Int32} {a : Nat → Nat → Int32} {σ : zHp} (hM : MD x a σ) {p1 p2 p3 : Bool} : zM X l yX7_goes cX7_goes 4 (some .boolean) 0 0 0 [aR 12 0, aI (zb p1), aI (zb p2), aI (zb p3)] σ (zPi (fun r σ1 => r = zb (decide (goC p1 p2 p3 = 0)) ∧ MD (upd x 31 (goC p1 p2 p3)) a σ1 ∧ Fm σ σ1)) zNx := by
  refine zM.of (by decide +kernel) (Nat.le_of_ble_eq_true rfl) (by simp [zcat, Value.category]) ?_
  intro p e s m args below meth c loc0 C hr hnm hT
  refine z_aload_n (i := 0) C dX7_goes_0 rfl rfl ?_
  refine z_iload_n (i := 1) C dX7_goes_1 rfl rfl ?_
  refine z_if_neB (tgt := 9) C dX7_goes_2 (by decide) (fun h2 => ?_) (fun h2 => ?_)
  · refine z_iload_n (i := 2) C dX7_goes_9 rfl rfl ?_
    refine z_if_neB (tgt := 17) C dX7_goes_10 (by decide) (fun h10 => ?_) (fun h10 => ?_)
    · refine z_iload_n (i := 3) C dX7_goes_17 rfl rfl ?_
      refine z_if_neB (tgt := 25) C dX7_goes_18 (by decide) (fun h18 => ?_) (fun h18 => ?_)
      · refine z_iconst (v := 0) C dX7_goes_25 (by decide) ?_
        refine z_putf C fp_RX7_79 dX7_goes_26 hM.1 (by decide) (Nat.le_of_ble_eq_true rfl) (fun _ => ⟨rfl, rfl⟩) ?_
        have hM := hM.obj (x1 := upd x 31 (0)) (by rfl)
        refine z_aload_n (i := 0) C dX7_goes_29 rfl rfl ?_
        refine z_getf C f_RX7_79 dX7_goes_30 hM.1 rfl ?_
        rw [show upd x 31 (0) 31 = 0 from by simp [upd]]
        refine z_if_ne (tgt := 40) C dX7_goes_33 (by decide) (fun h => absurd rfl h) (fun _ => ?_)
        refine z_iconst (v := 1) C dX7_goes_36 (by decide) ?_
        refine z_goto (tgt := 41) C dX7_goes_37 (by decide) ?_
        exact z_iret C hr rfl dX7_goes_41 (Nat.le_of_ble_eq_true rfl) (Nat.le_of_ble_eq_true rfl) ⟨_, rfl, by rw [show goC p1 p2 p3 = 0 by simp [goC, h2, h10, h18]]; rfl, by rw [show goC p1 p2 p3 = 0 by simp [goC, h2, h10, h18]]; exact hM, Fm.p12⟩
      · refine z_iconst (v := 3) C dX7_goes_21 (by decide) ?_
        refine z_goto (tgt := 26) C dX7_goes_22 (by decide) ?_
        refine z_putf C fp_RX7_79 dX7_goes_26 hM.1 (by decide) (Nat.le_of_ble_eq_true rfl) (fun _ => ⟨rfl, rfl⟩) ?_
        have hM := hM.obj (x1 := upd x 31 (3)) (by rfl)
        refine z_aload_n (i := 0) C dX7_goes_29 rfl rfl ?_
        refine z_getf C f_RX7_79 dX7_goes_30 hM.1 rfl ?_
        rw [show upd x 31 (3) 31 = 3 from by simp [upd]]
        refine z_if_ne (tgt := 40) C dX7_goes_33 (by decide) (fun _ => ?_) (fun h => absurd h (by decide))
        refine z_iconst (v := 0) C dX7_goes_40 (by decide) ?_
        exact z_iret C hr rfl dX7_goes_41 (Nat.le_of_ble_eq_true rfl) (Nat.le_of_ble_eq_true rfl) ⟨_, rfl, by rw [show goC p1 p2 p3 = 3 by simp [goC, h2, h10, h18]]; rfl, by rw [show goC p1 p2 p3 = 3 by simp [goC, h2, h10, h18]]; exact hM, Fm.p12⟩
    · refine z_iconst (v := 2) C dX7_goes_13 (by decide) ?_
      refine z_goto (tgt := 26) C dX7_goes_14 (by decide) ?_
      refine z_putf C fp_RX7_79 dX7_goes_26 hM.1 (by decide) (Nat.le_of_ble_eq_true rfl) (fun _ => ⟨rfl, rfl⟩) ?_
      have hM := hM.obj (x1 := upd x 31 (2)) (by rfl)
      refine z_aload_n (i := 0) C dX7_goes_29 rfl rfl ?_
      refine z_getf C f_RX7_79 dX7_goes_30 hM.1 rfl ?_
      rw [show upd x 31 (2) 31 = 2 from by simp [upd]]
      refine z_if_ne (tgt := 40) C dX7_goes_33 (by decide) (fun _ => ?_) (fun h => absurd h (by decide))
      refine z_iconst (v := 0) C dX7_goes_40 (by decide) ?_
      exact z_iret C hr rfl dX7_goes_41 (Nat.le_of_ble_eq_true rfl) (Nat.le_of_ble_eq_true rfl) ⟨_, rfl, by rw [show goC p1 p2 p3 = 2 by simp [goC, h2, h10]]; rfl, by rw [show goC p1 p2 p3 = 2 by simp [goC, h2, h10]]; exact hM, Fm.p12⟩
  · refine z_iconst (v := 1) C dX7_goes_5 (by decide) ?_
    refine z_goto (tgt := 26) C dX7_goes_6 (by decide) ?_
    refine z_putf C fp_RX7_79 dX7_goes_26 hM.1 (by decide) (Nat.le_of_ble_eq_true rfl) (fun _ => ⟨rfl, rfl⟩) ?_
    have hM := hM.obj (x1 := upd x 31 (1)) (by rfl)
    refine z_aload_n (i := 0) C dX7_goes_29 rfl rfl ?_
    refine z_getf C f_RX7_79 dX7_goes_30 hM.1 rfl ?_
    rw [show upd x 31 (1) 31 = 1 from by simp [upd]]
    refine z_if_ne (tgt := 40) C dX7_goes_33 (by decide) (fun _ => ?_) (fun h => absurd h (by decide))
    refine z_iconst (v := 0) C dX7_goes_40 (by decide) ?_
    exact z_iret C hr rfl dX7_goes_41 (Nat.le_of_ble_eq_true rfl) (Nat.le_of_ble_eq_true rfl) ⟨_, rfl, by rw [show goC p1 p2 p3 = 1 by simp [goC, h2]]; rfl, by rw [show goC p1 p2 p3 = 1 by simp [goC, h2]]; exact hM, Fm.p12⟩

set_option maxRecDepth 100000 in
set_option maxHeartbeats 4000000 in
theorem c_X7_isAccount {X : zX} (l : Launch) {x : Nat → Int32} {a : Nat → Nat → Int32} {σ : zHp} (hM : MD x a σ) {v : Int32} : zM X l yX7_isAccount cX7_isAccount 2 (some .boolean) 1 0 0 [aR 12 0, aI v] σ (zPi (fun r σ1 => r = zb (isAcc x v) ∧ σ1 = σ)) zNx := by
  refine zM.of (by decide +kernel) (Nat.le_of_ble_eq_true rfl) (by simp [zcat, Value.category]) ?_
  intro p e s m args below meth c loc0 C hr hnm hT
  refine z_iload_n (i := 1) C dX7_isAccount_0 rfl rfl ?_
  refine z_iconst (v := 0) C dX7_isAccount_1 (by decide) ?_
  refine z_aload_n (i := 0) C dX7_isAccount_2 rfl rfl ?_
  refine z_getf C f_RX7_83 dX7_isAccount_3 hM.1 rfl ?_
  refine z_iconst (v := 1) C dX7_isAccount_6 (by decide) ?_
  refine z_isub C dX7_isAccount_7 ?_
  refine z_callS C Y_X7_in sm_yX7_in ml_RX7_86 (c_X7_in l) dX7_isAccount_8 rfl rfl (fun _ => Nat.le_of_ble_eq_true rfl) ⟨Nat.le_of_ble_eq_true rfl, Nat.le_of_ble_eq_true rfl⟩ ⟨Nat.le_of_ble_eq_true rfl, Nat.le_of_ble_eq_true rfl⟩ (z_ri (fun x σ1 hx => ?_)) (z_nx)
  obtain ⟨rfl, rfl⟩ := hx
  exact z_iret C hr (by cases (inB v 0 (x 1 - 1)) <;> rfl) dX7_isAccount_11 (Nat.le_of_ble_eq_true rfl) (Nat.le_of_ble_eq_true rfl) ⟨_, rfl, rfl, rfl⟩

set_option maxRecDepth 100000 in
set_option maxHeartbeats 4000000 in
theorem c_X7_isSeller {X : zX} (l : Launch) {x : Nat → Int32} {a : Nat → Nat → Int32} {σ : zHp} (hM : MD x a σ) {v : Int32} : zM X l yX7_isSeller cX7_isSeller 2 (some .boolean) 1 0 0 [aR 12 0, aI v] σ (zPi (fun r σ1 => r = zb (isSel x v) ∧ σ1 = σ)) zNx := by
  refine zM.of (by decide +kernel) (Nat.le_of_ble_eq_true rfl) (by simp [zcat, Value.category]) ?_
  intro p e s m args below meth c loc0 C hr hnm hT
  refine z_iload_n (i := 1) C dX7_isSeller_0 rfl rfl ?_
  refine z_iconst (v := 0) C dX7_isSeller_1 (by decide) ?_
  refine z_aload_n (i := 0) C dX7_isSeller_2 rfl rfl ?_
  refine z_getf C f_RX7_90 dX7_isSeller_3 hM.1 rfl ?_
  refine z_iconst (v := 1) C dX7_isSeller_6 (by decide) ?_
  refine z_isub C dX7_isSeller_7 ?_
  refine z_callS C Y_X7_in sm_yX7_in ml_RX7_86 (c_X7_in l) dX7_isSeller_8 rfl rfl (fun _ => Nat.le_of_ble_eq_true rfl) ⟨Nat.le_of_ble_eq_true rfl, Nat.le_of_ble_eq_true rfl⟩ ⟨Nat.le_of_ble_eq_true rfl, Nat.le_of_ble_eq_true rfl⟩ (z_ri (fun x σ1 hx => ?_)) (z_nx)
  obtain ⟨rfl, rfl⟩ := hx
  exact z_iret C hr (by cases (inB v 0 (x 11 - 1)) <;> rfl) dX7_isSeller_11 (Nat.le_of_ble_eq_true rfl) (Nat.le_of_ble_eq_true rfl) ⟨_, rfl, rfl, rfl⟩

set_option maxRecDepth 100000 in
set_option maxHeartbeats 4000000 in
theorem c_X7_isChance {X : zX} (l : Launch) {x : Nat → Int32} {a : Nat → Nat → Int32} {σ : zHp} (hM : MD x a σ) {v : Int32} : zM X l yX7_isChance cX7_isChance 2 (some .boolean) 1 0 0 [aR 12 0, aI v] σ (zPi (fun r σ1 => r = zb (isCha x v) ∧ σ1 = σ)) zNx := by
  refine zM.of (by decide +kernel) (Nat.le_of_ble_eq_true rfl) (by simp [zcat, Value.category]) ?_
  intro p e s m args below meth c loc0 C hr hnm hT
  refine z_iload_n (i := 1) C dX7_isChance_0 rfl rfl ?_
  refine z_iconst (v := 0) C dX7_isChance_1 (by decide) ?_
  refine z_aload_n (i := 0) C dX7_isChance_2 rfl rfl ?_
  refine z_getf C f_RX7_93 dX7_isChance_3 hM.1 rfl ?_
  refine z_iconst (v := 1) C dX7_isChance_6 (by decide) ?_
  refine z_isub C dX7_isChance_7 ?_
  refine z_callS C Y_X7_in sm_yX7_in ml_RX7_86 (c_X7_in l) dX7_isChance_8 rfl rfl (fun _ => Nat.le_of_ble_eq_true rfl) ⟨Nat.le_of_ble_eq_true rfl, Nat.le_of_ble_eq_true rfl⟩ ⟨Nat.le_of_ble_eq_true rfl, Nat.le_of_ble_eq_true rfl⟩ (z_ri (fun x σ1 hx => ?_)) (z_nx)
  obtain ⟨rfl, rfl⟩ := hx
  exact z_iret C hr (by cases (inB v 0 (x 15 - 1)) <;> rfl) dX7_isChance_11 (Nat.le_of_ble_eq_true rfl) (Nat.le_of_ble_eq_true rfl) ⟨_, rfl, rfl, rfl⟩

set_option maxRecDepth 100000 in
set_option maxHeartbeats 4000000 in
theorem c_X7_isOpen {X : zX} (l : Launch) {x : Nat → Int32} {a : Nat → Nat → Int32} {σ : zHp} (hM : MD x a σ) {i : Nat} (hi : i < 30) : zM X l yX7_isOpen cX7_isOpen 2 (some .boolean) 0 0 0 [aR 12 0, aI (nI i)] σ (zPi (fun r σ1 => r = zb (opnB a i) ∧ σ1 = σ)) zNx := by
  refine zM.of (by decide +kernel) (Nat.le_of_ble_eq_true rfl) (by simp [zcat, Value.category]) ?_
  intro p e s m args below meth c loc0 C hr hnm hT
  refine z_aload_n (i := 0) C dX7_isOpen_0 rfl rfl ?_
  refine z_getf C f_RX7_49 dX7_isOpen_1 hM.1 rfl ?_
  refine z_iload_n (i := 1) C dX7_isOpen_4 rfl rfl ?_
  refine z_ialdN C dX7_isOpen_5 (hM.2 18 (by decide)) (show _ < 30 by omega) (by decide) ?_
  refine z_iconst (v := 4) C dX7_isOpen_6 (by decide) ?_
  refine z_icmp_ge (tgt := 14) C dX7_isOpen_7 (by decide) (fun h7 => ?_) (fun h7 => ?_)
  · refine z_iconst (v := 0) C dX7_isOpen_14 (by decide) ?_
    exact z_iret C hr rfl dX7_isOpen_15 (Nat.le_of_ble_eq_true rfl) (Nat.le_of_ble_eq_true rfl) ⟨_, rfl, by first | exact zbf (decide_eq_false (Int32.not_lt.mpr h7)) | exact zbt (decide_eq_true (Int32.not_le.mp h7)), rfl⟩
  · refine z_iconst (v := 1) C dX7_isOpen_10 (by decide) ?_
    refine z_goto (tgt := 15) C dX7_isOpen_11 (by decide) ?_
    exact z_iret C hr rfl dX7_isOpen_15 (Nat.le_of_ble_eq_true rfl) (Nat.le_of_ble_eq_true rfl) ⟨_, rfl, by first | exact zbf (decide_eq_false (Int32.not_lt.mpr h7)) | exact zbt (decide_eq_true (Int32.not_le.mp h7)), rfl⟩

