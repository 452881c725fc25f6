/-! numbers of the law, its small methods, what a call gives -/
section ZIR
variable {X : zX} {p : Program} {l : Launch} {e : Env} {s : State} {m : MethodId} {args : Array Value} {below : List Frame} {meth : Method} {c : Code} {nL : Nat} {σ0 σ : zHp} {loc0 : zK → Nat} {Q : State → Prop} {R : Room} {cells slots pc : Nat} {cc : ByteArray} {own : String} {L : List (Nat × zV)} {st : List zV}
theorem z_irem (C : zC X p l s m args meth c cc nL own) {x y : Int32} (hd : decode cc pc = .ok (.irem, 1)) (hne : ¬ y = 0) (kk : zG X p l e R s m args below meth c nL σ0 loc0 Q cells slots σ (pc + 1) L (aI (x - x / y * y) :: st)) : zG X p l e R s m args below meth c nL σ0 loc0 Q cells slots σ pc L (aI y :: aI x :: st) := z_go (fun h => zl_cp (zl_tl2 h)) (fun _ _ _ _ k => lv_irem C.x C.b hd hne k) kk
end ZIR
/-- what the law draws: the last 31 bits, by n -/
def lowN (v : Int32) (n : Nat) : Nat := (v.toBitVec.toNat % 2 ^ 31) % n
theorem lowN_lt {v : Int32} {n : Nat} (h : 0 < n) : lowN v n < n := Nat.mod_lt _ h
def wgN (t : Nat) : Nat := ([10, 30, 60, 90, 100, 0] : List Nat).getD t 0
theorem wgt_N {t : Nat} (h : t ≤ 5) : wgt (nI t) = nI (wgN t) := by
  rcases (show t = 0 ∨ t = 1 ∨ t = 2 ∨ t = 3 ∨ t = 4 ∨ t = 5 by omega) with rfl | rfl | rfl | rfl | rfl | rfl <;> decide
set_option maxRecDepth 100000 in
set_option maxHeartbeats 4000000 in
theorem c_L_low {X : zX} (l : Launch) {σ : zHp} {v : Int32} {n : Nat} (h0 : 0 < n) (hn : n < 2 ^ 31) : zM X l yL_low cL_low 2 (some .int) 0 0 0 [aI v, aI (nI n)] σ (zPi (fun r σ1 => r = nI (lowN v n) ∧ σ1 = σ)) zNx := by
  refine zM.of (by decide +kernel) (Nat.le_of_ble_eq_true rfl) (by simp [zcat, Value.category]) ?_
  intro p e s m args below meth c loc0 C hr hnm hT
  refine z_iload_n (i := 0) C dL_low_0 rfl rfl ?_
  refine z_ldc C dL_low_1 kc_RL_9 ?_
  refine z_iand C dL_low_3 ?_
  refine z_iload_n (i := 1) C dL_low_4 rfl rfl ?_
  refine z_irem C dL_low_5 (fun h => nI_ne0 h0 hn h) ?_
  have e9 : (v &&& 2147483647) - (v &&& 2147483647) / nI n * nI n = nI (lowN v n) := by
    rw [pk_and v 31 (by decide), pk_rem (Nat.mod_lt _ (by decide)) h0 hn]
    rfl
  exact z_iret C hr rfl dL_low_6 (Nat.le_of_ble_eq_true rfl) (Nat.le_of_ble_eq_true rfl) ⟨_, rfl, e9, rfl⟩
set_option maxRecDepth 100000 in
set_option maxHeartbeats 4000000 in
theorem c_L_weight {X : zX} (l : Launch) {σ : zHp} {t : Nat} (ht : t ≤ 5) : zM X l yL_weight cL_weight 1 (some .int) 0 0 0 [aI (nI t)] σ (zPi (fun r σ1 => r = nI (wgN t) ∧ σ1 = σ)) zNx := by
  refine zM.of (by decide +kernel) (Nat.le_of_ble_eq_true rfl) (by simp [zcat, Value.category]) ?_
  intro p e s m args below meth c loc0 C hr hnm hT
  rcases (show t = 0 ∨ t = 1 ∨ t = 2 ∨ t = 3 ∨ t = 4 ∨ t = 5 by omega) with rfl | rfl | rfl | rfl | rfl | rfl
  · refine z_iload_n (i := 0) C dL_weight_0 rfl rfl ?_
    refine z_if_ne (tgt := 9) C dL_weight_1 (by decide) (fun h => absurd (by decide) h) (fun _ => ?_)
    refine z_bipush (v := 10) C dL_weight_4 (by decide) ?_
    refine z_goto (tgt := 32) C dL_weight_6 (by decide) ?_
    exact z_iret C hr rfl dL_weight_32 (Nat.le_of_ble_eq_true rfl) (Nat.le_of_ble_eq_true rfl) ⟨_, rfl, by decide, rfl⟩

  · refine z_iload_n (i := 0) C dL_weight_0 rfl rfl ?_
    refine z_if_ne (tgt := 9) C dL_weight_1 (by decide) (fun _ => ?_) (fun h => absurd h (by decide))
    refine z_iload_n (i := 0) C dL_weight_9 rfl rfl ?_
    refine z_iconst (v := 4) C dL_weight_10 (by decide) ?_
    refine z_icmp_ne (tgt := 19) C dL_weight_11 (by decide) (fun _ => ?_) (fun h => absurd h (by decide))
    refine z_iload_n (i := 0) C dL_weight_19 rfl rfl ?_
    refine z_iconst (v := 5) C dL_weight_20 (by decide) ?_
    refine z_icmp_ne (tgt := 28) C dL_weight_21 (by decide) (fun _ => ?_) (fun h => absurd h (by decide))
    refine z_bipush (v := 30) C dL_weight_28 (by decide) ?_
    refine z_iload_n (i := 0) C dL_weight_30 rfl rfl ?_
    refine z_imul C dL_weight_31 ?_
    exact z_iret C hr rfl dL_weight_32 (Nat.le_of_ble_eq_true rfl) (Nat.le_of_ble_eq_true rfl) ⟨_, rfl, by decide, rfl⟩

  · refine z_iload_n (i := 0) C dL_weight_0 rfl rfl ?_
    refine z_if_ne (tgt := 9) C dL_weight_1 (by decide) (fun _ => ?_) (fun h => absurd h (by decide))
    refine z_iload_n (i := 0) C dL_weight_9 rfl rfl ?_
    refine z_iconst (v := 4) C dL_weight_10 (by decide) ?_
    refine z_icmp_ne (tgt := 19) C dL_weight_11 (by decide) (fun _ => ?_) (fun h => absurd h (by decide))
    refine z_iload_n (i := 0) C dL_weight_19 rfl rfl ?_
    refine z_iconst (v := 5) C dL_weight_20 (by decide) ?_
    refine z_icmp_ne (tgt := 28) C dL_weight_21 (by decide) (fun _ => ?_) (fun h => absurd h (by decide))
    refine z_bipush (v := 30) C dL_weight_28 (by decide) ?_
    refine z_iload_n (i := 0) C dL_weight_30 rfl rfl ?_
    refine z_imul C dL_weight_31 ?_
    exact z_iret C hr rfl dL_weight_32 (Nat.le_of_ble_eq_true rfl) (Nat.le_of_ble_eq_true rfl) ⟨_, rfl, by decide, rfl⟩

  · refine z_iload_n (i := 0) C dL_weight_0 rfl rfl ?_
    refine z_if_ne (tgt := 9) C dL_weight_1 (by decide) (fun _ => ?_) (fun h => absurd h (by decide))
    refine z_iload_n (i := 0) C dL_weight_9 rfl rfl ?_
    refine z_iconst (v := 4) C dL_weight_10 (by decide) ?_
    refine z_icmp_ne (tgt := 19) C dL_weight_11 (by decide) (fun _ => ?_) (fun h => absurd h (by decide))
    refine z_iload_n (i := 0) C dL_weight_19 rfl rfl ?_
    refine z_iconst (v := 5) C dL_weight_20 (by decide) ?_
    refine z_icmp_ne (tgt := 28) C dL_weight_21 (by decide) (fun _ => ?_) (fun h => absurd h (by decide))
    refine z_bipush (v := 30) C dL_weight_28 (by decide) ?_
    refine z_iload_n (i := 0) C dL_weight_30 rfl rfl ?_
    refine z_imul C dL_weight_31 ?_
    exact z_iret C hr rfl dL_weight_32 (Nat.le_of_ble_eq_true rfl) (Nat.le_of_ble_eq_true rfl) ⟨_, rfl, by decide, rfl⟩

  · refine z_iload_n (i := 0) C dL_weight_0 rfl rfl ?_
    refine z_if_ne (tgt := 9) C dL_weight_1 (by decide) (fun _ => ?_) (fun h => absurd h (by decide))
    refine z_iload_n (i := 0) C dL_weight_9 rfl rfl ?_
    refine z_iconst (v := 4) C dL_weight_10 (by decide) ?_
    refine z_icmp_ne (tgt := 19) C dL_weight_11 (by decide) (fun h => absurd (by decide) h) (fun _ => ?_)
    refine z_bipush (v := 100) C dL_weight_14 (by decide) ?_
    refine z_goto (tgt := 32) C dL_weight_16 (by decide) ?_
    exact z_iret C hr rfl dL_weight_32 (Nat.le_of_ble_eq_true rfl) (Nat.le_of_ble_eq_true rfl) ⟨_, rfl, by decide, rfl⟩

  · refine z_iload_n (i := 0) C dL_weight_0 rfl rfl ?_
    refine z_if_ne (tgt := 9) C dL_weight_1 (by decide) (fun _ => ?_) (fun h => absurd h (by decide))
    refine z_iload_n (i := 0) C dL_weight_9 rfl rfl ?_
    refine z_iconst (v := 4) C dL_weight_10 (by decide) ?_
    refine z_icmp_ne (tgt := 19) C dL_weight_11 (by decide) (fun _ => ?_) (fun h => absurd h (by decide))
    refine z_iload_n (i := 0) C dL_weight_19 rfl rfl ?_
    refine z_iconst (v := 5) C dL_weight_20 (by decide) ?_
    refine z_icmp_ne (tgt := 28) C dL_weight_21 (by decide) (fun h => absurd (by decide) h) (fun _ => ?_)
    refine z_iconst (v := 0) C dL_weight_24 (by decide) ?_
    refine z_goto (tgt := 32) C dL_weight_25 (by decide) ?_
    exact z_iret C hr rfl dL_weight_32 (Nat.le_of_ble_eq_true rfl) (Nat.le_of_ble_eq_true rfl) ⟨_, rfl, by decide, rfl⟩
section ZQQ
variable {K : zHp → List zV → Prop} {k v c1 c2 c3 w : Int32} {σ : zHp} {rest : List zV}
theorem z_p0 {v w : Int32} (hv : v = w) (kk : K σ (aI w :: rest)) : ∀ r σ1, zPi (fun r σ1 => r = v ∧ σ1 = σ) r σ1 → K σ1 (r.toList ++ rest) := fun r σ1 ⟨x, e, e1, e2⟩ => by
  subst e
  rw [e2, e1, hv]
  exact kk
theorem z_q0 (hk : k = 0) (hv : v = w) (kk : K σ (aI w :: rest)) : ∀ r σ1, zPi (zLq k v c1 c2 c3 σ) r σ1 → K σ1 (r.toList ++ rest) := fun r σ1 ⟨x, e, e1, e2⟩ => by
  subst e
  rw [e2, e1, rs0 hk, hv]
  exact kk
theorem z_q1 (hk : k = 1) (kk : K σ (aI c1 :: rest)) : ∀ r σ1, zPi (zLq k v c1 c2 c3 σ) r σ1 → K σ1 (r.toList ++ rest) := fun r σ1 ⟨x, e, e1, e2⟩ => by
  subst e
  rw [e2, e1, rs1 hk]
  exact kk
theorem z_q2 (hk : k = 2) (kk : K σ (aI c2 :: rest)) : ∀ r σ1, zPi (zLq k v c1 c2 c3 σ) r σ1 → K σ1 (r.toList ++ rest) := fun r σ1 ⟨x, e, e1, e2⟩ => by
  subst e
  rw [e2, e1, rs2 hk]
  exact kk
variable {x x' x2 : Nat → Int32} {a a' a2 A : Nat → Nat → Int32}
theorem z_w0 (hW : LW x a x2 a2 A σ) (hk : k = 0) (hv : v = w) (kk : ∀ σ1, LW x' a' x2 a2 A σ1 → K σ1 (aI w :: rest)) : ∀ r σ1, zPi (zLw k v c1 c2 c3 x' a' σ) r σ1 → K σ1 (r.toList ++ rest) := fun r σ1 ⟨y, e, h⟩ => by
  obtain ⟨e1, h1⟩ := h.y hk hW
  subst e
  rw [e1, hv]
  exact kk σ1 h1
theorem z_x0 (hW : LW x2 a2 x a A σ) (hk : k = 0) (hv : v = w) (kk : ∀ σ1, LW x2 a2 x' a' A σ1 → K σ1 (aI w :: rest)) : ∀ r σ1, zPi (fun r σ1 => zLw k v c1 c2 c3 x' a' (fH σ) r (fH σ1)) r σ1 → K σ1 (r.toList ++ rest) := fun r σ1 ⟨y, e, h⟩ => by
  obtain ⟨e1, h1⟩ := zLw.yt h hk hW
  subst e
  rw [e1, hv]
  exact kk σ1 h1
theorem z_w1 (hk : k = 1) (kk : K σ (aI c1 :: rest)) : ∀ r σ1, zPi (zLw k v c1 c2 c3 x' a' σ) r σ1 → K σ1 (r.toList ++ rest) := fun r σ1 ⟨y, e, h⟩ => by
  obtain ⟨e1, e2⟩ := h.n (by rw [hk]; decide)
  subst e
  rw [e2, e1, rs1 hk]
  exact kk
theorem z_x1 (hk : k = 1) (kk : K σ (aI c1 :: rest)) : ∀ r σ1, zPi (fun r σ1 => zLw k v c1 c2 c3 x' a' (fH σ) r (fH σ1)) r σ1 → K σ1 (r.toList ++ rest) := fun r σ1 ⟨y, e, h⟩ => by
  obtain ⟨e1, e2⟩ := zLw.nt h (by rw [hk]; decide)
  subst e
  rw [e2, e1, rs1 hk]
  exact kk
theorem z_w2 (hk : k = 2) (kk : K σ (aI c2 :: rest)) : ∀ r σ1, zPi (zLw k v c1 c2 c3 x' a' σ) r σ1 → K σ1 (r.toList ++ rest) := fun r σ1 ⟨y, e, h⟩ => by
  obtain ⟨e1, e2⟩ := h.n (by rw [hk]; decide)
  subst e
  rw [e2, e1, rs2 hk]
  exact kk
theorem z_x2 (hk : k = 2) (kk : K σ (aI c2 :: rest)) : ∀ r σ1, zPi (fun r σ1 => zLw k v c1 c2 c3 x' a' (fH σ) r (fH σ1)) r σ1 → K σ1 (r.toList ++ rest) := fun r σ1 ⟨y, e, h⟩ => by
  obtain ⟨e1, e2⟩ := zLw.nt h (by rw [hk]; decide)
  subst e
  rw [e2, e1, rs2 hk]
  exact kk
theorem z_w3 (hk : k = 3) (kk : K σ (aI c3 :: rest)) : ∀ r σ1, zPi (zLw k v c1 c2 c3 x' a' σ) r σ1 → K σ1 (r.toList ++ rest) := fun r σ1 ⟨y, e, h⟩ => by
  obtain ⟨e1, e2⟩ := h.n (by rw [hk]; decide)
  subst e
  rw [e2, e1, rs3 hk]
  exact kk
theorem z_x3 (hk : k = 3) (kk : K σ (aI c3 :: rest)) : ∀ r σ1, zPi (fun r σ1 => zLw k v c1 c2 c3 x' a' (fH σ) r (fH σ1)) r σ1 → K σ1 (r.toList ++ rest) := fun r σ1 ⟨y, e, h⟩ => by
  obtain ⟨e1, e2⟩ := zLw.nt h (by rw [hk]; decide)
  subst e
  rw [e2, e1, rs3 hk]
  exact kk
end ZQQ
theorem c_T_pass {X : zX} (l : Launch) {x : Nat → Int32} {a : Nat → Nat → Int32} {σ : zHp} (hD : DK x a (fH σ)) (hI : zIv x a) {d : Int32} : zMh X l yL_pass cL_pass 3 (some .int) [(0, 5, 6, 16), (0, 5, 10, 19)] 9 10 200 [aR 40 0, aI d] σ (zPi (fun r σ1 => zLw (k_pass x a d) (x 0 + d) (-1000002) (-1000003) 0 (upd x 0 (x 0 + d)) (a) (fH σ) r (fH σ1))) zNx := zMw.flI (c_L_pass l hD hI) rfl
theorem c_T_addAccount {X : zX} (l : Launch) {x : Nat → Int32} {a : Nat → Nat → Int32} {σ : zHp} (hD : DK x a (fH σ)) (hI : zIv x a) {o w g : Int32} : zMh X l yL_addAccount cL_addAccount 5 (some .int) [(0, 7, 8, 26), (0, 7, 13, 16), (0, 7, 18, 19)] 9 10 200 [aR 40 0, aI o, aI w, aI g] σ (zPi (fun r σ1 => zLw (k_addAccount x a o w g) (x 1) (-1000001) (-1000002) (-1000003) (upd x 1 (x 1 + 1)) (ua (ua (ua (ua a 2 (upd (a 2) (zN (x 1)) o)) 3 (upd (a 3) (zN (x 1)) w)) 4 (upd (a 4) (zN (x 1)) g)) 5 (upd (a 5) (zN (x 1)) (-1))) (fH σ) r (fH σ1))) zNx := zMw.flI (c_L_addAccount l hD hI) rfl
theorem c_T_putRule {X : zX} (l : Launch) {x : Nat → Int32} {a : Nat → Nat → Int32} {σ : zHp} (hD : DK x a (fH σ)) (hI : zIv x a) {pl f u g w : Int32} : zMh X l yL_putRule cL_putRule 7 (some .int) [(0, 11, 12, 26), (0, 11, 17, 16), (0, 11, 22, 19)] 9 10 200 [aR 40 0, aI pl, aI f, aI u, aI g, aI w] σ (zPi (fun r σ1 => zLw (k_putRule x a pl f u g w) (x 6 + 1) (-1000001) (-1000002) (-1000003) (upd x 6 (x 6 + 1)) (putR a (zN pl) (zN (x 6)) f u g w) (fH σ) r (fH σ1))) zNx := zMw.flI (c_L_putRule l hD hI) rfl
theorem c_T_removeRule {X : zX} (l : Launch) {x : Nat → Int32} {a : Nat → Nat → Int32} {σ : zHp} (hD : DK x a (fH σ)) (hI : zIv x a) {pl : Int32} : zMh X l yL_removeRule cL_removeRule 3 (some .int) [(0, 5, 6, 26)] 9 10 200 [aR 40 0, aI pl] σ (zPi (fun r σ1 => zLw (k_removeRule x a pl) (x 6 - 1) (-1000001) 0 0 (upd x 6 (x 6 - 1)) (R4 a (delG (zN pl) (zN (x 6) - 1))) (fH σ) r (fH σ1))) zNx := zMw.flI (c_L_removeRule l hD hI) rfl
theorem c_T_except {X : zX} (l : Launch) {x : Nat → Int32} {a : Nat → Nat → Int32} {σ : zHp} (hD : DK x a (fH σ)) (hI : zIv x a) {i w : Int32} : zMh X l yL_except cL_except 4 (some .int) [(0, 6, 7, 26), (0, 6, 11, 16)] 9 10 200 [aR 40 0, aI i, aI w] σ (zPi (fun r σ1 => zLw (k_except x a i w) (a 5 (zN i)) (-1000001) (-1000002) 0 (x) (ua a 5 (upd (a 5) (zN i) w)) (fH σ) r (fH σ1))) zNx := zMw.flI (c_L_except l hD hI) rfl
theorem c_T_addSeller {X : zX} (l : Launch) {x : Nat → Int32} {a : Nat → Nat → Int32} {σ : zHp} (hD : DK x a (fH σ)) (hI : zIv x a) {o w : Int32} : zMh X l yL_addSeller cL_addSeller 4 (some .int) [(0, 6, 7, 26), (0, 6, 11, 16), (0, 6, 15, 19)] 9 10 200 [aR 40 0, aI o, aI w] σ (zPi (fun r σ1 => zLw (k_addSeller x a o w) (x 11) (-1000001) (-1000002) (-1000003) (upd x 11 (x 11 + 1)) (ua (ua a 12 (upd (a 12) (zN (x 11)) o)) 13 (upd (a 13) (zN (x 11)) w)) (fH σ) r (fH σ1))) zNx := zMw.flI (c_L_addSeller l hD hI) rfl
theorem c_T_adjust {X : zX} (l : Launch) {x : Nat → Int32} {a : Nat → Nat → Int32} {σ : zHp} (hD : DK x a (fH σ)) (hI : zIv x a) {i w : Int32} : zMh X l yL_adjust cL_adjust 4 (some .int) [(0, 6, 7, 26), (0, 6, 11, 16)] 9 10 200 [aR 40 0, aI i, aI w] σ (zPi (fun r σ1 => zLw (k_adjust x a i w) (a 14 (zN i)) (-10000001) (-10000002) 0 (x) (ua a 14 (upd (a 14) (zN i) w)) (fH σ) r (fH σ1))) zNx := zMw.flI (c_L_adjust l hD hI) rfl
theorem c_T_addChance {X : zX} (l : Launch) {x : Nat → Int32} {a : Nat → Nat → Int32} {σ : zHp} (hD : DK x a (fH σ)) (hI : zIv x a) {i j w : Int32} : zMh X l yL_addChance cL_addChance 5 (some .int) [(0, 7, 8, 26), (0, 7, 13, 16), (0, 7, 18, 19)] 9 10 200 [aR 40 0, aI i, aI j, aI w] σ (zPi (fun r σ1 => zLw (k_addChance x a i j w) (x 15) (-1000001) (-1000002) (-1000003) (upd x 15 (x 15 + 1)) (ua (ua (ua (ua a 16 (upd (a 16) (zN (x 15)) i)) 17 (upd (a 17) (zN (x 15)) w)) 19 (upd (a 19) (zN (x 15)) (x 0))) 21 (upd (a 21) (8 * zN (x 15) + zN j) 100)) (fH σ) r (fH σ1))) zNx := zMw.flI (c_L_addChance l hD hI) rfl
theorem c_T_giveShare {X : zX} (l : Launch) {x : Nat → Int32} {a : Nat → Nat → Int32} {σ : zHp} (hD : DK x a (fH σ)) (hI : zIv x a) {i j t w : Int32} : zMh X l yL_giveShare cL_giveShare 6 (some .int) [(0, 9, 10, 26), (0, 9, 15, 16), (0, 9, 20, 19)] 9 10 200 [aR 40 0, aI i, aI j, aI t, aI w] σ (zPi (fun r σ1 => zLw (k_giveShare x a i j t w) (upd (upd (a 21) (8 * zN i + zN j) (a 21 (8 * zN i + zN j) - w)) (8 * zN i + zN t) ((upd (a 21) (8 * zN i + zN j) (a 21 (8 * zN i + zN j) - w)) (8 * zN i + zN t) + w) (8 * zN i + zN t)) (-1000001) (-1000002) (-1000003) (x) (ua (ua a 21 (upd (a 21) (8 * zN i + zN j) (a 21 (8 * zN i + zN j) - w))) 21 (upd (upd (a 21) (8 * zN i + zN j) (a 21 (8 * zN i + zN j) - w)) (8 * zN i + zN t) ((upd (a 21) (8 * zN i + zN j) (a 21 (8 * zN i + zN j) - w)) (8 * zN i + zN t) + w))) (fH σ) r (fH σ1))) zNx := zMw.flI (c_L_giveShare l hD hI) rfl
theorem c_T_move {X : zX} (l : Launch) {x : Nat → Int32} {a : Nat → Nat → Int32} {σ : zHp} (hD : DK x a (fH σ)) (hI : zIv x a) {i w : Int32} : zMh X l yL_move cL_move 4 (some .int) [(0, 6, 7, 26), (0, 6, 11, 16), (0, 6, 15, 19)] 9 10 200 [aR 40 0, aI i, aI w] σ (zPi (fun r σ1 => zLw (k_move x a i w) (x 0 - a 19 (zN i)) (-1000001) (-1000002) (-1000003) (x) (ua (ua (ua (ua a 22 (upd (a 22) (6 * zN i + zN (a 18 (zN i))) (a 22 (6 * zN i + zN (a 18 (zN i))) + (x 0 - a 19 (zN i))))) 18 (upd (a 18) (zN i) w)) 19 (upd (a 19) (zN i) (x 0))) 20 (upd (a 20) (zN i) (regS x a (zN (a 16 (zN i)))))) (fH σ) r (fH σ1))) zNx := zMw.flI (c_L_move l hD hI) rfl
theorem c_T_quote {X : zX} (l : Launch) {x : Nat → Int32} {a : Nat → Nat → Int32} {σ : zHp} (hD : DK x a (fH σ)) (hI : zIv x a) {i j w : Int32} : zMh X l yL_quote cL_quote 5 (some .int) [(0, 7, 8, 26), (0, 7, 13, 16), (0, 7, 18, 19)] 9 10 200 [aR 40 0, aI i, aI j, aI w] σ (zPi (fun r σ1 => zLw (k_quote x a i j w) (x 23) (-1000001) (-1000002) (-1000003) (if w ≤ a 13 (zN j) then upd (upd x 23 (x 23 + 1)) 24 (x 24 + 1) else upd x 23 (x 23 + 1)) (if w ≤ a 13 (zN j) then ua (ua (ua (ua a 25 (upd (a 25) (zN (x 23)) i)) 26 (upd (a 26) (zN (x 23)) j)) 27 (upd (a 27) (zN (x 23)) w)) 28 (upd (a 28) (zN (x 23)) (x 24 + 1)) else (ua (ua (ua a 25 (upd (a 25) (zN (x 23)) i)) 26 (upd (a 26) (zN (x 23)) j)) 27 (upd (a 27) (zN (x 23)) w))) (fH σ) r (fH σ1))) zNx := zMw.flI (c_L_quote l hD hI) rfl
theorem c_T_approve {X : zX} (l : Launch) {x : Nat → Int32} {a : Nat → Nat → Int32} {σ : zHp} (hD : DK x a (fH σ)) (hI : zIv x a) {i j : Int32} : zMh X l yL_approve cL_approve 4 (some .int) [(0, 7, 8, 26), (0, 7, 12, 19)] 9 10 200 [aR 40 0, aI i, aI j] σ (zPi (fun r σ1 => zLw (k_approve x a i j) (0) (-1000001) (-1000003) 0 (upd x 24 (x 24 + 1)) (ua a 28 (upd (a 28) (zN i) (x 24 + 1))) (fH σ) r (fH σ1))) zNx := zMw.flI (c_L_approve l hD hI) rfl
theorem c_T_freeze {X : zX} (l : Launch) {x : Nat → Int32} {a : Nat → Nat → Int32} {σ : zHp} (hD : DK x a (fH σ)) (hI : zIv x a) : zMh X l yL_freeze cL_freeze 2 (some .int) [(0, 4, 5, 19)] 9 10 200 [aR 40 0] σ (zPi (fun r σ1 => zLw (k_freeze x a 0) (x 29) (-1000003) 0 0 (upd x 29 (x 29 + 1)) (ua a 30 (frz x a (zN (x 29)) (zN (x 11)))) (fH σ) r (fH σ1))) zNx := zMw.flI (c_L_freeze l hD hI) rfl
