/-! the reference: the public methods, by what they answer (k the exception, v the answer, x' a' what is left) -/
def zRz (k v : Int32) (x' : Nat → Int32) (a' : Nat → Nat → Int32) (x : Nat → Int32) (a : Nat → Nat → Int32) (r : Int32) (σ σ1 : zHp) : Prop := Fm σ σ1 ∧ ((k = 0 ∧ r = v ∧ MD (upd x' 31 0) a' σ1) ∨ (¬ k = 0 ∧ MD (upd x 31 k) a σ1))
theorem zRz.no {k v : Int32} {x' : Nat → Int32} {a' : Nat → Nat → Int32} {x : Nat → Int32} {a : Nat → Nat → Int32} {r : Int32} {σ σ1 : zHp} (h0 : decide (k = 0) = false) (hM : MD (upd x 31 k) a σ1) (hF : Fm σ σ1) : zRz k v x' a' x a r σ σ1 := ⟨hF, Or.inr ⟨of_decide_eq_false h0, hM⟩⟩
theorem MD.cg {x x1 : Nat → Int32} {a a1 : Nat → Nat → Int32} {σ : zHp} (h : MD x a σ) (hx : mdF x = mdF x1) (ha : a = a1) : MD x1 a1 σ := by
  subst ha
  exact ⟨by rw [← hx]; exact h.1, h.2⟩
theorem zRz.ok {k v : Int32} {x' y : Nat → Int32} {a' b : Nat → Nat → Int32} {x : Nat → Int32} {a : Nat → Nat → Int32} {r : Int32} {σ σ1 : zHp} (h0 : k = 0) (hr : r = v) (hM : MD y b σ1) (hx : mdF y = mdF (upd x' 31 0)) (ha : b = a') (hF : Fm σ σ1) : zRz k v x' a' x a r σ σ1 := ⟨hF, Or.inl ⟨h0, hr, hM.cg hx ha⟩⟩
theorem goC_0 {p q r : Bool} : goC p q r = 0 ↔ p = true ∧ q = true ∧ r = true := by
  cases p <;> cases q <;> cases r <;> decide
section MR4
variable {X : zX} {p : Program} {l : Launch} {e : Env} {s : State} {m : MethodId} {args : Array Value} {below : List Frame} {meth : Method} {c : Code} {nL : Nat} {σ0 σ : zHp} {loc0 : zK → Nat} {Q : State → Prop} {mc ms : Nat} {R : Room} {cells slots pc : Nat} {cc : ByteArray} {own : String} {L : List (Nat × zV)} {st : List zV}
theorem z_join {pc' : Nat} {L' : List (Nat × zV)} {st' : List zV} (h : zG X p l e R s m args below meth c nL σ0 loc0 Q cells slots σ pc' L' st' → zG X p l e R s m args below meth c nL σ0 loc0 Q cells slots σ pc L st) (kk : zG X p l e R s m args below meth c nL σ0 loc0 Q cells slots σ pc' L' st') : zG X p l e R s m args below meth c nL σ0 loc0 Q cells slots σ pc L st := h kk
theorem z_subK {L' : List (Nat × zV)} (kk : zG X p l e R s m args below meth c nL σ0 loc0 Q cells slots σ pc L' st) (hs : ∀ q ∈ L', zl L q.1 = some q.2) : zG X p l e R s m args below meth c nL σ0 loc0 Q cells slots σ pc L st := z_sub hs kk
theorem z_b1 {B : Bool} (h : B = true) (kk : zG X p l e R s m args below meth c nL σ0 loc0 Q cells slots σ pc L (aI (zb B) :: st)) : zG X p l e R s m args below meth c nL σ0 loc0 Q cells slots σ pc L (aI 1 :: st) := by subst h; exact kk
theorem z_b0 {B : Bool} (h : B = false) (kk : zG X p l e R s m args below meth c nL σ0 loc0 Q cells slots σ pc L (aI (zb B) :: st)) : zG X p l e R s m args below meth c nL σ0 loc0 Q cells slots σ pc L (aI 0 :: st) := by subst h; exact kk
theorem z_top {v w : Int32} (h : v = w) (kk : zG X p l e R s m args below meth c nL σ0 loc0 Q cells slots σ pc L (aI w :: st)) : zG X p l e R s m args below meth c nL σ0 loc0 Q cells slots σ pc L (aI v :: st) := by subst h; exact kk
theorem z_ialdW (C : zC X p l s m args meth c cc nL own) {x : Nat → Int32} {a : Nat → Nat → Int32} {i : Nat} {w : Int32} (hd : decode cc pc = .ok (.iaload, 1)) (hM : MD x a σ) (j : Nat) (hj : 0 < mdLen j ∧ mdLen j ≤ 1000) (hw : w = nI i) (hi : i < mdLen j) (kk : zG X p l e R s m args below meth c nL σ0 loc0 Q cells slots σ (pc + 1) L (aI (a j i) :: st)) : zG X p l e R s m args below meth c nL σ0 loc0 Q cells slots σ pc L (aI w :: aR 13 j :: st) := by
  subst hw
  exact z_ialdN C hd (hM.2 j hj.1) hi hj.2 kk
theorem z_iastW (C : zC X p l s m args meth c cc nL own) {x : Nat → Int32} {a : Nat → Nat → Int32} {i : Nat} {v w : Int32} (hd : decode cc pc = .ok (.iastore, 1)) (hM : MD x a σ) (j : Nat) (hj : 0 < mdLen j ∧ mdLen j ≤ 1000) (hw : w = nI i) (hi : i < mdLen j) (kk : ∀ σ', MD x (ua a j (upd (a j) i v)) σ' → Fm σ σ' → zG X p l e R s m args below meth c nL σ0 loc0 Q cells slots σ' (pc + 1) L st) : zG X p l e R s m args below meth c nL σ0 loc0 Q cells slots σ pc L (aI v :: aI w :: aR 13 j :: st) := by
  subst hw
  exact z_iastM C hd hM j hj hi kk
end MR4
theorem zN_lt {v w : Int32} {b : Nat} (hv : zCnt v b) (hb : b ≤ 1000000) (h : v < w) : zN v < w.toInt.toNat := by
  have e := hv.1
  rw [e, Int32.lt_iff_toInt_lt, nI_toInt (by have := hv.2; omega)] at h
  omega
theorem inB_to {v : Int32} {n : Nat} (hn : n < 2 ^ 30) (h : inB v 0 (nI n) = true) : ∃ t, t ≤ n ∧ v = nI t := by
  obtain ⟨h1, h2⟩ := inB_t.mp h
  exact nI_of2 (nI_toInt (by omega)) (Int32.not_lt.mpr h1) h2
theorem bAnd {p q : Bool} (h : (p && q) = true) : p = true ∧ q = true := by
  cases p <;> cases q <;> first | exact ⟨rfl, rfl⟩ | cases h
theorem ruledL_a {a a' : Nat → Nat → Int32} {i : Nat} (hf : ∀ k, fitR a i k = fitR a' i k) (h10 : a 10 = a' 10) : ∀ n f, ruledL a i n f = ruledL a' i n f
  | 0, _ => rfl
  | n + 1, f => by
    simp only [ruledL]
    rw [hf, h10, ruledL_a hf h10 n]
theorem regF_a {x : Nat → Int32} {a a' : Nat → Nat → Int32} (h2 : a 2 = a' 2) (h5 : a 5 = a' 5) (hf : ∀ i k, fitR a i k = fitR a' i k) (h10 : a 10 = a' 10) : ∀ f i, regF x a f i = regF x a' f i
  | 0, _ => rfl
  | f + 1, i => by
    have ho : ownR x a i = ownR x a' i := by
      unfold ownR
      rw [h5, ruledL_a (hf i) h10]
    simp only [regF]
    rw [ho, h2, regF_a h2 h5 hf h10 f]
theorem nI_lin6 (k i : Nat) : (6 : Int32) * nI k + nI i = nI (6 * k + i) := by
  show nI 6 * nI k + nI i = _
  rw [show nI 6 * nI k = nI (6 * k) from (Int32.ofNat_mul 6 k).symm, nI_add]
theorem regF_x {x : Nat → Int32} {a : Nat → Nat → Int32} {k : Int32} : ∀ f i, regF (upd x 31 k) a f i = regF x a f i
  | 0, _ => rfl
  | f + 1, i => by
    simp only [regF, regF_x f]
    rfl
theorem ownL_x {x : Nat → Int32} {a : Nat → Nat → Int32} {k : Int32} (s : Nat) : ∀ n, ownL (upd x 31 k) a s n = ownL x a s n
  | 0 => rfl
  | n + 1 => by
    simp only [ownL, ownL_x s n]
    rfl
theorem ownS_x {x : Nat → Int32} {a : Nat → Nat → Int32} {k : Int32} (s : Nat) : ownS (upd x 31 k) a s = ownS x a s := ownL_x s _
theorem forL_x {x : Nat → Int32} {a : Nat → Nat → Int32} {k : Int32} (t : Nat) : ∀ n, forL (upd x 31 k) a t n = forL x a t n
  | 0 => rfl
  | n + 1 => by simp only [forL, forL_x t n, ownS_x]
theorem forS_x {x : Nat → Int32} {a : Nat → Nat → Int32} {k : Int32} (t : Nat) : forS (upd x 31 k) a t = forS x a t := forL_x t _
theorem regS_x {x : Nat → Int32} {a : Nat → Nat → Int32} {k : Int32} (i : Nat) : regS (upd x 31 k) a i = regS x a i := regF_x _ _

def k_pass (x : Nat → Int32) (a : Nat → Nat → Int32) (d : Int32) : Int32 := goC (inB d 1 1000) (inB d 1 1000 && decide (x 0 + d ≤ 100000)) (true)
set_option maxRecDepth 100000 in
set_option maxHeartbeats 4000000 in
theorem c_X7_pass {X : zX} (l : Launch) {x : Nat → Int32} {a : Nat → Nat → Int32} {σ : zHp} (hM : MD x a σ) (hI : zInv x a) {d : Int32} : zM X l yX7_pass cX7_pass 3 (some .int) 1 0 0 [aR 12 0, aI d] σ (zPi (fun r9 σ1 => zRz (k_pass x a d) (x 0 + d) (upd x 0 (x 0 + d)) (a) x a r9 σ σ1)) zNx := by
  obtain ⟨i0, i1, i6, i11, i15, i23, i24, i29, iA, iS, iC, iQ, iP⟩ := id hI
  have b1 := i1.2
  have b6 := i6.2
  have b11 := i11.2
  have b15 := i15.2
  have b23 := i23.2
  have b24 := i24.2
  have b29 := i29.2
  refine zM.of (by decide +kernel) (Nat.le_of_ble_eq_true rfl) (by simp [zcat, Value.category]) ?_
  intro p e s m args below meth c loc0 C hr hnm hT
  refine z_iload_n (i := 1) C dX7_pass_0 rfl rfl ?_
  refine z_iconst (v := 1) C dX7_pass_1 (by decide) ?_
  refine z_sipush (v := 1000) C dX7_pass_2 (by decide) ?_
  refine z_callS C Y_X7_in sm_yX7_in ml_RX7_86 (c_X7_in l) dX7_pass_5 rfl rfl (fun _ => Nat.le_of_ble_eq_true rfl) ⟨Nat.le_of_ble_eq_true rfl, Nat.le_of_ble_eq_true rfl⟩ ⟨Nat.le_of_ble_eq_true rfl, Nat.le_of_ble_eq_true rfl⟩ (z_ri (fun x σ1 hx => ?_)) (z_nx)
  obtain ⟨rfl, rfl⟩ := hx
  refine z_istore_n (i := 2) C dX7_pass_8 rfl (by decide) ?_
  refine z_aload_n (i := 0) C dX7_pass_9 rfl rfl ?_
  refine z_iload_n (i := 2) C dX7_pass_10 rfl rfl ?_
  refine z_join (pc' := 31) (L' := [(0, aR 12 0), (1, aI d), (2, aI (zb (inB d 1 1000)))]) (st' := [aI (zb (inB d 1 1000 && decide (x 0 + d ≤ 100000))), aI (zb (inB d 1 1000)), aR 12 0]) (fun kk => ?_) ?_
  · refine z_iload_n (i := 2) C dX7_pass_11 rfl rfl ?_
    refine z_if_eqB (tgt := 30) C dX7_pass_12 (by decide) (fun h12 => ?_) (fun h12 => ?_)
    · refine z_iconst (v := 0) C dX7_pass_30 (by decide) ?_
      exact z_subK (z_b0 (by simp only [h12, eq_self, decide_true, decide_false, Bool.and_true, Bool.true_and, Bool.and_false, Bool.false_and, Bool.or_true, Bool.true_or, Bool.or_false, Bool.false_or, Bool.not_true, Bool.not_false, not_true, not_false_eq_true, if_true, if_false]) kk) (zs1 rfl (zs1 rfl (zs1 rfl zs0)))
    · refine z_aload_n (i := 0) C dX7_pass_15 rfl rfl ?_
      refine z_getf C f_RX7_96 dX7_pass_16 hM.1 rfl ?_
      refine z_iload_n (i := 1) C dX7_pass_19 rfl rfl ?_
      refine z_iadd C dX7_pass_20 ?_
      refine z_ldc C dX7_pass_21 kc_RX7_99 ?_
      refine z_icmp_gt (tgt := 30) C dX7_pass_23 (by decide) (fun h23 => ?_) (fun h23 => ?_)
      · have g23 := Int32.not_le.mpr h23
        refine z_iconst (v := 0) C dX7_pass_30 (by decide) ?_
        exact z_subK (z_b0 (by simp only [h12, h23, g23, eq_self, decide_true, decide_false, Bool.and_true, Bool.true_and, Bool.and_false, Bool.false_and, Bool.or_true, Bool.true_or, Bool.or_false, Bool.false_or, Bool.not_true, Bool.not_false, not_true, not_false_eq_true, if_true, if_false]) kk) (zs1 rfl (zs1 rfl (zs1 rfl zs0)))
      · have g23 := Int32.not_lt.mp h23
        refine z_iconst (v := 1) C dX7_pass_26 (by decide) ?_
        refine z_goto (tgt := 31) C dX7_pass_27 (by decide) ?_
        exact z_subK (z_b1 (by simp only [h12, h23, g23, eq_self, decide_true, decide_false, Bool.and_true, Bool.true_and, Bool.and_false, Bool.false_and, Bool.or_true, Bool.true_or, Bool.or_false, Bool.false_or, Bool.not_true, Bool.not_false, not_true, not_false_eq_true, if_true, if_false]) kk) (zs1 rfl (zs1 rfl (zs1 rfl zs0)))
  refine z_iconst (v := 1) C dX7_pass_31 (by decide) ?_
  refine z_callV C Y_X7_goes V_X7_goes ml_RX7_100 (c_X7_goes l hM (p1 := inB d 1 1000) (p2 := inB d 1 1000 && decide (x 0 + d ≤ 100000)) (p3 := true)) dX7_pass_32 rfl rfl hM.1 ⟨_, _, rfl⟩ (fun _ => Nat.le_of_ble_eq_true rfl) ⟨Nat.le_of_ble_eq_true rfl, Nat.le_of_ble_eq_true rfl⟩ ⟨Nat.le_of_ble_eq_true rfl, Nat.le_of_ble_eq_true rfl⟩ (z_ri (fun x σ1 hx => ?_)) (z_nx)
  obtain ⟨rfl, hM, hF⟩ := hx
  refine z_if_neB (tgt := 40) C dX7_pass_35 (by decide) (fun h0 => ?_) (fun h0 => ?_)
  · have h1 := of_decide_eq_true h0
    rw [h1] at hM
    obtain ⟨q1, q2, q3⟩ := goC_0.mp h1
    replace h0 : k_pass x a d = 0 := h1
    refine z_aload_n (i := 0) C dX7_pass_40 rfl rfl ?_
    refine z_dup C (by first | trivial | rfl) dX7_pass_41 ?_
    refine z_getf C f_RX7_96 dX7_pass_42 hM.1 rfl ?_
    refine z_iload_n (i := 1) C dX7_pass_45 rfl rfl ?_
    refine z_iadd C dX7_pass_46 ?_
    refine z_putM (j := 0) C fp_RX7_96 dX7_pass_47 hM (by decide) (by decide) (fun σ hM hF9 => ?_)
    replace hF := hF.tr hF9
    refine z_aload_n (i := 0) C dX7_pass_50 rfl rfl ?_
    refine z_getf C f_RX7_96 dX7_pass_51 hM.1 rfl ?_
    exact z_iret C hr rfl dX7_pass_54 (Nat.le_of_ble_eq_true rfl) (Nat.le_of_ble_eq_true rfl) ⟨_, rfl, zRz.ok h0 rfl hM rfl rfl hF⟩
  · refine z_iconst (v := 0) C dX7_pass_38 (by decide) ?_
    exact z_iret C hr rfl dX7_pass_39 (Nat.le_of_ble_eq_true rfl) (Nat.le_of_ble_eq_true rfl) ⟨_, rfl, zRz.no h0 hM hF⟩

def k_addAccount (x : Nat → Int32) (a : Nat → Nat → Int32) (o w g : Int32) : Int32 := goC (decide (o = -1) || isAcc x o) (inB w 0 9 && inB g 0 9) (decide (x 1 < 16))
set_option maxRecDepth 100000 in
set_option maxHeartbeats 4000000 in
theorem c_X7_addAccount {X : zX} (l : Launch) {x : Nat → Int32} {a : Nat → Nat → Int32} {σ : zHp} (hM : MD x a σ) (hI : zInv x a) {o w g : Int32} : zM X l yX7_addAccount cX7_addAccount 4 (some .int) 2 0 0 [aR 12 0, aI o, aI w, aI g] σ (zPi (fun r9 σ1 => zRz (k_addAccount x a o w g) (x 1) (upd x 1 (x 1 + 1)) (ua (ua (ua (ua a 2 (upd (a 2) (zN (x 1)) o)) 3 (upd (a 3) (zN (x 1)) w)) 4 (upd (a 4) (zN (x 1)) g)) 5 (upd (a 5) (zN (x 1)) (-1))) x a r9 σ σ1)) zNx := by
  obtain ⟨i0, i1, i6, i11, i15, i23, i24, i29, iA, iS, iC, iQ, iP⟩ := id hI
  have b1 := i1.2
  have b6 := i6.2
  have b11 := i11.2
  have b15 := i15.2
  have b23 := i23.2
  have b24 := i24.2
  have b29 := i29.2
  refine zM.of (by decide +kernel) (Nat.le_of_ble_eq_true rfl) (by simp [zcat, Value.category]) ?_
  intro p e s m args below meth c loc0 C hr hnm hT
  refine z_aload_n (i := 0) C dX7_addAccount_0 rfl rfl ?_
  refine z_join (pc' := 19) (L' := [(0, aR 12 0), (1, aI o), (2, aI w), (3, aI g)]) (st' := [aI (zb (decide (o = -1) || isAcc x o)), aR 12 0]) (fun kk => ?_) ?_
  · refine z_iload_n (i := 1) C dX7_addAccount_1 rfl rfl ?_
    refine z_iconst (v := -1) C dX7_addAccount_2 (by decide) ?_
    refine z_icmp_eq (tgt := 14) C dX7_addAccount_3 (by decide) (fun h3 => ?_) (fun h3 => ?_)
    · refine z_iconst (v := 1) C dX7_addAccount_14 (by decide) ?_
      refine z_goto (tgt := 19) C dX7_addAccount_15 (by decide) ?_
      exact z_subK (z_b1 (by simp only [h3, eq_self, decide_true, decide_false, Bool.and_true, Bool.true_and, Bool.and_false, Bool.false_and, Bool.or_true, Bool.true_or, Bool.or_false, Bool.false_or, Bool.not_true, Bool.not_false, not_true, not_false_eq_true, if_true, if_false]) kk) (zs1 rfl (zs1 rfl (zs1 rfl (zs1 rfl zs0))))
    · refine z_aload_n (i := 0) C dX7_addAccount_6 rfl rfl ?_
      refine z_iload_n (i := 1) C dX7_addAccount_7 rfl rfl ?_
      refine z_callV C Y_X7_isAccount V_X7_isAccount ml_RX7_104 (c_X7_isAccount l hM) dX7_addAccount_8 rfl rfl hM.1 ⟨_, _, rfl⟩ (fun _ => Nat.le_of_ble_eq_true rfl) ⟨Nat.le_of_ble_eq_true rfl, Nat.le_of_ble_eq_true rfl⟩ ⟨Nat.le_of_ble_eq_true rfl, Nat.le_of_ble_eq_true rfl⟩ (z_ri (fun x σ1 hx => ?_)) (z_nx)
      obtain ⟨rfl, rfl⟩ := hx
      refine z_if_eqB (tgt := 18) C dX7_addAccount_11 (by decide) (fun h11 => ?_) (fun h11 => ?_)
      · refine z_iconst (v := 0) C dX7_addAccount_18 (by decide) ?_
        exact z_subK (z_b0 (by simp only [h3, h11, eq_self, decide_true, decide_false, Bool.and_true, Bool.true_and, Bool.and_false, Bool.false_and, Bool.or_true, Bool.true_or, Bool.or_false, Bool.false_or, Bool.not_true, Bool.not_false, not_true, not_false_eq_true, if_true, if_false]) kk) (zs1 rfl (zs1 rfl (zs1 rfl (zs1 rfl zs0))))
      · refine z_iconst (v := 1) C dX7_addAccount_14 (by decide) ?_
        refine z_goto (tgt := 19) C dX7_addAccount_15 (by decide) ?_
        exact z_subK (z_b1 (by simp only [h3, h11, eq_self, decide_true, decide_false, Bool.and_true, Bool.true_and, Bool.and_false, Bool.false_and, Bool.or_true, Bool.true_or, Bool.or_false, Bool.false_or, Bool.not_true, Bool.not_false, not_true, not_false_eq_true, if_true, if_false]) kk) (zs1 rfl (zs1 rfl (zs1 rfl (zs1 rfl zs0))))
  refine z_join (pc' := 44) (L' := [(0, aR 12 0), (1, aI o), (2, aI w), (3, aI g)]) (st' := [aI (zb (inB w 0 9 && inB g 0 9)), aI (zb (decide (o = -1) || isAcc x o)), aR 12 0]) (fun kk => ?_) ?_
  · refine z_iload_n (i := 2) C dX7_addAccount_19 rfl rfl ?_
    refine z_iconst (v := 0) C dX7_addAccount_20 (by decide) ?_
    refine z_bipush (v := 9) C dX7_addAccount_21 (by decide) ?_
    refine z_callS C Y_X7_in sm_yX7_in ml_RX7_86 (c_X7_in l) dX7_addAccount_23 rfl rfl (fun _ => Nat.le_of_ble_eq_true rfl) ⟨Nat.le_of_ble_eq_true rfl, Nat.le_of_ble_eq_true rfl⟩ ⟨Nat.le_of_ble_eq_true rfl, Nat.le_of_ble_eq_true rfl⟩ (z_ri (fun x σ1 hx => ?_)) (z_nx)
    obtain ⟨rfl, rfl⟩ := hx
    refine z_if_eqB (tgt := 43) C dX7_addAccount_26 (by decide) (fun h26 => ?_) (fun h26 => ?_)
    · refine z_iconst (v := 0) C dX7_addAccount_43 (by decide) ?_
      exact z_subK (z_b0 (by simp only [h26, eq_self, decide_true, decide_false, Bool.and_true, Bool.true_and, Bool.and_false, Bool.false_and, Bool.or_true, Bool.true_or, Bool.or_false, Bool.false_or, Bool.not_true, Bool.not_false, not_true, not_false_eq_true, if_true, if_false]) kk) (zs1 rfl (zs1 rfl (zs1 rfl (zs1 rfl zs0))))
    · refine z_iload_n (i := 3) C dX7_addAccount_29 rfl rfl ?_
      refine z_iconst (v := 0) C dX7_addAccount_30 (by decide) ?_
      refine z_bipush (v := 9) C dX7_addAccount_31 (by decide) ?_
      refine z_callS C Y_X7_in sm_yX7_in ml_RX7_86 (c_X7_in l) dX7_addAccount_33 rfl rfl (fun _ => Nat.le_of_ble_eq_true rfl) ⟨Nat.le_of_ble_eq_true rfl, Nat.le_of_ble_eq_true rfl⟩ ⟨Nat.le_of_ble_eq_true rfl, Nat.le_of_ble_eq_true rfl⟩ (z_ri (fun x σ1 hx => ?_)) (z_nx)
      obtain ⟨rfl, rfl⟩ := hx
      refine z_if_eqB (tgt := 43) C dX7_addAccount_36 (by decide) (fun h36 => ?_) (fun h36 => ?_)
      · refine z_iconst (v := 0) C dX7_addAccount_43 (by decide) ?_
        exact z_subK (z_b0 (by simp only [h26, h36, eq_self, decide_true, decide_false, Bool.and_true, Bool.true_and, Bool.and_false, Bool.false_and, Bool.or_true, Bool.true_or, Bool.or_false, Bool.false_or, Bool.not_true, Bool.not_false, not_true, not_false_eq_true, if_true, if_false]) kk) (zs1 rfl (zs1 rfl (zs1 rfl (zs1 rfl zs0))))
      · refine z_iconst (v := 1) C dX7_addAccount_39 (by decide) ?_
        refine z_goto (tgt := 44) C dX7_addAccount_40 (by decide) ?_
        exact z_subK (z_b1 (by simp only [h26, h36, eq_self, decide_true, decide_false, Bool.and_true, Bool.true_and, Bool.and_false, Bool.false_and, Bool.or_true, Bool.true_or, Bool.or_false, Bool.false_or, Bool.not_true, Bool.not_false, not_true, not_false_eq_true, if_true, if_false]) kk) (zs1 rfl (zs1 rfl (zs1 rfl (zs1 rfl zs0))))
  refine z_join (pc' := 58) (L' := [(0, aR 12 0), (1, aI o), (2, aI w), (3, aI g)]) (st' := [aI (zb (decide (x 1 < 16))), aI (zb (inB w 0 9 && inB g 0 9)), aI (zb (decide (o = -1) || isAcc x o)), aR 12 0]) (fun kk => ?_) ?_
  · refine z_aload_n (i := 0) C dX7_addAccount_44 rfl rfl ?_
    refine z_getf C f_RX7_83 dX7_addAccount_45 hM.1 rfl ?_
    refine z_bipush (v := 16) C dX7_addAccount_48 (by decide) ?_
    refine z_icmp_ge (tgt := 57) C dX7_addAccount_50 (by decide) (fun h50 => ?_) (fun h50 => ?_)
    · have g50 := Int32.not_lt.mpr h50
      refine z_iconst (v := 0) C dX7_addAccount_57 (by decide) ?_
      exact z_subK (z_b0 (by simp only [h50, g50, eq_self, decide_true, decide_false, Bool.and_true, Bool.true_and, Bool.and_false, Bool.false_and, Bool.or_true, Bool.true_or, Bool.or_false, Bool.false_or, Bool.not_true, Bool.not_false, not_true, not_false_eq_true, if_true, if_false]) kk) (zs1 rfl (zs1 rfl (zs1 rfl (zs1 rfl zs0))))
    · have g50 := Int32.not_le.mp h50
      refine z_iconst (v := 1) C dX7_addAccount_53 (by decide) ?_
      refine z_goto (tgt := 58) C dX7_addAccount_54 (by decide) ?_
      exact z_subK (z_b1 (by simp only [h50, g50, eq_self, decide_true, decide_false, Bool.and_true, Bool.true_and, Bool.and_false, Bool.false_and, Bool.or_true, Bool.true_or, Bool.or_false, Bool.false_or, Bool.not_true, Bool.not_false, not_true, not_false_eq_true, if_true, if_false]) kk) (zs1 rfl (zs1 rfl (zs1 rfl (zs1 rfl zs0))))
  refine z_callV C Y_X7_goes V_X7_goes ml_RX7_100 (c_X7_goes l hM (p1 := decide (o = -1) || isAcc x o) (p2 := inB w 0 9 && inB g 0 9) (p3 := decide (x 1 < 16))) dX7_addAccount_58 rfl rfl hM.1 ⟨_, _, rfl⟩ (fun _ => Nat.le_of_ble_eq_true rfl) ⟨Nat.le_of_ble_eq_true rfl, Nat.le_of_ble_eq_true rfl⟩ ⟨Nat.le_of_ble_eq_true rfl, Nat.le_of_ble_eq_true rfl⟩ (z_ri (fun x σ1 hx => ?_)) (z_nx)
  obtain ⟨rfl, hM, hF⟩ := hx
  refine z_if_neB (tgt := 66) C dX7_addAccount_61 (by decide) (fun h0 => ?_) (fun h0 => ?_)
  · have h1 := of_decide_eq_true h0
    rw [h1] at hM
    obtain ⟨q1, q2, q3⟩ := goC_0.mp h1
    replace h0 : k_addAccount x a o w g = 0 := h1
    have hn : zN (x 1) < 16 := zN_lt i1 (by decide) (of_decide_eq_true q3)
    refine z_aload_n (i := 0) C dX7_addAccount_66 rfl rfl ?_
    refine z_getf C f_RX7_7 dX7_addAccount_67 hM.1 rfl ?_
    refine z_aload_n (i := 0) C dX7_addAccount_70 rfl rfl ?_
    refine z_getf C f_RX7_83 dX7_addAccount_71 hM.1 rfl ?_
    refine z_iload_n (i := 1) C dX7_addAccount_74 rfl rfl ?_
    refine z_iastW C dX7_addAccount_75 hM 2 (by decide) (by first | rfl | exact i15.1 | exact i1.1 | exact i11.1 | exact i23.1 | exact i6.1) (show _ < 16 by omega) (fun σ hM hF9 => ?_)
    replace hF := hF.tr hF9
    refine z_aload_n (i := 0) C dX7_addAccount_76 rfl rfl ?_
    refine z_getf C f_RX7_13 dX7_addAccount_77 hM.1 rfl ?_
    refine z_aload_n (i := 0) C dX7_addAccount_80 rfl rfl ?_
    refine z_getf C f_RX7_83 dX7_addAccount_81 hM.1 rfl ?_
    refine z_iload_n (i := 2) C dX7_addAccount_84 rfl rfl ?_
    refine z_iastW C dX7_addAccount_85 hM 3 (by decide) (by first | rfl | exact i15.1 | exact i1.1 | exact i11.1 | exact i23.1 | exact i6.1) (show _ < 16 by omega) (fun σ hM hF9 => ?_)
    replace hF := hF.tr hF9
    refine z_aload_n (i := 0) C dX7_addAccount_86 rfl rfl ?_
    refine z_getf C f_RX7_16 dX7_addAccount_87 hM.1 rfl ?_
    refine z_aload_n (i := 0) C dX7_addAccount_90 rfl rfl ?_
    refine z_getf C f_RX7_83 dX7_addAccount_91 hM.1 rfl ?_
    refine z_iload_n (i := 3) C dX7_addAccount_94 rfl rfl ?_
    refine z_iastW C dX7_addAccount_95 hM 4 (by decide) (by first | rfl | exact i15.1 | exact i1.1 | exact i11.1 | exact i23.1 | exact i6.1) (show _ < 16 by omega) (fun σ hM hF9 => ?_)
    replace hF := hF.tr hF9
    refine z_aload_n (i := 0) C dX7_addAccount_96 rfl rfl ?_
    refine z_getf C f_RX7_19 dX7_addAccount_97 hM.1 rfl ?_
    refine z_aload_n (i := 0) C dX7_addAccount_100 rfl rfl ?_
    refine z_getf C f_RX7_83 dX7_addAccount_101 hM.1 rfl ?_
    refine z_iconst (v := -1) C dX7_addAccount_104 (by decide) ?_
    refine z_iastW C dX7_addAccount_105 hM 5 (by decide) (by first | rfl | exact i15.1 | exact i1.1 | exact i11.1 | exact i23.1 | exact i6.1) (show _ < 16 by omega) (fun σ hM hF9 => ?_)
    replace hF := hF.tr hF9
    refine z_aload_n (i := 0) C dX7_addAccount_106 rfl rfl ?_
    refine z_dup C (by first | trivial | rfl) dX7_addAccount_107 ?_
    refine z_getf C f_RX7_83 dX7_addAccount_108 hM.1 rfl ?_
    refine z_iconst (v := 1) C dX7_addAccount_111 (by decide) ?_
    refine z_iadd C dX7_addAccount_112 ?_
    refine z_putM (j := 1) C fp_RX7_83 dX7_addAccount_113 hM (by decide) (by decide) (fun σ hM hF9 => ?_)
    replace hF := hF.tr hF9
    refine z_aload_n (i := 0) C dX7_addAccount_116 rfl rfl ?_
    refine z_getf C f_RX7_83 dX7_addAccount_117 hM.1 rfl ?_
    refine z_iconst (v := 1) C dX7_addAccount_120 (by decide) ?_
    refine z_isub C dX7_addAccount_121 ?_
    exact z_iret C hr rfl dX7_addAccount_122 (Nat.le_of_ble_eq_true rfl) (Nat.le_of_ble_eq_true rfl) ⟨_, rfl, zRz.ok h0 (Int32.add_sub_cancel _ _) hM rfl rfl hF⟩
  · refine z_iconst (v := 0) C dX7_addAccount_64 (by decide) ?_
    exact z_iret C hr rfl dX7_addAccount_65 (Nat.le_of_ble_eq_true rfl) (Nat.le_of_ble_eq_true rfl) ⟨_, rfl, zRz.no h0 hM hF⟩

def k_except (x : Nat → Int32) (a : Nat → Nat → Int32) (i w : Int32) : Int32 := goC (isAcc x i) (inB w (-1) 3) (true)
set_option maxRecDepth 100000 in
set_option maxHeartbeats 4000000 in
theorem c_X7_except {X : zX} (l : Launch) {x : Nat → Int32} {a : Nat → Nat → Int32} {σ : zHp} (hM : MD x a σ) (hI : zInv x a) {i w : Int32} : zM X l yX7_except cX7_except 4 (some .int) 2 0 0 [aR 12 0, aI i, aI w] σ (zPi (fun r9 σ1 => zRz (k_except x a i w) (a 5 (zN i)) (x) (ua a 5 (upd (a 5) (zN i) w)) x a r9 σ σ1)) zNx := by
  obtain ⟨i0, i1, i6, i11, i15, i23, i24, i29, iA, iS, iC, iQ, iP⟩ := id hI
  have b1 := i1.2
  have b6 := i6.2
  have b11 := i11.2
  have b15 := i15.2
  have b23 := i23.2
  have b24 := i24.2
  have b29 := i29.2
  refine zM.of (by decide +kernel) (Nat.le_of_ble_eq_true rfl) (by simp [zcat, Value.category]) ?_
  intro p e s m args below meth c loc0 C hr hnm hT
  refine z_aload_n (i := 0) C dX7_except_0 rfl rfl ?_
  refine z_aload_n (i := 0) C dX7_except_1 rfl rfl ?_
  refine z_iload_n (i := 1) C dX7_except_2 rfl rfl ?_
  refine z_callV C Y_X7_isAccount V_X7_isAccount ml_RX7_104 (c_X7_isAccount l hM) dX7_except_3 rfl rfl hM.1 ⟨_, _, rfl⟩ (fun _ => Nat.le_of_ble_eq_true rfl) ⟨Nat.le_of_ble_eq_true rfl, Nat.le_of_ble_eq_true rfl⟩ ⟨Nat.le_of_ble_eq_true rfl, Nat.le_of_ble_eq_true rfl⟩ (z_ri (fun x σ1 hx => ?_)) (z_nx)
  obtain ⟨rfl, rfl⟩ := hx
  refine z_iload_n (i := 2) C dX7_except_6 rfl rfl ?_
  refine z_iconst (v := -1) C dX7_except_7 (by decide) ?_
  refine z_iconst (v := 3) C dX7_except_8 (by decide) ?_
  refine z_callS C Y_X7_in sm_yX7_in ml_RX7_86 (c_X7_in l) dX7_except_9 rfl rfl (fun _ => Nat.le_of_ble_eq_true rfl) ⟨Nat.le_of_ble_eq_true rfl, Nat.le_of_ble_eq_true rfl⟩ ⟨Nat.le_of_ble_eq_true rfl, Nat.le_of_ble_eq_true rfl⟩ (z_ri (fun x σ1 hx => ?_)) (z_nx)
  obtain ⟨rfl, rfl⟩ := hx
  refine z_iconst (v := 1) C dX7_except_12 (by decide) ?_
  refine z_callV C Y_X7_goes V_X7_goes ml_RX7_100 (c_X7_goes l hM (p1 := isAcc x i) (p2 := inB w (-1) 3) (p3 := true)) dX7_except_13 rfl rfl hM.1 ⟨_, _, rfl⟩ (fun _ => Nat.le_of_ble_eq_true rfl) ⟨Nat.le_of_ble_eq_true rfl, Nat.le_of_ble_eq_true rfl⟩ ⟨Nat.le_of_ble_eq_true rfl, Nat.le_of_ble_eq_true rfl⟩ (z_ri (fun x σ1 hx => ?_)) (z_nx)
  obtain ⟨rfl, hM, hF⟩ := hx
  refine z_if_neB (tgt := 21) C dX7_except_16 (by decide) (fun h0 => ?_) (fun h0 => ?_)
  · have h1 := of_decide_eq_true h0
    rw [h1] at hM
    obtain ⟨q1, q2, q3⟩ := goC_0.mp h1
    replace h0 : k_except x a i w = 0 := h1
    obtain ⟨i, hi, rfl⟩ := inB_ix i1 (by decide) q1
    refine z_aload_n (i := 0) C dX7_except_21 rfl rfl ?_
    refine z_getf C f_RX7_19 dX7_except_22 hM.1 rfl ?_
    refine z_iload_n (i := 1) C dX7_except_25 rfl rfl ?_
    refine z_ialdW C dX7_except_26 hM 5 (by decide) (by first | rfl | exact i15.1 | exact i1.1 | exact i11.1 | exact i23.1 | exact i6.1) (show _ < 16 by omega) ?_
    refine z_istore_n (i := 3) C dX7_except_27 rfl (by decide) ?_
    refine z_aload_n (i := 0) C dX7_except_28 rfl rfl ?_
    refine z_getf C f_RX7_19 dX7_except_29 hM.1 rfl ?_
    refine z_iload_n (i := 1) C dX7_except_32 rfl rfl ?_
    refine z_iload_n (i := 2) C dX7_except_33 rfl rfl ?_
    refine z_iastW C dX7_except_34 hM 5 (by decide) (by first | rfl | exact i15.1 | exact i1.1 | exact i11.1 | exact i23.1 | exact i6.1) (show _ < 16 by omega) (fun σ hM hF9 => ?_)
    replace hF := hF.tr hF9
    refine z_iload_n (i := 3) C dX7_except_35 rfl rfl ?_
    exact z_iret C hr rfl dX7_except_36 (Nat.le_of_ble_eq_true rfl) (Nat.le_of_ble_eq_true rfl) ⟨_, rfl, zRz.ok h0 (by rw [zN_nI (by omega)]) hM rfl (by rw [zN_nI (by omega)]) hF⟩
  · refine z_iconst (v := 0) C dX7_except_19 (by decide) ?_
    exact z_iret C hr rfl dX7_except_20 (Nat.le_of_ble_eq_true rfl) (Nat.le_of_ble_eq_true rfl) ⟨_, rfl, zRz.no h0 hM hF⟩

def k_regionOf (x : Nat → Int32) (a : Nat → Nat → Int32) (i : Int32) : Int32 := goC (isAcc x i) (true) (true)
set_option maxRecDepth 100000 in
set_option maxHeartbeats 4000000 in
theorem c_X7_regionOf {X : zX} (l : Launch) {x : Nat → Int32} {a : Nat → Nat → Int32} {σ : zHp} (hM : MD x a σ) (hI : zInv x a) {i : Int32} : zM X l yX7_regionOf cX7_regionOf 2 (some .int) 3 0 0 [aR 12 0, aI i] σ (zPi (fun r9 σ1 => zRz (k_regionOf x a i) (regS x a (zN i)) (x) (a) x a r9 σ σ1)) zNx := by
  obtain ⟨i0, i1, i6, i11, i15, i23, i24, i29, iA, iS, iC, iQ, iP⟩ := id hI
  have b1 := i1.2
  have b6 := i6.2
  have b11 := i11.2
  have b15 := i15.2
  have b23 := i23.2
  have b24 := i24.2
  have b29 := i29.2
  refine zM.of (by decide +kernel) (Nat.le_of_ble_eq_true rfl) (by simp [zcat, Value.category]) ?_
  intro p e s m args below meth c loc0 C hr hnm hT
  refine z_aload_n (i := 0) C dX7_regionOf_0 rfl rfl ?_
  refine z_aload_n (i := 0) C dX7_regionOf_1 rfl rfl ?_
  refine z_iload_n (i := 1) C dX7_regionOf_2 rfl rfl ?_
  refine z_callV C Y_X7_isAccount V_X7_isAccount ml_RX7_104 (c_X7_isAccount l hM) dX7_regionOf_3 rfl rfl hM.1 ⟨_, _, rfl⟩ (fun _ => Nat.le_of_ble_eq_true rfl) ⟨Nat.le_of_ble_eq_true rfl, Nat.le_of_ble_eq_true rfl⟩ ⟨Nat.le_of_ble_eq_true rfl, Nat.le_of_ble_eq_true rfl⟩ (z_ri (fun x σ1 hx => ?_)) (z_nx)
  obtain ⟨rfl, rfl⟩ := hx
  refine z_iconst (v := 1) C dX7_regionOf_6 (by decide) ?_
  refine z_iconst (v := 1) C dX7_regionOf_7 (by decide) ?_
  refine z_callV C Y_X7_goes V_X7_goes ml_RX7_100 (c_X7_goes l hM (p1 := isAcc x i) (p2 := true) (p3 := true)) dX7_regionOf_8 rfl rfl hM.1 ⟨_, _, rfl⟩ (fun _ => Nat.le_of_ble_eq_true rfl) ⟨Nat.le_of_ble_eq_true rfl, Nat.le_of_ble_eq_true rfl⟩ ⟨Nat.le_of_ble_eq_true rfl, Nat.le_of_ble_eq_true rfl⟩ (z_ri (fun x σ1 hx => ?_)) (z_nx)
  obtain ⟨rfl, hM, hF⟩ := hx
  refine z_if_eqB (tgt := 22) C dX7_regionOf_11 (by decide) (fun h0 => ?_) (fun h0 => ?_)
  · refine z_iconst (v := 0) C dX7_regionOf_22 (by decide) ?_
    exact z_iret C hr rfl dX7_regionOf_23 (Nat.le_of_ble_eq_true rfl) (Nat.le_of_ble_eq_true rfl) ⟨_, rfl, zRz.no h0 hM hF⟩
  · have h1 := of_decide_eq_true h0
    rw [h1] at hM
    obtain ⟨q1, q2, q3⟩ := goC_0.mp h1
    replace h0 : k_regionOf x a i = 0 := h1
    obtain ⟨i, hi, rfl⟩ := inB_ix i1 (by decide) q1
    have zi : zN (nI i) = i := zN_nI (by omega)
    have hI1 : zInv (upd x 31 0) a := hI
    refine z_aload_n (i := 0) C dX7_regionOf_14 rfl rfl ?_
    refine z_iload_n (i := 1) C dX7_regionOf_15 rfl rfl ?_
    refine z_callV C Y_X7_region V_X7_region ml_RX7_119 (c_X7_region l hM hI1 (i := i) (by exact hi)) dX7_regionOf_16 rfl rfl hM.1 ⟨_, _, rfl⟩ (fun _ => Nat.le_of_ble_eq_true rfl) ⟨Nat.le_of_ble_eq_true rfl, Nat.le_of_ble_eq_true rfl⟩ ⟨Nat.le_of_ble_eq_true rfl, Nat.le_of_ble_eq_true rfl⟩ (z_ri (fun x σ1 hx => ?_)) (z_nx)
    obtain ⟨rfl, rfl⟩ := hx
    refine z_goto (tgt := 23) C dX7_regionOf_19 (by decide) ?_
    exact z_iret C hr rfl dX7_regionOf_23 (Nat.le_of_ble_eq_true rfl) (Nat.le_of_ble_eq_true rfl) ⟨_, rfl, zRz.ok h0 (by rw [regS_x, zi]) hM rfl rfl hF⟩

def k_worth (x : Nat → Int32) (a : Nat → Nat → Int32) (i : Int32) : Int32 := goC (isCha x i) (true) (true)
set_option maxRecDepth 100000 in
set_option maxHeartbeats 4000000 in
theorem c_X7_worth {X : zX} (l : Launch) {x : Nat → Int32} {a : Nat → Nat → Int32} {σ : zHp} (hM : MD x a σ) (hI : zInv x a) {i : Int32} : zM X l yX7_worth cX7_worth 2 (some .int) 2 0 0 [aR 12 0, aI i] σ (zPi (fun r9 σ1 => zRz (k_worth x a i) (wrt x a (zN i)) (x) (a) x a r9 σ σ1)) zNx := by
  obtain ⟨i0, i1, i6, i11, i15, i23, i24, i29, iA, iS, iC, iQ, iP⟩ := id hI
  have b1 := i1.2
  have b6 := i6.2
  have b11 := i11.2
  have b15 := i15.2
  have b23 := i23.2
  have b24 := i24.2
  have b29 := i29.2
  refine zM.of (by decide +kernel) (Nat.le_of_ble_eq_true rfl) (by simp [zcat, Value.category]) ?_
  intro p e s m args below meth c loc0 C hr hnm hT
  refine z_aload_n (i := 0) C dX7_worth_0 rfl rfl ?_
  refine z_aload_n (i := 0) C dX7_worth_1 rfl rfl ?_
  refine z_iload_n (i := 1) C dX7_worth_2 rfl rfl ?_
  refine z_callV C Y_X7_isChance V_X7_isChance ml_RX7_127 (c_X7_isChance l hM) dX7_worth_3 rfl rfl hM.1 ⟨_, _, rfl⟩ (fun _ => Nat.le_of_ble_eq_true rfl) ⟨Nat.le_of_ble_eq_true rfl, Nat.le_of_ble_eq_true rfl⟩ ⟨Nat.le_of_ble_eq_true rfl, Nat.le_of_ble_eq_true rfl⟩ (z_ri (fun x σ1 hx => ?_)) (z_nx)
  obtain ⟨rfl, rfl⟩ := hx
  refine z_iconst (v := 1) C dX7_worth_6 (by decide) ?_
  refine z_iconst (v := 1) C dX7_worth_7 (by decide) ?_
  refine z_callV C Y_X7_goes V_X7_goes ml_RX7_100 (c_X7_goes l hM (p1 := isCha x i) (p2 := true) (p3 := true)) dX7_worth_8 rfl rfl hM.1 ⟨_, _, rfl⟩ (fun _ => Nat.le_of_ble_eq_true rfl) ⟨Nat.le_of_ble_eq_true rfl, Nat.le_of_ble_eq_true rfl⟩ ⟨Nat.le_of_ble_eq_true rfl, Nat.le_of_ble_eq_true rfl⟩ (z_ri (fun x σ1 hx => ?_)) (z_nx)
  obtain ⟨rfl, hM, hF⟩ := hx
  refine z_if_eqB (tgt := 22) C dX7_worth_11 (by decide) (fun h0 => ?_) (fun h0 => ?_)
  · refine z_iconst (v := 0) C dX7_worth_22 (by decide) ?_
    exact z_iret C hr rfl dX7_worth_23 (Nat.le_of_ble_eq_true rfl) (Nat.le_of_ble_eq_true rfl) ⟨_, rfl, zRz.no h0 hM hF⟩
  · have h1 := of_decide_eq_true h0
    rw [h1] at hM
    obtain ⟨q1, q2, q3⟩ := goC_0.mp h1
    replace h0 : k_worth x a i = 0 := h1
    obtain ⟨i, hi, rfl⟩ := inB_ix i15 (by decide) q1
    have zi : zN (nI i) = i := zN_nI (by omega)
    have hI1 : zInv (upd x 31 0) a := hI
    refine z_aload_n (i := 0) C dX7_worth_14 rfl rfl ?_
    refine z_iload_n (i := 1) C dX7_worth_15 rfl rfl ?_
    refine z_callV C Y_X7_worthOf V_X7_worthOf ml_RX7_143 (c_X7_worthOf l hM hI1 (i := i) (by omega)) dX7_worth_16 rfl rfl hM.1 ⟨_, _, rfl⟩ (fun _ => Nat.le_of_ble_eq_true rfl) ⟨Nat.le_of_ble_eq_true rfl, Nat.le_of_ble_eq_true rfl⟩ ⟨Nat.le_of_ble_eq_true rfl, Nat.le_of_ble_eq_true rfl⟩ (z_ri (fun x σ1 hx => ?_)) (z_nx)
    obtain ⟨rfl, rfl⟩ := hx
    refine z_goto (tgt := 23) C dX7_worth_19 (by decide) ?_
    exact z_iret C hr rfl dX7_worth_23 (Nat.le_of_ble_eq_true rfl) (Nat.le_of_ble_eq_true rfl) ⟨_, rfl, zRz.ok h0 (by rw [zi]; rfl) hM rfl rfl hF⟩

def k_stage (x : Nat → Int32) (a : Nat → Nat → Int32) (i : Int32) : Int32 := goC (isCha x i) (true) (true)
set_option maxRecDepth 100000 in
set_option maxHeartbeats 4000000 in
theorem c_X7_stage {X : zX} (l : Launch) {x : Nat → Int32} {a : Nat → Nat → Int32} {σ : zHp} (hM : MD x a σ) (hI : zInv x a) {i : Int32} : zM X l yX7_stage cX7_stage 2 (some .int) 2 0 0 [aR 12 0, aI i] σ (zPi (fun r9 σ1 => zRz (k_stage x a i) (a 18 (zN i)) (x) (a) x a r9 σ σ1)) zNx := by
  obtain ⟨i0, i1, i6, i11, i15, i23, i24, i29, iA, iS, iC, iQ, iP⟩ := id hI
  have b1 := i1.2
  have b6 := i6.2
  have b11 := i11.2
  have b15 := i15.2
  have b23 := i23.2
  have b24 := i24.2
  have b29 := i29.2
  refine zM.of (by decide +kernel) (Nat.le_of_ble_eq_true rfl) (by simp [zcat, Value.category]) ?_
  intro p e s m args below meth c loc0 C hr hnm hT
  refine z_aload_n (i := 0) C dX7_stage_0 rfl rfl ?_
  refine z_aload_n (i := 0) C dX7_stage_1 rfl rfl ?_
  refine z_iload_n (i := 1) C dX7_stage_2 rfl rfl ?_
  refine z_callV C Y_X7_isChance V_X7_isChance ml_RX7_127 (c_X7_isChance l hM) dX7_stage_3 rfl rfl hM.1 ⟨_, _, rfl⟩ (fun _ => Nat.le_of_ble_eq_true rfl) ⟨Nat.le_of_ble_eq_true rfl, Nat.le_of_ble_eq_true rfl⟩ ⟨Nat.le_of_ble_eq_true rfl, Nat.le_of_ble_eq_true rfl⟩ (z_ri (fun x σ1 hx => ?_)) (z_nx)
  obtain ⟨rfl, rfl⟩ := hx
  refine z_iconst (v := 1) C dX7_stage_6 (by decide) ?_
  refine z_iconst (v := 1) C dX7_stage_7 (by decide) ?_
  refine z_callV C Y_X7_goes V_X7_goes ml_RX7_100 (c_X7_goes l hM (p1 := isCha x i) (p2 := true) (p3 := true)) dX7_stage_8 rfl rfl hM.1 ⟨_, _, rfl⟩ (fun _ => Nat.le_of_ble_eq_true rfl) ⟨Nat.le_of_ble_eq_true rfl, Nat.le_of_ble_eq_true rfl⟩ ⟨Nat.le_of_ble_eq_true rfl, Nat.le_of_ble_eq_true rfl⟩ (z_ri (fun x σ1 hx => ?_)) (z_nx)
  obtain ⟨rfl, hM, hF⟩ := hx
  refine z_if_eqB (tgt := 23) C dX7_stage_11 (by decide) (fun h0 => ?_) (fun h0 => ?_)
  · refine z_iconst (v := 0) C dX7_stage_23 (by decide) ?_
    exact z_iret C hr rfl dX7_stage_24 (Nat.le_of_ble_eq_true rfl) (Nat.le_of_ble_eq_true rfl) ⟨_, rfl, zRz.no h0 hM hF⟩
  · have h1 := of_decide_eq_true h0
    rw [h1] at hM
    obtain ⟨q1, q2, q3⟩ := goC_0.mp h1
    replace h0 : k_stage x a i = 0 := h1
    obtain ⟨i, hi, rfl⟩ := inB_ix i15 (by decide) q1
    have zi : zN (nI i) = i := zN_nI (by omega)
    have hI1 : zInv (upd x 31 0) a := hI
    refine z_aload_n (i := 0) C dX7_stage_14 rfl rfl ?_
    refine z_getf C f_RX7_49 dX7_stage_15 hM.1 rfl ?_
    refine z_iload_n (i := 1) C dX7_stage_18 rfl rfl ?_
    refine z_ialdW C dX7_stage_19 hM 18 (by decide) (by first | rfl | exact i15.1 | exact i1.1 | exact i11.1 | exact i23.1 | exact i6.1) (show _ < 30 by omega) ?_
    refine z_goto (tgt := 24) C dX7_stage_20 (by decide) ?_
    exact z_iret C hr rfl dX7_stage_24 (Nat.le_of_ble_eq_true rfl) (Nat.le_of_ble_eq_true rfl) ⟨_, rfl, zRz.ok h0 (by rw [zi]) hM rfl rfl hF⟩

def k_forecast (x : Nat → Int32) (a : Nat → Nat → Int32) (i : Int32) : Int32 := goC (isSel x i) (true) (true)
set_option maxRecDepth 100000 in
set_option maxHeartbeats 4000000 in
theorem c_X7_forecast {X : zX} (l : Launch) {x : Nat → Int32} {a : Nat → Nat → Int32} {σ : zHp} (hM : MD x a σ) (hI : zInv x a) {i : Int32} : zM X l yX7_forecast cX7_forecast 2 (some .int) 4 0 0 [aR 12 0, aI i] σ (zPi (fun r9 σ1 => zRz (k_forecast x a i) (forS x a (zN i)) (x) (a) x a r9 σ σ1)) zNx := by
  obtain ⟨i0, i1, i6, i11, i15, i23, i24, i29, iA, iS, iC, iQ, iP⟩ := id hI
  have b1 := i1.2
  have b6 := i6.2
  have b11 := i11.2
  have b15 := i15.2
  have b23 := i23.2
  have b24 := i24.2
  have b29 := i29.2
  refine zM.of (by decide +kernel) (Nat.le_of_ble_eq_true rfl) (by simp [zcat, Value.category]) ?_
  intro p e s m args below meth c loc0 C hr hnm hT
  refine z_aload_n (i := 0) C dX7_forecast_0 rfl rfl ?_
  refine z_aload_n (i := 0) C dX7_forecast_1 rfl rfl ?_
  refine z_iload_n (i := 1) C dX7_forecast_2 rfl rfl ?_
  refine z_callV C Y_X7_isSeller V_X7_isSeller ml_RX7_122 (c_X7_isSeller l hM) dX7_forecast_3 rfl rfl hM.1 ⟨_, _, rfl⟩ (fun _ => Nat.le_of_ble_eq_true rfl) ⟨Nat.le_of_ble_eq_true rfl, Nat.le_of_ble_eq_true rfl⟩ ⟨Nat.le_of_ble_eq_true rfl, Nat.le_of_ble_eq_true rfl⟩ (z_ri (fun x σ1 hx => ?_)) (z_nx)
  obtain ⟨rfl, rfl⟩ := hx
  refine z_iconst (v := 1) C dX7_forecast_6 (by decide) ?_
  refine z_iconst (v := 1) C dX7_forecast_7 (by decide) ?_
  refine z_callV C Y_X7_goes V_X7_goes ml_RX7_100 (c_X7_goes l hM (p1 := isSel x i) (p2 := true) (p3 := true)) dX7_forecast_8 rfl rfl hM.1 ⟨_, _, rfl⟩ (fun _ => Nat.le_of_ble_eq_true rfl) ⟨Nat.le_of_ble_eq_true rfl, Nat.le_of_ble_eq_true rfl⟩ ⟨Nat.le_of_ble_eq_true rfl, Nat.le_of_ble_eq_true rfl⟩ (z_ri (fun x σ1 hx => ?_)) (z_nx)
  obtain ⟨rfl, hM, hF⟩ := hx
  refine z_if_eqB (tgt := 22) C dX7_forecast_11 (by decide) (fun h0 => ?_) (fun h0 => ?_)
  · refine z_iconst (v := 0) C dX7_forecast_22 (by decide) ?_
    exact z_iret C hr rfl dX7_forecast_23 (Nat.le_of_ble_eq_true rfl) (Nat.le_of_ble_eq_true rfl) ⟨_, rfl, zRz.no h0 hM hF⟩
  · have h1 := of_decide_eq_true h0
    rw [h1] at hM
    obtain ⟨q1, q2, q3⟩ := goC_0.mp h1
    replace h0 : k_forecast x a i = 0 := h1
    obtain ⟨i, hi, rfl⟩ := inB_ix i11 (by decide) q1
    have zi : zN (nI i) = i := zN_nI (by omega)
    have hI1 : zInv (upd x 31 0) a := hI
    refine z_aload_n (i := 0) C dX7_forecast_14 rfl rfl ?_
    refine z_iload_n (i := 1) C dX7_forecast_15 rfl rfl ?_
    refine z_callV C Y_X7_forecastOf V_X7_forecastOf ml_RX7_162 (c_X7_forecastOf l hM hI1 (t := i) (by omega)) dX7_forecast_16 rfl rfl hM.1 ⟨_, _, rfl⟩ (fun _ => Nat.le_of_ble_eq_true rfl) ⟨Nat.le_of_ble_eq_true rfl, Nat.le_of_ble_eq_true rfl⟩ ⟨Nat.le_of_ble_eq_true rfl, Nat.le_of_ble_eq_true rfl⟩ (z_ri (fun x σ1 hx => ?_)) (z_nx)
    obtain ⟨rfl, rfl⟩ := hx
    refine z_goto (tgt := 23) C dX7_forecast_19 (by decide) ?_
    exact z_iret C hr rfl dX7_forecast_23 (Nat.le_of_ble_eq_true rfl) (Nat.le_of_ble_eq_true rfl) ⟨_, rfl, zRz.ok h0 (by rw [forS_x, zi]) hM rfl rfl hF⟩

def k_own (x : Nat → Int32) (a : Nat → Nat → Int32) (i : Int32) : Int32 := goC (isSel x i) (true) (true)
set_option maxRecDepth 100000 in
set_option maxHeartbeats 4000000 in
theorem c_X7_own {X : zX} (l : Launch) {x : Nat → Int32} {a : Nat → Nat → Int32} {σ : zHp} (hM : MD x a σ) (hI : zInv x a) {i : Int32} : zM X l yX7_own cX7_own 2 (some .int) 3 0 0 [aR 12 0, aI i] σ (zPi (fun r9 σ1 => zRz (k_own x a i) (ownS x a (zN i)) (x) (a) x a r9 σ σ1)) zNx := by
  obtain ⟨i0, i1, i6, i11, i15, i23, i24, i29, iA, iS, iC, iQ, iP⟩ := id hI
  have b1 := i1.2
  have b6 := i6.2
  have b11 := i11.2
  have b15 := i15.2
  have b23 := i23.2
  have b24 := i24.2
  have b29 := i29.2
  refine zM.of (by decide +kernel) (Nat.le_of_ble_eq_true rfl) (by simp [zcat, Value.category]) ?_
  intro p e s m args below meth c loc0 C hr hnm hT
  refine z_aload_n (i := 0) C dX7_own_0 rfl rfl ?_
  refine z_aload_n (i := 0) C dX7_own_1 rfl rfl ?_
  refine z_iload_n (i := 1) C dX7_own_2 rfl rfl ?_
  refine z_callV C Y_X7_isSeller V_X7_isSeller ml_RX7_122 (c_X7_isSeller l hM) dX7_own_3 rfl rfl hM.1 ⟨_, _, rfl⟩ (fun _ => Nat.le_of_ble_eq_true rfl) ⟨Nat.le_of_ble_eq_true rfl, Nat.le_of_ble_eq_true rfl⟩ ⟨Nat.le_of_ble_eq_true rfl, Nat.le_of_ble_eq_true rfl⟩ (z_ri (fun x σ1 hx => ?_)) (z_nx)
  obtain ⟨rfl, rfl⟩ := hx
  refine z_iconst (v := 1) C dX7_own_6 (by decide) ?_
  refine z_iconst (v := 1) C dX7_own_7 (by decide) ?_
  refine z_callV C Y_X7_goes V_X7_goes ml_RX7_100 (c_X7_goes l hM (p1 := isSel x i) (p2 := true) (p3 := true)) dX7_own_8 rfl rfl hM.1 ⟨_, _, rfl⟩ (fun _ => Nat.le_of_ble_eq_true rfl) ⟨Nat.le_of_ble_eq_true rfl, Nat.le_of_ble_eq_true rfl⟩ ⟨Nat.le_of_ble_eq_true rfl, Nat.le_of_ble_eq_true rfl⟩ (z_ri (fun x σ1 hx => ?_)) (z_nx)
  obtain ⟨rfl, hM, hF⟩ := hx
  refine z_if_eqB (tgt := 22) C dX7_own_11 (by decide) (fun h0 => ?_) (fun h0 => ?_)
  · refine z_iconst (v := 0) C dX7_own_22 (by decide) ?_
    exact z_iret C hr rfl dX7_own_23 (Nat.le_of_ble_eq_true rfl) (Nat.le_of_ble_eq_true rfl) ⟨_, rfl, zRz.no h0 hM hF⟩
  · have h1 := of_decide_eq_true h0
    rw [h1] at hM
    obtain ⟨q1, q2, q3⟩ := goC_0.mp h1
    replace h0 : k_own x a i = 0 := h1
    obtain ⟨i, hi, rfl⟩ := inB_ix i11 (by decide) q1
    have zi : zN (nI i) = i := zN_nI (by omega)
    have hI1 : zInv (upd x 31 0) a := hI
    refine z_aload_n (i := 0) C dX7_own_14 rfl rfl ?_
    refine z_iload_n (i := 1) C dX7_own_15 rfl rfl ?_
    refine z_callV C Y_X7_ownOf V_X7_ownOf ml_RX7_159 (c_X7_ownOf l hM hI1 (i := i) (by omega)) dX7_own_16 rfl rfl hM.1 ⟨_, _, rfl⟩ (fun _ => Nat.le_of_ble_eq_true rfl) ⟨Nat.le_of_ble_eq_true rfl, Nat.le_of_ble_eq_true rfl⟩ ⟨Nat.le_of_ble_eq_true rfl, Nat.le_of_ble_eq_true rfl⟩ (z_ri (fun x σ1 hx => ?_)) (z_nx)
    obtain ⟨rfl, rfl⟩ := hx
    refine z_goto (tgt := 23) C dX7_own_19 (by decide) ?_
    exact z_iret C hr rfl dX7_own_23 (Nat.le_of_ble_eq_true rfl) (Nat.le_of_ble_eq_true rfl) ⟨_, rfl, zRz.ok h0 (by rw [ownS_x, zi]) hM rfl rfl hF⟩

def k_addSeller (x : Nat → Int32) (a : Nat → Nat → Int32) (o w : Int32) : Int32 := goC (decide (o = -1) || isSel x o) (inB w 0 99) (decide (x 11 < 8))
set_option maxRecDepth 100000 in
set_option maxHeartbeats 4000000 in
theorem c_X7_addSeller {X : zX} (l : Launch) {x : Nat → Int32} {a : Nat → Nat → Int32} {σ : zHp} (hM : MD x a σ) (hI : zInv x a) {o w : Int32} : zM X l yX7_addSeller cX7_addSeller 3 (some .int) 2 0 0 [aR 12 0, aI o, aI w] σ (zPi (fun r9 σ1 => zRz (k_addSeller x a o w) (x 11) (upd x 11 (x 11 + 1)) (ua (ua a 12 (upd (a 12) (zN (x 11)) o)) 13 (upd (a 13) (zN (x 11)) w)) x a r9 σ σ1)) zNx := by
  obtain ⟨i0, i1, i6, i11, i15, i23, i24, i29, iA, iS, iC, iQ, iP⟩ := id hI
  have b1 := i1.2
  have b6 := i6.2
  have b11 := i11.2
  have b15 := i15.2
  have b23 := i23.2
  have b24 := i24.2
  have b29 := i29.2
  refine zM.of (by decide +kernel) (Nat.le_of_ble_eq_true rfl) (by simp [zcat, Value.category]) ?_
  intro p e s m args below meth c loc0 C hr hnm hT
  refine z_aload_n (i := 0) C dX7_addSeller_0 rfl rfl ?_
  refine z_join (pc' := 19) (L' := [(0, aR 12 0), (1, aI o), (2, aI w)]) (st' := [aI (zb (decide (o = -1) || isSel x o)), aR 12 0]) (fun kk => ?_) ?_
  · refine z_iload_n (i := 1) C dX7_addSeller_1 rfl rfl ?_
    refine z_iconst (v := -1) C dX7_addSeller_2 (by decide) ?_
    refine z_icmp_eq (tgt := 14) C dX7_addSeller_3 (by decide) (fun h3 => ?_) (fun h3 => ?_)
    · refine z_iconst (v := 1) C dX7_addSeller_14 (by decide) ?_
      refine z_goto (tgt := 19) C dX7_addSeller_15 (by decide) ?_
      exact z_subK (z_b1 (by simp only [h3, eq_self, decide_true, decide_false, Bool.and_true, Bool.true_and, Bool.and_false, Bool.false_and, Bool.or_true, Bool.true_or, Bool.or_false, Bool.false_or, Bool.not_true, Bool.not_false, not_true, not_false_eq_true, if_true, if_false]) kk) (zs1 rfl (zs1 rfl (zs1 rfl zs0)))
    · refine z_aload_n (i := 0) C dX7_addSeller_6 rfl rfl ?_
      refine z_iload_n (i := 1) C dX7_addSeller_7 rfl rfl ?_
      refine z_callV C Y_X7_isSeller V_X7_isSeller ml_RX7_122 (c_X7_isSeller l hM) dX7_addSeller_8 rfl rfl hM.1 ⟨_, _, rfl⟩ (fun _ => Nat.le_of_ble_eq_true rfl) ⟨Nat.le_of_ble_eq_true rfl, Nat.le_of_ble_eq_true rfl⟩ ⟨Nat.le_of_ble_eq_true rfl, Nat.le_of_ble_eq_true rfl⟩ (z_ri (fun x σ1 hx => ?_)) (z_nx)
      obtain ⟨rfl, rfl⟩ := hx
      refine z_if_eqB (tgt := 18) C dX7_addSeller_11 (by decide) (fun h11 => ?_) (fun h11 => ?_)
      · refine z_iconst (v := 0) C dX7_addSeller_18 (by decide) ?_
        exact z_subK (z_b0 (by simp only [h3, h11, eq_self, decide_true, decide_false, Bool.and_true, Bool.true_and, Bool.and_false, Bool.false_and, Bool.or_true, Bool.true_or, Bool.or_false, Bool.false_or, Bool.not_true, Bool.not_false, not_true, not_false_eq_true, if_true, if_false]) kk) (zs1 rfl (zs1 rfl (zs1 rfl zs0)))
      · refine z_iconst (v := 1) C dX7_addSeller_14 (by decide) ?_
        refine z_goto (tgt := 19) C dX7_addSeller_15 (by decide) ?_
        exact z_subK (z_b1 (by simp only [h3, h11, eq_self, decide_true, decide_false, Bool.and_true, Bool.true_and, Bool.and_false, Bool.false_and, Bool.or_true, Bool.true_or, Bool.or_false, Bool.false_or, Bool.not_true, Bool.not_false, not_true, not_false_eq_true, if_true, if_false]) kk) (zs1 rfl (zs1 rfl (zs1 rfl zs0)))
  refine z_iload_n (i := 2) C dX7_addSeller_19 rfl rfl ?_
  refine z_iconst (v := 0) C dX7_addSeller_20 (by decide) ?_
  refine z_bipush (v := 99) C dX7_addSeller_21 (by decide) ?_
  refine z_callS C Y_X7_in sm_yX7_in ml_RX7_86 (c_X7_in l) dX7_addSeller_23 rfl rfl (fun _ => Nat.le_of_ble_eq_true rfl) ⟨Nat.le_of_ble_eq_true rfl, Nat.le_of_ble_eq_true rfl⟩ ⟨Nat.le_of_ble_eq_true rfl, Nat.le_of_ble_eq_true rfl⟩ (z_ri (fun x σ1 hx => ?_)) (z_nx)
  obtain ⟨rfl, rfl⟩ := hx
  refine z_join (pc' := 40) (L' := [(0, aR 12 0), (1, aI o), (2, aI w)]) (st' := [aI (zb (decide (x 11 < 8))), aI (zb (inB w 0 99)), aI (zb (decide (o = -1) || isSel x o)), aR 12 0]) (fun kk => ?_) ?_
  · refine z_aload_n (i := 0) C dX7_addSeller_26 rfl rfl ?_
    refine z_getf C f_RX7_90 dX7_addSeller_27 hM.1 rfl ?_
    refine z_bipush (v := 8) C dX7_addSeller_30 (by decide) ?_
    refine z_icmp_ge (tgt := 39) C dX7_addSeller_32 (by decide) (fun h32 => ?_) (fun h32 => ?_)
    · have g32 := Int32.not_lt.mpr h32
      refine z_iconst (v := 0) C dX7_addSeller_39 (by decide) ?_
      exact z_subK (z_b0 (by simp only [h32, g32, eq_self, decide_true, decide_false, Bool.and_true, Bool.true_and, Bool.and_false, Bool.false_and, Bool.or_true, Bool.true_or, Bool.or_false, Bool.false_or, Bool.not_true, Bool.not_false, not_true, not_false_eq_true, if_true, if_false]) kk) (zs1 rfl (zs1 rfl (zs1 rfl zs0)))
    · have g32 := Int32.not_le.mp h32
      refine z_iconst (v := 1) C dX7_addSeller_35 (by decide) ?_
      refine z_goto (tgt := 40) C dX7_addSeller_36 (by decide) ?_
      exact z_subK (z_b1 (by simp only [h32, g32, eq_self, decide_true, decide_false, Bool.and_true, Bool.true_and, Bool.and_false, Bool.false_and, Bool.or_true, Bool.true_or, Bool.or_false, Bool.false_or, Bool.not_true, Bool.not_false, not_true, not_false_eq_true, if_true, if_false]) kk) (zs1 rfl (zs1 rfl (zs1 rfl zs0)))
  refine z_callV C Y_X7_goes V_X7_goes ml_RX7_100 (c_X7_goes l hM (p1 := decide (o = -1) || isSel x o) (p2 := inB w 0 99) (p3 := decide (x 11 < 8))) dX7_addSeller_40 rfl rfl hM.1 ⟨_, _, rfl⟩ (fun _ => Nat.le_of_ble_eq_true rfl) ⟨Nat.le_of_ble_eq_true rfl, Nat.le_of_ble_eq_true rfl⟩ ⟨Nat.le_of_ble_eq_true rfl, Nat.le_of_ble_eq_true rfl⟩ (z_ri (fun x σ1 hx => ?_)) (z_nx)
  obtain ⟨rfl, hM, hF⟩ := hx
  refine z_if_neB (tgt := 48) C dX7_addSeller_43 (by decide) (fun h0 => ?_) (fun h0 => ?_)
  · have h1 := of_decide_eq_true h0
    rw [h1] at hM
    obtain ⟨q1, q2, q3⟩ := goC_0.mp h1
    replace h0 : k_addSeller x a o w = 0 := h1
    have hn : zN (x 11) < 8 := zN_lt i11 (by decide) (of_decide_eq_true q3)
    refine z_aload_n (i := 0) C dX7_addSeller_48 rfl rfl ?_
    refine z_getf C f_RX7_34 dX7_addSeller_49 hM.1 rfl ?_
    refine z_aload_n (i := 0) C dX7_addSeller_52 rfl rfl ?_
    refine z_getf C f_RX7_90 dX7_addSeller_53 hM.1 rfl ?_
    refine z_iload_n (i := 1) C dX7_addSeller_56 rfl rfl ?_
    refine z_iastW C dX7_addSeller_57 hM 12 (by decide) (by first | rfl | exact i15.1 | exact i1.1 | exact i11.1 | exact i23.1 | exact i6.1) (show _ < 8 by omega) (fun σ hM hF9 => ?_)
    replace hF := hF.tr hF9
    refine z_aload_n (i := 0) C dX7_addSeller_58 rfl rfl ?_
    refine z_getf C f_RX7_37 dX7_addSeller_59 hM.1 rfl ?_
    refine z_aload_n (i := 0) C dX7_addSeller_62 rfl rfl ?_
    refine z_getf C f_RX7_90 dX7_addSeller_63 hM.1 rfl ?_
    refine z_iload_n (i := 2) C dX7_addSeller_66 rfl rfl ?_
    refine z_iastW C dX7_addSeller_67 hM 13 (by decide) (by first | rfl | exact i15.1 | exact i1.1 | exact i11.1 | exact i23.1 | exact i6.1) (show _ < 8 by omega) (fun σ hM hF9 => ?_)
    replace hF := hF.tr hF9
    refine z_aload_n (i := 0) C dX7_addSeller_68 rfl rfl ?_
    refine z_dup C (by first | trivial | rfl) dX7_addSeller_69 ?_
    refine z_getf C f_RX7_90 dX7_addSeller_70 hM.1 rfl ?_
    refine z_iconst (v := 1) C dX7_addSeller_73 (by decide) ?_
    refine z_iadd C dX7_addSeller_74 ?_
    refine z_putM (j := 11) C fp_RX7_90 dX7_addSeller_75 hM (by decide) (by decide) (fun σ hM hF9 => ?_)
    replace hF := hF.tr hF9
    refine z_aload_n (i := 0) C dX7_addSeller_78 rfl rfl ?_
    refine z_getf C f_RX7_90 dX7_addSeller_79 hM.1 rfl ?_
    refine z_iconst (v := 1) C dX7_addSeller_82 (by decide) ?_
    refine z_isub C dX7_addSeller_83 ?_
    exact z_iret C hr rfl dX7_addSeller_84 (Nat.le_of_ble_eq_true rfl) (Nat.le_of_ble_eq_true rfl) ⟨_, rfl, zRz.ok h0 (Int32.add_sub_cancel _ _) hM rfl rfl hF⟩
  · refine z_iconst (v := 0) C dX7_addSeller_46 (by decide) ?_
    exact z_iret C hr rfl dX7_addSeller_47 (Nat.le_of_ble_eq_true rfl) (Nat.le_of_ble_eq_true rfl) ⟨_, rfl, zRz.no h0 hM hF⟩

def k_adjust (x : Nat → Int32) (a : Nat → Nat → Int32) (i w : Int32) : Int32 := goC (isSel x i) (inB w (-1000000) 1000000) (true)
set_option maxRecDepth 100000 in
set_option maxHeartbeats 4000000 in
theorem c_X7_adjust {X : zX} (l : Launch) {x : Nat → Int32} {a : Nat → Nat → Int32} {σ : zHp} (hM : MD x a σ) (hI : zInv x a) {i w : Int32} : zM X l yX7_adjust cX7_adjust 4 (some .int) 2 0 0 [aR 12 0, aI i, aI w] σ (zPi (fun r9 σ1 => zRz (k_adjust x a i w) (a 14 (zN i)) (x) (ua a 14 (upd (a 14) (zN i) w)) x a r9 σ σ1)) zNx := by
  obtain ⟨i0, i1, i6, i11, i15, i23, i24, i29, iA, iS, iC, iQ, iP⟩ := id hI
  have b1 := i1.2
  have b6 := i6.2
  have b11 := i11.2
  have b15 := i15.2
  have b23 := i23.2
  have b24 := i24.2
  have b29 := i29.2
  refine zM.of (by decide +kernel) (Nat.le_of_ble_eq_true rfl) (by simp [zcat, Value.category]) ?_
  intro p e s m args below meth c loc0 C hr hnm hT
  refine z_aload_n (i := 0) C dX7_adjust_0 rfl rfl ?_
  refine z_aload_n (i := 0) C dX7_adjust_1 rfl rfl ?_
  refine z_iload_n (i := 1) C dX7_adjust_2 rfl rfl ?_
  refine z_callV C Y_X7_isSeller V_X7_isSeller ml_RX7_122 (c_X7_isSeller l hM) dX7_adjust_3 rfl rfl hM.1 ⟨_, _, rfl⟩ (fun _ => Nat.le_of_ble_eq_true rfl) ⟨Nat.le_of_ble_eq_true rfl, Nat.le_of_ble_eq_true rfl⟩ ⟨Nat.le_of_ble_eq_true rfl, Nat.le_of_ble_eq_true rfl⟩ (z_ri (fun x σ1 hx => ?_)) (z_nx)
  obtain ⟨rfl, rfl⟩ := hx
  refine z_iload_n (i := 2) C dX7_adjust_6 rfl rfl ?_
  refine z_ldc C dX7_adjust_7 kc_RX7_125 ?_
  refine z_ldc C dX7_adjust_9 kc_RX7_126 ?_
  refine z_callS C Y_X7_in sm_yX7_in ml_RX7_86 (c_X7_in l) dX7_adjust_11 rfl rfl (fun _ => Nat.le_of_ble_eq_true rfl) ⟨Nat.le_of_ble_eq_true rfl, Nat.le_of_ble_eq_true rfl⟩ ⟨Nat.le_of_ble_eq_true rfl, Nat.le_of_ble_eq_true rfl⟩ (z_ri (fun x σ1 hx => ?_)) (z_nx)
  obtain ⟨rfl, rfl⟩ := hx
  refine z_iconst (v := 1) C dX7_adjust_14 (by decide) ?_
  refine z_callV C Y_X7_goes V_X7_goes ml_RX7_100 (c_X7_goes l hM (p1 := isSel x i) (p2 := inB w (-1000000) 1000000) (p3 := true)) dX7_adjust_15 rfl rfl hM.1 ⟨_, _, rfl⟩ (fun _ => Nat.le_of_ble_eq_true rfl) ⟨Nat.le_of_ble_eq_true rfl, Nat.le_of_ble_eq_true rfl⟩ ⟨Nat.le_of_ble_eq_true rfl, Nat.le_of_ble_eq_true rfl⟩ (z_ri (fun x σ1 hx => ?_)) (z_nx)
  obtain ⟨rfl, hM, hF⟩ := hx
  refine z_if_neB (tgt := 23) C dX7_adjust_18 (by decide) (fun h0 => ?_) (fun h0 => ?_)
  · have h1 := of_decide_eq_true h0
    rw [h1] at hM
    obtain ⟨q1, q2, q3⟩ := goC_0.mp h1
    replace h0 : k_adjust x a i w = 0 := h1
    obtain ⟨i, hi, rfl⟩ := inB_ix i11 (by decide) q1
    have zi : zN (nI i) = i := zN_nI (by omega)
    refine z_aload_n (i := 0) C dX7_adjust_23 rfl rfl ?_
    refine z_getf C f_RX7_40 dX7_adjust_24 hM.1 rfl ?_
    refine z_iload_n (i := 1) C dX7_adjust_27 rfl rfl ?_
    refine z_ialdW C dX7_adjust_28 hM 14 (by decide) (by first | rfl | exact i15.1 | exact i1.1 | exact i11.1 | exact i23.1 | exact i6.1) (show _ < 8 by omega) ?_
    refine z_istore_n (i := 3) C dX7_adjust_29 rfl (by decide) ?_
    refine z_aload_n (i := 0) C dX7_adjust_30 rfl rfl ?_
    refine z_getf C f_RX7_40 dX7_adjust_31 hM.1 rfl ?_
    refine z_iload_n (i := 1) C dX7_adjust_34 rfl rfl ?_
    refine z_iload_n (i := 2) C dX7_adjust_35 rfl rfl ?_
    refine z_iastW C dX7_adjust_36 hM 14 (by decide) (by first | rfl | exact i15.1 | exact i1.1 | exact i11.1 | exact i23.1 | exact i6.1) (show _ < 8 by omega) (fun σ hM hF9 => ?_)
    replace hF := hF.tr hF9
    refine z_iload_n (i := 3) C dX7_adjust_37 rfl rfl ?_
    exact z_iret C hr rfl dX7_adjust_38 (Nat.le_of_ble_eq_true rfl) (Nat.le_of_ble_eq_true rfl) ⟨_, rfl, zRz.ok h0 (by first | rfl | (simp only [zi]; done) | (simp only [zi]; rfl)) hM rfl (by first | rfl | (simp only [zi]; done) | (simp only [zi]; rfl)) hF⟩
  · refine z_iconst (v := 0) C dX7_adjust_21 (by decide) ?_
    exact z_iret C hr rfl dX7_adjust_22 (Nat.le_of_ble_eq_true rfl) (Nat.le_of_ble_eq_true rfl) ⟨_, rfl, zRz.no h0 hM hF⟩

def k_addChance (x : Nat → Int32) (a : Nat → Nat → Int32) (o j w : Int32) : Int32 := goC (isAcc x o && isSel x j) (inB w 1 1000000) (decide (x 15 < 30))
set_option maxRecDepth 100000 in
set_option maxHeartbeats 4000000 in
theorem c_X7_addChance {X : zX} (l : Launch) {x : Nat → Int32} {a : Nat → Nat → Int32} {σ : zHp} (hM : MD x a σ) (hI : zInv x a) {o j w : Int32} : zM X l yX7_addChance cX7_addChance 4 (some .int) 2 0 0 [aR 12 0, aI o, aI j, aI w] σ (zPi (fun r9 σ1 => zRz (k_addChance x a o j w) (x 15) (upd x 15 (x 15 + 1)) (ua (ua (ua (ua a 16 (upd (a 16) (zN (x 15)) o)) 17 (upd (a 17) (zN (x 15)) w)) 19 (upd (a 19) (zN (x 15)) (x 0))) 21 (upd (a 21) (8 * zN (x 15) + zN j) 100)) x a r9 σ σ1)) zNx := by
  obtain ⟨i0, i1, i6, i11, i15, i23, i24, i29, iA, iS, iC, iQ, iP⟩ := id hI
  have b1 := i1.2
  have b6 := i6.2
  have b11 := i11.2
  have b15 := i15.2
  have b23 := i23.2
  have b24 := i24.2
  have b29 := i29.2
  refine zM.of (by decide +kernel) (Nat.le_of_ble_eq_true rfl) (by simp [zcat, Value.category]) ?_
  intro p e s m args below meth c loc0 C hr hnm hT
  refine z_aload_n (i := 0) C dX7_addChance_0 rfl rfl ?_
  refine z_join (pc' := 22) (L' := [(0, aR 12 0), (1, aI o), (2, aI j), (3, aI w)]) (st' := [aI (zb (isAcc x o && isSel x j)), aR 12 0]) (fun kk => ?_) ?_
  · refine z_aload_n (i := 0) C dX7_addChance_1 rfl rfl ?_
    refine z_iload_n (i := 1) C dX7_addChance_2 rfl rfl ?_
    refine z_callV C Y_X7_isAccount V_X7_isAccount ml_RX7_104 (c_X7_isAccount l hM) dX7_addChance_3 rfl rfl hM.1 ⟨_, _, rfl⟩ (fun _ => Nat.le_of_ble_eq_true rfl) ⟨Nat.le_of_ble_eq_true rfl, Nat.le_of_ble_eq_true rfl⟩ ⟨Nat.le_of_ble_eq_true rfl, Nat.le_of_ble_eq_true rfl⟩ (z_ri (fun x σ1 hx => ?_)) (z_nx)
    obtain ⟨rfl, rfl⟩ := hx
    refine z_if_eqB (tgt := 21) C dX7_addChance_6 (by decide) (fun h6 => ?_) (fun h6 => ?_)
    · refine z_iconst (v := 0) C dX7_addChance_21 (by decide) ?_
      exact z_subK (z_b0 (by simp only [h6, eq_self, decide_true, decide_false, Bool.and_true, Bool.true_and, Bool.and_false, Bool.false_and, Bool.or_true, Bool.true_or, Bool.or_false, Bool.false_or, Bool.not_true, Bool.not_false, not_true, not_false_eq_true, if_true, if_false]) kk) (zs1 rfl (zs1 rfl (zs1 rfl (zs1 rfl zs0))))
    · refine z_aload_n (i := 0) C dX7_addChance_9 rfl rfl ?_
      refine z_iload_n (i := 2) C dX7_addChance_10 rfl rfl ?_
      refine z_callV C Y_X7_isSeller V_X7_isSeller ml_RX7_122 (c_X7_isSeller l hM) dX7_addChance_11 rfl rfl hM.1 ⟨_, _, rfl⟩ (fun _ => Nat.le_of_ble_eq_true rfl) ⟨Nat.le_of_ble_eq_true rfl, Nat.le_of_ble_eq_true rfl⟩ ⟨Nat.le_of_ble_eq_true rfl, Nat.le_of_ble_eq_true rfl⟩ (z_ri (fun x σ1 hx => ?_)) (z_nx)
      obtain ⟨rfl, rfl⟩ := hx
      refine z_if_eqB (tgt := 21) C dX7_addChance_14 (by decide) (fun h14 => ?_) (fun h14 => ?_)
      · refine z_iconst (v := 0) C dX7_addChance_21 (by decide) ?_
        exact z_subK (z_b0 (by simp only [h6, h14, eq_self, decide_true, decide_false, Bool.and_true, Bool.true_and, Bool.and_false, Bool.false_and, Bool.or_true, Bool.true_or, Bool.or_false, Bool.false_or, Bool.not_true, Bool.not_false, not_true, not_false_eq_true, if_true, if_false]) kk) (zs1 rfl (zs1 rfl (zs1 rfl (zs1 rfl zs0))))
      · refine z_iconst (v := 1) C dX7_addChance_17 (by decide) ?_
        refine z_goto (tgt := 22) C dX7_addChance_18 (by decide) ?_
        exact z_subK (z_b1 (by simp only [h6, h14, eq_self, decide_true, decide_false, Bool.and_true, Bool.true_and, Bool.and_false, Bool.false_and, Bool.or_true, Bool.true_or, Bool.or_false, Bool.false_or, Bool.not_true, Bool.not_false, not_true, not_false_eq_true, if_true, if_false]) kk) (zs1 rfl (zs1 rfl (zs1 rfl (zs1 rfl zs0))))
  refine z_iload_n (i := 3) C dX7_addChance_22 rfl rfl ?_
  refine z_iconst (v := 1) C dX7_addChance_23 (by decide) ?_
  refine z_ldc C dX7_addChance_24 kc_RX7_126 ?_
  refine z_callS C Y_X7_in sm_yX7_in ml_RX7_86 (c_X7_in l) dX7_addChance_26 rfl rfl (fun _ => Nat.le_of_ble_eq_true rfl) ⟨Nat.le_of_ble_eq_true rfl, Nat.le_of_ble_eq_true rfl⟩ ⟨Nat.le_of_ble_eq_true rfl, Nat.le_of_ble_eq_true rfl⟩ (z_ri (fun x σ1 hx => ?_)) (z_nx)
  obtain ⟨rfl, rfl⟩ := hx
  refine z_join (pc' := 43) (L' := [(0, aR 12 0), (1, aI o), (2, aI j), (3, aI w)]) (st' := [aI (zb (decide (x 15 < 30))), aI (zb (inB w 1 1000000)), aI (zb (isAcc x o && isSel x j)), aR 12 0]) (fun kk => ?_) ?_
  · refine z_aload_n (i := 0) C dX7_addChance_29 rfl rfl ?_
    refine z_getf C f_RX7_93 dX7_addChance_30 hM.1 rfl ?_
    refine z_bipush (v := 30) C dX7_addChance_33 (by decide) ?_
    refine z_icmp_ge (tgt := 42) C dX7_addChance_35 (by decide) (fun h35 => ?_) (fun h35 => ?_)
    · have g35 := Int32.not_lt.mpr h35
      refine z_iconst (v := 0) C dX7_addChance_42 (by decide) ?_
      exact z_subK (z_b0 (by simp only [h35, g35, eq_self, decide_true, decide_false, Bool.and_true, Bool.true_and, Bool.and_false, Bool.false_and, Bool.or_true, Bool.true_or, Bool.or_false, Bool.false_or, Bool.not_true, Bool.not_false, not_true, not_false_eq_true, if_true, if_false]) kk) (zs1 rfl (zs1 rfl (zs1 rfl (zs1 rfl zs0))))
    · have g35 := Int32.not_le.mp h35
      refine z_iconst (v := 1) C dX7_addChance_38 (by decide) ?_
      refine z_goto (tgt := 43) C dX7_addChance_39 (by decide) ?_
      exact z_subK (z_b1 (by simp only [h35, g35, eq_self, decide_true, decide_false, Bool.and_true, Bool.true_and, Bool.and_false, Bool.false_and, Bool.or_true, Bool.true_or, Bool.or_false, Bool.false_or, Bool.not_true, Bool.not_false, not_true, not_false_eq_true, if_true, if_false]) kk) (zs1 rfl (zs1 rfl (zs1 rfl (zs1 rfl zs0))))
  refine z_callV C Y_X7_goes V_X7_goes ml_RX7_100 (c_X7_goes l hM (p1 := isAcc x o && isSel x j) (p2 := inB w 1 1000000) (p3 := decide (x 15 < 30))) dX7_addChance_43 rfl rfl hM.1 ⟨_, _, rfl⟩ (fun _ => Nat.le_of_ble_eq_true rfl) ⟨Nat.le_of_ble_eq_true rfl, Nat.le_of_ble_eq_true rfl⟩ ⟨Nat.le_of_ble_eq_true rfl, Nat.le_of_ble_eq_true rfl⟩ (z_ri (fun x σ1 hx => ?_)) (z_nx)
  obtain ⟨rfl, hM, hF⟩ := hx
  refine z_if_neB (tgt := 51) C dX7_addChance_46 (by decide) (fun h0 => ?_) (fun h0 => ?_)
  · have h1 := of_decide_eq_true h0
    rw [h1] at hM
    obtain ⟨q1, q2, q3⟩ := goC_0.mp h1
    replace h0 : k_addChance x a o j w = 0 := h1
    have hn : zN (x 15) < 30 := zN_lt i15 (by decide) (of_decide_eq_true q3)
    obtain ⟨qa, qb⟩ := bAnd q1
    obtain ⟨j, hj, rfl⟩ := inB_ix i11 (by decide) qb
    have zj : zN (nI j) = j := zN_nI (by omega)
    refine z_aload_n (i := 0) C dX7_addChance_51 rfl rfl ?_
    refine z_getf C f_RX7_43 dX7_addChance_52 hM.1 rfl ?_
    refine z_aload_n (i := 0) C dX7_addChance_55 rfl rfl ?_
    refine z_getf C f_RX7_93 dX7_addChance_56 hM.1 rfl ?_
    refine z_iload_n (i := 1) C dX7_addChance_59 rfl rfl ?_
    refine z_iastW C dX7_addChance_60 hM 16 (by decide) (by first | rfl | exact i15.1 | exact i1.1 | exact i11.1 | exact i23.1 | exact i6.1) (show _ < 30 by omega) (fun σ hM hF9 => ?_)
    replace hF := hF.tr hF9
    refine z_aload_n (i := 0) C dX7_addChance_61 rfl rfl ?_
    refine z_getf C f_RX7_46 dX7_addChance_62 hM.1 rfl ?_
    refine z_aload_n (i := 0) C dX7_addChance_65 rfl rfl ?_
    refine z_getf C f_RX7_93 dX7_addChance_66 hM.1 rfl ?_
    refine z_iload_n (i := 3) C dX7_addChance_69 rfl rfl ?_
    refine z_iastW C dX7_addChance_70 hM 17 (by decide) (by first | rfl | exact i15.1 | exact i1.1 | exact i11.1 | exact i23.1 | exact i6.1) (show _ < 30 by omega) (fun σ hM hF9 => ?_)
    replace hF := hF.tr hF9
    refine z_aload_n (i := 0) C dX7_addChance_71 rfl rfl ?_
    refine z_getf C f_RX7_52 dX7_addChance_72 hM.1 rfl ?_
    refine z_aload_n (i := 0) C dX7_addChance_75 rfl rfl ?_
    refine z_getf C f_RX7_93 dX7_addChance_76 hM.1 rfl ?_
    refine z_aload_n (i := 0) C dX7_addChance_79 rfl rfl ?_
    refine z_getf C f_RX7_96 dX7_addChance_80 hM.1 rfl ?_
    refine z_iastW C dX7_addChance_83 hM 19 (by decide) (by first | rfl | exact i15.1 | exact i1.1 | exact i11.1 | exact i23.1 | exact i6.1) (show _ < 30 by omega) (fun σ hM hF9 => ?_)
    replace hF := hF.tr hF9
    refine z_aload_n (i := 0) C dX7_addChance_84 rfl rfl ?_
    refine z_getf C f_RX7_58 dX7_addChance_85 hM.1 rfl ?_
    refine z_bipush (v := 8) C dX7_addChance_88 (by decide) ?_
    refine z_aload_n (i := 0) C dX7_addChance_90 rfl rfl ?_
    refine z_getf C f_RX7_93 dX7_addChance_91 hM.1 rfl ?_
    refine z_imul C dX7_addChance_94 ?_
    refine z_iload_n (i := 2) C dX7_addChance_95 rfl rfl ?_
    refine z_iadd C dX7_addChance_96 ?_
    refine z_top (w := nI (8 * zN (x 15) + j)) (by rw [show upd x 31 0 15 = nI (zN (x 15)) from i15.1]; exact nI_lin8 _ _) ?_
    refine z_bipush (v := 100) C dX7_addChance_97 (by decide) ?_
    refine z_iastW C dX7_addChance_99 hM 21 (by decide) (by first | rfl | exact i15.1 | exact i1.1 | exact i11.1 | exact i23.1 | exact i6.1) (show _ < 240 by omega) (fun σ hM hF9 => ?_)
    replace hF := hF.tr hF9
    refine z_aload_n (i := 0) C dX7_addChance_100 rfl rfl ?_
    refine z_dup C (by first | trivial | rfl) dX7_addChance_101 ?_
    refine z_getf C f_RX7_93 dX7_addChance_102 hM.1 rfl ?_
    refine z_iconst (v := 1) C dX7_addChance_105 (by decide) ?_
    refine z_iadd C dX7_addChance_106 ?_
    refine z_putM (j := 15) C fp_RX7_93 dX7_addChance_107 hM (by decide) (by decide) (fun σ hM hF9 => ?_)
    replace hF := hF.tr hF9
    refine z_aload_n (i := 0) C dX7_addChance_110 rfl rfl ?_
    refine z_getf C f_RX7_93 dX7_addChance_111 hM.1 rfl ?_
    refine z_iconst (v := 1) C dX7_addChance_114 (by decide) ?_
    refine z_isub C dX7_addChance_115 ?_
    exact z_iret C hr rfl dX7_addChance_116 (Nat.le_of_ble_eq_true rfl) (Nat.le_of_ble_eq_true rfl) ⟨_, rfl, zRz.ok h0 (Int32.add_sub_cancel _ _) hM rfl (by first | rfl | (simp only [zj]; done) | (simp only [zj]; rfl)) hF⟩
  · refine z_iconst (v := 0) C dX7_addChance_49 (by decide) ?_
    exact z_iret C hr rfl dX7_addChance_50 (Nat.le_of_ble_eq_true rfl) (Nat.le_of_ble_eq_true rfl) ⟨_, rfl, zRz.no h0 hM hF⟩

def k_daysIn (x : Nat → Int32) (a : Nat → Nat → Int32) (i w : Int32) : Int32 := goC (isCha x i) (inB w 0 5) (true)
set_option maxRecDepth 100000 in
set_option maxHeartbeats 4000000 in
theorem c_X7_daysIn {X : zX} (l : Launch) {x : Nat → Int32} {a : Nat → Nat → Int32} {σ : zHp} (hM : MD x a σ) (hI : zInv x a) {i w : Int32} : zM X l yX7_daysIn cX7_daysIn 3 (some .int) 2 0 0 [aR 12 0, aI i, aI w] σ (zPi (fun r9 σ1 => zRz (k_daysIn x a i w) (a 22 (6 * zN i + zN w) + (if a 18 (zN i) = w then x 0 - a 19 (zN i) else 0)) (x) (a) x a r9 σ σ1)) zNx := by
  obtain ⟨i0, i1, i6, i11, i15, i23, i24, i29, iA, iS, iC, iQ, iP⟩ := id hI
  have b1 := i1.2
  have b6 := i6.2
  have b11 := i11.2
  have b15 := i15.2
  have b23 := i23.2
  have b24 := i24.2
  have b29 := i29.2
  refine zM.of (by decide +kernel) (Nat.le_of_ble_eq_true rfl) (by simp [zcat, Value.category]) ?_
  intro p e s m args below meth c loc0 C hr hnm hT
  refine z_aload_n (i := 0) C dX7_daysIn_0 rfl rfl ?_
  refine z_aload_n (i := 0) C dX7_daysIn_1 rfl rfl ?_
  refine z_iload_n (i := 1) C dX7_daysIn_2 rfl rfl ?_
  refine z_callV C Y_X7_isChance V_X7_isChance ml_RX7_127 (c_X7_isChance l hM) dX7_daysIn_3 rfl rfl hM.1 ⟨_, _, rfl⟩ (fun _ => Nat.le_of_ble_eq_true rfl) ⟨Nat.le_of_ble_eq_true rfl, Nat.le_of_ble_eq_true rfl⟩ ⟨Nat.le_of_ble_eq_true rfl, Nat.le_of_ble_eq_true rfl⟩ (z_ri (fun x σ1 hx => ?_)) (z_nx)
  obtain ⟨rfl, rfl⟩ := hx
  refine z_iload_n (i := 2) C dX7_daysIn_6 rfl rfl ?_
  refine z_iconst (v := 0) C dX7_daysIn_7 (by decide) ?_
  refine z_iconst (v := 5) C dX7_daysIn_8 (by decide) ?_
  refine z_callS C Y_X7_in sm_yX7_in ml_RX7_86 (c_X7_in l) dX7_daysIn_9 rfl rfl (fun _ => Nat.le_of_ble_eq_true rfl) ⟨Nat.le_of_ble_eq_true rfl, Nat.le_of_ble_eq_true rfl⟩ ⟨Nat.le_of_ble_eq_true rfl, Nat.le_of_ble_eq_true rfl⟩ (z_ri (fun x σ1 hx => ?_)) (z_nx)
  obtain ⟨rfl, rfl⟩ := hx
  refine z_iconst (v := 1) C dX7_daysIn_12 (by decide) ?_
  refine z_callV C Y_X7_goes V_X7_goes ml_RX7_100 (c_X7_goes l hM (p1 := isCha x i) (p2 := inB w 0 5) (p3 := true)) dX7_daysIn_13 rfl rfl hM.1 ⟨_, _, rfl⟩ (fun _ => Nat.le_of_ble_eq_true rfl) ⟨Nat.le_of_ble_eq_true rfl, Nat.le_of_ble_eq_true rfl⟩ ⟨Nat.le_of_ble_eq_true rfl, Nat.le_of_ble_eq_true rfl⟩ (z_ri (fun x σ1 hx => ?_)) (z_nx)
  obtain ⟨rfl, hM, hF⟩ := hx
  refine z_if_neB (tgt := 21) C dX7_daysIn_16 (by decide) (fun h0 => ?_) (fun h0 => ?_)
  · have h1 := of_decide_eq_true h0
    rw [h1] at hM
    obtain ⟨q1, q2, q3⟩ := goC_0.mp h1
    replace h0 : k_daysIn x a i w = 0 := h1
    obtain ⟨i, hi, rfl⟩ := inB_ix i15 (by decide) q1
    have zi : zN (nI i) = i := zN_nI (by omega)
    obtain ⟨t, ht, rfl⟩ := inB_to (n := 5) (by decide) q2
    have zt : zN (nI t) = t := zN_nI (by omega)
    refine z_aload_n (i := 0) C dX7_daysIn_21 rfl rfl ?_
    refine z_getf C f_RX7_61 dX7_daysIn_22 hM.1 rfl ?_
    refine z_bipush (v := 6) C dX7_daysIn_25 (by decide) ?_
    refine z_iload_n (i := 1) C dX7_daysIn_27 rfl rfl ?_
    refine z_imul C dX7_daysIn_28 ?_
    refine z_iload_n (i := 2) C dX7_daysIn_29 rfl rfl ?_
    refine z_iadd C dX7_daysIn_30 ?_
    rw [nI_lin6 i t]
    refine z_ialdW C dX7_daysIn_31 hM 22 (by decide) (by first | rfl | exact i15.1 | exact i1.1 | exact i11.1 | exact i23.1 | exact i6.1) (show _ < 180 by omega) ?_
    refine z_aload_n (i := 0) C dX7_daysIn_32 rfl rfl ?_
    refine z_getf C f_RX7_49 dX7_daysIn_33 hM.1 rfl ?_
    refine z_iload_n (i := 1) C dX7_daysIn_36 rfl rfl ?_
    refine z_ialdW C dX7_daysIn_37 hM 18 (by decide) (by first | rfl | exact i15.1 | exact i1.1 | exact i11.1 | exact i23.1 | exact i6.1) (show _ < 30 by omega) ?_
    refine z_iload_n (i := 2) C dX7_daysIn_38 rfl rfl ?_
    refine z_icmp_ne (tgt := 56) C dX7_daysIn_39 (by decide) (fun h39 => ?_) (fun h39 => ?_)
    · refine z_iconst (v := 0) C dX7_daysIn_56 (by decide) ?_
      refine z_iadd C dX7_daysIn_57 ?_
      exact z_iret C hr rfl dX7_daysIn_58 (Nat.le_of_ble_eq_true rfl) (Nat.le_of_ble_eq_true rfl) ⟨_, rfl, zRz.ok h0 (by simp only [zi, zt]; first | (rw [if_pos h39]; rfl) | (rw [if_neg h39])) hM rfl rfl hF⟩
    · refine z_aload_n (i := 0) C dX7_daysIn_42 rfl rfl ?_
      refine z_getf C f_RX7_96 dX7_daysIn_43 hM.1 rfl ?_
      refine z_aload_n (i := 0) C dX7_daysIn_46 rfl rfl ?_
      refine z_getf C f_RX7_52 dX7_daysIn_47 hM.1 rfl ?_
      refine z_iload_n (i := 1) C dX7_daysIn_50 rfl rfl ?_
      refine z_ialdW C dX7_daysIn_51 hM 19 (by decide) (by first | rfl | exact i15.1 | exact i1.1 | exact i11.1 | exact i23.1 | exact i6.1) (show _ < 30 by omega) ?_
      refine z_isub C dX7_daysIn_52 ?_
      refine z_goto (tgt := 57) C dX7_daysIn_53 (by decide) ?_
      refine z_iadd C dX7_daysIn_57 ?_
      exact z_iret C hr rfl dX7_daysIn_58 (Nat.le_of_ble_eq_true rfl) (Nat.le_of_ble_eq_true rfl) ⟨_, rfl, zRz.ok h0 (by simp only [zi, zt]; first | (rw [if_pos h39]; rfl) | (rw [if_neg h39])) hM rfl rfl hF⟩
  · refine z_iconst (v := 0) C dX7_daysIn_19 (by decide) ?_
    exact z_iret C hr rfl dX7_daysIn_20 (Nat.le_of_ble_eq_true rfl) (Nat.le_of_ble_eq_true rfl) ⟨_, rfl, zRz.no h0 hM hF⟩

def k_giveShare (x : Nat → Int32) (a : Nat → Nat → Int32) (i j t w : Int32) : Int32 := goC (isCha x i && (isSel x j && isSel x t)) (inB w 1 100 && ! decide (j = t)) ((isCha x i && (isSel x j && isSel x t)) && (opnB a (zN i) && decide (w ≤ a 21 (8 * zN i + zN j))))
set_option maxRecDepth 100000 in
set_option maxHeartbeats 4000000 in
theorem c_X7_giveShare {X : zX} (l : Launch) {x : Nat → Int32} {a : Nat → Nat → Int32} {σ : zHp} (hM : MD x a σ) (hI : zInv x a) {i j t w : Int32} : zM X l yX7_giveShare cX7_giveShare 7 (some .int) 2 0 0 [aR 12 0, aI i, aI j, aI t, aI w] σ (zPi (fun r9 σ1 => zRz (k_giveShare x a i j t w) (upd (upd (a 21) (8 * zN i + zN j) (a 21 (8 * zN i + zN j) - w)) (8 * zN i + zN t) (upd (a 21) (8 * zN i + zN j) (a 21 (8 * zN i + zN j) - w) (8 * zN i + zN t) + w) (8 * zN i + zN t)) (x) (ua (ua a 21 (upd (a 21) (8 * zN i + zN j) (a 21 (8 * zN i + zN j) - w))) 21 (upd (upd (a 21) (8 * zN i + zN j) (a 21 (8 * zN i + zN j) - w)) (8 * zN i + zN t) (upd (a 21) (8 * zN i + zN j) (a 21 (8 * zN i + zN j) - w) (8 * zN i + zN t) + w))) x a r9 σ σ1)) zNx := by
  obtain ⟨i0, i1, i6, i11, i15, i23, i24, i29, iA, iS, iC, iQ, iP⟩ := id hI
  have b1 := i1.2
  have b6 := i6.2
  have b11 := i11.2
  have b15 := i15.2
  have b23 := i23.2
  have b24 := i24.2
  have b29 := i29.2
  refine zM.of (by decide +kernel) (Nat.le_of_ble_eq_true rfl) (by simp [zcat, Value.category]) ?_
  intro p e s m args below meth c loc0 C hr hnm hT
  refine z_join (pc' := 29) (L' := [(0, aR 12 0), (1, aI i), (2, aI j), (3, aI t), (4, aI w)]) (st' := [aI (zb (isCha x i && (isSel x j && isSel x t)))]) (fun kk => ?_) ?_
  · refine z_aload_n (i := 0) C dX7_giveShare_0 rfl rfl ?_
    refine z_iload_n (i := 1) C dX7_giveShare_1 rfl rfl ?_
    refine z_callV C Y_X7_isChance V_X7_isChance ml_RX7_127 (c_X7_isChance l hM) dX7_giveShare_2 rfl rfl hM.1 ⟨_, _, rfl⟩ (fun _ => Nat.le_of_ble_eq_true rfl) ⟨Nat.le_of_ble_eq_true rfl, Nat.le_of_ble_eq_true rfl⟩ ⟨Nat.le_of_ble_eq_true rfl, Nat.le_of_ble_eq_true rfl⟩ (z_ri (fun x σ1 hx => ?_)) (z_nx)
    obtain ⟨rfl, rfl⟩ := hx
    refine z_if_eqB (tgt := 28) C dX7_giveShare_5 (by decide) (fun h5 => ?_) (fun h5 => ?_)
    · refine z_iconst (v := 0) C dX7_giveShare_28 (by decide) ?_
      exact z_subK (z_b0 (by simp only [h5, eq_self, decide_true, decide_false, Bool.and_true, Bool.true_and, Bool.and_false, Bool.false_and, Bool.or_true, Bool.true_or, Bool.or_false, Bool.false_or, Bool.not_true, Bool.not_false, not_true, not_false_eq_true, if_true, if_false]) kk) (zs1 rfl (zs1 rfl (zs1 rfl (zs1 rfl (zs1 rfl zs0)))))
    · refine z_aload_n (i := 0) C dX7_giveShare_8 rfl rfl ?_
      refine z_iload_n (i := 2) C dX7_giveShare_9 rfl rfl ?_
      refine z_callV C Y_X7_isSeller V_X7_isSeller ml_RX7_122 (c_X7_isSeller l hM) dX7_giveShare_10 rfl rfl hM.1 ⟨_, _, rfl⟩ (fun _ => Nat.le_of_ble_eq_true rfl) ⟨Nat.le_of_ble_eq_true rfl, Nat.le_of_ble_eq_true rfl⟩ ⟨Nat.le_of_ble_eq_true rfl, Nat.le_of_ble_eq_true rfl⟩ (z_ri (fun x σ1 hx => ?_)) (z_nx)
      obtain ⟨rfl, rfl⟩ := hx
      refine z_if_eqB (tgt := 28) C dX7_giveShare_13 (by decide) (fun h13 => ?_) (fun h13 => ?_)
      · refine z_iconst (v := 0) C dX7_giveShare_28 (by decide) ?_
        exact z_subK (z_b0 (by simp only [h5, h13, eq_self, decide_true, decide_false, Bool.and_true, Bool.true_and, Bool.and_false, Bool.false_and, Bool.or_true, Bool.true_or, Bool.or_false, Bool.false_or, Bool.not_true, Bool.not_false, not_true, not_false_eq_true, if_true, if_false]) kk) (zs1 rfl (zs1 rfl (zs1 rfl (zs1 rfl (zs1 rfl zs0)))))
      · refine z_aload_n (i := 0) C dX7_giveShare_16 rfl rfl ?_
        refine z_iload_n (i := 3) C dX7_giveShare_17 rfl rfl ?_
        refine z_callV C Y_X7_isSeller V_X7_isSeller ml_RX7_122 (c_X7_isSeller l hM) dX7_giveShare_18 rfl rfl hM.1 ⟨_, _, rfl⟩ (fun _ => Nat.le_of_ble_eq_true rfl) ⟨Nat.le_of_ble_eq_true rfl, Nat.le_of_ble_eq_true rfl⟩ ⟨Nat.le_of_ble_eq_true rfl, Nat.le_of_ble_eq_true rfl⟩ (z_ri (fun x σ1 hx => ?_)) (z_nx)
        obtain ⟨rfl, rfl⟩ := hx
        refine z_if_eqB (tgt := 28) C dX7_giveShare_21 (by decide) (fun h21 => ?_) (fun h21 => ?_)
        · refine z_iconst (v := 0) C dX7_giveShare_28 (by decide) ?_
          exact z_subK (z_b0 (by simp only [h5, h13, h21, eq_self, decide_true, decide_false, Bool.and_true, Bool.true_and, Bool.and_false, Bool.false_and, Bool.or_true, Bool.true_or, Bool.or_false, Bool.false_or, Bool.not_true, Bool.not_false, not_true, not_false_eq_true, if_true, if_false]) kk) (zs1 rfl (zs1 rfl (zs1 rfl (zs1 rfl (zs1 rfl zs0)))))
        · refine z_iconst (v := 1) C dX7_giveShare_24 (by decide) ?_
          refine z_goto (tgt := 29) C dX7_giveShare_25 (by decide) ?_
          exact z_subK (z_b1 (by simp only [h5, h13, h21, eq_self, decide_true, decide_false, Bool.and_true, Bool.true_and, Bool.and_false, Bool.false_and, Bool.or_true, Bool.true_or, Bool.or_false, Bool.false_or, Bool.not_true, Bool.not_false, not_true, not_false_eq_true, if_true, if_false]) kk) (zs1 rfl (zs1 rfl (zs1 rfl (zs1 rfl (zs1 rfl zs0)))))
  refine z_istore C dX7_giveShare_29 (by decide) ?_
  refine z_join (pc' := 65) (L' := [(0, aR 12 0), (1, aI i), (2, aI j), (3, aI t), (4, aI w), (5, aI (zb (isCha x i && (isSel x j && isSel x t))))]) (st' := [aI (zb ((isCha x i && (isSel x j && isSel x t)) && (opnB a (zN i) && decide (w ≤ a 21 (8 * zN i + zN j)))))]) (fun kk => ?_) ?_
  · refine z_iload C dX7_giveShare_31 rfl ?_
    refine z_if_eqB (tgt := 64) C dX7_giveShare_33 (by decide) (fun h33 => ?_) (fun h33 => ?_)
    · refine z_iconst (v := 0) C dX7_giveShare_64 (by decide) ?_
      exact z_subK (z_b0 (by simp only [h33, eq_self, decide_true, decide_false, Bool.and_true, Bool.true_and, Bool.and_false, Bool.false_and, Bool.or_true, Bool.true_or, Bool.or_false, Bool.false_or, Bool.not_true, Bool.not_false, not_true, not_false_eq_true, if_true, if_false]) kk) (zs1 rfl (zs1 rfl (zs1 rfl (zs1 rfl (zs1 rfl (zs1 rfl zs0))))))
    · obtain ⟨qa, qb⟩ := bAnd h33
      obtain ⟨qb, qc⟩ := bAnd qb
      obtain ⟨i, hi, rfl⟩ := inB_ix i15 (by decide) qa
      have zi : zN (nI i) = i := zN_nI (by omega)
      obtain ⟨j, hj, rfl⟩ := inB_ix i11 (by decide) qb
      have zj : zN (nI j) = j := zN_nI (by omega)
      refine z_aload_n (i := 0) C dX7_giveShare_36 rfl rfl ?_
      refine z_iload_n (i := 1) C dX7_giveShare_37 rfl rfl ?_
      refine z_callV C Y_X7_isOpen V_X7_isOpen ml_RX7_130 (c_X7_isOpen l hM (by omega)) dX7_giveShare_38 rfl rfl hM.1 ⟨_, _, rfl⟩ (fun _ => Nat.le_of_ble_eq_true rfl) ⟨Nat.le_of_ble_eq_true rfl, Nat.le_of_ble_eq_true rfl⟩ ⟨Nat.le_of_ble_eq_true rfl, Nat.le_of_ble_eq_true rfl⟩ (z_ri (fun x σ1 hx => ?_)) (z_nx)
      obtain ⟨rfl, rfl⟩ := hx
      refine z_if_eqB (tgt := 64) C dX7_giveShare_41 (by decide) (fun h41 => ?_) (fun h41 => ?_)
      · refine z_iconst (v := 0) C dX7_giveShare_64 (by decide) ?_
        exact z_subK (z_b0 (by simp only [h33, zi, zj, h41, eq_self, decide_true, decide_false, Bool.and_true, Bool.true_and, Bool.and_false, Bool.false_and, Bool.or_true, Bool.true_or, Bool.or_false, Bool.false_or, Bool.not_true, Bool.not_false, not_true, not_false_eq_true, if_true, if_false]) kk) (zs1 rfl (zs1 rfl (zs1 rfl (zs1 rfl (zs1 rfl (zs1 rfl zs0))))))
      · refine z_aload_n (i := 0) C dX7_giveShare_44 rfl rfl ?_
        refine z_getf C f_RX7_58 dX7_giveShare_45 hM.1 rfl ?_
        refine z_bipush (v := 8) C dX7_giveShare_48 (by decide) ?_
        refine z_iload_n (i := 1) C dX7_giveShare_50 rfl rfl ?_
        refine z_imul C dX7_giveShare_51 ?_
        refine z_iload_n (i := 2) C dX7_giveShare_52 rfl rfl ?_
        refine z_iadd C dX7_giveShare_53 ?_
        rw [nI_lin8 i j]
        refine z_ialdW C dX7_giveShare_54 hM 21 (by decide) (by first | rfl | exact i15.1 | exact i1.1 | exact i11.1 | exact i23.1 | exact i6.1) (show _ < 240 by omega) ?_
        refine z_iload C dX7_giveShare_55 rfl ?_
        refine z_icmp_lt (tgt := 64) C dX7_giveShare_57 (by decide) (fun h57 => ?_) (fun h57 => ?_)
        · have g57 := Int32.not_le.mpr h57
          refine z_iconst (v := 0) C dX7_giveShare_64 (by decide) ?_
          exact z_subK (z_b0 (by simp only [h33, zi, zj, h41, h57, g57, eq_self, decide_true, decide_false, Bool.and_true, Bool.true_and, Bool.and_false, Bool.false_and, Bool.or_true, Bool.true_or, Bool.or_false, Bool.false_or, Bool.not_true, Bool.not_false, not_true, not_false_eq_true, if_true, if_false]) kk) (zs1 rfl (zs1 rfl (zs1 rfl (zs1 rfl (zs1 rfl (zs1 rfl zs0))))))
        · have g57 := Int32.not_lt.mp h57
          refine z_iconst (v := 1) C dX7_giveShare_60 (by decide) ?_
          refine z_goto (tgt := 65) C dX7_giveShare_61 (by decide) ?_
          exact z_subK (z_b1 (by simp only [h33, zi, zj, h41, h57, g57, eq_self, decide_true, decide_false, Bool.and_true, Bool.true_and, Bool.and_false, Bool.false_and, Bool.or_true, Bool.true_or, Bool.or_false, Bool.false_or, Bool.not_true, Bool.not_false, not_true, not_false_eq_true, if_true, if_false]) kk) (zs1 rfl (zs1 rfl (zs1 rfl (zs1 rfl (zs1 rfl (zs1 rfl zs0))))))
  refine z_istore C dX7_giveShare_65 (by decide) ?_
  refine z_aload_n (i := 0) C dX7_giveShare_67 rfl rfl ?_
  refine z_iload C dX7_giveShare_68 rfl ?_
  refine z_join (pc' := 91) (L' := [(0, aR 12 0), (1, aI i), (2, aI j), (3, aI t), (4, aI w), (5, aI (zb (isCha x i && (isSel x j && isSel x t)))), (6, aI (zb ((isCha x i && (isSel x j && isSel x t)) && (opnB a (zN i) && decide (w ≤ a 21 (8 * zN i + zN j))))))]) (st' := [aI (zb (inB w 1 100 && ! decide (j = t))), aI (zb (isCha x i && (isSel x j && isSel x t))), aR 12 0]) (fun kk => ?_) ?_
  · refine z_iload C dX7_giveShare_70 rfl ?_
    refine z_iconst (v := 1) C dX7_giveShare_72 (by decide) ?_
    refine z_bipush (v := 100) C dX7_giveShare_73 (by decide) ?_
    refine z_callS C Y_X7_in sm_yX7_in ml_RX7_86 (c_X7_in l) dX7_giveShare_75 rfl rfl (fun _ => Nat.le_of_ble_eq_true rfl) ⟨Nat.le_of_ble_eq_true rfl, Nat.le_of_ble_eq_true rfl⟩ ⟨Nat.le_of_ble_eq_true rfl, Nat.le_of_ble_eq_true rfl⟩ (z_ri (fun x σ1 hx => ?_)) (z_nx)
    obtain ⟨rfl, rfl⟩ := hx
    refine z_if_eqB (tgt := 90) C dX7_giveShare_78 (by decide) (fun h78 => ?_) (fun h78 => ?_)
    · refine z_iconst (v := 0) C dX7_giveShare_90 (by decide) ?_
      exact z_subK (z_b0 (by simp only [h78, eq_self, decide_true, decide_false, Bool.and_true, Bool.true_and, Bool.and_false, Bool.false_and, Bool.or_true, Bool.true_or, Bool.or_false, Bool.false_or, Bool.not_true, Bool.not_false, not_true, not_false_eq_true, if_true, if_false]) kk) (zs1 rfl (zs1 rfl (zs1 rfl (zs1 rfl (zs1 rfl (zs1 rfl (zs1 rfl zs0)))))))
    · refine z_iload_n (i := 2) C dX7_giveShare_81 rfl rfl ?_
      refine z_iload_n (i := 3) C dX7_giveShare_82 rfl rfl ?_
      refine z_icmp_eq (tgt := 90) C dX7_giveShare_83 (by decide) (fun h83 => ?_) (fun h83 => ?_)
      · refine z_iconst (v := 0) C dX7_giveShare_90 (by decide) ?_
        exact z_subK (z_b0 (by simp only [h78, h83, eq_self, decide_true, decide_false, Bool.and_true, Bool.true_and, Bool.and_false, Bool.false_and, Bool.or_true, Bool.true_or, Bool.or_false, Bool.false_or, Bool.not_true, Bool.not_false, not_true, not_false_eq_true, if_true, if_false]) kk) (zs1 rfl (zs1 rfl (zs1 rfl (zs1 rfl (zs1 rfl (zs1 rfl (zs1 rfl zs0)))))))
      · refine z_iconst (v := 1) C dX7_giveShare_86 (by decide) ?_
        refine z_goto (tgt := 91) C dX7_giveShare_87 (by decide) ?_
        exact z_subK (z_b1 (by simp only [h78, h83, eq_self, decide_true, decide_false, Bool.and_true, Bool.true_and, Bool.and_false, Bool.false_and, Bool.or_true, Bool.true_or, Bool.or_false, Bool.false_or, Bool.not_true, Bool.not_false, not_true, not_false_eq_true, if_true, if_false]) kk) (zs1 rfl (zs1 rfl (zs1 rfl (zs1 rfl (zs1 rfl (zs1 rfl (zs1 rfl zs0)))))))
  refine z_iload C dX7_giveShare_91 rfl ?_
  refine z_callV C Y_X7_goes V_X7_goes ml_RX7_100 (c_X7_goes l hM (p1 := isCha x i && (isSel x j && isSel x t)) (p2 := inB w 1 100 && ! decide (j = t)) (p3 := (isCha x i && (isSel x j && isSel x t)) && (opnB a (zN i) && decide (w ≤ a 21 (8 * zN i + zN j))))) dX7_giveShare_93 rfl rfl hM.1 ⟨_, _, rfl⟩ (fun _ => Nat.le_of_ble_eq_true rfl) ⟨Nat.le_of_ble_eq_true rfl, Nat.le_of_ble_eq_true rfl⟩ ⟨Nat.le_of_ble_eq_true rfl, Nat.le_of_ble_eq_true rfl⟩ (z_ri (fun x σ1 hx => ?_)) (z_nx)
  obtain ⟨rfl, hM, hF⟩ := hx
  refine z_if_neB (tgt := 101) C dX7_giveShare_96 (by decide) (fun h0 => ?_) (fun h0 => ?_)
  · have h1 := of_decide_eq_true h0
    rw [h1] at hM
    obtain ⟨q1, q2, q3⟩ := goC_0.mp h1
    replace h0 : k_giveShare x a i j t w = 0 := h1
    obtain ⟨qa, qb⟩ := bAnd q1
    obtain ⟨qb, qc⟩ := bAnd qb
    obtain ⟨i, hi, rfl⟩ := inB_ix i15 (by decide) qa
    have zi : zN (nI i) = i := zN_nI (by omega)
    obtain ⟨j, hj, rfl⟩ := inB_ix i11 (by decide) qb
    have zj : zN (nI j) = j := zN_nI (by omega)
    obtain ⟨t, ht, rfl⟩ := inB_ix i11 (by decide) qc
    have zt : zN (nI t) = t := zN_nI (by omega)
    refine z_aload_n (i := 0) C dX7_giveShare_101 rfl rfl ?_
    refine z_getf C f_RX7_58 dX7_giveShare_102 hM.1 rfl ?_
    refine z_bipush (v := 8) C dX7_giveShare_105 (by decide) ?_
    refine z_iload_n (i := 1) C dX7_giveShare_107 rfl rfl ?_
    refine z_imul C dX7_giveShare_108 ?_
    refine z_iload_n (i := 2) C dX7_giveShare_109 rfl rfl ?_
    refine z_iadd C dX7_giveShare_110 ?_
    rw [nI_lin8 i j]
    refine z_dup2 C (by first | trivial | rfl) (by first | trivial | rfl) dX7_giveShare_111 ?_
    refine z_ialdW C dX7_giveShare_112 hM 21 (by decide) (by first | rfl | exact i15.1 | exact i1.1 | exact i11.1 | exact i23.1 | exact i6.1) (show _ < 240 by omega) ?_
    refine z_iload C dX7_giveShare_113 rfl ?_
    refine z_isub C dX7_giveShare_115 ?_
    refine z_iastW C dX7_giveShare_116 hM 21 (by decide) (by first | rfl | exact i15.1 | exact i1.1 | exact i11.1 | exact i23.1 | exact i6.1) (show _ < 240 by omega) (fun σ hM hF9 => ?_)
    replace hF := hF.tr hF9
    refine z_aload_n (i := 0) C dX7_giveShare_117 rfl rfl ?_
    refine z_getf C f_RX7_58 dX7_giveShare_118 hM.1 rfl ?_
    refine z_bipush (v := 8) C dX7_giveShare_121 (by decide) ?_
    refine z_iload_n (i := 1) C dX7_giveShare_123 rfl rfl ?_
    refine z_imul C dX7_giveShare_124 ?_
    refine z_iload_n (i := 3) C dX7_giveShare_125 rfl rfl ?_
    refine z_iadd C dX7_giveShare_126 ?_
    rw [nI_lin8 i t]
    refine z_dup2 C (by first | trivial | rfl) (by first | trivial | rfl) dX7_giveShare_127 ?_
    refine z_ialdW C dX7_giveShare_128 hM 21 (by decide) (by first | rfl | exact i15.1 | exact i1.1 | exact i11.1 | exact i23.1 | exact i6.1) (show _ < 240 by omega) ?_
    refine z_iload C dX7_giveShare_129 rfl ?_
    refine z_iadd C dX7_giveShare_131 ?_
    refine z_iastW C dX7_giveShare_132 hM 21 (by decide) (by first | rfl | exact i15.1 | exact i1.1 | exact i11.1 | exact i23.1 | exact i6.1) (show _ < 240 by omega) (fun σ hM hF9 => ?_)
    replace hF := hF.tr hF9
    refine z_aload_n (i := 0) C dX7_giveShare_133 rfl rfl ?_
    refine z_getf C f_RX7_58 dX7_giveShare_134 hM.1 rfl ?_
    refine z_bipush (v := 8) C dX7_giveShare_137 (by decide) ?_
    refine z_iload_n (i := 1) C dX7_giveShare_139 rfl rfl ?_
    refine z_imul C dX7_giveShare_140 ?_
    refine z_iload_n (i := 3) C dX7_giveShare_141 rfl rfl ?_
    refine z_iadd C dX7_giveShare_142 ?_
    rw [nI_lin8 i t]
    refine z_ialdW C dX7_giveShare_143 hM 21 (by decide) (by first | rfl | exact i15.1 | exact i1.1 | exact i11.1 | exact i23.1 | exact i6.1) (show _ < 240 by omega) ?_
    exact z_iret C hr rfl dX7_giveShare_144 (Nat.le_of_ble_eq_true rfl) (Nat.le_of_ble_eq_true rfl) ⟨_, rfl, zRz.ok h0 (by first | rfl | (simp only [zi, zj, zt]; done) | (simp only [zi, zj, zt]; rfl)) hM rfl (by first | rfl | (simp only [zi, zj, zt]; done) | (simp only [zi, zj, zt]; rfl)) hF⟩
  · refine z_iconst (v := 0) C dX7_giveShare_99 (by decide) ?_
    exact z_iret C hr rfl dX7_giveShare_100 (Nat.le_of_ble_eq_true rfl) (Nat.le_of_ble_eq_true rfl) ⟨_, rfl, zRz.no h0 hM hF⟩

def k_quote (x : Nat → Int32) (a : Nat → Nat → Int32) (i j w : Int32) : Int32 := goC (isCha x i && isSel x j) (inB w 0 99) ((isCha x i && isSel x j) && (opnB a (zN i) && decide (x 23 < 40)))
set_option maxRecDepth 100000 in
set_option maxHeartbeats 4000000 in
theorem c_X7_quote {X : zX} (l : Launch) {x : Nat → Int32} {a : Nat → Nat → Int32} {σ : zHp} (hM : MD x a σ) (hI : zInv x a) {i j w : Int32} : zM X l yX7_quote cX7_quote 5 (some .int) 2 0 0 [aR 12 0, aI i, aI j, aI w] σ (zPi (fun r9 σ1 => zRz (k_quote x a i j w) (x 23) (if w ≤ a 13 (zN j) then upd (upd x 23 (x 23 + 1)) 24 (x 24 + 1) else upd x 23 (x 23 + 1)) (if w ≤ a 13 (zN j) then ua (ua (ua (ua a 25 (upd (a 25) (zN (x 23)) i)) 26 (upd (a 26) (zN (x 23)) j)) 27 (upd (a 27) (zN (x 23)) w)) 28 (upd (a 28) (zN (x 23)) (x 24 + 1)) else (ua (ua (ua a 25 (upd (a 25) (zN (x 23)) i)) 26 (upd (a 26) (zN (x 23)) j)) 27 (upd (a 27) (zN (x 23)) w))) x a r9 σ σ1)) zNx := by
  obtain ⟨i0, i1, i6, i11, i15, i23, i24, i29, iA, iS, iC, iQ, iP⟩ := id hI
  have b1 := i1.2
  have b6 := i6.2
  have b11 := i11.2
  have b15 := i15.2
  have b23 := i23.2
  have b24 := i24.2
  have b29 := i29.2
  refine zM.of (by decide +kernel) (Nat.le_of_ble_eq_true rfl) (by simp [zcat, Value.category]) ?_
  intro p e s m args below meth c loc0 C hr hnm hT
  refine z_join (pc' := 21) (L' := [(0, aR 12 0), (1, aI i), (2, aI j), (3, aI w)]) (st' := [aI (zb (isCha x i && isSel x j))]) (fun kk => ?_) ?_
  · refine z_aload_n (i := 0) C dX7_quote_0 rfl rfl ?_
    refine z_iload_n (i := 1) C dX7_quote_1 rfl rfl ?_
    refine z_callV C Y_X7_isChance V_X7_isChance ml_RX7_127 (c_X7_isChance l hM) dX7_quote_2 rfl rfl hM.1 ⟨_, _, rfl⟩ (fun _ => Nat.le_of_ble_eq_true rfl) ⟨Nat.le_of_ble_eq_true rfl, Nat.le_of_ble_eq_true rfl⟩ ⟨Nat.le_of_ble_eq_true rfl, Nat.le_of_ble_eq_true rfl⟩ (z_ri (fun x σ1 hx => ?_)) (z_nx)
    obtain ⟨rfl, rfl⟩ := hx
    refine z_if_eqB (tgt := 20) C dX7_quote_5 (by decide) (fun h5 => ?_) (fun h5 => ?_)
    · refine z_iconst (v := 0) C dX7_quote_20 (by decide) ?_
      exact z_subK (z_b0 (by simp only [h5, eq_self, decide_true, decide_false, Bool.and_true, Bool.true_and, Bool.and_false, Bool.false_and, Bool.or_true, Bool.true_or, Bool.or_false, Bool.false_or, Bool.not_true, Bool.not_false, not_true, not_false_eq_true, if_true, if_false]) kk) (zs1 rfl (zs1 rfl (zs1 rfl (zs1 rfl zs0))))
    · refine z_aload_n (i := 0) C dX7_quote_8 rfl rfl ?_
      refine z_iload_n (i := 2) C dX7_quote_9 rfl rfl ?_
      refine z_callV C Y_X7_isSeller V_X7_isSeller ml_RX7_122 (c_X7_isSeller l hM) dX7_quote_10 rfl rfl hM.1 ⟨_, _, rfl⟩ (fun _ => Nat.le_of_ble_eq_true rfl) ⟨Nat.le_of_ble_eq_true rfl, Nat.le_of_ble_eq_true rfl⟩ ⟨Nat.le_of_ble_eq_true rfl, Nat.le_of_ble_eq_true rfl⟩ (z_ri (fun x σ1 hx => ?_)) (z_nx)
      obtain ⟨rfl, rfl⟩ := hx
      refine z_if_eqB (tgt := 20) C dX7_quote_13 (by decide) (fun h13 => ?_) (fun h13 => ?_)
      · refine z_iconst (v := 0) C dX7_quote_20 (by decide) ?_
        exact z_subK (z_b0 (by simp only [h5, h13, eq_self, decide_true, decide_false, Bool.and_true, Bool.true_and, Bool.and_false, Bool.false_and, Bool.or_true, Bool.true_or, Bool.or_false, Bool.false_or, Bool.not_true, Bool.not_false, not_true, not_false_eq_true, if_true, if_false]) kk) (zs1 rfl (zs1 rfl (zs1 rfl (zs1 rfl zs0))))
      · refine z_iconst (v := 1) C dX7_quote_16 (by decide) ?_
        refine z_goto (tgt := 21) C dX7_quote_17 (by decide) ?_
        exact z_subK (z_b1 (by simp only [h5, h13, eq_self, decide_true, decide_false, Bool.and_true, Bool.true_and, Bool.and_false, Bool.false_and, Bool.or_true, Bool.true_or, Bool.or_false, Bool.false_or, Bool.not_true, Bool.not_false, not_true, not_false_eq_true, if_true, if_false]) kk) (zs1 rfl (zs1 rfl (zs1 rfl (zs1 rfl zs0))))
  refine z_istore C dX7_quote_21 (by decide) ?_
  refine z_aload_n (i := 0) C dX7_quote_23 rfl rfl ?_
  refine z_iload C dX7_quote_24 rfl ?_
  refine z_iload_n (i := 3) C dX7_quote_26 rfl rfl ?_
  refine z_iconst (v := 0) C dX7_quote_27 (by decide) ?_
  refine z_bipush (v := 99) C dX7_quote_28 (by decide) ?_
  refine z_callS C Y_X7_in sm_yX7_in ml_RX7_86 (c_X7_in l) dX7_quote_30 rfl rfl (fun _ => Nat.le_of_ble_eq_true rfl) ⟨Nat.le_of_ble_eq_true rfl, Nat.le_of_ble_eq_true rfl⟩ ⟨Nat.le_of_ble_eq_true rfl, Nat.le_of_ble_eq_true rfl⟩ (z_ri (fun x σ1 hx => ?_)) (z_nx)
  obtain ⟨rfl, rfl⟩ := hx
  refine z_join (pc' := 60) (L' := [(0, aR 12 0), (1, aI i), (2, aI j), (3, aI w), (4, aI (zb (isCha x i && isSel x j)))]) (st' := [aI (zb ((isCha x i && isSel x j) && (opnB a (zN i) && decide (x 23 < 40)))), aI (zb (inB w 0 99)), aI (zb (isCha x i && isSel x j)), aR 12 0]) (fun kk => ?_) ?_
  · refine z_iload C dX7_quote_33 rfl ?_
    refine z_if_eqB (tgt := 59) C dX7_quote_35 (by decide) (fun h35 => ?_) (fun h35 => ?_)
    · refine z_iconst (v := 0) C dX7_quote_59 (by decide) ?_
      exact z_subK (z_b0 (by simp only [h35, eq_self, decide_true, decide_false, Bool.and_true, Bool.true_and, Bool.and_false, Bool.false_and, Bool.or_true, Bool.true_or, Bool.or_false, Bool.false_or, Bool.not_true, Bool.not_false, not_true, not_false_eq_true, if_true, if_false]) kk) (zs1 rfl (zs1 rfl (zs1 rfl (zs1 rfl (zs1 rfl zs0)))))
    · obtain ⟨qa, qb⟩ := bAnd h35
      obtain ⟨i, hi, rfl⟩ := inB_ix i15 (by decide) qa
      have zi : zN (nI i) = i := zN_nI (by omega)
      obtain ⟨j, hj, rfl⟩ := inB_ix i11 (by decide) qb
      have zj : zN (nI j) = j := zN_nI (by omega)
      refine z_aload_n (i := 0) C dX7_quote_38 rfl rfl ?_
      refine z_iload_n (i := 1) C dX7_quote_39 rfl rfl ?_
      refine z_callV C Y_X7_isOpen V_X7_isOpen ml_RX7_130 (c_X7_isOpen l hM (by omega)) dX7_quote_40 rfl rfl hM.1 ⟨_, _, rfl⟩ (fun _ => Nat.le_of_ble_eq_true rfl) ⟨Nat.le_of_ble_eq_true rfl, Nat.le_of_ble_eq_true rfl⟩ ⟨Nat.le_of_ble_eq_true rfl, Nat.le_of_ble_eq_true rfl⟩ (z_ri (fun x σ1 hx => ?_)) (z_nx)
      obtain ⟨rfl, rfl⟩ := hx
      refine z_if_eqB (tgt := 59) C dX7_quote_43 (by decide) (fun h43 => ?_) (fun h43 => ?_)
      · refine z_iconst (v := 0) C dX7_quote_59 (by decide) ?_
        exact z_subK (z_b0 (by simp only [h35, zi, zj, h43, eq_self, decide_true, decide_false, Bool.and_true, Bool.true_and, Bool.and_false, Bool.false_and, Bool.or_true, Bool.true_or, Bool.or_false, Bool.false_or, Bool.not_true, Bool.not_false, not_true, not_false_eq_true, if_true, if_false]) kk) (zs1 rfl (zs1 rfl (zs1 rfl (zs1 rfl (zs1 rfl zs0)))))
      · refine z_aload_n (i := 0) C dX7_quote_46 rfl rfl ?_
        refine z_getf C f_RX7_133 dX7_quote_47 hM.1 rfl ?_
        refine z_bipush (v := 40) C dX7_quote_50 (by decide) ?_
        refine z_icmp_ge (tgt := 59) C dX7_quote_52 (by decide) (fun h52 => ?_) (fun h52 => ?_)
        · have g52 := Int32.not_lt.mpr h52
          refine z_iconst (v := 0) C dX7_quote_59 (by decide) ?_
          exact z_subK (z_b0 (by simp only [h35, zi, zj, h43, h52, g52, eq_self, decide_true, decide_false, Bool.and_true, Bool.true_and, Bool.and_false, Bool.false_and, Bool.or_true, Bool.true_or, Bool.or_false, Bool.false_or, Bool.not_true, Bool.not_false, not_true, not_false_eq_true, if_true, if_false]) kk) (zs1 rfl (zs1 rfl (zs1 rfl (zs1 rfl (zs1 rfl zs0)))))
        · have g52 := Int32.not_le.mp h52
          refine z_iconst (v := 1) C dX7_quote_55 (by decide) ?_
          refine z_goto (tgt := 60) C dX7_quote_56 (by decide) ?_
          exact z_subK (z_b1 (by simp only [h35, zi, zj, h43, h52, g52, eq_self, decide_true, decide_false, Bool.and_true, Bool.true_and, Bool.and_false, Bool.false_and, Bool.or_true, Bool.true_or, Bool.or_false, Bool.false_or, Bool.not_true, Bool.not_false, not_true, not_false_eq_true, if_true, if_false]) kk) (zs1 rfl (zs1 rfl (zs1 rfl (zs1 rfl (zs1 rfl zs0)))))
  refine z_callV C Y_X7_goes V_X7_goes ml_RX7_100 (c_X7_goes l hM (p1 := isCha x i && isSel x j) (p2 := inB w 0 99) (p3 := (isCha x i && isSel x j) && (opnB a (zN i) && decide (x 23 < 40)))) dX7_quote_60 rfl rfl hM.1 ⟨_, _, rfl⟩ (fun _ => Nat.le_of_ble_eq_true rfl) ⟨Nat.le_of_ble_eq_true rfl, Nat.le_of_ble_eq_true rfl⟩ ⟨Nat.le_of_ble_eq_true rfl, Nat.le_of_ble_eq_true rfl⟩ (z_ri (fun x σ1 hx => ?_)) (z_nx)
  obtain ⟨rfl, hM, hF⟩ := hx
  refine z_if_neB (tgt := 68) C dX7_quote_63 (by decide) (fun h0 => ?_) (fun h0 => ?_)
  · have h1 := of_decide_eq_true h0
    rw [h1] at hM
    obtain ⟨q1, q2, q3⟩ := goC_0.mp h1
    replace h0 : k_quote x a i j w = 0 := h1
    obtain ⟨-, q4⟩ := bAnd q3
    obtain ⟨-, q5⟩ := bAnd q4
    have hn : zN (x 23) < 40 := zN_lt i23 (by decide) (of_decide_eq_true q5)
    obtain ⟨qa, qb⟩ := bAnd q1
    obtain ⟨i, hi, rfl⟩ := inB_ix i15 (by decide) qa
    have zi : zN (nI i) = i := zN_nI (by omega)
    obtain ⟨j, hj, rfl⟩ := inB_ix i11 (by decide) qb
    have zj : zN (nI j) = j := zN_nI (by omega)
    refine z_aload_n (i := 0) C dX7_quote_68 rfl rfl ?_
    refine z_getf C f_RX7_64 dX7_quote_69 hM.1 rfl ?_
    refine z_aload_n (i := 0) C dX7_quote_72 rfl rfl ?_
    refine z_getf C f_RX7_133 dX7_quote_73 hM.1 rfl ?_
    refine z_iload_n (i := 1) C dX7_quote_76 rfl rfl ?_
    refine z_iastW C dX7_quote_77 hM 25 (by decide) (by first | rfl | exact i15.1 | exact i1.1 | exact i11.1 | exact i23.1 | exact i6.1) (show _ < 40 by omega) (fun σ hM hF9 => ?_)
    replace hF := hF.tr hF9
    refine z_aload_n (i := 0) C dX7_quote_78 rfl rfl ?_
    refine z_getf C f_RX7_67 dX7_quote_79 hM.1 rfl ?_
    refine z_aload_n (i := 0) C dX7_quote_82 rfl rfl ?_
    refine z_getf C f_RX7_133 dX7_quote_83 hM.1 rfl ?_
    refine z_iload_n (i := 2) C dX7_quote_86 rfl rfl ?_
    refine z_iastW C dX7_quote_87 hM 26 (by decide) (by first | rfl | exact i15.1 | exact i1.1 | exact i11.1 | exact i23.1 | exact i6.1) (show _ < 40 by omega) (fun σ hM hF9 => ?_)
    replace hF := hF.tr hF9
    refine z_aload_n (i := 0) C dX7_quote_88 rfl rfl ?_
    refine z_getf C f_RX7_70 dX7_quote_89 hM.1 rfl ?_
    refine z_aload_n (i := 0) C dX7_quote_92 rfl rfl ?_
    refine z_getf C f_RX7_133 dX7_quote_93 hM.1 rfl ?_
    refine z_iload_n (i := 3) C dX7_quote_96 rfl rfl ?_
    refine z_iastW C dX7_quote_97 hM 27 (by decide) (by first | rfl | exact i15.1 | exact i1.1 | exact i11.1 | exact i23.1 | exact i6.1) (show _ < 40 by omega) (fun σ hM hF9 => ?_)
    replace hF := hF.tr hF9
    refine z_aload_n (i := 0) C dX7_quote_98 rfl rfl ?_
    refine z_dup C (by first | trivial | rfl) dX7_quote_99 ?_
    refine z_getf C f_RX7_133 dX7_quote_100 hM.1 rfl ?_
    refine z_iconst (v := 1) C dX7_quote_103 (by decide) ?_
    refine z_iadd C dX7_quote_104 ?_
    refine z_putM (j := 23) C fp_RX7_133 dX7_quote_105 hM (by decide) (by decide) (fun σ hM hF9 => ?_)
    replace hF := hF.tr hF9
    refine z_iload_n (i := 3) C dX7_quote_108 rfl rfl ?_
    refine z_aload_n (i := 0) C dX7_quote_109 rfl rfl ?_
    refine z_getf C f_RX7_37 dX7_quote_110 hM.1 rfl ?_
    refine z_iload_n (i := 2) C dX7_quote_113 rfl rfl ?_
    refine z_ialdW C dX7_quote_114 hM 13 (by decide) (by first | rfl | exact i15.1 | exact i1.1 | exact i11.1 | exact i23.1 | exact i6.1) (show _ < 8 by omega) ?_
    refine z_icmp_gt (tgt := 128) C dX7_quote_115 (by decide) (fun h115 => ?_) (fun h115 => ?_)
    · have g115 := Int32.not_le.mpr h115
      refine z_aload_n (i := 0) C dX7_quote_128 rfl rfl ?_
      refine z_getf C f_RX7_133 dX7_quote_129 hM.1 rfl ?_
      refine z_iconst (v := 1) C dX7_quote_132 (by decide) ?_
      refine z_isub C dX7_quote_133 ?_
      exact z_iret C hr rfl dX7_quote_134 (Nat.le_of_ble_eq_true rfl) (Nat.le_of_ble_eq_true rfl) ⟨_, rfl, zRz.ok h0 (Int32.add_sub_cancel _ _) hM (by have g9 : ¬ w ≤ a 13 j := g115; simp only [zj, if_neg g9]; first | done | rfl) (by have g9 : ¬ w ≤ a 13 j := g115; simp only [zj, if_neg g9]; first | done | rfl) hF⟩
    · have g115 := Int32.not_lt.mp h115
      refine z_aload_n (i := 0) C dX7_quote_118 rfl rfl ?_
      refine z_aload_n (i := 0) C dX7_quote_119 rfl rfl ?_
      refine z_getf C f_RX7_133 dX7_quote_120 hM.1 rfl ?_
      refine z_iconst (v := 1) C dX7_quote_123 (by decide) ?_
      refine z_isub C dX7_quote_124 ?_
      refine z_top (w := nI (zN (x 23))) (by show x 23 + 1 - 1 = _; rw [Int32.add_sub_cancel]; exact i23.1) ?_
      refine z_callV C Y_X7_approves V_X7_approves ml_RX7_149 (c_X7_approves l hM (by omega)) dX7_quote_125 rfl rfl hM.1 ⟨_, _, rfl⟩ (fun _ => Nat.le_of_ble_eq_true rfl) ⟨Nat.le_of_ble_eq_true rfl, Nat.le_of_ble_eq_true rfl⟩ ⟨Nat.le_of_ble_eq_true rfl, Nat.le_of_ble_eq_true rfl⟩ (z_rv (fun σ1 hx => ?_)) (z_nx)
      obtain ⟨hM, hF9⟩ := hx
      replace hF := hF.tr hF9
      refine z_aload_n (i := 0) C dX7_quote_128 rfl rfl ?_
      refine z_getf C f_RX7_133 dX7_quote_129 hM.1 rfl ?_
      refine z_iconst (v := 1) C dX7_quote_132 (by decide) ?_
      refine z_isub C dX7_quote_133 ?_
      exact z_iret C hr rfl dX7_quote_134 (Nat.le_of_ble_eq_true rfl) (Nat.le_of_ble_eq_true rfl) ⟨_, rfl, zRz.ok h0 (Int32.add_sub_cancel _ _) hM (by have g9 : w ≤ a 13 j := g115; simp only [zj, if_pos g9]; rfl) (by have g9 : w ≤ a 13 j := g115; simp only [zj, if_pos g9]; rfl) hF⟩
  · refine z_iconst (v := 0) C dX7_quote_66 (by decide) ?_
    exact z_iret C hr rfl dX7_quote_67 (Nat.le_of_ble_eq_true rfl) (Nat.le_of_ble_eq_true rfl) ⟨_, rfl, zRz.no h0 hM hF⟩

def k_approve (x : Nat → Int32) (a : Nat → Nat → Int32) (i j : Int32) : Int32 := goC (inB i 0 (x 23 - 1) && isSel x j) ((inB i 0 (x 23 - 1) && isSel x j) && (decide (a 28 (zN i) = 0) && (opnB a (zN (a 25 (zN i))) && (abvB a j (zN (a 26 (zN i))) && decide (a 27 (zN i) ≤ a 13 (zN j)))))) (true)
set_option maxRecDepth 100000 in
set_option maxHeartbeats 4000000 in
theorem c_X7_approve {X : zX} (l : Launch) {x : Nat → Int32} {a : Nat → Nat → Int32} {σ : zHp} (hM : MD x a σ) (hI : zInv x a) {i j : Int32} : zM X l yX7_approve cX7_approve 5 none 2 0 0 [aR 12 0, aI i, aI j] σ (zPv (fun σ1 => zRz (k_approve x a i j) (0) (upd x 24 (x 24 + 1)) (ua a 28 (upd (a 28) (zN i) (x 24 + 1))) x a 0 σ σ1)) zNx := by
  obtain ⟨i0, i1, i6, i11, i15, i23, i24, i29, iA, iS, iC, iQ, iP⟩ := id hI
  have b1 := i1.2
  have b6 := i6.2
  have b11 := i11.2
  have b15 := i15.2
  have b23 := i23.2
  have b24 := i24.2
  have b29 := i29.2
  refine zM.of (by decide +kernel) (Nat.le_of_ble_eq_true rfl) (by simp [zcat, Value.category]) ?_
  intro p e s m args below meth c loc0 C hr hnm hT
  refine z_join (pc' := 27) (L' := [(0, aR 12 0), (1, aI i), (2, aI j)]) (st' := [aI (zb (inB i 0 (x 23 - 1) && isSel x j))]) (fun kk => ?_) ?_
  · refine z_iload_n (i := 1) C dX7_approve_0 rfl rfl ?_
    refine z_iconst (v := 0) C dX7_approve_1 (by decide) ?_
    refine z_aload_n (i := 0) C dX7_approve_2 rfl rfl ?_
    refine z_getf C f_RX7_133 dX7_approve_3 hM.1 rfl ?_
    refine z_iconst (v := 1) C dX7_approve_6 (by decide) ?_
    refine z_isub C dX7_approve_7 ?_
    refine z_callS C Y_X7_in sm_yX7_in ml_RX7_86 (c_X7_in l) dX7_approve_8 rfl rfl (fun _ => Nat.le_of_ble_eq_true rfl) ⟨Nat.le_of_ble_eq_true rfl, Nat.le_of_ble_eq_true rfl⟩ ⟨Nat.le_of_ble_eq_true rfl, Nat.le_of_ble_eq_true rfl⟩ (z_ri (fun x σ1 hx => ?_)) (z_nx)
    obtain ⟨rfl, rfl⟩ := hx
    refine z_if_eqB (tgt := 26) C dX7_approve_11 (by decide) (fun h11 => ?_) (fun h11 => ?_)
    · refine z_iconst (v := 0) C dX7_approve_26 (by decide) ?_
      exact z_subK (z_b0 (by simp only [h11, eq_self, decide_true, decide_false, Bool.and_true, Bool.true_and, Bool.and_false, Bool.false_and, Bool.or_true, Bool.true_or, Bool.or_false, Bool.false_or, Bool.not_true, Bool.not_false, not_true, not_false_eq_true, if_true, if_false]) kk) (zs1 rfl (zs1 rfl (zs1 rfl zs0)))
    · refine z_aload_n (i := 0) C dX7_approve_14 rfl rfl ?_
      refine z_iload_n (i := 2) C dX7_approve_15 rfl rfl ?_
      refine z_callV C Y_X7_isSeller V_X7_isSeller ml_RX7_122 (c_X7_isSeller l hM) dX7_approve_16 rfl rfl hM.1 ⟨_, _, rfl⟩ (fun _ => Nat.le_of_ble_eq_true rfl) ⟨Nat.le_of_ble_eq_true rfl, Nat.le_of_ble_eq_true rfl⟩ ⟨Nat.le_of_ble_eq_true rfl, Nat.le_of_ble_eq_true rfl⟩ (z_ri (fun x σ1 hx => ?_)) (z_nx)
      obtain ⟨rfl, rfl⟩ := hx
      refine z_if_eqB (tgt := 26) C dX7_approve_19 (by decide) (fun h19 => ?_) (fun h19 => ?_)
      · refine z_iconst (v := 0) C dX7_approve_26 (by decide) ?_
        exact z_subK (z_b0 (by simp only [h11, h19, eq_self, decide_true, decide_false, Bool.and_true, Bool.true_and, Bool.and_false, Bool.false_and, Bool.or_true, Bool.true_or, Bool.or_false, Bool.false_or, Bool.not_true, Bool.not_false, not_true, not_false_eq_true, if_true, if_false]) kk) (zs1 rfl (zs1 rfl (zs1 rfl zs0)))
      · refine z_iconst (v := 1) C dX7_approve_22 (by decide) ?_
        refine z_goto (tgt := 27) C dX7_approve_23 (by decide) ?_
        exact z_subK (z_b1 (by simp only [h11, h19, eq_self, decide_true, decide_false, Bool.and_true, Bool.true_and, Bool.and_false, Bool.false_and, Bool.or_true, Bool.true_or, Bool.or_false, Bool.false_or, Bool.not_true, Bool.not_false, not_true, not_false_eq_true, if_true, if_false]) kk) (zs1 rfl (zs1 rfl (zs1 rfl zs0)))
  refine z_istore_n (i := 3) C dX7_approve_27 rfl (by decide) ?_
  refine z_join (pc' := 88) (L' := [(0, aR 12 0), (1, aI i), (2, aI j), (3, aI (zb (inB i 0 (x 23 - 1) && isSel x j)))]) (st' := [aI (zb ((inB i 0 (x 23 - 1) && isSel x j) && (decide (a 28 (zN i) = 0) && (opnB a (zN (a 25 (zN i))) && (abvB a j (zN (a 26 (zN i))) && decide (a 27 (zN i) ≤ a 13 (zN j)))))))]) (fun kk => ?_) ?_
  · refine z_iload_n (i := 3) C dX7_approve_28 rfl rfl ?_
    refine z_if_eqB (tgt := 87) C dX7_approve_29 (by decide) (fun h29 => ?_) (fun h29 => ?_)
    · refine z_iconst (v := 0) C dX7_approve_87 (by decide) ?_
      exact z_subK (z_b0 (by simp only [h29, eq_self, decide_true, decide_false, Bool.and_true, Bool.true_and, Bool.and_false, Bool.false_and, Bool.or_true, Bool.true_or, Bool.or_false, Bool.false_or, Bool.not_true, Bool.not_false, not_true, not_false_eq_true, if_true, if_false]) kk) (zs1 rfl (zs1 rfl (zs1 rfl (zs1 rfl zs0))))
    · obtain ⟨qa, qb⟩ := bAnd h29
      obtain ⟨i, hi, rfl⟩ := inB_ix i23 (by decide) qa
      have zi : zN (nI i) = i := zN_nI (by omega)
      obtain ⟨j, hj, rfl⟩ := inB_ix i11 (by decide) qb
      have zj : zN (nI j) = j := zN_nI (by omega)
      obtain ⟨⟨ic, hic, ec⟩, ⟨ik, hik, ek⟩, -⟩ := iQ i hi
      have zc : zN (a 25 i) = ic := by rw [ec, zN_nI (by omega)]
      have zk : zN (a 26 i) = ik := by rw [ek, zN_nI (by omega)]
      refine z_aload_n (i := 0) C dX7_approve_32 rfl rfl ?_
      refine z_getf C f_RX7_73 dX7_approve_33 hM.1 rfl ?_
      refine z_iload_n (i := 1) C dX7_approve_36 rfl rfl ?_
      refine z_ialdW C dX7_approve_37 hM 28 (by decide) (by first | rfl | exact i15.1 | exact i1.1 | exact i11.1 | exact i23.1 | exact i6.1) (show _ < 40 by omega) ?_
      refine z_if_ne (tgt := 87) C dX7_approve_38 (by decide) (fun h38 => ?_) (fun h38 => ?_)
      · refine z_iconst (v := 0) C dX7_approve_87 (by decide) ?_
        exact z_subK (z_b0 (by simp only [h29, zi, zj, zc, zk, h38, eq_self, decide_true, decide_false, Bool.and_true, Bool.true_and, Bool.and_false, Bool.false_and, Bool.or_true, Bool.true_or, Bool.or_false, Bool.false_or, Bool.not_true, Bool.not_false, not_true, not_false_eq_true, if_true, if_false]) kk) (zs1 rfl (zs1 rfl (zs1 rfl (zs1 rfl zs0))))
      · refine z_aload_n (i := 0) C dX7_approve_41 rfl rfl ?_
        refine z_aload_n (i := 0) C dX7_approve_42 rfl rfl ?_
        refine z_getf C f_RX7_64 dX7_approve_43 hM.1 rfl ?_
        refine z_iload_n (i := 1) C dX7_approve_46 rfl rfl ?_
        refine z_ialdW C dX7_approve_47 hM 25 (by decide) (by first | rfl | exact i15.1 | exact i1.1 | exact i11.1 | exact i23.1 | exact i6.1) (show _ < 40 by omega) ?_
        refine z_top ec ?_
        refine z_callV C Y_X7_isOpen V_X7_isOpen ml_RX7_130 (c_X7_isOpen l hM (by omega)) dX7_approve_48 rfl rfl hM.1 ⟨_, _, rfl⟩ (fun _ => Nat.le_of_ble_eq_true rfl) ⟨Nat.le_of_ble_eq_true rfl, Nat.le_of_ble_eq_true rfl⟩ ⟨Nat.le_of_ble_eq_true rfl, Nat.le_of_ble_eq_true rfl⟩ (z_ri (fun x σ1 hx => ?_)) (z_nx)
        obtain ⟨rfl, rfl⟩ := hx
        refine z_if_eqB (tgt := 87) C dX7_approve_51 (by decide) (fun h51 => ?_) (fun h51 => ?_)
        · refine z_iconst (v := 0) C dX7_approve_87 (by decide) ?_
          exact z_subK (z_b0 (by simp only [h29, zi, zj, zc, zk, h38, h51, eq_self, decide_true, decide_false, Bool.and_true, Bool.true_and, Bool.and_false, Bool.false_and, Bool.or_true, Bool.true_or, Bool.or_false, Bool.false_or, Bool.not_true, Bool.not_false, not_true, not_false_eq_true, if_true, if_false]) kk) (zs1 rfl (zs1 rfl (zs1 rfl (zs1 rfl zs0))))
        · refine z_aload_n (i := 0) C dX7_approve_54 rfl rfl ?_
          refine z_iload_n (i := 2) C dX7_approve_55 rfl rfl ?_
          refine z_aload_n (i := 0) C dX7_approve_56 rfl rfl ?_
          refine z_getf C f_RX7_67 dX7_approve_57 hM.1 rfl ?_
          refine z_iload_n (i := 1) C dX7_approve_60 rfl rfl ?_
          refine z_ialdW C dX7_approve_61 hM 26 (by decide) (by first | rfl | exact i15.1 | exact i1.1 | exact i11.1 | exact i23.1 | exact i6.1) (show _ < 40 by omega) ?_
          refine z_top ek ?_
          refine z_callV C Y_X7_isAbove V_X7_isAbove ml_RX7_153 (c_X7_isAbove l hM hI (by omega) (by omega)) dX7_approve_62 rfl rfl hM.1 ⟨_, _, rfl⟩ (fun _ => Nat.le_of_ble_eq_true rfl) ⟨Nat.le_of_ble_eq_true rfl, Nat.le_of_ble_eq_true rfl⟩ ⟨Nat.le_of_ble_eq_true rfl, Nat.le_of_ble_eq_true rfl⟩ (z_ri (fun x σ1 hx => ?_)) (z_nx)
          obtain ⟨rfl, rfl⟩ := hx
          refine z_if_eqB (tgt := 87) C dX7_approve_65 (by decide) (fun h65 => ?_) (fun h65 => ?_)
          · refine z_iconst (v := 0) C dX7_approve_87 (by decide) ?_
            exact z_subK (z_b0 (by simp only [h29, zi, zj, zc, zk, h38, h51, h65, eq_self, decide_true, decide_false, Bool.and_true, Bool.true_and, Bool.and_false, Bool.false_and, Bool.or_true, Bool.true_or, Bool.or_false, Bool.false_or, Bool.not_true, Bool.not_false, not_true, not_false_eq_true, if_true, if_false]) kk) (zs1 rfl (zs1 rfl (zs1 rfl (zs1 rfl zs0))))
          · refine z_aload_n (i := 0) C dX7_approve_68 rfl rfl ?_
            refine z_getf C f_RX7_70 dX7_approve_69 hM.1 rfl ?_
            refine z_iload_n (i := 1) C dX7_approve_72 rfl rfl ?_
            refine z_ialdW C dX7_approve_73 hM 27 (by decide) (by first | rfl | exact i15.1 | exact i1.1 | exact i11.1 | exact i23.1 | exact i6.1) (show _ < 40 by omega) ?_
            refine z_aload_n (i := 0) C dX7_approve_74 rfl rfl ?_
            refine z_getf C f_RX7_37 dX7_approve_75 hM.1 rfl ?_
            refine z_iload_n (i := 2) C dX7_approve_78 rfl rfl ?_
            refine z_ialdW C dX7_approve_79 hM 13 (by decide) (by first | rfl | exact i15.1 | exact i1.1 | exact i11.1 | exact i23.1 | exact i6.1) (show _ < 8 by omega) ?_
            refine z_icmp_gt (tgt := 87) C dX7_approve_80 (by decide) (fun h80 => ?_) (fun h80 => ?_)
            · have g80 := Int32.not_le.mpr h80
              refine z_iconst (v := 0) C dX7_approve_87 (by decide) ?_
              exact z_subK (z_b0 (by simp only [h29, zi, zj, zc, zk, h38, h51, h65, h80, g80, eq_self, decide_true, decide_false, Bool.and_true, Bool.true_and, Bool.and_false, Bool.false_and, Bool.or_true, Bool.true_or, Bool.or_false, Bool.false_or, Bool.not_true, Bool.not_false, not_true, not_false_eq_true, if_true, if_false]) kk) (zs1 rfl (zs1 rfl (zs1 rfl (zs1 rfl zs0))))
            · have g80 := Int32.not_lt.mp h80
              refine z_iconst (v := 1) C dX7_approve_83 (by decide) ?_
              refine z_goto (tgt := 88) C dX7_approve_84 (by decide) ?_
              exact z_subK (z_b1 (by simp only [h29, zi, zj, zc, zk, h38, h51, h65, h80, g80, eq_self, decide_true, decide_false, Bool.and_true, Bool.true_and, Bool.and_false, Bool.false_and, Bool.or_true, Bool.true_or, Bool.or_false, Bool.false_or, Bool.not_true, Bool.not_false, not_true, not_false_eq_true, if_true, if_false]) kk) (zs1 rfl (zs1 rfl (zs1 rfl (zs1 rfl zs0))))
  refine z_istore C dX7_approve_88 (by decide) ?_
  refine z_aload_n (i := 0) C dX7_approve_90 rfl rfl ?_
  refine z_iload_n (i := 3) C dX7_approve_91 rfl rfl ?_
  refine z_iload C dX7_approve_92 rfl ?_
  refine z_iconst (v := 1) C dX7_approve_94 (by decide) ?_
  refine z_callV C Y_X7_goes V_X7_goes ml_RX7_100 (c_X7_goes l hM (p1 := inB i 0 (x 23 - 1) && isSel x j) (p2 := (inB i 0 (x 23 - 1) && isSel x j) && (decide (a 28 (zN i) = 0) && (opnB a (zN (a 25 (zN i))) && (abvB a j (zN (a 26 (zN i))) && decide (a 27 (zN i) ≤ a 13 (zN j)))))) (p3 := true)) dX7_approve_95 rfl rfl hM.1 ⟨_, _, rfl⟩ (fun _ => Nat.le_of_ble_eq_true rfl) ⟨Nat.le_of_ble_eq_true rfl, Nat.le_of_ble_eq_true rfl⟩ ⟨Nat.le_of_ble_eq_true rfl, Nat.le_of_ble_eq_true rfl⟩ (z_ri (fun x σ1 hx => ?_)) (z_nx)
  obtain ⟨rfl, hM, hF⟩ := hx
  refine z_if_eqB (tgt := 106) C dX7_approve_98 (by decide) (fun h0 => ?_) (fun h0 => ?_)
  · exact z_vret C hr dX7_approve_106 (Nat.le_of_ble_eq_true rfl) (Nat.le_of_ble_eq_true rfl) ⟨rfl, zRz.no h0 hM hF⟩
  · have h1 := of_decide_eq_true h0
    rw [h1] at hM
    obtain ⟨q1, q2, q3⟩ := goC_0.mp h1
    replace h0 : k_approve x a i j = 0 := h1
    obtain ⟨qa, qb⟩ := bAnd q1
    obtain ⟨i, hi, rfl⟩ := inB_ix i23 (by decide) qa
    have zi : zN (nI i) = i := zN_nI (by omega)
    obtain ⟨j, hj, rfl⟩ := inB_ix i11 (by decide) qb
    have zj : zN (nI j) = j := zN_nI (by omega)
    refine z_aload_n (i := 0) C dX7_approve_101 rfl rfl ?_
    refine z_iload_n (i := 1) C dX7_approve_102 rfl rfl ?_
    refine z_callV C Y_X7_approves V_X7_approves ml_RX7_149 (c_X7_approves l hM (by omega)) dX7_approve_103 rfl rfl hM.1 ⟨_, _, rfl⟩ (fun _ => Nat.le_of_ble_eq_true rfl) ⟨Nat.le_of_ble_eq_true rfl, Nat.le_of_ble_eq_true rfl⟩ ⟨Nat.le_of_ble_eq_true rfl, Nat.le_of_ble_eq_true rfl⟩ (z_rv (fun σ1 hx => ?_)) (z_nx)
    obtain ⟨hM, hF9⟩ := hx
    replace hF := hF.tr hF9
    exact z_vret C hr dX7_approve_106 (Nat.le_of_ble_eq_true rfl) (Nat.le_of_ble_eq_true rfl) ⟨rfl, zRz.ok h0 rfl hM rfl (by first | rfl | (simp only [zi]; done) | (simp only [zi]; rfl)) hF⟩

def k_counting (x : Nat → Int32) (a : Nat → Nat → Int32) (i : Int32) : Int32 := goC (isCha x i) (! decide ((if isCha x i = true then cnt x a i else -1) = -1)) (true)
set_option maxRecDepth 100000 in
set_option maxHeartbeats 4000000 in
theorem c_X7_counting {X : zX} (l : Launch) {x : Nat → Int32} {a : Nat → Nat → Int32} {σ : zHp} (hM : MD x a σ) (hI : zInv x a) {i : Int32} : zM X l yX7_counting cX7_counting 4 (some .int) 2 0 0 [aR 12 0, aI i] σ (zPi (fun r9 σ1 => zRz (k_counting x a i) (cnt x a i) (x) (a) x a r9 σ σ1)) zNx := by
  obtain ⟨i0, i1, i6, i11, i15, i23, i24, i29, iA, iS, iC, iQ, iP⟩ := id hI
  have b1 := i1.2
  have b6 := i6.2
  have b11 := i11.2
  have b15 := i15.2
  have b23 := i23.2
  have b24 := i24.2
  have b29 := i29.2
  refine zM.of (by decide +kernel) (Nat.le_of_ble_eq_true rfl) (by simp [zcat, Value.category]) ?_
  intro p e s m args below meth c loc0 C hr hnm hT
  refine z_aload_n (i := 0) C dX7_counting_0 rfl rfl ?_
  refine z_iload_n (i := 1) C dX7_counting_1 rfl rfl ?_
  refine z_callV C Y_X7_isChance V_X7_isChance ml_RX7_127 (c_X7_isChance l hM) dX7_counting_2 rfl rfl hM.1 ⟨_, _, rfl⟩ (fun _ => Nat.le_of_ble_eq_true rfl) ⟨Nat.le_of_ble_eq_true rfl, Nat.le_of_ble_eq_true rfl⟩ ⟨Nat.le_of_ble_eq_true rfl, Nat.le_of_ble_eq_true rfl⟩ (z_ri (fun x σ1 hx => ?_)) (z_nx)
  obtain ⟨rfl, rfl⟩ := hx
  refine z_istore_n (i := 2) C dX7_counting_5 rfl (by decide) ?_
  refine z_join (pc' := 19) (L' := [(0, aR 12 0), (1, aI i), (2, aI (zb (isCha x i)))]) (st' := [aI (if isCha x i = true then cnt x a i else -1)]) (fun kk => ?_) ?_
  · refine z_iload_n (i := 2) C dX7_counting_6 rfl rfl ?_
    refine z_if_eqB (tgt := 18) C dX7_counting_7 (by decide) (fun h7 => ?_) (fun h7 => ?_)
    · refine z_iconst (v := -1) C dX7_counting_18 (by decide) ?_
      refine z_sub (L' := [(0, aR 12 0), (1, aI i), (2, aI (zb (isCha x i)))]) (zs1 rfl (zs1 rfl (zs1 rfl zs0))) ?_
      exact z_top (if_neg (by rw [h7]; decide)).symm kk
    · refine z_aload_n (i := 0) C dX7_counting_10 rfl rfl ?_
      refine z_iload_n (i := 1) C dX7_counting_11 rfl rfl ?_
      refine z_callV C Y_X7_counts V_X7_counts ml_RX7_136 (c_X7_counts l hM hI) dX7_counting_12 rfl rfl hM.1 ⟨_, _, rfl⟩ (fun _ => Nat.le_of_ble_eq_true rfl) ⟨Nat.le_of_ble_eq_true rfl, Nat.le_of_ble_eq_true rfl⟩ ⟨Nat.le_of_ble_eq_true rfl, Nat.le_of_ble_eq_true rfl⟩ (z_ri (fun x σ1 hx => ?_)) (z_nx)
      obtain ⟨rfl, rfl⟩ := hx
      refine z_goto (tgt := 19) C dX7_counting_15 (by decide) ?_
      refine z_sub (L' := [(0, aR 12 0), (1, aI i), (2, aI (zb (isCha x i)))]) (zs1 rfl (zs1 rfl (zs1 rfl zs0))) ?_
      exact z_top (if_pos h7).symm kk
  refine z_istore_n (i := 3) C dX7_counting_19 rfl (by decide) ?_
  refine z_aload_n (i := 0) C dX7_counting_20 rfl rfl ?_
  refine z_iload_n (i := 2) C dX7_counting_21 rfl rfl ?_
  refine z_join (pc' := 32) (L' := [(0, aR 12 0), (1, aI i), (2, aI (zb (isCha x i))), (3, aI (if isCha x i = true then cnt x a i else -1))]) (st' := [aI (zb (! decide ((if isCha x i = true then cnt x a i else -1) = -1))), aI (zb (isCha x i)), aR 12 0]) (fun kk => ?_) ?_
  · refine z_iload_n (i := 3) C dX7_counting_22 rfl rfl ?_
    refine z_iconst (v := -1) C dX7_counting_23 (by decide) ?_
    refine z_icmp_eq (tgt := 31) C dX7_counting_24 (by decide) (fun h24 => ?_) (fun h24 => ?_)
    · refine z_iconst (v := 0) C dX7_counting_31 (by decide) ?_
      exact z_subK (z_b0 (by simp only [h24, eq_self, decide_true, decide_false, Bool.and_true, Bool.true_and, Bool.and_false, Bool.false_and, Bool.or_true, Bool.true_or, Bool.or_false, Bool.false_or, Bool.not_true, Bool.not_false, not_true, not_false_eq_true, if_true, if_false]) kk) (zs1 rfl (zs1 rfl (zs1 rfl (zs1 rfl zs0))))
    · refine z_iconst (v := 1) C dX7_counting_27 (by decide) ?_
      refine z_goto (tgt := 32) C dX7_counting_28 (by decide) ?_
      exact z_subK (z_b1 (by simp only [h24, eq_self, decide_true, decide_false, Bool.and_true, Bool.true_and, Bool.and_false, Bool.false_and, Bool.or_true, Bool.true_or, Bool.or_false, Bool.false_or, Bool.not_true, Bool.not_false, not_true, not_false_eq_true, if_true, if_false]) kk) (zs1 rfl (zs1 rfl (zs1 rfl (zs1 rfl zs0))))
  refine z_iconst (v := 1) C dX7_counting_32 (by decide) ?_
  refine z_callV C Y_X7_goes V_X7_goes ml_RX7_100 (c_X7_goes l hM (p1 := isCha x i) (p2 := ! decide ((if isCha x i = true then cnt x a i else -1) = -1)) (p3 := true)) dX7_counting_33 rfl rfl hM.1 ⟨_, _, rfl⟩ (fun _ => Nat.le_of_ble_eq_true rfl) ⟨Nat.le_of_ble_eq_true rfl, Nat.le_of_ble_eq_true rfl⟩ ⟨Nat.le_of_ble_eq_true rfl, Nat.le_of_ble_eq_true rfl⟩ (z_ri (fun x σ1 hx => ?_)) (z_nx)
  obtain ⟨rfl, hM, hF⟩ := hx
  refine z_if_eqB (tgt := 43) C dX7_counting_36 (by decide) (fun h0 => ?_) (fun h0 => ?_)
  · refine z_iconst (v := 0) C dX7_counting_43 (by decide) ?_
    exact z_iret C hr rfl dX7_counting_44 (Nat.le_of_ble_eq_true rfl) (Nat.le_of_ble_eq_true rfl) ⟨_, rfl, zRz.no h0 hM hF⟩
  · have h1 := of_decide_eq_true h0
    rw [h1] at hM
    obtain ⟨q1, q2, q3⟩ := goC_0.mp h1
    replace h0 : k_counting x a i = 0 := h1
    refine z_iload_n (i := 3) C dX7_counting_39 rfl rfl ?_
    refine z_goto (tgt := 44) C dX7_counting_40 (by decide) ?_
    exact z_iret C hr rfl dX7_counting_44 (Nat.le_of_ble_eq_true rfl) (Nat.le_of_ble_eq_true rfl) ⟨_, rfl, zRz.ok h0 (if_pos q1) hM rfl rfl hF⟩

def k_since (x : Nat → Int32) (a : Nat → Nat → Int32) (i j : Int32) : Int32 := goC (inB i 0 (x 29 - 1) && isSel x j) (true) (true)
set_option maxRecDepth 100000 in
set_option maxHeartbeats 4000000 in
theorem c_X7_since {X : zX} (l : Launch) {x : Nat → Int32} {a : Nat → Nat → Int32} {σ : zHp} (hM : MD x a σ) (hI : zInv x a) {i j : Int32} : zM X l yX7_since cX7_since 3 (some .int) 4 0 0 [aR 12 0, aI i, aI j] σ (zPi (fun r9 σ1 => zRz (k_since x a i j) (forS x a (zN j) - a 30 (8 * zN i + zN j)) (x) (a) x a r9 σ σ1)) zNx := by
  obtain ⟨i0, i1, i6, i11, i15, i23, i24, i29, iA, iS, iC, iQ, iP⟩ := id hI
  have b1 := i1.2
  have b6 := i6.2
  have b11 := i11.2
  have b15 := i15.2
  have b23 := i23.2
  have b24 := i24.2
  have b29 := i29.2
  refine zM.of (by decide +kernel) (Nat.le_of_ble_eq_true rfl) (by simp [zcat, Value.category]) ?_
  intro p e s m args below meth c loc0 C hr hnm hT
  refine z_aload_n (i := 0) C dX7_since_0 rfl rfl ?_
  refine z_join (pc' := 28) (L' := [(0, aR 12 0), (1, aI i), (2, aI j)]) (st' := [aI (zb (inB i 0 (x 29 - 1) && isSel x j)), aR 12 0]) (fun kk => ?_) ?_
  · refine z_iload_n (i := 1) C dX7_since_1 rfl rfl ?_
    refine z_iconst (v := 0) C dX7_since_2 (by decide) ?_
    refine z_aload_n (i := 0) C dX7_since_3 rfl rfl ?_
    refine z_getf C f_RX7_165 dX7_since_4 hM.1 rfl ?_
    refine z_iconst (v := 1) C dX7_since_7 (by decide) ?_
    refine z_isub C dX7_since_8 ?_
    refine z_callS C Y_X7_in sm_yX7_in ml_RX7_86 (c_X7_in l) dX7_since_9 rfl rfl (fun _ => Nat.le_of_ble_eq_true rfl) ⟨Nat.le_of_ble_eq_true rfl, Nat.le_of_ble_eq_true rfl⟩ ⟨Nat.le_of_ble_eq_true rfl, Nat.le_of_ble_eq_true rfl⟩ (z_ri (fun x σ1 hx => ?_)) (z_nx)
    obtain ⟨rfl, rfl⟩ := hx
    refine z_if_eqB (tgt := 27) C dX7_since_12 (by decide) (fun h12 => ?_) (fun h12 => ?_)
    · refine z_iconst (v := 0) C dX7_since_27 (by decide) ?_
      exact z_subK (z_b0 (by simp only [h12, eq_self, decide_true, decide_false, Bool.and_true, Bool.true_and, Bool.and_false, Bool.false_and, Bool.or_true, Bool.true_or, Bool.or_false, Bool.false_or, Bool.not_true, Bool.not_false, not_true, not_false_eq_true, if_true, if_false]) kk) (zs1 rfl (zs1 rfl (zs1 rfl zs0)))
    · refine z_aload_n (i := 0) C dX7_since_15 rfl rfl ?_
      refine z_iload_n (i := 2) C dX7_since_16 rfl rfl ?_
      refine z_callV C Y_X7_isSeller V_X7_isSeller ml_RX7_122 (c_X7_isSeller l hM) dX7_since_17 rfl rfl hM.1 ⟨_, _, rfl⟩ (fun _ => Nat.le_of_ble_eq_true rfl) ⟨Nat.le_of_ble_eq_true rfl, Nat.le_of_ble_eq_true rfl⟩ ⟨Nat.le_of_ble_eq_true rfl, Nat.le_of_ble_eq_true rfl⟩ (z_ri (fun x σ1 hx => ?_)) (z_nx)
      obtain ⟨rfl, rfl⟩ := hx
      refine z_if_eqB (tgt := 27) C dX7_since_20 (by decide) (fun h20 => ?_) (fun h20 => ?_)
      · refine z_iconst (v := 0) C dX7_since_27 (by decide) ?_
        exact z_subK (z_b0 (by simp only [h12, h20, eq_self, decide_true, decide_false, Bool.and_true, Bool.true_and, Bool.and_false, Bool.false_and, Bool.or_true, Bool.true_or, Bool.or_false, Bool.false_or, Bool.not_true, Bool.not_false, not_true, not_false_eq_true, if_true, if_false]) kk) (zs1 rfl (zs1 rfl (zs1 rfl zs0)))
      · refine z_iconst (v := 1) C dX7_since_23 (by decide) ?_
        refine z_goto (tgt := 28) C dX7_since_24 (by decide) ?_
        exact z_subK (z_b1 (by simp only [h12, h20, eq_self, decide_true, decide_false, Bool.and_true, Bool.true_and, Bool.and_false, Bool.false_and, Bool.or_true, Bool.true_or, Bool.or_false, Bool.false_or, Bool.not_true, Bool.not_false, not_true, not_false_eq_true, if_true, if_false]) kk) (zs1 rfl (zs1 rfl (zs1 rfl zs0)))
  refine z_iconst (v := 1) C dX7_since_28 (by decide) ?_
  refine z_iconst (v := 1) C dX7_since_29 (by decide) ?_
  refine z_callV C Y_X7_goes V_X7_goes ml_RX7_100 (c_X7_goes l hM (p1 := inB i 0 (x 29 - 1) && isSel x j) (p2 := true) (p3 := true)) dX7_since_30 rfl rfl hM.1 ⟨_, _, rfl⟩ (fun _ => Nat.le_of_ble_eq_true rfl) ⟨Nat.le_of_ble_eq_true rfl, Nat.le_of_ble_eq_true rfl⟩ ⟨Nat.le_of_ble_eq_true rfl, Nat.le_of_ble_eq_true rfl⟩ (z_ri (fun x σ1 hx => ?_)) (z_nx)
  obtain ⟨rfl, hM, hF⟩ := hx
  refine z_if_eqB (tgt := 56) C dX7_since_33 (by decide) (fun h0 => ?_) (fun h0 => ?_)
  · refine z_iconst (v := 0) C dX7_since_56 (by decide) ?_
    exact z_iret C hr rfl dX7_since_57 (Nat.le_of_ble_eq_true rfl) (Nat.le_of_ble_eq_true rfl) ⟨_, rfl, zRz.no h0 hM hF⟩
  · have h1 := of_decide_eq_true h0
    rw [h1] at hM
    obtain ⟨q1, q2, q3⟩ := goC_0.mp h1
    replace h0 : k_since x a i j = 0 := h1
    obtain ⟨qa, qb⟩ := bAnd q1
    obtain ⟨i, hi, rfl⟩ := inB_ix i29 (by decide) qa
    have zi : zN (nI i) = i := zN_nI (by omega)
    obtain ⟨j, hj, rfl⟩ := inB_ix i11 (by decide) qb
    have zj : zN (nI j) = j := zN_nI (by omega)
    have hI1 : zInv (upd x 31 0) a := hI
    refine z_aload_n (i := 0) C dX7_since_36 rfl rfl ?_
    refine z_iload_n (i := 2) C dX7_since_37 rfl rfl ?_
    refine z_callV C Y_X7_forecastOf V_X7_forecastOf ml_RX7_162 (c_X7_forecastOf l hM hI1 (t := j) (by omega)) dX7_since_38 rfl rfl hM.1 ⟨_, _, rfl⟩ (fun _ => Nat.le_of_ble_eq_true rfl) ⟨Nat.le_of_ble_eq_true rfl, Nat.le_of_ble_eq_true rfl⟩ ⟨Nat.le_of_ble_eq_true rfl, Nat.le_of_ble_eq_true rfl⟩ (z_ri (fun x σ1 hx => ?_)) (z_nx)
    obtain ⟨rfl, rfl⟩ := hx
    refine z_aload_n (i := 0) C dX7_since_41 rfl rfl ?_
    refine z_getf C f_RX7_76 dX7_since_42 hM.1 rfl ?_
    refine z_bipush (v := 8) C dX7_since_45 (by decide) ?_
    refine z_iload_n (i := 1) C dX7_since_47 rfl rfl ?_
    refine z_imul C dX7_since_48 ?_
    refine z_iload_n (i := 2) C dX7_since_49 rfl rfl ?_
    refine z_iadd C dX7_since_50 ?_
    rw [nI_lin8 i j]
    refine z_ialdW C dX7_since_51 hM 30 (by decide) (by first | rfl | exact i15.1 | exact i1.1 | exact i11.1 | exact i23.1 | exact i6.1) (show _ < 160 by omega) ?_
    refine z_isub C dX7_since_52 ?_
    refine z_goto (tgt := 57) C dX7_since_53 (by decide) ?_
    exact z_iret C hr rfl dX7_since_57 (Nat.le_of_ble_eq_true rfl) (Nat.le_of_ble_eq_true rfl) ⟨_, rfl, zRz.ok h0 (by simp only [zi, zj, forS_x]) hM rfl rfl hF⟩

theorem up_le5 {f : Nat → Int32} {i c w : Nat} (h : ∃ t, t ≤ 5 ∧ f c = nI t) (hw : w ≤ 5) : ∃ t, t ≤ 5 ∧ upd f i (nI w) c = nI t := by
  by_cases e : c = i
  · exact ⟨w, hw, by rw [e]; simp [upd]⟩
  · obtain ⟨t, ht, et⟩ := h
    exact ⟨t, ht, by rw [← et]; simp [upd, e]⟩
theorem regS_mv {x : Nat → Int32} {a : Nat → Nat → Int32} {i : Nat} {f g h : Nat → Int32} : regS x (ua (ua (ua a 22 f) 18 g) 19 h) i = regS x a i := by
  show regF _ _ _ _ = regF _ _ _ _
  exact regF_a (x := x) (a := ua (ua (ua a 22 f) 18 g) 19 h) (a' := a) rfl rfl (fun _ _ => rfl) rfl _ _
def k_move (x : Nat → Int32) (a : Nat → Nat → Int32) (i w : Int32) : Int32 := goC (isCha x i) (inB w 0 5) ((isCha x i) && ((inB w 0 5) && comB x a (zN i) w))
set_option maxRecDepth 100000 in
set_option maxHeartbeats 4000000 in
theorem c_X7_move {X : zX} (l : Launch) {x : Nat → Int32} {a : Nat → Nat → Int32} {σ : zHp} (hM : MD x a σ) (hI : zInv x a) {i w : Int32} : zM X l yX7_move cX7_move 6 (some .int) 3 0 0 [aR 12 0, aI i, aI w] σ (zPi (fun r9 σ1 => zRz (k_move x a i w) (x 0 - a 19 (zN i)) (x) (ua (ua (ua (ua a 22 (upd (a 22) (6 * zN i + zN (a 18 (zN i))) (a 22 (6 * zN i + zN (a 18 (zN i))) + (x 0 - a 19 (zN i))))) 18 (upd (a 18) (zN i) w)) 19 (upd (a 19) (zN i) (x 0))) 20 (upd (a 20) (zN i) (regS x a (zN (a 16 (zN i)))))) x a r9 σ σ1)) zNx := by
  obtain ⟨i0, i1, i6, i11, i15, i23, i24, i29, iA, iS, iC, iQ, iP⟩ := id hI
  have b1 := i1.2
  have b6 := i6.2
  have b11 := i11.2
  have b15 := i15.2
  have b23 := i23.2
  have b24 := i24.2
  have b29 := i29.2
  refine zM.of (by decide +kernel) (Nat.le_of_ble_eq_true rfl) (by simp [zcat, Value.category]) ?_
  intro p e s m args below meth c loc0 C hr hnm hT
  refine z_aload_n (i := 0) C dX7_move_0 rfl rfl ?_
  refine z_iload_n (i := 1) C dX7_move_1 rfl rfl ?_
  refine z_callV C Y_X7_isChance V_X7_isChance ml_RX7_127 (c_X7_isChance l hM) dX7_move_2 rfl rfl hM.1 ⟨_, _, rfl⟩ (fun _ => Nat.le_of_ble_eq_true rfl) ⟨Nat.le_of_ble_eq_true rfl, Nat.le_of_ble_eq_true rfl⟩ ⟨Nat.le_of_ble_eq_true rfl, Nat.le_of_ble_eq_true rfl⟩ (z_ri (fun x σ1 hx => ?_)) (z_nx)
  obtain ⟨rfl, rfl⟩ := hx
  refine z_istore_n (i := 3) C dX7_move_5 rfl (by decide) ?_
  refine z_iload_n (i := 2) C dX7_move_6 rfl rfl ?_
  refine z_iconst (v := 0) C dX7_move_7 (by decide) ?_
  refine z_iconst (v := 5) C dX7_move_8 (by decide) ?_
  refine z_callS C Y_X7_in sm_yX7_in ml_RX7_86 (c_X7_in l) dX7_move_9 rfl rfl (fun _ => Nat.le_of_ble_eq_true rfl) ⟨Nat.le_of_ble_eq_true rfl, Nat.le_of_ble_eq_true rfl⟩ ⟨Nat.le_of_ble_eq_true rfl, Nat.le_of_ble_eq_true rfl⟩ (z_ri (fun x σ1 hx => ?_)) (z_nx)
  obtain ⟨rfl, rfl⟩ := hx
  refine z_istore C dX7_move_12 (by decide) ?_
  refine z_aload_n (i := 0) C dX7_move_14 rfl rfl ?_
  refine z_iload_n (i := 3) C dX7_move_15 rfl rfl ?_
  refine z_iload C dX7_move_16 rfl ?_
  refine z_join (pc' := 41) (L' := [(0, aR 12 0), (1, aI i), (2, aI w), (3, aI (zb (isCha x i))), (4, aI (zb (inB w 0 5)))]) (st' := [aI (zb ((isCha x i) && ((inB w 0 5) && comB x a (zN i) w))), aI (zb (inB w 0 5)), aI (zb (isCha x i)), aR 12 0]) (fun kk => ?_) ?_
  · refine z_iload_n (i := 3) C dX7_move_18 rfl rfl ?_
    refine z_if_eqB (tgt := 40) C dX7_move_19 (by decide) (fun h19 => ?_) (fun h19 => ?_)
    · refine z_iconst (v := 0) C dX7_move_40 (by decide) ?_
      exact z_subK (z_b0 (by simp only [h19, eq_self, decide_true, decide_false, Bool.and_true, Bool.true_and, Bool.and_false, Bool.false_and, Bool.or_true, Bool.true_or, Bool.or_false, Bool.false_or, Bool.not_true, Bool.not_false, not_true, not_false_eq_true, if_true, if_false]) kk) (zs1 rfl (zs1 rfl (zs1 rfl (zs1 rfl (zs1 rfl zs0)))))
    · refine z_iload C dX7_move_22 rfl ?_
      refine z_if_eqB (tgt := 40) C dX7_move_24 (by decide) (fun h24 => ?_) (fun h24 => ?_)
      · refine z_iconst (v := 0) C dX7_move_40 (by decide) ?_
        exact z_subK (z_b0 (by simp only [h19, h24, eq_self, decide_true, decide_false, Bool.and_true, Bool.true_and, Bool.and_false, Bool.false_and, Bool.or_true, Bool.true_or, Bool.or_false, Bool.false_or, Bool.not_true, Bool.not_false, not_true, not_false_eq_true, if_true, if_false]) kk) (zs1 rfl (zs1 rfl (zs1 rfl (zs1 rfl (zs1 rfl zs0)))))
      · obtain ⟨i, hi, rfl⟩ := inB_ix i15 (by decide) h19
        have zi : zN (nI i) = i := zN_nI (by omega)
        refine z_aload_n (i := 0) C dX7_move_27 rfl rfl ?_
        refine z_iload_n (i := 1) C dX7_move_28 rfl rfl ?_
        refine z_iload_n (i := 2) C dX7_move_29 rfl rfl ?_
        refine z_callV C Y_X7_canCome V_X7_canCome ml_RX7_139 (c_X7_canCome l hM hI (by omega)) dX7_move_30 rfl rfl hM.1 ⟨_, _, rfl⟩ (fun _ => Nat.le_of_ble_eq_true rfl) ⟨Nat.le_of_ble_eq_true rfl, Nat.le_of_ble_eq_true rfl⟩ ⟨Nat.le_of_ble_eq_true rfl, Nat.le_of_ble_eq_true rfl⟩ (z_ri (fun x σ1 hx => ?_)) (z_nx)
        obtain ⟨rfl, rfl⟩ := hx
        refine z_if_eqB (tgt := 40) C dX7_move_33 (by decide) (fun h33 => ?_) (fun h33 => ?_)
        · refine z_iconst (v := 0) C dX7_move_40 (by decide) ?_
          exact z_subK (z_b0 (by simp only [h19, h24, zi, h33, eq_self, decide_true, decide_false, Bool.and_true, Bool.true_and, Bool.and_false, Bool.false_and, Bool.or_true, Bool.true_or, Bool.or_false, Bool.false_or, Bool.not_true, Bool.not_false, not_true, not_false_eq_true, if_true, if_false]) kk) (zs1 rfl (zs1 rfl (zs1 rfl (zs1 rfl (zs1 rfl zs0)))))
        · refine z_iconst (v := 1) C dX7_move_36 (by decide) ?_
          refine z_goto (tgt := 41) C dX7_move_37 (by decide) ?_
          exact z_subK (z_b1 (by simp only [h19, h24, zi, h33, eq_self, decide_true, decide_false, Bool.and_true, Bool.true_and, Bool.and_false, Bool.false_and, Bool.or_true, Bool.true_or, Bool.or_false, Bool.false_or, Bool.not_true, Bool.not_false, not_true, not_false_eq_true, if_true, if_false]) kk) (zs1 rfl (zs1 rfl (zs1 rfl (zs1 rfl (zs1 rfl zs0)))))
  refine z_callV C Y_X7_goes V_X7_goes ml_RX7_100 (c_X7_goes l hM (p1 := isCha x i) (p2 := inB w 0 5) (p3 := (isCha x i) && ((inB w 0 5) && comB x a (zN i) w))) dX7_move_41 rfl rfl hM.1 ⟨_, _, rfl⟩ (fun _ => Nat.le_of_ble_eq_true rfl) ⟨Nat.le_of_ble_eq_true rfl, Nat.le_of_ble_eq_true rfl⟩ ⟨Nat.le_of_ble_eq_true rfl, Nat.le_of_ble_eq_true rfl⟩ (z_ri (fun x σ1 hx => ?_)) (z_nx)
  obtain ⟨rfl, hM, hF⟩ := hx
  refine z_if_neB (tgt := 49) C dX7_move_44 (by decide) (fun h0 => ?_) (fun h0 => ?_)
  · have h1 := of_decide_eq_true h0
    rw [h1] at hM
    obtain ⟨q1, q2, q3⟩ := goC_0.mp h1
    replace h0 : k_move x a i w = 0 := h1
    obtain ⟨i, hi, rfl⟩ := inB_ix i15 (by decide) q1
    have zi : zN (nI i) = i := zN_nI (by omega)
    obtain ⟨w, hw, rfl⟩ := inB_to (n := 5) (by decide) q2
    obtain ⟨⟨ia, hia, ea⟩, t, ht, et⟩ := iC i hi
    have zt : zN (a 18 i) = t := by rw [et, zN_nI (by omega)]
    have za : zN (a 16 i) = ia := by rw [ea, zN_nI (by omega)]
    refine z_aload_n (i := 0) C dX7_move_49 rfl rfl ?_
    refine z_getf C f_RX7_96 dX7_move_50 hM.1 rfl ?_
    refine z_aload_n (i := 0) C dX7_move_53 rfl rfl ?_
    refine z_getf C f_RX7_52 dX7_move_54 hM.1 rfl ?_
    refine z_iload_n (i := 1) C dX7_move_57 rfl rfl ?_
    refine z_ialdW C dX7_move_58 hM 19 (by decide) (by first | rfl | exact i15.1 | exact i1.1 | exact i11.1 | exact i23.1 | exact i6.1) (show _ < 30 by omega) ?_
    refine z_isub C dX7_move_59 ?_
    refine z_istore C dX7_move_60 (by decide) ?_
    refine z_aload_n (i := 0) C dX7_move_62 rfl rfl ?_
    refine z_getf C f_RX7_61 dX7_move_63 hM.1 rfl ?_
    refine z_bipush (v := 6) C dX7_move_66 (by decide) ?_
    refine z_iload_n (i := 1) C dX7_move_68 rfl rfl ?_
    refine z_imul C dX7_move_69 ?_
    refine z_aload_n (i := 0) C dX7_move_70 rfl rfl ?_
    refine z_getf C f_RX7_49 dX7_move_71 hM.1 rfl ?_
    refine z_iload_n (i := 1) C dX7_move_74 rfl rfl ?_
    refine z_ialdW C dX7_move_75 hM 18 (by decide) (by first | rfl | exact i15.1 | exact i1.1 | exact i11.1 | exact i23.1 | exact i6.1) (show _ < 30 by omega) ?_
    refine z_iadd C dX7_move_76 ?_
    rw [et, nI_lin6 i t]
    refine z_dup2 C (by first | trivial | rfl) (by first | trivial | rfl) dX7_move_77 ?_
    refine z_ialdW C dX7_move_78 hM 22 (by decide) (by first | rfl | exact i15.1 | exact i1.1 | exact i11.1 | exact i23.1 | exact i6.1) (show _ < 180 by omega) ?_
    refine z_iload C dX7_move_79 rfl ?_
    refine z_iadd C dX7_move_81 ?_
    refine z_iastW C dX7_move_82 hM 22 (by decide) (by first | rfl | exact i15.1 | exact i1.1 | exact i11.1 | exact i23.1 | exact i6.1) (show _ < 180 by omega) (fun σ hM hF9 => ?_)
    replace hF := hF.tr hF9
    refine z_aload_n (i := 0) C dX7_move_83 rfl rfl ?_
    refine z_getf C f_RX7_49 dX7_move_84 hM.1 rfl ?_
    refine z_iload_n (i := 1) C dX7_move_87 rfl rfl ?_
    refine z_iload_n (i := 2) C dX7_move_88 rfl rfl ?_
    refine z_iastW C dX7_move_89 hM 18 (by decide) (by first | rfl | exact i15.1 | exact i1.1 | exact i11.1 | exact i23.1 | exact i6.1) (show _ < 30 by omega) (fun σ hM hF9 => ?_)
    replace hF := hF.tr hF9
    refine z_aload_n (i := 0) C dX7_move_90 rfl rfl ?_
    refine z_getf C f_RX7_52 dX7_move_91 hM.1 rfl ?_
    refine z_iload_n (i := 1) C dX7_move_94 rfl rfl ?_
    refine z_aload_n (i := 0) C dX7_move_95 rfl rfl ?_
    refine z_getf C f_RX7_96 dX7_move_96 hM.1 rfl ?_
    refine z_iastW C dX7_move_99 hM 19 (by decide) (by first | rfl | exact i15.1 | exact i1.1 | exact i11.1 | exact i23.1 | exact i6.1) (show _ < 30 by omega) (fun σ hM hF9 => ?_)
    replace hF := hF.tr hF9
    refine z_aload_n (i := 0) C dX7_move_100 rfl rfl ?_
    refine z_getf C f_RX7_55 dX7_move_101 hM.1 rfl ?_
    refine z_iload_n (i := 1) C dX7_move_104 rfl rfl ?_
    refine z_aload_n (i := 0) C dX7_move_105 rfl rfl ?_
    refine z_aload_n (i := 0) C dX7_move_106 rfl rfl ?_
    refine z_getf C f_RX7_43 dX7_move_107 hM.1 rfl ?_
    refine z_iload_n (i := 1) C dX7_move_110 rfl rfl ?_
    refine z_ialdW C dX7_move_111 hM 16 (by decide) (by first | rfl | exact i15.1 | exact i1.1 | exact i11.1 | exact i23.1 | exact i6.1) (show _ < 30 by omega) ?_
    refine z_top (w := nI ia) (by exact ea) ?_
    have hI2 : zInv (upd x 31 0) (ua (ua (ua a 22 (upd (a 22) (6 * i + t) (a 22 (6 * i + t) + (x 0 - a 19 i)))) 18 (upd (a 18) i (nI w))) 19 (upd (a 19) i (x 0))) := ⟨i0, i1, i6, i11, i15, i23, i24, i29, iA, iS, fun c9 hc9 => ⟨(iC c9 hc9).1, up_le5 (iC c9 hc9).2 hw⟩, iQ, iP⟩
    refine z_callV C Y_X7_region V_X7_region ml_RX7_119 (c_X7_region l hM hI2 (i := ia) (by exact hia)) dX7_move_112 rfl rfl hM.1 ⟨_, _, rfl⟩ (fun _ => Nat.le_of_ble_eq_true rfl) ⟨Nat.le_of_ble_eq_true rfl, Nat.le_of_ble_eq_true rfl⟩ ⟨Nat.le_of_ble_eq_true rfl, Nat.le_of_ble_eq_true rfl⟩ (z_ri (fun x σ1 hx => ?_)) (z_nx)
    obtain ⟨rfl, rfl⟩ := hx
    refine z_iastW C dX7_move_115 hM 20 (by decide) (by first | rfl | exact i15.1 | exact i1.1 | exact i11.1 | exact i23.1 | exact i6.1) (show _ < 30 by omega) (fun σ hM hF9 => ?_)
    replace hF := hF.tr hF9
    refine z_iload C dX7_move_116 rfl ?_
    exact z_iret C hr rfl dX7_move_118 (Nat.le_of_ble_eq_true rfl) (Nat.le_of_ble_eq_true rfl) ⟨_, rfl, zRz.ok h0 (by first | rfl | (simp only [zi]; done) | (simp only [zi]; rfl)) hM rfl (by simp only [zi, zt, za, regS_x]; rw [regS_mv]; rfl) hF⟩
  · refine z_iconst (v := 0) C dX7_move_47 (by decide) ?_
    exact z_iret C hr rfl dX7_move_48 (Nat.le_of_ble_eq_true rfl) (Nat.le_of_ble_eq_true rfl) ⟨_, rfl, zRz.no h0 hM hF⟩

