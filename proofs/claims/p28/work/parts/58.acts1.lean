/-! the law's method acts -/
section ZAW
variable {X : zX} {p : Program} {l : Launch} {e : Env} {s : State} {m : MethodId} {args : Array Value} {below : List Frame} {meth : Method} {c : Code} {nL : Nat} {σ0 σ : zHp} {loc0 : zK → Nat} {Q : State → Prop} {R : Room} {cells slots pc : Nat} {cc : ByteArray} {own : String} {L : List (Nat × zV)} {st : List zV}
theorem z_iastW (C : zC X p l s m args meth c cc nL own) {x x2 : Nat → Int32} {a a2 A : Nat → Nat → Int32} (hW : LW x a x2 a2 A σ) {j idx : Nat} {v : Int32} (hj : j < 5) (hd : decode cc pc = .ok (.iastore, 1)) (hi : idx < lwN j) (kk : ∀ (σ1 : zHp) (A1 : Nat → Nat → Int32), LW x a x2 a2 A1 σ1 → A1 = ua A j (upd (A j) idx v) → zG X p l e R s m args below meth c nL σ0 loc0 Q cells slots σ1 (pc + 1) L st) : zG X p l e R s m args below meth c nL σ0 loc0 Q cells slots σ pc L (aI v :: aI (nI idx) :: aR 80 j :: st) := by
  have hb : lwN j ≤ 1000 := by
    rcases (show j = 0 ∨ j = 1 ∨ j = 2 ∨ j = 3 ∨ j = 4 by omega) with rfl | rfl | rfl | rfl | rfl <;> decide
  exact z_iastN C hd (hW.2.2.1 j hj) (by decide) hi hb (kk _ _ (hW.put j hj _) rfl)
end ZAW
/-- at the end of acts: both desks alike, one step more -/
def AcQ (K : Nat) (σ : zHp) : Prop := ∃ (x : Nat → Int32) (a A : Nat → Nat → Int32), LW x a x a A σ ∧ TI x a A (K + 1)
abbrev AG (X : zX) (p : Program) (l : Launch) (e : Env) (s : State) (m : MethodId) (args : Array Value) (below : List Frame) (meth : Method) (c : Code) (σ0 : zHp) (loc0 : zK → Nat) (K : Nat) (cells slots : Nat) (σ : zHp) (pc : Nat) (L : List (Nat × zV)) (st : List zV) : Prop := zG X p l e (zRm 11 300 5000) s m args below meth c 18 σ0 loc0 (zQ X σ0 loc0 below (zPi (fun r σ1 => r = 1 ∧ AcQ K σ1)) zNx args s 300 5000) cells slots σ pc L st
theorem ua_same {A : Nat → Nat → Int32} {j i : Nat} {v : Int32} (h : A j i = v) : ua A j (upd (A j) i v) = A := by
  funext k
  by_cases e : k = j
  · rw [e, ua_s, ← h, upd_self]
  · rw [ua_n e]
theorem om1 {b : Bool} : (decide ((-1 : Int32) = -1) || b) = true := by rw [decide_eq_true rfl, Bool.true_or]
theorem up_o {u n : Nat} {x1 : Int32} {b : Nat} (h1 : zCnt x1 b) (hb : b ≤ 1000) (hn : n = zN x1) (hu : u < n + 1) : (decide (nI u - nI 1 = -1) || inB (nI u - nI 1) 0 (x1 - 1)) = true := by
  cases u with
  | zero => rw [decide_eq_true (show nI 0 - nI 1 = -1 by decide), Bool.true_or]
  | succ j => rw [show nI (j + 1) - nI 1 = nI j from nI_pred j, inB_nI h1 hb (by omega), Bool.or_true]
theorem or_f {n : Nat} {q : Bool} (hn : n < 2 ^ 31) (h : q = false) : (decide (nI n = -1) || q) = false := by rw [decide_eq_false (nI_nm1 hn), h]; rfl
theorem lt_t {v : Int32} {n b : Nat} (h : zCnt v b) (hb : b ≤ 1000) (hn : zN v < n) (hn2 : n ≤ 1000) : decide (v < nI n) = true := decide_eq_true (by rw [h.1]; exact nI_lt hn (by omega))
theorem lt_f {v : Int32} {n b : Nat} (h : zCnt v b) (hb : b ≤ 1000) (hn : n ≤ zN v) : decide (v < nI n) = false := decide_eq_false (by rw [h.1]; exact nI_nlt hn (by have := h.2; omega))
theorem inB_hi {n b : Nat} {v lo : Int32} (h : zCnt v b) (hb : b ≤ 1000) (hm : zN v < n) (hn : n < 2 ^ 31) : inB (nI n) lo v = false := inB_f (Or.inr (by rw [h.1]; exact nI_lt hm hn))
section AC1
variable {X : zX} {p : Program} {l : Launch} {e : Env} {s : State} {m : MethodId} {args : Array Value} {below : List Frame} {meth : Method} {c9 : Code} {σ0 σ : zHp} {loc0 : zK → Nat} {x : Nat → Int32} {a A : Nat → Nat → Int32} {K kd ac se ch : Nat} {xx yy : Int32}
set_option maxRecDepth 100000 in
set_option maxHeartbeats 4000000 in
theorem ac_acc (C : zC X p l s m args meth c9 cL_acts 18 RL) (hr : meth.sig.returnType = some .boolean) (hW : LW x a x a A σ) (hT : TI x a A K) (hK : K < 95) : AG X p l e s m args below meth c9 σ0 loc0 K 0 0 σ 21 [(0, aR 0 0), (1, aR 40 0), (2, aR 80 0), (3, aR 80 1), (4, aR 80 2), (5, aR 80 3), (6, aR 80 4), (7, aI (xx)), (8, aI (yy)), (9, aI (nI (kd)))] [] := by
  obtain ⟨hI, hJ, ⟨⟨t0, t1, t2, t3, t4, t5, t6⟩, hTa, hTb, hTd, hTq⟩, h0⟩ := id hT
  obtain ⟨i0, i1, i6, i11, i15, i23, i24, i29, iA, iS, iC, iQ, iP⟩ := id hI.1
  have b0 := i0.2
  have b1 := i1.2
  have b6 := i6.2
  have b11 := i11.2
  have b15 := hJ.1.1
  have b23 := hJ.1.2
  have b29 := i29.2
  have g0 : A 4 0 = nI (zN (x 1)) := t0.trans i1.1
  have g1 : A 4 1 = nI (zN (x 11)) := t1.trans i11.1
  have g2 : A 4 2 = nI (zN (x 15)) := t2.trans i15.1
  have g3 : A 4 3 = nI (zN (x 23)) := t3.trans i23.1
  have g4 : A 4 4 = nI (zN (x 6)) := t4.trans i6.1
  have g5 : A 4 5 = nI (zN (x 29)) := t5.trans i29.1
  have g6 : A 4 6 = nI (zN (x 0)) := t6.trans i0.1
  have hK1 := hT.up
  have hxb : ∀ n, n ≤ 100 → n < 2 ^ 31 := fun n h => by omega
  obtain ⟨up, eu⟩ : ∃ up, lowN yy (zN (x 1) + 1) = up := ⟨_, rfl⟩
  have hu : up < zN (x 1) + 1 := by rw [← eu]; exact lowN_lt (by omega)
  rcases Nat.lt_or_ge (zN (x 1)) 16 with hn | hn
  · refine z_aload C dL_acts_21 rfl ?_
    refine z_iconst (v := nI 0) C dL_acts_23 (by decide) ?_
    refine z_ialdN C dL_acts_24 (hW.2.2.1 4 (by decide)) (show _ < 7 by omega) (by decide) ?_
    refine z_top (w := (nI (zN (x 1)))) (g0) ?_
    refine z_istore C dL_acts_25 (by decide) ?_
    refine z_iload C dL_acts_27 rfl ?_
    refine z_iload C dL_acts_29 rfl ?_
    refine z_iconst (v := nI 1) C dL_acts_31 (by decide) ?_
    refine z_iadd C dL_acts_32 ?_
    refine z_top (w := (nI ((zN (x 1) + 1)))) (nI_add _ _) ?_
    refine z_callS C Y_L_low sm_yL_low ml_RL_147 (c_L_low l (n := zN (x 1) + 1) (by omega) (by omega)) dL_acts_33 rfl rfl (fun _ => Nat.le_of_ble_eq_true rfl) ⟨Nat.le_of_ble_eq_true rfl, Nat.le_of_ble_eq_true rfl⟩ (by show _ ≤ 300 ∧ _ ≤ 5000; omega) (z_p0 (w := (nI (up))) (congrArg nI eu) ?_) z_nx
    refine z_iconst (v := nI 1) C dL_acts_36 (by decide) ?_
    refine z_isub C dL_acts_37 ?_
    refine z_istore C dL_acts_38 (by decide) ?_
    refine z_iload C dL_acts_40 rfl ?_
    refine z_bipush (v := nI 16) C dL_acts_42 (by decide) ?_
    refine z_icmp_ge (tgt := 52) C dL_acts_44 (by decide) (fun h => absurd h (nI_ge (b := 16) hn (by decide))) (fun _ => ?_)
    refine z_iload C dL_acts_47 rfl ?_
    refine z_goto (tgt := 54) C dL_acts_49 (by decide) ?_
    refine z_istore C dL_acts_54 (by decide) ?_
    refine z_iload C dL_acts_56 rfl ?_
    refine z_if_lt (tgt := 77) C dL_acts_58 (by decide) (fun h => absurd h (nI_pos (by omega))) (fun _ => ?_)
    refine z_aload_n (i := 2) C dL_acts_61 rfl rfl ?_
    refine z_iconst (v := nI 4) C dL_acts_62 (by decide) ?_
    refine z_iload C dL_acts_63 rfl ?_
    refine z_imul C dL_acts_65 ?_
    refine z_top (w := (nI ((4 * zN (x 1))))) (pk_mul _ _) ?_
    refine z_iload C dL_acts_66 rfl ?_
    refine z_iastW (idx := (4 * zN (x 1))) C hW (j := 0) (by decide) dL_acts_68 (show _ < 64 by omega) (fun σ1 A1 hW1 eA1 => ?_)
    have g0_1 : A1 4 0 = nI (zN (x 1)) := by rw [eA1]; exact g0
    have g1_1 : A1 4 1 = nI (zN (x 11)) := by rw [eA1]; exact g1
    have g2_1 : A1 4 2 = nI (zN (x 15)) := by rw [eA1]; exact g2
    have g3_1 : A1 4 3 = nI (zN (x 23)) := by rw [eA1]; exact g3
    have g4_1 : A1 4 4 = nI (zN (x 6)) := by rw [eA1]; exact g4
    have g5_1 : A1 4 5 = nI (zN (x 29)) := by rw [eA1]; exact g5
    have g6_1 : A1 4 6 = nI (zN (x 0)) := by rw [eA1]; exact g6
    refine z_aload C dL_acts_69 rfl ?_
    refine z_iconst (v := nI 0) C dL_acts_71 (by decide) ?_
    refine z_dup2 C (by first | trivial | rfl) (by first | trivial | rfl) dL_acts_72 ?_
    refine z_ialdN C dL_acts_73 (hW1.2.2.1 4 (by decide)) (show _ < 7 by omega) (by decide) ?_
    refine z_top (w := (nI (zN (x 1)))) (g0_1) ?_
    refine z_iconst (v := nI 1) C dL_acts_74 (by decide) ?_
    refine z_iadd C dL_acts_75 ?_
    refine z_top (w := (nI ((zN (x 1) + 1)))) (nI_add _ _) ?_
    refine z_iastW (idx := 0) C hW1 (j := 4) (by decide) dL_acts_76 (show _ < 7 by omega) (fun σ2 A2 hW2 eA2 => ?_)
    have g0_2 : A2 4 0 = nI ((zN (x 1) + 1)) := by rw [eA2, ua_s]; exact upd_at
    have g1_2 : A2 4 1 = nI (zN (x 11)) := by rw [eA2]; exact g1_1
    have g2_2 : A2 4 2 = nI (zN (x 15)) := by rw [eA2]; exact g2_1
    have g3_2 : A2 4 3 = nI (zN (x 23)) := by rw [eA2]; exact g3_1
    have g4_2 : A2 4 4 = nI (zN (x 6)) := by rw [eA2]; exact g4_1
    have g5_2 : A2 4 5 = nI (zN (x 29)) := by rw [eA2]; exact g5_1
    have g6_2 : A2 4 6 = nI (zN (x 0)) := by rw [eA2]; exact g6_1
    refine z_aload_n (i := 0) C dL_acts_77 rfl rfl ?_
    refine z_iload C dL_acts_78 rfl ?_
    refine z_iload C dL_acts_80 rfl ?_
    refine z_iconst (v := nI 4) C dL_acts_82 (by decide) ?_
    refine z_ishr C dL_acts_83 ?_
    refine z_bipush (v := nI 10) C dL_acts_84 (by decide) ?_
    refine z_callS C Y_L_low sm_yL_low ml_RL_147 (c_L_low l (n := 10) (by omega) (by omega)) dL_acts_86 rfl rfl (fun _ => Nat.le_of_ble_eq_true rfl) ⟨Nat.le_of_ble_eq_true rfl, Nat.le_of_ble_eq_true rfl⟩ (by show _ ≤ 300 ∧ _ ≤ 5000; omega) (z_p0 (w := (nI (lowN (yy >>> (nI 4 &&& 31)) 10))) (rfl) ?_) z_nx
    refine z_iload C dL_acts_89 rfl ?_
    refine z_bipush (v := nI 8) C dL_acts_91 (by decide) ?_
    refine z_ishr C dL_acts_93 ?_
    refine z_bipush (v := nI 10) C dL_acts_94 (by decide) ?_
    refine z_callS C Y_L_low sm_yL_low ml_RL_147 (c_L_low l (n := 10) (by omega) (by omega)) dL_acts_96 rfl rfl (fun _ => Nat.le_of_ble_eq_true rfl) ⟨Nat.le_of_ble_eq_true rfl, Nat.le_of_ble_eq_true rfl⟩ (by show _ ≤ 300 ∧ _ ≤ 5000; omega) (z_p0 (w := (nI (lowN (yy >>> (nI 8 &&& 31)) 10))) (rfl) ?_) z_nx
    refine z_callSX C Y_L_addAccount sm_yL_addAccount ml_RL_150 (c_L_addAccount l hW2.1 hI) dL_acts_99 rfl rfl (fun _ => Nat.le_of_ble_eq_true rfl) ⟨Nat.le_of_ble_eq_true rfl, Nat.le_of_ble_eq_true rfl⟩ (by show _ ≤ 300 ∧ _ ≤ 5000; omega) (z_w0 (w := (nI (zN (x 1)))) hW2 (goC_0.mpr ⟨(show (decide (nI up - nI 1 = -1) || isAcc x (nI up - nI 1)) = true from up_o i1 (by decide) rfl hu), (band (inB_nn (a := 0) (b := 9) (by omega) (by have := @lowN_lt (yy >>> (nI 4 &&& 31)) 10 (by decide); omega) (by decide)) (inB_nn (a := 0) (b := 9) (by omega) (by have := @lowN_lt (yy >>> (nI 8 &&& 31)) 10 (by decide); omega) (by decide))), lt_t (n := 16) i1 (by decide) hn (by decide)⟩) (i1.1) (fun σ3 hW3 => ?_)) z_nx
    refine z_iload C dL_acts_102 rfl ?_
    refine z_icmp_ne (tgt := 182) C dL_acts_104 (by decide) (fun h => absurd (rfl) h) (fun _ => ?_)
    refine z_aload_n (i := 1) C dL_acts_107 rfl rfl ?_
    refine z_iload C dL_acts_108 rfl ?_
    refine z_iload C dL_acts_110 rfl ?_
    refine z_iconst (v := nI 4) C dL_acts_112 (by decide) ?_
    refine z_ishr C dL_acts_113 ?_
    refine z_bipush (v := nI 10) C dL_acts_114 (by decide) ?_
    refine z_callS C Y_L_low sm_yL_low ml_RL_147 (c_L_low l (n := 10) (by omega) (by omega)) dL_acts_116 rfl rfl (fun _ => Nat.le_of_ble_eq_true rfl) ⟨Nat.le_of_ble_eq_true rfl, Nat.le_of_ble_eq_true rfl⟩ (by show _ ≤ 300 ∧ _ ≤ 5000; omega) (z_p0 (w := (nI (lowN (yy >>> (nI 4 &&& 31)) 10))) (rfl) ?_) z_nx
    refine z_iload C dL_acts_119 rfl ?_
    refine z_bipush (v := nI 8) C dL_acts_121 (by decide) ?_
    refine z_ishr C dL_acts_123 ?_
    refine z_bipush (v := nI 10) C dL_acts_124 (by decide) ?_
    refine z_callS C Y_L_low sm_yL_low ml_RL_147 (c_L_low l (n := 10) (by omega) (by omega)) dL_acts_126 rfl rfl (fun _ => Nat.le_of_ble_eq_true rfl) ⟨Nat.le_of_ble_eq_true rfl, Nat.le_of_ble_eq_true rfl⟩ (by show _ ≤ 300 ∧ _ ≤ 5000; omega) (z_p0 (w := (nI (lowN (yy >>> (nI 8 &&& 31)) 10))) (rfl) ?_) z_nx
    refine z_callSX C Y_L_addAccount sm_yL_addAccount ml_RL_150 (c_T_addAccount l hW3.2.1 hI) dL_acts_129 rfl rfl (fun _ => Nat.le_of_ble_eq_true rfl) ⟨Nat.le_of_ble_eq_true rfl, Nat.le_of_ble_eq_true rfl⟩ (by show _ ≤ 300 ∧ _ ≤ 5000; omega) (z_x0 (w := (nI (zN (x 1)))) hW3 (goC_0.mpr ⟨(show (decide (nI up - nI 1 = -1) || isAcc x (nI up - nI 1)) = true from up_o i1 (by decide) rfl hu), (band (inB_nn (a := 0) (b := 9) (by omega) (by have := @lowN_lt (yy >>> (nI 4 &&& 31)) 10 (by decide); omega) (by decide)) (inB_nn (a := 0) (b := 9) (by omega) (by have := @lowN_lt (yy >>> (nI 8 &&& 31)) 10 (by decide); omega) (by decide))), lt_t (n := 16) i1 (by decide) hn (by decide)⟩) (i1.1) (fun σ4 hW4 => ?_)) z_nx
    refine z_iload C dL_acts_132 rfl ?_
    refine z_icmp_ne (tgt := 182) C dL_acts_134 (by decide) (fun h => absurd (rfl) h) (fun _ => ?_)
    have hT2 := keep_account (A' := A2) (o := nI up - nI 1) (w := nI (lowN (yy >>> (nI 4 &&& 31)) 10)) (g := nI (lowN (yy >>> (nI 8 &&& 31)) 10)) hT (show (decide (nI up - nI 1 = -1) || isAcc x (nI up - nI 1)) = true from up_o i1 (by decide) rfl hu) hn (by subst eA2; subst eA1; rfl) (by subst eA2; subst eA1; rfl) (by subst eA2; subst eA1; rfl) (by subst eA2; subst eA1; rfl) (by subst eA2; subst eA1; rfl)
    have hI2 := hT2.1
    have hacn : isAcc (upd x 1 (x 1 + 1)) (nI (zN (x 1) + 1)) = false := by
      have h9 := kacc_n hI2
      rw [upd_at, (zN_s i1 (by decide)).2] at h9
      exact h9
    refine z_aload_n (i := 0) C dL_acts_137 rfl rfl ?_
    refine z_aload C dL_acts_138 rfl ?_
    refine z_iconst (v := nI 0) C dL_acts_140 (by decide) ?_
    refine z_ialdN C dL_acts_141 (hW4.2.2.1 4 (by decide)) (show _ < 7 by omega) (by decide) ?_
    refine z_top (w := (nI ((zN (x 1) + 1)))) (g0_2) ?_
    refine z_bipush (v := nI 10) C dL_acts_142 (by decide) ?_
    refine z_iconst (v := nI 0) C dL_acts_144 (by decide) ?_
    refine z_callSX C Y_L_addAccount sm_yL_addAccount ml_RL_150 (c_L_addAccount l hW4.1 hI2) dL_acts_145 rfl rfl (fun _ => Nat.le_of_ble_eq_true rfl) ⟨Nat.le_of_ble_eq_true rfl, Nat.le_of_ble_eq_true rfl⟩ (by show _ ≤ 300 ∧ _ ≤ 5000; omega) (z_w1 (kx_1 (or_f (by omega) hacn)) ?_) z_nx
    refine z_ldc C dL_acts_148 kc_RL_28 ?_
    refine z_icmp_ne (tgt := 182) C dL_acts_150 (by decide) (fun h => absurd (rfl) h) (fun _ => ?_)
    refine z_aload_n (i := 0) C dL_acts_153 rfl rfl ?_
    refine z_iconst (v := (-1)) C dL_acts_154 (by decide) ?_
    refine z_bipush (v := nI 10) C dL_acts_155 (by decide) ?_
    refine z_iconst (v := nI 0) C dL_acts_157 (by decide) ?_
    refine z_callSX C Y_L_addAccount sm_yL_addAccount ml_RL_150 (c_L_addAccount l hW4.1 hI2) dL_acts_158 rfl rfl (fun _ => Nat.le_of_ble_eq_true rfl) ⟨Nat.le_of_ble_eq_true rfl, Nat.le_of_ble_eq_true rfl⟩ (by show _ ≤ 300 ∧ _ ≤ 5000; omega) (z_w2 (kx_2 om1 (by decide)) ?_) z_nx
    refine z_ldc C dL_acts_161 kc_RL_18 ?_
    refine z_icmp_ne (tgt := 182) C dL_acts_163 (by decide) (fun h => absurd (rfl) h) (fun _ => ?_)
    refine z_aload_n (i := 0) C dL_acts_166 rfl rfl ?_
    refine z_iconst (v := (-1)) C dL_acts_167 (by decide) ?_
    refine z_iconst (v := nI 0) C dL_acts_168 (by decide) ?_
    refine z_iconst (v := (-1)) C dL_acts_169 (by decide) ?_
    refine z_callSX C Y_L_addAccount sm_yL_addAccount ml_RL_150 (c_L_addAccount l hW4.1 hI2) dL_acts_170 rfl rfl (fun _ => Nat.le_of_ble_eq_true rfl) ⟨Nat.le_of_ble_eq_true rfl, Nat.le_of_ble_eq_true rfl⟩ (by show _ ≤ 300 ∧ _ ≤ 5000; omega) (z_w2 (kx_2 om1 (by decide)) ?_) z_nx
    refine z_ldc C dL_acts_173 kc_RL_18 ?_
    refine z_icmp_ne (tgt := 182) C dL_acts_175 (by decide) (fun h => absurd (rfl) h) (fun _ => ?_)
    refine z_iconst (v := nI 1) C dL_acts_178 (by decide) ?_
    refine z_goto (tgt := 183) C dL_acts_179 (by decide) ?_
    exact z_iret C hr rfl dL_acts_183 (Nat.le_of_ble_eq_true rfl) (Nat.le_of_ble_eq_true rfl) ⟨_, rfl, rfl, _, _, A2, hW4, hT2.up⟩
  · refine z_aload C dL_acts_21 rfl ?_
    refine z_iconst (v := nI 0) C dL_acts_23 (by decide) ?_
    refine z_ialdN C dL_acts_24 (hW.2.2.1 4 (by decide)) (show _ < 7 by omega) (by decide) ?_
    refine z_top (w := (nI (zN (x 1)))) (g0) ?_
    refine z_istore C dL_acts_25 (by decide) ?_
    refine z_iload C dL_acts_27 rfl ?_
    refine z_iload C dL_acts_29 rfl ?_
    refine z_iconst (v := nI 1) C dL_acts_31 (by decide) ?_
    refine z_iadd C dL_acts_32 ?_
    refine z_top (w := (nI ((zN (x 1) + 1)))) (nI_add _ _) ?_
    refine z_callS C Y_L_low sm_yL_low ml_RL_147 (c_L_low l (n := zN (x 1) + 1) (by omega) (by omega)) dL_acts_33 rfl rfl (fun _ => Nat.le_of_ble_eq_true rfl) ⟨Nat.le_of_ble_eq_true rfl, Nat.le_of_ble_eq_true rfl⟩ (by show _ ≤ 300 ∧ _ ≤ 5000; omega) (z_p0 (w := (nI (up))) (congrArg nI eu) ?_) z_nx
    refine z_iconst (v := nI 1) C dL_acts_36 (by decide) ?_
    refine z_isub C dL_acts_37 ?_
    refine z_istore C dL_acts_38 (by decide) ?_
    refine z_iload C dL_acts_40 rfl ?_
    refine z_bipush (v := nI 16) C dL_acts_42 (by decide) ?_
    refine z_icmp_ge (tgt := 52) C dL_acts_44 (by decide) (fun _ => ?_) (fun h => absurd (nI_le (a := 16) hn (by omega)) h)
    refine z_ldc C dL_acts_52 kc_RL_21 ?_
    refine z_istore C dL_acts_54 (by decide) ?_
    refine z_iload C dL_acts_56 rfl ?_
    refine z_if_lt (tgt := 77) C dL_acts_58 (by decide) (fun _ => ?_) (fun h => absurd (by decide) h)
    refine z_aload_n (i := 0) C dL_acts_77 rfl rfl ?_
    refine z_iload C dL_acts_78 rfl ?_
    refine z_iload C dL_acts_80 rfl ?_
    refine z_iconst (v := nI 4) C dL_acts_82 (by decide) ?_
    refine z_ishr C dL_acts_83 ?_
    refine z_bipush (v := nI 10) C dL_acts_84 (by decide) ?_
    refine z_callS C Y_L_low sm_yL_low ml_RL_147 (c_L_low l (n := 10) (by omega) (by omega)) dL_acts_86 rfl rfl (fun _ => Nat.le_of_ble_eq_true rfl) ⟨Nat.le_of_ble_eq_true rfl, Nat.le_of_ble_eq_true rfl⟩ (by show _ ≤ 300 ∧ _ ≤ 5000; omega) (z_p0 (w := (nI (lowN (yy >>> (nI 4 &&& 31)) 10))) (rfl) ?_) z_nx
    refine z_iload C dL_acts_89 rfl ?_
    refine z_bipush (v := nI 8) C dL_acts_91 (by decide) ?_
    refine z_ishr C dL_acts_93 ?_
    refine z_bipush (v := nI 10) C dL_acts_94 (by decide) ?_
    refine z_callS C Y_L_low sm_yL_low ml_RL_147 (c_L_low l (n := 10) (by omega) (by omega)) dL_acts_96 rfl rfl (fun _ => Nat.le_of_ble_eq_true rfl) ⟨Nat.le_of_ble_eq_true rfl, Nat.le_of_ble_eq_true rfl⟩ (by show _ ≤ 300 ∧ _ ≤ 5000; omega) (z_p0 (w := (nI (lowN (yy >>> (nI 8 &&& 31)) 10))) (rfl) ?_) z_nx
    refine z_callSX C Y_L_addAccount sm_yL_addAccount ml_RL_150 (c_L_addAccount l hW.1 hI) dL_acts_99 rfl rfl (fun _ => Nat.le_of_ble_eq_true rfl) ⟨Nat.le_of_ble_eq_true rfl, Nat.le_of_ble_eq_true rfl⟩ (by show _ ≤ 300 ∧ _ ≤ 5000; omega) (z_w3 (kx_3 (show (decide (nI up - nI 1 = -1) || isAcc x (nI up - nI 1)) = true from up_o i1 (by decide) rfl hu) (band (inB_nn (a := 0) (b := 9) (by omega) (by have := @lowN_lt (yy >>> (nI 4 &&& 31)) 10 (by decide); omega) (by decide)) (inB_nn (a := 0) (b := 9) (by omega) (by have := @lowN_lt (yy >>> (nI 8 &&& 31)) 10 (by decide); omega) (by decide))) (lt_f (n := 16) i1 (by decide) hn)) ?_) z_nx
    refine z_iload C dL_acts_102 rfl ?_
    refine z_icmp_ne (tgt := 182) C dL_acts_104 (by decide) (fun h => absurd (rfl) h) (fun _ => ?_)
    refine z_aload_n (i := 1) C dL_acts_107 rfl rfl ?_
    refine z_iload C dL_acts_108 rfl ?_
    refine z_iload C dL_acts_110 rfl ?_
    refine z_iconst (v := nI 4) C dL_acts_112 (by decide) ?_
    refine z_ishr C dL_acts_113 ?_
    refine z_bipush (v := nI 10) C dL_acts_114 (by decide) ?_
    refine z_callS C Y_L_low sm_yL_low ml_RL_147 (c_L_low l (n := 10) (by omega) (by omega)) dL_acts_116 rfl rfl (fun _ => Nat.le_of_ble_eq_true rfl) ⟨Nat.le_of_ble_eq_true rfl, Nat.le_of_ble_eq_true rfl⟩ (by show _ ≤ 300 ∧ _ ≤ 5000; omega) (z_p0 (w := (nI (lowN (yy >>> (nI 4 &&& 31)) 10))) (rfl) ?_) z_nx
    refine z_iload C dL_acts_119 rfl ?_
    refine z_bipush (v := nI 8) C dL_acts_121 (by decide) ?_
    refine z_ishr C dL_acts_123 ?_
    refine z_bipush (v := nI 10) C dL_acts_124 (by decide) ?_
    refine z_callS C Y_L_low sm_yL_low ml_RL_147 (c_L_low l (n := 10) (by omega) (by omega)) dL_acts_126 rfl rfl (fun _ => Nat.le_of_ble_eq_true rfl) ⟨Nat.le_of_ble_eq_true rfl, Nat.le_of_ble_eq_true rfl⟩ (by show _ ≤ 300 ∧ _ ≤ 5000; omega) (z_p0 (w := (nI (lowN (yy >>> (nI 8 &&& 31)) 10))) (rfl) ?_) z_nx
    refine z_callSX C Y_L_addAccount sm_yL_addAccount ml_RL_150 (c_T_addAccount l hW.2.1 hI) dL_acts_129 rfl rfl (fun _ => Nat.le_of_ble_eq_true rfl) ⟨Nat.le_of_ble_eq_true rfl, Nat.le_of_ble_eq_true rfl⟩ (by show _ ≤ 300 ∧ _ ≤ 5000; omega) (z_x3 (kx_3 (show (decide (nI up - nI 1 = -1) || isAcc x (nI up - nI 1)) = true from up_o i1 (by decide) rfl hu) (band (inB_nn (a := 0) (b := 9) (by omega) (by have := @lowN_lt (yy >>> (nI 4 &&& 31)) 10 (by decide); omega) (by decide)) (inB_nn (a := 0) (b := 9) (by omega) (by have := @lowN_lt (yy >>> (nI 8 &&& 31)) 10 (by decide); omega) (by decide))) (lt_f (n := 16) i1 (by decide) hn)) ?_) z_nx
    refine z_iload C dL_acts_132 rfl ?_
    refine z_icmp_ne (tgt := 182) C dL_acts_134 (by decide) (fun h => absurd (rfl) h) (fun _ => ?_)
    refine z_aload_n (i := 0) C dL_acts_137 rfl rfl ?_
    refine z_aload C dL_acts_138 rfl ?_
    refine z_iconst (v := nI 0) C dL_acts_140 (by decide) ?_
    refine z_ialdN C dL_acts_141 (hW.2.2.1 4 (by decide)) (show _ < 7 by omega) (by decide) ?_
    refine z_top (w := (nI (zN (x 1)))) (g0) ?_
    refine z_bipush (v := nI 10) C dL_acts_142 (by decide) ?_
    refine z_iconst (v := nI 0) C dL_acts_144 (by decide) ?_
    refine z_callSX C Y_L_addAccount sm_yL_addAccount ml_RL_150 (c_L_addAccount l hW.1 hI) dL_acts_145 rfl rfl (fun _ => Nat.le_of_ble_eq_true rfl) ⟨Nat.le_of_ble_eq_true rfl, Nat.le_of_ble_eq_true rfl⟩ (by show _ ≤ 300 ∧ _ ≤ 5000; omega) (z_w1 (kx_1 (or_f (by omega) (kacc_n hI))) ?_) z_nx
    refine z_ldc C dL_acts_148 kc_RL_28 ?_
    refine z_icmp_ne (tgt := 182) C dL_acts_150 (by decide) (fun h => absurd (rfl) h) (fun _ => ?_)
    refine z_aload_n (i := 0) C dL_acts_153 rfl rfl ?_
    refine z_iconst (v := (-1)) C dL_acts_154 (by decide) ?_
    refine z_bipush (v := nI 10) C dL_acts_155 (by decide) ?_
    refine z_iconst (v := nI 0) C dL_acts_157 (by decide) ?_
    refine z_callSX C Y_L_addAccount sm_yL_addAccount ml_RL_150 (c_L_addAccount l hW.1 hI) dL_acts_158 rfl rfl (fun _ => Nat.le_of_ble_eq_true rfl) ⟨Nat.le_of_ble_eq_true rfl, Nat.le_of_ble_eq_true rfl⟩ (by show _ ≤ 300 ∧ _ ≤ 5000; omega) (z_w2 (kx_2 om1 (by decide)) ?_) z_nx
    refine z_ldc C dL_acts_161 kc_RL_18 ?_
    refine z_icmp_ne (tgt := 182) C dL_acts_163 (by decide) (fun h => absurd (rfl) h) (fun _ => ?_)
    refine z_aload_n (i := 0) C dL_acts_166 rfl rfl ?_
    refine z_iconst (v := (-1)) C dL_acts_167 (by decide) ?_
    refine z_iconst (v := nI 0) C dL_acts_168 (by decide) ?_
    refine z_iconst (v := (-1)) C dL_acts_169 (by decide) ?_
    refine z_callSX C Y_L_addAccount sm_yL_addAccount ml_RL_150 (c_L_addAccount l hW.1 hI) dL_acts_170 rfl rfl (fun _ => Nat.le_of_ble_eq_true rfl) ⟨Nat.le_of_ble_eq_true rfl, Nat.le_of_ble_eq_true rfl⟩ (by show _ ≤ 300 ∧ _ ≤ 5000; omega) (z_w2 (kx_2 om1 (by decide)) ?_) z_nx
    refine z_ldc C dL_acts_173 kc_RL_18 ?_
    refine z_icmp_ne (tgt := 182) C dL_acts_175 (by decide) (fun h => absurd (rfl) h) (fun _ => ?_)
    refine z_iconst (v := nI 1) C dL_acts_178 (by decide) ?_
    refine z_goto (tgt := 183) C dL_acts_179 (by decide) ?_
    exact z_iret C hr rfl dL_acts_183 (Nat.le_of_ble_eq_true rfl) (Nat.le_of_ble_eq_true rfl) ⟨_, rfl, rfl, x, a, A, hW, hK1⟩
set_option maxRecDepth 100000 in
set_option maxHeartbeats 4000000 in
theorem ac_sel (C : zC X p l s m args meth c9 cL_acts 18 RL) (hr : meth.sig.returnType = some .boolean) (hW : LW x a x a A σ) (hT : TI x a A K) (hK : K < 95) : AG X p l e s m args below meth c9 σ0 loc0 K 0 0 σ 198 [(0, aR 0 0), (1, aR 40 0), (2, aR 80 0), (3, aR 80 1), (4, aR 80 2), (5, aR 80 3), (6, aR 80 4), (7, aI (xx)), (8, aI (yy)), (9, aI (nI (kd)))] [] := by
  obtain ⟨hI, hJ, ⟨⟨t0, t1, t2, t3, t4, t5, t6⟩, hTa, hTb, hTd, hTq⟩, h0⟩ := id hT
  obtain ⟨i0, i1, i6, i11, i15, i23, i24, i29, iA, iS, iC, iQ, iP⟩ := id hI.1
  have b0 := i0.2
  have b1 := i1.2
  have b6 := i6.2
  have b11 := i11.2
  have b15 := hJ.1.1
  have b23 := hJ.1.2
  have b29 := i29.2
  have g0 : A 4 0 = nI (zN (x 1)) := t0.trans i1.1
  have g1 : A 4 1 = nI (zN (x 11)) := t1.trans i11.1
  have g2 : A 4 2 = nI (zN (x 15)) := t2.trans i15.1
  have g3 : A 4 3 = nI (zN (x 23)) := t3.trans i23.1
  have g4 : A 4 4 = nI (zN (x 6)) := t4.trans i6.1
  have g5 : A 4 5 = nI (zN (x 29)) := t5.trans i29.1
  have g6 : A 4 6 = nI (zN (x 0)) := t6.trans i0.1
  have hK1 := hT.up
  have hxb : ∀ n, n ≤ 100 → n < 2 ^ 31 := fun n h => by omega
  obtain ⟨up, eu⟩ : ∃ up, lowN yy (zN (x 11) + 1) = up := ⟨_, rfl⟩
  have hu : up < zN (x 11) + 1 := by rw [← eu]; exact lowN_lt (by omega)
  obtain ⟨li, el⟩ : ∃ li, lowN (yy >>> (nI 4 &&& 31)) 100 = li := ⟨_, rfl⟩
  have hl : li < 100 := by rw [← el]; exact lowN_lt (by omega)
  rcases Nat.lt_or_ge (zN (x 11)) 8 with hn | hn
  · refine z_aload C dL_acts_198 rfl ?_
    refine z_iconst (v := nI 1) C dL_acts_200 (by decide) ?_
    refine z_ialdN C dL_acts_201 (hW.2.2.1 4 (by decide)) (show _ < 7 by omega) (by decide) ?_
    refine z_top (w := (nI (zN (x 11)))) (g1) ?_
    refine z_istore C dL_acts_202 (by decide) ?_
    refine z_iload C dL_acts_204 rfl ?_
    refine z_iload C dL_acts_206 rfl ?_
    refine z_iconst (v := nI 1) C dL_acts_208 (by decide) ?_
    refine z_iadd C dL_acts_209 ?_
    refine z_top (w := (nI ((zN (x 11) + 1)))) (nI_add _ _) ?_
    refine z_callS C Y_L_low sm_yL_low ml_RL_147 (c_L_low l (n := zN (x 11) + 1) (by omega) (by omega)) dL_acts_210 rfl rfl (fun _ => Nat.le_of_ble_eq_true rfl) ⟨Nat.le_of_ble_eq_true rfl, Nat.le_of_ble_eq_true rfl⟩ (by show _ ≤ 300 ∧ _ ≤ 5000; omega) (z_p0 (w := (nI (up))) (congrArg nI eu) ?_) z_nx
    refine z_iconst (v := nI 1) C dL_acts_213 (by decide) ?_
    refine z_isub C dL_acts_214 ?_
    refine z_istore C dL_acts_215 (by decide) ?_
    refine z_iload C dL_acts_217 rfl ?_
    refine z_iconst (v := nI 4) C dL_acts_219 (by decide) ?_
    refine z_ishr C dL_acts_220 ?_
    refine z_bipush (v := nI 100) C dL_acts_221 (by decide) ?_
    refine z_callS C Y_L_low sm_yL_low ml_RL_147 (c_L_low l (n := 100) (by omega) (by omega)) dL_acts_223 rfl rfl (fun _ => Nat.le_of_ble_eq_true rfl) ⟨Nat.le_of_ble_eq_true rfl, Nat.le_of_ble_eq_true rfl⟩ (by show _ ≤ 300 ∧ _ ≤ 5000; omega) (z_p0 (w := (nI (li))) (congrArg nI el) ?_) z_nx
    refine z_istore C dL_acts_226 (by decide) ?_
    refine z_iload C dL_acts_228 rfl ?_
    refine z_bipush (v := nI 8) C dL_acts_230 (by decide) ?_
    refine z_icmp_ge (tgt := 240) C dL_acts_232 (by decide) (fun h => absurd h (nI_ge (b := 8) hn (by decide))) (fun _ => ?_)
    refine z_iload C dL_acts_235 rfl ?_
    refine z_goto (tgt := 242) C dL_acts_237 (by decide) ?_
    refine z_istore C dL_acts_242 (by decide) ?_
    refine z_iload C dL_acts_244 rfl ?_
    refine z_if_lt (tgt := 275) C dL_acts_246 (by decide) (fun h => absurd h (nI_pos (by omega))) (fun _ => ?_)
    refine z_aload_n (i := 3) C dL_acts_249 rfl rfl ?_
    refine z_iconst (v := nI 3) C dL_acts_250 (by decide) ?_
    refine z_iload C dL_acts_251 rfl ?_
    refine z_imul C dL_acts_253 ?_
    refine z_top (w := (nI ((3 * zN (x 11))))) (pk_mul _ _) ?_
    refine z_iload C dL_acts_254 rfl ?_
    refine z_iastW (idx := (3 * zN (x 11))) C hW (j := 1) (by decide) dL_acts_256 (show _ < 24 by omega) (fun σ1 A1 hW1 eA1 => ?_)
    have g0_1 : A1 4 0 = nI (zN (x 1)) := by rw [eA1]; exact g0
    have g1_1 : A1 4 1 = nI (zN (x 11)) := by rw [eA1]; exact g1
    have g2_1 : A1 4 2 = nI (zN (x 15)) := by rw [eA1]; exact g2
    have g3_1 : A1 4 3 = nI (zN (x 23)) := by rw [eA1]; exact g3
    have g4_1 : A1 4 4 = nI (zN (x 6)) := by rw [eA1]; exact g4
    have g5_1 : A1 4 5 = nI (zN (x 29)) := by rw [eA1]; exact g5
    have g6_1 : A1 4 6 = nI (zN (x 0)) := by rw [eA1]; exact g6
    refine z_aload_n (i := 3) C dL_acts_257 rfl rfl ?_
    refine z_iconst (v := nI 3) C dL_acts_258 (by decide) ?_
    refine z_iload C dL_acts_259 rfl ?_
    refine z_imul C dL_acts_261 ?_
    refine z_top (w := (nI ((3 * zN (x 11))))) (pk_mul _ _) ?_
    refine z_iconst (v := nI 1) C dL_acts_262 (by decide) ?_
    refine z_iadd C dL_acts_263 ?_
    refine z_top (w := (nI (((3 * zN (x 11)) + 1)))) (nI_add _ _) ?_
    refine z_iload C dL_acts_264 rfl ?_
    refine z_iastW (idx := ((3 * zN (x 11)) + 1)) C hW1 (j := 1) (by decide) dL_acts_266 (show _ < 24 by omega) (fun σ2 A2 hW2 eA2 => ?_)
    have g0_2 : A2 4 0 = nI (zN (x 1)) := by rw [eA2]; exact g0_1
    have g1_2 : A2 4 1 = nI (zN (x 11)) := by rw [eA2]; exact g1_1
    have g2_2 : A2 4 2 = nI (zN (x 15)) := by rw [eA2]; exact g2_1
    have g3_2 : A2 4 3 = nI (zN (x 23)) := by rw [eA2]; exact g3_1
    have g4_2 : A2 4 4 = nI (zN (x 6)) := by rw [eA2]; exact g4_1
    have g5_2 : A2 4 5 = nI (zN (x 29)) := by rw [eA2]; exact g5_1
    have g6_2 : A2 4 6 = nI (zN (x 0)) := by rw [eA2]; exact g6_1
    refine z_aload C dL_acts_267 rfl ?_
    refine z_iconst (v := nI 1) C dL_acts_269 (by decide) ?_
    refine z_dup2 C (by first | trivial | rfl) (by first | trivial | rfl) dL_acts_270 ?_
    refine z_ialdN C dL_acts_271 (hW2.2.2.1 4 (by decide)) (show _ < 7 by omega) (by decide) ?_
    refine z_top (w := (nI (zN (x 11)))) (g1_2) ?_
    refine z_iconst (v := nI 1) C dL_acts_272 (by decide) ?_
    refine z_iadd C dL_acts_273 ?_
    refine z_top (w := (nI ((zN (x 11) + 1)))) (nI_add _ _) ?_
    refine z_iastW (idx := 1) C hW2 (j := 4) (by decide) dL_acts_274 (show _ < 7 by omega) (fun σ3 A3 hW3 eA3 => ?_)
    have g0_3 : A3 4 0 = nI (zN (x 1)) := by rw [eA3]; exact g0_2
    have g1_3 : A3 4 1 = nI ((zN (x 11) + 1)) := by rw [eA3, ua_s]; exact upd_at
    have g2_3 : A3 4 2 = nI (zN (x 15)) := by rw [eA3]; exact g2_2
    have g3_3 : A3 4 3 = nI (zN (x 23)) := by rw [eA3]; exact g3_2
    have g4_3 : A3 4 4 = nI (zN (x 6)) := by rw [eA3]; exact g4_2
    have g5_3 : A3 4 5 = nI (zN (x 29)) := by rw [eA3]; exact g5_2
    have g6_3 : A3 4 6 = nI (zN (x 0)) := by rw [eA3]; exact g6_2
    refine z_aload_n (i := 0) C dL_acts_275 rfl rfl ?_
    refine z_iload C dL_acts_276 rfl ?_
    refine z_iload C dL_acts_278 rfl ?_
    refine z_callSX C Y_L_addSeller sm_yL_addSeller ml_RL_152 (c_L_addSeller l hW3.1 hI) dL_acts_280 rfl rfl (fun _ => Nat.le_of_ble_eq_true rfl) ⟨Nat.le_of_ble_eq_true rfl, Nat.le_of_ble_eq_true rfl⟩ (by show _ ≤ 300 ∧ _ ≤ 5000; omega) (z_w0 (w := (nI (zN (x 11)))) hW3 (goC_0.mpr ⟨(show (decide (nI up - nI 1 = -1) || isSel x (nI up - nI 1)) = true from up_o i11 (by decide) rfl hu), (inB_nn (a := 0) (b := 99) (by omega) (by omega) (by decide)), lt_t (n := 8) i11 (by decide) hn (by decide)⟩) (i11.1) (fun σ4 hW4 => ?_)) z_nx
    refine z_iload C dL_acts_283 rfl ?_
    refine z_icmp_ne (tgt := 329) C dL_acts_285 (by decide) (fun h => absurd (rfl) h) (fun _ => ?_)
    refine z_aload_n (i := 1) C dL_acts_288 rfl rfl ?_
    refine z_iload C dL_acts_289 rfl ?_
    refine z_iload C dL_acts_291 rfl ?_
    refine z_callSX C Y_L_addSeller sm_yL_addSeller ml_RL_152 (c_T_addSeller l hW4.2.1 hI) dL_acts_293 rfl rfl (fun _ => Nat.le_of_ble_eq_true rfl) ⟨Nat.le_of_ble_eq_true rfl, Nat.le_of_ble_eq_true rfl⟩ (by show _ ≤ 300 ∧ _ ≤ 5000; omega) (z_x0 (w := (nI (zN (x 11)))) hW4 (goC_0.mpr ⟨(show (decide (nI up - nI 1 = -1) || isSel x (nI up - nI 1)) = true from up_o i11 (by decide) rfl hu), (inB_nn (a := 0) (b := 99) (by omega) (by omega) (by decide)), lt_t (n := 8) i11 (by decide) hn (by decide)⟩) (i11.1) (fun σ5 hW5 => ?_)) z_nx
    refine z_iload C dL_acts_296 rfl ?_
    refine z_icmp_ne (tgt := 329) C dL_acts_298 (by decide) (fun h => absurd (rfl) h) (fun _ => ?_)
    have hT2 := keep_seller (A' := A3) (o := nI up - nI 1) (w := nI li) hT (show (decide (nI up - nI 1 = -1) || isSel x (nI up - nI 1)) = true from up_o i11 (by decide) rfl hu) hn (by subst eA3; subst eA2; subst eA1; rfl) (by subst eA3; subst eA2; subst eA1; rfl) (by subst eA3; subst eA2; subst eA1; rfl) (by subst eA3; subst eA2; subst eA1; rfl) (by subst eA3; subst eA2; subst eA1; rfl)
    have hI2 := hT2.1
    refine z_aload_n (i := 0) C dL_acts_301 rfl rfl ?_
    refine z_bipush (v := (-2)) C dL_acts_302 (by decide) ?_
    refine z_iconst (v := nI 0) C dL_acts_304 (by decide) ?_
    refine z_callSX C Y_L_addSeller sm_yL_addSeller ml_RL_152 (c_L_addSeller l hW5.1 hI2) dL_acts_305 rfl rfl (fun _ => Nat.le_of_ble_eq_true rfl) ⟨Nat.le_of_ble_eq_true rfl, Nat.le_of_ble_eq_true rfl⟩ (by show _ ≤ 300 ∧ _ ≤ 5000; omega) (z_w1 (kx_1 (show (decide ((-2 : Int32) = -1) || inB (-2) 0 _) = false by rw [decide_eq_false (by decide), inB_f (Or.inl (by decide))]; rfl)) ?_) z_nx
    refine z_ldc C dL_acts_308 kc_RL_28 ?_
    refine z_icmp_ne (tgt := 329) C dL_acts_310 (by decide) (fun h => absurd (rfl) h) (fun _ => ?_)
    refine z_aload_n (i := 0) C dL_acts_313 rfl rfl ?_
    refine z_iconst (v := (-1)) C dL_acts_314 (by decide) ?_
    refine z_bipush (v := nI 100) C dL_acts_315 (by decide) ?_
    refine z_callSX C Y_L_addSeller sm_yL_addSeller ml_RL_152 (c_L_addSeller l hW5.1 hI2) dL_acts_317 rfl rfl (fun _ => Nat.le_of_ble_eq_true rfl) ⟨Nat.le_of_ble_eq_true rfl, Nat.le_of_ble_eq_true rfl⟩ (by show _ ≤ 300 ∧ _ ≤ 5000; omega) (z_w2 (kx_2 om1 (by decide)) ?_) z_nx
    refine z_ldc C dL_acts_320 kc_RL_18 ?_
    refine z_icmp_ne (tgt := 329) C dL_acts_322 (by decide) (fun h => absurd (rfl) h) (fun _ => ?_)
    refine z_iconst (v := nI 1) C dL_acts_325 (by decide) ?_
    refine z_goto (tgt := 330) C dL_acts_326 (by decide) ?_
    exact z_iret C hr rfl dL_acts_330 (Nat.le_of_ble_eq_true rfl) (Nat.le_of_ble_eq_true rfl) ⟨_, rfl, rfl, _, _, A3, hW5, hT2.up⟩
  · refine z_aload C dL_acts_198 rfl ?_
    refine z_iconst (v := nI 1) C dL_acts_200 (by decide) ?_
    refine z_ialdN C dL_acts_201 (hW.2.2.1 4 (by decide)) (show _ < 7 by omega) (by decide) ?_
    refine z_top (w := (nI (zN (x 11)))) (g1) ?_
    refine z_istore C dL_acts_202 (by decide) ?_
    refine z_iload C dL_acts_204 rfl ?_
    refine z_iload C dL_acts_206 rfl ?_
    refine z_iconst (v := nI 1) C dL_acts_208 (by decide) ?_
    refine z_iadd C dL_acts_209 ?_
    refine z_top (w := (nI ((zN (x 11) + 1)))) (nI_add _ _) ?_
    refine z_callS C Y_L_low sm_yL_low ml_RL_147 (c_L_low l (n := zN (x 11) + 1) (by omega) (by omega)) dL_acts_210 rfl rfl (fun _ => Nat.le_of_ble_eq_true rfl) ⟨Nat.le_of_ble_eq_true rfl, Nat.le_of_ble_eq_true rfl⟩ (by show _ ≤ 300 ∧ _ ≤ 5000; omega) (z_p0 (w := (nI (up))) (congrArg nI eu) ?_) z_nx
    refine z_iconst (v := nI 1) C dL_acts_213 (by decide) ?_
    refine z_isub C dL_acts_214 ?_
    refine z_istore C dL_acts_215 (by decide) ?_
    refine z_iload C dL_acts_217 rfl ?_
    refine z_iconst (v := nI 4) C dL_acts_219 (by decide) ?_
    refine z_ishr C dL_acts_220 ?_
    refine z_bipush (v := nI 100) C dL_acts_221 (by decide) ?_
    refine z_callS C Y_L_low sm_yL_low ml_RL_147 (c_L_low l (n := 100) (by omega) (by omega)) dL_acts_223 rfl rfl (fun _ => Nat.le_of_ble_eq_true rfl) ⟨Nat.le_of_ble_eq_true rfl, Nat.le_of_ble_eq_true rfl⟩ (by show _ ≤ 300 ∧ _ ≤ 5000; omega) (z_p0 (w := (nI (li))) (congrArg nI el) ?_) z_nx
    refine z_istore C dL_acts_226 (by decide) ?_
    refine z_iload C dL_acts_228 rfl ?_
    refine z_bipush (v := nI 8) C dL_acts_230 (by decide) ?_
    refine z_icmp_ge (tgt := 240) C dL_acts_232 (by decide) (fun _ => ?_) (fun h => absurd (nI_le (a := 8) hn (by omega)) h)
    refine z_ldc C dL_acts_240 kc_RL_21 ?_
    refine z_istore C dL_acts_242 (by decide) ?_
    refine z_iload C dL_acts_244 rfl ?_
    refine z_if_lt (tgt := 275) C dL_acts_246 (by decide) (fun _ => ?_) (fun h => absurd (by decide) h)
    refine z_aload_n (i := 0) C dL_acts_275 rfl rfl ?_
    refine z_iload C dL_acts_276 rfl ?_
    refine z_iload C dL_acts_278 rfl ?_
    refine z_callSX C Y_L_addSeller sm_yL_addSeller ml_RL_152 (c_L_addSeller l hW.1 hI) dL_acts_280 rfl rfl (fun _ => Nat.le_of_ble_eq_true rfl) ⟨Nat.le_of_ble_eq_true rfl, Nat.le_of_ble_eq_true rfl⟩ (by show _ ≤ 300 ∧ _ ≤ 5000; omega) (z_w3 (kx_3 (show (decide (nI up - nI 1 = -1) || isSel x (nI up - nI 1)) = true from up_o i11 (by decide) rfl hu) (inB_nn (a := 0) (b := 99) (by omega) (by omega) (by decide)) (lt_f (n := 8) i11 (by decide) hn)) ?_) z_nx
    refine z_iload C dL_acts_283 rfl ?_
    refine z_icmp_ne (tgt := 329) C dL_acts_285 (by decide) (fun h => absurd (rfl) h) (fun _ => ?_)
    refine z_aload_n (i := 1) C dL_acts_288 rfl rfl ?_
    refine z_iload C dL_acts_289 rfl ?_
    refine z_iload C dL_acts_291 rfl ?_
    refine z_callSX C Y_L_addSeller sm_yL_addSeller ml_RL_152 (c_T_addSeller l hW.2.1 hI) dL_acts_293 rfl rfl (fun _ => Nat.le_of_ble_eq_true rfl) ⟨Nat.le_of_ble_eq_true rfl, Nat.le_of_ble_eq_true rfl⟩ (by show _ ≤ 300 ∧ _ ≤ 5000; omega) (z_x3 (kx_3 (show (decide (nI up - nI 1 = -1) || isSel x (nI up - nI 1)) = true from up_o i11 (by decide) rfl hu) (inB_nn (a := 0) (b := 99) (by omega) (by omega) (by decide)) (lt_f (n := 8) i11 (by decide) hn)) ?_) z_nx
    refine z_iload C dL_acts_296 rfl ?_
    refine z_icmp_ne (tgt := 329) C dL_acts_298 (by decide) (fun h => absurd (rfl) h) (fun _ => ?_)
    refine z_aload_n (i := 0) C dL_acts_301 rfl rfl ?_
    refine z_bipush (v := (-2)) C dL_acts_302 (by decide) ?_
    refine z_iconst (v := nI 0) C dL_acts_304 (by decide) ?_
    refine z_callSX C Y_L_addSeller sm_yL_addSeller ml_RL_152 (c_L_addSeller l hW.1 hI) dL_acts_305 rfl rfl (fun _ => Nat.le_of_ble_eq_true rfl) ⟨Nat.le_of_ble_eq_true rfl, Nat.le_of_ble_eq_true rfl⟩ (by show _ ≤ 300 ∧ _ ≤ 5000; omega) (z_w1 (kx_1 (show (decide ((-2 : Int32) = -1) || inB (-2) 0 _) = false by rw [decide_eq_false (by decide), inB_f (Or.inl (by decide))]; rfl)) ?_) z_nx
    refine z_ldc C dL_acts_308 kc_RL_28 ?_
    refine z_icmp_ne (tgt := 329) C dL_acts_310 (by decide) (fun h => absurd (rfl) h) (fun _ => ?_)
    refine z_aload_n (i := 0) C dL_acts_313 rfl rfl ?_
    refine z_iconst (v := (-1)) C dL_acts_314 (by decide) ?_
    refine z_bipush (v := nI 100) C dL_acts_315 (by decide) ?_
    refine z_callSX C Y_L_addSeller sm_yL_addSeller ml_RL_152 (c_L_addSeller l hW.1 hI) dL_acts_317 rfl rfl (fun _ => Nat.le_of_ble_eq_true rfl) ⟨Nat.le_of_ble_eq_true rfl, Nat.le_of_ble_eq_true rfl⟩ (by show _ ≤ 300 ∧ _ ≤ 5000; omega) (z_w2 (kx_2 om1 (by decide)) ?_) z_nx
    refine z_ldc C dL_acts_320 kc_RL_18 ?_
    refine z_icmp_ne (tgt := 329) C dL_acts_322 (by decide) (fun h => absurd (rfl) h) (fun _ => ?_)
    refine z_iconst (v := nI 1) C dL_acts_325 (by decide) ?_
    refine z_goto (tgt := 330) C dL_acts_326 (by decide) ?_
    exact z_iret C hr rfl dL_acts_330 (Nat.le_of_ble_eq_true rfl) (Nat.le_of_ble_eq_true rfl) ⟨_, rfl, rfl, x, a, A, hW, hK1⟩
end AC1
