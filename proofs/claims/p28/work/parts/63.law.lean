/-! THE CLAIM OUT OF ONE WALK OF THE LAW'S BODY. Your part is whole_start (and what it stands on); all else here is the same for every law, but numbers. -/
def R_law : String := "SalesDeskLaw"
def lw_P (b : Addr) (xs : List Int32) (args : Array Value) (s : State) : Prop := args = #[.ref b] ∧ s.IntsAt b xs ∧ xs.length ≤ 260 ∧ (Jvm.Cond.and given_1 narrow_1).before args s = true
def lw_Q (_ : Array Value) (s : State) (o : Outcome) (t : State) : Prop := o = .returned (some (.int 1)) ∧ Framed s o t [] 674153 7079239
def lw_Z (below : List Frame) (a : Array Value) (s : State) : State → Prop := fun t => ∃ o, t.status = .running ∧ Ended t below o ∧ lw_Q a s o t
/-- the law's own end, with 1 on the stack, nothing written that was there before, its room as the claim has it -/
theorem lw_ret {p : Program} {l : Launch} {e : Env} {s : State} {m : MethodId} {below : List Frame} {meth : Method} {c : Code} {b : Nat} (hx : p.tables.exec = Jvm.exec) (hb : c.code = code) (hr : meth.sig.returnType = ret) (hlocks : meth.locks = false) {pc : Nat} {H : Heap} {ls : Array Slot} (hdg : decode code pc = .ok (.ireturn, 1)) : W p l e room_1 s m #[Value.ref b] below meth c H [] 674153 7079239 (lw_Z below #[Value.ref b] s) (F0 m pc ls [.int 1]) := by
  intro T hT X
  obtain ⟨fs, hret, hrun, hended, hW, hframe⟩ := X.leave (v := some (.int 1)) (hlocks := hlocks) (fun h => by rw [hr] at h; cases h)
  have hmeth' : T.vm.method? m = some meth := X.method'
  refine ⟨T.setFrames fs, ?_, .returned (some (.int 1)), hrun, hended, rfl, ⟨_, rfl⟩, hW, hframe⟩
  jvm_step X.here [X.here.top, hx, hb, hdg, hmeth', hr, ret, narrow_b1]
  (try refine ⟨rfl, ?_⟩); (try refine ⟨rfl, ?_⟩)
  first | (intro acts; rw [hret _ acts rfl rfl rfl]) | rw [hret _ _ rfl rfl rfl]
  exact Steps.refl _
/-- what holds at the law's entry: the machine, the code, the tables' words (any of lw_tbl by 'hts w (by decide +kernel)'), the script of L ints xs at the cell b, what the Statement gives of the start (any of its parts by flat_of_before) -/
def lw_At (p : Program) (s : State) (m : MethodId) (meth : Method) (c : Code) (b L : Nat) (xs : Nat → Int32) : Prop :=
  p.tables.exec = Jvm.exec ∧ c.code = code ∧ meth.sig.returnType = ret ∧ c.maxLocals = 10 ∧ s.vm.findClass R_law = some m.cls ∧ (∀ w ∈ lw_tbl, w.before #[Value.ref b] s = true) ∧ va_X b L xs s s.heap ∧ b < s.heap.size ∧ meth.locks = false ∧ (Jvm.Cond.and given_1 narrow_1).before #[Value.ref b] s = true
section ZSC
variable {X : zX} {p : Program} {l : Launch} {e : Env} {R : Room} {s : State} {m : MethodId} {args : Array Value} {below : List Frame} {meth : Method} {c : Code} {nL : Nat} {σ0 σ : zHp} {loc0 : zK → Nat} {Q : State → Prop} {cells slots pc : Nat} {L : List (Nat × zV)} {st : List zV} {cc : ByteArray} {own : String} {b n : Nat} {xs : Nat → Int32}
theorem z_sldA (C : zC X p l s m args meth c cc nL own) (hX : va_X b n xs s s.heap) (hbl : b < s.heap.size) (hbz : b < zsz X) {x : Int32} (hd : decode cc pc = .ok (.iaload, 1)) (hin : vp_in x n) (kk : zG X p l e R s m args below meth c nL σ0 loc0 Q cells slots σ (pc + 1) L (aI (xs x.toNatClampNeg) :: st)) : zG X p l e R s m args below meth c nL σ0 loc0 Q cells slots σ pc L (aI x :: .inl (.ref b) :: st) := fun loc H locs ls hI =>
  va_sld C.x C.b hX hbl (by show ¬ zsz X ≤ b; omega) hI.2.2.2.2.1 hin hd (kk loc H locs ls (hI.sk (fun h => zl_cp (zl_tl2 h))))
theorem z_slenA (C : zC X p l s m args meth c cc nL own) (hX : va_X b n xs s s.heap) (hbl : b < s.heap.size) (hbz : b < zsz X) (hd : decode cc pc = .ok (.arraylength, 1)) (kk : zG X p l e R s m args below meth c nL σ0 loc0 Q cells slots σ (pc + 1) L (aI (nI n) :: st)) : zG X p l e R s m args below meth c nL σ0 loc0 Q cells slots σ pc L (.inl (.ref b) :: st) := fun loc H locs ls hI =>
  va_slen C.x C.b hX hbl (by show ¬ zsz X ≤ b; omega) hI.2.2.2.2.1 hd (kk loc H locs ls (hI.sk (fun h => zl_cp (zl_tl h))))
variable {post : Option zV → zHp → Prop} {xp : String → zHp → Prop} {mc ms : Nat} {y : MethodName} {b9 : ByteArray} {nL' lev n9 : Nat} {ret9 : Option FieldType} {as rest : List zV} {idx : Nat}
/-- a contract over the script -/
def zMs (X : zX) (l : Launch) (y : MethodName) (b9 : ByteArray) (nL : Nat) (ret9 : Option FieldType) (lev mc ms : Nat) (as : List zV) (σ0 : zHp) (post : Option zV → zHp → Prop) (xp : String → zHp → Prop) (b n : Nat) (xs : Nat → Int32) : Prop := l.stackTraces = false → ∀ loc0 : zK → Nat, vx_Met l y (Cond.code y b9 nL ret9 :: zT) (zRm lev mc ms) (fun a U => zPc X as σ0 loc0 a U ∧ va_X b n xs U (zHs X)) (zQc X σ0 loc0 post) (zXc X σ0 loc0 xp) mc ms (zA X)
theorem zMs.of (hbz : b < zsz X) (hy : plainName y.cls = true) (hlen : as.length ≤ nL) (hcat : ∀ v ∈ as, zcat v) (body : ∀ (p : Program) (e : Env) (s : State) (m : MethodId) (args : Array Value) (below : List Frame) (meth : Method) (c : Code) (loc0 : zK → Nat), zC X p l s m args meth c b9 nL y.cls → meth.sig.returnType = ret9 → va_X b n xs s s.heap → b < s.heap.size → zG X p l e (zRm lev mc ms) s m args below meth c nL σ0 loc0 (zQ X σ0 loc0 below post xp args s mc ms) 0 0 σ0 0 (zargs 0 as) []) : zMs X l y b9 nL ret9 lev mc ms as σ0 post xp b n xs := by
  intro hl loc0
  refine vx_ofW (cc := b9) (maxL := nL) (ret := ret9) hy rfl ?_
  intro p e s m args below meth c s₁ B hml hT hP
  obtain ⟨⟨rfl, hS, hW, hlv⟩, hX⟩ := hP
  · have hts := atoms_spec (ws := Cond.code y b9 nL ret9 :: zT) B.pre
    have hC : zC X p l s m (as.map (zcv loc0)).toArray meth c b9 nL y.cls := ⟨B.exec, B.bytes, hml, findClass_of_methodNamed B.named, fun w hw => hts w (List.mem_cons_of_mem _ hw), hS, hl, B.notSynchronized, hW.1, hW.2.1⟩
    rw [lg_entry_eq]
    refine body p e s m _ below meth c loc0 hC B.returns (hX.kept (hW.2.1 b hbz)) (Nat.lt_of_lt_of_le hbz hW.1) loc0 s.heap [] _ ⟨hW, zLe.rf, fun q hq => ⟨zargs_ok as 0 hlv q hq, zargs_ok as 0 hcat q hq⟩, (fun v h => by cases h), va_S.rf, ?_⟩
    rw [← zargs_eq loc0 as 0 hcat]
    exact lv_entry (as.map (zcv loc0)) (n := nL) (by rw [zargs_len loc0 as hcat]; exact hlen)
theorem z_callSs (C : zC X p l s m args meth c cc nL own) (hX : va_X b n xs s (zHs X)) (hY : zY y (Cond.code y b9 nL' ret9) n9) (hV : Cond.static y ∈ zT) (hml : Cond.methodLink own idx y ∈ zT) (hM : zMs X l y b9 nL' ret9 lev mc ms as σ post xp b n xs) (hd : decode cc pc = .ok (.invokestatic idx, 3)) (hst : st = as.reverse ++ rest) (hn : as.length = n9) (hcat : ∀ loc : zK → Nat, ((rest.map (zcv loc)).map fun v => v.category).sum ≤ 8) (hR : lev + 1 ≤ R.frames ∧ 8 + (nL' + 11) + 40 * lev ≤ R.locals) (hf : cells + mc ≤ R.cells ∧ slots + ms ≤ R.slots)
    (kk : ∀ r σ1, post r σ1 → zG X p l e R s m args below meth c nL σ0 loc0 Q (cells + mc) (slots + ms) σ1 (pc + 3) L (r.toList ++ rest)) (kx : ∀ E σ1, xp E σ1 → zE X p l e R s m args below meth c nL σ0 loc0 Q (cells + mc) (slots + ms) E σ1 pc L) : zG X p l e R s m args below meth c nL σ0 loc0 Q cells slots σ pc L st := by
  subst hst
  refine z_run (post := post) (xp := xp) (aa := fun loc => (as.map (zcv loc)).toArray) (fun loc H locs ls hI => ?_) (fun v hv => List.mem_append_right _ hv) kk kx
  exact vx_runS (As := as.map (zcv loc)) C.fix (hM C.2.2.2.2.2.2.1 loc) ⟨zB C hY hml hR, C.ts _ hV⟩ ⟨fun a U g mk h => ⟨zPc_blind a U g mk h.1, va_X.moved (Vm.Alike.refl _) h.2⟩, fun U hU hWm => ⟨zPc_at (as := as) C hI (fun v hv => List.mem_append_left _ (List.mem_reverse.mpr hv)) U hU hWm, va_X.moved hWm.alike hX⟩⟩ rfl (by rw [List.length_map]; exact hn) hI.2.2.2.2.2.1 z_revS (lv_room (hcat loc)) hd hf
end ZSC
set_option maxRecDepth 100000 in
set_option maxHeartbeats 4000000 in
theorem c_L_at {X : zX} (l : Launch) {σ : zHp} {b n : Nat} {xs : Nat → Int32} (hbz : b < zsz X) (hn : n ≤ 260) {k : Nat} (hk : k < 1000) : zMs X l yL_at cL_at 2 (some .int) 0 0 0 [.inl (.ref b), aI (nI k)] σ (zPi (fun r σ1 => σ1 = σ)) zNx b n xs := by
  refine zMs.of hbz (by decide +kernel) (Nat.le_of_ble_eq_true rfl) (by simp [zcat, Value.category]) ?_
  intro p e s m args below meth c loc0 C hr hX hbl
  refine z_iload_n (i := 1) C dL_at_0 rfl rfl ?_
  refine z_aload_nQ (i := 0) C dL_at_1 rfl rfl ?_
  refine z_slenA C hX hbl hbz dL_at_2 ?_
  refine z_icmp_ge (tgt := 12) C dL_at_3 (by decide) (fun h3 => ?_) (fun h3 => ?_)
  · refine z_ldc C dL_at_12 kc_RL_7 ?_
    refine z_iload_n (i := 1) C dL_at_14 rfl rfl ?_
    refine z_iconst (v := 1) C dL_at_15 (by decide) ?_
    refine z_iadd C dL_at_16 ?_
    refine z_imul C dL_at_17 ?_
    refine z_ldc C dL_at_18 kc_RL_8 ?_
    refine z_iadd C dL_at_20 ?_
    exact z_iret C hr rfl dL_at_21 (Nat.le_of_ble_eq_true rfl) (Nat.le_of_ble_eq_true rfl) ⟨_, rfl, rfl⟩

  · have hkn : k < n := (nI_ltI (by omega) (by omega)).mp (Int32.not_le.mp h3)
    refine z_aload_nQ (i := 0) C dL_at_6 rfl rfl ?_
    refine z_iload_n (i := 1) C dL_at_7 rfl rfl ?_
    refine z_sldA C hX hbl hbz dL_at_8 (vp_in_nI hkn (by omega)) ?_
    refine z_goto (tgt := 21) C dL_at_9 (by decide) ?_
    exact z_iret C hr rfl dL_at_21 (Nat.le_of_ble_eq_true rfl) (Nat.le_of_ble_eq_true rfl) ⟨_, rfl, rfl⟩
/-- what the walk of the law stands on -/
def LwC (X : zX) (p : Program) (l : Launch) (s : State) (m : MethodId) (b : Nat) (meth : Method) (c : Code) (n : Nat) (xs : Nat → Int32) : Prop := zC X p l s m #[Value.ref b] meth c cL_law 10 RL ∧ va_X b n xs s (zHs X) ∧ b < zsz X ∧ zsz X = s.heap.size ∧ n ≤ 260 ∧ meth.sig.returnType = ret
abbrev LwG (X : zX) (p : Program) (l : Launch) (e : Env) (s : State) (m : MethodId) (b : Nat) (below : List Frame) (meth : Method) (c : Code) (σ0 : zHp) (loc0 : zK → Nat) (cells slots : Nat) (σ : zHp) (pc : Nat) (L : List (Nat × zV)) (st : List zV) : Prop := zG X p l e room_1 s m #[Value.ref b] below meth c 10 σ0 loc0 (lw_Z below #[Value.ref b] s) cells slots σ pc L st
section ZLL
variable {X : zX} {p : Program} {l : Launch} {e : Env} {s : State} {m : MethodId} {below : List Frame} {meth : Method} {c : Code} {σ0 σ : zHp} {loc0 : zK → Nat} {b n : Nat} {xs : Nat → Int32} {cells slots : Nat}
theorem z_lret {pc : Nat} {L : List (Nat × zV)} (K : LwC X p l s m b meth c n xs) (hd : decode cL_law pc = .ok (.ireturn, 1)) (hc : cells ≤ 674153) (hs : slots ≤ 7079239) : LwG X p l e s m b below meth c σ0 loc0 cells slots σ pc L [aI 1] := fun loc H locs ls hI =>
  va_forget (fun q hq => by have := hI.2.2.2.2.1.2.2 q hq; have h9 := K.2.2.2.1; unfold zA at this; omega) (W.widen hc hs (lw_ret K.1.x K.1.b K.2.2.2.2.2 K.1.2.2.2.2.2.2.2.1 hd))
theorem LW.cha {x : Nat → Int32} {a A : Nat → Nat → Int32} {K : Nat} (hW : LW x a x a A σ) (hT : TI x a A K) : ChC x a A σ ∧ σ 80 5 = none := ⟨⟨hW.1, hT.1, hT.2.1, hT.2.2.1, hW.2.2.1⟩, hW.2.2.2 5 (by decide)⟩
theorem LW.chb {x : Nat → Int32} {a A : Nat → Nat → Int32} {K : Nat} (hW : LW x a x a A σ) (hT : TI x a A K) : ChC x a A (fH σ) ∧ fH σ 80 5 = none := by
  refine ⟨⟨hW.2.1, hT.1, hT.2.1, hT.2.2.1, fun j hj => ?_⟩, ?_⟩
  · show (σ (fl 80) j).map fC = _
    rw [fl3 (by decide), hW.2.2.1 j hj]
    rfl
  · show (σ (fl 80) 5).map fC = none
    rw [fl3 (by decide), hW.2.2.2 5 (by decide)]
    rfl
theorem z_pc {K : zHp → List zV → Prop} {σ : zHp} {rest : List zV} (kk : K σ (aI 1 :: rest)) : ∀ r σ1, zPi (fun r σ1 => r = 1 ∧ σ1 = σ) r σ1 → K σ1 (r.toList ++ rest) := fun r σ1 ⟨x, e, e1, e2⟩ => by
  subst e
  rw [e2, e1]
  exact kk
theorem z_pd {K : zHp → List zV → Prop} {σ : zHp} {rest : List zV} (kk : K σ (aI 1 :: rest)) : ∀ r σ1, zPi (fun r σ1 => r = 1 ∧ fH σ1 = fH σ) r σ1 → K σ1 (r.toList ++ rest) := fun r σ1 ⟨x, e, e1, e2⟩ => by
  subst e
  rw [fH_inj e2, e1]
  exact kk
set_option maxRecDepth 100000 in
set_option maxHeartbeats 4000000 in
theorem lw_loop (K : LwC X p l s m b meth c n xs) : ∀ (d k : Nat) (x : Nat → Int32) (a A : Nat → Nat → Int32) (σ : zHp), LW x a x a A σ → TI x a A k → k + d = 95 → LwG X p l e s m b below meth c σ0 loc0 (200 + 300 * k + 10000 * (k / 4)) (4000 + 5000 * k + 60000 * (k / 4)) σ 99 [(0, .inl (.ref b)), (1, aR 0 0), (2, aR 40 0), (3, aR 80 0), (4, aR 80 1), (5, aR 80 2), (6, aR 80 3), (7, aR 80 4), (8, aI (nI 1)), (9, aI (nI (k)))] [] := by
  have C := K.1
  obtain ⟨-, hX, hbz, hz, hn, -⟩ := id K
  intro d
  induction d with
  | zero =>
    intro k x a A σ hW hT hk
    refine z_iload C dL_law_99 rfl ?_
    refine z_bipush (v := nI 95) C dL_law_101 (by decide) ?_
    refine z_icmp_ge (tgt := 221) C dL_law_103 (by decide) (fun _ => ?_) (fun h => absurd (nI_le (a := 95) (by omega) (by omega)) h)
    refine z_iload C dL_law_221 rfl ?_
    exact z_lret K dL_law_223 (by omega) (by omega)
  | succ d ih =>
    intro k x a A σ hW hT hk
    refine z_iload C dL_law_99 rfl ?_
    refine z_bipush (v := nI 95) C dL_law_101 (by decide) ?_
    refine z_icmp_ge (tgt := 221) C dL_law_103 (by decide) (fun h => absurd h (nI_ge (b := 95) (by omega) (by decide))) (fun _ => ?_)
    refine z_iload C dL_law_106 rfl ?_
    refine z_if_eq (tgt := 221) C dL_law_108 (by decide) (fun h => absurd h (by decide)) (fun _ => ?_)
    refine z_aload_n (i := 1) C dL_law_111 rfl rfl ?_
    refine z_aload_n (i := 2) C dL_law_112 rfl rfl ?_
    refine z_aload_n (i := 3) C dL_law_113 rfl rfl ?_
    refine z_aload C dL_law_114 rfl ?_
    refine z_aload C dL_law_116 rfl ?_
    refine z_aload C dL_law_118 rfl ?_
    refine z_aload C dL_law_120 rfl ?_
    refine z_aload_nQ (i := 0) C dL_law_122 rfl rfl ?_
    refine z_iconst (v := nI 2) C dL_law_123 (by decide) ?_
    refine z_iload C dL_law_124 rfl ?_
    refine z_imul C dL_law_126 ?_
    refine z_top (w := (nI ((2 * k)))) (pk_mul _ _) ?_
    refine z_callSs C hX Y_L_at sm_yL_at ml_RL_179 (c_L_at l hbz hn (k := 2 * k) (by omega)) dL_law_127 rfl rfl (fun _ => Nat.le_of_ble_eq_true rfl) ⟨Nat.le_of_ble_eq_true rfl, Nat.le_of_ble_eq_true rfl⟩ (by show _ ≤ 674153 ∧ _ ≤ 7079239; omega) (z_ri (fun r127 σ127 h127 => ?_)) z_nx
    subst h127
    refine z_aload_nQ (i := 0) C dL_law_130 rfl rfl ?_
    refine z_iconst (v := nI 2) C dL_law_131 (by decide) ?_
    refine z_iload C dL_law_132 rfl ?_
    refine z_imul C dL_law_134 ?_
    refine z_top (w := (nI ((2 * k)))) (pk_mul _ _) ?_
    refine z_iconst (v := nI 1) C dL_law_135 (by decide) ?_
    refine z_iadd C dL_law_136 ?_
    refine z_top (w := (nI (((2 * k) + 1)))) (nI_add _ _) ?_
    refine z_callSs C hX Y_L_at sm_yL_at ml_RL_179 (c_L_at l hbz hn (k := 2 * k + 1) (by omega)) dL_law_137 rfl rfl (fun _ => Nat.le_of_ble_eq_true rfl) ⟨Nat.le_of_ble_eq_true rfl, Nat.le_of_ble_eq_true rfl⟩ (by show _ ≤ 674153 ∧ _ ≤ 7079239; omega) (z_ri (fun r137 σ137 h137 => ?_)) z_nx
    subst h137
    refine z_callS C Y_L_acts sm_yL_acts ml_RL_183 (c_L_acts l hW hT (by omega)) dL_law_140 rfl rfl (fun _ => Nat.le_of_ble_eq_true rfl) ⟨Nat.le_of_ble_eq_true rfl, Nat.le_of_ble_eq_true rfl⟩ (by show _ ≤ 674153 ∧ _ ≤ 7079239; omega) (z_ri (fun r9 σ9 hx => ?_)) z_nx
    obtain ⟨rfl, x1, a1, A1, hW1, hT1⟩ := hx
    refine z_istore C dL_law_143 (by decide) ?_
    refine z_iload C dL_law_145 rfl ?_
    refine z_if_eq (tgt := 215) C dL_law_147 (by decide) (fun h => absurd h (by decide)) (fun _ => ?_)
    refine z_iload C dL_law_150 rfl ?_
    refine z_iconst (v := nI 4) C dL_law_152 (by decide) ?_
    refine z_irem C dL_law_153 (by decide) ?_
    refine z_top (w := (nI ((k % 4)))) (pk_rem (by omega) (by decide) (by decide)) ?_
    refine z_iconst (v := nI 3) C dL_law_154 (by decide) ?_
    refine z_icmp_ne (tgt := 215) C dL_law_155 (by decide) (fun h155 => ?_) (fun h155 => ?_)
    · have h4 : ¬ k % 4 = 3 := fun z => h155 (by rw [z])
      refine z_iinc (v := nI (k + 1)) C dL_law_215 (by decide) rfl (zinc _) ?_
      refine z_goto (tgt := 99) C dL_law_218 (by decide) ?_
      refine z_sub (L' := [(0, .inl (.ref b)), (1, aR 0 0), (2, aR 40 0), (3, aR 80 0), (4, aR 80 1), (5, aR 80 2), (6, aR 80 3), (7, aR 80 4), (8, aI (nI 1)), (9, aI (nI (k + 1)))]) (zs1 rfl (zs1 rfl (zs1 rfl (zs1 rfl (zs1 rfl (zs1 rfl (zs1 rfl (zs1 rfl (zs1 rfl (zs1 rfl zs0)))))))))) ?_
      exact z_wd (by omega) (by omega) (ih (k + 1) x1 a1 A1 _ hW1 hT1 (by omega))
    · have h4 : k % 4 = 3 := (nI_eq (b := 3) (by omega) (by decide)).mp h155
      obtain ⟨hca, hna⟩ := hW1.cha hT1
      obtain ⟨hcb, hnb⟩ := hW1.chb hT1
      refine z_aload_n (i := 1) C dL_law_158 rfl rfl ?_
      refine z_aload_n (i := 3) C dL_law_159 rfl rfl ?_
      refine z_aload C dL_law_160 rfl ?_
      refine z_aload C dL_law_162 rfl ?_
      refine z_aload C dL_law_164 rfl ?_
      refine z_callS C Y_L_chances sm_yL_chances ml_RL_187 (k_L_chances l hca hna) dL_law_166 rfl rfl (fun _ => Nat.le_of_ble_eq_true rfl) ⟨Nat.le_of_ble_eq_true rfl, Nat.le_of_ble_eq_true rfl⟩ (by show _ ≤ 674153 ∧ _ ≤ 7079239; omega) (z_pc ?_) z_nx
      refine z_if_eq (tgt := 212) C dL_law_169 (by decide) (fun h => absurd h (by decide)) (fun _ => ?_)
      refine z_aload_n (i := 2) C dL_law_172 rfl rfl ?_
      refine z_aload_n (i := 3) C dL_law_173 rfl rfl ?_
      refine z_aload C dL_law_174 rfl ?_
      refine z_aload C dL_law_176 rfl ?_
      refine z_aload C dL_law_178 rfl ?_
      refine z_callS C Y_L_chances sm_yL_chances ml_RL_187 (zMw.flI (as' := [aR 40 0, aR 80 0, aR 80 2, aR 80 3, aR 80 4]) (k_L_chances l hcb hnb) rfl) dL_law_180 rfl rfl (fun _ => Nat.le_of_ble_eq_true rfl) ⟨Nat.le_of_ble_eq_true rfl, Nat.le_of_ble_eq_true rfl⟩ (by show _ ≤ 674153 ∧ _ ≤ 7079239; omega) (z_pd ?_) z_nx
      refine z_if_eq (tgt := 212) C dL_law_183 (by decide) (fun h => absurd h (by decide)) (fun _ => ?_)
      refine z_aload_n (i := 1) C dL_law_186 rfl rfl ?_
      refine z_aload C dL_law_187 rfl ?_
      refine z_aload C dL_law_189 rfl ?_
      refine z_callS C Y_L_sellers sm_yL_sellers ml_RL_191 (c_L_sellers l hca) dL_law_191 rfl rfl (fun _ => Nat.le_of_ble_eq_true rfl) ⟨Nat.le_of_ble_eq_true rfl, Nat.le_of_ble_eq_true rfl⟩ (by show _ ≤ 674153 ∧ _ ≤ 7079239; omega) (z_pc ?_) z_nx
      refine z_if_eq (tgt := 212) C dL_law_194 (by decide) (fun h => absurd h (by decide)) (fun _ => ?_)
      refine z_aload_n (i := 2) C dL_law_197 rfl rfl ?_
      refine z_aload C dL_law_198 rfl ?_
      refine z_aload C dL_law_200 rfl ?_
      refine z_callS C Y_L_sellers sm_yL_sellers ml_RL_191 (zMw.flI (as' := [aR 40 0, aR 80 1, aR 80 4]) (c_L_sellers l hcb) rfl) dL_law_202 rfl rfl (fun _ => Nat.le_of_ble_eq_true rfl) ⟨Nat.le_of_ble_eq_true rfl, Nat.le_of_ble_eq_true rfl⟩ (by show _ ≤ 674153 ∧ _ ≤ 7079239; omega) (z_pd ?_) z_nx
      refine z_if_eq (tgt := 212) C dL_law_205 (by decide) (fun h => absurd h (by decide)) (fun _ => ?_)
      refine z_iconst (v := nI 1) C dL_law_208 (by decide) ?_
      refine z_goto (tgt := 213) C dL_law_209 (by decide) ?_
      refine z_istore C dL_law_213 (by decide) ?_
      refine z_iinc (v := nI (k + 1)) C dL_law_215 (by decide) rfl (zinc _) ?_
      refine z_goto (tgt := 99) C dL_law_218 (by decide) ?_
      refine z_sub (L' := [(0, .inl (.ref b)), (1, aR 0 0), (2, aR 40 0), (3, aR 80 0), (4, aR 80 1), (5, aR 80 2), (6, aR 80 3), (7, aR 80 4), (8, aI (nI 1)), (9, aI (nI (k + 1)))]) (zs1 rfl (zs1 rfl (zs1 rfl (zs1 rfl (zs1 rfl (zs1 rfl (zs1 rfl (zs1 rfl (zs1 rfl (zs1 rfl zs0)))))))))) ?_
      exact z_wd (by omega) (by omega) (ih (k + 1) x1 a1 A1 _ hW1 hT1 (by omega))
end ZLL
