/-! THE CLAIM OUT OF ONE WALK OF THE LAW'S BODY. Your part is whole_start (and what it stands on); all else here is the same for every law, but numbers. -/
def R_law : String := "SalesDeskLaw"
def lw_P (b : Addr) (xs : List Int32) (args : Array Value) (s : State) : Prop := args = #[.ref b] ∧ s.IntsAt b xs ∧ xs.length ≤ 3072 ∧ (Jvm.Cond.and given_1 narrow_1).before args s = true
def lw_Q (_ : Array Value) (s : State) (o : Outcome) (t : State) : Prop := o = .returned (some (.int 1)) ∧ Framed s o t [] 601024 7293034
def lw_Z (below : List Frame) (a : Array Value) (s : State) : State → Prop := fun t => ∃ o, t.status = .running ∧ Ended t below o ∧ lw_Q a s o t
/-- the law's own end, with 1 on the stack, nothing written that was there before, its room as the claim has it -/
theorem lw_ret {p : Program} {l : Launch} {e : Env} {s : State} {m : MethodId} {below : List Frame} {meth : Method} {c : Code} {b : Nat} (hx : p.tables.exec = Jvm.exec) (hb : c.code = code) (hr : meth.sig.returnType = ret) (hlocks : meth.locks = false) {pc : Nat} {H : Heap} {ls : Array Slot} (hdg : decode code pc = .ok (.ireturn, 1)) : W p l e room_1 s m #[Value.ref b] below meth c H [] 601024 7293034 (lw_Z below #[Value.ref b] s) (F0 m pc ls [.int 1]) := by
  intro T hT X
  obtain ⟨fs, hret, hrun, hended, hW, hframe⟩ := X.leave (v := some (.int 1)) (hlocks := hlocks) (fun h => by rw [hr] at h; cases h)
  have hmeth' : T.vm.method? m = some meth := X.method'
  refine ⟨T.setFrames fs, ?_, .returned (some (.int 1)), hrun, hended, rfl, ⟨_, rfl⟩, hW, hframe⟩
  jvm_step X.here [X.here.top, hx, hb, hdg, hmeth', hr, ret, narrow_b1]
  (try refine ⟨rfl, ?_⟩); (try refine ⟨rfl, ?_⟩)
  first | (intro acts; rw [hret _ acts rfl rfl rfl]) | rw [hret _ _ rfl rfl rfl]
  exact Steps.refl _
/-- what holds at the law's entry: the machine, the code, the tables' words (any of lw_tbl by 'hts w (by decide +kernel)'), the script of L ints xs at the cell b, what the Statement gives of the start (any of its parts by flat_of_before) -/
def lw_At (p : Program) (s : State) (m : MethodId) (meth : Method) (c : Code) (b L : Nat) (xs : Nat → Int32) : Prop :=
  p.tables.exec = Jvm.exec ∧ c.code = code ∧ meth.sig.returnType = ret ∧ c.maxLocals = 7 ∧ s.vm.findClass R_law = some m.cls ∧ (∀ w ∈ lw_tbl, w.before #[Value.ref b] s = true) ∧ va_X b L xs s s.heap ∧ b < s.heap.size ∧ meth.locks = false ∧ (Jvm.Cond.and given_1 narrow_1).before #[Value.ref b] s = true
section ZSC
variable {X : zX} {p : Program} {l : Launch} {e : Env} {R : Room} {s : State} {m : MethodId} {args : Array Value} {below : List Frame} {meth : Method} {c : Code} {nL : Nat} {σ0 σ : zHp} {loc0 : zK → Nat} {Q : State → Prop} {cells slots pc : Nat} {L : List (Nat × zV)} {st : List zV} {cc : ByteArray} {own : String} {b n : Nat} {xs : Nat → Int32}
theorem z_sld (C : zC X p l s m args meth c cc nL own) (hX : va_X b n xs s s.heap) (hbl : b < s.heap.size) (hz : zsz X = s.heap.size) {x : Int32} (hd : decode cc pc = .ok (.iaload, 1)) (hin : vp_in x n) (kk : zG X p l e R s m args below meth c nL σ0 loc0 Q cells slots σ (pc + 1) L (aI (xs x.toNatClampNeg) :: st)) : zG X p l e R s m args below meth c nL σ0 loc0 Q cells slots σ pc L (aI x :: .inl (.ref b) :: st) := fun loc H locs ls hI =>
  va_sld C.x C.b hX hbl (by show ¬ zsz X ≤ b; omega) hI.2.2.2.2.1 hin hd (kk loc H locs ls (hI.sk (fun h => zl_cp (zl_tl2 h))))
theorem z_slen (C : zC X p l s m args meth c cc nL own) (hX : va_X b n xs s s.heap) (hbl : b < s.heap.size) (hz : zsz X = s.heap.size) (hd : decode cc pc = .ok (.arraylength, 1)) (kk : zG X p l e R s m args below meth c nL σ0 loc0 Q cells slots σ (pc + 1) L (aI (nI n) :: st)) : zG X p l e R s m args below meth c nL σ0 loc0 Q cells slots σ pc L (.inl (.ref b) :: st) := fun loc H locs ls hI =>
  va_slen C.x C.b hX hbl (by show ¬ zsz X ≤ b; omega) hI.2.2.2.2.1 hd (kk loc H locs ls (hI.sk (fun h => zl_cp (zl_tl h))))
/-- the script's int at i + j -/
theorem z_arg (C : zC X p l s m args meth c cc nL own) (hX : va_X b n xs s s.heap) (hbl : b < s.heap.size) (hz : zsz X = s.heap.size) {i j : Nat} (hij : i + j < n) (hn : n ≤ 3072) {v : Int} (hv : Int32.ofInt v = nI j) (hl0 : zl L 0 = some (.inl (.ref b))) (hl4 : zl L 4 = some (aI (nI i))) (d0 : decode cc pc = .ok (.aload_n 0, 1)) (d1 : decode cc (pc + 1) = .ok (.iload 4, 2)) (d3 : decode cc (pc + 3) = .ok (.iconst v, 1)) (d4 : decode cc (pc + 4) = .ok (.iadd, 1)) (d5 : decode cc (pc + 5) = .ok (.iaload, 1)) (kk : zG X p l e R s m args below meth c nL σ0 loc0 Q cells slots σ (pc + 6) L (aI (xs (i + j)) :: st)) : zG X p l e R s m args below meth c nL σ0 loc0 Q cells slots σ pc L st := by
  refine z_aload_nQ (i := 0) C d0 rfl hl0 ?_
  refine z_iload C d1 hl4 ?_
  refine z_iconst (v := nI j) C d3 hv ?_
  refine z_iadd C d4 ?_
  rw [nI_add]
  refine z_sld C hX hbl hz d5 (vp_in_nI hij (by omega)) ?_
  rw [nI_clamp (by omega)]
  exact kk
end ZSC
theorem DK.u31 {x : Nat → Int32} {a : Nat → Nat → Int32} {σ : zHp} {v : Int32} (h : DK x a σ) : DK (upd x 31 v) a σ := h
theorem zIv.u31 {x : Nat → Int32} {a : Nat → Nat → Int32} {v : Int32} (h : zIv x a) : zIv (upd x 31 v) a := h
theorem MD.mv {x : Nat → Int32} {a : Nat → Nat → Int32} {σ σ1 : zHp} (h : MD x a σ) (hg : ∀ k i, (k = 12 ∨ k = 13) → σ1 k i = σ k i) : MD x a σ1 := ⟨(hg 12 0 (Or.inl rfl)).trans h.1, fun j hj => (hg 13 j (Or.inr rfl)).trans (h.2 j hj)⟩
/-- between two calls of the law -/
def lwS (x : Nat → Int32) (a : Nat → Nat → Int32) (σ : zHp) : Prop := zIv x a ∧ DK x a σ ∧ MD x a σ ∧ ∃ f, σ 14 0 = some (lC 1 f)
/-- after the class and the reference have done the same call -/
theorem lw_mid {W : Prop} {k v r r' : Int32} {x' : Nat → Int32} {a' : Nat → Nat → Int32} {x : Nat → Int32} {a : Nat → Nat → Int32} {σ σ1 σ2 : zHp} (h1 : zLz W k v x' a' x a σ r σ1) (h2 : zRz k v x' a' x a r' σ1 σ2) (hI : zIv x a) (hiv : k = 0 → zIv x' a') : ∃ (x2 : Nat → Int32) (a2 : Nat → Nat → Int32) (f : Nat → Int64), MD x2 a2 σ2 ∧ DK x2 a2 σ2 ∧ zIv x2 a2 ∧ x2 31 = k ∧ σ2 14 0 = some (lC 1 f) ∧ (k = 0 → W → f 0 = r'.toInt64) := by
  obtain ⟨-, -, ⟨f, hf, hfv⟩, hD⟩ := h1
  obtain ⟨hF, h2⟩ := h2
  have hf2 : σ2 14 0 = some (lC 1 f) := (hF 14 0 (by decide) (by decide)).trans hf
  rcases h2 with ⟨hk, hr, hM⟩ | ⟨hk, hM⟩
  · rcases hD with ⟨-, hD⟩ | ⟨hn, -⟩
    · exact ⟨_, _, f, hM, (hD.ag (fun kk i h1 h2 _ => hF kk i h1 h2)).u31, (hiv hk).u31, by rw [upd_at, hk], hf2, fun h w => by rw [hr]; exact hfv h w⟩
    · exact absurd hk hn
  · rcases hD with ⟨hn, -⟩ | ⟨-, hD⟩
    · exact absurd hn hk
    · exact ⟨_, _, f, hM, (hD.ag (fun kk i h1 h2 _ => hF kk i h1 h2)).u31, hI.u31, upd_at, hf2, fun h => absurd h hk⟩
/-- what the walk of the law stands on -/
def LwC (X : zX) (p : Program) (l : Launch) (s : State) (m : MethodId) (b : Nat) (meth : Method) (c : Code) (n : Nat) (xs : Nat → Int32) : Prop := zC X p l s m #[Value.ref b] meth c cL_law 7 RL ∧ va_X b n xs s s.heap ∧ b < s.heap.size ∧ zsz X = s.heap.size ∧ n ≤ 3072 ∧ meth.sig.returnType = ret
abbrev LwG (X : zX) (p : Program) (l : Launch) (e : Env) (s : State) (m : MethodId) (b : Nat) (below : List Frame) (meth : Method) (c : Code) (σ0 : zHp) (loc0 : zK → Nat) (cells slots : Nat) (σ : zHp) (pc : Nat) (L : List (Nat × zV)) (st : List zV) : Prop := zG X p l e room_1 s m #[Value.ref b] below meth c 7 σ0 loc0 (lw_Z below #[Value.ref b] s) cells slots σ pc L st
abbrev lw_L (b i : Nat) : List (Nat × zV) := [(0, .inl (.ref b)), (1, aR 0 0), (2, aR 12 0), (3, aR 14 0), (4, aI (nI i))]
section ZLT
variable {X : zX} {p : Program} {l : Launch} {e : Env} {s : State} {m : MethodId} {below : List Frame} {meth : Method} {c : Code} {σ0 σ : zHp} {loc0 : zK → Nat} {b n : Nat} {xs : Nat → Int32} {cells slots : Nat}
theorem z_lret {pc : Nat} {L : List (Nat × zV)} (K : LwC X p l s m b meth c n xs) (hd : decode cL_law pc = .ok (.ireturn, 1)) (hc : cells ≤ 601024) (hs : slots ≤ 7293034) : LwG X p l e s m b below meth c σ0 loc0 cells slots σ pc L [aI 1] := fun loc H locs ls hI =>
  va_forget (fun q hq => by have := hI.2.2.2.2.1.2.2 q hq; have h9 := K.2.2.2.1; unfold zA at this; omega) (W.widen hc hs (lw_ret K.1.x K.1.b K.2.2.2.2.2 K.1.2.2.2.2.2.2.2.1 hd))
set_option maxRecDepth 100000 in
set_option maxHeartbeats 4000000 in
/-- a case's end: the reference's answer on the stack -/
theorem lw_tail {pc : Nat} (K : LwC X p l s m b meth c n xs) {x : Nat → Int32} {a : Nat → Nat → Int32} {f : Nat → Int64} {k r : Int32} {i : Nat} (hM : MD x a σ) (hD : DK x a σ) (hI : zIv x a) (h31 : x 31 = k) (h14 : σ 14 0 = some (lC 1 f)) (hv : k = 0 → f 0 = r.toInt64)
    (d0 : decode cL_law pc = .ok (.istore 6, 2)) (d2 : decode cL_law (pc + 2) = .ok (.aload_n 2, 1)) (d3 : decode cL_law (pc + 3) = .ok (.invokevirtual 106, 3)) (d6 : decode cL_law (pc + 6) = .ok (.iload 5, 2)) (d8 : decode cL_law (pc + 8) = .ok (.if_icmp .eq 5, 3)) (d13 : decode cL_law (pc + 13) = .ok (.iload 5, 2)) (d15 : decode cL_law (pc + 15) = .ok (.ifCond .ne 15, 3)) (d18 : decode cL_law (pc + 18) = .ok (.aload_n 3, 1)) (d19 : decode cL_law (pc + 19) = .ok (.iconst 0, 1)) (d20 : decode cL_law (pc + 20) = .ok (.laload, 1)) (d21 : decode cL_law (pc + 21) = .ok (.iload 6, 2)) (d23 : decode cL_law (pc + 23) = .ok (.i2l, 1)) (d24 : decode cL_law (pc + 24) = .ok (.lcmp, 1)) (d25 : decode cL_law (pc + 25) = .ok (.ifCond .eq 5, 3)) {off : Int} (d30 : decode cL_law (pc + 30) = .ok (.goto off, 3)) (ht : ((pc + 30 : Nat) : Int) + off = ((1733 : Nat) : Int))
    (hc : cells ≤ 601024 ∧ slots ≤ 7293034)
    (kk : ∀ (x : Nat → Int32) (a : Nat → Nat → Int32) (σ : zHp), lwS x a σ → LwG X p l e s m b below meth c σ0 loc0 cells slots σ 1733 (lw_L b i) []) : LwG X p l e s m b below meth c σ0 loc0 cells slots σ pc ((5, aI k) :: lw_L b i) [aI r] := by
  have C := K.1
  refine z_istore C d0 (by decide) ?_
  refine z_aload_n (i := 2) C d2 rfl rfl ?_
  refine z_callV C Y_X7_thrown V_X7_thrown ml_RL_106 (c_X7_thrown l hM) d3 rfl rfl hM.1 ⟨_, _, rfl⟩ (fun _ => Nat.le_of_ble_eq_true rfl) ⟨Nat.le_of_ble_eq_true rfl, Nat.le_of_ble_eq_true rfl⟩ hc (z_ri (fun r9 σ1 hx => ?_)) z_nx
  obtain ⟨rfl, rfl⟩ := hx
  refine z_iload C d6 rfl ?_
  have hend : LwG X p l e s m b below meth c σ0 loc0 cells slots σ1 (pc + 30) ((6, aI r) :: (5, aI k) :: lw_L b i) [] := by
    refine z_goto (tgt := 1733) C d30 ht ?_
    refine z_sub (L' := lw_L b i) (zs1 rfl (zs1 rfl (zs1 rfl (zs1 rfl (zs1 rfl zs0))))) ?_
    exact kk x a σ1 ⟨hI, hD, hM, f, h14⟩
  refine z_icmp_eq (tgt := pc + 13) C d8 (by omega) (fun _ => ?_) (fun h => absurd h31 h)
  refine z_iload C d13 rfl ?_
  refine z_if_ne (tgt := pc + 30) C d15 (by omega) (fun _ => hend) (fun hk => ?_)
  refine z_aload_n (i := 3) C d18 rfl rfl ?_
  refine z_iconst (v := 0) C d19 (by decide) ?_
  refine z_lald C d20 h14 in01 ?_
  refine z_iload C d21 rfl ?_
  refine z_i2l C d23 ?_
  refine z_lcmp C d24 ?_
  refine z_if_eq (tgt := pc + 30) C d25 (by omega) (fun _ => hend) (fun h => absurd ((lg_cmp_eq _ _).mpr (hv hk)) h)
end ZLT
/-- the last five bits of an int -/
theorem lw_and (v : Int32) : ∃ j, j < 32 ∧ v &&& 31 = nI j := by
  refine ⟨(v &&& 31).toBitVec.toNat, ?_, ?_⟩
  · have h : (v &&& 31).toBitVec.toNat = v.toBitVec.toNat &&& 31 := by
      rw [Int32.toBitVec_and, BitVec.toNat_and]
      rfl
    rw [h]
    exact Nat.lt_of_le_of_lt Nat.and_le_right (by decide)
  · apply Int32.toBitVec_inj.mp
    show _ = BitVec.ofNat 32 _
    rw [BitVec.ofNat_toNat, BitVec.setWidth_eq]
