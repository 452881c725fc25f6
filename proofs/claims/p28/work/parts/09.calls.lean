/-! the engine, fourth part: contracts, ends, calls, throws -/
def zRm (lev mc ms : Nat) : Room := { frames := lev, cells := mc, slots := ms, locals := 40 * lev }
def zPc (X : zX) (as : List zV) (σ0 : zHp) (loc0 : zK → Nat) : Array Value → State → Prop := fun a U => a = (as.map (zcv loc0)).toArray ∧ zS X U ∧ zW X σ0 loc0 U.heap ∧ ∀ v ∈ as, zlv σ0 v
def zQc (X : zX) (σ0 : zHp) (loc0 : zK → Nat) (post : Option zV → zHp → Prop) : Array Value → State → Outcome → State → Prop := fun _ st oc t => (∃ (r : Option zV) (σ : zHp) (loc : zK → Nat), oc = .returned (r.map (zcv loc)) ∧ post r σ ∧ (∀ v, r = some v → zlv σ v) ∧ zW X σ loc t.heap ∧ zLe σ0 loc0 σ loc) ∧ va_F (zA X) st t
def zXc (X : zX) (σ0 : zHp) (loc0 : zK → Nat) (xp : String → zHp → Prop) : String → State → State → Prop := fun E st t => (∃ (σ : zHp) (loc : zK → Nat), xp E σ ∧ zW X σ loc t.heap ∧ zLe σ0 loc0 σ loc) ∧ va_F (zA X) st t
/-- the contract of a method y, by the words ws: from the arguments 'as' and the world σ0 it returns with 'post' or throws with 'xp' -/
def zMw (X : zX) (l : Launch) (y : MethodName) (ws : List Cond) (lev mc ms : Nat) (as : List zV) (σ0 : zHp) (post : Option zV → zHp → Prop) (xp : String → zHp → Prop) : Prop :=
  l.stackTraces = false → ∀ loc0 : zK → Nat, vx_Met l y ws (zRm lev mc ms) (zPc X as σ0 loc0) (zQc X σ0 loc0 post) (zXc X σ0 loc0 xp) mc ms (zA X)
abbrev zM (X : zX) (l : Launch) (y : MethodName) (b : ByteArray) (nL : Nat) (ret : Option FieldType) (lev mc ms : Nat) (as : List zV) (σ0 : zHp) (post : Option zV → zHp → Prop) (xp : String → zHp → Prop) : Prop := zMw X l y (Cond.code y b nL ret :: zT) lev mc ms as σ0 post xp
abbrev zMh (X : zX) (l : Launch) (y : MethodName) (b : ByteArray) (nL : Nat) (ret : Option FieldType) (hh : List (Nat × Nat × Nat × Nat)) (lev mc ms : Nat) (as : List zV) (σ0 : zHp) (post : Option zV → zHp → Prop) (xp : String → zHp → Prop) : Prop := zMw X l y (Cond.codeWith y b nL ret hh :: zT) lev mc ms as σ0 post xp
def zNx : String → zHp → Prop := fun _ _ => False
abbrev zQ (X : zX) (σ0 : zHp) (loc0 : zK → Nat) (below : List Frame) (post : Option zV → zHp → Prop) (xp : String → zHp → Prop) (args : Array Value) (s : State) (mc ms : Nat) : State → Prop := vx_MQ below (zQc X σ0 loc0 post) (zXc X σ0 loc0 xp) args s mc ms (zA X)
def zargs : Nat → List zV → List (Nat × zV)
  | _, [] => []
  | i, v :: r => (i, v) :: zargs (i + 1) r
theorem zargs_eq (loc : zK → Nat) : ∀ (as : List zV) (i : Nat), (∀ v ∈ as, zcat v) → lv_args i (as.map (zcv loc)) = zcL loc (zargs i as)
  | [], _, _ => rfl
  | v :: r, i, h => by
    have h1 : (zcv loc v).category = 1 := zcat_cv (h v List.mem_cons_self)
    show (i, zcv loc v) :: lv_args (if (zcv loc v).category = 2 then i + 2 else i + 1) (r.map (zcv loc)) = _
    rw [h1, if_neg (by decide), zargs_eq loc r (i + 1) (fun x hx => h x (List.mem_cons_of_mem _ hx))]
    rfl
theorem zargs_ok {P : zV → Prop} : ∀ (as : List zV) (i : Nat), (∀ v ∈ as, P v) → ∀ q ∈ zargs i as, P q.2
  | [], _, _, q, hq => by cases hq
  | v :: r, i, h, q, hq => by
    rcases List.mem_cons.mp hq with e | hq
    · rw [e]; exact h v List.mem_cons_self
    · exact zargs_ok r (i + 1) (fun x hx => h x (List.mem_cons_of_mem _ hx)) q hq
theorem zargs_len (loc : zK → Nat) : ∀ (as : List zV), (∀ v ∈ as, zcat v) → (lg_sl (as.map (zcv loc))).length = as.length
  | [], _ => rfl
  | v :: r, h => by
    have h1 : (zcv loc v).category = 1 := zcat_cv (h v List.mem_cons_self)
    have ih := zargs_len loc r (fun x hx => h x (List.mem_cons_of_mem _ hx))
    unfold lg_sl at ih ⊢
    rw [List.map_cons, List.flatMap_cons, h1, if_neg (by decide), List.length_append, ih]
    simp [Nat.add_comm]
theorem zT_good : ∀ w ∈ zT, goodWord w = true := fun w h => (List.mem_filter.mp h).2
theorem zT_gi {w0 : Cond} (h0 : w0 ∈ zT) : GoodIn zT (w0 :: zT) := fun w h => by
  have hm : w ∈ zT := (List.mem_cons.mp h).elim (fun e => by rw [e]; exact h0) id
  exact ⟨hm, good_of_word (zT_good w hm)⟩
section ZM
variable {X : zX} {p : Program} {l : Launch} {e : Env} {R : Room} {s : State} {m : MethodId} {args : Array Value} {below : List Frame} {meth : Method} {c : Code} {nL : Nat} {σ0 σ : zHp} {loc0 : zK → Nat} {Q : State → Prop} {cells slots pc : Nat} {L : List (Nat × zV)} {st st' : List zV} {cc : ByteArray} {own : String}
theorem zM.of {y : MethodName} {b : ByteArray} {ret : Option FieldType} {lev mc ms : Nat} {as : List zV} {post : Option zV → zHp → Prop} {xp : String → zHp → Prop} (hy : plainName y.cls = true) (hlen : as.length ≤ nL) (hcat : ∀ v ∈ as, zcat v) (body : ∀ (p : Program) (e : Env) (s : State) (m : MethodId) (args : Array Value) (below : List Frame) (meth : Method) (c : Code) (loc0 : zK → Nat), zC X p l s m args meth c b nL y.cls → meth.sig.returnType = ret → meth.name = y.name → (∀ x ∈ c.exceptionTable.toList, False) → zG X p l e (zRm lev mc ms) s m args below meth c nL σ0 loc0 (zQ X σ0 loc0 below post xp args s mc ms) 0 0 σ0 0 (zargs 0 as) []) : zM X l y b nL ret lev mc ms as σ0 post xp := by
  intro hl loc0
  refine vx_ofW (cc := b) (maxL := nL) (ret := ret) hy rfl ?_
  intro p e s m args below meth c s₁ B hml hT hP
  obtain ⟨rfl, hS, hW, hlv⟩ := hP
  · have hts := atoms_spec (ws := Cond.code y b nL ret :: zT) B.pre
    have hC : zC X p l s m (as.map (zcv loc0)).toArray meth c b nL y.cls := ⟨B.exec, B.bytes, hml, findClass_of_methodNamed B.named, fun w hw => hts w (List.mem_cons_of_mem _ hw), hS, hl, B.notSynchronized, hW.1, hW.2.1⟩
    rw [lg_entry_eq]
    refine body p e s m _ below meth c loc0 hC B.returns (name_of_methodNamed B.named B.method).1 hT loc0 s.heap [] _ ⟨hW, zLe.rf, fun q hq => ⟨zargs_ok as 0 hlv q hq, zargs_ok as 0 hcat q hq⟩, (fun v h => by cases h), va_S.rf, ?_⟩
    rw [← zargs_eq loc0 as 0 hcat]
    exact lv_entry (as.map (zcv loc0)) (n := nL) (by rw [zargs_len loc0 as hcat]; exact hlen)
theorem zMh.of {y : MethodName} {b : ByteArray} {ret : Option FieldType} {hh : List (Nat × Nat × Nat × Nat)} {lev mc ms : Nat} {as : List zV} {post : Option zV → zHp → Prop} {xp : String → zHp → Prop} (hy : plainName y.cls = true) (hlen : as.length ≤ nL) (hcat : ∀ v ∈ as, zcat v) (body : ∀ (p : Program) (e : Env) (s : State) (m : MethodId) (args : Array Value) (below : List Frame) (meth : Method) (c : Code) (loc0 : zK → Nat), zC X p l s m args meth c b nL y.cls → meth.sig.returnType = ret → meth.name = y.name → c.exceptionTable.toList.map (fun h => (h.startPc, h.endPc, h.handlerPc, h.catchType)) = hh → zG X p l e (zRm lev mc ms) s m args below meth c nL σ0 loc0 (zQ X σ0 loc0 below post xp args s mc ms) 0 0 σ0 0 (zargs 0 as) []) : zMh X l y b nL ret hh lev mc ms as σ0 post xp := by
  intro hl loc0
  refine vx_ofWH (cc := b) (maxL := nL) (ret := ret) (hh := hh) hy rfl ?_
  intro p e s m args below meth c s₁ B hml hP
  obtain ⟨rfl, hS, hW, hlv⟩ := hP
  · have hts := atoms_spec (ws := Cond.codeWith y b nL ret hh :: zT) B.pre
    have hC : zC X p l s m (as.map (zcv loc0)).toArray meth c b nL y.cls := ⟨B.exec, B.bytes, hml, findClass_of_methodNamed B.named, fun w hw => hts w (List.mem_cons_of_mem _ hw), hS, hl, B.notSynchronized, hW.1, hW.2.1⟩
    have hT : c.exceptionTable.toList.map (fun h => (h.startPc, h.endPc, h.handlerPc, h.catchType)) = hh := by
      obtain ⟨m9, meth9, c9, hn9, h1, h2, -, -, h5, -⟩ := Cond.codeWith_spec (hts _ List.mem_cons_self)
      cases B.named.symm.trans hn9
      cases Option.some.inj (h1.symm.trans B.method)
      cases Option.some.inj (h2.symm.trans (Stand.of_body B).code)
      exact h5
    rw [lg_entry_eq]
    refine body p e s m _ below meth c loc0 hC B.returns (name_of_methodNamed B.named B.method).1 hT loc0 s.heap [] _ ⟨hW, zLe.rf, fun q hq => ⟨zargs_ok as 0 hlv q hq, zargs_ok as 0 hcat q hq⟩, (fun v h => by cases h), va_S.rf, ?_⟩
    rw [← zargs_eq loc0 as 0 hcat]
    exact lv_entry (as.map (zcv loc0)) (n := nL) (by rw [zargs_len loc0 as hcat]; exact hlen)
variable {post : Option zV → zHp → Prop} {xp : String → zHp → Prop} {mc ms : Nat} {loc : zK → Nat} {H : Heap} {locs : List Loc} {ls : Array Slot}
theorem zI.q (h : zI X s nL σ0 loc0 σ L st loc H locs ls) {r : Option zV} (hr : ∀ v, r = some v → zlv σ v) (hp : post r σ) {v : Option Value} (hv : v = r.map (zcv loc)) : ∀ t : State, t.heap = H → s.WarmedH t.vm → zQc X σ0 loc0 post args s (.returned v) t := fun t ht _ => ⟨⟨r, σ, loc, by rw [hv], hp, hr, by rw [ht]; exact h.1, h.2.1⟩, h.2.2.2.2.1.F ht⟩
theorem z_iret (C : zC X p l s m args meth c cc nL own) {x : Int32} {ty : FieldType} (hr : meth.sig.returnType = some ty) (hn : narrow ty (.int x) = .int x) (hd : decode cc pc = .ok (.ireturn, 1)) (hc : cells ≤ mc) (hs : slots ≤ ms) (hp : post (some (aI x)) σ) : zG X p l e R s m args below meth c nL σ0 loc0 (zQ X σ0 loc0 below post xp args s mc ms) cells slots σ pc L [aI x] := fun loc H locs ls hI =>
  W.widen hc hs (vx_ret (W.zret C.x C.b hr hn (hI.q (r := some (aI x)) (fun v h => by cases h; trivial) hp rfl) hI.2.2.2.2.1.2.2 hd C.2.2.2.2.2.2.2.1))
theorem z_vret (C : zC X p l s m args meth c cc nL own) (hr : meth.sig.returnType = none) (hd : decode cc pc = .ok (.return_, 1)) (hc : cells ≤ mc) (hs : slots ≤ ms) (hp : post none σ) : zG X p l e R s m args below meth c nL σ0 loc0 (zQ X σ0 loc0 below post xp args s mc ms) cells slots σ pc L [] := fun loc H locs ls hI =>
  W.widen hc hs (vx_ret (W.vret C.x C.b hr (hI.q (r := none) (fun v h => by cases h) hp rfl) hI.2.2.2.2.1.2.2 hd C.2.2.2.2.2.2.2.1))
theorem z_aret (C : zC X p l s m args meth c cc nL own) {v : zV} {rt : FieldType} (hr : meth.sig.returnType = some rt) (hrt : (∃ n, rt = .object n) ∨ ∃ t, rt = .array t) (hv : ∃ o : Option zK, v = aO o) (hd : decode cc pc = .ok (.areturn, 1)) (hc : cells ≤ mc) (hs : slots ≤ ms) (hp : post (some v) σ) : zG X p l e R s m args below meth c nL σ0 loc0 (zQ X σ0 loc0 below post xp args s mc ms) cells slots σ pc L [v] := fun loc H locs ls hI =>
  W.widen hc hs (vx_ret (W.aret C.x C.b hr hrt (by obtain ⟨o, rfl⟩ := hv; cases o with | none => exact Or.inl rfl | some q => exact Or.inr ⟨_, rfl⟩) (hI.q (r := some v) (fun w h => by cases h; exact zl_hd hI.2.2.2.1) hp rfl) hI.2.2.2.2.1.2.2 hd C.2.2.2.2.2.2.2.1))
/-- q is thrown in this frame -/
def zE (X : zX) (p : Program) (l : Launch) (e : Env) (R : Room) (s : State) (m : MethodId) (args : Array Value) (below : List Frame) (meth : Method) (c : Code) (nL : Nat) (σ0 : zHp) (loc0 : zK → Nat) (Q : State → Prop) (cells slots : Nat) (E : String) (σ : zHp) (pc : Nat) (L : List (Nat × zV)) : Prop :=
  ∀ (loc : zK → Nat) (H : Heap) (locs : List Loc) (ls : Array Slot) (rest : List Value) (q : Addr) (ce : Cell), zI X s nL σ0 loc0 σ L [] loc H locs ls → H[q]? = some ce → ce.vm = .none → s.vm.findClass E = some ce.cls → vx_W p l e R s m args below meth c H locs cells slots Q (F0 m pc ls rest) q
theorem z_out {E : String} (hT : ∀ x ∈ c.exceptionTable.toList, False) (hlocks : meth.locks = false) (hc : cells ≤ mc) (hs : slots ≤ ms) (hp : xp E σ) : zE X p l e R s m args below meth c nL σ0 loc0 (zQ X σ0 loc0 below post xp args s mc ms) cells slots E σ pc L := fun loc H locs ls rest q ce hI hq hv hE =>
  vx_out (fun x hx => absurd hx (fun h => hT x h)) hlocks hq hv hE (fun t ht _ => ⟨⟨σ, loc, hp, by rw [ht]; exact hI.1, hI.2.1⟩, hI.2.2.2.2.1.F ht⟩) hI.2.2.2.2.1.2.2 hc hs
theorem z_run {rest : List zV} {aa : (zK → Nat) → Array Value} (hr : ∀ loc H locs ls, zI X s nL σ0 loc0 σ L st loc H locs ls → vx_Run p l e R s m args below meth c H locs cells slots mc ms (F0 m pc ls (st.map (zcv loc))) (rest.map (zcv loc)) (zQc X σ loc post (aa loc)) (zXc X σ loc xp) (zA X)) (hrest : ∀ v ∈ rest, v ∈ st) (kk : ∀ r σ1, post r σ1 → zG X p l e R s m args below meth c nL σ0 loc0 Q (cells + mc) (slots + ms) σ1 (pc + 3) L (r.toList ++ rest)) (kx : ∀ E σ1, xp E σ1 → zE X p l e R s m args below meth c nL σ0 loc0 Q (cells + mc) (slots + ms) E σ1 pc L) : zG X p l e R s m args below meth c nL σ0 loc0 Q cells slots σ pc L st := fun loc H locs ls hI => by
  intro T hT Y
  have hL' : ∀ {σ1 : zHp} {loc1 : zK → Nat}, zLe σ loc σ1 loc1 → zcL loc1 L = zcL loc L := fun hle => by
    unfold zcL
    exact List.map_congr_left (fun q hq => by rw [zcv_congr (fun k i h => (hle k i h).2) (hI.2.2.1 q hq).1])
  rcases hr loc H locs ls hI T hT Y with ⟨v, st₀, t, T', Lc, h0, Y', hLc, e1, e2, ⟨⟨r, σ1, loc1, hv, hp, hlr, hW', hle⟩, hF⟩, st1⟩ | ⟨q, st₀, t, T', Lc, E, ce, h0, Y', hLc, e1, e2, ⟨⟨σ1, loc1, hp, hW', hle⟩, hF⟩, hce, hcv, hcl, st1⟩
  · cases hv
    obtain ⟨-, -, k3⟩ := vx_keep (A0 := zA X) (A1 := zA X) (free := zA X) h0 e1 hI.2.2.2.2.1 (fun _ _ h => h) (fun _ h => h) hLc hF
    have hlrest : ∀ v ∈ rest, zlv σ v := fun v hv => hI.2.2.2.1 v (hrest v hv)
    have hI1 : zI X s nL σ0 loc0 σ1 L (r.toList ++ rest) loc1 T'.heap (locs ++ Lc) ls := by
      refine ⟨by rw [e1]; exact hW', hI.2.1.trans hle, fun q hq => ⟨zlv_mono (fun k i h => (hle k i h).1) (hI.2.2.1 q hq).1, (hI.2.2.1 q hq).2⟩, fun v hv => ?_, k3, by rw [hL' hle]; exact hI.2.2.2.2.2⟩
      rcases List.mem_append.mp hv with h | h
      · exact hlr v (Option.mem_toList.mp h)
      · exact zlv_mono (fun k i h => (hle k i h).1) (hlrest v h)
    obtain ⟨t2, a1, b1⟩ := kk r σ1 hp loc1 T'.heap _ ls hI1 T' rfl Y'
    have es : (r.map (zcv loc1)).toList ++ rest.map (zcv loc) = (r.toList ++ rest).map (zcv loc1) := by
      rw [List.map_append, List.map_congr_left (fun v hv => (zcv_congr (fun k i h => (hle k i h).2) (hlrest v hv)).symm)]
      cases r <;> rfl
    refine ⟨t2, st1 t2 ?_, b1⟩
    rw [← es] at a1
    exact a1
  · obtain ⟨-, -, k3⟩ := vx_keep (A0 := zA X) (A1 := zA X) (free := zA X) h0 e1 hI.2.2.2.2.1 (fun _ _ h => h) (fun _ h => h) hLc hF
    obtain ⟨t2, a1, b1⟩ := kx E σ1 hp loc1 T'.heap _ ls (rest.map (zcv loc)) q ce ⟨by rw [e1]; exact hW', hI.2.1.trans hle, fun q hq => ⟨zlv_mono (fun k i h => (hle k i h).1) (hI.2.2.1 q hq).1, (hI.2.2.1 q hq).2⟩, (fun v h => by cases h), k3, by rw [hL' hle]; exact hI.2.2.2.2.2⟩ (by rw [e1]; exact hce) hcv hcl T' rfl Y'
    exact ⟨t2, st1.trans a1, b1⟩
theorem zPc_blind {as : List zV} {loc : zK → Nat} : FrameBlind (zPc X as σ loc) := fun a U g mk h => ⟨h.1, zS.same rfl h.2.1, h.2.2⟩
theorem zPc_at {as : List zV} (C : zC X p l s m args meth c cc nL own) (hI : zI X s nL σ0 loc0 σ L st loc H locs ls) (hs : ∀ v ∈ as, v ∈ st) : ∀ U : State, U.heap = H → s.WarmedH U.vm → zPc X as σ loc (as.map (zcv loc)).toArray U := fun U hU hW => ⟨rfl, zS.warm hW C.S, by rw [hU]; exact hI.1, fun v hv => hI.2.2.2.1 v (hs v hv)⟩
/-- a method's own words -/
def zY (y : MethodName) (w0 : Cond) (n : Nat) : Prop := w0 ∈ zT ∧ Cond.initialized y.cls ∈ zT ∧ (y.cls ≠ "java/lang/invoke/MethodHandle" ∧ y.cls ≠ "java/lang/invoke/VarHandle" ∧ (parseMethodDescriptor y.desc).map (fun d => d.parameters.length) = some n)
theorem zY.len {y : MethodName} {w0 : Cond} {n : Nat} (h : zY y w0 n) : ∀ sig, parseMethodDescriptor y.desc = some sig → n = sig.parameters.length := fun sig hs => by
  have h2 := h.2.2.2.2
  rw [hs] at h2
  exact (Option.some.inj h2).symm
variable {y : MethodName} {b : ByteArray} {nL' lev n : Nat} {ret : Option FieldType} {as rest : List zV} {idx : Nat}
theorem zB (C : zC X p l s m args meth c cc nL own) (hY : zY y (Cond.code y b nL' ret) n) (hml : Cond.methodLink own idx y ∈ zT) (hR : lev + 1 ≤ R.frames ∧ 8 + (nL' + 11) + 40 * lev ≤ R.locals) : CallB R s args own idx y b nL' ret (Cond.code y b nL' ret :: zT) (zRm lev mc ms) mc ms n :=
  callB_of n C.ts (zT_gi hY.1) rfl rfl rfl (C.ts _ hY.2.1) (C.ts _ hml) hY.2.2 hR
theorem z_rev {as rest : List zV} {loc : zK → Nat} {v : zV} : ((as.reverse ++ v :: rest).map (zcv loc)) = (as.map (zcv loc)).reverse ++ zcv loc v :: rest.map (zcv loc) := by
  rw [List.map_append, List.map_reverse, List.map_cons]
theorem z_revS {as rest : List zV} {loc : zK → Nat} : ((as.reverse ++ rest).map (zcv loc)) = (as.map (zcv loc)).reverse ++ rest.map (zcv loc) := by
  rw [List.map_append, List.map_reverse]
theorem z_callV (C : zC X p l s m args meth c cc nL own) {k i ci : Nat} {fs : List zV} (hY : zY y (Cond.code y b nL' ret) n) (hV : Cond.instanceMethod y ∈ zT ∧ Cond.selects y.cls y y ∈ zT) (hml : Cond.methodLink own idx y ∈ zT) (hM : zM X l y b nL' ret lev mc ms (aR k i :: as) σ post xp) (hd : decode cc pc = .ok (.invokevirtual idx, 3)) (hst : st = as.reverse ++ aR k i :: rest) (hn : as.length = n) (hσ : σ k i = some (oC ci fs)) (hci : ∃ T N, vwCl[ci]? = some (y.cls, T, N)) (hcat : ∀ loc : zK → Nat, ((rest.map (zcv loc)).map fun v => v.category).sum ≤ 8) (hR : lev + 1 ≤ R.frames ∧ 8 + (nL' + 11) + 40 * lev ≤ R.locals) (hf : cells + mc ≤ R.cells ∧ slots + ms ≤ R.slots)
    (kk : ∀ r σ1, post r σ1 → zG X p l e R s m args below meth c nL σ0 loc0 Q (cells + mc) (slots + ms) σ1 (pc + 3) L (r.toList ++ rest)) (kx : ∀ E σ1, xp E σ1 → zE X p l e R s m args below meth c nL σ0 loc0 Q (cells + mc) (slots + ms) E σ1 pc L) : zG X p l e R s m args below meth c nL σ0 loc0 Q cells slots σ pc L st := by
  subst hst
  refine z_run (post := post) (xp := xp) (aa := fun loc => (Value.ref (loc (k, i)) :: as.map (zcv loc)).toArray) (fun loc H locs ls hI => ?_) (fun v hv => List.mem_append_right _ (List.mem_cons_of_mem _ hv)) kk kx
  obtain ⟨T9, N9, hc9⟩ := hci
  obtain ⟨r9, hr9, cell, g1, g2, g3, -⟩ := hI.cellO hσ
  refine vx_runV (C := y.cls) (b := loc (k, i)) (As := as.map (zcv loc)) C.fix (hM C.2.2.2.2.2.2.1 loc) ⟨zB C hY hml hR, C.ts _ hV.1, C.ts _ hV.2⟩ ⟨zPc_blind, ⟨cell, g1, by rw [g3]; rfl, by rw [g2]; exact (C.K.1 ci _ hc9).2.1⟩, zPc_at (as := aR k i :: as) C hI (fun v hv => ?_)⟩ rfl (by rw [List.length_map]; exact hn) hI.2.2.2.2.2.1 z_rev (lv_room (hcat loc)) hd hf
  rcases List.mem_cons.mp hv with e | h
  · rw [e]; exact List.mem_append_right _ List.mem_cons_self
  · exact List.mem_append_left _ (List.mem_reverse.mpr h)
theorem z_callS (C : zC X p l s m args meth c cc nL own) (hY : zY y (Cond.code y b nL' ret) n) (hV : Cond.static y ∈ zT) (hml : Cond.methodLink own idx y ∈ zT) (hM : zM X l y b nL' ret lev mc ms as σ post xp) (hd : decode cc pc = .ok (.invokestatic idx, 3)) (hst : st = as.reverse ++ rest) (hn : as.length = n) (hcat : ∀ loc : zK → Nat, ((rest.map (zcv loc)).map fun v => v.category).sum ≤ 8) (hR : lev + 1 ≤ R.frames ∧ 8 + (nL' + 11) + 40 * lev ≤ R.locals) (hf : cells + mc ≤ R.cells ∧ slots + ms ≤ R.slots)
    (kk : ∀ r σ1, post r σ1 → zG X p l e R s m args below meth c nL σ0 loc0 Q (cells + mc) (slots + ms) σ1 (pc + 3) L (r.toList ++ rest)) (kx : ∀ E σ1, xp E σ1 → zE X p l e R s m args below meth c nL σ0 loc0 Q (cells + mc) (slots + ms) E σ1 pc L) : zG X p l e R s m args below meth c nL σ0 loc0 Q cells slots σ pc L st := by
  subst hst
  refine z_run (post := post) (xp := xp) (aa := fun loc => (as.map (zcv loc)).toArray) (fun loc H locs ls hI => ?_) (fun v hv => List.mem_append_right _ hv) kk kx
  exact vx_runS (As := as.map (zcv loc)) C.fix (hM C.2.2.2.2.2.2.1 loc) ⟨zB C hY hml hR, C.ts _ hV⟩ ⟨zPc_blind, zPc_at (as := as) C hI (fun v hv => List.mem_append_left _ (List.mem_reverse.mpr hv))⟩ rfl (by rw [List.length_map]; exact hn) hI.2.2.2.2.2.1 z_revS (lv_room (hcat loc)) hd hf
theorem z_callI (C : zC X p l s m args meth c cc nL own) {k i : Nat} (hY : zY y (Cond.code y b nL' none) n) (hV : Cond.instanceMethod y ∈ zT) (hnm : y.name = "<init>") (hml : Cond.methodLink own idx y ∈ zT) (hM : zM X l y b nL' none lev mc ms (aR k i :: as) σ post xp) (hd : decode cc pc = .ok (.invokespecial idx, 3)) (hst : st = as.reverse ++ aR k i :: rest) (hn : as.length = n) (hcat : ∀ loc : zK → Nat, ((rest.map (zcv loc)).map fun v => v.category).sum ≤ 8) (hR : lev + 1 ≤ R.frames ∧ 8 + (nL' + 11) + 40 * lev ≤ R.locals) (hf : cells + mc ≤ R.cells ∧ slots + ms ≤ R.slots)
    (kk : ∀ r σ1, post r σ1 → zG X p l e R s m args below meth c nL σ0 loc0 Q (cells + mc) (slots + ms) σ1 (pc + 3) L (r.toList ++ rest)) (kx : ∀ E σ1, xp E σ1 → zE X p l e R s m args below meth c nL σ0 loc0 Q (cells + mc) (slots + ms) E σ1 pc L) : zG X p l e R s m args below meth c nL σ0 loc0 Q cells slots σ pc L st := by
  subst hst
  refine z_run (post := post) (xp := xp) (aa := fun loc => (Value.ref (loc (k, i)) :: as.map (zcv loc)).toArray) (fun loc H locs ls hI => ?_) (fun v hv => List.mem_append_right _ (List.mem_cons_of_mem _ hv)) kk kx
  refine vx_runI (b := loc (k, i)) (As := as.map (zcv loc)) C.fix (hM C.2.2.2.2.2.2.1 loc) ⟨zB C hY hml hR, hnm, C.ts _ hV⟩ ⟨zPc_blind, zPc_at (as := aR k i :: as) C hI (fun v hv => ?_)⟩ rfl (by rw [List.length_map]; exact hn) hI.2.2.2.2.2.1 z_rev (lv_room (hcat loc)) hd hf
  rcases List.mem_cons.mp hv with e | h
  · rw [e]; exact List.mem_append_right _ List.mem_cons_self
  · exact List.mem_append_left _ (List.mem_reverse.mpr h)
theorem z_callIN (C : zC X p l s m args meth c cc nL own) {k i : Nat} {host : String} (hY : zY y (Cond.code y b nL' none) n) (hV : Cond.instanceMethod y ∈ zT) (hnm : y.name = "<init>") (hml : va_Nw (.methodLinkNest own idx y host) s) (hM : zM X l y b nL' none lev mc ms (aR k i :: as) σ post xp) (hd : decode cc pc = .ok (.invokespecial idx, 3)) (hst : st = as.reverse ++ aR k i :: rest) (hn : as.length = n) (hcat : ∀ loc : zK → Nat, ((rest.map (zcv loc)).map fun v => v.category).sum ≤ 8) (hR : lev + 1 ≤ R.frames ∧ 8 + (nL' + 11) + 40 * lev ≤ R.locals) (hf : cells + mc ≤ R.cells ∧ slots + ms ≤ R.slots)
    (kk : ∀ r σ1, post r σ1 → zG X p l e R s m args below meth c nL σ0 loc0 Q (cells + mc) (slots + ms) σ1 (pc + 3) L (r.toList ++ rest)) (kx : ∀ E σ1, xp E σ1 → zE X p l e R s m args below meth c nL σ0 loc0 Q (cells + mc) (slots + ms) E σ1 pc L) : zG X p l e R s m args below meth c nL σ0 loc0 Q cells slots σ pc L st := by
  subst hst
  refine z_run (post := post) (xp := xp) (aa := fun loc => (Value.ref (loc (k, i)) :: as.map (zcv loc)).toArray) (fun loc H locs ls hI => ?_) (fun v hv => List.mem_append_right _ (List.mem_cons_of_mem _ hv)) kk kx
  refine vx_runIN (b := loc (k, i)) (As := as.map (zcv loc)) C.fix (hM C.2.2.2.2.2.2.1 loc) ⟨va_cnB n C.ts (zT_gi hY.1) rfl rfl rfl hml (C.ts _ hY.2.1) hY.2.2 hR, hnm, C.ts _ hV⟩ ⟨zPc_blind, zPc_at (as := aR k i :: as) C hI (fun v hv => ?_)⟩ rfl (by rw [List.length_map]; exact hn) hI.2.2.2.2.2.1 z_rev (lv_room (hcat loc)) hd hf
  rcases List.mem_cons.mp hv with e | h
  · rw [e]; exact List.mem_append_right _ List.mem_cons_self
  · exact List.mem_append_left _ (List.mem_reverse.mpr h)
theorem z_callSX (C : zC X p l s m args meth c cc nL own) {hh : List (Nat × Nat × Nat × Nat)} (hY : zY y (Cond.codeWith y b nL' ret hh) n) (hV : Cond.static y ∈ zT) (hml : Cond.methodLink own idx y ∈ zT) (hM : zMh X l y b nL' ret hh lev mc ms as σ post xp) (hd : decode cc pc = .ok (.invokestatic idx, 3)) (hst : st = as.reverse ++ rest) (hn : as.length = n) (hcat : ∀ loc : zK → Nat, ((rest.map (zcv loc)).map fun v => v.category).sum ≤ 8) (hR : lev + 1 ≤ R.frames ∧ 8 + (nL' + 11) + 40 * lev ≤ R.locals) (hf : cells + mc ≤ R.cells ∧ slots + ms ≤ R.slots)
    (kk : ∀ r σ1, post r σ1 → zG X p l e R s m args below meth c nL σ0 loc0 Q (cells + mc) (slots + ms) σ1 (pc + 3) L (r.toList ++ rest)) (kx : ∀ E σ1, xp E σ1 → zE X p l e R s m args below meth c nL σ0 loc0 Q (cells + mc) (slots + ms) E σ1 pc L) : zG X p l e R s m args below meth c nL σ0 loc0 Q cells slots σ pc L st := by
  subst hst
  refine z_run (post := post) (xp := xp) (aa := fun loc => (as.map (zcv loc)).toArray) (fun loc H locs ls hI => ?_) (fun v hv => List.mem_append_right _ hv) kk kx
  exact vx_runSX (As := as.map (zcv loc)) C.fix (hM C.2.2.2.2.2.2.1 loc) (vx_cwSW n C.ts (fun w h => by
      rcases List.mem_append.mp h with h | h
      · simp only [List.mem_cons, List.not_mem_nil, or_false] at h
        rcases h with e | e | e <;> rw [e]
        · exact ⟨hml, good_of_word (zT_good _ hml)⟩
        · exact ⟨hV, good_of_word (zT_good _ hV)⟩
        · exact ⟨hY.2.1, good_of_word (zT_good _ hY.2.1)⟩
      · exact zT_gi hY.1 w h) rfl rfl rfl hY.2.2 hR) ⟨zPc_blind, zPc_at (as := as) C hI (fun v hv => List.mem_append_left _ (List.mem_reverse.mpr hv))⟩ rfl (by rw [List.length_map]; exact hn) hI.2.2.2.2.2.1 z_revS (lv_room (hcat loc)) hd hf
-- answers by their kinds
def zPi (P : Int32 → zHp → Prop) : Option zV → zHp → Prop := fun r σ => ∃ x, r = some (aI x) ∧ P x σ
def zPv (P : zHp → Prop) : Option zV → zHp → Prop := fun r σ => r = none ∧ P σ
def zPo (P : Option zK → zHp → Prop) : Option zV → zHp → Prop := fun r σ => ∃ o, r = some (aO o) ∧ P o σ
def zPr (P : zK → zHp → Prop) : Option zV → zHp → Prop := fun r σ => ∃ q, r = some (.inr q) ∧ P q σ
theorem z_ri {P : Int32 → zHp → Prop} {K : zHp → List zV → Prop} (h : ∀ x σ1, P x σ1 → K σ1 (aI x :: rest)) : ∀ r σ1, zPi P r σ1 → K σ1 (r.toList ++ rest) := fun r σ1 ⟨x, e, hp⟩ => by subst e; exact h x σ1 hp
theorem z_rv {P : zHp → Prop} {K : zHp → List zV → Prop} (h : ∀ σ1, P σ1 → K σ1 rest) : ∀ r σ1, zPv P r σ1 → K σ1 (r.toList ++ rest) := fun r σ1 ⟨e, hp⟩ => by subst e; exact h σ1 hp
theorem z_ro {P : Option zK → zHp → Prop} {K : zHp → List zV → Prop} (h : ∀ x σ1, P x σ1 → K σ1 (aO x :: rest)) : ∀ r σ1, zPo P r σ1 → K σ1 (r.toList ++ rest) := fun r σ1 ⟨x, e, hp⟩ => by subst e; exact h x σ1 hp
theorem z_rr {P : zK → zHp → Prop} {K : zHp → List zV → Prop} (h : ∀ x σ1, P x σ1 → K σ1 (.inr x :: rest)) : ∀ r σ1, zPr P r σ1 → K σ1 (r.toList ++ rest) := fun r σ1 ⟨x, e, hp⟩ => by subst e; exact h x σ1 hp
theorem z_nx {K : String → zHp → Prop} : ∀ E σ1, zNx E σ1 → K E σ1 := fun _ _ h => h.elim
end ZM
