/-! the engine, fifth part: throw and catch; Math -/
section ZT
variable {X : zX} {p : Program} {l : Launch} {e : Env} {R : Room} {s : State} {m : MethodId} {args : Array Value} {below : List Frame} {meth : Method} {c : Code} {nL : Nat} {σ0 σ : zHp} {loc0 : zK → Nat} {Q : State → Prop} {cells slots pc : Nat} {L : List (Nat × zV)} {st st' : List zV} {cc : ByteArray} {own : String}
variable {post : Option zV → zHp → Prop} {xp : String → zHp → Prop} {mc ms : Nat}
def zNm : List String := ["java/lang/RuntimeException", "java/lang/Exception"]
theorem zNm_fit : ∀ n ∈ zNm, Bundle.fit n = true := by decide +kernel
def zBad (cls : String) : List Cond := .castable cls cls :: zDec.map Cond.declares
def zTh (own cls : String) (ik ic : Nat) : Prop := Bundle.fit cls = true ∧ Cond.classLink own ik cls ∈ zT ∧ Cond.initialized cls ∈ zT ∧ (∀ w ∈ (vx_atS own ic cls zNm).filter goodWord, w ∈ zT) ∧ (∀ w ∈ (vx_atS own ic cls zNm).filter (fun w => !goodWord w), w ∈ zBad cls) ∧ (cls, cls) ∈ zCast ∧ (∀ w ∈ Cond.classLink own ik cls :: Cond.initialized cls :: vx_atS own ic cls zNm, vx_ot w = true)
theorem z_throwS (C : zC X p l s m args meth c cc nL own) (hT : ∀ x ∈ c.exceptionTable.toList, False) {cls text : String} {ik is ic : Nat} (hth : zTh own cls ik ic) (hown : own = RX6) (hstr : (is, text) ∈ zStr) (d0 : decode cc pc = .ok (.new ik, 3)) (d3 : decode cc (pc + 3) = .ok (.dup, 1)) (d4 : decode cc (pc + 4) = .ok (.ldc is, 2)) (d6 : decode cc (pc + 6) = .ok (.invokespecial ic, 3)) (d9 : decode cc (pc + 9) = .ok (.athrow, 1)) (hRf : 5 < R.frames ∧ 82 ≤ R.locals) (hR : cells + 1 ≤ R.cells ∧ slots + 6 ≤ R.slots) (hc : cells + 1 ≤ mc) (hs : slots + 6 ≤ ms) (hp : xp cls σ) : zG X p l e R s m args below meth c nL σ0 loc0 (zQ X σ0 loc0 below post xp args s mc ms) cells slots σ pc L [] := fun loc H locs ls hI => by
  obtain ⟨h1, h2, h3, h4, h5, h6, h7⟩ := hth
  obtain ⟨sa, hsa⟩ := C.S.2.2.2.2.2.2.2.2.2 _ hstr
  have hU := (C.S.2.2.2.2.2.1).kept (H1 := s.heap) (fun a h1 _ => C.2.2.2.2.2.2.2.2.2 a h1)
  have hN := (C.S.2.2.2.2.2.2.1).kept (H1 := s.heap) (fun a h1 _ => C.2.2.2.2.2.2.2.2.2 a h1)
  refine vx_throwS (names := zNm) (sa := sa) (A := zA X) C.x C.b C.2.2.2.2.2.2.1 C.ow h1 zNm_fit (C.ts _ h2) (C.ts _ h3) (by rw [hown]; exact hsa) (vx_hat (B := zBad cls) (fun w hw => C.ts w (h4 w hw)) h5 (fun w hw => by
    rcases List.mem_cons.mp hw with e9 | hw
    · rw [e9]; exact va_Nw.use rfl (C.S.2.1 _ h6)
    · obtain ⟨y, hy, rfl⟩ := List.mem_map.mp hw
      exact va_Nw.use rfl (C.S.2.2.2.2.1.2 y hy))) h7 hU hN hI.2.2.2.2.1 (by rw [C.ml]; exact hI.2.2.2.2.2.1) d0 d3 d4 d6 d9 (fun x hx => absurd hx (fun h => hT x h)) hRf.1 (by show 0 + 82 ≤ _; have := hRf.2; omega) hR.1 hR.2 C.2.2.2.2.2.2.2.1 (fun t _ hz ho => ?_) hI.2.2.2.2.1.2.2 hc hs
  exact ⟨⟨σ, loc, hp, hI.1.grow hz ho, hI.2.1⟩, Nat.le_trans hI.2.2.2.2.1.1 hz, fun q g1 g2 => (ho q (Nat.lt_of_lt_of_le g1 hI.2.2.2.2.1.1)).trans (hI.2.2.2.2.1.2.1 q g1 g2)⟩
theorem z_throwSW (C : zC X p l s m args meth c cc nL own) (hT : ∀ x ∈ c.exceptionTable.toList, False) {cls text : String} {ik is ic : Nat} (hth : zTh own cls ik ic) (hown : own = RX6) (hstr : (is, text) ∈ zStr) (d0 : decode cc pc = .ok (.new ik, 3)) (d3 : decode cc (pc + 3) = .ok (.dup, 1)) (d4 : decode cc (pc + 4) = .ok (.ldc_w is, 3)) (d6 : decode cc (pc + 7) = .ok (.invokespecial ic, 3)) (d9 : decode cc (pc + 10) = .ok (.athrow, 1)) (hRf : 5 < R.frames ∧ 82 ≤ R.locals) (hR : cells + 1 ≤ R.cells ∧ slots + 6 ≤ R.slots) (hc : cells + 1 ≤ mc) (hs : slots + 6 ≤ ms) (hp : xp cls σ) : zG X p l e R s m args below meth c nL σ0 loc0 (zQ X σ0 loc0 below post xp args s mc ms) cells slots σ pc L [] := fun loc H locs ls hI => by
  obtain ⟨h1, h2, h3, h4, h5, h6, h7⟩ := hth
  obtain ⟨sa, hsa⟩ := C.S.2.2.2.2.2.2.2.2.2 _ hstr
  have hU := (C.S.2.2.2.2.2.1).kept (H1 := s.heap) (fun a h1 _ => C.2.2.2.2.2.2.2.2.2 a h1)
  have hN := (C.S.2.2.2.2.2.2.1).kept (H1 := s.heap) (fun a h1 _ => C.2.2.2.2.2.2.2.2.2 a h1)
  refine vx_throwSW (names := zNm) (sa := sa) (A := zA X) C.x C.b C.2.2.2.2.2.2.1 C.ow h1 zNm_fit (C.ts _ h2) (C.ts _ h3) (by rw [hown]; exact hsa) (vx_hat (B := zBad cls) (fun w hw => C.ts w (h4 w hw)) h5 (fun w hw => by
    rcases List.mem_cons.mp hw with e9 | hw
    · rw [e9]; exact va_Nw.use rfl (C.S.2.1 _ h6)
    · obtain ⟨y, hy, rfl⟩ := List.mem_map.mp hw
      exact va_Nw.use rfl (C.S.2.2.2.2.1.2 y hy))) h7 hU hN hI.2.2.2.2.1 (by rw [C.ml]; exact hI.2.2.2.2.2.1) d0 d3 d4 d6 d9 (fun x hx => absurd hx (fun h => hT x h)) hRf.1 (by show 0 + 82 ≤ _; have := hRf.2; omega) hR.1 hR.2 C.2.2.2.2.2.2.2.1 (fun t _ hz ho => ?_) hI.2.2.2.2.1.2.2 hc hs
  exact ⟨⟨σ, loc, hp, hI.1.grow hz ho, hI.2.1⟩, Nat.le_trans hI.2.2.2.2.1.1 hz, fun q g1 g2 => (ho q (Nat.lt_of_lt_of_le g1 hI.2.2.2.2.1.1)).trans (hI.2.2.2.2.1.2.1 q g1 g2)⟩
theorem z_catch (C : zC X p l s m args meth c cc nL own) {hh : List (Nat × Nat × Nat × Nat)} {E : String} (hT : c.exceptionTable.toList.map (fun h => (h.startPc, h.endPc, h.handlerPc, h.catchType)) = hh) (pre suf : List (Nat × Nat × Nat × Nat)) {sp ep hp ct : Nat} (hj : hh = pre ++ (sp, ep, hp, ct) :: suf) (hcov : sp ≤ pc ∧ pc < ep) (hpass : ∀ z ∈ pre, z.2.2.2 ≠ 0 ∧ ∃ nm, Cond.classLink own z.2.2.2 nm ∈ zT ∧ (E, nm) ∈ zNcst) (h0 : ct ≠ 0) (hlink : Cond.classLink own ct E ∈ zT) (hcast : (E, E) ∈ zCast) (kk : ∀ q : Nat, zG X p l e R s m args below meth c nL σ0 loc0 Q cells slots σ hp L [.inl (.ref q)]) : zE X p l e R s m args below meth c nL σ0 loc0 Q cells slots E σ pc L := fun loc H locs ls rest q ce hI hq hv hE => by
  subst hj
  obtain ⟨l1, l2, e1, e2, e3⟩ := List.map_eq_append_iff.mp hT
  obtain ⟨x, l3, e4, e5, e6⟩ := List.map_eq_cons_iff.mp e3
  have ex := Prod.mk.inj e5
  have ex2 := Prod.mk.inj ex.2
  have ex3 := Prod.mk.inj ex2.2
  refine vx_catch (name := E) C.ow l1 x l3 (by rw [e1, e4]) (fun z hz => Or.inr ?_) (by unfold covers; rw [ex.1, ex2.1]; simp [hcov]) (by rw [ex3.2]; exact h0) (by rw [ex3.2]; exact C.ts _ hlink) (va_Nw.use rfl (C.S.2.1 _ hcast)) hq hv hE ?_
  · obtain ⟨g1, nm, g2, g3⟩ := hpass (z.startPc, z.endPc, z.handlerPc, z.catchType) (by rw [← e2]; exact List.mem_map.mpr ⟨z, hz, rfl⟩)
    exact ⟨g1, nm, C.ts _ g2, C.S.2.2.1 _ g3⟩
  · rw [ex3.1]
    exact kk q loc H locs ls (hI.sk (fun _ => zl_cp (fun v h => by cases h)))
theorem z_astoreQ (C : zC X p l s m args meth c cc nL own) {i q : Nat} (hd : decode cc pc = .ok (.astore i, 2)) (hn : i < nL) (kk : zG X p l e R s m args below meth c nL σ0 loc0 Q cells slots σ (pc + 2) (zst L i (.inl (.ref q))) st) : zG X p l e R s m args below meth c nL σ0 loc0 Q cells slots σ pc L (.inl (.ref q) :: st) := fun loc H locs ls hI => lv_astore C.x C.b hd hI.2.2.2.2.2 hn (zcL_st loc (fun q hq => (hI.2.2.1 q hq).2) i (.inl (.ref q))) (fun ls' h' => kk loc H locs ls' ((hI.sk zl_tl).sto (v := .inl (.ref q)) ⟨trivial, rfl⟩ h'))
theorem z_astore_nQ (C : zC X p l s m args meth c cc nL own) {k : Fin 4} {i q : Nat} (hd : decode cc pc = .ok (.astore_n k, 1)) (hi : (k : Nat) = i) (hn : i < nL) (kk : zG X p l e R s m args below meth c nL σ0 loc0 Q cells slots σ (pc + 1) (zst L i (.inl (.ref q))) st) : zG X p l e R s m args below meth c nL σ0 loc0 Q cells slots σ pc L (.inl (.ref q) :: st) := fun loc H locs ls hI => lv_astore_n C.x C.b hd hi hI.2.2.2.2.2 hn (zcL_st loc (fun q hq => (hI.2.2.1 q hq).2) i (.inl (.ref q))) (fun ls' h' => kk loc H locs ls' ((hI.sk zl_tl).sto (v := .inl (.ref q)) ⟨trivial, rfl⟩ h'))
theorem z_mmax (C : zC X p l s m args meth c cc nL own) {idx : Nat} {x y : Int32} (hd : decode cc pc = .ok (.invokestatic idx, 3)) (hw : Cond.methodLink own idx Lib.Math.max.name ∈ zT ∧ Cond.static Lib.Math.max.name ∈ zT ∧ Cond.initialized "java/lang/Math" ∈ zT ∧ Cond.code Lib.Math.max.name Lib.Math.max.code 2 (some .int) ∈ zT) (hR : 1 ≤ R.frames ∧ 21 ≤ R.locals ∧ cells ≤ R.cells ∧ slots ≤ R.slots) (hcat : ∀ loc : zK → Nat, ((st.map (zcv loc)).map fun v => v.category).sum ≤ 8) (kk : zG X p l e R s m args below meth c nL σ0 loc0 Q cells slots σ (pc + 3) L (aI (if x < y then y else x) :: st)) : zG X p l e R s m args below meth c nL σ0 loc0 Q cells slots σ pc L (aI y :: aI x :: st) := fun loc H locs ls hI =>
  va_mmax C.x C.b (by rw [C.ml]; exact hI.2.2.2.2.2.1.symm) C.ow (C.ts _ hw.1) (C.ts _ hw.2.1) (C.ts _ hw.2.2.1) (C.ts _ hw.2.2.2) hR.1 (by have := hcat loc; have := hR.2.1; omega) hR.2.2.1 hR.2.2.2 hd (kk loc H locs ls (hI.sk (fun h => zl_cp (zl_tl2 h))))
theorem z_mmin (C : zC X p l s m args meth c cc nL own) {idx : Nat} {x y : Int32} (hd : decode cc pc = .ok (.invokestatic idx, 3)) (hw : Cond.methodLink own idx Lib.Math.min.name ∈ zT ∧ Cond.static Lib.Math.min.name ∈ zT ∧ Cond.initialized "java/lang/Math" ∈ zT ∧ Cond.code Lib.Math.min.name Lib.Math.min.code 2 (some .int) ∈ zT) (hR : 1 ≤ R.frames ∧ 21 ≤ R.locals ∧ cells ≤ R.cells ∧ slots ≤ R.slots) (hcat : ∀ loc : zK → Nat, ((st.map (zcv loc)).map fun v => v.category).sum ≤ 8) (kk : zG X p l e R s m args below meth c nL σ0 loc0 Q cells slots σ (pc + 3) L (aI (if y < x then y else x) :: st)) : zG X p l e R s m args below meth c nL σ0 loc0 Q cells slots σ pc L (aI y :: aI x :: st) := fun loc H locs ls hI =>
  va_mmin C.x C.b (by rw [C.ml]; exact hI.2.2.2.2.2.1.symm) C.ow (C.ts _ hw.1) (C.ts _ hw.2.1) (C.ts _ hw.2.2.1) (C.ts _ hw.2.2.2) hR.1 (by have := hcat loc; have := hR.2.1; omega) hR.2.2.1 hR.2.2.2 hd (kk loc H locs ls (hI.sk (fun h => zl_cp (zl_tl2 h))))
theorem z_castR (C : zC X p l s m args meth c cc nL own) {k i ci idx : Nat} {fs : List zV} (hd : decode cc pc = .ok (.checkcast idx, 3)) (hσ : σ k i = some (oC ci fs)) (hci : ∃ Cn T N, vwCl[ci]? = some (Cn, T, N) ∧ Cond.classLink own idx Cn ∈ zT) (kk : zG X p l e R s m args below meth c nL σ0 loc0 Q cells slots σ (pc + 3) L (aR k i :: st)) : zG X p l e R s m args below meth c nL σ0 loc0 Q cells slots σ pc L (aR k i :: st) := fun loc H locs ls hI => by
  obtain ⟨Cn, T, N, hc, hlk⟩ := hci
  obtain ⟨r9, hr9, cell, g1, g2, g3, -⟩ := hI.cell hσ
  have hcls := (C.K.1 ci _ hc).2
  exact va_castS (cC := X.1.1 ci) C.x C.b C.ow (C.ts _ hlk) hcls ⟨cell, g1, by rw [g3]; rfl, by rw [g2]; exact hcls.1⟩ hd (kk loc H locs ls hI)
theorem z_castA (C : zC X p l s m args meth c cc nL own) {k i n : Nat} {f : Nat → Option zK} (kk : zG X p l e R s m args below meth c nL σ0 loc0 Q cells slots σ pc L (aR k i :: st)) (hσ : σ k i = some (rC n f)) : zG X p l e R s m args below meth c nL σ0 loc0 Q cells slots σ pc L (aR k i :: st) := kk
theorem z_objI (C : zC X p l s m args meth c cc nL own) {q : zK} {idx : Nat} (hlink : Cond.methodLink own idx objectInit ∈ zT) (him : Cond.instanceMethod objectInit ∈ zT) (hco : Cond.code objectInit ⟨#[0xb1]⟩ 1 none ∈ zT) (hR : 1 ≤ R.frames ∧ 30 ≤ R.locals) (hcat : ∀ loc : zK → Nat, ((st.map (zcv loc)).map fun v => v.category).sum ≤ 8) (hd : decode cc pc = .ok (.invokespecial idx, 3)) (kk : zG X p l e R s m args below meth c nL σ0 loc0 Q cells slots σ (pc + 3) L st) : zG X p l e R s m args below meth c nL σ0 loc0 Q cells slots σ pc L (.inr q :: st) := fun loc H locs ls hI =>
  W.objInit C.x C.b C.ow (C.ts _ hlink) (C.ts _ him) (C.ts _ hco) rfl (by rw [C.ml]; exact hI.2.2.2.2.2.1) rfl hd hR.1 (by have := hcat loc; have := hR.2; show 2 * 0 + _ + 12 ≤ _; omega) (kk loc H locs ls (hI.sk zl_tl))
end ZT
