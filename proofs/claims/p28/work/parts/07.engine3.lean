/-! the engine, third part: null in rows, new cells, arraycopy -/
section ZN
variable {X : zX} {p : Program} {l : Launch} {e : Env} {R : Room} {s : State} {m : MethodId} {args : Array Value} {below : List Frame} {meth : Method} {c : Code} {nL : Nat} {σ0 σ : zHp} {loc0 : zK → Nat} {Q : State → Prop} {cells slots pc : Nat} {L : List (Nat × zV)} {st st' : List zV} {cc : ByteArray} {own : String}
variable {loc : zK → Nat} {H H' : Heap} {locs : List Loc} {ls : Array Slot}
theorem z_aastN (C : zC X p l s m args meth c cc nL own) {k i n : Nat} {f : Nat → Option zK} {x : Int32} (hd : decode cc pc = .ok (.aastore, 1)) (hσ : σ k i = some (rC n f)) (hk : k < 90) (hin : vp_in x n) (kk : zG X p l e R s m args below meth c nL σ0 loc0 Q cells slots (zput σ k i (rC n (va_up f x.toNatClampNeg none))) (pc + 1) L st) : zG X p l e R s m args below meth c nL σ0 loc0 Q cells slots σ pc L (aN :: aI x :: aR k i :: st) := fun loc H locs ls hI => by
  have hc : H[loc (k, i)]? = some (vp_cell _ _) := hI.cell hσ hk
  refine va_WaastN (C := "java/lang/Object") C.x C.b hc ((C.K.2 2 _ rfl).1 n (fun j => va_rf ((f j).map loc))) (fun h => by cases h) (by show ¬ (x < 0 ∨ (arrV _ _ _).slots.size ≤ _); rw [arrV_size]; exact hin) rfl rfl hd fun H1 e1 z oq => ?_
  refine kk loc H1 _ ls ((hI.sk zl_tl3).put hσ hk ?_ (fun j q hj => ?_) z oq)
  · show H1[loc (k, i)]? = some (vp_cell _ _)
    rw [e1, vp_cell_q, vp_cell_q, arrV_store]
    congr 2
    funext q
    by_cases hq : q = x.toNatClampNeg
    · subst hq
      simp [updV, va_up, va_rf]
    · simp [updV, va_up, hq]
  · by_cases hq : j = x.toNatClampNeg
    · simp [va_up, hq] at hj
    · simp [va_up, hq] at hj
      exact hI.clo hσ j q hj
def zNc (own : String) (index ci n : Nat) (fs : List zV) : Prop := ∃ (Cn : String) (T : u_T) (ty : Nat → FieldType), vwCl[ci]? = some (Cn, T, n) ∧ Cond.classLink own index Cn ∈ zT ∧ Cond.instantiable Cn n ∈ zT ∧ Cond.initialized Cn ∈ zT ∧ (∀ w ∈ u_ws Cn T n, w ∈ zT) ∧ (∀ k, k < n → parseFieldDescriptor (T k).2.2.1 = some (ty k)) ∧ (∀ v ∈ fs, ∃ u : Value, v = .inl u) ∧ ∀ j, j < n → ∀ loc : zK → Nat, defaultValue (ty j) = vp_V (fs.map (zcv loc)) j
theorem z_new (C : zC X p l s m args meth c cc nL own) {ci n idx : Nat} {fs : List zV} (k i : Nat) (hf : zNc own idx ci n fs) (hd : decode cc pc = .ok (.new idx, 3)) (hk : k < 90) (h0 : σ k i = none) (hr : cells + 1 ≤ R.cells ∧ slots + n ≤ R.slots) (kk : zG X p l e R s m args below meth c nL σ0 loc0 Q (cells + 1) (slots + n) (zput σ k i (oC ci fs)) (pc + 3) L (aR k i :: st)) : zG X p l e R s m args below meth c nL σ0 loc0 Q cells slots σ pc L st := fun loc H locs ls hI => by
  obtain ⟨Cn, T, ty, hc, hcl, his, hini, hin, hty, hpr, hdef⟩ := hf
  have hKn := C.K.1 ci _ hc
  refine W.newcK C.x C.b C.ow (C.ts _ hcl) (C.ts _ his) (C.ts _ hini) rfl hd hr.1 hr.2 hKn.2.1 rfl fun H1 kC hkC e1 z1 o1 => ?_
  have hN := hI.new (c1 := oC ci fs) (H' := H1) h0 hk ⟨_, hc, (u_born ty C.ts hin hKn hkC e1 hty).to (fun j hj => hdef j hj loc)⟩ (fun v hv => by obtain ⟨u, rfl⟩ := hpr v hv; trivial) (by omega) o1
  exact z_after hI h0 hN kk
theorem z_newI (C : zC X p l s m args meth c cc nL own) {n : Int32} {N : Nat} (k i : Nat) (hd : decode cc pc = .ok (.newarray .int, 2)) (hk : k < 90) (h0 : σ k i = none) (hn : ¬ n < 0) (hN : n.toNatClampNeg = N) (hby : N ≤ 100000) (hr : cells + 1 ≤ R.cells ∧ slots + N ≤ R.slots) (hw : Cond.arrayClass .int ∈ zT) (kk : zG X p l e R s m args below meth c nL σ0 loc0 Q (cells + 1) (slots + N) (zput σ k i (iC N (fun _ => 0))) (pc + 2) L (aR k i :: st)) : zG X p l e R s m args below meth c nL σ0 loc0 Q cells slots σ pc L (aI n :: st) := fun loc H locs ls hI => by
  refine va_newaK (atype := .int) C.x C.b (C.ts _ hw) rfl hd rfl hn hN (by show N * 4 ≤ _; omega) hr.1 hr.2 rfl fun H1 cA e1 z1 o1 hAr hNm => ?_
  have hcA : cA = X.2.1.1 := Option.some.inj (hNm.symm.trans (C.K.2 0 _ rfl).2)
  subst hcA
  have hI' := hI.sk zl_tl
  have hN2 := hI'.new (c1 := iC N (fun _ => 0)) (H' := H1) h0 hk (show H1[H.size]? = some (vp_cell _ _) by rw [vp_cell_i]; exact e1) trivial (by omega) o1
  exact z_after hI' h0 hN2 kk
theorem z_anew (C : zC X p l s m args meth c cc nL own) {n : Int32} {N idx : Nat} (k i : Nat) (hd : decode cc pc = .ok (.anewarray idx, 3)) (hw : Cond.classLink own idx "java/lang/Object" ∈ zT) (hk : k < 90) (h0 : σ k i = none) (hn : ¬ n < 0) (hN : n.toNatClampNeg = N) (hby : N ≤ 100000) (hr : cells + 1 ≤ R.cells ∧ slots + N ≤ R.slots) (kk : zG X p l e R s m args below meth c nL σ0 loc0 Q (cells + 1) (slots + N) (zput σ k i (rC N (fun _ => none))) (pc + 3) L (aR k i :: st)) : zG X p l e R s m args below meth c nL σ0 loc0 Q cells slots σ pc L (aI n :: st) := fun loc H locs ls hI => by
  subst hN
  refine W.anew C.x C.b C.ow (C.ts _ hw) (va_AO.use C.S.2.2.2.1) rfl hd rfl hn (by omega) hr.1 hr.2 fun cA kA comp f1 f2 f3 f4 => ?_
  have hcA : cA = X.2.1.2.2 := by
    obtain ⟨kA', comp', -, -, -, g4⟩ := (C.K.2 2 _ rfl).2
    exact Option.some.inj (f1.symm.trans g4)
  subst hcA
  generalize hH1 : H.push ({ cls := X.2.1.2.2, slots := Array.replicate n.toNatClampNeg .null, vm := .none } : Cell) = H1
  have z1 : H1.size = H.size + 1 := by rw [← hH1, Array.size_push]
  have e1 : H1[H.size]? = some (arrV X.2.1.2.2 n.toNatClampNeg (fun _ => .null)) := by rw [← hH1, Array.getElem?_push_size, ← arrV_new]
  have o1 : ∀ q : Nat, q < H.size → H1[q]? = H[q]? := fun q hq => by rw [← hH1, Array.getElem?_push, if_neg (Nat.ne_of_lt hq)]
  have hI' := hI.sk zl_tl
  have hN2 := hI'.new (c1 := rC n.toNatClampNeg (fun _ => none)) (H' := H1) h0 hk (show H1[H.size]? = some (vp_cell _ _) by rw [vp_cell_q]; exact e1) (fun j q h => by cases h) (by omega) o1
  exact z_after hI' h0 hN2 kk
theorem z_clamp {z : Int32} (hz : ¬ z < 0) : z.toInt = (z.toNatClampNeg : Int) := by
  have hz0 : (0 : Int) ≤ z.toInt := by
    have := Int32.not_lt.mp hz
    simpa using Int32.le_iff_toInt_le.mp this
  show z.toInt = ((z.toInt.toNat : Nat) : Int)
  omega
/-- System.arraycopy between rows of objects (elements: known classes that fit Object) -/
theorem z_copy (C : zC X p l s m args meth c cc nL own) {k i k' i' n0 n1 idx : Nat} {f g : Nat → Option zK} {sp dp n : Int32} (hd : decode cc pc = .ok (.invokestatic idx, 3)) (hlink : Cond.methodLink own idx arraycopyName ∈ zT) (hnat : Cond.native arraycopyName ∈ zT) (hstat : Cond.static arraycopyName ∈ zT) (hini : Cond.initialized "java/lang/System" ∈ zT) (h0 : σ k i = some (rC n0 f)) (h1 : σ k' i' = some (rC n1 g)) (hk : k' < 90)
    (hsp : ¬ sp < 0) (hdp : ¬ dp < 0) (hn : ¬ n < 0) (hs : sp.toNatClampNeg + n.toNatClampNeg ≤ n0) (hdd : dp.toNatClampNeg + n.toNatClampNeg ≤ n1) (hel : ∀ j, j < n.toNatClampNeg → ∀ y, f (sp.toNatClampNeg + j) = some y → ∃ ci fs, σ y.1 y.2 = some (oC ci fs) ∧ zElt ci) (hfr : 1 ≤ R.frames) (hlo : (∀ loc : zK → Nat, ((st.map (zcv loc)).map fun v => v.category).sum ≤ 8) ∧ 60 ≤ R.locals) (hwd : nativeFrameWords "java/lang/System" "arraycopy" 5 ≤ 40)
    (kk : zG X p l e R s m args below meth c nL σ0 loc0 Q cells slots (zput σ k' i' (rC n1 (va_cpy f g sp.toNatClampNeg dp.toNatClampNeg n.toNatClampNeg))) (pc + 3) L st) (hk0 : k < 90 := by omega) : zG X p l e R s m args below meth c nL σ0 loc0 Q cells slots σ pc L (aI n :: aI dp :: aR k' i' :: aI sp :: aR k i :: st) := fun loc H locs ls hI => by
  intro T hT Y
  have hc0 : H[loc (k, i)]? = some (vp_cell X.2.1.2.2 (n0, .inr (.inr (.inr (.inr (fun j => (f j).map loc)))))) := hI.cell h0 hk0
  have hc1 : H[loc (k', i')]? = some (vp_cell X.2.1.2.2 (n1, .inr (.inr (.inr (.inr (fun j => (g j).map loc)))))) := hI.cell h1 hk
  obtain ⟨-, k0, hk0, cm0, hkk0⟩ := (C.K.2 2 _ rfl).1 n0 (fun j => va_rf ((f j).map loc))
  obtain ⟨-, k1, hk1, cm1, hkk1⟩ := (C.K.2 2 _ rfl).1 n1 (fun j => va_rf ((g j).map loc))
  obtain ⟨vm', X', step⟩ := Y.arraycopy C.x C.ow (C.ts _ hlink) (C.ts _ hnat) (C.ts _ hstat) (C.ts _ hini) (src := loc (k, i)) (dst := loc (k', i')) (cs := vp_cell X.2.1.2.2 (n0, .inr (.inr (.inr (.inr (fun j => (f j).map loc)))))) (cd := vp_cell X.2.1.2.2 (n1, .inr (.inr (.inr (.inr (fun j => (g j).map loc)))))) (srcPos := sp) (destPos := dp) (n := n) (by rw [hT]; exact hc0) (by rw [hT]; exact hc1)
    (fun _ h => by cases h) (fun _ h => by cases h) (fun h => by cases h) (fun h => by cases h) hk0 hk1 hkk0 hkk1 rfl hsp hdp hn
    (by rw [z_clamp hsp, z_clamp hn]; show ¬ _ > ((arrV X.2.1.2.2 n0 (fun j => va_rf ((f j).map loc))).slots.size : Int); rw [arrV_size]; omega)
    (by rw [z_clamp hdp, z_clamp hn]; show ¬ _ > ((arrV X.2.1.2.2 n1 (fun j => va_rf ((g j).map loc))).slots.size : Int); rw [arrV_size]; omega)
    (fun vm₁ hal j hj => by
      have e9 : (vp_cell X.2.1.2.2 (n0, .inr (.inr (.inr (.inr (fun j => (f j).map loc)))))).slots.getD (sp.toNatClampNeg + j) .null = va_rf ((f (sp.toNatClampNeg + j)).map loc) := by
        show (arrV X.2.1.2.2 n0 (fun j => va_rf ((f j).map loc))).slots.getD _ _ = _
        rw [Array.getD_eq_getD_getElem?, arrV_read _ _ (by omega)]
        rfl
      rw [e9]
      cases hy : f (sp.toNatClampNeg + j) with
      | none => exact ⟨rfl, trivial⟩
      | some y =>
        obtain ⟨ci, fs, hyc, r, hrc, hcast⟩ := hel j hj y hy
        obtain ⟨r', hr', cellV, g1, g2, g3, -⟩ := hI.cellO hyc
        have hcls := (C.K.1 ci r hrc).2
        obtain ⟨kA, comp, r1, r2, r3, -⟩ := (C.K.2 2 _ rfl).2
        obtain ⟨c0, t1, f1, f2, f3⟩ := Cond.castable_spec (va_Nw.use (A := args) rfl (C.S.2.1 _ hcast))
        cases hcls.1.symm.trans f1
        cases r3.symm.trans f2
        cases hk1.symm.trans r1
        cases hkk1.symm.trans r2
        obtain ⟨kC, hkC, -⟩ := hcls.2
        obtain ⟨kE, hkE, -⟩ := Vm.findClass_spec r3
        obtain ⟨kC', hkC', -⟩ := hal.2.2 _ _ hkC
        obtain ⟨kE', hkE', -⟩ := hal.2.2 _ _ hkE
        refine ⟨rfl, cellV, (show T.heap[loc y]? = some cellV by rw [hT]; exact g1), (fun q h => by rw [g3] at h; cases h), ⟨kC', by rw [g2]; exact hkC'⟩, ?_, ?_⟩
        · exact ⟨kE', hkE'⟩
        · show vm₁.assignable _ _ = true
          rw [hal.assignable, g2]
          exact f3)
    (g := F0 m pc ls (.int n :: .int dp :: .ref (loc (k', i')) :: .int sp :: .ref (loc (k, i)) :: st.map (zcv loc))) rfl (by rw [C.ml]; exact hI.2.2.2.2.2.1) (rest := st.map (zcv loc)) rfl (by rw [C.b]; exact hd) hfr (by have := hlo.1 loc; have := hlo.2; show 2 * 0 + _ + _ ≤ _; omega)
  have e1 : copied (vp_cell X.2.1.2.2 (n0, .inr (.inr (.inr (.inr (fun j => (f j).map loc)))))) (vp_cell X.2.1.2.2 (n1, .inr (.inr (.inr (.inr (fun j => (g j).map loc)))))) sp dp n = vp_cell X.2.1.2.2 (n1, .inr (.inr (.inr (.inr (fun j => (va_cpy f g sp.toNatClampNeg dp.toNatClampNeg n.toNatClampNeg j).map loc))))) := by
    rw [vp_cell_q, vp_cell_q, vp_cell_q]
    exact va_copied (fun z => va_rf (Option.map loc z)) X.2.1.2.2 X.2.1.2.2 f g hs
  rw [e1] at X' step
  have hl : loc (k', i') < H.size := (Array.getElem?_eq_some_iff.mp hc1).1
  generalize hcd : vp_cell X.2.1.2.2 (n1, .inr (.inr (.inr (.inr (fun j => (va_cpy f g sp.toNatClampNeg dp.toNatClampNeg n.toNatClampNeg j).map loc))))) = cd at X' step
  have hheap : ((T.setVm vm').setCell (loc (k', i')) cd).heap = H.setIfInBounds (loc (k', i')) cd := by rw [← hT]; rfl
  have oq : ∀ q : Nat, q ≠ loc (k', i') → (H.setIfInBounds (loc (k', i')) cd)[q]? = H[q]? := fun q hq => by simp [Array.getElem?_setIfInBounds, Ne.symm hq]
  have hI' := hI.sk (st' := st) (fun h => zl_tl2 (zl_tl3 h))
  have hput := hI'.put (j := 0) (c1 := rC n1 (va_cpy f g sp.toNatClampNeg dp.toNatClampNeg n.toNatClampNeg)) (H' := H.setIfInBounds (loc (k', i')) cd) h1 hk (show (H.setIfInBounds _ _)[loc (k', i')]? = some (vp_cell _ _) by
      rw [← hcd]
      simp [Array.getElem?_setIfInBounds, hl]) (fun j q hj => by
      simp only [va_cpy] at hj
      split at hj
      · exact hI.clo h0 _ q hj
      · exact hI.clo h1 _ q hj) (by simp) oq
  obtain ⟨t, a1, b1⟩ := kk loc _ _ ls ⟨hput.1, hput.2.1, hput.2.2.1, hput.2.2.2.1, ⟨hput.2.2.2.2.1.1, hput.2.2.2.2.1.2.1, fun q hq => by
      rcases List.mem_append.mp hq with h | h
      · exact hI.2.2.2.2.1.2.2 q h
      · obtain ⟨z, -, hz⟩ := List.mem_map.mp h
        rw [← hz]
        exact hI.1.up h1 hk⟩, hput.2.2.2.2.2⟩ _ hheap X'
  exact ⟨t, step t a1, b1⟩
end ZN
