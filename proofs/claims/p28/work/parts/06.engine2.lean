/-! the engine, second half: writes, new cells, ends, calls, throws -/
section ZW
variable {X : zX} {p : Program} {l : Launch} {e : Env} {R : Room} {s : State} {m : MethodId} {args : Array Value} {below : List Frame} {meth : Method} {c : Code} {nL : Nat} {σ0 σ : zHp} {loc0 : zK → Nat} {Q : State → Prop} {cells slots pc : Nat} {L : List (Nat × zV)} {st st' : List zV} {cc : ByteArray} {own : String}
variable {loc : zK → Nat} {H H' : Heap} {locs : List Loc} {ls : Array Slot}
theorem zI.put (h : zI X s nL σ0 loc0 σ L st loc H locs ls) {k i j : Nat} {c0 c1 : zCell} (h0 : σ k i = some c0) (hk : k < 90) (hat : va_at X.1 vwCl (loc (k, i), zcc X loc c1) H') (hc : zcl σ c1) (hz : H'.size = H.size) (ho : ∀ q : Nat, q ≠ loc (k, i) → H'[q]? = H[q]?) : zI X s nL σ0 loc0 (zput σ k i c1) L st loc H' (locs ++ [⟨loc (k, i), j⟩]) ls :=
  ⟨h.1.put h0 hk hat hc hz ho, fun a b hl => ⟨zput_live (h.2.1 a b hl).1, (h.2.1 a b hl).2⟩, fun q hq => ⟨zlv_mono (fun _ _ z => zput_live z) (h.2.2.1 q hq).1, (h.2.2.1 q hq).2⟩, fun v hv => zlv_mono (fun _ _ z => zput_live z) (h.2.2.2.1 v hv), h.2.2.2.2.1.put hz ho (h.1.up h0 hk), h.2.2.2.2.2⟩
theorem zup_c {k i : Nat} (h0 : σ k i = none) (q : Nat) : ∀ k' i', σ k' i' ≠ none → zup loc k i q (k', i') = loc (k', i') := fun k' i' hl => zup_n (fun e => hl (by rw [e.1, e.2]; exact h0))
theorem zst_c {k i : Nat} (h0 : σ k i = none) (q : Nat) (hs : ∀ v ∈ st, zlv σ v) : st.map (zcv (zup loc k i q)) = st.map (zcv loc) := List.map_congr_left (fun v hv => zcv_congr (zup_c h0 q) (hs v hv))
theorem zI.new (h : zI X s nL σ0 loc0 σ L st loc H locs ls) {k i : Nat} {c1 : zCell} (h0 : σ k i = none) (hk : k < 90) (hat : va_at X.1 vwCl (H.size, zcc X loc c1) H') (hc : zcl σ c1) (hz : H.size ≤ H'.size) (ho : ∀ q : Nat, q < H.size → H'[q]? = H[q]?) : zI X s nL σ0 loc0 (zput σ k i c1) L (aR k i :: st) (zup loc k i H.size) H' locs ls := by
  refine ⟨h.1.new h0 hk hc hat ho hz, fun a b hl => ⟨zput_live (h.2.1 a b hl).1, ?_⟩, fun q hq => ⟨zlv_mono (fun _ _ z => zput_live z) (h.2.2.1 q hq).1, (h.2.2.1 q hq).2⟩, zl_cn ?_ (fun v hv => zlv_mono (fun _ _ z => zput_live z) (h.2.2.2.1 v hv)), ⟨Nat.le_trans h.2.2.2.2.1.1 hz, fun q h1 h2 => (ho q (Nat.lt_of_lt_of_le h1 h.2.2.2.2.1.1)).trans (h.2.2.2.2.1.2.1 q h1 h2), h.2.2.2.2.1.2.2⟩, ?_⟩
  · rw [zup_c h0 _ a b (h.2.1 a b hl).1]
    exact (h.2.1 a b hl).2
  · show zput σ k i c1 k i ≠ none
    rw [zput_s]
    exact fun z => by cases z
  · have e : zcL (zup loc k i H.size) L = zcL loc L := by
      unfold zcL
      exact List.map_congr_left (fun q hq => by rw [zcv_congr (zup_c h0 H.size) (h.2.2.1 q hq).1])
    rw [e]
    exact h.2.2.2.2.2
theorem z_after {cells' slots' : Nat} {H' : Heap} {locs' : List Loc} {k i : Nat} {c1 : zCell} {n : Nat} (hI : zI X s nL σ0 loc0 σ L st loc H locs ls) (h0 : σ k i = none) (hN : zI X s nL σ0 loc0 (zput σ k i c1) L (aR k i :: st) (zup loc k i H.size) H' locs' ls) (kk : zG X p l e R s m args below meth c nL σ0 loc0 Q cells' slots' (zput σ k i c1) n L (aR k i :: st)) : W p l e R s m args below meth c H' locs' cells' slots' Q (F0 m n ls (.ref H.size :: st.map (zcv loc))) := by
  have k1 := kk _ _ _ _ hN
  rw [List.map_cons, zst_c h0 H.size hI.2.2.2.1, show zcv (zup loc k i H.size) (aR k i) = .ref H.size from congrArg Value.ref (zup_s loc k i H.size)] at k1
  exact k1
def zFp (own : String) (index ci j : Nat) (ty : FieldType) (fin : Bool) : Prop := ∃ (C ref : String) (T : u_T) (N : Nat) (ty0 : Nat → FieldType), vwCl[ci]? = some (C, T, N) ∧ j < N ∧ Cond.fieldLink own index ref (T j).2.1 (T j).2.2.1 ∈ zT ∧ (∀ w ∈ u_ws C T N, w ∈ zT) ∧ (ref = (T j).1 ∨ Cond.sameField ref (T j).1 (T j).2.1 (T j).2.2.1 ∈ zT) ∧
  (∀ k, k < N → parseFieldDescriptor (T k).2.2.1 = some (ty0 k)) ∧ (∀ a, a < N → ∀ b, b < N → a ≠ b → (T a).2.1 ≠ (T b).2.1) ∧ (T j).2.2.2 = fin ∧ parseFieldDescriptor (T j).2.2.1 = some ty ∧ (fin = true → (T j).1 = own)
theorem zcl_set {fs : List zV} {ci j : Nat} {v : zV} (h : ∀ x ∈ fs, zlv σ x) (hv : zlv σ v) : zcl σ (oC ci (fs.set j v)) := fun x hx => by
  rcases List.mem_or_eq_of_mem_set hx with h1 | h1
  · exact h x h1
  · rw [h1]; exact hv
theorem z_putf (C : zC X p l s m args meth c cc nL own) {k i ci j idx : Nat} {fs : List zV} {v : zV} {ty : FieldType} (hf : zFp own idx ci j ty false) (hd : decode cc pc = .ok (.putfield idx, 3)) (hσ : σ k i = some (oC ci fs)) (hk : k < 90) (hj : j < fs.length) (hn : ∀ loc, narrow ty (zcv loc v) = zcv loc v ∧ fits ty (zcv loc v) = true) (kk : zG X p l e R s m args below meth c nL σ0 loc0 Q cells slots (zput σ k i (oC ci (fs.set j v))) (pc + 3) L st) : zG X p l e R s m args below meth c nL σ0 loc0 Q cells slots σ pc L (v :: aR k i :: st) := fun loc H locs ls hI => by
  obtain ⟨Cn, ref, T, N, ty0, hc, hjN, hlk, hin, hsm, hty, hnm, hfin, hd', hdec⟩ := hf
  have hap := va_apart (own := own) C.ts hin ty0 hty hnm C.K hc
  obtain ⟨r, h1, cell, q1, q2, q3, q4⟩ := hI.cellO hσ
  have hr : r = (Cn, T, N) := Option.some.inj (h1.symm.trans hc)
  subst hr
  obtain ⟨hS, hfc, kC, hkC, hkind⟩ := C.K.1 ci _ hc
  obtain ⟨cf, kf, fi, f, hi, hsl⟩ := hS j hjN
  have hlay := C.ts _ (hin _ (u_in_lay hjN))
  unfold u_lay at hlay
  rw [if_neg (by rw [hfin]; decide)] at hlay
  have hst := (u_facts hfc hkC (u_lays C.ts hin hjN) hi).1
  have h6 := u_store hfc hkC hkind hlay hi hd' (hn loc).1 (hn loc).2
  refine W.putK C.x C.b (f := f) ⟨C.ow, C.ts _ hlk, ⟨_, _, _, C.same hsm _ hi⟩, hst⟩ (by rw [q2]; exact h6) q1 q3 (by rw [hsl]; exact k2_hasslot (q4 j hjN)) rfl rfl hd fun H' e1 e2 e3 => ?_
  rw [hsl] at e1 ⊢
  refine kk loc H' _ ls ((hI.sk zl_tl2).put hσ hk ⟨_, hc, t_OB.to (V := updV (vp_V (fs.map (zcv loc))) j (zcv loc v)) ⟨_, e1, q2, q3, t_set q4 hap hjN _⟩ (fun a _ => ?_)⟩ (zcl_set (hI.clo hσ) (zl_hd hI.2.2.2.1)) e2 e3)
  rw [vp_updV_set (by rw [List.length_map]; exact hj), ← List.map_set]
theorem z_putF (C : zC X p l s m args meth c cc nL own) {k i ci j idx : Nat} {fs : List zV} {v : zV} {ty : FieldType} (hf : zFp own idx ci j ty true) (hnm0 : meth.name = "<init>") (hd : decode cc pc = .ok (.putfield idx, 3)) (hσ : σ k i = some (oC ci fs)) (hk : k < 90) (hj : j < fs.length) (hn : ∀ loc, narrow ty (zcv loc v) = zcv loc v ∧ fits ty (zcv loc v) = true) (kk : zG X p l e R s m args below meth c nL σ0 loc0 Q cells slots (zput σ k i (oC ci (fs.set j v))) (pc + 3) L st) : zG X p l e R s m args below meth c nL σ0 loc0 Q cells slots σ pc L (v :: aR k i :: st) := fun loc H locs ls hI => by
  obtain ⟨Cn, ref, T, N, ty0, hc, hjN, hlk, hin, hsm, hty, hnm, hfin, hd', hdec⟩ := hf
  have hap := va_apart (own := own) C.ts hin ty0 hty hnm C.K hc
  obtain ⟨r, h1, cell, q1, q2, q3, q4⟩ := hI.cellO hσ
  have hr : r = (Cn, T, N) := Option.some.inj (h1.symm.trans hc)
  subst hr
  obtain ⟨hS, hfc, kC, hkC, hkind⟩ := C.K.1 ci _ hc
  obtain ⟨cf, kf, fi, f, hi, hsl⟩ := hS j hjN
  have hlay := C.ts _ (hin _ (u_in_lay hjN))
  unfold u_lay at hlay
  rw [if_pos hfin] at hlay
  have hst := (u_facts hfc hkC (u_lays C.ts hin hjN) hi).1
  have hcf : m.cls = cf := by
    obtain ⟨_, _, c', _, _, _, -, -, hf', -, -, -, hown2, -⟩ := Cond.laysFinal_spec hlay
    have e1 : c' = cf := by have := hi.symm.trans hf'; simp at this; exact this.1.symm
    rw [hdec rfl] at hown2
    rw [← e1]; exact Option.some.inj (C.ow.symm.trans hown2)
  have h6 := u_fits hfc hkC hkind (Or.inr hlay) hi hd' (hn loc).1 (hn loc).2
  refine W.putFinK C.x C.b C.ow (C.ts _ hlk) (C.same hsm _ hi) hst hcf hnm0 (by rw [q2]; exact h6) q1 q3 (by rw [hsl]; exact k2_hasslot (q4 j hjN)) rfl rfl hd fun H' e1 e2 e3 => ?_
  rw [hsl] at e1 ⊢
  refine kk loc H' _ ls ((hI.sk zl_tl2).put hσ hk ⟨_, hc, t_OB.to (V := updV (vp_V (fs.map (zcv loc))) j (zcv loc v)) ⟨_, e1, q2, q3, t_set q4 hap hjN _⟩ (fun a _ => ?_)⟩ (zcl_set (hI.clo hσ) (zl_hd hI.2.2.2.1)) e2 e3)
  rw [vp_updV_set (by rw [List.length_map]; exact hj), ← List.map_set]
theorem z_iast (C : zC X p l s m args meth c cc nL own) {k i n : Nat} {f : Nat → Int32} {x : Int32} {v : Int32} (hd : decode cc pc = .ok (.iastore, 1)) (hσ : σ k i = some (iC n f)) (hk : k < 90) (hin : vp_in x n) (kk : zG X p l e R s m args below meth c nL σ0 loc0 Q cells slots (zput σ k i (iC n (upd f x.toNatClampNeg v))) (pc + 1) L st) : zG X p l e R s m args below meth c nL σ0 loc0 Q cells slots σ pc L (aI v :: aI x :: aR k i :: st) := fun loc H locs ls hI => by
  have hc : H[loc (k, i)]? = some (vp_cell _ _) := hI.cell hσ hk
  refine W.iast C.x C.b hc ((C.K.2 0 _ rfl).1 n (fun j => .int (f j))) (fun q => by cases q) (by show ¬ (x < 0 ∨ (arrV _ _ _).slots.size ≤ _); rw [arrV_size]; exact hin) rfl rfl hd fun H1 e1 z oq => ?_
  refine kk loc H1 _ ls ((hI.sk zl_tl3).put hσ hk ?_ trivial z oq)
  show H1[loc (k, i)]? = some (vp_cell _ _)
  rw [e1, vp_cell_i, vp_cell_i, arrV_store]
  congr 2
  funext q
  by_cases hq : q = x.toNatClampNeg
  · subst hq
    simp [updV, upd]
  · simp [updV, upd, hq]
def zElt (ci : Nat) : Prop := ∃ r : vw_C, vwCl[ci]? = some r ∧ (r.1, "java/lang/Object") ∈ zCast
theorem z_aast (C : zC X p l s m args meth c cc nL own) {k i n k' i' ci : Nat} {fs : List zV} {f : Nat → Option zK} {x : Int32} (hd : decode cc pc = .ok (.aastore, 1)) (hσ : σ k i = some (rC n f)) (hk : k < 90) (hin : vp_in x n) (hv : σ k' i' = some (oC ci fs)) (hci : zElt ci) (kk : zG X p l e R s m args below meth c nL σ0 loc0 Q cells slots (zput σ k i (rC n (va_up f x.toNatClampNeg (some (k', i'))))) (pc + 1) L st) : zG X p l e R s m args below meth c nL σ0 loc0 Q cells slots σ pc L (aR k' i' :: aI x :: aR k i :: st) := fun loc H locs ls hI => by
  obtain ⟨r, hc, hcast⟩ := hci
  have hlt : x.toNatClampNeg < n := Nat.not_le.mp fun q => hin (Or.inr q)
  have h0 : ¬ x < 0 := fun q => hin (Or.inl q)
  have hcA : H[loc (k, i)]? = some (vp_cell _ _) := hI.cell hσ hk
  obtain ⟨r', hr', cellV, g1, g2, g3, -⟩ := hI.cellO hv
  have hcls := (C.K.1 ci r hc).2
  obtain ⟨kA, comp, k1, k2, k3, -⟩ := (C.K.2 2 _ rfl).2
  obtain ⟨kE, hkE, -⟩ := Vm.findClass_spec k3
  obtain ⟨c0, t1, f1, f2, f3⟩ := Cond.castable_spec (va_Nw.use (A := args) rfl (C.S.2.1 _ hcast))
  cases hcls.1.symm.trans f1
  cases k3.symm.trans f2
  obtain ⟨kC, hkC, -⟩ := hcls.2
  refine W.aast C.x C.b hcA (fun q h => by cases h) (fun h => by cases h) k1 k2 rfl hkE ⟨h0, by show _ < (arrV _ _ _).slots.size; rw [arrV_size]; exact hlt⟩ g1 (fun q h => by rw [g3] at h; cases h) (by rw [g2]; exact hkC) (by rw [g2]; exact f3) rfl rfl hd fun H1 e1 z oq => ?_
  refine kk loc H1 _ ls ((hI.sk zl_tl3).put hσ hk ?_ (fun j q hj => ?_) z oq)
  · show H1[loc (k, i)]? = some (vp_cell _ _)
    rw [e1, vp_cell_q, vp_cell_q, arrV_store]
    congr 2
    funext q
    by_cases hq : q = x.toNatClampNeg
    · subst hq
      simp [updV, va_up, va_rf]
    · simp [updV, va_up, hq]
  · by_cases hq : j = x.toNatClampNeg
    · simp [va_up, hq] at hj
      rw [← hj]
      show σ k' i' ≠ none
      rw [hv]; exact fun z => by cases z
    · simp [va_up, hq] at hj
      exact hI.clo hσ j q hj
end ZW
