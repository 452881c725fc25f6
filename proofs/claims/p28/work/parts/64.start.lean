/-! the law's start -/
theorem tt_1 {w : Cond} (i : Nat) (h : tables_1_1[i]? = some w) : w ∈ lw_tbl := List.mem_append_right _ (List.mem_append_left _ (List.mem_of_getElem? h))
theorem tt_2 {w : Cond} (i : Nat) (h : tables_1_2[i]? = some w) : w ∈ lw_tbl := List.mem_append_right _ (List.mem_append_right _ (List.mem_append_left _ (List.mem_of_getElem? h)))
theorem tt_3 {w : Cond} (i : Nat) (h : tables_1_3[i]? = some w) : w ∈ lw_tbl := List.mem_append_right _ (List.mem_append_right _ (List.mem_append_right _ (List.mem_append_left _ (List.mem_of_getElem? h))))
theorem tt_4 {w : Cond} (i : Nat) (h : tables_1_4[i]? = some w) : w ∈ lw_tbl := List.mem_append_right _ (List.mem_append_right _ (List.mem_append_right _ (List.mem_append_right _ (List.mem_append_left _ (List.mem_of_getElem? h)))))
theorem tt_5 {w : Cond} (i : Nat) (h : tables_1_5[i]? = some w) : w ∈ lw_tbl := List.mem_append_right _ (List.mem_append_right _ (List.mem_append_right _ (List.mem_append_right _ (List.mem_append_right _ (List.mem_of_getElem? h)))))
theorem tw_J0 : Cond.instantiable RJ0 4 ∈ lw_tbl := tt_4 73 (by decide +kernel)
theorem tw_J4 : Cond.instantiable RJ4 4 ∈ lw_tbl := tt_3 146 (by decide +kernel)
theorem tw_obj : Cond.arrayOver (.object "java/lang/Object") ∈ lw_tbl := tt_2 237 (by decide +kernel)
theorem tw_nest : Cond.methodLinkNest RX6 234 yX2_init RX6 ∈ lw_tbl := tt_5 4 (by decide +kernel)
theorem tw_d0 : Cond.declares (Bundle.initS "java/lang/RuntimeException") ∈ lw_tbl := tt_1 134 (by decide +kernel)
theorem tw_d1 : Cond.declares (Bundle.initS "java/lang/Exception") ∈ lw_tbl := tt_1 136 (by decide +kernel)
theorem tw_d2 : Cond.declares (Bundle.initS "java/lang/Throwable") ∈ lw_tbl := tt_1 138 (by decide +kernel)
theorem tw_dc : Cond.declares ⟨"java/lang/Object", "getClass", "()Ljava/lang/Class;"⟩ ∈ lw_tbl := tt_5 55 (by decide +kernel)
theorem tw_ls0 : Cond.laysStatic Bundle.tN "UNASSIGNED_STACK" Bundle.steD ∈ lw_tbl := tt_1 157 (by decide +kernel)
theorem tw_ls1 : Cond.laysStatic Bundle.tN "SUPPRESSED_SENTINEL" Bundle.listD ∈ lw_tbl := tt_1 159 (by decide +kernel)
theorem tw_ls2 : Cond.laysStatic RJx4a65c "DEFAULTCAPACITY_EMPTY_ELEMENTDATA" "[Ljava/lang/Object;" ∈ lw_tbl := tt_1 52 (by decide +kernel)
theorem tw_ls3 : Cond.laysStatic RX6 "WEIGHTS" "[I" ∈ lw_tbl := tt_2 48 (by decide +kernel)
theorem tw_iT : Cond.initialized Bundle.tN ∈ lw_tbl := tt_1 7 (by decide +kernel)
theorem tw_s42 : Cond.stringRef RX6 42 "it would be later than the last day" ∈ lw_tbl := tt_5 28 (by decide +kernel)
theorem tw_s70 : Cond.stringRef RX6 70 "there is no such place" ∈ lw_tbl := tt_3 109 (by decide +kernel)
theorem tw_s81 : Cond.stringRef RX6 81 "there is no such rule" ∈ lw_tbl := tt_3 92 (by decide +kernel)
theorem tw_s128 : Cond.stringRef RX6 128 "both sellers are the same" ∈ lw_tbl := tt_4 162 (by decide +kernel)
theorem tw_s139 : Cond.stringRef RX6 139 "the seller has less" ∈ lw_tbl := tt_4 167 (by decide +kernel)
theorem tw_s149 : Cond.stringRef RX6 149 "the chance cannot come to this stage" ∈ lw_tbl := tt_4 181 (by decide +kernel)
theorem tw_s214 : Cond.stringRef RX6 214 "the seller cannot approve the quote, or it is approved" ∈ lw_tbl := tt_4 234 (by decide +kernel)
theorem tw_s222 : Cond.stringRef RX6 222 "no quote counts" ∈ lw_tbl := tt_2 96 (by decide +kernel)
theorem tw_s238 : Cond.stringRef RX6 238 "there is no such freeze" ∈ lw_tbl := tt_5 20 (by decide +kernel)
theorem tw_s240 : Cond.stringRef RX6 240 "there is no such account" ∈ lw_tbl := tt_1 172 (by decide +kernel)
theorem tw_s242 : Cond.stringRef RX6 242 "there is no such seller" ∈ lw_tbl := tt_2 31 (by decide +kernel)
theorem tw_s244 : Cond.stringRef RX6 244 "there is no such chance" ∈ lw_tbl := tt_2 64 (by decide +kernel)
theorem tw_s246 : Cond.stringRef RX6 246 "there is no such quote" ∈ lw_tbl := tt_4 230 (by decide +kernel)
theorem tw_s248 : Cond.stringRef RX6 248 "an argument is out of range" ∈ lw_tbl := tt_1 231 (by decide +kernel)
theorem tw_s250 : Cond.stringRef RX6 250 "there are as many as there can be" ∈ lw_tbl := tt_2 157 (by decide +kernel)
theorem tw_s252 : Cond.stringRef RX6 252 "the chance is won or lost" ∈ lw_tbl := tt_4 166 (by decide +kernel)
theorem tw_c0 : Cond.castable RX0 "java/lang/Object" ∈ lw_tbl := tt_5 43 (by decide +kernel)
theorem tw_c1 : Cond.castable RX1 "java/lang/Object" ∈ lw_tbl := tt_5 45 (by decide +kernel)
theorem tw_c2 : Cond.castable RX2 "java/lang/Object" ∈ lw_tbl := tt_5 50 (by decide +kernel)
theorem tw_c3 : Cond.castable RX3 "java/lang/Object" ∈ lw_tbl := tt_5 49 (by decide +kernel)
theorem tw_c4 : Cond.castable RX4 "java/lang/Object" ∈ lw_tbl := tt_5 46 (by decide +kernel)
theorem tw_c5 : Cond.castable RX5 "java/lang/Object" ∈ lw_tbl := tt_5 44 (by decide +kernel)
theorem tw_c6 : Cond.castable "java/lang/IndexOutOfBoundsException" "java/lang/IndexOutOfBoundsException" ∈ lw_tbl := tt_1 132 (by decide +kernel)
theorem tw_c7 : Cond.castable "java/lang/IllegalArgumentException" "java/lang/IllegalArgumentException" ∈ lw_tbl := tt_1 224 (by decide +kernel)
theorem tw_c8 : Cond.castable "java/lang/IllegalStateException" "java/lang/IllegalStateException" ∈ lw_tbl := tt_2 150 (by decide +kernel)
theorem tw_c9 : Cond.castable "java/util/NoSuchElementException" "java/util/NoSuchElementException" ∈ lw_tbl := tt_2 89 (by decide +kernel)
theorem ta_str : ∀ q ∈ zStr, Cond.stringRef RX6 q.1 q.2 ∈ lw_tbl := List.forall_mem_cons.mpr ⟨tw_s42, List.forall_mem_cons.mpr ⟨tw_s70, List.forall_mem_cons.mpr ⟨tw_s81, List.forall_mem_cons.mpr ⟨tw_s128, List.forall_mem_cons.mpr ⟨tw_s139, List.forall_mem_cons.mpr ⟨tw_s149, List.forall_mem_cons.mpr ⟨tw_s214, List.forall_mem_cons.mpr ⟨tw_s222, List.forall_mem_cons.mpr ⟨tw_s238, List.forall_mem_cons.mpr ⟨tw_s240, List.forall_mem_cons.mpr ⟨tw_s242, List.forall_mem_cons.mpr ⟨tw_s244, List.forall_mem_cons.mpr ⟨tw_s246, List.forall_mem_cons.mpr ⟨tw_s248, List.forall_mem_cons.mpr ⟨tw_s250, List.forall_mem_cons.mpr ⟨tw_s252, fun _ h => absurd h List.not_mem_nil⟩⟩⟩⟩⟩⟩⟩⟩⟩⟩⟩⟩⟩⟩⟩⟩
theorem ta_cast : ∀ q ∈ zCast, Cond.castable q.1 q.2 ∈ lw_tbl := List.forall_mem_cons.mpr ⟨tw_c0, List.forall_mem_cons.mpr ⟨tw_c1, List.forall_mem_cons.mpr ⟨tw_c2, List.forall_mem_cons.mpr ⟨tw_c3, List.forall_mem_cons.mpr ⟨tw_c4, List.forall_mem_cons.mpr ⟨tw_c5, List.forall_mem_cons.mpr ⟨tw_c6, List.forall_mem_cons.mpr ⟨tw_c7, List.forall_mem_cons.mpr ⟨tw_c8, List.forall_mem_cons.mpr ⟨tw_c9, fun _ h => absurd h List.not_mem_nil⟩⟩⟩⟩⟩⟩⟩⟩⟩⟩
theorem ta_dec : ∀ y ∈ zDec, Cond.declares y ∈ lw_tbl := List.forall_mem_cons.mpr ⟨tw_d0, List.forall_mem_cons.mpr ⟨tw_d1, List.forall_mem_cons.mpr ⟨tw_d2, fun _ h => absurd h List.not_mem_nil⟩⟩⟩
theorem in_J0 : ∀ w ∈ u_ws RJ0 TJ0 4, w ∈ lw_tbl := by decide +kernel
theorem in_J4 : ∀ w ∈ u_ws RJ4 TJ4 4, w ∈ lw_tbl := by decide +kernel
theorem gv_n0 : Cond.not (.castable "java/lang/IllegalArgumentException" "java/lang/IndexOutOfBoundsException") ∈ flatC (Jvm.Cond.and given_1 narrow_1) := by decide +kernel
theorem gv_n1 : Cond.not (.castable "java/lang/IllegalStateException" "java/lang/IndexOutOfBoundsException") ∈ flatC (Jvm.Cond.and given_1 narrow_1) := by decide +kernel
theorem gv_n2 : Cond.not (.castable "java/lang/IllegalStateException" "java/lang/IllegalArgumentException") ∈ flatC (Jvm.Cond.and given_1 narrow_1) := by decide +kernel
theorem gv_n3 : Cond.not (.castable "java/util/NoSuchElementException" "java/lang/IndexOutOfBoundsException") ∈ flatC (Jvm.Cond.and given_1 narrow_1) := by decide +kernel
theorem gv_m : Cond.isRef (.mirror "[Ljava/lang/Object;") ∈ flatC (Jvm.Cond.and given_1 narrow_1) := by decide +kernel
theorem gv_r0 : Cond.isRef (.static Bundle.tN "UNASSIGNED_STACK" Bundle.steD) ∈ flatC (Jvm.Cond.and given_1 narrow_1) := by decide +kernel
theorem gv_r1 : Cond.isRef (.static Bundle.tN "SUPPRESSED_SENTINEL" Bundle.listD) ∈ flatC (Jvm.Cond.and given_1 narrow_1) := by decide +kernel
theorem gv_ea : Cond.arrayOf (.static RJx4a65c "DEFAULTCAPACITY_EMPTY_ELEMENTDATA" "[Ljava/lang/Object;") (.object "java/lang/Object") ∈ flatC (Jvm.Cond.and given_1 narrow_1) := by decide +kernel
theorem gv_el : Cond.eq (.length (.static RJx4a65c "DEFAULTCAPACITY_EMPTY_ELEMENTDATA" "[Ljava/lang/Object;")) (.int 0) ∈ flatC (Jvm.Cond.and given_1 narrow_1) := by decide +kernel
theorem gv_wa : Cond.arrayOf (.static RX6 "WEIGHTS" "[I") .int ∈ flatC (Jvm.Cond.and given_1 narrow_1) := by decide +kernel
theorem gv_wl : Cond.eq (.length (.static RX6 "WEIGHTS" "[I")) (.int 6) ∈ flatC (Jvm.Cond.and given_1 narrow_1) := by decide +kernel
theorem gv_w0 : Cond.eq (.elem (.static RX6 "WEIGHTS" "[I") (.int 0)) (.int 10) ∈ flatC (Jvm.Cond.and given_1 narrow_1) := by decide +kernel
theorem gv_w1 : Cond.eq (.elem (.static RX6 "WEIGHTS" "[I") (.int 1)) (.int 30) ∈ flatC (Jvm.Cond.and given_1 narrow_1) := by decide +kernel
theorem gv_w2 : Cond.eq (.elem (.static RX6 "WEIGHTS" "[I") (.int 2)) (.int 60) ∈ flatC (Jvm.Cond.and given_1 narrow_1) := by decide +kernel
theorem gv_w3 : Cond.eq (.elem (.static RX6 "WEIGHTS" "[I") (.int 3)) (.int 90) ∈ flatC (Jvm.Cond.and given_1 narrow_1) := by decide +kernel
theorem gv_w4 : Cond.eq (.elem (.static RX6 "WEIGHTS" "[I") (.int 4)) (.int 100) ∈ flatC (Jvm.Cond.and given_1 narrow_1) := by decide +kernel
theorem gv_w5 : Cond.eq (.elem (.static RX6 "WEIGHTS" "[I") (.int 5)) (.int 0) ∈ flatC (Jvm.Cond.and given_1 narrow_1) := by decide +kernel
theorem ga_no : ∀ q ∈ zNcst, Cond.not (.castable q.1 q.2) ∈ flatC (Jvm.Cond.and given_1 narrow_1) := List.forall_mem_cons.mpr ⟨gv_n0, List.forall_mem_cons.mpr ⟨gv_n1, List.forall_mem_cons.mpr ⟨gv_n2, List.forall_mem_cons.mpr ⟨gv_n3, fun _ h => absurd h List.not_mem_nil⟩⟩⟩⟩
theorem st_arr {s : State} {args : Array Value} {ty : FieldType} (h : (Cond.arrayClass ty).before args s = true) : ∃ cA : ClassId, ArrOfT s cA ty ∧ s.vm.findClass ("[" ++ ty.toString) = some cA := by
  obtain ⟨c, k, comp, h1, h2, h3⟩ := Cond.arrayClass_spec h
  exact ⟨c, fun n z => ⟨fun q h => (by cases h), k, h2, comp, h3⟩, h1⟩
theorem st_obj {s : State} {args : Array Value} {C : String} (h : (Cond.arrayOver (.object C)).before args s = true) : ∃ cA : ClassId, ArrOfT s cA (.object C) ∧ va_RA s cA (.object C) := by
  obtain ⟨comp, c, k, h1, -, h3, h4, h5⟩ := Cond.arrayOver_spec h
  exact ⟨c, fun n z => ⟨fun q h => (by cases h), k, h3, comp, h4⟩, k, comp, h3, h4, h1, h5⟩
theorem st_pick {α β : Type} {P : Nat → α → β → Prop} : ∀ (l : List α) (n : Nat), (∀ i a, l[i]? = some a → ∃ b, P (n + i) a b) → (∃ d : β, True) → ∃ f : Nat → β, ∀ i a, l[i]? = some a → P (n + i) a (f i)
  | [], _, _, ⟨d, _⟩ => ⟨fun _ => d, fun i a h => by simp at h⟩
  | x :: r, n, h, hd => by
    obtain ⟨b, hb⟩ := h 0 x rfl
    obtain ⟨f, hf⟩ := st_pick (P := P) r (n + 1) (fun i a hi => by
      obtain ⟨b, hb⟩ := h (i + 1) a hi
      exact ⟨b, by rw [show n + 1 + i = n + (i + 1) by omega]; exact hb⟩) hd
    refine ⟨fun i => match i with | 0 => b | i + 1 => f i, fun i a hi => ?_⟩
    cases i with
    | zero => cases hi; exact hb
    | succ i =>
      have := hf i a hi
      rw [show n + 1 + i = n + (i + 1) by omega] at this
      exact this
def s00 : zHp := fun k i => if k = 90 ∧ i = 0 then some (rC 0 (fun _ => none)) else if k = 91 ∧ i = 0 then some (iC 6 zWts) else none
theorem s00_n {k i : Nat} (h : k < 90) : s00 k i = none := by
  unfold s00
  rw [if_neg (by omega), if_neg (by omega)]
theorem s00_c {k i : Nat} {c : zCell} (h : s00 k i = some c) : (k = 90 ∧ i = 0 ∧ c = rC 0 (fun _ => none)) ∨ (k = 91 ∧ i = 0 ∧ c = iC 6 zWts) := by
  unfold s00 at h
  by_cases e : k = 90 ∧ i = 0
  · rw [if_pos e] at h
    cases h
    exact Or.inl ⟨e.1, e.2, rfl⟩
  · rw [if_neg e] at h
    by_cases e1 : k = 91 ∧ i = 0
    · rw [if_pos e1] at h
      cases h
      exact Or.inr ⟨e1.1, e1.2, rfl⟩
    · rw [if_neg e1] at h
      cases h
def l00 (a b : Nat) : zK → Nat := fun z => if z.1 = 90 then a else b
theorem zW_0 {X : zX} {s : State} (hs : zHs X = s.heap) (hA : va_T (.object "java/lang/Object") X.2.2.2.1 0 (fun _ => .null) (zA X) s s.heap) (hB : va_T .int X.2.2.2.2.1 6 (fun j => .int (zWts j)) (zA X) s s.heap) : zW X s00 (l00 X.2.2.2.1 X.2.2.2.2.1) s.heap := by
  obtain ⟨cA, a1, a2, a3, a4, a5, a6, a7⟩ := hA
  obtain ⟨cB, b1, b2, b3, b4, b5, b6, b7⟩ := hB
  have la : X.2.2.2.1 < s.heap.size := (Array.getElem?_eq_some_iff.mp a1).1
  have lb : X.2.2.2.2.1 < s.heap.size := (Array.getElem?_eq_some_iff.mp b1).1
  have hne : ¬ X.2.2.2.1 = X.2.2.2.2.1 := fun e => by
    rw [e, b1] at a1
    cases a1
    rw [a5] at b5
    exact absurd b5 (by decide)
  refine ⟨by rw [show zsz X = (zHs X).size from rfl, hs]; exact Nat.le_refl _, fun q _ => by rw [hs], fun k i c hc => ?_, fun k i k' i' c c' hc hc' e => ?_, rfl, rfl, rfl, rfl⟩
  · rcases s00_c hc with ⟨rfl, rfl, rfl⟩ | ⟨rfl, rfl, rfl⟩
    · exact ⟨Or.inr (Or.inl ⟨rfl, rfl⟩), la, fun j q h => by cases h⟩
    · exact ⟨Or.inr (Or.inr ⟨rfl, rfl⟩), lb, trivial⟩
  · rcases s00_c hc with ⟨rfl, rfl, rfl⟩ | ⟨rfl, rfl, rfl⟩ <;> rcases s00_c hc' with ⟨rfl, rfl, rfl⟩ | ⟨rfl, rfl, rfl⟩
    · exact ⟨rfl, rfl⟩
    · exact absurd e hne
    · exact absurd e.symm hne
    · exact ⟨rfl, rfl⟩
set_option maxRecDepth 100000 in
set_option maxHeartbeats 4000000 in
theorem st_S {p : Program} {s : State} {m : MethodId} {meth : Method} {c : Code} {b L : Nat} {xs : Nat → Int32} (C0 : lw_At p s m meth c b L xs) : ∃ X : zX, zHs X = s.heap ∧ zS X s := by
  obtain ⟨hx, hb, hr, hml, hown, hts, hX, hbl, hlocks, hgv⟩ := C0
  have hg : ∀ w ∈ flatC (Jvm.Cond.and given_1 narrow_1), w.before #[Value.ref b] s = true := flat_of_before _ hgv
  have hA : ∀ a : Nat, a < s.heap.size → ¬ (fun q : Nat => s.heap.size ≤ q) a := fun a h => Nat.not_le.mpr h
  have hcl : ∀ (k : Nat) (q : vw_C), vwCl[k]? = some q → ∃ d : ClassId × (Nat → Nat), u_Kn s q.1 q.2.1 q.2.2 d.1 d.2 := fun k q hq => match k, hq with
    | 0, hq => by cases hq; obtain ⟨c9, i9, h9⟩ := u_known (C := RJ0) (T := TJ0) (N := 4) hts in_J0 (hts _ (tw_J0)); exact ⟨(c9, i9), h9⟩
    | 1, hq => by cases hq; obtain ⟨c9, i9, h9⟩ := u_known (C := RJ4) (T := TJ4) (N := 4) hts in_J4 (hts _ (tw_J4)); exact ⟨(c9, i9), h9⟩
    | 2, hq => by cases hq; obtain ⟨c9, i9, h9⟩ := u_known (C := RJx4a65c) (T := TJx4a65c) (N := 3) hts (fun w h => (List.mem_filter.mp (wn_Jx4a65c w h)).1) (hts _ ((List.mem_filter.mp ist_RJx4a65c).1)); exact ⟨(c9, i9), h9⟩
    | 3, hq => by cases hq; obtain ⟨c9, i9, h9⟩ := u_known (C := RX0) (T := TX0) (N := 4) hts (fun w h => (List.mem_filter.mp (wn_X0 w h)).1) (hts _ ((List.mem_filter.mp ist_RX0).1)); exact ⟨(c9, i9), h9⟩
    | 4, hq => by cases hq; obtain ⟨c9, i9, h9⟩ := u_known (C := RX1) (T := TX1) (N := 8) hts (fun w h => (List.mem_filter.mp (wn_X1 w h)).1) (hts _ ((List.mem_filter.mp ist_RX1).1)); exact ⟨(c9, i9), h9⟩
    | 5, hq => by cases hq; obtain ⟨c9, i9, h9⟩ := u_known (C := RX2) (T := TX2) (N := 1) hts (fun w h => (List.mem_filter.mp (wn_X2 w h)).1) (hts _ ((List.mem_filter.mp ist_RX2).1)); exact ⟨(c9, i9), h9⟩
    | 6, hq => by cases hq; obtain ⟨c9, i9, h9⟩ := u_known (C := RX3) (T := TX3) (N := 5) hts (fun w h => (List.mem_filter.mp (wn_X3 w h)).1) (hts _ ((List.mem_filter.mp ist_RX3).1)); exact ⟨(c9, i9), h9⟩
    | 7, hq => by cases hq; obtain ⟨c9, i9, h9⟩ := u_known (C := RX4) (T := TX4) (N := 4) hts (fun w h => (List.mem_filter.mp (wn_X4 w h)).1) (hts _ ((List.mem_filter.mp ist_RX4).1)); exact ⟨(c9, i9), h9⟩
    | 8, hq => by cases hq; obtain ⟨c9, i9, h9⟩ := u_known (C := RX5) (T := TX5) (N := 4) hts (fun w h => (List.mem_filter.mp (wn_X5 w h)).1) (hts _ ((List.mem_filter.mp ist_RX5).1)); exact ⟨(c9, i9), h9⟩
    | 9, hq => by cases hq; obtain ⟨c9, i9, h9⟩ := u_known (C := RX6) (T := TX6) (N := 7) hts (fun w h => (List.mem_filter.mp (wn_X6 w h)).1) (hts _ ((List.mem_filter.mp ist_RX6).1)); exact ⟨(c9, i9), h9⟩
    | k + 10, hq => by simp [vwCl] at hq
  obtain ⟨d, hd⟩ := st_pick (P := fun _ (q : vw_C) (d : ClassId × (Nat → Nat)) => u_Kn s q.1 q.2.1 q.2.2 d.1 d.2) vwCl 0 hcl ⟨(0, fun _ => 0), trivial⟩
  obtain ⟨cI, i1, i2⟩ := st_arr (hts _ (List.mem_filter.mp ac__int).1)
  obtain ⟨cO, o1, o2⟩ := st_obj (hts _ tw_obj)
  obtain ⟨ta, ha, hTa⟩ := va_Tof (tm := .static RJx4a65c "DEFAULTCAPACITY_EMPTY_ELEMENTDATA" "[Ljava/lang/Object;") (ty := .object "java/lang/Object") (N := 0) (f := fun _ => .null) (A := fun q : Nat => s.heap.size ≤ q) (by decide) (hg _ gv_ea) (va_eqt (hg _ gv_el)) (fun j hj => absurd hj (Nat.not_lt_zero _)) hA
  obtain ⟨tb, hb9, hTb⟩ := va_Tof (tm := .static RX6 "WEIGHTS" "[I") (ty := .int) (N := 6) (f := fun j => .int (zWts j)) (A := fun q : Nat => s.heap.size ≤ q) (by decide) (hg _ gv_wa) (va_eqt (hg _ gv_wl)) (fun j hj => by
    rcases (show j = 0 ∨ j = 1 ∨ j = 2 ∨ j = 3 ∨ j = 4 ∨ j = 5 by omega) with rfl | rfl | rfl | rfl | rfl | rfl
    · exact va_eqt (hg _ gv_w0)
    · exact va_eqt (hg _ gv_w1)
    · exact va_eqt (hg _ gv_w2)
    · exact va_eqt (hg _ gv_w3)
    · exact va_eqt (hg _ gv_w4)
    · exact va_eqt (hg _ gv_w5)) hA
  obtain ⟨mi, hmi⟩ := va_Mi.of (hg _ gv_m)
  refine ⟨(((fun k => (d k).1), (fun k => (d k).2)), (cI, cI, cO), (s.heap, ta, tb, mi)), rfl, ⟨fun k q hq => ?_, fun k q hq => ?_⟩, fun q hq => va_Nw.of rfl (hts _ (ta_cast q hq)), fun q hq => va_Nc.of (hg _ (ga_no q hq)), va_AO.of (hts _ tw_obj), ⟨va_Nw.of rfl (hts _ tw_nest), fun y hy => va_Nw.of rfl (hts _ (ta_dec y hy)), hmi, va_Dc.of (hts _ tw_dc)⟩, vx_Zqof (hts _ tw_ls0) (hts _ tw_iT) (hg _ gv_r0) hA, vx_Zqof (hts _ tw_ls1) (hts _ tw_iT) (hg _ gv_r1) hA, va_Zref (hts _ tw_ls2) (hts _ (List.mem_filter.mp ini_RJx4a65c).1) ha hA, ⟨va_Zref (hts _ tw_ls3) (hts _ (List.mem_filter.mp ini_RX6).1) hb9 hA, hTb, hTa⟩, fun q hq => ?_⟩
  · have := hd k q hq
    exact this
  · match k, hq with
    | 0, hq => cases hq; exact ⟨i1, i2⟩
    | 1, hq => cases hq; exact ⟨i1, i2⟩
    | 2, hq => cases hq; exact ⟨o1, o2⟩
    | k + 3, hq => simp at hq
  · have hw := hts _ (ta_str q hq)
    obtain ⟨k9, cf9, i9, a9, -, -, -, -, -, h9⟩ := Cond.stringRef_spec ((hd 9 _ rfl).2.1) hw
    exact ⟨a9, vk_R.of hw h9⟩
theorem TI_0 : TI x00 a00 (fun _ _ => 0) 0 := by
  have z0 : zN (0 : Int32) = 0 := by decide
  have hn : ∀ (i : Nat), i < zN (0 : Int32) → False := fun i hi => by rw [z0] at hi; omega
  refine ⟨zIv_0, ⟨⟨by show zN (0 : Int32) ≤ 16; rw [z0]; decide, by show zN (0 : Int32) ≤ 30; rw [z0]; decide⟩, fun i hi => (hn i hi).elim, fun i hi => (hn i hi).elim, fun i hi => (hn i hi).elim, fun s => ⟨1000, by decide, by show (0 : Int32) = nI 1000 - 1000; decide⟩, fun i hi => (hn i hi).elim, ⟨fun i _ hi => (hn i hi).elim, fun i hi => (hn i hi).elim, fun i _ hi => (hn i hi).elim⟩, ⟨fun i hi => (hn i hi).elim, fun i _ hi => (hn i hi).elim⟩, fun i hi => (hn i hi).elim⟩, ⟨⟨rfl, rfl, rfl, rfl, rfl, rfl, rfl⟩, fun i hi => (hn i hi).elim, ⟨fun i hi => (hn i hi).elim, fun _ _ => rfl⟩, fun i hi => (hn i hi).elim, fun i hi => (hn i hi).elim⟩, ?_⟩
  show zN (0 : Int32) ≤ 1000 * 0
  rw [z0]
  decide
set_option maxRecDepth 100000 in
set_option maxHeartbeats 4000000 in
theorem whole_start {p : Program} {e : Env} {s : State} {m : MethodId} {below : List Frame} {meth : Method} {c : Code} (l : Launch) (hflags : l.flags = flags0) {b L : Nat} {xs : Nat → Int32} (hL : L ≤ 260) (C0 : lw_At p s m meth c b L xs) : W p l e room_1 s m #[Value.ref b] below meth c s.heap [] 0 0 (lw_Z below #[Value.ref b] s) (entryFrame m ([Value.ref b] : List Value).toArray 10) := by
  obtain ⟨X, hXs, hS⟩ := st_S C0
  obtain ⟨hx, hb, hr, hml, hown, hts, hX, hbl, hlocks, hgv⟩ := C0
  have hz : zsz X = s.heap.size := by rw [show zsz X = (zHs X).size from rfl, hXs]
  have hl : l.stackTraces = false := by
    unfold Launch.stackTraces
    rw [hflags]
    decide +kernel
  have C : zC X p l s m #[Value.ref b] meth c cL_law 10 RL := ⟨hx, hb, hml, hown, fun w h => hts w (List.mem_filter.mp h).1, hS, hl, hlocks, by rw [hz]; exact Nat.le_refl _, fun q _ => by rw [hXs]⟩
  have K : LwC X p l s m b meth c L xs := ⟨C, by rw [hXs]; exact hX, by rw [hz]; exact hbl, hz, hL, hr⟩
  have hW : zW X s00 (l00 X.2.2.2.1 X.2.2.2.2.1) s.heap := zW_0 hXs C.emp C.wts
  have hG : LwG X p l e s m b below meth c s00 (l00 X.2.2.2.1 X.2.2.2.2.1) 0 0 s00 0 [(0, .inl (.ref b))] [] := by
    refine z_new C 0 0 n_RL_11 dL_law_0 (by decide) (s00_n (by decide)) ⟨Nat.le_of_ble_eq_true rfl, Nat.le_of_ble_eq_true rfl⟩ ?_
    refine z_dup C (by first | trivial | rfl) dL_law_3 ?_
    refine z_callI C Y_X6_init im_yX6_init rfl ml_RL_178 (c_X6_init l (zput_s _ _ _ _) (fun k i hk h => (zput_n h).trans (s00_n (by omega)))) dL_law_4 rfl rfl (fun _ => Nat.le_of_ble_eq_true rfl) ⟨Nat.le_of_ble_eq_true rfl, Nat.le_of_ble_eq_true rfl⟩ ⟨Nat.le_of_ble_eq_true rfl, Nat.le_of_ble_eq_true rfl⟩ (z_rv (fun σ1 hx1 => ?_)) z_nx
    obtain ⟨hD, hf1⟩ := hx1
    have hn1 : ∀ k i, k < 90 → 2 ≤ k → σ1 k i = none := fun k i hk h2 => (hf1 k i (by omega) (by omega)).trans ((zput_n (by omega)).trans (s00_n hk))
    refine z_astore_n (i := 1) C dL_law_7 rfl (by decide) ?_
    refine z_new C 40 0 n_RL_11 dL_law_8 (by decide) (hn1 40 0 (by decide) (by decide)) ⟨Nat.le_of_ble_eq_true rfl, Nat.le_of_ble_eq_true rfl⟩ ?_
    refine z_dup C (by first | trivial | rfl) dL_law_11 ?_
    have ho1 : fH (zput σ1 40 0 (oC 9 [aN, aN, aN, aN, aN, aN, aI 0])) 0 0 = some (oC 9 [aN, aN, aN, aN, aN, aN, aI 0]) := by
      show ((zput σ1 40 0 (oC 9 [aN, aN, aN, aN, aN, aN, aI 0])) 40 0).map fC = _
      rw [zput_s]
      rfl
    have ho2 : ∀ k i, k < 40 → ¬ (k = 0 ∧ i = 0) → fH (zput σ1 40 0 (oC 9 [aN, aN, aN, aN, aN, aN, aI 0])) k i = none := by
      intro k i hk h
      show ((zput σ1 40 0 (oC 9 [aN, aN, aN, aN, aN, aN, aI 0])) (fl k) i).map fC = none
      rw [fl1 hk, zput_n (by omega), hn1 (k + 40) i (by omega) (by omega)]
      rfl
    refine z_callI C Y_X6_init im_yX6_init rfl ml_RL_178 (zMw.flV (as' := [aR 40 0]) (c_X6_init l ho1 ho2) rfl) dL_law_12 rfl rfl (fun _ => Nat.le_of_ble_eq_true rfl) ⟨Nat.le_of_ble_eq_true rfl, Nat.le_of_ble_eq_true rfl⟩ ⟨Nat.le_of_ble_eq_true rfl, Nat.le_of_ble_eq_true rfl⟩ (z_rv (fun σ2 hx2 => ?_)) z_nx
    obtain ⟨hD2, hf2⟩ := hx2
    have hg : ∀ k i, (k < 40 ∨ 80 ≤ k) → σ2 k i = σ1 k i := by
      intro k i hk
      have h9 := fH_at (hf2 (fl k) i (by rcases hk with hk | hk
                                         · rw [fl1 hk]; omega
                                         · rw [fl3 hk]; omega) (by rcases hk with hk | hk
                                                                   · rw [fl1 hk]; omega
                                                                   · rw [fl3 hk]; omega))
      rw [fl_fl] at h9
      exact h9.trans (zput_n (by omega))
    have hD1 : DK x00 a00 σ2 := hD.ag hg
    have hn2 : ∀ j, σ2 80 j = none := fun j => (hg 80 j (Or.inr (by decide))).trans (hn1 80 j (by decide) (by decide))
    refine z_astore_n (i := 2) C dL_law_15 rfl (by decide) ?_
    refine z_bipush (v := nI 64) C dL_law_16 (by decide) ?_
    refine z_newI C 80 0 dL_law_18 (by decide) (hn2 0) (by decide) (N := 64) (by decide) (by decide) ⟨Nat.le_of_ble_eq_true rfl, Nat.le_of_ble_eq_true rfl⟩ ac__int ?_
    refine z_astore_n (i := 3) C dL_law_20 rfl (by decide) ?_
    refine z_bipush (v := nI 24) C dL_law_21 (by decide) ?_
    refine z_newI C 80 1 dL_law_23 (by decide) (by (repeat rw [zput_n (by omega)]); exact hn2 1) (by decide) (N := 24) (by decide) (by decide) ⟨Nat.le_of_ble_eq_true rfl, Nat.le_of_ble_eq_true rfl⟩ ac__int ?_
    refine z_astore C dL_law_25 (by decide) ?_
    refine z_bipush (v := nI 64) C dL_law_27 (by decide) ?_
    refine z_newI C 80 2 dL_law_29 (by decide) (by (repeat rw [zput_n (by omega)]); exact hn2 2) (by decide) (N := 64) (by decide) (by decide) ⟨Nat.le_of_ble_eq_true rfl, Nat.le_of_ble_eq_true rfl⟩ ac__int ?_
    refine z_astore C dL_law_31 (by decide) ?_
    refine z_bipush (v := nI 30) C dL_law_33 (by decide) ?_
    refine z_newI C 80 3 dL_law_35 (by decide) (by (repeat rw [zput_n (by omega)]); exact hn2 3) (by decide) (N := 30) (by decide) (by decide) ⟨Nat.le_of_ble_eq_true rfl, Nat.le_of_ble_eq_true rfl⟩ ac__int ?_
    refine z_astore C dL_law_37 (by decide) ?_
    refine z_bipush (v := nI 7) C dL_law_39 (by decide) ?_
    refine z_newI C 80 4 dL_law_41 (by decide) (by (repeat rw [zput_n (by omega)]); exact hn2 4) (by decide) (N := 7) (by decide) (by decide) ⟨Nat.le_of_ble_eq_true rfl, Nat.le_of_ble_eq_true rfl⟩ ac__int ?_
    refine z_astore C dL_law_43 (by decide) ?_
    have hW : LW x00 a00 x00 a00 (fun _ _ => 0) (zput (zput (zput (zput (zput σ2 80 0 (iC 64 (fun _ => 0))) 80 1 (iC 24 (fun _ => 0))) 80 2 (iC 64 (fun _ => 0))) 80 3 (iC 30 (fun _ => 0))) 80 4 (iC 7 (fun _ => 0))) := by
      have ha : ∀ (σ9 : zHp) (j : Nat) (c9 : zCell), DK x00 a00 σ9 → DK x00 a00 (fH σ9) → DK x00 a00 (zput σ9 80 j c9) ∧ DK x00 a00 (fH (zput σ9 80 j c9)) := fun σ9 j c9 h1 h2 => ⟨h1.agn (j := j) (fun k i hk => zput_n hk), h2.agn (j := j) (fun k i hk => fH_to (zput_n (fun z => hk ⟨fl_90 (by decide) z.1, z.2⟩)))⟩
      have e0 := ha _ 0 (iC 64 (fun _ => 0)) hD1 hD2
      have e1 := ha _ 1 (iC 24 (fun _ => 0)) e0.1 e0.2
      have e2 := ha _ 2 (iC 64 (fun _ => 0)) e1.1 e1.2
      have e3 := ha _ 3 (iC 30 (fun _ => 0)) e2.1 e2.2
      have e4 := ha _ 4 (iC 7 (fun _ => 0)) e3.1 e3.2
      refine ⟨e4.1, e4.2, fun j hj => ?_, fun j hj => ?_⟩
      · rcases (show j = 0 ∨ j = 1 ∨ j = 2 ∨ j = 3 ∨ j = 4 by omega) with rfl | rfl | rfl | rfl | rfl
        · rw [zput_n (by omega), zput_n (by omega), zput_n (by omega), zput_n (by omega), zput_s]; rfl
        · rw [zput_n (by omega), zput_n (by omega), zput_n (by omega), zput_s]; rfl
        · rw [zput_n (by omega), zput_n (by omega), zput_s]; rfl
        · rw [zput_n (by omega), zput_s]; rfl
        · rw [zput_s]; rfl
      · rw [zput_n (by omega), zput_n (by omega), zput_n (by omega), zput_n (by omega), zput_n (by omega)]
        exact hn2 j
    generalize (zput (zput (zput (zput (zput σ2 80 0 (iC 64 (fun _ => 0))) 80 1 (iC 24 (fun _ => 0))) 80 2 (iC 64 (fun _ => 0))) 80 3 (iC 30 (fun _ => 0))) 80 4 (iC 7 (fun _ => 0))) = σ7 at hW ⊢
    have hI := zIv_0
    have z0 : zN (0 : Int32) = 0 := by decide
    refine z_aload_n (i := 1) C dL_law_45 rfl rfl ?_
    refine z_callV C Y_X6_waiting V_X6_waiting ml_RL_122 (c_X6_waiting l hW.1 hI.1) dL_law_46 rfl rfl hW.1.1.1 ⟨_, _, rfl⟩ (fun _ => Nat.le_of_ble_eq_true rfl) ⟨Nat.le_of_ble_eq_true rfl, Nat.le_of_ble_eq_true rfl⟩ (by show _ ≤ 674153 ∧ _ ≤ 7079239; omega) (z_d0 ?_) (fun E9 σ1 hx => by obtain ⟨-, hk⟩ := hx; rcases hk with ⟨hk, -⟩ | ⟨hk, -⟩ | ⟨hk, -⟩ <;> exact absurd hk (by decide))
    refine z_if_ne (tgt := 93) C dL_law_49 (by decide) (fun h => absurd (by show watL a00 (zN (0 : Int32)) = 0; rw [z0]; rfl) h) (fun _ => ?_)
    refine z_aload_n (i := 1) C dL_law_52 rfl rfl ?_
    refine z_iconst (v := nI 0) C dL_law_53 (by decide) ?_
    refine z_callSX C Y_L_stalled sm_yL_stalled ml_RL_125 (c_L_stalled l hW.1 hI) dL_law_54 rfl rfl (fun _ => Nat.le_of_ble_eq_true rfl) ⟨Nat.le_of_ble_eq_true rfl, Nat.le_of_ble_eq_true rfl⟩ (by show _ ≤ 674153 ∧ _ ≤ 7079239; omega) (z_q0 (w := (0)) (goC_0.mpr ⟨by decide, rfl, rfl⟩) (by show stlL x00 a00 (nI 0) (zN (0 : Int32)) = 0; rw [z0]; rfl) ?_) z_nx
    refine z_if_ne (tgt := 93) C dL_law_57 (by decide) (fun h => absurd (rfl) h) (fun _ => ?_)
    refine z_aload_n (i := 1) C dL_law_60 rfl rfl ?_
    refine z_iconst (v := nI 0) C dL_law_61 (by decide) ?_
    refine z_callSX C Y_L_forecast sm_yL_forecast ml_RL_130 (c_L_forecast l hW.1 hI) dL_law_62 rfl rfl (fun _ => Nat.le_of_ble_eq_true rfl) ⟨Nat.le_of_ble_eq_true rfl, Nat.le_of_ble_eq_true rfl⟩ (by show _ ≤ 674153 ∧ _ ≤ 7079239; omega) (z_q1 (kx_1 (by decide)) ?_) z_nx
    refine z_ldc C dL_law_65 kc_RL_94 ?_
    refine z_icmp_ne (tgt := 93) C dL_law_67 (by decide) (fun h => absurd (rfl) h) (fun _ => ?_)
    refine z_aload_n (i := 1) C dL_law_70 rfl rfl ?_
    refine z_iconst (v := nI 0) C dL_law_71 (by decide) ?_
    refine z_callSX C Y_L_regionOf sm_yL_regionOf ml_RL_137 (c_L_regionOf l hW.1 hI) dL_law_72 rfl rfl (fun _ => Nat.le_of_ble_eq_true rfl) ⟨Nat.le_of_ble_eq_true rfl, Nat.le_of_ble_eq_true rfl⟩ (by show _ ≤ 674153 ∧ _ ≤ 7079239; omega) (z_q1 (kx_1 (by decide)) ?_) z_nx
    refine z_ldc C dL_law_75 kc_RL_28 ?_
    refine z_icmp_ne (tgt := 93) C dL_law_77 (by decide) (fun h => absurd (rfl) h) (fun _ => ?_)
    refine z_aload_n (i := 1) C dL_law_80 rfl rfl ?_
    refine z_iconst (v := nI 0) C dL_law_81 (by decide) ?_
    refine z_iconst (v := nI 0) C dL_law_82 (by decide) ?_
    refine z_callSX C Y_L_inRegion sm_yL_inRegion ml_RL_118 (c_L_inRegion l hW.1 hI) dL_law_83 rfl rfl (fun _ => Nat.le_of_ble_eq_true rfl) ⟨Nat.le_of_ble_eq_true rfl, Nat.le_of_ble_eq_true rfl⟩ (by show _ ≤ 674153 ∧ _ ≤ 7079239; omega) (z_q0 (w := (0)) (goC_0.mpr ⟨by decide, rfl, rfl⟩) (by show inrL x00 a00 (nI 0) (nI 0) (zN (0 : Int32)) = 0; rw [z0]; rfl) ?_) z_nx
    refine z_if_ne (tgt := 93) C dL_law_86 (by decide) (fun h => absurd (rfl) h) (fun _ => ?_)
    refine z_iconst (v := nI 1) C dL_law_89 (by decide) ?_
    refine z_goto (tgt := 94) C dL_law_90 (by decide) ?_
    refine z_istore C dL_law_94 (by decide) ?_
    refine z_iconst (v := nI 0) C dL_law_96 (by decide) ?_
    refine z_istore C dL_law_97 (by decide) ?_
    refine z_sub (L' := [(0, .inl (.ref b)), (1, aR 0 0), (2, aR 40 0), (3, aR 80 0), (4, aR 80 1), (5, aR 80 2), (6, aR 80 3), (7, aR 80 4), (8, aI (nI 1)), (9, aI (nI 0))]) (zs1 rfl (zs1 rfl (zs1 rfl (zs1 rfl (zs1 rfl (zs1 rfl (zs1 rfl (zs1 rfl (zs1 rfl (zs1 rfl zs0)))))))))) ?_
    refine z_wd (k := 200 + 300 * 0 + 10000 * (0 / 4)) (n := 4000 + 5000 * 0 + 60000 * (0 / 4)) (Nat.le_of_ble_eq_true rfl) (Nat.le_of_ble_eq_true rfl) ?_
    exact lw_loop K 95 0 x00 a00 _ σ7 hW TI_0 rfl
  rw [lg_entry_eq]
  refine hG _ s.heap [] _ ⟨hW, zLe.rf, fun q hq => ?_, (fun v h => by cases h), va_S.rf, ?_⟩
  · rw [List.mem_singleton.mp hq]
    exact ⟨trivial, rfl⟩
  · exact lv_entry ([.ref b]) (n := 10) (Nat.le_of_ble_eq_true rfl)
