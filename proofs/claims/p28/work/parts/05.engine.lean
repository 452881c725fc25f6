/-! THE ENGINE: worlds by keys. A reference is a key (kind, number); the heap is a function of keys; addresses are hidden. -/
abbrev zK : Type := Nat × Nat
abbrev zV : Type := Value ⊕ zK
abbrev aI (x : Int32) : zV := .inl (.int x)
abbrev aL (x : Int64) : zV := .inl (.long x)
abbrev aN : zV := .inl .null
abbrev aR (k i : Nat) : zV := .inr (k, i)
def aO (o : Option zK) : zV := match o with | none => aN | some q => .inr q
abbrev zCell : Type := (Nat × List zV) ⊕ ((Nat × (Nat → Int32)) ⊕ ((Nat × (Nat → Int64)) ⊕ (Nat × (Nat → Option zK))))
abbrev oC (ci : Nat) (fs : List zV) : zCell := .inl (ci, fs)
abbrev iC (n : Nat) (f : Nat → Int32) : zCell := .inr (.inl (n, f))
abbrev lC (n : Nat) (f : Nat → Int64) : zCell := .inr (.inr (.inl (n, f)))
abbrev rC (n : Nat) (f : Nat → Option zK) : zCell := .inr (.inr (.inr (n, f)))
abbrev zHp : Type := Nat → Nat → Option zCell
/-- what is fixed for a run: the classes' numbers; the array classes of int, long, Object; the heap at the law's start; the addresses of ArrayList's empty array, of WEIGHTS, of the Class object of Object[] -/
abbrev zX : Type := va_G × (ClassId × ClassId × ClassId) × (Heap × Nat × Nat × Nat)
abbrev zHs (X : zX) : Heap := X.2.2.1
abbrev zsz (X : zX) : Nat := X.2.2.1.size
def zA (X : zX) : Nat → Prop := fun q => zsz X ≤ q
def zcv (loc : zK → Nat) : zV → Value
  | .inl v => v
  | .inr q => .ref (loc q)
def zcc (X : zX) (loc : zK → Nat) : zCell → va_E
  | .inl o => .inr (o.1, o.2.map (zcv loc))
  | .inr (.inl a) => .inl (X.2.1.1, a.1, .inl a.2)
  | .inr (.inr (.inl a)) => .inl (X.2.1.2.1, a.1, .inr (.inl a.2))
  | .inr (.inr (.inr a)) => .inl (X.2.1.2.2, a.1, .inr (.inr (.inr (.inr (fun j => (a.2 j).map loc)))))
def zlv (σ : zHp) : zV → Prop
  | .inl _ => True
  | .inr q => σ q.1 q.2 ≠ none
def zcl (σ : zHp) : zCell → Prop
  | .inl o => ∀ v ∈ o.2, zlv σ v
  | .inr (.inl _) => True
  | .inr (.inr (.inl _)) => True
  | .inr (.inr (.inr a)) => ∀ (j : Nat) (q : zK), a.2 j = some q → σ q.1 q.2 ≠ none
def zput (σ : zHp) (k i : Nat) (c : zCell) : zHp := fun k' i' => cond (Nat.beq k' k && Nat.beq i' i) (some c) (σ k' i')
def zup (loc : zK → Nat) (k i q : Nat) : zK → Nat := fun z => cond (Nat.beq z.1 k && Nat.beq z.2 i) q (loc z)
def zWts : Nat → Int32 := fun j => ([10, 30, 60, 90, 100, 0] : List Int32).getD j 0
def zW (X : zX) (σ : zHp) (loc : zK → Nat) (H : Heap) : Prop :=
  zsz X ≤ H.size ∧ (∀ q : Nat, q < zsz X → H[q]? = (zHs X)[q]?) ∧
  (∀ (k i : Nat) (c : zCell), σ k i = some c → ((k < 90 ∧ va_at X.1 vwCl (loc (k, i), zcc X loc c) H ∧ zsz X ≤ loc (k, i)) ∨ (k = 90 ∧ i = 0) ∨ (k = 91 ∧ i = 0)) ∧ loc (k, i) < H.size ∧ zcl σ c) ∧
  (∀ (k i k' i' : Nat) (c c' : zCell), σ k i = some c → σ k' i' = some c' → loc (k, i) = loc (k', i') → k = k' ∧ i = i') ∧
  (loc (90, 0) = X.2.2.2.1 ∧ loc (91, 0) = X.2.2.2.2.1 ∧ σ 90 0 = some (rC 0 (fun _ => none)) ∧ σ 91 0 = some (iC 6 zWts))
theorem znb {a b : Nat} (h : ¬ a = b) : Nat.beq a b = false := by
  cases hb : Nat.beq a b with
  | false => rfl
  | true => exact absurd (Nat.eq_of_beq_eq_true hb) h
theorem zput_s (σ : zHp) (k i : Nat) (c : zCell) : zput σ k i c k i = some c := by
  simp [zput]
theorem zput_n {σ : zHp} {k i k' i' : Nat} {c : zCell} (h : ¬ (k' = k ∧ i' = i)) : zput σ k i c k' i' = σ k' i' := by
  unfold zput
  by_cases h1 : k' = k
  · have h2 : i' ≠ i := fun e => h ⟨h1, e⟩
    rw [znb h2, Bool.and_false, cond_false]
  · rw [znb h1, Bool.false_and, cond_false]
theorem zput_live {σ : zHp} {k i : Nat} {c : zCell} {k' i' : Nat} (h : σ k' i' ≠ none) : zput σ k i c k' i' ≠ none := by
  by_cases e : k' = k ∧ i' = i
  · obtain ⟨rfl, rfl⟩ := e
    rw [zput_s]
    exact fun z => by cases z
  · rw [zput_n e]
    exact h
theorem zlv_mono {σ σ' : zHp} (h : ∀ k i, σ k i ≠ none → σ' k i ≠ none) {v : zV} (hv : zlv σ v) : zlv σ' v := by
  cases v with
  | inl _ => trivial
  | inr q => exact h _ _ hv
theorem zcl_mono {σ σ' : zHp} (h : ∀ k i, σ k i ≠ none → σ' k i ≠ none) {c : zCell} (hc : zcl σ c) : zcl σ' c := by
  match c, hc with
  | .inl o, hc => exact fun v hv => zlv_mono h (hc v hv)
  | .inr (.inl _), _ => trivial
  | .inr (.inr (.inl _)), _ => trivial
  | .inr (.inr (.inr a)), hc => exact fun j q hj => h _ _ (hc j q hj)
theorem zcv_congr {σ : zHp} {loc loc' : zK → Nat} (h : ∀ k i, σ k i ≠ none → loc' (k, i) = loc (k, i)) {v : zV} (hv : zlv σ v) : zcv loc' v = zcv loc v := by
  cases v with
  | inl _ => rfl
  | inr q => exact congrArg Value.ref (h q.1 q.2 hv)
theorem zcc_congr {X : zX} {σ : zHp} {loc loc' : zK → Nat} (h : ∀ k i, σ k i ≠ none → loc' (k, i) = loc (k, i)) {c : zCell} (hc : zcl σ c) : zcc X loc' c = zcc X loc c := by
  match c, hc with
  | .inl o, hc =>
    show Sum.inr (o.1, o.2.map (zcv loc')) = Sum.inr (o.1, o.2.map (zcv loc))
    rw [List.map_congr_left (fun v hv => zcv_congr h (hc v hv))]
  | .inr (.inl _), _ => rfl
  | .inr (.inr (.inl _)), _ => rfl
  | .inr (.inr (.inr a)), hc =>
    have e : (fun j => (a.2 j).map loc') = (fun j => (a.2 j).map loc) := by
      funext j
      cases hj : a.2 j with
      | none => rfl
      | some q => exact congrArg some (h q.1 q.2 (hc j q hj))
    show Sum.inl (X.2.1.2.2, a.1, _) = Sum.inl (X.2.1.2.2, a.1, _)
    rw [e]
theorem zup_s (loc : zK → Nat) (k i q : Nat) : zup loc k i q (k, i) = q := by
  simp [zup]
theorem zup_n {loc : zK → Nat} {k i q k' i' : Nat} (h : ¬ (k' = k ∧ i' = i)) : zup loc k i q (k', i') = loc (k', i') := by
  unfold zup
  by_cases h1 : k' = k
  · have h2 : i' ≠ i := fun e => h ⟨h1, e⟩
    rw [znb h2, Bool.and_false, cond_false]
  · rw [znb h1, Bool.false_and, cond_false]
theorem zW.up {X : zX} {σ : zHp} {loc : zK → Nat} {H : Heap} (h : zW X σ loc H) {k i : Nat} {c : zCell} (hc : σ k i = some c) (hk : k < 90) : zsz X ≤ loc (k, i) := by
  rcases (h.2.2.1 k i c hc).1 with g | g | g
  · exact g.2.2
  · omega
  · omega
theorem zW.lt {X : zX} {σ : zHp} {loc : zK → Nat} {H : Heap} (h : zW X σ loc H) {k i : Nat} (hs : σ k i ≠ none) : loc (k, i) < H.size := by
  cases hc : σ k i with
  | none => exact absurd hc hs
  | some c => exact (h.2.2.1 k i c hc).2.1
/-- a cell that is written -/
theorem zW.put {X : zX} {σ : zHp} {loc : zK → Nat} {H H' : Heap} {k i : Nat} {c0 c : zCell} (h : zW X σ loc H) (h0 : σ k i = some c0) (hk : k < 90) (hat : va_at X.1 vwCl (loc (k, i), zcc X loc c) H') (hc : zcl σ c) (hz : H'.size = H.size) (ho : ∀ q : Nat, q ≠ loc (k, i) → H'[q]? = H[q]?) : zW X (zput σ k i c) loc H' := by
  have hl := h.up h0 hk
  have hlt0 : loc (k, i) < H.size := h.lt (by rw [h0]; exact fun z => by cases z)
  obtain ⟨h1, h2, h3, h4, h5, h6, h7, h8⟩ := h
  refine ⟨by rw [hz]; exact h1, fun q hq => ?_, fun k' i' c' hc' => ?_, fun a b a' b' x x' hx hx' hxx => ?_, h5, h6, ?_, ?_⟩
  · rw [ho q (fun e => by omega)]
    exact h2 q hq
  · by_cases e : k' = k ∧ i' = i
    · obtain ⟨rfl, rfl⟩ := e
      rw [zput_s] at hc'
      cases hc'
      exact ⟨Or.inl ⟨hk, hat, hl⟩, by rw [hz]; exact hlt0, zcl_mono (fun _ _ z => zput_live z) hc⟩
    · rw [zput_n e] at hc'
      obtain ⟨g1, g2, g3⟩ := h3 k' i' c' hc'
      refine ⟨?_, by rw [hz]; exact g2, zcl_mono (fun _ _ z => zput_live z) g3⟩
      rcases g1 with ⟨a1, a2, a3⟩ | g1
      · exact Or.inl ⟨a1, a2.kept (ho _ (fun z => e (h4 k' i' k i c' c0 hc' h0 z))), a3⟩
      · exact Or.inr g1
  · have old : ∀ {a b : Nat} {x : zCell}, zput σ k i c a b = some x → ∃ y, σ a b = some y := by
      intro a b x hx
      by_cases e : a = k ∧ b = i
      · obtain ⟨rfl, rfl⟩ := e
        exact ⟨_, h0⟩
      · rw [zput_n e] at hx
        exact ⟨_, hx⟩
    obtain ⟨y, hy⟩ := old hx
    obtain ⟨y', hy'⟩ := old hx'
    exact h4 _ _ _ _ y y' hy hy' hxx
  · rw [zput_n (fun e => by omega)]; exact h7
  · rw [zput_n (fun e => by omega)]; exact h8
/-- a cell that is made -/
theorem zW.new {X : zX} {σ : zHp} {loc : zK → Nat} {H H' : Heap} {k i : Nat} {c : zCell} (h : zW X σ loc H) (h0 : σ k i = none) (hk : k < 90) (hc : zcl σ c) (hat : va_at X.1 vwCl (H.size, zcc X loc c) H') (ho : ∀ q : Nat, q < H.size → H'[q]? = H[q]?) (hz : H.size ≤ H'.size) : zW X (zput σ k i c) (zup loc k i H.size) H' := by
  have hcg : ∀ k' i', σ k' i' ≠ none → zup loc k i H.size (k', i') = loc (k', i') := fun k' i' hl => zup_n (fun e => hl (by rw [e.1, e.2]; exact h0))
  have hlt : ∀ {k' i' : Nat} {c' : zCell}, σ k' i' = some c' → loc (k', i') < H.size := fun hc' => h.lt (by rw [hc']; exact fun z => by cases z)
  obtain ⟨h1, h2, h3, h4, h5, h6, h7, h8⟩ := h
  refine ⟨by omega, fun q hq => ?_, fun k' i' c' hc' => ?_, fun a b a' b' x x' hx hx' hxx => ?_, ?_, ?_, ?_, ?_⟩
  · rw [ho q (by omega)]
    exact h2 q hq
  · by_cases e : k' = k ∧ i' = i
    · obtain ⟨rfl, rfl⟩ := e
      rw [zput_s] at hc'
      cases hc'
      rw [zup_s, zcc_congr hcg hc]
      exact ⟨Or.inl ⟨hk, hat, h1⟩, hat.lt, zcl_mono (fun _ _ z => zput_live z) hc⟩
    · rw [zput_n e] at hc'
      obtain ⟨g1, g2, g3⟩ := h3 k' i' c' hc'
      rw [zup_n e, zcc_congr hcg g3]
      refine ⟨?_, by omega, zcl_mono (fun _ _ z => zput_live z) g3⟩
      rcases g1 with ⟨a1, a2, a3⟩ | g1
      · exact Or.inl ⟨a1, a2.kept (ho _ (hlt hc')), a3⟩
      · exact Or.inr g1
  · by_cases e : a = k ∧ b = i <;> by_cases e' : a' = k ∧ b' = i
    · exact ⟨e.1.trans e'.1.symm, e.2.trans e'.2.symm⟩
    · rw [zput_n e'] at hx'
      rw [zup_n e', e.1, e.2, zup_s] at hxx
      have := hlt hx'
      omega
    · rw [zput_n e] at hx
      rw [zup_n e, e'.1, e'.2, zup_s] at hxx
      have := hlt hx
      omega
    · rw [zput_n e] at hx
      rw [zput_n e'] at hx'
      rw [zup_n e, zup_n e'] at hxx
      exact h4 _ _ _ _ x x' hx hx' hxx
  · rw [zup_n (fun e => by omega)]; exact h5
  · rw [zup_n (fun e => by omega)]; exact h6
  · rw [zput_n (fun e => by omega)]; exact h7
  · rw [zput_n (fun e => by omega)]; exact h8
/-- the heap grows by what nobody speaks of -/
theorem zW.grow {X : zX} {σ : zHp} {loc : zK → Nat} {H H' : Heap} (h : zW X σ loc H) (hz : H.size ≤ H'.size) (ho : ∀ q : Nat, q < H.size → H'[q]? = H[q]?) : zW X σ loc H' := by
  have hlt : ∀ {k' i' : Nat} {c' : zCell}, σ k' i' = some c' → loc (k', i') < H.size := fun hc' => h.lt (by rw [hc']; exact fun z => by cases z)
  obtain ⟨h1, h2, h3, h4, h5⟩ := h
  refine ⟨by omega, fun q hq => by rw [ho q (by omega)]; exact h2 q hq, fun k i c hc => ?_, h4, h5⟩
  obtain ⟨g1, g2, g3⟩ := h3 k i c hc
  refine ⟨?_, by omega, g3⟩
  rcases g1 with ⟨a1, a2, a3⟩ | g1
  · exact Or.inl ⟨a1, a2.kept (ho _ (hlt hc)), a3⟩
  · exact Or.inr g1
-- what a state owes beside its heap
def zCast : List (String × String) := [(RX0, "java/lang/Object"), (RX1, "java/lang/Object"), (RX2, "java/lang/Object"), (RX3, "java/lang/Object"), (RX4, "java/lang/Object"), (RX5, "java/lang/Object"), ("java/lang/IndexOutOfBoundsException", "java/lang/IndexOutOfBoundsException"), ("java/lang/IllegalArgumentException", "java/lang/IllegalArgumentException"), ("java/lang/IllegalStateException", "java/lang/IllegalStateException"), ("java/util/NoSuchElementException", "java/util/NoSuchElementException")]
def zNcst : List (String × String) := [("java/lang/IllegalArgumentException", "java/lang/IndexOutOfBoundsException"), ("java/lang/IllegalStateException", "java/lang/IndexOutOfBoundsException"), ("java/lang/IllegalStateException", "java/lang/IllegalArgumentException"), ("java/util/NoSuchElementException", "java/lang/IndexOutOfBoundsException")]
def zStr : List (Nat × String) := [(42, "it would be later than the last day"), (70, "there is no such place"), (81, "there is no such rule"), (128, "both sellers are the same"), (139, "the seller has less"), (149, "the chance cannot come to this stage"), (214, "the seller cannot approve the quote, or it is approved"), (222, "no quote counts"), (238, "there is no such freeze"), (240, "there is no such account"), (242, "there is no such seller"), (244, "there is no such chance"), (246, "there is no such quote"), (248, "an argument is out of range"), (250, "there are as many as there can be"), (252, "the chance is won or lost")]
def zDec : List MethodName := [Bundle.initS "java/lang/RuntimeException", Bundle.initS "java/lang/Exception", Bundle.initS "java/lang/Throwable"]
def zS (X : zX) (U : State) : Prop :=
  va_K X.1 vwCl [(X.2.1.1, .int), (X.2.1.1, .int), (X.2.1.2.2, .object "java/lang/Object")] U ∧
  (∀ q ∈ zCast, va_Nw (.castable q.1 q.2) U) ∧ (∀ q ∈ zNcst, va_Nc q.1 q.2 U) ∧ va_AO "java/lang/Object" U ∧ (va_Nw (.methodLinkNest RX6 234 yX2_init RX6) U ∧ (∀ y ∈ zDec, va_Nw (.declares y) U) ∧ va_Mi "[Ljava/lang/Object;" X.2.2.2.2.2 U ∧ va_Dc U) ∧
  vx_Zq Bundle.tN "UNASSIGNED_STACK" Bundle.steD (zA X) U (zHs X) ∧ vx_Zq Bundle.tN "SUPPRESSED_SENTINEL" Bundle.listD (zA X) U (zHs X) ∧
  va_Z RJx4a65c "DEFAULTCAPACITY_EMPTY_ELEMENTDATA" "[Ljava/lang/Object;" (.ref X.2.2.2.1) (zA X) U (zHs X) ∧ (va_Z RX6 "WEIGHTS" "[I" (.ref X.2.2.2.2.1) (zA X) U (zHs X) ∧ va_T .int X.2.2.2.2.1 6 (fun j => .int (zWts j)) (zA X) U (zHs X) ∧ va_T (.object "java/lang/Object") X.2.2.2.1 0 (fun _ => .null) (zA X) U (zHs X)) ∧
  (∀ q ∈ zStr, ∃ sa : Nat, vk_R RX6 q.1 q.2 sa U)
theorem zS.warm {X : zX} {s U : State} (hW : s.WarmedH U.vm) (h : zS X s) : zS X U := by
  obtain ⟨h1, h2, h3, h4, h5, h6, h7, h8, h9, h10⟩ := h
  exact ⟨va_K.moved hW.alike h1, fun q hq => va_Nw.warmC hW (h2 q hq), fun q hq => va_Nc.moved hW.alike (h3 q hq), va_AO.moved hW.alike h4, ⟨va_Nw.warmM hW h5.1, fun y hy => va_Nw.warmD hW (h5.2.1 y hy), va_Mi.moved hW.alike h5.2.2.1, va_Dc.moved hW.alike h5.2.2.2⟩, vx_Zq.moved hW.alike h6, vx_Zq.moved hW.alike h7, va_Z.moved hW.alike h8, ⟨va_Z.moved hW.alike h9.1, va_T.moved hW.alike h9.2.1, va_T.moved hW.alike h9.2.2⟩,
    fun q hq => by obtain ⟨sa, hs⟩ := h10 q hq; exact ⟨sa, vk_R.warm hW hs⟩⟩
theorem zS.same {X : zX} {s U : State} (hv : U.vm = s.vm) (h : zS X s) : zS X U := by
  have hA : s.vm.Alike U.vm := by rw [hv]; exact Vm.Alike.refl _
  obtain ⟨h1, h2, h3, h4, h5, h6, h7, h8, h9, h10⟩ := h
  exact ⟨va_K.moved hA h1, fun q hq => va_Nw.same rfl hv.symm (h2 q hq), fun q hq => va_Nc.moved hA (h3 q hq), va_AO.moved hA h4, ⟨va_Nw.same rfl hv.symm h5.1, fun y hy => va_Nw.same rfl hv.symm (h5.2.1 y hy), va_Mi.moved hA h5.2.2.1, va_Dc.moved hA h5.2.2.2⟩, vx_Zq.moved hA h6, vx_Zq.moved hA h7, va_Z.moved hA h8, ⟨va_Z.moved hA h9.1, va_T.moved hA h9.2.1, va_T.moved hA h9.2.2⟩,
    fun q hq => by obtain ⟨sa, hs⟩ := h10 q hq; exact ⟨sa, vk_R.same hv hs⟩⟩
-- frames
def zcat : zV → Prop
  | .inl v => v.category = 1
  | .inr _ => True
def zl : List (Nat × zV) → Nat → Option zV
  | [], _ => none
  | q :: r, i => cond (Nat.beq q.1 i) (some q.2) (zl r i)
def zst (L : List (Nat × zV)) (i : Nat) (v : zV) : List (Nat × zV) := (i, v) :: L.filter (fun q => !(Nat.beq q.1 i))
theorem zl_mem {L : List (Nat × zV)} {i : Nat} {v : zV} (h : zl L i = some v) : (i, v) ∈ L := by
  induction L with
  | nil => cases h
  | cons q r ih =>
    by_cases e : q.1 = i
    · have h1 : zl (q :: r) i = some q.2 := by simp [zl, e]
      rw [h1] at h
      cases h
      subst e
      exact List.mem_cons_self
    · have h1 : zl (q :: r) i = zl r i := by show cond (Nat.beq q.1 i) (some q.2) (zl r i) = _; rw [znb e, cond_false]
      rw [h1] at h
      exact List.mem_cons_of_mem _ (ih h)
def zLe (σ0 : zHp) (loc0 : zK → Nat) (σ : zHp) (loc : zK → Nat) : Prop := ∀ k i, σ0 k i ≠ none → σ k i ≠ none ∧ loc (k, i) = loc0 (k, i)
theorem zLe.rf {σ : zHp} {loc : zK → Nat} : zLe σ loc σ loc := fun _ _ h => ⟨h, rfl⟩
theorem zLe.trans {σ0 σ1 σ2 : zHp} {l0 l1 l2 : zK → Nat} (h : zLe σ0 l0 σ1 l1) (h' : zLe σ1 l1 σ2 l2) : zLe σ0 l0 σ2 l2 := fun k i hl => ⟨(h' k i (h k i hl).1).1, (h' k i (h k i hl).1).2.trans (h k i hl).2⟩
def zcL (loc : zK → Nat) (L : List (Nat × zV)) : List (Nat × Value) := L.map (fun q => (q.1, zcv loc q.2))
def zI (X : zX) (s : State) (nL : Nat) (σ0 : zHp) (loc0 : zK → Nat) (σ : zHp) (L : List (Nat × zV)) (st : List zV) (loc : zK → Nat) (H : Heap) (locs : List Loc) (ls : Array Slot) : Prop :=
  zW X σ loc H ∧ zLe σ0 loc0 σ loc ∧ (∀ q ∈ L, zlv σ q.2 ∧ zcat q.2) ∧ (∀ v ∈ st, zlv σ v) ∧ va_S (zA X) s.heap H locs ∧ lv_has ls nL (zcL loc L)
theorem zcat_cv {loc : zK → Nat} {v : zV} (h : zcat v) : (zcv loc v).category = 1 := by
  cases v with
  | inl w => exact h
  | inr q => rfl
theorem zcL_st (loc : zK → Nat) {L : List (Nat × zV)} (hc : ∀ q ∈ L, zcat q.2) (i : Nat) (v : zV) : (i, zcv loc v) :: (zcL loc L).filter (fun q => !(q.1 == i) && !(q.1 + 1 == i && q.2.category == 2)) = zcL loc (zst L i v) := by
  unfold zst zcL
  rw [List.map_cons]
  congr 1
  induction L with
  | nil => rfl
  | cons q r ih =>
    have h1 : (zcv loc q.2).category = 1 := zcat_cv (hc q List.mem_cons_self)
    have ih := ih (fun x hx => hc x (List.mem_cons_of_mem _ hx))
    rw [List.map_cons, List.filter_cons, List.filter_cons]
    by_cases e : q.1 = i
    · simp only [e, beq_self_eq_true, Bool.not_true, Bool.false_and, Nat.beq_refl]
      exact ih
    · have e1 : (q.1 == i) = false := beq_eq_false_iff_ne.mpr e
      have e2 : Nat.beq q.1 i = false := znb e
      simp only [e1, e2, h1, Bool.not_false, Bool.true_and]
      simp only [show ((1 : Nat) == 2) = false from rfl, Bool.and_false, Bool.not_false, if_true]
      rw [List.map_cons]
      exact congrArg _ ih
theorem zst_ok {σ : zHp} {L : List (Nat × zV)} {i : Nat} {v : zV} (h : ∀ q ∈ L, zlv σ q.2 ∧ zcat q.2) (hv : zlv σ v ∧ zcat v) : ∀ q ∈ zst L i v, zlv σ q.2 ∧ zcat q.2 := by
  intro q hq
  rcases List.mem_cons.mp hq with e | hq
  · rw [e]; exact hv
  · exact h q (List.mem_filter.mp hq).1
def zC (X : zX) (p : Program) (l : Launch) (s : State) (m : MethodId) (args : Array Value) (meth : Method) (c : Code) (cc : ByteArray) (nL : Nat) (own : String) : Prop :=
  p.tables.exec = Jvm.exec ∧ c.code = cc ∧ c.maxLocals = nL ∧ s.vm.findClass own = some m.cls ∧ (∀ w ∈ zT, w.before args s = true) ∧ zS X s ∧ l.stackTraces = false ∧ meth.locks = false ∧ zsz X ≤ s.heap.size ∧ (∀ q : Nat, q < zsz X → s.heap[q]? = (zHs X)[q]?)
def zG (X : zX) (p : Program) (l : Launch) (e : Env) (R : Room) (s : State) (m : MethodId) (args : Array Value) (below : List Frame) (meth : Method) (c : Code) (nL : Nat) (σ0 : zHp) (loc0 : zK → Nat) (Q : State → Prop) (cells slots : Nat) (σ : zHp) (pc : Nat) (L : List (Nat × zV)) (st : List zV) : Prop :=
  ∀ (loc : zK → Nat) (H : Heap) (locs : List Loc) (ls : Array Slot), zI X s nL σ0 loc0 σ L st loc H locs ls → W p l e R s m args below meth c H locs cells slots Q (F0 m pc ls (st.map (zcv loc)))
section ZR
variable {X : zX} {p : Program} {l : Launch} {e : Env} {R : Room} {s : State} {m : MethodId} {args : Array Value} {below : List Frame} {meth : Method} {c : Code} {nL : Nat} {σ0 σ : zHp} {loc0 : zK → Nat} {Q : State → Prop} {cells slots pc : Nat} {L : List (Nat × zV)} {st : List zV} {cc : ByteArray} {own : String}
theorem zC.x (C : zC X p l s m args meth c cc nL own) : p.tables.exec = Jvm.exec := C.1
theorem zC.b (C : zC X p l s m args meth c cc nL own) : c.code = cc := C.2.1
theorem zC.ml (C : zC X p l s m args meth c cc nL own) : c.maxLocals = nL := C.2.2.1
theorem zC.ow (C : zC X p l s m args meth c cc nL own) : s.vm.findClass own = some m.cls := C.2.2.2.1
theorem zC.ts (C : zC X p l s m args meth c cc nL own) : ∀ w ∈ zT, w.before args s = true := C.2.2.2.2.1
theorem zC.S (C : zC X p l s m args meth c cc nL own) : zS X s := C.2.2.2.2.2.1
theorem zC.K (C : zC X p l s m args meth c cc nL own) : va_K X.1 vwCl [(X.2.1.1, .int), (X.2.1.1, .int), (X.2.1.2.2, .object "java/lang/Object")] s := C.2.2.2.2.2.1.1
theorem zC.fix (C : zC X p l s m args meth c cc nL own) : CallFix p m c cc nL s args zT own := ⟨C.1, C.2.1, C.2.2.1, C.2.2.2.1, C.2.2.2.2.1⟩
-- the invariant moved along
variable {loc : zK → Nat} {H : Heap} {locs : List Loc} {ls : Array Slot} {st' : List zV}
theorem zI.sk (h : zI X s nL σ0 loc0 σ L st loc H locs ls) (hs : (∀ v ∈ st, zlv σ v) → ∀ v ∈ st', zlv σ v) : zI X s nL σ0 loc0 σ L st' loc H locs ls := ⟨h.1, h.2.1, h.2.2.1, hs h.2.2.2.1, h.2.2.2.2⟩
theorem zI.gt (h : zI X s nL σ0 loc0 σ L st loc H locs ls) {i : Nat} {v : zV} (hl : zl L i = some v) : ls[i]? = some (.val (zcv loc v)) :=
  h.2.2.2.2.2.2.2 (i, zcv loc v) (List.mem_map.mpr ⟨(i, v), zl_mem hl, rfl⟩)
theorem zI.lat (h : zI X s nL σ0 loc0 σ L st loc H locs ls) {i : Nat} {v : zV} (hl : zl L i = some v) : zlv σ v ∧ zcat v := h.2.2.1 (i, v) (zl_mem hl)
theorem zI.sub (h : zI X s nL σ0 loc0 σ L st loc H locs ls) {L' : List (Nat × zV)} (hs : ∀ q ∈ L', zl L q.1 = some q.2) : zI X s nL σ0 loc0 σ L' st loc H locs ls :=
  ⟨h.1, h.2.1, fun q hq => h.lat (hs q hq), h.2.2.2.1, h.2.2.2.2.1, h.2.2.2.2.2.1, h.2.2.2.2.2.2.1, fun x hx => by
    obtain ⟨q, hq, rfl⟩ := List.mem_map.mp hx
    exact h.gt (hs q hq)⟩
theorem zI.sto (h : zI X s nL σ0 loc0 σ L (st) loc H locs ls) {i : Nat} {v : zV} (hv : zlv σ v ∧ zcat v) {ls' : Array Slot} (h' : lv_has ls' nL (zcL loc (zst L i v))) : zI X s nL σ0 loc0 σ (zst L i v) st loc H locs ls' :=
  ⟨h.1, h.2.1, zst_ok h.2.2.1 hv, h.2.2.2.1, h.2.2.2.2.1, h'⟩
theorem zl_tl {a : zV} (h : ∀ v ∈ a :: st, zlv σ v) : ∀ v ∈ st, zlv σ v := fun v hv => h v (List.mem_cons_of_mem _ hv)
theorem zl_tl2 {a b : zV} (h : ∀ v ∈ a :: b :: st, zlv σ v) : ∀ v ∈ st, zlv σ v := zl_tl (zl_tl h)
theorem zl_tl3 {a b d : zV} (h : ∀ v ∈ a :: b :: d :: st, zlv σ v) : ∀ v ∈ st, zlv σ v := zl_tl (zl_tl2 h)
theorem zl_cn {a : zV} (ha : zlv σ a) (h : ∀ v ∈ st, zlv σ v) : ∀ v ∈ a :: st, zlv σ v := fun v hv => (List.mem_cons.mp hv).elim (fun e => by rw [e]; exact ha) (h v)
theorem zl_cp {w : Value} (h : ∀ v ∈ st, zlv σ v) : ∀ v ∈ (Sum.inl w : zV) :: st, zlv σ v := zl_cn (a := .inl w) trivial h
theorem zl_hd {a : zV} (h : ∀ v ∈ a :: st, zlv σ v) : zlv σ a := h a List.mem_cons_self
theorem z_go {pc' : Nat} (hlv : (∀ v ∈ st, zlv σ v) → ∀ v ∈ st', zlv σ v) (hw : ∀ (loc : zK → Nat) (H : Heap) (locs : List Loc) (ls : Array Slot), W p l e R s m args below meth c H locs cells slots Q (F0 m pc' ls (st'.map (zcv loc))) → W p l e R s m args below meth c H locs cells slots Q (F0 m pc ls (st.map (zcv loc))))
    (kk : zG X p l e R s m args below meth c nL σ0 loc0 Q cells slots σ pc' L st') : zG X p l e R s m args below meth c nL σ0 loc0 Q cells slots σ pc L st := fun loc H locs ls hI => hw loc H locs ls (kk loc H locs ls (hI.sk hlv))
/-- fewer locals -/
theorem z_sub {L' : List (Nat × zV)} (hs : ∀ q ∈ L', zl L q.1 = some q.2) (kk : zG X p l e R s m args below meth c nL σ0 loc0 Q cells slots σ pc L' st) : zG X p l e R s m args below meth c nL σ0 loc0 Q cells slots σ pc L st := fun loc H locs ls hI => kk loc H locs ls (hI.sub hs)
theorem zs0 : ∀ q ∈ ([] : List (Nat × zV)), zl L q.1 = some q.2 := fun _ h => by cases h
theorem zs1 {q : Nat × zV} {L' : List (Nat × zV)} (h : zl L q.1 = some q.2) (t : ∀ q ∈ L', zl L q.1 = some q.2) : ∀ x ∈ q :: L', zl L x.1 = some x.2 := fun x hx => (List.mem_cons.mp hx).elim (fun e => by rw [e]; exact h) (t x)
-- constants, locals
theorem z_iconst (C : zC X p l s m args meth c cc nL own) {n : Int} (hd : decode cc pc = .ok (.iconst n, 1)) {v : Int32} (hv : Int32.ofInt n = v) (kk : zG X p l e R s m args below meth c nL σ0 loc0 Q cells slots σ (pc + 1) L (aI v :: st)) : zG X p l e R s m args below meth c nL σ0 loc0 Q cells slots σ pc L st := z_go (fun h => zl_cp h) (fun _ _ _ _ k => lv_iconst C.x C.b hd hv k) kk
theorem z_bipush (C : zC X p l s m args meth c cc nL own) {n : Int} (hd : decode cc pc = .ok (.bipush n, 2)) {v : Int32} (hv : (Int8.ofInt n).toInt32 = v) (kk : zG X p l e R s m args below meth c nL σ0 loc0 Q cells slots σ (pc + 2) L (aI v :: st)) : zG X p l e R s m args below meth c nL σ0 loc0 Q cells slots σ pc L st := z_go (fun h => zl_cp h) (fun _ _ _ _ k => lv_bipush C.x C.b hd hv k) kk
theorem z_sipush (C : zC X p l s m args meth c cc nL own) {n : Int} (hd : decode cc pc = .ok (.sipush n, 3)) {v : Int32} (hv : (Int16.ofInt n).toInt32 = v) (kk : zG X p l e R s m args below meth c nL σ0 loc0 Q cells slots σ (pc + 3) L (aI v :: st)) : zG X p l e R s m args below meth c nL σ0 loc0 Q cells slots σ pc L st := z_go (fun h => zl_cp h) (fun _ _ _ _ k => lv_sipush C.x C.b hd hv k) kk
theorem z_ldc (C : zC X p l s m args meth c cc nL own) {i : Nat} {v : Int32} (hd : decode cc pc = .ok (.ldc i, 2)) (hw : Cond.constant own i v ∈ zT) (kk : zG X p l e R s m args below meth c nL σ0 loc0 Q cells slots σ (pc + 2) L (aI v :: st)) : zG X p l e R s m args below meth c nL σ0 loc0 Q cells slots σ pc L st := z_go (fun h => zl_cp h) (fun _ _ _ _ k => lv_ldc C.x C.b C.ow (C.ts _ hw) hd k) kk
theorem z_null (C : zC X p l s m args meth c cc nL own) (hd : decode cc pc = .ok (.aconst_null, 1)) (kk : zG X p l e R s m args below meth c nL σ0 loc0 Q cells slots σ (pc + 1) L (aN :: st)) : zG X p l e R s m args below meth c nL σ0 loc0 Q cells slots σ pc L st := z_go (fun h => zl_cp h) (fun _ _ _ _ k => lv_null C.x C.b hd k) kk
theorem z_iload_n (C : zC X p l s m args meth c cc nL own) {k : Fin 4} {i : Nat} {x : Int32} (hd : decode cc pc = .ok (.iload_n k, 1)) (hi : (k : Nat) = i) (hl : zl L i = some (aI x)) (kk : zG X p l e R s m args below meth c nL σ0 loc0 Q cells slots σ (pc + 1) L (aI x :: st)) : zG X p l e R s m args below meth c nL σ0 loc0 Q cells slots σ pc L st := fun loc H locs ls hI => lv_iload_n C.x C.b hd hi (hI.gt hl) (kk loc H locs ls (hI.sk (fun h => zl_cp h)))
theorem z_iload (C : zC X p l s m args meth c cc nL own) {i : Nat} {x : Int32} (hd : decode cc pc = .ok (.iload i, 2)) (hl : zl L i = some (aI x)) (kk : zG X p l e R s m args below meth c nL σ0 loc0 Q cells slots σ (pc + 2) L (aI x :: st)) : zG X p l e R s m args below meth c nL σ0 loc0 Q cells slots σ pc L st := fun loc H locs ls hI => lv_iload C.x C.b hd (hI.gt hl) (kk loc H locs ls (hI.sk (fun h => zl_cp h)))
theorem z_aload_n (C : zC X p l s m args meth c cc nL own) {k : Fin 4} {i : Nat} {q : zK} (hd : decode cc pc = .ok (.aload_n k, 1)) (hi : (k : Nat) = i) (hl : zl L i = some (.inr q)) (kk : zG X p l e R s m args below meth c nL σ0 loc0 Q cells slots σ (pc + 1) L (.inr q :: st)) : zG X p l e R s m args below meth c nL σ0 loc0 Q cells slots σ pc L st := fun loc H locs ls hI => lv_aload_n C.x C.b hd hi (hI.gt hl) (kk loc H locs ls (hI.sk (fun h => zl_cn (hI.lat hl).1 h)))
theorem z_aload (C : zC X p l s m args meth c cc nL own) {i : Nat} {q : zK} (hd : decode cc pc = .ok (.aload i, 2)) (hl : zl L i = some (.inr q)) (kk : zG X p l e R s m args below meth c nL σ0 loc0 Q cells slots σ (pc + 2) L (.inr q :: st)) : zG X p l e R s m args below meth c nL σ0 loc0 Q cells slots σ pc L st := fun loc H locs ls hI => lv_aload C.x C.b hd (hI.gt hl) (kk loc H locs ls (hI.sk (fun h => zl_cn (hI.lat hl).1 h)))
theorem z_aload_nN (C : zC X p l s m args meth c cc nL own) {k : Fin 4} {i : Nat} (hd : decode cc pc = .ok (.aload_n k, 1)) (hi : (k : Nat) = i) (hl : zl L i = some aN) (kk : zG X p l e R s m args below meth c nL σ0 loc0 Q cells slots σ (pc + 1) L (aN :: st)) : zG X p l e R s m args below meth c nL σ0 loc0 Q cells slots σ pc L st := fun loc H locs ls hI => lv_aload_nN C.x C.b hd hi (hI.gt hl) (kk loc H locs ls (hI.sk (fun h => zl_cp h)))
theorem z_aloadN (C : zC X p l s m args meth c cc nL own) {i : Nat} (hd : decode cc pc = .ok (.aload i, 2)) (hl : zl L i = some aN) (kk : zG X p l e R s m args below meth c nL σ0 loc0 Q cells slots σ (pc + 2) L (aN :: st)) : zG X p l e R s m args below meth c nL σ0 loc0 Q cells slots σ pc L st := fun loc H locs ls hI => lv_aloadN C.x C.b hd (hI.gt hl) (kk loc H locs ls (hI.sk (fun h => zl_cp h)))
theorem z_aload_nO (C : zC X p l s m args meth c cc nL own) {k : Fin 4} {i : Nat} {o : Option zK} (hd : decode cc pc = .ok (.aload_n k, 1)) (hi : (k : Nat) = i) (hl : zl L i = some (aO o)) (kk : zG X p l e R s m args below meth c nL σ0 loc0 Q cells slots σ (pc + 1) L (aO o :: st)) : zG X p l e R s m args below meth c nL σ0 loc0 Q cells slots σ pc L st := by
  cases o with
  | none => exact z_aload_nN C hd hi hl kk
  | some q => exact z_aload_n C hd hi hl kk
theorem z_aloadO (C : zC X p l s m args meth c cc nL own) {i : Nat} {o : Option zK} (hd : decode cc pc = .ok (.aload i, 2)) (hl : zl L i = some (aO o)) (kk : zG X p l e R s m args below meth c nL σ0 loc0 Q cells slots σ (pc + 2) L (aO o :: st)) : zG X p l e R s m args below meth c nL σ0 loc0 Q cells slots σ pc L st := by
  cases o with
  | none => exact z_aloadN C hd hl kk
  | some q => exact z_aload C hd hl kk
theorem z_istore_n (C : zC X p l s m args meth c cc nL own) {k : Fin 4} {i : Nat} {x : Int32} (hd : decode cc pc = .ok (.istore_n k, 1)) (hi : (k : Nat) = i) (hn : i < nL) (kk : zG X p l e R s m args below meth c nL σ0 loc0 Q cells slots σ (pc + 1) (zst L i (aI x)) st) : zG X p l e R s m args below meth c nL σ0 loc0 Q cells slots σ pc L (aI x :: st) := fun loc H locs ls hI => lv_istore_n C.x C.b hd hi hI.2.2.2.2.2 hn (zcL_st loc (fun q hq => (hI.2.2.1 q hq).2) i (aI x)) (fun ls' h' => kk loc H locs ls' ((hI.sk zl_tl).sto (v := aI x) ⟨trivial, rfl⟩ h'))
theorem z_istore (C : zC X p l s m args meth c cc nL own) {i : Nat} {x : Int32} (hd : decode cc pc = .ok (.istore i, 2)) (hn : i < nL) (kk : zG X p l e R s m args below meth c nL σ0 loc0 Q cells slots σ (pc + 2) (zst L i (aI x)) st) : zG X p l e R s m args below meth c nL σ0 loc0 Q cells slots σ pc L (aI x :: st) := fun loc H locs ls hI => lv_istore C.x C.b hd hI.2.2.2.2.2 hn (zcL_st loc (fun q hq => (hI.2.2.1 q hq).2) i (aI x)) (fun ls' h' => kk loc H locs ls' ((hI.sk zl_tl).sto (v := aI x) ⟨trivial, rfl⟩ h'))
theorem z_astore_n (C : zC X p l s m args meth c cc nL own) {k : Fin 4} {i : Nat} {q : zK} (hd : decode cc pc = .ok (.astore_n k, 1)) (hi : (k : Nat) = i) (hn : i < nL) (kk : zG X p l e R s m args below meth c nL σ0 loc0 Q cells slots σ (pc + 1) (zst L i (.inr q)) st) : zG X p l e R s m args below meth c nL σ0 loc0 Q cells slots σ pc L (.inr q :: st) := fun loc H locs ls hI => lv_astore_n C.x C.b hd hi hI.2.2.2.2.2 hn (zcL_st loc (fun q hq => (hI.2.2.1 q hq).2) i (.inr q)) (fun ls' h' => kk loc H locs ls' ((hI.sk zl_tl).sto ⟨zl_hd hI.2.2.2.1, trivial⟩ h'))
theorem z_astore (C : zC X p l s m args meth c cc nL own) {i : Nat} {q : zK} (hd : decode cc pc = .ok (.astore i, 2)) (hn : i < nL) (kk : zG X p l e R s m args below meth c nL σ0 loc0 Q cells slots σ (pc + 2) (zst L i (.inr q)) st) : zG X p l e R s m args below meth c nL σ0 loc0 Q cells slots σ pc L (.inr q :: st) := fun loc H locs ls hI => lv_astore C.x C.b hd hI.2.2.2.2.2 hn (zcL_st loc (fun q hq => (hI.2.2.1 q hq).2) i (.inr q)) (fun ls' h' => kk loc H locs ls' ((hI.sk zl_tl).sto ⟨zl_hd hI.2.2.2.1, trivial⟩ h'))
theorem z_astore_nN (C : zC X p l s m args meth c cc nL own) {k : Fin 4} {i : Nat} (hd : decode cc pc = .ok (.astore_n k, 1)) (hi : (k : Nat) = i) (hn : i < nL) (kk : zG X p l e R s m args below meth c nL σ0 loc0 Q cells slots σ (pc + 1) (zst L i aN) st) : zG X p l e R s m args below meth c nL σ0 loc0 Q cells slots σ pc L (aN :: st) := fun loc H locs ls hI => lv_astore_nN C.x C.b hd hi hI.2.2.2.2.2 hn (zcL_st loc (fun q hq => (hI.2.2.1 q hq).2) i aN) (fun ls' h' => kk loc H locs ls' ((hI.sk zl_tl).sto (v := aN) ⟨trivial, rfl⟩ h'))
theorem z_astoreN (C : zC X p l s m args meth c cc nL own) {i : Nat} (hd : decode cc pc = .ok (.astore i, 2)) (hn : i < nL) (kk : zG X p l e R s m args below meth c nL σ0 loc0 Q cells slots σ (pc + 2) (zst L i aN) st) : zG X p l e R s m args below meth c nL σ0 loc0 Q cells slots σ pc L (aN :: st) := fun loc H locs ls hI => lv_astoreN C.x C.b hd hI.2.2.2.2.2 hn (zcL_st loc (fun q hq => (hI.2.2.1 q hq).2) i aN) (fun ls' h' => kk loc H locs ls' ((hI.sk zl_tl).sto (v := aN) ⟨trivial, rfl⟩ h'))
theorem z_astore_nO (C : zC X p l s m args meth c cc nL own) {k : Fin 4} {i : Nat} {o : Option zK} (hd : decode cc pc = .ok (.astore_n k, 1)) (hi : (k : Nat) = i) (hn : i < nL) (kk : zG X p l e R s m args below meth c nL σ0 loc0 Q cells slots σ (pc + 1) (zst L i (aO o)) st) : zG X p l e R s m args below meth c nL σ0 loc0 Q cells slots σ pc L (aO o :: st) := by
  cases o with
  | none => exact z_astore_nN C hd hi hn kk
  | some q => exact z_astore_n C hd hi hn kk
theorem z_astoreO (C : zC X p l s m args meth c cc nL own) {i : Nat} {o : Option zK} (hd : decode cc pc = .ok (.astore i, 2)) (hn : i < nL) (kk : zG X p l e R s m args below meth c nL σ0 loc0 Q cells slots σ (pc + 2) (zst L i (aO o)) st) : zG X p l e R s m args below meth c nL σ0 loc0 Q cells slots σ pc L (aO o :: st) := by
  cases o with
  | none => exact z_astoreN C hd hn kk
  | some q => exact z_astore C hd hn kk
theorem z_iinc (C : zC X p l s m args meth c cc nL own) {i : Nat} {n : Int} {x : Int32} (hd : decode cc pc = .ok (.iinc i n, 3)) (hn : i < nL) (hl : zl L i = some (aI x)) {v : Int32} (hv : x + Int32.ofInt n = v) (kk : zG X p l e R s m args below meth c nL σ0 loc0 Q cells slots σ (pc + 3) (zst L i (aI v)) st) : zG X p l e R s m args below meth c nL σ0 loc0 Q cells slots σ pc L st := fun loc H locs ls hI => by
  obtain ⟨k, hk⟩ := List.getElem?_of_mem (show (i, Value.int x) ∈ zcL loc L from List.mem_map.mpr ⟨(i, aI x), zl_mem hl, rfl⟩)
  exact lv_iinc C.x C.b hd hI.2.2.2.2.2 hk hv hn (zcL_st loc (fun q hq => (hI.2.2.1 q hq).2) i (aI v)) (fun ls' h' => kk loc H locs ls' (hI.sto (v := aI v) ⟨trivial, rfl⟩ h'))
-- the stack, numbers
theorem z_dup (C : zC X p l s m args meth c cc nL own) {a : zV} (ha : zcat a) (hd : decode cc pc = .ok (.dup, 1)) (kk : zG X p l e R s m args below meth c nL σ0 loc0 Q cells slots σ (pc + 1) L (a :: a :: st)) : zG X p l e R s m args below meth c nL σ0 loc0 Q cells slots σ pc L (a :: st) := z_go (fun h => zl_cn (zl_hd h) h) (fun _ _ _ _ k => lv_dup C.x C.b hd (zcat_cv ha) k) kk
theorem z_dup2 (C : zC X p l s m args meth c cc nL own) {a b : zV} (ha : zcat a) (hb : zcat b) (hd : decode cc pc = .ok (.dup2, 1)) (kk : zG X p l e R s m args below meth c nL σ0 loc0 Q cells slots σ (pc + 1) L (a :: b :: a :: b :: st)) : zG X p l e R s m args below meth c nL σ0 loc0 Q cells slots σ pc L (a :: b :: st) := z_go (fun h => zl_cn (zl_hd h) (zl_cn (zl_hd (zl_tl h)) h)) (fun _ _ _ _ k => lv_dup2_11 C.x C.b hd (zcat_cv ha) (zcat_cv hb) k) kk
theorem z_dup_x1 (C : zC X p l s m args meth c cc nL own) {a b : zV} (ha : zcat a) (hb : zcat b) (hd : decode cc pc = .ok (.dup_x1, 1)) (kk : zG X p l e R s m args below meth c nL σ0 loc0 Q cells slots σ (pc + 1) L (a :: b :: a :: st)) : zG X p l e R s m args below meth c nL σ0 loc0 Q cells slots σ pc L (a :: b :: st) := z_go (fun h => zl_cn (zl_hd h) (zl_cn (zl_hd (zl_tl h)) (zl_cn (zl_hd h) (zl_tl2 h)))) (fun _ _ _ _ k => lv_dup_x1 C.x C.b hd (zcat_cv ha) (zcat_cv hb) k) kk
theorem z_pop (C : zC X p l s m args meth c cc nL own) {a : zV} (ha : zcat a) (hd : decode cc pc = .ok (.pop, 1)) (kk : zG X p l e R s m args below meth c nL σ0 loc0 Q cells slots σ (pc + 1) L st) : zG X p l e R s m args below meth c nL σ0 loc0 Q cells slots σ pc L (a :: st) := z_go zl_tl (fun _ _ _ _ k => lv_pop C.x C.b hd (zcat_cv ha) k) kk
theorem z_iadd (C : zC X p l s m args meth c cc nL own) {x y : Int32} (hd : decode cc pc = .ok (.iadd, 1)) (kk : zG X p l e R s m args below meth c nL σ0 loc0 Q cells slots σ (pc + 1) L (aI (x + y) :: st)) : zG X p l e R s m args below meth c nL σ0 loc0 Q cells slots σ pc L (aI y :: aI x :: st) := z_go (fun h => zl_cp (zl_tl2 h)) (fun _ _ _ _ k => lv_iadd C.x C.b hd k) kk
theorem z_isub (C : zC X p l s m args meth c cc nL own) {x y : Int32} (hd : decode cc pc = .ok (.isub, 1)) (kk : zG X p l e R s m args below meth c nL σ0 loc0 Q cells slots σ (pc + 1) L (aI (x - y) :: st)) : zG X p l e R s m args below meth c nL σ0 loc0 Q cells slots σ pc L (aI y :: aI x :: st) := z_go (fun h => zl_cp (zl_tl2 h)) (fun _ _ _ _ k => lv_isub C.x C.b hd k) kk
theorem z_imul (C : zC X p l s m args meth c cc nL own) {x y : Int32} (hd : decode cc pc = .ok (.imul, 1)) (kk : zG X p l e R s m args below meth c nL σ0 loc0 Q cells slots σ (pc + 1) L (aI (x * y) :: st)) : zG X p l e R s m args below meth c nL σ0 loc0 Q cells slots σ pc L (aI y :: aI x :: st) := z_go (fun h => zl_cp (zl_tl2 h)) (fun _ _ _ _ k => lv_imul C.x C.b hd k) kk
theorem z_idiv (C : zC X p l s m args meth c cc nL own) {x y : Int32} (hd : decode cc pc = .ok (.idiv, 1)) (hne : ¬ y = 0) (kk : zG X p l e R s m args below meth c nL σ0 loc0 Q cells slots σ (pc + 1) L (aI (x / y) :: st)) : zG X p l e R s m args below meth c nL σ0 loc0 Q cells slots σ pc L (aI y :: aI x :: st) := z_go (fun h => zl_cp (zl_tl2 h)) (fun _ _ _ _ k => lv_idiv C.x C.b hd hne k) kk
theorem z_ineg (C : zC X p l s m args meth c cc nL own) {x : Int32} (hd : decode cc pc = .ok (.ineg, 1)) (kk : zG X p l e R s m args below meth c nL σ0 loc0 Q cells slots σ (pc + 1) L (aI (-x) :: st)) : zG X p l e R s m args below meth c nL σ0 loc0 Q cells slots σ pc L (aI x :: st) := z_go (fun h => zl_cp (zl_tl h)) (fun _ _ _ _ k => lv_ineg C.x C.b hd k) kk
theorem z_iand (C : zC X p l s m args meth c cc nL own) {x y : Int32} (hd : decode cc pc = .ok (.iand, 1)) (kk : zG X p l e R s m args below meth c nL σ0 loc0 Q cells slots σ (pc + 1) L (aI (x &&& y) :: st)) : zG X p l e R s m args below meth c nL σ0 loc0 Q cells slots σ pc L (aI y :: aI x :: st) := z_go (fun h => zl_cp (zl_tl2 h)) (fun _ _ _ _ k => lv_iand C.x C.b hd k) kk
theorem z_ior (C : zC X p l s m args meth c cc nL own) {x y : Int32} (hd : decode cc pc = .ok (.ior, 1)) (kk : zG X p l e R s m args below meth c nL σ0 loc0 Q cells slots σ (pc + 1) L (aI (x ||| y) :: st)) : zG X p l e R s m args below meth c nL σ0 loc0 Q cells slots σ pc L (aI y :: aI x :: st) := z_go (fun h => zl_cp (zl_tl2 h)) (fun _ _ _ _ k => lv_ior C.x C.b hd k) kk
theorem z_ishr (C : zC X p l s m args meth c cc nL own) {x y : Int32} (hd : decode cc pc = .ok (.ishr, 1)) (kk : zG X p l e R s m args below meth c nL σ0 loc0 Q cells slots σ (pc + 1) L (aI (x >>> (y &&& 31)) :: st)) : zG X p l e R s m args below meth c nL σ0 loc0 Q cells slots σ pc L (aI y :: aI x :: st) := z_go (fun h => zl_cp (zl_tl2 h)) (fun _ _ _ _ k => lv_ishr C.x C.b hd k) kk
theorem z_i2l (C : zC X p l s m args meth c cc nL own) {x : Int32} (hd : decode cc pc = .ok (.i2l, 1)) (kk : zG X p l e R s m args below meth c nL σ0 loc0 Q cells slots σ (pc + 1) L (aL x.toInt64 :: st)) : zG X p l e R s m args below meth c nL σ0 loc0 Q cells slots σ pc L (aI x :: st) := z_go (fun h => zl_cp (zl_tl h)) (fun _ _ _ _ k => lv_i2l C.x C.b hd rfl k) kk
-- branches
theorem z_if_eq (C : zC X p l s m args meth c cc nL own) {x : Int32} {off : Int} {tgt : Nat} (hd : decode cc pc = .ok (.ifCond .eq off, 3)) (ht : (pc : Int) + off = (tgt : Int)) (kt : x = 0 → zG X p l e R s m args below meth c nL σ0 loc0 Q cells slots σ tgt L st) (kf : ¬ x = 0 → zG X p l e R s m args below meth c nL σ0 loc0 Q cells slots σ (pc + 3) L st) : zG X p l e R s m args below meth c nL σ0 loc0 Q cells slots σ pc L (aI x :: st) := fun loc H locs ls hI => lv_if_eq C.x C.b hd ht (fun h => kt h loc H locs ls (hI.sk zl_tl)) (fun h => kf h loc H locs ls (hI.sk zl_tl))
theorem z_if_ne (C : zC X p l s m args meth c cc nL own) {x : Int32} {off : Int} {tgt : Nat} (hd : decode cc pc = .ok (.ifCond .ne off, 3)) (ht : (pc : Int) + off = (tgt : Int)) (kt : ¬ x = 0 → zG X p l e R s m args below meth c nL σ0 loc0 Q cells slots σ tgt L st) (kf : x = 0 → zG X p l e R s m args below meth c nL σ0 loc0 Q cells slots σ (pc + 3) L st) : zG X p l e R s m args below meth c nL σ0 loc0 Q cells slots σ pc L (aI x :: st) := fun loc H locs ls hI => lv_if_ne C.x C.b hd ht (fun h => kt h loc H locs ls (hI.sk zl_tl)) (fun h => kf h loc H locs ls (hI.sk zl_tl))
theorem z_if_lt (C : zC X p l s m args meth c cc nL own) {x : Int32} {off : Int} {tgt : Nat} (hd : decode cc pc = .ok (.ifCond .lt off, 3)) (ht : (pc : Int) + off = (tgt : Int)) (kt : x < 0 → zG X p l e R s m args below meth c nL σ0 loc0 Q cells slots σ tgt L st) (kf : ¬ x < 0 → zG X p l e R s m args below meth c nL σ0 loc0 Q cells slots σ (pc + 3) L st) : zG X p l e R s m args below meth c nL σ0 loc0 Q cells slots σ pc L (aI x :: st) := fun loc H locs ls hI => lv_if_lt C.x C.b hd ht (fun h => kt h loc H locs ls (hI.sk zl_tl)) (fun h => kf h loc H locs ls (hI.sk zl_tl))
theorem z_if_ge (C : zC X p l s m args meth c cc nL own) {x : Int32} {off : Int} {tgt : Nat} (hd : decode cc pc = .ok (.ifCond .ge off, 3)) (ht : (pc : Int) + off = (tgt : Int)) (kt : 0 ≤ x → zG X p l e R s m args below meth c nL σ0 loc0 Q cells slots σ tgt L st) (kf : ¬ 0 ≤ x → zG X p l e R s m args below meth c nL σ0 loc0 Q cells slots σ (pc + 3) L st) : zG X p l e R s m args below meth c nL σ0 loc0 Q cells slots σ pc L (aI x :: st) := fun loc H locs ls hI => lv_if_ge C.x C.b hd ht (fun h => kt h loc H locs ls (hI.sk zl_tl)) (fun h => kf h loc H locs ls (hI.sk zl_tl))
theorem z_if_gt (C : zC X p l s m args meth c cc nL own) {x : Int32} {off : Int} {tgt : Nat} (hd : decode cc pc = .ok (.ifCond .gt off, 3)) (ht : (pc : Int) + off = (tgt : Int)) (kt : 0 < x → zG X p l e R s m args below meth c nL σ0 loc0 Q cells slots σ tgt L st) (kf : ¬ 0 < x → zG X p l e R s m args below meth c nL σ0 loc0 Q cells slots σ (pc + 3) L st) : zG X p l e R s m args below meth c nL σ0 loc0 Q cells slots σ pc L (aI x :: st) := fun loc H locs ls hI => lv_if_gt C.x C.b hd ht (fun h => kt h loc H locs ls (hI.sk zl_tl)) (fun h => kf h loc H locs ls (hI.sk zl_tl))
theorem z_if_le (C : zC X p l s m args meth c cc nL own) {x : Int32} {off : Int} {tgt : Nat} (hd : decode cc pc = .ok (.ifCond .le off, 3)) (ht : (pc : Int) + off = (tgt : Int)) (kt : x ≤ 0 → zG X p l e R s m args below meth c nL σ0 loc0 Q cells slots σ tgt L st) (kf : ¬ x ≤ 0 → zG X p l e R s m args below meth c nL σ0 loc0 Q cells slots σ (pc + 3) L st) : zG X p l e R s m args below meth c nL σ0 loc0 Q cells slots σ pc L (aI x :: st) := fun loc H locs ls hI => lv_if_le C.x C.b hd ht (fun h => kt h loc H locs ls (hI.sk zl_tl)) (fun h => kf h loc H locs ls (hI.sk zl_tl))
theorem z_icmp_eq (C : zC X p l s m args meth c cc nL own) {x y : Int32} {off : Int} {tgt : Nat} (hd : decode cc pc = .ok (.if_icmp .eq off, 3)) (ht : (pc : Int) + off = (tgt : Int)) (kt : x = y → zG X p l e R s m args below meth c nL σ0 loc0 Q cells slots σ tgt L st) (kf : ¬ x = y → zG X p l e R s m args below meth c nL σ0 loc0 Q cells slots σ (pc + 3) L st) : zG X p l e R s m args below meth c nL σ0 loc0 Q cells slots σ pc L (aI y :: aI x :: st) := fun loc H locs ls hI => lv_icmp_eq C.x C.b hd ht (fun h => kt h loc H locs ls (hI.sk zl_tl2)) (fun h => kf h loc H locs ls (hI.sk zl_tl2))
theorem z_icmp_ne (C : zC X p l s m args meth c cc nL own) {x y : Int32} {off : Int} {tgt : Nat} (hd : decode cc pc = .ok (.if_icmp .ne off, 3)) (ht : (pc : Int) + off = (tgt : Int)) (kt : ¬ x = y → zG X p l e R s m args below meth c nL σ0 loc0 Q cells slots σ tgt L st) (kf : x = y → zG X p l e R s m args below meth c nL σ0 loc0 Q cells slots σ (pc + 3) L st) : zG X p l e R s m args below meth c nL σ0 loc0 Q cells slots σ pc L (aI y :: aI x :: st) := fun loc H locs ls hI => lv_icmp_ne C.x C.b hd ht (fun h => kt h loc H locs ls (hI.sk zl_tl2)) (fun h => kf h loc H locs ls (hI.sk zl_tl2))
theorem z_icmp_lt (C : zC X p l s m args meth c cc nL own) {x y : Int32} {off : Int} {tgt : Nat} (hd : decode cc pc = .ok (.if_icmp .lt off, 3)) (ht : (pc : Int) + off = (tgt : Int)) (kt : x < y → zG X p l e R s m args below meth c nL σ0 loc0 Q cells slots σ tgt L st) (kf : ¬ x < y → zG X p l e R s m args below meth c nL σ0 loc0 Q cells slots σ (pc + 3) L st) : zG X p l e R s m args below meth c nL σ0 loc0 Q cells slots σ pc L (aI y :: aI x :: st) := fun loc H locs ls hI => lv_icmp_lt C.x C.b hd ht (fun h => kt h loc H locs ls (hI.sk zl_tl2)) (fun h => kf h loc H locs ls (hI.sk zl_tl2))
theorem z_icmp_ge (C : zC X p l s m args meth c cc nL own) {x y : Int32} {off : Int} {tgt : Nat} (hd : decode cc pc = .ok (.if_icmp .ge off, 3)) (ht : (pc : Int) + off = (tgt : Int)) (kt : y ≤ x → zG X p l e R s m args below meth c nL σ0 loc0 Q cells slots σ tgt L st) (kf : ¬ y ≤ x → zG X p l e R s m args below meth c nL σ0 loc0 Q cells slots σ (pc + 3) L st) : zG X p l e R s m args below meth c nL σ0 loc0 Q cells slots σ pc L (aI y :: aI x :: st) := fun loc H locs ls hI => lv_icmp_ge C.x C.b hd ht (fun h => kt h loc H locs ls (hI.sk zl_tl2)) (fun h => kf h loc H locs ls (hI.sk zl_tl2))
theorem z_icmp_gt (C : zC X p l s m args meth c cc nL own) {x y : Int32} {off : Int} {tgt : Nat} (hd : decode cc pc = .ok (.if_icmp .gt off, 3)) (ht : (pc : Int) + off = (tgt : Int)) (kt : y < x → zG X p l e R s m args below meth c nL σ0 loc0 Q cells slots σ tgt L st) (kf : ¬ y < x → zG X p l e R s m args below meth c nL σ0 loc0 Q cells slots σ (pc + 3) L st) : zG X p l e R s m args below meth c nL σ0 loc0 Q cells slots σ pc L (aI y :: aI x :: st) := fun loc H locs ls hI => lv_icmp_gt C.x C.b hd ht (fun h => kt h loc H locs ls (hI.sk zl_tl2)) (fun h => kf h loc H locs ls (hI.sk zl_tl2))
theorem z_icmp_le (C : zC X p l s m args meth c cc nL own) {x y : Int32} {off : Int} {tgt : Nat} (hd : decode cc pc = .ok (.if_icmp .le off, 3)) (ht : (pc : Int) + off = (tgt : Int)) (kt : x ≤ y → zG X p l e R s m args below meth c nL σ0 loc0 Q cells slots σ tgt L st) (kf : ¬ x ≤ y → zG X p l e R s m args below meth c nL σ0 loc0 Q cells slots σ (pc + 3) L st) : zG X p l e R s m args below meth c nL σ0 loc0 Q cells slots σ pc L (aI y :: aI x :: st) := fun loc H locs ls hI => lv_icmp_le C.x C.b hd ht (fun h => kt h loc H locs ls (hI.sk zl_tl2)) (fun h => kf h loc H locs ls (hI.sk zl_tl2))
/-- truth values -/
def zb (b : Bool) : Int32 := cond b 1 0
theorem zb_t : ¬ zb true = 0 := by decide
theorem zb_eq0 {b : Bool} : zb b = 0 ↔ b = false := by cases b <;> decide
theorem zb_cv {b : Bool} : ¬ zb b = 0 ↔ b = true := by cases b <;> decide
theorem z_if_eqB (C : zC X p l s m args meth c cc nL own) {b : Bool} {off : Int} {tgt : Nat} (hd : decode cc pc = .ok (.ifCond .eq off, 3)) (ht : (pc : Int) + off = (tgt : Int)) (kt : b = false → zG X p l e R s m args below meth c nL σ0 loc0 Q cells slots σ tgt L st) (kf : b = true → zG X p l e R s m args below meth c nL σ0 loc0 Q cells slots σ (pc + 3) L st) : zG X p l e R s m args below meth c nL σ0 loc0 Q cells slots σ pc L (aI (zb b) :: st) := z_if_eq C hd ht (fun h => kt (zb_eq0.mp h)) (fun h => kf (zb_cv.mp h))
theorem z_if_neB (C : zC X p l s m args meth c cc nL own) {b : Bool} {off : Int} {tgt : Nat} (hd : decode cc pc = .ok (.ifCond .ne off, 3)) (ht : (pc : Int) + off = (tgt : Int)) (kt : b = true → zG X p l e R s m args below meth c nL σ0 loc0 Q cells slots σ tgt L st) (kf : b = false → zG X p l e R s m args below meth c nL σ0 loc0 Q cells slots σ (pc + 3) L st) : zG X p l e R s m args below meth c nL σ0 loc0 Q cells slots σ pc L (aI (zb b) :: st) := z_if_ne C hd ht (fun h => kt (zb_cv.mp h)) (fun h => kf (zb_eq0.mp h))
theorem z_goto (C : zC X p l s m args meth c cc nL own) {off : Int} {tgt : Nat} (hd : decode cc pc = .ok (.goto off, 3)) (ht : (pc : Int) + off = (tgt : Int)) (kk : zG X p l e R s m args below meth c nL σ0 loc0 Q cells slots σ tgt L st) : zG X p l e R s m args below meth c nL σ0 loc0 Q cells slots σ pc L st := z_go (fun h => h) (fun _ _ _ _ k => lv_goto C.x C.b hd ht k) kk
theorem z_ifnull (C : zC X p l s m args meth c cc nL own) {o : Option zK} {off : Int} {tgt : Nat} (hd : decode cc pc = .ok (.ifnull off, 3)) (ht : (pc : Int) + off = (tgt : Int)) (kt : o = none → zG X p l e R s m args below meth c nL σ0 loc0 Q cells slots σ tgt L st) (kf : ∀ q, o = some q → zG X p l e R s m args below meth c nL σ0 loc0 Q cells slots σ (pc + 3) L st) : zG X p l e R s m args below meth c nL σ0 loc0 Q cells slots σ pc L (aO o :: st) := fun loc H locs ls hI => by
  cases o with
  | none => exact lv_ifnullN C.x C.b hd ht (kt rfl loc H locs ls (hI.sk zl_tl))
  | some q => exact lv_ifnull C.x C.b hd (kf q rfl loc H locs ls (hI.sk zl_tl))
theorem z_ifnonnull (C : zC X p l s m args meth c cc nL own) {o : Option zK} {off : Int} {tgt : Nat} (hd : decode cc pc = .ok (.ifnonnull off, 3)) (ht : (pc : Int) + off = (tgt : Int)) (kt : ∀ q, o = some q → zG X p l e R s m args below meth c nL σ0 loc0 Q cells slots σ tgt L st) (kf : o = none → zG X p l e R s m args below meth c nL σ0 loc0 Q cells slots σ (pc + 3) L st) : zG X p l e R s m args below meth c nL σ0 loc0 Q cells slots σ pc L (aO o :: st) := fun loc H locs ls hI => by
  cases o with
  | none => exact lv_ifnonnullN C.x C.b hd (kf rfl loc H locs ls (hI.sk zl_tl))
  | some q => exact lv_ifnonnull C.x C.b hd ht (kt q rfl loc H locs ls (hI.sk zl_tl))
theorem zI.eq (h : zI X s nL σ0 loc0 σ L st loc H locs ls) {q r : zK} (hq : σ q.1 q.2 ≠ none) (hr : σ r.1 r.2 ≠ none) : loc q = loc r ↔ q = r := by
  refine ⟨fun e => ?_, fun e => by rw [e]⟩
  cases h1 : σ q.1 q.2 with
  | none => exact absurd h1 hq
  | some c1 =>
    cases h2 : σ r.1 r.2 with
    | none => exact absurd h2 hr
    | some c2 =>
      obtain ⟨e1, e2⟩ := h.1.2.2.2.1 q.1 q.2 r.1 r.2 c1 c2 h1 h2 e
      exact Prod.ext e1 e2
theorem z_rf {a : zV} {o : Option zK} (h : a = aO o) (loc : zK → Nat) : zcv loc a = va_rf (o.map loc) := by
  subst h
  cases o <;> rfl
theorem z_acmp_eq (C : zC X p l s m args meth c cc nL own) {o o' : Option zK} {off : Int} {tgt : Nat} (hd : decode cc pc = .ok (.if_acmp .eq off, 3)) (ht : (pc : Int) + off = (tgt : Int)) (kt : o = o' → zG X p l e R s m args below meth c nL σ0 loc0 Q cells slots σ tgt L st) (kf : ¬ o = o' → zG X p l e R s m args below meth c nL σ0 loc0 Q cells slots σ (pc + 3) L st) : zG X p l e R s m args below meth c nL σ0 loc0 Q cells slots σ pc L (aO o' :: aO o :: st) := fun loc H locs ls hI => by
  have k : W p l e R s m args below meth c H locs cells slots Q (F0 m pc ls (va_rf (o'.map loc) :: va_rf (o.map loc) :: st.map (zcv loc))) := by
    refine lv_acmp_eq C.x C.b hd ht (fun h => kt ?_ loc H locs ls (hI.sk zl_tl2)) (fun h => kf (fun e => h (by rw [e])) loc H locs ls (hI.sk zl_tl2))
    cases o with
    | none => cases o' with
      | none => rfl
      | some q => cases h
    | some q => cases o' with
      | none => cases h
      | some r => rw [(hI.eq (zl_hd (zl_tl hI.2.2.2.1)) (zl_hd hI.2.2.2.1)).mp (Option.some.inj h)]
  rw [← z_rf rfl loc, ← z_rf rfl loc] at k
  exact k
theorem z_acmp_ne (C : zC X p l s m args meth c cc nL own) {o o' : Option zK} {off : Int} {tgt : Nat} (hd : decode cc pc = .ok (.if_acmp .ne off, 3)) (ht : (pc : Int) + off = (tgt : Int)) (kt : ¬ o = o' → zG X p l e R s m args below meth c nL σ0 loc0 Q cells slots σ tgt L st) (kf : o = o' → zG X p l e R s m args below meth c nL σ0 loc0 Q cells slots σ (pc + 3) L st) : zG X p l e R s m args below meth c nL σ0 loc0 Q cells slots σ pc L (aO o' :: aO o :: st) := fun loc H locs ls hI => by
  have k : W p l e R s m args below meth c H locs cells slots Q (F0 m pc ls (va_rf (o'.map loc) :: va_rf (o.map loc) :: st.map (zcv loc))) := by
    refine lv_acmp_ne C.x C.b hd ht (fun h => kt (fun e => h (by rw [e])) loc H locs ls (hI.sk zl_tl2)) (fun h => kf ?_ loc H locs ls (hI.sk zl_tl2))
    cases o with
    | none => cases o' with
      | none => rfl
      | some q => cases h
    | some q => cases o' with
      | none => cases h
      | some r => rw [(hI.eq (zl_hd (zl_tl hI.2.2.2.1)) (zl_hd hI.2.2.2.1)).mp (Option.some.inj h)]
  rw [← z_rf rfl loc, ← z_rf rfl loc] at k
  exact k
theorem z_lcmp (C : zC X p l s m args meth c cc nL own) {x y : Int64} (hd : decode cc pc = .ok (.lcmp, 1)) (kk : zG X p l e R s m args below meth c nL σ0 loc0 Q cells slots σ (pc + 1) L (aI (lg_cmp x y) :: st)) : zG X p l e R s m args below meth c nL σ0 loc0 Q cells slots σ pc L (aL y :: aL x :: st) := z_go (fun h => zl_cp (zl_tl2 h)) (fun _ _ _ _ k => W.lcmp C.x C.b hd k) kk
theorem z_tableIn (C : zC X p l s m args meth c cc nL own) {dflt lo hi : Int} {offs : Array Int} {len : Nat} {x : Int32} {off : Int} {tgt : Nat} (hd : decode cc pc = .ok (.tableswitch dflt lo hi offs, len)) (h1 : ¬ x.toInt < lo) (h2 : ¬ hi < x.toInt) (ho : offs[(x.toInt - lo).toNat]? = some off) (ht : (pc : Int) + off = (tgt : Int)) (kk : zG X p l e R s m args below meth c nL σ0 loc0 Q cells slots σ tgt L st) : zG X p l e R s m args below meth c nL σ0 loc0 Q cells slots σ pc L (aI x :: st) := z_go zl_tl (fun _ _ _ _ k => lv_tableIn C.x C.b hd h1 h2 ho ht k) kk
theorem z_tableOut (C : zC X p l s m args meth c cc nL own) {dflt lo hi : Int} {offs : Array Int} {len : Nat} {x : Int32} {tgt : Nat} (hd : decode cc pc = .ok (.tableswitch dflt lo hi offs, len)) (h : x.toInt < lo ∨ hi < x.toInt) (ht : (pc : Int) + dflt = (tgt : Int)) (kk : zG X p l e R s m args below meth c nL σ0 loc0 Q cells slots σ tgt L st) : zG X p l e R s m args below meth c nL σ0 loc0 Q cells slots σ pc L (aI x :: st) := z_go zl_tl (fun _ _ _ _ k => lv_tableOut C.x C.b hd h ht k) kk
theorem z_wd {k n : Nat} (h1 : cells ≤ k) (h2 : slots ≤ n) (kk : zG X p l e R s m args below meth c nL σ0 loc0 Q k n σ pc L st) : zG X p l e R s m args below meth c nL σ0 loc0 Q cells slots σ pc L st := fun loc H locs ls hI => W.widen h1 h2 (kk loc H locs ls hI)
-- fields: the link at 'index' of class own is the field j of the class ci of the table
def zFl (own : String) (index ci j : Nat) : Prop := ∃ (C ref : String) (T : u_T) (N : Nat), vwCl[ci]? = some (C, T, N) ∧ j < N ∧ Cond.fieldLink own index ref (T j).2.1 (T j).2.2.1 ∈ zT ∧ (∀ w ∈ u_ws C T N, w ∈ zT) ∧ (ref = (T j).1 ∨ Cond.sameField ref (T j).1 (T j).2.1 (T j).2.2.1 ∈ zT)
theorem zP1 {D : va_G} {cl : List vw_C} {q : Nat × va_E} {H : Heap} (h : va_at D cl q H) : va_P D cl [q] H := by
  intro k x hx
  cases k with
  | zero => cases hx; exact h
  | succ k => cases hx
theorem zC.same (C : zC X p l s m args meth c cc nL own) {ref o n d : String} (h : ref = o ∨ Cond.sameField ref o n d ∈ zT) : ∀ x, s.fieldFound? o n d = some x → s.fieldFound? ref n d = some x := by
  rcases h with h | h
  · intro x hx
    rw [h]; exact hx
  · exact fun x hx => u_same (C.ts _ h) x hx
theorem zI.cell (h : zI X s nL σ0 loc0 σ L st loc H locs ls) {k i : Nat} {x : zCell} (hσ : σ k i = some x) (hk : k < 90) : va_at X.1 vwCl (loc (k, i), zcc X loc x) H := by
  rcases (h.1.2.2.1 k i x hσ).1 with g | g | g
  · exact g.2.1
  · omega
  · omega
theorem zI.cellO (h : zI X s nL σ0 loc0 σ L st loc H locs ls) {k i ci : Nat} {fs : List zV} (hσ : σ k i = some (oC ci fs)) : va_at X.1 vwCl (loc (k, i), zcc X loc (oC ci fs)) H := by
  rcases (h.1.2.2.1 k i _ hσ).1 with g | ⟨rfl, rfl⟩ | ⟨rfl, rfl⟩
  · exact g.2.1
  · cases hσ.symm.trans h.1.2.2.2.2.2.2.1
  · cases hσ.symm.trans h.1.2.2.2.2.2.2.2
theorem zI.cellL (h : zI X s nL σ0 loc0 σ L st loc H locs ls) {k i n : Nat} {f : Nat → Int64} (hσ : σ k i = some (lC n f)) : va_at X.1 vwCl (loc (k, i), zcc X loc (lC n f)) H := by
  rcases (h.1.2.2.1 k i _ hσ).1 with g | ⟨rfl, rfl⟩ | ⟨rfl, rfl⟩
  · exact g.2.1
  · cases hσ.symm.trans h.1.2.2.2.2.2.2.1
  · cases hσ.symm.trans h.1.2.2.2.2.2.2.2
theorem zC.wts (C : zC X p l s m args meth c cc nL own) : va_T .int X.2.2.2.2.1 6 (fun j => .int (zWts j)) (zA X) s s.heap := (C.S.2.2.2.2.2.2.2.2.1.2.1).kept (fun a h1 _ => C.2.2.2.2.2.2.2.2.2 a h1)
theorem zC.emp (C : zC X p l s m args meth c cc nL own) : va_T (.object "java/lang/Object") X.2.2.2.1 0 (fun _ => .null) (zA X) s s.heap := (C.S.2.2.2.2.2.2.2.2.1.2.2).kept (fun a h1 _ => C.2.2.2.2.2.2.2.2.2 a h1)
theorem zI.clo (h : zI X s nL σ0 loc0 σ L st loc H locs ls) {k i : Nat} {x : zCell} (hσ : σ k i = some x) : zcl σ x := (h.1.2.2.1 k i x hσ).2.2
theorem z_getf (C : zC X p l s m args meth c cc nL own) {k i ci j idx : Nat} {fs : List zV} {v : zV} (hf : zFl own idx ci j) (hd : decode cc pc = .ok (.getfield idx, 3)) (hσ : σ k i = some (oC ci fs)) (hv : fs[j]? = some v) (kk : zG X p l e R s m args below meth c nL σ0 loc0 Q cells slots σ (pc + 3) L (v :: st)) : zG X p l e R s m args below meth c nL σ0 loc0 Q cells slots σ pc L (aR k i :: st) := fun loc H locs ls hI => by
  obtain ⟨Cn, ref, T, N, hc, hj, hlk, hin, hsm⟩ := hf
  have hv' : (fs.map (zcv loc))[j]? = some (zcv loc v) := by rw [List.getElem?_map, hv]; rfl
  exact va_get C.x C.b C.ts hin C.ow C.K (zP1 (hI.cellO hσ)) 0 rfl hc j hj (C.ts _ hlk) (C.same hsm) hv' hd (kk loc H locs ls (hI.sk (fun h => zl_cn (hI.clo hσ v (List.mem_of_getElem? hv)) (zl_tl h))))
theorem z_iald (C : zC X p l s m args meth c cc nL own) {k i n : Nat} {f : Nat → Int32} {x : Int32} (hd : decode cc pc = .ok (.iaload, 1)) (hσ : σ k i = some (iC n f)) (hin : vp_in x n) (kk : zG X p l e R s m args below meth c nL σ0 loc0 Q cells slots σ (pc + 1) L (aI (f x.toNatClampNeg) :: st)) : zG X p l e R s m args below meth c nL σ0 loc0 Q cells slots σ pc L (aI x :: aR k i :: st) := fun loc H locs ls hI => by
  rcases (hI.1.2.2.1 k i _ hσ).1 with g | ⟨rfl, rfl⟩ | ⟨rfl, rfl⟩
  · exact va_iald C.x C.b C.K (zP1 (hI.cell hσ g.1)) 0 0 rfl rfl hin hd (kk loc H locs ls (hI.sk (fun h => zl_cp (zl_tl2 h))))
  · cases hσ.symm.trans hI.1.2.2.2.2.2.2.1
  · cases hσ.symm.trans hI.1.2.2.2.2.2.2.2
    show W p l e R s m args below meth c H locs cells slots Q (F0 m pc ls (.int x :: .ref (loc (91, 0)) :: st.map (zcv loc)))
    rw [hI.1.2.2.2.2.2.1]
    exact va_ti C.x C.b C.wts hI.2.2.2.2.1 hin rfl hd (kk loc H locs ls (hI.sk (fun h => zl_cp (zl_tl2 h))))
theorem z_aald (C : zC X p l s m args meth c cc nL own) {k i n : Nat} {f : Nat → Option zK} {x : Int32} (hd : decode cc pc = .ok (.aaload, 1)) (hσ : σ k i = some (rC n f)) (hin : vp_in x n) (kk : zG X p l e R s m args below meth c nL σ0 loc0 Q cells slots σ (pc + 1) L (aO (f x.toNatClampNeg) :: st)) : zG X p l e R s m args below meth c nL σ0 loc0 Q cells slots σ pc L (aI x :: aR k i :: st) := fun loc H locs ls hI => by
  have ee : va_rf ((f x.toNatClampNeg).map loc) = zcv loc (aO (f x.toNatClampNeg)) := (z_rf rfl loc).symm
  have hk : k < 90 := by
    rcases (hI.1.2.2.1 k i _ hσ).1 with g | ⟨rfl, rfl⟩ | ⟨rfl, rfl⟩
    · exact g.1
    · cases hσ.symm.trans hI.1.2.2.2.2.2.2.1
      exact (hin (Or.inr (Nat.zero_le _))).elim
    · cases hσ.symm.trans hI.1.2.2.2.2.2.2.2
  refine va_aldq (f := fun j => (f j).map loc) C.x C.b C.K (zP1 (hI.cell hσ hk)) 0 2 rfl rfl hin hd ?_
  show W p l e R s m args below meth c H locs cells slots Q (F0 m (pc + 1) ls (va_rf ((f x.toNatClampNeg).map loc) :: st.map (zcv loc)))
  rw [ee]
  refine kk loc H locs ls (hI.sk (fun h => zl_cn ?_ (zl_tl2 h)))
  cases hq : f x.toNatClampNeg with
  | none => trivial
  | some q => exact hI.clo hσ _ q hq
theorem z_alenA (C : zC X p l s m args meth c cc nL own) {k i n : Nat} {f : Nat → Option zK} (hd : decode cc pc = .ok (.arraylength, 1)) (hσ : σ k i = some (rC n f)) (kk : zG X p l e R s m args below meth c nL σ0 loc0 Q cells slots σ (pc + 1) L (aI (nI n) :: st)) : zG X p l e R s m args below meth c nL σ0 loc0 Q cells slots σ pc L (aR k i :: st) := fun loc H locs ls hI => by
  rcases (hI.1.2.2.1 k i _ hσ).1 with g | ⟨rfl, rfl⟩ | ⟨rfl, rfl⟩
  · exact va_alen C.x C.b C.K (zP1 (hI.cell hσ g.1)) 0 2 rfl rfl rfl hd (kk loc H locs ls (hI.sk (fun h => zl_cp (zl_tl h))))
  · cases hσ.symm.trans hI.1.2.2.2.2.2.2.1
    show W p l e R s m args below meth c H locs cells slots Q (F0 m pc ls (.ref (loc (90, 0)) :: st.map (zcv loc)))
    rw [hI.1.2.2.2.2.1]
    exact va_tlen C.x C.b C.emp hI.2.2.2.2.1 rfl hd (kk loc H locs ls (hI.sk (fun h => zl_cp (zl_tl h))))
  · cases hσ.symm.trans hI.1.2.2.2.2.2.2.2
theorem z_alenI (C : zC X p l s m args meth c cc nL own) {k i n : Nat} {f : Nat → Int32} (hd : decode cc pc = .ok (.arraylength, 1)) (hσ : σ k i = some (iC n f)) (kk : zG X p l e R s m args below meth c nL σ0 loc0 Q cells slots σ (pc + 1) L (aI (nI n) :: st)) : zG X p l e R s m args below meth c nL σ0 loc0 Q cells slots σ pc L (aR k i :: st) := fun loc H locs ls hI => by
  rcases (hI.1.2.2.1 k i _ hσ).1 with g | ⟨rfl, rfl⟩ | ⟨rfl, rfl⟩
  · exact va_alen C.x C.b C.K (zP1 (hI.cell hσ g.1)) 0 0 rfl rfl rfl hd (kk loc H locs ls (hI.sk (fun h => zl_cp (zl_tl h))))
  · cases hσ.symm.trans hI.1.2.2.2.2.2.2.1
  · cases hσ.symm.trans hI.1.2.2.2.2.2.2.2
    show W p l e R s m args below meth c H locs cells slots Q (F0 m pc ls (.ref (loc (91, 0)) :: st.map (zcv loc)))
    rw [hI.1.2.2.2.2.2.1]
    exact va_tlen C.x C.b C.wts hI.2.2.2.2.1 rfl hd (kk loc H locs ls (hI.sk (fun h => zl_cp (zl_tl h))))
theorem z_getsA (C : zC X p l s m args meth c cc nL own) {idx : Nat} (hw : Cond.fieldLink own idx RJx4a65c "DEFAULTCAPACITY_EMPTY_ELEMENTDATA" "[Ljava/lang/Object;" ∈ zT) (hd : decode cc pc = .ok (.getstatic idx, 3)) (kk : zG X p l e R s m args below meth c nL σ0 loc0 Q cells slots σ (pc + 3) L (aR 90 0 :: st)) : zG X p l e R s m args below meth c nL σ0 loc0 Q cells slots σ pc L st := fun loc H locs ls hI => by
  have hZ := (C.S.2.2.2.2.2.2.2.1).kept (H1 := s.heap) (fun a h1 _ => C.2.2.2.2.2.2.2.2.2 a h1)
  refine va_gets C.x C.b hZ hI.2.2.2.2.1 C.ow (C.ts _ hw) (fun _ h => h) hd ?_
  rw [← hI.1.2.2.2.2.1]
  exact kk loc H locs ls (hI.sk (fun h => zl_cn (show σ 90 0 ≠ none by rw [hI.1.2.2.2.2.2.2.1]; exact fun z => by cases z) h))
theorem z_getsW (C : zC X p l s m args meth c cc nL own) {idx : Nat} (hw : Cond.fieldLink own idx RX6 "WEIGHTS" "[I" ∈ zT) (hd : decode cc pc = .ok (.getstatic idx, 3)) (kk : zG X p l e R s m args below meth c nL σ0 loc0 Q cells slots σ (pc + 3) L (aR 91 0 :: st)) : zG X p l e R s m args below meth c nL σ0 loc0 Q cells slots σ pc L st := fun loc H locs ls hI => by
  have hZ := (C.S.2.2.2.2.2.2.2.2.1.1).kept (H1 := s.heap) (fun a h1 _ => C.2.2.2.2.2.2.2.2.2 a h1)
  refine va_gets C.x C.b hZ hI.2.2.2.2.1 C.ow (C.ts _ hw) (fun _ h => h) hd ?_
  rw [← hI.1.2.2.2.2.2.1]
  exact kk loc H locs ls (hI.sk (fun h => zl_cn (show σ 91 0 ≠ none by rw [hI.1.2.2.2.2.2.2.2]; exact fun z => by cases z) h))
theorem z_w90 (kk : σ 90 0 = some (rC 0 (fun _ => none)) → σ 91 0 = some (iC 6 zWts) → zG X p l e R s m args below meth c nL σ0 loc0 Q cells slots σ pc L st) : zG X p l e R s m args below meth c nL σ0 loc0 Q cells slots σ pc L st := fun loc H locs ls hI => kk hI.1.2.2.2.2.2.2.1 hI.1.2.2.2.2.2.2.2 loc H locs ls hI
end ZR
