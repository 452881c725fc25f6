/-! two desks in one world: the keys turned over, kinds 0 to 39 against 40 to 79 -/
def fl (k : Nat) : Nat := if k < 40 then k + 40 else if k < 80 then k - 40 else k
theorem fl1 {k : Nat} (h : k < 40) : fl k = k + 40 := if_pos h
theorem fl2 {k : Nat} (h : 40 ≤ k) (h' : k < 80) : fl k = k - 40 := by unfold fl; rw [if_neg (by omega), if_pos h']
theorem fl3 {k : Nat} (h : 80 ≤ k) : fl k = k := by unfold fl; rw [if_neg (by omega), if_neg (by omega)]
theorem fl_fl (k : Nat) : fl (fl k) = k := by
  by_cases h1 : k < 40
  · rw [fl1 h1, fl2 (by omega) (by omega)]; omega
  · by_cases h2 : k < 80
    · rw [fl2 (by omega) h2, fl1 (by omega)]; omega
    · rw [fl3 (k := k) (by omega), fl3 (by omega)]
theorem fl_lt {k : Nat} (h : fl k < 90) : k < 90 := by
  by_cases h1 : k < 40
  · omega
  · by_cases h2 : k < 80
    · omega
    · rw [fl3 (by omega)] at h; exact h
theorem fl_90 {k n : Nat} (hn : 80 ≤ n) (h : fl k = n) : k = n := by
  have := fl_fl k
  rw [h, fl3 hn] at this
  exact this.symm
def fK (q : zK) : zK := (fl q.1, q.2)
theorem fK_fK (q : zK) : fK (fK q) = q := Prod.ext (fl_fl q.1) rfl
def fV : zV → zV
  | .inl v => .inl v
  | .inr q => .inr (fK q)
theorem fV_fV (v : zV) : fV (fV v) = v := by
  cases v with
  | inl _ => rfl
  | inr q => exact congrArg Sum.inr (fK_fK q)
def fC : zCell → zCell
  | .inl o => .inl (o.1, o.2.map fV)
  | .inr (.inl a) => .inr (.inl a)
  | .inr (.inr (.inl a)) => .inr (.inr (.inl a))
  | .inr (.inr (.inr a)) => .inr (.inr (.inr (a.1, fun j => (a.2 j).map fK)))
theorem fC_fC (c : zCell) : fC (fC c) = c := by
  match c with
  | .inl o =>
    show Sum.inl (o.1, (o.2.map fV).map fV) = Sum.inl o
    rw [List.map_map, show fV ∘ fV = id from funext fV_fV, List.map_id]
  | .inr (.inl a) => rfl
  | .inr (.inr (.inl a)) => rfl
  | .inr (.inr (.inr a)) =>
    show Sum.inr (Sum.inr (Sum.inr (a.1, fun j => ((a.2 j).map fK).map fK))) = Sum.inr (Sum.inr (Sum.inr a))
    have e : (fun j => ((a.2 j).map fK).map fK) = a.2 := by
      funext j
      rw [Option.map_map, show fK ∘ fK = id from funext fK_fK, Option.map_id, id]
    rw [e]
def fH (σ : zHp) : zHp := fun k i => (σ (fl k) i).map fC
theorem fH_fH (σ : zHp) : fH (fH σ) = σ := by
  funext k i
  show ((σ (fl (fl k)) i).map fC).map fC = σ k i
  rw [fl_fl, Option.map_map, show fC ∘ fC = id from funext fC_fC, Option.map_id, id]
theorem fH_inj {σ σ1 : zHp} (h : fH σ1 = fH σ) : σ1 = σ := by rw [← fH_fH σ1, h, fH_fH]
theorem fH_at {σ σ1 : zHp} {k i : Nat} (h : fH σ1 k i = fH σ k i) : σ1 (fl k) i = σ (fl k) i := by
  have h2 : ((σ1 (fl k) i).map fC).map fC = ((σ (fl k) i).map fC).map fC := congrArg (Option.map fC) h
  rw [Option.map_map, Option.map_map, show fC ∘ fC = id from funext fC_fC, Option.map_id, id, id] at h2
  exact h2
theorem fH_to {σ σ1 : zHp} {k i : Nat} (h : σ1 (fl k) i = σ (fl k) i) : fH σ1 k i = fH σ k i := congrArg (Option.map fC) h
theorem fH_live {σ : zHp} {k i : Nat} : fH σ k i ≠ none ↔ σ (fl k) i ≠ none := by
  show (σ (fl k) i).map fC ≠ none ↔ _
  cases σ (fl k) i with
  | none => exact ⟨fun h => absurd rfl h, fun h => absurd rfl h⟩
  | some c => exact ⟨fun _ h => (by cases h), fun _ h => (by cases h)⟩
theorem zcv_f (loc : zK → Nat) (v : zV) : zcv (fun q => loc (fK q)) (fV v) = zcv loc v := by
  cases v with
  | inl _ => rfl
  | inr q => exact congrArg (fun z => Value.ref (loc z)) (fK_fK q)
theorem zcv_g (loc : zK → Nat) (v : zV) : zcv loc (fV v) = zcv (fun q => loc (fK q)) v := by cases v <;> rfl
theorem zcc_f (X : zX) (loc : zK → Nat) (c : zCell) : zcc X (fun q => loc (fK q)) (fC c) = zcc X loc c := by
  match c with
  | .inl o =>
    show Sum.inr (o.1, (o.2.map fV).map (zcv (fun q => loc (fK q)))) = Sum.inr (o.1, o.2.map (zcv loc))
    rw [List.map_map, show zcv (fun q => loc (fK q)) ∘ fV = zcv loc from funext (zcv_f loc)]
  | .inr (.inl a) => rfl
  | .inr (.inr (.inl a)) => rfl
  | .inr (.inr (.inr a)) =>
    have e : (fun j => ((a.2 j).map fK).map (fun q => loc (fK q))) = (fun j => (a.2 j).map loc) := by
      funext j
      rw [Option.map_map, show (fun q => loc (fK q)) ∘ fK = loc from funext (fun q => congrArg loc (fK_fK q))]
    show Sum.inl (X.2.1.2.2, a.1, Sum.inr (Sum.inr (Sum.inr (Sum.inr (fun j => ((a.2 j).map fK).map (fun q => loc (fK q))))))) = _
    rw [e]
    rfl
theorem zlv_f {σ : zHp} {v : zV} : zlv (fH σ) v ↔ zlv σ (fV v) := by
  cases v with
  | inl _ => exact Iff.rfl
  | inr q => exact fH_live
theorem zlv_g {σ : zHp} {v : zV} (h : zlv σ v) : zlv (fH σ) (fV v) := by
  rw [zlv_f, fV_fV]
  exact h
theorem zcl_f {σ : zHp} {c : zCell} (h : zcl σ c) : zcl (fH σ) (fC c) := by
  match c, h with
  | .inl o, h =>
    intro v hv
    obtain ⟨v0, hv0, rfl⟩ := List.mem_map.mp hv
    exact zlv_g (h v0 hv0)
  | .inr (.inl _), _ => trivial
  | .inr (.inr (.inl _)), _ => trivial
  | .inr (.inr (.inr a)), h =>
    intro j q hj
    have hj : (a.2 j).map fK = some q := hj
    cases hq : a.2 j with
    | none => rw [hq] at hj; cases hj
    | some q0 =>
      rw [hq] at hj
      cases hj
      exact zlv_g (v := .inr q0) (h j q0 hq)
theorem zW_f {X : zX} {σ : zHp} {loc : zK → Nat} {H : Heap} (h : zW X σ loc H) : zW X (fH σ) (fun q => loc (fK q)) H := by
  obtain ⟨h1, h2, h3, h4, h5, h6, h7, h8⟩ := h
  have get : ∀ {k i : Nat} {c : zCell}, fH σ k i = some c → ∃ c0, σ (fl k) i = some c0 ∧ c = fC c0 := by
    intro k i c hc
    have hc : (σ (fl k) i).map fC = some c := hc
    cases hq : σ (fl k) i with
    | none => rw [hq] at hc; cases hc
    | some c0 => rw [hq] at hc; cases hc; exact ⟨c0, rfl, rfl⟩
  refine ⟨h1, h2, fun k i c hc => ?_, fun k i k' i' c c' hc hc' e => ?_, ?_, ?_, ?_, ?_⟩
  · obtain ⟨c0, hc0, rfl⟩ := get hc
    obtain ⟨g1, g2, g3⟩ := h3 (fl k) i c0 hc0
    refine ⟨?_, g2, zcl_f g3⟩
    rw [zcc_f]
    rcases g1 with ⟨a1, a2, a3⟩ | ⟨a1, a2⟩ | ⟨a1, a2⟩
    · exact Or.inl ⟨fl_lt a1, a2, a3⟩
    · exact Or.inr (Or.inl ⟨fl_90 (by decide) a1, a2⟩)
    · exact Or.inr (Or.inr ⟨fl_90 (by decide) a1, a2⟩)
  · obtain ⟨c0, hc0, -⟩ := get hc
    obtain ⟨c1, hc1, -⟩ := get hc'
    obtain ⟨e1, e2⟩ := h4 (fl k) i (fl k') i' c0 c1 hc0 hc1 e
    refine ⟨?_, e2⟩
    rw [← fl_fl k, e1, fl_fl]
  · exact h5
  · exact h6
  · show (σ (fl 90) 0).map fC = _
    rw [fl3 (by decide), h7]
    rfl
  · show (σ (fl 91) 0).map fC = _
    rw [fl3 (by decide), h8]
    rfl
theorem zLe_f {σ σ1 : zHp} {loc0 loc : zK → Nat} (h : zLe (fH σ) (fun q => loc0 (fK q)) σ1 loc) : zLe σ loc0 (fH σ1) (fun q => loc (fK q)) := by
  intro k i hk
  have h0 : fH σ (fl k) i ≠ none := by rw [fH_live, fl_fl]; exact hk
  obtain ⟨g1, g2⟩ := h (fl k) i h0
  refine ⟨fH_live.mpr g1, g2.trans ?_⟩
  show loc0 (fl (fl k), i) = _
  rw [fl_fl]
theorem zMw.imp {X : zX} {l : Launch} {y : MethodName} {ws : List Cond} {lev mc ms : Nat} {as : List zV} {σ : zHp} {post post' : Option zV → zHp → Prop} {xp xp' : String → zHp → Prop} (H : zMw X l y ws lev mc ms as σ post xp) (hp : ∀ r σ1, post r σ1 → post' r σ1) (hx : ∀ E σ1, xp E σ1 → xp' E σ1) : zMw X l y ws lev mc ms as σ post' xp' := by
  intro hl loc0 p e ha hf hc s m args below hfr hsp hP hK
  obtain ⟨n, o, h1, h2, h3, h4⟩ := H hl loc0 p e ha hf hc s m args below hfr hsp hP hK
  refine ⟨n, o, h1, h2, h3, ?_⟩
  rcases h4 with ⟨⟨⟨r, σ1, loc, ho, hpo, hlv, hW, hle⟩, hF⟩, hL⟩ | ⟨q, ho, E, ce, L, ⟨⟨σ1, loc, hxp, hW, hle⟩, hF⟩, hr⟩
  · exact Or.inl ⟨⟨⟨r, σ1, loc, ho, hp r σ1 hpo, hlv, hW, hle⟩, hF⟩, hL⟩
  · exact Or.inr ⟨q, ho, E, ce, L, ⟨⟨σ1, loc, hx E σ1 hxp, hW, hle⟩, hF⟩, hr⟩
/-- a contract, the keys turned over -/
theorem zMw.fl {X : zX} {l : Launch} {y : MethodName} {ws : List Cond} {lev mc ms : Nat} {as : List zV} {σ : zHp} {post : Option zV → zHp → Prop} {xp : String → zHp → Prop} (H : zMw X l y ws lev mc ms as (fH σ) post xp) : zMw X l y ws lev mc ms (as.map fV) σ (fun r σ1 => ∃ r0, r = r0.map fV ∧ post r0 (fH σ1)) (fun E σ1 => xp E (fH σ1)) := by
  intro hl loc0 p e ha hf hc s m args below hfr hsp hP hK
  have hP' : zPc X as (fH σ) (fun q => loc0 (fK q)) args s := by
    obtain ⟨e1, hS, hW, hlv⟩ := hP
    refine ⟨?_, hS, zW_f hW, fun v hv => zlv_f.mpr (hlv (fV v) (List.mem_map_of_mem hv))⟩
    rw [e1, List.map_map, show zcv loc0 ∘ fV = zcv (fun q => loc0 (fK q)) from funext (zcv_g loc0)]
  obtain ⟨n, o, h1, h2, h3, h4⟩ := H hl (fun q => loc0 (fK q)) p e ha hf hc s m args below hfr hsp hP' hK
  refine ⟨n, o, h1, h2, h3, ?_⟩
  rcases h4 with ⟨⟨⟨r, σ1, loc, ho, hpo, hlv, hW, hle⟩, hF⟩, hL⟩ | ⟨q, ho, E, ce, L, ⟨⟨σ1, loc, hxp, hW, hle⟩, hF⟩, hr⟩
  · refine Or.inl ⟨⟨⟨r.map fV, fH σ1, fun q => loc (fK q), ?_, ⟨r, rfl, by rw [fH_fH]; exact hpo⟩, ?_, zW_f hW, zLe_f hle⟩, hF⟩, hL⟩
    · rw [ho, Option.map_map, show zcv (fun q => loc (fK q)) ∘ fV = zcv loc from funext (zcv_f loc)]
    · intro v hv
      cases r with
      | none => cases hv
      | some v0 => cases hv; exact zlv_g (hlv v0 rfl)
  · exact Or.inr ⟨q, ho, E, ce, L, ⟨⟨fH σ1, fun q => loc (fK q), (by show xp E (fH (fH σ1)); rw [fH_fH]; exact hxp), zW_f hW, zLe_f hle⟩, hF⟩, hr⟩
theorem zMw.flI {X : zX} {l : Launch} {y : MethodName} {ws : List Cond} {lev mc ms : Nat} {as : List zV} {as' : List zV} {σ : zHp} {P : Int32 → zHp → Prop} (H : zMw X l y ws lev mc ms as (fH σ) (zPi P) zNx) (ha : as' = as.map fV) : zMw X l y ws lev mc ms as' σ (zPi (fun r σ1 => P r (fH σ1))) zNx := by
  subst ha
  refine H.fl.imp (fun r σ1 h => ?_) (fun _ _ h => h.elim)
  obtain ⟨r0, e, x, e0, hp⟩ := h
  subst e0
  exact ⟨x, e, hp⟩
theorem zMw.flV {X : zX} {l : Launch} {y : MethodName} {ws : List Cond} {lev mc ms : Nat} {as : List zV} {as' : List zV} {σ : zHp} {P : zHp → Prop} (H : zMw X l y ws lev mc ms as (fH σ) (zPv P) zNx) (ha : as' = as.map fV) : zMw X l y ws lev mc ms as' σ (zPv (fun σ1 => P (fH σ1))) zNx := by
  subst ha
  refine H.fl.imp (fun r σ1 h => ?_) (fun _ _ h => h.elim)
  obtain ⟨r0, e, e0, hp⟩ := h
  subst e0
  exact ⟨e, hp⟩
/-- what a method made for itself is forgotten -/
theorem zMw.fgt {X : zX} {l : Launch} {y : MethodName} {ws : List Cond} {lev mc ms : Nat} {as : List zV} {σ : zHp} {P : Int32 → zHp → Prop} {P' : Int32 → Prop} (H : zMw X l y ws lev mc ms as σ (zPi P) zNx) (hp : ∀ r σ1, P r σ1 → P' r ∧ ∀ k i c, σ k i = some c → σ1 k i = some c) : zMw X l y ws lev mc ms as σ (zPi (fun r σ1 => P' r ∧ σ1 = σ)) zNx := by
  intro hl loc0 p e ha hf hc s m args below hfr hsp hP hK
  obtain ⟨n, o, h1, h2, h3, h4⟩ := H hl loc0 p e ha hf hc s m args below hfr hsp hP hK
  refine ⟨n, o, h1, h2, h3, ?_⟩
  obtain ⟨-, -, hW0, -⟩ := hP
  rcases h4 with ⟨⟨⟨r, σ1, loc, ho, ⟨x, e, hpo⟩, hlv, hW, hle⟩, hF⟩, hL⟩ | ⟨q, ho, E, ce, L, ⟨⟨σ1, loc, hxp, hW, hle⟩, hF⟩, hr⟩
  · obtain ⟨hp1, hk⟩ := hp x σ1 hpo
    subst e
    refine Or.inl ⟨⟨⟨_, σ, loc, ho, ⟨x, rfl, hp1, rfl⟩, fun v hv => by cases hv; trivial, ?_, fun k i h => ⟨h, (hle k i h).2⟩⟩, hF⟩, hL⟩
    obtain ⟨g1, g2, g3, g4, g5, g6, g7, g8⟩ := hW
    obtain ⟨f1, f2, f3, f4, f5, f6, f7, f8⟩ := hW0
    exact ⟨g1, g2, fun k i c hc => ⟨(g3 k i c (hk k i c hc)).1, (g3 k i c (hk k i c hc)).2.1, (f3 k i c hc).2.2⟩, fun k i k' i' c c' hc hc' => g4 k i k' i' c c' (hk k i c hc) (hk k' i' c' hc'), g5, g6, f7, f8⟩
  · exact hxp.elim
/-- the desk's picture rests on its own kinds -/
theorem DK.ag {x : Nat → Int32} {a : Nat → Nat → Int32} {σ σ1 : zHp} (h : DK x a σ) (hg : ∀ k i, (k < 40 ∨ 80 ≤ k) → σ1 k i = σ k i) : DK x a σ1 := by
  obtain ⟨⟨d0, dA, dR, dS, dC, dQ⟩, dF⟩ := h
  exact ⟨⟨(hg 0 0 (by omega)).trans d0, dA.ag (fun k i h => hg k i (by omega)), dR.ag (fun k i h => hg k i (by omega)), dS.ag (fun k i h => hg k i (by omega)), dC.ag (fun k i h => hg k i (by omega)) (fun _ _ => rfl), dQ.ag (fun k i h => hg k i (by omega))⟩, dF.ag (fun k i h => hg k i (by omega))⟩
theorem DK.agn {x : Nat → Int32} {a : Nat → Nat → Int32} {σ σ1 : zHp} {j : Nat} (h : DK x a σ) (hg : ∀ k i, ¬ (k = 80 ∧ i = j) → σ1 k i = σ k i) : DK x a σ1 := by
  obtain ⟨⟨d0, dA, dR, dS, dC, dQ⟩, dF⟩ := h
  exact ⟨⟨(hg 0 0 (by omega)).trans d0, dA.ag (fun k i h => hg k i (by omega)), dR.ag (fun k i h => hg k i (by omega)), dS.ag (fun k i h => hg k i (by omega)), dC.ag (fun k i h => hg k i (by omega)) (fun _ _ => rfl), dQ.ag (fun k i h => hg k i (by omega))⟩, dF.ag (fun k i h => hg k i (by omega))⟩
def lwN : Nat → Nat := fun j => ([64, 24, 64, 30, 7] : List Nat).getD j 0
/-- the law's world: two desks, five rows -/
def LW (x : Nat → Int32) (a : Nat → Nat → Int32) (x2 : Nat → Int32) (a2 : Nat → Nat → Int32) (A : Nat → Nat → Int32) (σ : zHp) : Prop := DK x a σ ∧ DK x2 a2 (fH σ) ∧ (∀ j, j < 5 → σ 80 j = some (iC (lwN j) (A j))) ∧ ∀ j, 5 ≤ j → σ 80 j = none
theorem LW.o {x x' x2 : Nat → Int32} {a a' a2 A : Nat → Nat → Int32} {σ σ1 : zHp} (h : LW x a x2 a2 A σ) (hF : Fk σ σ1) (hD : DK x' a' σ1) : LW x' a' x2 a2 A σ1 := by
  obtain ⟨-, h2, h3, h4⟩ := h
  refine ⟨hD, h2.ag (fun k i hk => fH_to (hF _ _ (Or.inr (Or.inr (Or.inr ?_))))), fun j hj => (hF _ _ (by omega)).trans (h3 j hj), fun j hj => (hF _ _ (by omega)).trans (h4 j hj)⟩
  rcases hk with hk | hk
  · rw [fl1 hk]; omega
  · rw [fl3 hk]; omega
theorem LW.t {x x' x2 : Nat → Int32} {a a' a2 A : Nat → Nat → Int32} {σ σ1 : zHp} (h : LW x2 a2 x a A σ) (hF : Fk (fH σ) (fH σ1)) (hD : DK x' a' (fH σ1)) : LW x2 a2 x' a' A σ1 := by
  obtain ⟨h1, -, h3, h4⟩ := h
  have hg : ∀ k i, (k < 40 ∨ 80 ≤ k) → σ1 k i = σ k i := by
    intro k i hk
    have := fH_at (hF (fl k) i (Or.inr (Or.inr (Or.inr (by
      rcases hk with hk | hk
      · rw [fl1 hk]; omega
      · rw [fl3 hk]; omega)))))
    rw [fl_fl] at this
    exact this
  exact ⟨h1.ag hg, hD, fun j hj => (hg _ _ (by omega)).trans (h3 j hj), fun j hj => (hg _ _ (by omega)).trans (h4 j hj)⟩
theorem LW.put {x x2 : Nat → Int32} {a a2 A : Nat → Nat → Int32} {σ : zHp} (h : LW x a x2 a2 A σ) (j : Nat) (hj : j < 5) (f : Nat → Int32) : LW x a x2 a2 (ua A j f) (zput σ 80 j (iC (lwN j) f)) := by
  obtain ⟨h1, h2, h3, h4⟩ := h
  have hg : ∀ k i, ¬ (k = 80 ∧ i = j) → zput σ 80 j (iC (lwN j) f) k i = σ k i := fun k i hk => zput_n hk
  refine ⟨DK.agn (j := j) h1 hg, DK.agn (j := j) h2 (fun k i hk => fH_to (hg _ _ (fun z => hk ⟨fl_90 (by decide) z.1, z.2⟩))), fun j' hj' => ?_, fun j' hj' => (hg _ _ (by omega)).trans (h4 j' hj')⟩
  by_cases e : j' = j
  · subst e
    rw [zput_s]
    simp [ua]
  · rw [hg _ _ (by omega), h3 j' hj']
    simp [ua, e]
