/-! the law's static methods: a call of the desk, its answer in the row 14, its exception a number -/
theorem DK.ag {x : Nat → Int32} {a : Nat → Nat → Int32} {σ σ1 : zHp} (h : DK x a σ) (hg : ∀ k i, k ≠ 12 → k ≠ 13 → k ≠ 14 → σ1 k i = σ k i) : DK x a σ1 := by
  obtain ⟨⟨d0, dA, dR, dS, dC, dQ⟩, dF⟩ := h
  exact ⟨⟨(hg 0 0 (by omega) (by omega) (by omega)).trans d0, dA.ag (fun k i h => hg k i (by omega) (by omega) (by omega)), dR.ag (fun k i h => hg k i (by omega) (by omega) (by omega)), dS.ag (fun k i h => hg k i (by omega) (by omega) (by omega)), dC.ag (fun k i h => hg k i (by omega) (by omega) (by omega)) (fun _ _ => rfl), dQ.ag (fun k i h => hg k i (by omega) (by omega) (by omega))⟩, dF.ag (fun k i h => hg k i (by omega) (by omega) (by omega))⟩
/-- what a static method of the law answers: k the exception's number (0: none), v the answer, x' a' what is left then; W: the answer is put into the row -/
def zLz (W : Prop) (k v : Int32) (x' : Nat → Int32) (a' : Nat → Nat → Int32) (x : Nat → Int32) (a : Nat → Nat → Int32) (σ : zHp) : Int32 → zHp → Prop := fun r σ1 => r = k ∧ (∀ kk i, (kk = 12 ∨ kk = 13) → σ1 kk i = σ kk i) ∧ (∃ f, σ1 14 0 = some (lC 1 f) ∧ (k = 0 → W → f 0 = v.toInt64)) ∧ ((k = 0 ∧ DK x' a' σ1) ∨ (¬ k = 0 ∧ DK x a σ1))
theorem in01 : vp_in 0 1 := by unfold vp_in; decide
theorem zLz.ok {k v : Int32} {x' : Nat → Int32} {a' : Nat → Nat → Int32} {x : Nat → Int32} {a : Nat → Nat → Int32} {σ σ1 : zHp} {f : Nat → Int64} (hk : k = 0) (hD : DK x' a' σ1) (hF : Fk σ σ1) (h14 : σ 14 0 = some (lC 1 f)) : zLz True k v x' a' x a σ 0 (zput σ1 14 0 (lC 1 (vp_updL f (0 : Int32).toNatClampNeg v.toInt64))) :=
  ⟨hk.symm, fun kk i h => (zput_n (by omega)).trans (hF kk i (by omega)), ⟨_, zput_s _ _ _ _, fun _ _ => by rw [show (0 : Int32).toNatClampNeg = 0 from rfl]; simp [vp_updL]⟩, Or.inl ⟨hk, hD.ag (fun kk i h1 h2 h3 => zput_n (by omega))⟩⟩
theorem zLz.okV {k v : Int32} {x' : Nat → Int32} {a' : Nat → Nat → Int32} {x : Nat → Int32} {a : Nat → Nat → Int32} {σ σ1 : zHp} {f : Nat → Int64} (hk : k = 0) (hD : DK x' a' σ1) (hF : Fk σ σ1) (h14 : σ 14 0 = some (lC 1 f)) : zLz False k v x' a' x a σ 0 σ1 :=
  ⟨hk.symm, fun kk i h => hF kk i (by omega), ⟨f, (hF 14 0 (by omega)).trans h14, fun _ h => h.elim⟩, Or.inl ⟨hk, hD⟩⟩
theorem zLz.th {W : Prop} {k v j : Int32} {x' : Nat → Int32} {a' : Nat → Nat → Int32} {x : Nat → Int32} {a : Nat → Nat → Int32} {σ : zHp} {f : Nat → Int64} (hk : k = j) (hj : ¬ j = 0) (hD : DK x a σ) (h14 : σ 14 0 = some (lC 1 f)) : zLz W k v x' a' x a σ j σ :=
  ⟨hk.symm, fun _ _ _ => rfl, ⟨f, h14, fun h => absurd (hk.symm.trans h) hj⟩, Or.inr ⟨fun h => hj (hk.symm.trans h), hD⟩⟩
theorem goC_n2 {p r : Bool} : ¬ goC p true r = 2 := by cases p <;> cases r <;> decide
theorem goC_n3 {p q : Bool} : ¬ goC p q true = 3 := by cases p <;> cases q <;> decide
theorem pass1 {α : Type} {P : α → Prop} {u : α} (h : P u) : ∀ z ∈ [u], P z := fun z hz => by rw [List.mem_singleton.mp hz]; exact h
theorem pass2 {α : Type} {P : α → Prop} {u v : α} (h : P u) (h' : P v) : ∀ z ∈ [u, v], P z := fun z hz => (List.mem_cons.mp hz).elim (fun e => by rw [e]; exact h) (fun hz => by rw [List.mem_singleton.mp hz]; exact h')
set_option maxRecDepth 100000 in
set_option maxHeartbeats 4000000 in
theorem c_L_pass {X : zX} (l : Launch) {x : Nat → Int32} {a : Nat → Nat → Int32} {σ : zHp} (hD : DK x a σ) (hI : zIv x a) {fL : Nat → Int64} (h14 : σ 14 0 = some (lC 1 fL)) {d : Int32} : zMh X l yL_pass cL_pass 4 (some .int) [(0, 9, 12, 13), (0, 9, 15, 15)] 9 10 200 [aR 0 0, aI d, aR 14 0] σ (zPi (zLz True (k_pass x a d) (x 0 + d) (upd x 0 (x 0 + d)) (a) x a σ)) zNx := by
  refine zMh.of (by decide +kernel) (Nat.le_of_ble_eq_true rfl) (by simp [zcat, Value.category]) ?_
  intro p e s m args below meth c loc0 C hr hnm hT
  refine z_aload_n (i := 2) C dL_pass_0 rfl rfl ?_
  refine z_iconst (v := 0) C dL_pass_1 (by decide) ?_
  refine z_aload_n (i := 0) C dL_pass_2 rfl rfl ?_
  refine z_iload_n (i := 1) C dL_pass_3 rfl rfl ?_
  refine z_callV C Y_X6_pass V_X6_pass ml_RL_7 (c_X6_pass l hD hI.1) dL_pass_4 rfl rfl hD.1.1 ⟨_, _, rfl⟩ (fun _ => Nat.le_of_ble_eq_true rfl) ⟨Nat.le_of_ble_eq_true rfl, Nat.le_of_ble_eq_true rfl⟩ ⟨Nat.le_of_ble_eq_true rfl, Nat.le_of_ble_eq_true rfl⟩ (z_ri (fun r9 σ1 hx => ?_)) (fun E9 σ1 hx => ?_)
  · obtain ⟨hk, rfl, hD1, hF⟩ := hx
    refine z_i2l C dL_pass_7 ?_
    refine z_last (k := 14) (i := 0) (n := 1) (f := fL) C dL_pass_8 ((hF 14 0 (Or.inr (Or.inr rfl))).trans h14) (by decide) in01 ?_
    refine z_goto (tgt := 18) C dL_pass_9 (by decide) ?_
    refine z_iconst (v := 0) C dL_pass_18 (by decide) ?_
    exact z_iret C hr rfl dL_pass_19 (Nat.le_of_ble_eq_true rfl) (Nat.le_of_ble_eq_true rfl) ⟨_, rfl, zLz.ok hk hD1 hF h14⟩

  · obtain ⟨rfl, hk⟩ := hx
    rcases hk with ⟨hk, rfl⟩ | ⟨hk, rfl⟩ | ⟨hk, rfl⟩
    · refine z_catch C hT [] [(0, 9, 15, 15)] (sp := 0) (ep := 9) (hp := 12) (ct := 13) rfl ⟨Nat.le_of_ble_eq_true rfl, Nat.le_of_ble_eq_true rfl⟩ (fun z hz => by cases hz) (by decide) kl_RL_13 (by decide +kernel) (fun q9 => ?_)
      refine z_astore_nQ (i := 3) C dL_pass_12 rfl (by decide) ?_
      refine z_iconst (v := 1) C dL_pass_13 (by decide) ?_
      exact z_iret C hr rfl dL_pass_14 (Nat.le_of_ble_eq_true rfl) (Nat.le_of_ble_eq_true rfl) ⟨_, rfl, zLz.th hk (by decide) hD h14⟩
  
    · refine z_catch C hT [(0, 9, 12, 13)] [] (sp := 0) (ep := 9) (hp := 15) (ct := 15) rfl ⟨Nat.le_of_ble_eq_true rfl, Nat.le_of_ble_eq_true rfl⟩ (pass1 ⟨by decide, _, kl_RL_13, by decide +kernel⟩) (by decide) kl_RL_15 (by decide +kernel) (fun q9 => ?_)
      refine z_astore_nQ (i := 3) C dL_pass_15 rfl (by decide) ?_
      refine z_iconst (v := 2) C dL_pass_16 (by decide) ?_
      exact z_iret C hr rfl dL_pass_17 (Nat.le_of_ble_eq_true rfl) (Nat.le_of_ble_eq_true rfl) ⟨_, rfl, zLz.th hk (by decide) hD h14⟩
  
    · exact absurd hk goC_n3

set_option maxRecDepth 100000 in
set_option maxHeartbeats 4000000 in
theorem c_L_addAccount {X : zX} (l : Launch) {x : Nat → Int32} {a : Nat → Nat → Int32} {σ : zHp} (hD : DK x a σ) (hI : zIv x a) {fL : Nat → Int64} (h14 : σ 14 0 = some (lC 1 fL)) {o w g : Int32} : zMh X l yL_addAccount cL_addAccount 6 (some .int) [(0, 12, 15, 21), (0, 12, 19, 13), (0, 12, 23, 15)] 9 10 200 [aR 0 0, aI o, aI w, aI g, aR 14 0] σ (zPi (zLz True (k_addAccount x a o w g) (x 1) (upd x 1 (x 1 + 1)) (ua (ua (ua (ua a 2 (upd (a 2) (zN (x 1)) o)) 3 (upd (a 3) (zN (x 1)) w)) 4 (upd (a 4) (zN (x 1)) g)) 5 (upd (a 5) (zN (x 1)) (-1))) x a σ)) zNx := by
  refine zMh.of (by decide +kernel) (Nat.le_of_ble_eq_true rfl) (by simp [zcat, Value.category]) ?_
  intro p e s m args below meth c loc0 C hr hnm hT
  refine z_aload C dL_addAccount_0 rfl ?_
  refine z_iconst (v := 0) C dL_addAccount_2 (by decide) ?_
  refine z_aload_n (i := 0) C dL_addAccount_3 rfl rfl ?_
  refine z_iload_n (i := 1) C dL_addAccount_4 rfl rfl ?_
  refine z_iload_n (i := 2) C dL_addAccount_5 rfl rfl ?_
  refine z_iload_n (i := 3) C dL_addAccount_6 rfl rfl ?_
  refine z_callV C Y_X6_addAccount V_X6_addAccount ml_RL_17 (c_X6_addAccount l hD hI.1 hI.2) dL_addAccount_7 rfl rfl hD.1.1 ⟨_, _, rfl⟩ (fun _ => Nat.le_of_ble_eq_true rfl) ⟨Nat.le_of_ble_eq_true rfl, Nat.le_of_ble_eq_true rfl⟩ ⟨Nat.le_of_ble_eq_true rfl, Nat.le_of_ble_eq_true rfl⟩ (z_ri (fun r9 σ1 hx => ?_)) (fun E9 σ1 hx => ?_)
  · obtain ⟨hk, rfl, hD1, hF⟩ := hx
    refine z_i2l C dL_addAccount_10 ?_
    refine z_last (k := 14) (i := 0) (n := 1) (f := fL) C dL_addAccount_11 ((hF 14 0 (Or.inr (Or.inr rfl))).trans h14) (by decide) in01 ?_
    refine z_goto (tgt := 27) C dL_addAccount_12 (by decide) ?_
    refine z_iconst (v := 0) C dL_addAccount_27 (by decide) ?_
    exact z_iret C hr rfl dL_addAccount_28 (Nat.le_of_ble_eq_true rfl) (Nat.le_of_ble_eq_true rfl) ⟨_, rfl, zLz.ok hk hD1 hF h14⟩

  · obtain ⟨rfl, hk⟩ := hx
    rcases hk with ⟨hk, rfl⟩ | ⟨hk, rfl⟩ | ⟨hk, rfl⟩
    · refine z_catch C hT [] [(0, 12, 19, 13), (0, 12, 23, 15)] (sp := 0) (ep := 12) (hp := 15) (ct := 21) rfl ⟨Nat.le_of_ble_eq_true rfl, Nat.le_of_ble_eq_true rfl⟩ (fun z hz => by cases hz) (by decide) kl_RL_21 (by decide +kernel) (fun q9 => ?_)
      refine z_astoreQ C dL_addAccount_15 (by decide) ?_
      refine z_iconst (v := 1) C dL_addAccount_17 (by decide) ?_
      exact z_iret C hr rfl dL_addAccount_18 (Nat.le_of_ble_eq_true rfl) (Nat.le_of_ble_eq_true rfl) ⟨_, rfl, zLz.th hk (by decide) hD h14⟩
  
    · refine z_catch C hT [(0, 12, 15, 21)] [(0, 12, 23, 15)] (sp := 0) (ep := 12) (hp := 19) (ct := 13) rfl ⟨Nat.le_of_ble_eq_true rfl, Nat.le_of_ble_eq_true rfl⟩ (pass1 ⟨by decide, _, kl_RL_21, by decide +kernel⟩) (by decide) kl_RL_13 (by decide +kernel) (fun q9 => ?_)
      refine z_astoreQ C dL_addAccount_19 (by decide) ?_
      refine z_iconst (v := 2) C dL_addAccount_21 (by decide) ?_
      exact z_iret C hr rfl dL_addAccount_22 (Nat.le_of_ble_eq_true rfl) (Nat.le_of_ble_eq_true rfl) ⟨_, rfl, zLz.th hk (by decide) hD h14⟩
  
    · refine z_catch C hT [(0, 12, 15, 21), (0, 12, 19, 13)] [] (sp := 0) (ep := 12) (hp := 23) (ct := 15) rfl ⟨Nat.le_of_ble_eq_true rfl, Nat.le_of_ble_eq_true rfl⟩ (pass2 ⟨by decide, _, kl_RL_21, by decide +kernel⟩ ⟨by decide, _, kl_RL_13, by decide +kernel⟩) (by decide) kl_RL_15 (by decide +kernel) (fun q9 => ?_)
      refine z_astoreQ C dL_addAccount_23 (by decide) ?_
      refine z_iconst (v := 3) C dL_addAccount_25 (by decide) ?_
      exact z_iret C hr rfl dL_addAccount_26 (Nat.le_of_ble_eq_true rfl) (Nat.le_of_ble_eq_true rfl) ⟨_, rfl, zLz.th hk (by decide) hD h14⟩

set_option maxRecDepth 100000 in
set_option maxHeartbeats 4000000 in
theorem c_L_putRule {X : zX} (l : Launch) {x : Nat → Int32} {a : Nat → Nat → Int32} {σ : zHp} (hD : DK x a σ) (hI : zIv x a) {fL : Nat → Int64} (h14 : σ 14 0 = some (lC 1 fL)) {pl f u g w : Int32} : zMh X l yL_putRule cL_putRule 8 (some .int) [(0, 16, 19, 21), (0, 16, 23, 13), (0, 16, 27, 15)] 9 10 200 [aR 0 0, aI pl, aI f, aI u, aI g, aI w, aR 14 0] σ (zPi (zLz True (k_putRule x a pl f u g w) (x 6 + 1) (upd x 6 (x 6 + 1)) (putR a (zN pl) (zN (x 6)) f u g w) x a σ)) zNx := by
  refine zMh.of (by decide +kernel) (Nat.le_of_ble_eq_true rfl) (by simp [zcat, Value.category]) ?_
  intro p e s m args below meth c loc0 C hr hnm hT
  refine z_aload C dL_putRule_0 rfl ?_
  refine z_iconst (v := 0) C dL_putRule_2 (by decide) ?_
  refine z_aload_n (i := 0) C dL_putRule_3 rfl rfl ?_
  refine z_iload_n (i := 1) C dL_putRule_4 rfl rfl ?_
  refine z_iload_n (i := 2) C dL_putRule_5 rfl rfl ?_
  refine z_iload_n (i := 3) C dL_putRule_6 rfl rfl ?_
  refine z_iload C dL_putRule_7 rfl ?_
  refine z_iload C dL_putRule_9 rfl ?_
  refine z_callV C Y_X6_putRule V_X6_putRule ml_RL_23 (c_X6_putRule l hD hI.1) dL_putRule_11 rfl rfl hD.1.1 ⟨_, _, rfl⟩ (fun _ => Nat.le_of_ble_eq_true rfl) ⟨Nat.le_of_ble_eq_true rfl, Nat.le_of_ble_eq_true rfl⟩ ⟨Nat.le_of_ble_eq_true rfl, Nat.le_of_ble_eq_true rfl⟩ (z_ri (fun r9 σ1 hx => ?_)) (fun E9 σ1 hx => ?_)
  · obtain ⟨hk, rfl, hD1, hF⟩ := hx
    refine z_i2l C dL_putRule_14 ?_
    refine z_last (k := 14) (i := 0) (n := 1) (f := fL) C dL_putRule_15 ((hF 14 0 (Or.inr (Or.inr rfl))).trans h14) (by decide) in01 ?_
    refine z_goto (tgt := 31) C dL_putRule_16 (by decide) ?_
    refine z_iconst (v := 0) C dL_putRule_31 (by decide) ?_
    exact z_iret C hr rfl dL_putRule_32 (Nat.le_of_ble_eq_true rfl) (Nat.le_of_ble_eq_true rfl) ⟨_, rfl, zLz.ok hk hD1 hF h14⟩

  · obtain ⟨rfl, hk⟩ := hx
    rcases hk with ⟨hk, rfl⟩ | ⟨hk, rfl⟩ | ⟨hk, rfl⟩
    · refine z_catch C hT [] [(0, 16, 23, 13), (0, 16, 27, 15)] (sp := 0) (ep := 16) (hp := 19) (ct := 21) rfl ⟨Nat.le_of_ble_eq_true rfl, Nat.le_of_ble_eq_true rfl⟩ (fun z hz => by cases hz) (by decide) kl_RL_21 (by decide +kernel) (fun q9 => ?_)
      refine z_astoreQ C dL_putRule_19 (by decide) ?_
      refine z_iconst (v := 1) C dL_putRule_21 (by decide) ?_
      exact z_iret C hr rfl dL_putRule_22 (Nat.le_of_ble_eq_true rfl) (Nat.le_of_ble_eq_true rfl) ⟨_, rfl, zLz.th hk (by decide) hD h14⟩
  
    · refine z_catch C hT [(0, 16, 19, 21)] [(0, 16, 27, 15)] (sp := 0) (ep := 16) (hp := 23) (ct := 13) rfl ⟨Nat.le_of_ble_eq_true rfl, Nat.le_of_ble_eq_true rfl⟩ (pass1 ⟨by decide, _, kl_RL_21, by decide +kernel⟩) (by decide) kl_RL_13 (by decide +kernel) (fun q9 => ?_)
      refine z_astoreQ C dL_putRule_23 (by decide) ?_
      refine z_iconst (v := 2) C dL_putRule_25 (by decide) ?_
      exact z_iret C hr rfl dL_putRule_26 (Nat.le_of_ble_eq_true rfl) (Nat.le_of_ble_eq_true rfl) ⟨_, rfl, zLz.th hk (by decide) hD h14⟩
  
    · refine z_catch C hT [(0, 16, 19, 21), (0, 16, 23, 13)] [] (sp := 0) (ep := 16) (hp := 27) (ct := 15) rfl ⟨Nat.le_of_ble_eq_true rfl, Nat.le_of_ble_eq_true rfl⟩ (pass2 ⟨by decide, _, kl_RL_21, by decide +kernel⟩ ⟨by decide, _, kl_RL_13, by decide +kernel⟩) (by decide) kl_RL_15 (by decide +kernel) (fun q9 => ?_)
      refine z_astoreQ C dL_putRule_27 (by decide) ?_
      refine z_iconst (v := 3) C dL_putRule_29 (by decide) ?_
      exact z_iret C hr rfl dL_putRule_30 (Nat.le_of_ble_eq_true rfl) (Nat.le_of_ble_eq_true rfl) ⟨_, rfl, zLz.th hk (by decide) hD h14⟩

set_option maxRecDepth 100000 in
set_option maxHeartbeats 4000000 in
theorem c_L_removeRule {X : zX} (l : Launch) {x : Nat → Int32} {a : Nat → Nat → Int32} {σ : zHp} (hD : DK x a σ) (hI : zIv x a) {fL : Nat → Int64} (h14 : σ 14 0 = some (lC 1 fL)) {pl : Int32} : zMh X l yL_removeRule cL_removeRule 4 (some .int) [(0, 9, 12, 21)] 9 10 200 [aR 0 0, aI pl, aR 14 0] σ (zPi (zLz True (k_removeRule x a pl) (x 6 - 1) (upd x 6 (x 6 - 1)) (R4 a (delG (zN pl) (zN (x 6) - 1))) x a σ)) zNx := by
  refine zMh.of (by decide +kernel) (Nat.le_of_ble_eq_true rfl) (by simp [zcat, Value.category]) ?_
  intro p e s m args below meth c loc0 C hr hnm hT
  refine z_aload_n (i := 2) C dL_removeRule_0 rfl rfl ?_
  refine z_iconst (v := 0) C dL_removeRule_1 (by decide) ?_
  refine z_aload_n (i := 0) C dL_removeRule_2 rfl rfl ?_
  refine z_iload_n (i := 1) C dL_removeRule_3 rfl rfl ?_
  refine z_callV C Y_X6_removeRule V_X6_removeRule ml_RL_27 (c_X6_removeRule l hD hI.1) dL_removeRule_4 rfl rfl hD.1.1 ⟨_, _, rfl⟩ (fun _ => Nat.le_of_ble_eq_true rfl) ⟨Nat.le_of_ble_eq_true rfl, Nat.le_of_ble_eq_true rfl⟩ ⟨Nat.le_of_ble_eq_true rfl, Nat.le_of_ble_eq_true rfl⟩ (z_ri (fun r9 σ1 hx => ?_)) (fun E9 σ1 hx => ?_)
  · obtain ⟨hk, rfl, hD1, hF⟩ := hx
    refine z_i2l C dL_removeRule_7 ?_
    refine z_last (k := 14) (i := 0) (n := 1) (f := fL) C dL_removeRule_8 ((hF 14 0 (Or.inr (Or.inr rfl))).trans h14) (by decide) in01 ?_
    refine z_goto (tgt := 15) C dL_removeRule_9 (by decide) ?_
    refine z_iconst (v := 0) C dL_removeRule_15 (by decide) ?_
    exact z_iret C hr rfl dL_removeRule_16 (Nat.le_of_ble_eq_true rfl) (Nat.le_of_ble_eq_true rfl) ⟨_, rfl, zLz.ok hk hD1 hF h14⟩

  · obtain ⟨rfl, hk⟩ := hx
    rcases hk with ⟨hk, rfl⟩ | ⟨hk, rfl⟩ | ⟨hk, rfl⟩
    · refine z_catch C hT [] [] (sp := 0) (ep := 9) (hp := 12) (ct := 21) rfl ⟨Nat.le_of_ble_eq_true rfl, Nat.le_of_ble_eq_true rfl⟩ (fun z hz => by cases hz) (by decide) kl_RL_21 (by decide +kernel) (fun q9 => ?_)
      refine z_astore_nQ (i := 3) C dL_removeRule_12 rfl (by decide) ?_
      refine z_iconst (v := 1) C dL_removeRule_13 (by decide) ?_
      exact z_iret C hr rfl dL_removeRule_14 (Nat.le_of_ble_eq_true rfl) (Nat.le_of_ble_eq_true rfl) ⟨_, rfl, zLz.th hk (by decide) hD h14⟩
  
    · exact absurd hk goC_n2
  
    · exact absurd hk goC_n3

set_option maxRecDepth 100000 in
set_option maxHeartbeats 4000000 in
theorem c_L_except {X : zX} (l : Launch) {x : Nat → Int32} {a : Nat → Nat → Int32} {σ : zHp} (hD : DK x a σ) (hI : zIv x a) {fL : Nat → Int64} (h14 : σ 14 0 = some (lC 1 fL)) {i w : Int32} : zMh X l yL_except cL_except 5 (some .int) [(0, 10, 13, 21), (0, 10, 17, 13)] 9 10 200 [aR 0 0, aI i, aI w, aR 14 0] σ (zPi (zLz True (k_except x a i w) (a 5 (zN i)) (x) (ua a 5 (upd (a 5) (zN i) w)) x a σ)) zNx := by
  refine zMh.of (by decide +kernel) (Nat.le_of_ble_eq_true rfl) (by simp [zcat, Value.category]) ?_
  intro p e s m args below meth c loc0 C hr hnm hT
  refine z_aload_n (i := 3) C dL_except_0 rfl rfl ?_
  refine z_iconst (v := 0) C dL_except_1 (by decide) ?_
  refine z_aload_n (i := 0) C dL_except_2 rfl rfl ?_
  refine z_iload_n (i := 1) C dL_except_3 rfl rfl ?_
  refine z_iload_n (i := 2) C dL_except_4 rfl rfl ?_
  refine z_callV C Y_X6_except V_X6_except ml_RL_30 (c_X6_except l hD hI.1) dL_except_5 rfl rfl hD.1.1 ⟨_, _, rfl⟩ (fun _ => Nat.le_of_ble_eq_true rfl) ⟨Nat.le_of_ble_eq_true rfl, Nat.le_of_ble_eq_true rfl⟩ ⟨Nat.le_of_ble_eq_true rfl, Nat.le_of_ble_eq_true rfl⟩ (z_ri (fun r9 σ1 hx => ?_)) (fun E9 σ1 hx => ?_)
  · obtain ⟨hk, rfl, hD1, hF⟩ := hx
    refine z_i2l C dL_except_8 ?_
    refine z_last (k := 14) (i := 0) (n := 1) (f := fL) C dL_except_9 ((hF 14 0 (Or.inr (Or.inr rfl))).trans h14) (by decide) in01 ?_
    refine z_goto (tgt := 21) C dL_except_10 (by decide) ?_
    refine z_iconst (v := 0) C dL_except_21 (by decide) ?_
    exact z_iret C hr rfl dL_except_22 (Nat.le_of_ble_eq_true rfl) (Nat.le_of_ble_eq_true rfl) ⟨_, rfl, zLz.ok hk hD1 hF h14⟩

  · obtain ⟨rfl, hk⟩ := hx
    rcases hk with ⟨hk, rfl⟩ | ⟨hk, rfl⟩ | ⟨hk, rfl⟩
    · refine z_catch C hT [] [(0, 10, 17, 13)] (sp := 0) (ep := 10) (hp := 13) (ct := 21) rfl ⟨Nat.le_of_ble_eq_true rfl, Nat.le_of_ble_eq_true rfl⟩ (fun z hz => by cases hz) (by decide) kl_RL_21 (by decide +kernel) (fun q9 => ?_)
      refine z_astoreQ C dL_except_13 (by decide) ?_
      refine z_iconst (v := 1) C dL_except_15 (by decide) ?_
      exact z_iret C hr rfl dL_except_16 (Nat.le_of_ble_eq_true rfl) (Nat.le_of_ble_eq_true rfl) ⟨_, rfl, zLz.th hk (by decide) hD h14⟩
  
    · refine z_catch C hT [(0, 10, 13, 21)] [] (sp := 0) (ep := 10) (hp := 17) (ct := 13) rfl ⟨Nat.le_of_ble_eq_true rfl, Nat.le_of_ble_eq_true rfl⟩ (pass1 ⟨by decide, _, kl_RL_21, by decide +kernel⟩) (by decide) kl_RL_13 (by decide +kernel) (fun q9 => ?_)
      refine z_astoreQ C dL_except_17 (by decide) ?_
      refine z_iconst (v := 2) C dL_except_19 (by decide) ?_
      exact z_iret C hr rfl dL_except_20 (Nat.le_of_ble_eq_true rfl) (Nat.le_of_ble_eq_true rfl) ⟨_, rfl, zLz.th hk (by decide) hD h14⟩
  
    · exact absurd hk goC_n3

set_option maxRecDepth 100000 in
set_option maxHeartbeats 4000000 in
theorem c_L_regionOf {X : zX} (l : Launch) {x : Nat → Int32} {a : Nat → Nat → Int32} {σ : zHp} (hD : DK x a σ) (hI : zIv x a) {fL : Nat → Int64} (h14 : σ 14 0 = some (lC 1 fL)) {i : Int32} : zMh X l yL_regionOf cL_regionOf 4 (some .int) [(0, 9, 12, 21)] 9 10 200 [aR 0 0, aI i, aR 14 0] σ (zPi (zLz True (k_regionOf x a i) (regS x a (zN i)) (x) (a) x a σ)) zNx := by
  refine zMh.of (by decide +kernel) (Nat.le_of_ble_eq_true rfl) (by simp [zcat, Value.category]) ?_
  intro p e s m args below meth c loc0 C hr hnm hT
  refine z_aload_n (i := 2) C dL_regionOf_0 rfl rfl ?_
  refine z_iconst (v := 0) C dL_regionOf_1 (by decide) ?_
  refine z_aload_n (i := 0) C dL_regionOf_2 rfl rfl ?_
  refine z_iload_n (i := 1) C dL_regionOf_3 rfl rfl ?_
  refine z_callV C Y_X6_regionOf V_X6_regionOf ml_RL_34 (c_X6_regionOf l hD hI.1) dL_regionOf_4 rfl rfl hD.1.1 ⟨_, _, rfl⟩ (fun _ => Nat.le_of_ble_eq_true rfl) ⟨Nat.le_of_ble_eq_true rfl, Nat.le_of_ble_eq_true rfl⟩ ⟨Nat.le_of_ble_eq_true rfl, Nat.le_of_ble_eq_true rfl⟩ (z_ri (fun r9 σ1 hx => ?_)) (fun E9 σ1 hx => ?_)
  · obtain ⟨hk, rfl, hD1, hF⟩ := hx
    refine z_i2l C dL_regionOf_7 ?_
    refine z_last (k := 14) (i := 0) (n := 1) (f := fL) C dL_regionOf_8 ((hF 14 0 (Or.inr (Or.inr rfl))).trans h14) (by decide) in01 ?_
    refine z_goto (tgt := 15) C dL_regionOf_9 (by decide) ?_
    refine z_iconst (v := 0) C dL_regionOf_15 (by decide) ?_
    exact z_iret C hr rfl dL_regionOf_16 (Nat.le_of_ble_eq_true rfl) (Nat.le_of_ble_eq_true rfl) ⟨_, rfl, zLz.ok hk hD1 hF h14⟩

  · obtain ⟨rfl, hk⟩ := hx
    rcases hk with ⟨hk, rfl⟩ | ⟨hk, rfl⟩ | ⟨hk, rfl⟩
    · refine z_catch C hT [] [] (sp := 0) (ep := 9) (hp := 12) (ct := 21) rfl ⟨Nat.le_of_ble_eq_true rfl, Nat.le_of_ble_eq_true rfl⟩ (fun z hz => by cases hz) (by decide) kl_RL_21 (by decide +kernel) (fun q9 => ?_)
      refine z_astore_nQ (i := 3) C dL_regionOf_12 rfl (by decide) ?_
      refine z_iconst (v := 1) C dL_regionOf_13 (by decide) ?_
      exact z_iret C hr rfl dL_regionOf_14 (Nat.le_of_ble_eq_true rfl) (Nat.le_of_ble_eq_true rfl) ⟨_, rfl, zLz.th hk (by decide) hD h14⟩
  
    · exact absurd hk goC_n2
  
    · exact absurd hk goC_n3

set_option maxRecDepth 100000 in
set_option maxHeartbeats 4000000 in
theorem c_L_addSeller {X : zX} (l : Launch) {x : Nat → Int32} {a : Nat → Nat → Int32} {σ : zHp} (hD : DK x a σ) (hI : zIv x a) {fL : Nat → Int64} (h14 : σ 14 0 = some (lC 1 fL)) {o w : Int32} : zMh X l yL_addSeller cL_addSeller 5 (some .int) [(0, 10, 13, 21), (0, 10, 17, 13), (0, 10, 21, 15)] 9 10 200 [aR 0 0, aI o, aI w, aR 14 0] σ (zPi (zLz True (k_addSeller x a o w) (x 11) (upd x 11 (x 11 + 1)) (ua (ua a 12 (upd (a 12) (zN (x 11)) o)) 13 (upd (a 13) (zN (x 11)) w)) x a σ)) zNx := by
  refine zMh.of (by decide +kernel) (Nat.le_of_ble_eq_true rfl) (by simp [zcat, Value.category]) ?_
  intro p e s m args below meth c loc0 C hr hnm hT
  refine z_aload_n (i := 3) C dL_addSeller_0 rfl rfl ?_
  refine z_iconst (v := 0) C dL_addSeller_1 (by decide) ?_
  refine z_aload_n (i := 0) C dL_addSeller_2 rfl rfl ?_
  refine z_iload_n (i := 1) C dL_addSeller_3 rfl rfl ?_
  refine z_iload_n (i := 2) C dL_addSeller_4 rfl rfl ?_
  refine z_callV C Y_X6_addSeller V_X6_addSeller ml_RL_37 (c_X6_addSeller l hD hI.1 hI.2) dL_addSeller_5 rfl rfl hD.1.1 ⟨_, _, rfl⟩ (fun _ => Nat.le_of_ble_eq_true rfl) ⟨Nat.le_of_ble_eq_true rfl, Nat.le_of_ble_eq_true rfl⟩ ⟨Nat.le_of_ble_eq_true rfl, Nat.le_of_ble_eq_true rfl⟩ (z_ri (fun r9 σ1 hx => ?_)) (fun E9 σ1 hx => ?_)
  · obtain ⟨hk, rfl, hD1, hF⟩ := hx
    refine z_i2l C dL_addSeller_8 ?_
    refine z_last (k := 14) (i := 0) (n := 1) (f := fL) C dL_addSeller_9 ((hF 14 0 (Or.inr (Or.inr rfl))).trans h14) (by decide) in01 ?_
    refine z_goto (tgt := 25) C dL_addSeller_10 (by decide) ?_
    refine z_iconst (v := 0) C dL_addSeller_25 (by decide) ?_
    exact z_iret C hr rfl dL_addSeller_26 (Nat.le_of_ble_eq_true rfl) (Nat.le_of_ble_eq_true rfl) ⟨_, rfl, zLz.ok hk hD1 hF h14⟩

  · obtain ⟨rfl, hk⟩ := hx
    rcases hk with ⟨hk, rfl⟩ | ⟨hk, rfl⟩ | ⟨hk, rfl⟩
    · refine z_catch C hT [] [(0, 10, 17, 13), (0, 10, 21, 15)] (sp := 0) (ep := 10) (hp := 13) (ct := 21) rfl ⟨Nat.le_of_ble_eq_true rfl, Nat.le_of_ble_eq_true rfl⟩ (fun z hz => by cases hz) (by decide) kl_RL_21 (by decide +kernel) (fun q9 => ?_)
      refine z_astoreQ C dL_addSeller_13 (by decide) ?_
      refine z_iconst (v := 1) C dL_addSeller_15 (by decide) ?_
      exact z_iret C hr rfl dL_addSeller_16 (Nat.le_of_ble_eq_true rfl) (Nat.le_of_ble_eq_true rfl) ⟨_, rfl, zLz.th hk (by decide) hD h14⟩
  
    · refine z_catch C hT [(0, 10, 13, 21)] [(0, 10, 21, 15)] (sp := 0) (ep := 10) (hp := 17) (ct := 13) rfl ⟨Nat.le_of_ble_eq_true rfl, Nat.le_of_ble_eq_true rfl⟩ (pass1 ⟨by decide, _, kl_RL_21, by decide +kernel⟩) (by decide) kl_RL_13 (by decide +kernel) (fun q9 => ?_)
      refine z_astoreQ C dL_addSeller_17 (by decide) ?_
      refine z_iconst (v := 2) C dL_addSeller_19 (by decide) ?_
      exact z_iret C hr rfl dL_addSeller_20 (Nat.le_of_ble_eq_true rfl) (Nat.le_of_ble_eq_true rfl) ⟨_, rfl, zLz.th hk (by decide) hD h14⟩
  
    · refine z_catch C hT [(0, 10, 13, 21), (0, 10, 17, 13)] [] (sp := 0) (ep := 10) (hp := 21) (ct := 15) rfl ⟨Nat.le_of_ble_eq_true rfl, Nat.le_of_ble_eq_true rfl⟩ (pass2 ⟨by decide, _, kl_RL_21, by decide +kernel⟩ ⟨by decide, _, kl_RL_13, by decide +kernel⟩) (by decide) kl_RL_15 (by decide +kernel) (fun q9 => ?_)
      refine z_astoreQ C dL_addSeller_21 (by decide) ?_
      refine z_iconst (v := 3) C dL_addSeller_23 (by decide) ?_
      exact z_iret C hr rfl dL_addSeller_24 (Nat.le_of_ble_eq_true rfl) (Nat.le_of_ble_eq_true rfl) ⟨_, rfl, zLz.th hk (by decide) hD h14⟩

set_option maxRecDepth 100000 in
set_option maxHeartbeats 4000000 in
theorem c_L_adjust {X : zX} (l : Launch) {x : Nat → Int32} {a : Nat → Nat → Int32} {σ : zHp} (hD : DK x a σ) (hI : zIv x a) {fL : Nat → Int64} (h14 : σ 14 0 = some (lC 1 fL)) {i w : Int32} : zMh X l yL_adjust cL_adjust 5 (some .int) [(0, 10, 13, 21), (0, 10, 17, 13)] 9 10 200 [aR 0 0, aI i, aI w, aR 14 0] σ (zPi (zLz True (k_adjust x a i w) (a 14 (zN i)) (x) (ua a 14 (upd (a 14) (zN i) w)) x a σ)) zNx := by
  refine zMh.of (by decide +kernel) (Nat.le_of_ble_eq_true rfl) (by simp [zcat, Value.category]) ?_
  intro p e s m args below meth c loc0 C hr hnm hT
  refine z_aload_n (i := 3) C dL_adjust_0 rfl rfl ?_
  refine z_iconst (v := 0) C dL_adjust_1 (by decide) ?_
  refine z_aload_n (i := 0) C dL_adjust_2 rfl rfl ?_
  refine z_iload_n (i := 1) C dL_adjust_3 rfl rfl ?_
  refine z_iload_n (i := 2) C dL_adjust_4 rfl rfl ?_
  refine z_callV C Y_X6_adjust V_X6_adjust ml_RL_40 (c_X6_adjust l hD hI.1) dL_adjust_5 rfl rfl hD.1.1 ⟨_, _, rfl⟩ (fun _ => Nat.le_of_ble_eq_true rfl) ⟨Nat.le_of_ble_eq_true rfl, Nat.le_of_ble_eq_true rfl⟩ ⟨Nat.le_of_ble_eq_true rfl, Nat.le_of_ble_eq_true rfl⟩ (z_ri (fun r9 σ1 hx => ?_)) (fun E9 σ1 hx => ?_)
  · obtain ⟨hk, rfl, hD1, hF⟩ := hx
    refine z_i2l C dL_adjust_8 ?_
    refine z_last (k := 14) (i := 0) (n := 1) (f := fL) C dL_adjust_9 ((hF 14 0 (Or.inr (Or.inr rfl))).trans h14) (by decide) in01 ?_
    refine z_goto (tgt := 21) C dL_adjust_10 (by decide) ?_
    refine z_iconst (v := 0) C dL_adjust_21 (by decide) ?_
    exact z_iret C hr rfl dL_adjust_22 (Nat.le_of_ble_eq_true rfl) (Nat.le_of_ble_eq_true rfl) ⟨_, rfl, zLz.ok hk hD1 hF h14⟩

  · obtain ⟨rfl, hk⟩ := hx
    rcases hk with ⟨hk, rfl⟩ | ⟨hk, rfl⟩ | ⟨hk, rfl⟩
    · refine z_catch C hT [] [(0, 10, 17, 13)] (sp := 0) (ep := 10) (hp := 13) (ct := 21) rfl ⟨Nat.le_of_ble_eq_true rfl, Nat.le_of_ble_eq_true rfl⟩ (fun z hz => by cases hz) (by decide) kl_RL_21 (by decide +kernel) (fun q9 => ?_)
      refine z_astoreQ C dL_adjust_13 (by decide) ?_
      refine z_iconst (v := 1) C dL_adjust_15 (by decide) ?_
      exact z_iret C hr rfl dL_adjust_16 (Nat.le_of_ble_eq_true rfl) (Nat.le_of_ble_eq_true rfl) ⟨_, rfl, zLz.th hk (by decide) hD h14⟩
  
    · refine z_catch C hT [(0, 10, 13, 21)] [] (sp := 0) (ep := 10) (hp := 17) (ct := 13) rfl ⟨Nat.le_of_ble_eq_true rfl, Nat.le_of_ble_eq_true rfl⟩ (pass1 ⟨by decide, _, kl_RL_21, by decide +kernel⟩) (by decide) kl_RL_13 (by decide +kernel) (fun q9 => ?_)
      refine z_astoreQ C dL_adjust_17 (by decide) ?_
      refine z_iconst (v := 2) C dL_adjust_19 (by decide) ?_
      exact z_iret C hr rfl dL_adjust_20 (Nat.le_of_ble_eq_true rfl) (Nat.le_of_ble_eq_true rfl) ⟨_, rfl, zLz.th hk (by decide) hD h14⟩
  
    · exact absurd hk goC_n3

set_option maxRecDepth 100000 in
set_option maxHeartbeats 4000000 in
theorem c_L_addChance {X : zX} (l : Launch) {x : Nat → Int32} {a : Nat → Nat → Int32} {σ : zHp} (hD : DK x a σ) (hI : zIv x a) {fL : Nat → Int64} (h14 : σ 14 0 = some (lC 1 fL)) {i j w : Int32} : zMh X l yL_addChance cL_addChance 6 (some .int) [(0, 12, 15, 21), (0, 12, 19, 13), (0, 12, 23, 15)] 9 10 200 [aR 0 0, aI i, aI j, aI w, aR 14 0] σ (zPi (zLz True (k_addChance x a i j w) (x 15) (upd x 15 (x 15 + 1)) (ua (ua (ua (ua a 16 (upd (a 16) (zN (x 15)) i)) 17 (upd (a 17) (zN (x 15)) w)) 19 (upd (a 19) (zN (x 15)) (x 0))) 21 (upd (a 21) (8 * zN (x 15) + zN j) 100)) x a σ)) zNx := by
  refine zMh.of (by decide +kernel) (Nat.le_of_ble_eq_true rfl) (by simp [zcat, Value.category]) ?_
  intro p e s m args below meth c loc0 C hr hnm hT
  refine z_aload C dL_addChance_0 rfl ?_
  refine z_iconst (v := 0) C dL_addChance_2 (by decide) ?_
  refine z_aload_n (i := 0) C dL_addChance_3 rfl rfl ?_
  refine z_iload_n (i := 1) C dL_addChance_4 rfl rfl ?_
  refine z_iload_n (i := 2) C dL_addChance_5 rfl rfl ?_
  refine z_iload_n (i := 3) C dL_addChance_6 rfl rfl ?_
  refine z_callV C Y_X6_addChance V_X6_addChance ml_RL_43 (c_X6_addChance l hD hI.1 hI.2) dL_addChance_7 rfl rfl hD.1.1 ⟨_, _, rfl⟩ (fun _ => Nat.le_of_ble_eq_true rfl) ⟨Nat.le_of_ble_eq_true rfl, Nat.le_of_ble_eq_true rfl⟩ ⟨Nat.le_of_ble_eq_true rfl, Nat.le_of_ble_eq_true rfl⟩ (z_ri (fun r9 σ1 hx => ?_)) (fun E9 σ1 hx => ?_)
  · obtain ⟨hk, rfl, hD1, hF⟩ := hx
    refine z_i2l C dL_addChance_10 ?_
    refine z_last (k := 14) (i := 0) (n := 1) (f := fL) C dL_addChance_11 ((hF 14 0 (Or.inr (Or.inr rfl))).trans h14) (by decide) in01 ?_
    refine z_goto (tgt := 27) C dL_addChance_12 (by decide) ?_
    refine z_iconst (v := 0) C dL_addChance_27 (by decide) ?_
    exact z_iret C hr rfl dL_addChance_28 (Nat.le_of_ble_eq_true rfl) (Nat.le_of_ble_eq_true rfl) ⟨_, rfl, zLz.ok hk hD1 hF h14⟩

  · obtain ⟨rfl, hk⟩ := hx
    rcases hk with ⟨hk, rfl⟩ | ⟨hk, rfl⟩ | ⟨hk, rfl⟩
    · refine z_catch C hT [] [(0, 12, 19, 13), (0, 12, 23, 15)] (sp := 0) (ep := 12) (hp := 15) (ct := 21) rfl ⟨Nat.le_of_ble_eq_true rfl, Nat.le_of_ble_eq_true rfl⟩ (fun z hz => by cases hz) (by decide) kl_RL_21 (by decide +kernel) (fun q9 => ?_)
      refine z_astoreQ C dL_addChance_15 (by decide) ?_
      refine z_iconst (v := 1) C dL_addChance_17 (by decide) ?_
      exact z_iret C hr rfl dL_addChance_18 (Nat.le_of_ble_eq_true rfl) (Nat.le_of_ble_eq_true rfl) ⟨_, rfl, zLz.th hk (by decide) hD h14⟩
  
    · refine z_catch C hT [(0, 12, 15, 21)] [(0, 12, 23, 15)] (sp := 0) (ep := 12) (hp := 19) (ct := 13) rfl ⟨Nat.le_of_ble_eq_true rfl, Nat.le_of_ble_eq_true rfl⟩ (pass1 ⟨by decide, _, kl_RL_21, by decide +kernel⟩) (by decide) kl_RL_13 (by decide +kernel) (fun q9 => ?_)
      refine z_astoreQ C dL_addChance_19 (by decide) ?_
      refine z_iconst (v := 2) C dL_addChance_21 (by decide) ?_
      exact z_iret C hr rfl dL_addChance_22 (Nat.le_of_ble_eq_true rfl) (Nat.le_of_ble_eq_true rfl) ⟨_, rfl, zLz.th hk (by decide) hD h14⟩
  
    · refine z_catch C hT [(0, 12, 15, 21), (0, 12, 19, 13)] [] (sp := 0) (ep := 12) (hp := 23) (ct := 15) rfl ⟨Nat.le_of_ble_eq_true rfl, Nat.le_of_ble_eq_true rfl⟩ (pass2 ⟨by decide, _, kl_RL_21, by decide +kernel⟩ ⟨by decide, _, kl_RL_13, by decide +kernel⟩) (by decide) kl_RL_15 (by decide +kernel) (fun q9 => ?_)
      refine z_astoreQ C dL_addChance_23 (by decide) ?_
      refine z_iconst (v := 3) C dL_addChance_25 (by decide) ?_
      exact z_iret C hr rfl dL_addChance_26 (Nat.le_of_ble_eq_true rfl) (Nat.le_of_ble_eq_true rfl) ⟨_, rfl, zLz.th hk (by decide) hD h14⟩

set_option maxRecDepth 100000 in
set_option maxHeartbeats 4000000 in
theorem c_L_giveShare {X : zX} (l : Launch) {x : Nat → Int32} {a : Nat → Nat → Int32} {σ : zHp} (hD : DK x a σ) (hI : zIv x a) {fL : Nat → Int64} (h14 : σ 14 0 = some (lC 1 fL)) {i j t w : Int32} : zMh X l yL_giveShare cL_giveShare 7 (some .int) [(0, 14, 17, 21), (0, 14, 21, 13), (0, 14, 25, 15)] 9 10 200 [aR 0 0, aI i, aI j, aI t, aI w, aR 14 0] σ (zPi (zLz True (k_giveShare x a i j t w) (upd (upd (a 21) (8 * zN i + zN j) (a 21 (8 * zN i + zN j) - w)) (8 * zN i + zN t) ((upd (a 21) (8 * zN i + zN j) (a 21 (8 * zN i + zN j) - w)) (8 * zN i + zN t) + w) (8 * zN i + zN t)) (x) (ua (ua a 21 (upd (a 21) (8 * zN i + zN j) (a 21 (8 * zN i + zN j) - w))) 21 (upd (upd (a 21) (8 * zN i + zN j) (a 21 (8 * zN i + zN j) - w)) (8 * zN i + zN t) ((upd (a 21) (8 * zN i + zN j) (a 21 (8 * zN i + zN j) - w)) (8 * zN i + zN t) + w))) x a σ)) zNx := by
  refine zMh.of (by decide +kernel) (Nat.le_of_ble_eq_true rfl) (by simp [zcat, Value.category]) ?_
  intro p e s m args below meth c loc0 C hr hnm hT
  refine z_aload C dL_giveShare_0 rfl ?_
  refine z_iconst (v := 0) C dL_giveShare_2 (by decide) ?_
  refine z_aload_n (i := 0) C dL_giveShare_3 rfl rfl ?_
  refine z_iload_n (i := 1) C dL_giveShare_4 rfl rfl ?_
  refine z_iload_n (i := 2) C dL_giveShare_5 rfl rfl ?_
  refine z_iload_n (i := 3) C dL_giveShare_6 rfl rfl ?_
  refine z_iload C dL_giveShare_7 rfl ?_
  refine z_callV C Y_X6_giveShare V_X6_giveShare ml_RL_46 (c_X6_giveShare l hD hI.1) dL_giveShare_9 rfl rfl hD.1.1 ⟨_, _, rfl⟩ (fun _ => Nat.le_of_ble_eq_true rfl) ⟨Nat.le_of_ble_eq_true rfl, Nat.le_of_ble_eq_true rfl⟩ ⟨Nat.le_of_ble_eq_true rfl, Nat.le_of_ble_eq_true rfl⟩ (z_ri (fun r9 σ1 hx => ?_)) (fun E9 σ1 hx => ?_)
  · obtain ⟨hk, rfl, hD1, hF⟩ := hx
    refine z_i2l C dL_giveShare_12 ?_
    refine z_last (k := 14) (i := 0) (n := 1) (f := fL) C dL_giveShare_13 ((hF 14 0 (Or.inr (Or.inr rfl))).trans h14) (by decide) in01 ?_
    refine z_goto (tgt := 29) C dL_giveShare_14 (by decide) ?_
    refine z_iconst (v := 0) C dL_giveShare_29 (by decide) ?_
    exact z_iret C hr rfl dL_giveShare_30 (Nat.le_of_ble_eq_true rfl) (Nat.le_of_ble_eq_true rfl) ⟨_, rfl, zLz.ok hk hD1 hF h14⟩

  · obtain ⟨rfl, hk⟩ := hx
    rcases hk with ⟨hk, rfl⟩ | ⟨hk, rfl⟩ | ⟨hk, rfl⟩
    · refine z_catch C hT [] [(0, 14, 21, 13), (0, 14, 25, 15)] (sp := 0) (ep := 14) (hp := 17) (ct := 21) rfl ⟨Nat.le_of_ble_eq_true rfl, Nat.le_of_ble_eq_true rfl⟩ (fun z hz => by cases hz) (by decide) kl_RL_21 (by decide +kernel) (fun q9 => ?_)
      refine z_astoreQ C dL_giveShare_17 (by decide) ?_
      refine z_iconst (v := 1) C dL_giveShare_19 (by decide) ?_
      exact z_iret C hr rfl dL_giveShare_20 (Nat.le_of_ble_eq_true rfl) (Nat.le_of_ble_eq_true rfl) ⟨_, rfl, zLz.th hk (by decide) hD h14⟩
  
    · refine z_catch C hT [(0, 14, 17, 21)] [(0, 14, 25, 15)] (sp := 0) (ep := 14) (hp := 21) (ct := 13) rfl ⟨Nat.le_of_ble_eq_true rfl, Nat.le_of_ble_eq_true rfl⟩ (pass1 ⟨by decide, _, kl_RL_21, by decide +kernel⟩) (by decide) kl_RL_13 (by decide +kernel) (fun q9 => ?_)
      refine z_astoreQ C dL_giveShare_21 (by decide) ?_
      refine z_iconst (v := 2) C dL_giveShare_23 (by decide) ?_
      exact z_iret C hr rfl dL_giveShare_24 (Nat.le_of_ble_eq_true rfl) (Nat.le_of_ble_eq_true rfl) ⟨_, rfl, zLz.th hk (by decide) hD h14⟩
  
    · refine z_catch C hT [(0, 14, 17, 21), (0, 14, 21, 13)] [] (sp := 0) (ep := 14) (hp := 25) (ct := 15) rfl ⟨Nat.le_of_ble_eq_true rfl, Nat.le_of_ble_eq_true rfl⟩ (pass2 ⟨by decide, _, kl_RL_21, by decide +kernel⟩ ⟨by decide, _, kl_RL_13, by decide +kernel⟩) (by decide) kl_RL_15 (by decide +kernel) (fun q9 => ?_)
      refine z_astoreQ C dL_giveShare_25 (by decide) ?_
      refine z_iconst (v := 3) C dL_giveShare_27 (by decide) ?_
      exact z_iret C hr rfl dL_giveShare_28 (Nat.le_of_ble_eq_true rfl) (Nat.le_of_ble_eq_true rfl) ⟨_, rfl, zLz.th hk (by decide) hD h14⟩

set_option maxRecDepth 100000 in
set_option maxHeartbeats 4000000 in
theorem c_L_move {X : zX} (l : Launch) {x : Nat → Int32} {a : Nat → Nat → Int32} {σ : zHp} (hD : DK x a σ) (hI : zIv x a) {fL : Nat → Int64} (h14 : σ 14 0 = some (lC 1 fL)) {i w : Int32} : zMh X l yL_move cL_move 5 (some .int) [(0, 10, 13, 21), (0, 10, 17, 13), (0, 10, 21, 15)] 9 10 200 [aR 0 0, aI i, aI w, aR 14 0] σ (zPi (zLz True (k_move x a i w) (x 0 - a 19 (zN i)) (x) (ua (ua (ua (ua a 22 (upd (a 22) (6 * zN i + zN (a 18 (zN i))) (a 22 (6 * zN i + zN (a 18 (zN i))) + (x 0 - a 19 (zN i))))) 18 (upd (a 18) (zN i) w)) 19 (upd (a 19) (zN i) (x 0))) 20 (upd (a 20) (zN i) (regS x a (zN (a 16 (zN i)))))) x a σ)) zNx := by
  refine zMh.of (by decide +kernel) (Nat.le_of_ble_eq_true rfl) (by simp [zcat, Value.category]) ?_
  intro p e s m args below meth c loc0 C hr hnm hT
  refine z_aload_n (i := 3) C dL_move_0 rfl rfl ?_
  refine z_iconst (v := 0) C dL_move_1 (by decide) ?_
  refine z_aload_n (i := 0) C dL_move_2 rfl rfl ?_
  refine z_iload_n (i := 1) C dL_move_3 rfl rfl ?_
  refine z_iload_n (i := 2) C dL_move_4 rfl rfl ?_
  refine z_callV C Y_X6_move V_X6_move ml_RL_50 (c_X6_move l hD hI.1 hI.2) dL_move_5 rfl rfl hD.1.1 ⟨_, _, rfl⟩ (fun _ => Nat.le_of_ble_eq_true rfl) ⟨Nat.le_of_ble_eq_true rfl, Nat.le_of_ble_eq_true rfl⟩ ⟨Nat.le_of_ble_eq_true rfl, Nat.le_of_ble_eq_true rfl⟩ (z_ri (fun r9 σ1 hx => ?_)) (fun E9 σ1 hx => ?_)
  · obtain ⟨hk, rfl, hD1, hF⟩ := hx
    refine z_i2l C dL_move_8 ?_
    refine z_last (k := 14) (i := 0) (n := 1) (f := fL) C dL_move_9 ((hF 14 0 (Or.inr (Or.inr rfl))).trans h14) (by decide) in01 ?_
    refine z_goto (tgt := 25) C dL_move_10 (by decide) ?_
    refine z_iconst (v := 0) C dL_move_25 (by decide) ?_
    exact z_iret C hr rfl dL_move_26 (Nat.le_of_ble_eq_true rfl) (Nat.le_of_ble_eq_true rfl) ⟨_, rfl, zLz.ok hk hD1 hF h14⟩

  · obtain ⟨rfl, hk⟩ := hx
    rcases hk with ⟨hk, rfl⟩ | ⟨hk, rfl⟩ | ⟨hk, rfl⟩
    · refine z_catch C hT [] [(0, 10, 17, 13), (0, 10, 21, 15)] (sp := 0) (ep := 10) (hp := 13) (ct := 21) rfl ⟨Nat.le_of_ble_eq_true rfl, Nat.le_of_ble_eq_true rfl⟩ (fun z hz => by cases hz) (by decide) kl_RL_21 (by decide +kernel) (fun q9 => ?_)
      refine z_astoreQ C dL_move_13 (by decide) ?_
      refine z_iconst (v := 1) C dL_move_15 (by decide) ?_
      exact z_iret C hr rfl dL_move_16 (Nat.le_of_ble_eq_true rfl) (Nat.le_of_ble_eq_true rfl) ⟨_, rfl, zLz.th hk (by decide) hD h14⟩
  
    · refine z_catch C hT [(0, 10, 13, 21)] [(0, 10, 21, 15)] (sp := 0) (ep := 10) (hp := 17) (ct := 13) rfl ⟨Nat.le_of_ble_eq_true rfl, Nat.le_of_ble_eq_true rfl⟩ (pass1 ⟨by decide, _, kl_RL_21, by decide +kernel⟩) (by decide) kl_RL_13 (by decide +kernel) (fun q9 => ?_)
      refine z_astoreQ C dL_move_17 (by decide) ?_
      refine z_iconst (v := 2) C dL_move_19 (by decide) ?_
      exact z_iret C hr rfl dL_move_20 (Nat.le_of_ble_eq_true rfl) (Nat.le_of_ble_eq_true rfl) ⟨_, rfl, zLz.th hk (by decide) hD h14⟩
  
    · refine z_catch C hT [(0, 10, 13, 21), (0, 10, 17, 13)] [] (sp := 0) (ep := 10) (hp := 21) (ct := 15) rfl ⟨Nat.le_of_ble_eq_true rfl, Nat.le_of_ble_eq_true rfl⟩ (pass2 ⟨by decide, _, kl_RL_21, by decide +kernel⟩ ⟨by decide, _, kl_RL_13, by decide +kernel⟩) (by decide) kl_RL_15 (by decide +kernel) (fun q9 => ?_)
      refine z_astoreQ C dL_move_21 (by decide) ?_
      refine z_iconst (v := 3) C dL_move_23 (by decide) ?_
      exact z_iret C hr rfl dL_move_24 (Nat.le_of_ble_eq_true rfl) (Nat.le_of_ble_eq_true rfl) ⟨_, rfl, zLz.th hk (by decide) hD h14⟩

set_option maxRecDepth 100000 in
set_option maxHeartbeats 4000000 in
theorem c_L_stage {X : zX} (l : Launch) {x : Nat → Int32} {a : Nat → Nat → Int32} {σ : zHp} (hD : DK x a σ) (hI : zIv x a) {fL : Nat → Int64} (h14 : σ 14 0 = some (lC 1 fL)) {i : Int32} : zMh X l yL_stage cL_stage 4 (some .int) [(0, 9, 12, 21)] 9 10 200 [aR 0 0, aI i, aR 14 0] σ (zPi (zLz True (k_stage x a i) (a 18 (zN i)) (x) (a) x a σ)) zNx := by
  refine zMh.of (by decide +kernel) (Nat.le_of_ble_eq_true rfl) (by simp [zcat, Value.category]) ?_
  intro p e s m args below meth c loc0 C hr hnm hT
  refine z_aload_n (i := 2) C dL_stage_0 rfl rfl ?_
  refine z_iconst (v := 0) C dL_stage_1 (by decide) ?_
  refine z_aload_n (i := 0) C dL_stage_2 rfl rfl ?_
  refine z_iload_n (i := 1) C dL_stage_3 rfl rfl ?_
  refine z_callV C Y_X6_stage V_X6_stage ml_RL_53 (c_X6_stage l hD hI.1) dL_stage_4 rfl rfl hD.1.1 ⟨_, _, rfl⟩ (fun _ => Nat.le_of_ble_eq_true rfl) ⟨Nat.le_of_ble_eq_true rfl, Nat.le_of_ble_eq_true rfl⟩ ⟨Nat.le_of_ble_eq_true rfl, Nat.le_of_ble_eq_true rfl⟩ (z_ri (fun r9 σ1 hx => ?_)) (fun E9 σ1 hx => ?_)
  · obtain ⟨hk, rfl, hD1, hF⟩ := hx
    refine z_i2l C dL_stage_7 ?_
    refine z_last (k := 14) (i := 0) (n := 1) (f := fL) C dL_stage_8 ((hF 14 0 (Or.inr (Or.inr rfl))).trans h14) (by decide) in01 ?_
    refine z_goto (tgt := 15) C dL_stage_9 (by decide) ?_
    refine z_iconst (v := 0) C dL_stage_15 (by decide) ?_
    exact z_iret C hr rfl dL_stage_16 (Nat.le_of_ble_eq_true rfl) (Nat.le_of_ble_eq_true rfl) ⟨_, rfl, zLz.ok hk hD1 hF h14⟩

  · obtain ⟨rfl, hk⟩ := hx
    rcases hk with ⟨hk, rfl⟩ | ⟨hk, rfl⟩ | ⟨hk, rfl⟩
    · refine z_catch C hT [] [] (sp := 0) (ep := 9) (hp := 12) (ct := 21) rfl ⟨Nat.le_of_ble_eq_true rfl, Nat.le_of_ble_eq_true rfl⟩ (fun z hz => by cases hz) (by decide) kl_RL_21 (by decide +kernel) (fun q9 => ?_)
      refine z_astore_nQ (i := 3) C dL_stage_12 rfl (by decide) ?_
      refine z_iconst (v := 1) C dL_stage_13 (by decide) ?_
      exact z_iret C hr rfl dL_stage_14 (Nat.le_of_ble_eq_true rfl) (Nat.le_of_ble_eq_true rfl) ⟨_, rfl, zLz.th hk (by decide) hD h14⟩
  
    · exact absurd hk goC_n2
  
    · exact absurd hk goC_n3

set_option maxRecDepth 100000 in
set_option maxHeartbeats 4000000 in
theorem c_L_daysIn {X : zX} (l : Launch) {x : Nat → Int32} {a : Nat → Nat → Int32} {σ : zHp} (hD : DK x a σ) (hI : zIv x a) {fL : Nat → Int64} (h14 : σ 14 0 = some (lC 1 fL)) {i w : Int32} : zMh X l yL_daysIn cL_daysIn 5 (some .int) [(0, 10, 13, 21), (0, 10, 17, 13)] 9 10 200 [aR 0 0, aI i, aI w, aR 14 0] σ (zPi (zLz True (k_daysIn x a i w) (a 22 (6 * zN i + zN w) + (if a 18 (zN i) = w then x 0 - a 19 (zN i) else 0)) (x) (a) x a σ)) zNx := by
  refine zMh.of (by decide +kernel) (Nat.le_of_ble_eq_true rfl) (by simp [zcat, Value.category]) ?_
  intro p e s m args below meth c loc0 C hr hnm hT
  refine z_aload_n (i := 3) C dL_daysIn_0 rfl rfl ?_
  refine z_iconst (v := 0) C dL_daysIn_1 (by decide) ?_
  refine z_aload_n (i := 0) C dL_daysIn_2 rfl rfl ?_
  refine z_iload_n (i := 1) C dL_daysIn_3 rfl rfl ?_
  refine z_iload_n (i := 2) C dL_daysIn_4 rfl rfl ?_
  refine z_callV C Y_X6_daysIn V_X6_daysIn ml_RL_56 (c_X6_daysIn l hD hI.1) dL_daysIn_5 rfl rfl hD.1.1 ⟨_, _, rfl⟩ (fun _ => Nat.le_of_ble_eq_true rfl) ⟨Nat.le_of_ble_eq_true rfl, Nat.le_of_ble_eq_true rfl⟩ ⟨Nat.le_of_ble_eq_true rfl, Nat.le_of_ble_eq_true rfl⟩ (z_ri (fun r9 σ1 hx => ?_)) (fun E9 σ1 hx => ?_)
  · obtain ⟨hk, rfl, hD1, hF⟩ := hx
    refine z_i2l C dL_daysIn_8 ?_
    refine z_last (k := 14) (i := 0) (n := 1) (f := fL) C dL_daysIn_9 ((hF 14 0 (Or.inr (Or.inr rfl))).trans h14) (by decide) in01 ?_
    refine z_goto (tgt := 21) C dL_daysIn_10 (by decide) ?_
    refine z_iconst (v := 0) C dL_daysIn_21 (by decide) ?_
    exact z_iret C hr rfl dL_daysIn_22 (Nat.le_of_ble_eq_true rfl) (Nat.le_of_ble_eq_true rfl) ⟨_, rfl, zLz.ok hk hD1 hF h14⟩

  · obtain ⟨rfl, hk⟩ := hx
    rcases hk with ⟨hk, rfl⟩ | ⟨hk, rfl⟩ | ⟨hk, rfl⟩
    · refine z_catch C hT [] [(0, 10, 17, 13)] (sp := 0) (ep := 10) (hp := 13) (ct := 21) rfl ⟨Nat.le_of_ble_eq_true rfl, Nat.le_of_ble_eq_true rfl⟩ (fun z hz => by cases hz) (by decide) kl_RL_21 (by decide +kernel) (fun q9 => ?_)
      refine z_astoreQ C dL_daysIn_13 (by decide) ?_
      refine z_iconst (v := 1) C dL_daysIn_15 (by decide) ?_
      exact z_iret C hr rfl dL_daysIn_16 (Nat.le_of_ble_eq_true rfl) (Nat.le_of_ble_eq_true rfl) ⟨_, rfl, zLz.th hk (by decide) hD h14⟩
  
    · refine z_catch C hT [(0, 10, 13, 21)] [] (sp := 0) (ep := 10) (hp := 17) (ct := 13) rfl ⟨Nat.le_of_ble_eq_true rfl, Nat.le_of_ble_eq_true rfl⟩ (pass1 ⟨by decide, _, kl_RL_21, by decide +kernel⟩) (by decide) kl_RL_13 (by decide +kernel) (fun q9 => ?_)
      refine z_astoreQ C dL_daysIn_17 (by decide) ?_
      refine z_iconst (v := 2) C dL_daysIn_19 (by decide) ?_
      exact z_iret C hr rfl dL_daysIn_20 (Nat.le_of_ble_eq_true rfl) (Nat.le_of_ble_eq_true rfl) ⟨_, rfl, zLz.th hk (by decide) hD h14⟩
  
    · exact absurd hk goC_n3

set_option maxRecDepth 100000 in
set_option maxHeartbeats 4000000 in
theorem c_L_stalled {X : zX} (l : Launch) {x : Nat → Int32} {a : Nat → Nat → Int32} {σ : zHp} (hD : DK x a σ) (hI : zIv x a) {fL : Nat → Int64} (h14 : σ 14 0 = some (lC 1 fL)) {w : Int32} : zMh X l yL_stalled cL_stalled 4 (some .int) [(0, 9, 12, 13)] 9 10 200 [aR 0 0, aI w, aR 14 0] σ (zPi (zLz True (k_stalled x a w) (stlL x a w (zN (x 15))) (x) (a) x a σ)) zNx := by
  refine zMh.of (by decide +kernel) (Nat.le_of_ble_eq_true rfl) (by simp [zcat, Value.category]) ?_
  intro p e s m args below meth c loc0 C hr hnm hT
  refine z_aload_n (i := 2) C dL_stalled_0 rfl rfl ?_
  refine z_iconst (v := 0) C dL_stalled_1 (by decide) ?_
  refine z_aload_n (i := 0) C dL_stalled_2 rfl rfl ?_
  refine z_iload_n (i := 1) C dL_stalled_3 rfl rfl ?_
  refine z_callV C Y_X6_stalled V_X6_stalled ml_RL_59 (c_X6_stalled l hD hI.1) dL_stalled_4 rfl rfl hD.1.1 ⟨_, _, rfl⟩ (fun _ => Nat.le_of_ble_eq_true rfl) ⟨Nat.le_of_ble_eq_true rfl, Nat.le_of_ble_eq_true rfl⟩ ⟨Nat.le_of_ble_eq_true rfl, Nat.le_of_ble_eq_true rfl⟩ (z_ri (fun r9 σ1 hx => ?_)) (fun E9 σ1 hx => ?_)
  · obtain ⟨hk, rfl, hD1, hF⟩ := hx
    refine z_i2l C dL_stalled_7 ?_
    refine z_last (k := 14) (i := 0) (n := 1) (f := fL) C dL_stalled_8 ((hF 14 0 (Or.inr (Or.inr rfl))).trans h14) (by decide) in01 ?_
    refine z_goto (tgt := 15) C dL_stalled_9 (by decide) ?_
    refine z_iconst (v := 0) C dL_stalled_15 (by decide) ?_
    exact z_iret C hr rfl dL_stalled_16 (Nat.le_of_ble_eq_true rfl) (Nat.le_of_ble_eq_true rfl) ⟨_, rfl, zLz.ok hk hD1 hF h14⟩

  · obtain ⟨rfl, hk⟩ := hx
    rcases hk with ⟨hk, rfl⟩ | ⟨hk, rfl⟩ | ⟨hk, rfl⟩
    · refine z_catch C hT [] [] (sp := 0) (ep := 9) (hp := 12) (ct := 13) rfl ⟨Nat.le_of_ble_eq_true rfl, Nat.le_of_ble_eq_true rfl⟩ (fun z hz => by cases hz) (by decide) kl_RL_13 (by decide +kernel) (fun q9 => ?_)
      refine z_astore_nQ (i := 3) C dL_stalled_12 rfl (by decide) ?_
      refine z_iconst (v := 1) C dL_stalled_13 (by decide) ?_
      exact z_iret C hr rfl dL_stalled_14 (Nat.le_of_ble_eq_true rfl) (Nat.le_of_ble_eq_true rfl) ⟨_, rfl, zLz.th hk (by decide) hD h14⟩
  
    · exact absurd hk goC_n2
  
    · exact absurd hk goC_n3

set_option maxRecDepth 100000 in
set_option maxHeartbeats 4000000 in
theorem c_L_worth {X : zX} (l : Launch) {x : Nat → Int32} {a : Nat → Nat → Int32} {σ : zHp} (hD : DK x a σ) (hI : zIv x a) {fL : Nat → Int64} (h14 : σ 14 0 = some (lC 1 fL)) {i : Int32} : zMh X l yL_worth cL_worth 4 (some .int) [(0, 9, 12, 21)] 9 10 200 [aR 0 0, aI i, aR 14 0] σ (zPi (zLz True (k_worth x a i) (wrt x a (zN i)) (x) (a) x a σ)) zNx := by
  refine zMh.of (by decide +kernel) (Nat.le_of_ble_eq_true rfl) (by simp [zcat, Value.category]) ?_
  intro p e s m args below meth c loc0 C hr hnm hT
  refine z_aload_n (i := 2) C dL_worth_0 rfl rfl ?_
  refine z_iconst (v := 0) C dL_worth_1 (by decide) ?_
  refine z_aload_n (i := 0) C dL_worth_2 rfl rfl ?_
  refine z_iload_n (i := 1) C dL_worth_3 rfl rfl ?_
  refine z_callV C Y_X6_worth V_X6_worth ml_RL_62 (c_X6_worth l hD hI.1) dL_worth_4 rfl rfl hD.1.1 ⟨_, _, rfl⟩ (fun _ => Nat.le_of_ble_eq_true rfl) ⟨Nat.le_of_ble_eq_true rfl, Nat.le_of_ble_eq_true rfl⟩ ⟨Nat.le_of_ble_eq_true rfl, Nat.le_of_ble_eq_true rfl⟩ (z_ri (fun r9 σ1 hx => ?_)) (fun E9 σ1 hx => ?_)
  · obtain ⟨hk, rfl, hD1, hF⟩ := hx
    refine z_i2l C dL_worth_7 ?_
    refine z_last (k := 14) (i := 0) (n := 1) (f := fL) C dL_worth_8 ((hF 14 0 (Or.inr (Or.inr rfl))).trans h14) (by decide) in01 ?_
    refine z_goto (tgt := 15) C dL_worth_9 (by decide) ?_
    refine z_iconst (v := 0) C dL_worth_15 (by decide) ?_
    exact z_iret C hr rfl dL_worth_16 (Nat.le_of_ble_eq_true rfl) (Nat.le_of_ble_eq_true rfl) ⟨_, rfl, zLz.ok hk hD1 hF h14⟩

  · obtain ⟨rfl, hk⟩ := hx
    rcases hk with ⟨hk, rfl⟩ | ⟨hk, rfl⟩ | ⟨hk, rfl⟩
    · refine z_catch C hT [] [] (sp := 0) (ep := 9) (hp := 12) (ct := 21) rfl ⟨Nat.le_of_ble_eq_true rfl, Nat.le_of_ble_eq_true rfl⟩ (fun z hz => by cases hz) (by decide) kl_RL_21 (by decide +kernel) (fun q9 => ?_)
      refine z_astore_nQ (i := 3) C dL_worth_12 rfl (by decide) ?_
      refine z_iconst (v := 1) C dL_worth_13 (by decide) ?_
      exact z_iret C hr rfl dL_worth_14 (Nat.le_of_ble_eq_true rfl) (Nat.le_of_ble_eq_true rfl) ⟨_, rfl, zLz.th hk (by decide) hD h14⟩
  
    · exact absurd hk goC_n2
  
    · exact absurd hk goC_n3

set_option maxRecDepth 100000 in
set_option maxHeartbeats 4000000 in
theorem c_L_inRegion {X : zX} (l : Launch) {x : Nat → Int32} {a : Nat → Nat → Int32} {σ : zHp} (hD : DK x a σ) (hI : zIv x a) {fL : Nat → Int64} (h14 : σ 14 0 = some (lC 1 fL)) {w t : Int32} : zMh X l yL_inRegion cL_inRegion 5 (some .int) [(0, 10, 13, 13)] 9 10 200 [aR 0 0, aI w, aI t, aR 14 0] σ (zPi (zLz True (k_inRegion x a w t) (inrL x a w t (zN (x 15))) (x) (a) x a σ)) zNx := by
  refine zMh.of (by decide +kernel) (Nat.le_of_ble_eq_true rfl) (by simp [zcat, Value.category]) ?_
  intro p e s m args below meth c loc0 C hr hnm hT
  refine z_aload_n (i := 3) C dL_inRegion_0 rfl rfl ?_
  refine z_iconst (v := 0) C dL_inRegion_1 (by decide) ?_
  refine z_aload_n (i := 0) C dL_inRegion_2 rfl rfl ?_
  refine z_iload_n (i := 1) C dL_inRegion_3 rfl rfl ?_
  refine z_iload_n (i := 2) C dL_inRegion_4 rfl rfl ?_
  refine z_callV C Y_X6_inRegion V_X6_inRegion ml_RL_65 (c_X6_inRegion l hD hI.1) dL_inRegion_5 rfl rfl hD.1.1 ⟨_, _, rfl⟩ (fun _ => Nat.le_of_ble_eq_true rfl) ⟨Nat.le_of_ble_eq_true rfl, Nat.le_of_ble_eq_true rfl⟩ ⟨Nat.le_of_ble_eq_true rfl, Nat.le_of_ble_eq_true rfl⟩ (z_ri (fun r9 σ1 hx => ?_)) (fun E9 σ1 hx => ?_)
  · obtain ⟨hk, rfl, hD1, hF⟩ := hx
    refine z_i2l C dL_inRegion_8 ?_
    refine z_last (k := 14) (i := 0) (n := 1) (f := fL) C dL_inRegion_9 ((hF 14 0 (Or.inr (Or.inr rfl))).trans h14) (by decide) in01 ?_
    refine z_goto (tgt := 17) C dL_inRegion_10 (by decide) ?_
    refine z_iconst (v := 0) C dL_inRegion_17 (by decide) ?_
    exact z_iret C hr rfl dL_inRegion_18 (Nat.le_of_ble_eq_true rfl) (Nat.le_of_ble_eq_true rfl) ⟨_, rfl, zLz.ok hk hD1 hF h14⟩

  · obtain ⟨rfl, hk⟩ := hx
    rcases hk with ⟨hk, rfl⟩ | ⟨hk, rfl⟩ | ⟨hk, rfl⟩
    · refine z_catch C hT [] [] (sp := 0) (ep := 10) (hp := 13) (ct := 13) rfl ⟨Nat.le_of_ble_eq_true rfl, Nat.le_of_ble_eq_true rfl⟩ (fun z hz => by cases hz) (by decide) kl_RL_13 (by decide +kernel) (fun q9 => ?_)
      refine z_astoreQ C dL_inRegion_13 (by decide) ?_
      refine z_iconst (v := 1) C dL_inRegion_15 (by decide) ?_
      exact z_iret C hr rfl dL_inRegion_16 (Nat.le_of_ble_eq_true rfl) (Nat.le_of_ble_eq_true rfl) ⟨_, rfl, zLz.th hk (by decide) hD h14⟩
  
    · exact absurd hk goC_n2
  
    · exact absurd hk goC_n3

set_option maxRecDepth 100000 in
set_option maxHeartbeats 4000000 in
theorem c_L_won {X : zX} (l : Launch) {x : Nat → Int32} {a : Nat → Nat → Int32} {σ : zHp} (hD : DK x a σ) (hI : zIv x a) {fL : Nat → Int64} (h14 : σ 14 0 = some (lC 1 fL)) {i : Int32} : zMh X l yL_won cL_won 4 (some .int) [(0, 9, 12, 21)] 9 10 200 [aR 0 0, aI i, aR 14 0] σ (zPi (zLz True (k_won x a i) (wonL x a i (zN (x 15))) (x) (a) x a σ)) zNx := by
  refine zMh.of (by decide +kernel) (Nat.le_of_ble_eq_true rfl) (by simp [zcat, Value.category]) ?_
  intro p e s m args below meth c loc0 C hr hnm hT
  refine z_aload_n (i := 2) C dL_won_0 rfl rfl ?_
  refine z_iconst (v := 0) C dL_won_1 (by decide) ?_
  refine z_aload_n (i := 0) C dL_won_2 rfl rfl ?_
  refine z_iload_n (i := 1) C dL_won_3 rfl rfl ?_
  refine z_callV C Y_X6_won V_X6_won ml_RL_68 (c_X6_won l hD hI.1) dL_won_4 rfl rfl hD.1.1 ⟨_, _, rfl⟩ (fun _ => Nat.le_of_ble_eq_true rfl) ⟨Nat.le_of_ble_eq_true rfl, Nat.le_of_ble_eq_true rfl⟩ ⟨Nat.le_of_ble_eq_true rfl, Nat.le_of_ble_eq_true rfl⟩ (z_ri (fun r9 σ1 hx => ?_)) (fun E9 σ1 hx => ?_)
  · obtain ⟨hk, rfl, hD1, hF⟩ := hx
    refine z_i2l C dL_won_7 ?_
    refine z_last (k := 14) (i := 0) (n := 1) (f := fL) C dL_won_8 ((hF 14 0 (Or.inr (Or.inr rfl))).trans h14) (by decide) in01 ?_
    refine z_goto (tgt := 15) C dL_won_9 (by decide) ?_
    refine z_iconst (v := 0) C dL_won_15 (by decide) ?_
    exact z_iret C hr rfl dL_won_16 (Nat.le_of_ble_eq_true rfl) (Nat.le_of_ble_eq_true rfl) ⟨_, rfl, zLz.ok hk hD1 hF h14⟩

  · obtain ⟨rfl, hk⟩ := hx
    rcases hk with ⟨hk, rfl⟩ | ⟨hk, rfl⟩ | ⟨hk, rfl⟩
    · refine z_catch C hT [] [] (sp := 0) (ep := 9) (hp := 12) (ct := 21) rfl ⟨Nat.le_of_ble_eq_true rfl, Nat.le_of_ble_eq_true rfl⟩ (fun z hz => by cases hz) (by decide) kl_RL_21 (by decide +kernel) (fun q9 => ?_)
      refine z_astore_nQ (i := 3) C dL_won_12 rfl (by decide) ?_
      refine z_iconst (v := 1) C dL_won_13 (by decide) ?_
      exact z_iret C hr rfl dL_won_14 (Nat.le_of_ble_eq_true rfl) (Nat.le_of_ble_eq_true rfl) ⟨_, rfl, zLz.th hk (by decide) hD h14⟩
  
    · exact absurd hk goC_n2
  
    · exact absurd hk goC_n3

set_option maxRecDepth 100000 in
set_option maxHeartbeats 4000000 in
theorem c_L_quote {X : zX} (l : Launch) {x : Nat → Int32} {a : Nat → Nat → Int32} {σ : zHp} (hD : DK x a σ) (hI : zIv x a) {fL : Nat → Int64} (h14 : σ 14 0 = some (lC 1 fL)) {i j w : Int32} : zMh X l yL_quote cL_quote 6 (some .int) [(0, 12, 15, 21), (0, 12, 19, 13), (0, 12, 23, 15)] 9 10 200 [aR 0 0, aI i, aI j, aI w, aR 14 0] σ (zPi (zLz True (k_quote x a i j w) (x 23) (if w ≤ a 13 (zN j) then upd (upd x 23 (x 23 + 1)) 24 (x 24 + 1) else upd x 23 (x 23 + 1)) (if w ≤ a 13 (zN j) then ua (ua (ua (ua a 25 (upd (a 25) (zN (x 23)) i)) 26 (upd (a 26) (zN (x 23)) j)) 27 (upd (a 27) (zN (x 23)) w)) 28 (upd (a 28) (zN (x 23)) (x 24 + 1)) else (ua (ua (ua a 25 (upd (a 25) (zN (x 23)) i)) 26 (upd (a 26) (zN (x 23)) j)) 27 (upd (a 27) (zN (x 23)) w))) x a σ)) zNx := by
  refine zMh.of (by decide +kernel) (Nat.le_of_ble_eq_true rfl) (by simp [zcat, Value.category]) ?_
  intro p e s m args below meth c loc0 C hr hnm hT
  refine z_aload C dL_quote_0 rfl ?_
  refine z_iconst (v := 0) C dL_quote_2 (by decide) ?_
  refine z_aload_n (i := 0) C dL_quote_3 rfl rfl ?_
  refine z_iload_n (i := 1) C dL_quote_4 rfl rfl ?_
  refine z_iload_n (i := 2) C dL_quote_5 rfl rfl ?_
  refine z_iload_n (i := 3) C dL_quote_6 rfl rfl ?_
  refine z_callV C Y_X6_quote V_X6_quote ml_RL_71 (c_X6_quote l hD hI.1 hI.2) dL_quote_7 rfl rfl hD.1.1 ⟨_, _, rfl⟩ (fun _ => Nat.le_of_ble_eq_true rfl) ⟨Nat.le_of_ble_eq_true rfl, Nat.le_of_ble_eq_true rfl⟩ ⟨Nat.le_of_ble_eq_true rfl, Nat.le_of_ble_eq_true rfl⟩ (z_ri (fun r9 σ1 hx => ?_)) (fun E9 σ1 hx => ?_)
  · obtain ⟨hk, rfl, hD1, hF⟩ := hx
    refine z_i2l C dL_quote_10 ?_
    refine z_last (k := 14) (i := 0) (n := 1) (f := fL) C dL_quote_11 ((hF 14 0 (Or.inr (Or.inr rfl))).trans h14) (by decide) in01 ?_
    refine z_goto (tgt := 27) C dL_quote_12 (by decide) ?_
    refine z_iconst (v := 0) C dL_quote_27 (by decide) ?_
    exact z_iret C hr rfl dL_quote_28 (Nat.le_of_ble_eq_true rfl) (Nat.le_of_ble_eq_true rfl) ⟨_, rfl, zLz.ok hk hD1 hF h14⟩

  · obtain ⟨rfl, hk⟩ := hx
    rcases hk with ⟨hk, rfl⟩ | ⟨hk, rfl⟩ | ⟨hk, rfl⟩
    · refine z_catch C hT [] [(0, 12, 19, 13), (0, 12, 23, 15)] (sp := 0) (ep := 12) (hp := 15) (ct := 21) rfl ⟨Nat.le_of_ble_eq_true rfl, Nat.le_of_ble_eq_true rfl⟩ (fun z hz => by cases hz) (by decide) kl_RL_21 (by decide +kernel) (fun q9 => ?_)
      refine z_astoreQ C dL_quote_15 (by decide) ?_
      refine z_iconst (v := 1) C dL_quote_17 (by decide) ?_
      exact z_iret C hr rfl dL_quote_18 (Nat.le_of_ble_eq_true rfl) (Nat.le_of_ble_eq_true rfl) ⟨_, rfl, zLz.th hk (by decide) hD h14⟩
  
    · refine z_catch C hT [(0, 12, 15, 21)] [(0, 12, 23, 15)] (sp := 0) (ep := 12) (hp := 19) (ct := 13) rfl ⟨Nat.le_of_ble_eq_true rfl, Nat.le_of_ble_eq_true rfl⟩ (pass1 ⟨by decide, _, kl_RL_21, by decide +kernel⟩) (by decide) kl_RL_13 (by decide +kernel) (fun q9 => ?_)
      refine z_astoreQ C dL_quote_19 (by decide) ?_
      refine z_iconst (v := 2) C dL_quote_21 (by decide) ?_
      exact z_iret C hr rfl dL_quote_22 (Nat.le_of_ble_eq_true rfl) (Nat.le_of_ble_eq_true rfl) ⟨_, rfl, zLz.th hk (by decide) hD h14⟩
  
    · refine z_catch C hT [(0, 12, 15, 21), (0, 12, 19, 13)] [] (sp := 0) (ep := 12) (hp := 23) (ct := 15) rfl ⟨Nat.le_of_ble_eq_true rfl, Nat.le_of_ble_eq_true rfl⟩ (pass2 ⟨by decide, _, kl_RL_21, by decide +kernel⟩ ⟨by decide, _, kl_RL_13, by decide +kernel⟩) (by decide) kl_RL_15 (by decide +kernel) (fun q9 => ?_)
      refine z_astoreQ C dL_quote_23 (by decide) ?_
      refine z_iconst (v := 3) C dL_quote_25 (by decide) ?_
      exact z_iret C hr rfl dL_quote_26 (Nat.le_of_ble_eq_true rfl) (Nat.le_of_ble_eq_true rfl) ⟨_, rfl, zLz.th hk (by decide) hD h14⟩

set_option maxRecDepth 100000 in
set_option maxHeartbeats 4000000 in
theorem c_L_approve {X : zX} (l : Launch) {x : Nat → Int32} {a : Nat → Nat → Int32} {σ : zHp} (hD : DK x a σ) (hI : zIv x a) {fL : Nat → Int64} (h14 : σ 14 0 = some (lC 1 fL)) {i j : Int32} : zMh X l yL_approve cL_approve 4 (some .int) [(0, 6, 9, 21), (0, 6, 12, 15)] 9 10 200 [aR 0 0, aI i, aI j] σ (zPi (zLz False (k_approve x a i j) (0) (upd x 24 (x 24 + 1)) (ua a 28 (upd (a 28) (zN i) (x 24 + 1))) x a σ)) zNx := by
  refine zMh.of (by decide +kernel) (Nat.le_of_ble_eq_true rfl) (by simp [zcat, Value.category]) ?_
  intro p e s m args below meth c loc0 C hr hnm hT
  refine z_aload_n (i := 0) C dL_approve_0 rfl rfl ?_
  refine z_iload_n (i := 1) C dL_approve_1 rfl rfl ?_
  refine z_iload_n (i := 2) C dL_approve_2 rfl rfl ?_
  refine z_callV C Y_X6_approve V_X6_approve ml_RL_74 (c_X6_approve l hD hI.1) dL_approve_3 rfl rfl hD.1.1 ⟨_, _, rfl⟩ (fun _ => Nat.le_of_ble_eq_true rfl) ⟨Nat.le_of_ble_eq_true rfl, Nat.le_of_ble_eq_true rfl⟩ ⟨Nat.le_of_ble_eq_true rfl, Nat.le_of_ble_eq_true rfl⟩ (z_rv (fun σ1 hx => ?_)) (fun E9 σ1 hx => ?_)
  · obtain ⟨hk, -, hD1, hF⟩ := hx
    refine z_goto (tgt := 15) C dL_approve_6 (by decide) ?_
    refine z_iconst (v := 0) C dL_approve_15 (by decide) ?_
    exact z_iret C hr rfl dL_approve_16 (Nat.le_of_ble_eq_true rfl) (Nat.le_of_ble_eq_true rfl) ⟨_, rfl, zLz.okV hk hD1 hF h14⟩

  · obtain ⟨rfl, hk⟩ := hx
    rcases hk with ⟨hk, rfl⟩ | ⟨hk, rfl⟩ | ⟨hk, rfl⟩
    · refine z_catch C hT [] [(0, 6, 12, 15)] (sp := 0) (ep := 6) (hp := 9) (ct := 21) rfl ⟨Nat.le_of_ble_eq_true rfl, Nat.le_of_ble_eq_true rfl⟩ (fun z hz => by cases hz) (by decide) kl_RL_21 (by decide +kernel) (fun q9 => ?_)
      refine z_astore_nQ (i := 3) C dL_approve_9 rfl (by decide) ?_
      refine z_iconst (v := 1) C dL_approve_10 (by decide) ?_
      exact z_iret C hr rfl dL_approve_11 (Nat.le_of_ble_eq_true rfl) (Nat.le_of_ble_eq_true rfl) ⟨_, rfl, zLz.th hk (by decide) hD h14⟩
  
    · refine z_catch C hT [(0, 6, 9, 21)] [] (sp := 0) (ep := 6) (hp := 12) (ct := 15) rfl ⟨Nat.le_of_ble_eq_true rfl, Nat.le_of_ble_eq_true rfl⟩ (pass1 ⟨by decide, _, kl_RL_21, by decide +kernel⟩) (by decide) kl_RL_15 (by decide +kernel) (fun q9 => ?_)
      refine z_astore_nQ (i := 3) C dL_approve_12 rfl (by decide) ?_
      refine z_iconst (v := 2) C dL_approve_13 (by decide) ?_
      exact z_iret C hr rfl dL_approve_14 (Nat.le_of_ble_eq_true rfl) (Nat.le_of_ble_eq_true rfl) ⟨_, rfl, zLz.th hk (by decide) hD h14⟩
  
    · exact absurd hk goC_n3

set_option maxRecDepth 100000 in
set_option maxHeartbeats 4000000 in
theorem c_L_counting {X : zX} (l : Launch) {x : Nat → Int32} {a : Nat → Nat → Int32} {σ : zHp} (hD : DK x a σ) (hI : zIv x a) {fL : Nat → Int64} (h14 : σ 14 0 = some (lC 1 fL)) {i : Int32} : zMh X l yL_counting cL_counting 4 (some .int) [(0, 9, 12, 21), (0, 9, 15, 81)] 9 10 200 [aR 0 0, aI i, aR 14 0] σ (zPi (zLz True (k_counting x a i) (cnt x a i) (x) (a) x a σ)) zNx := by
  refine zMh.of (by decide +kernel) (Nat.le_of_ble_eq_true rfl) (by simp [zcat, Value.category]) ?_
  intro p e s m args below meth c loc0 C hr hnm hT
  refine z_aload_n (i := 2) C dL_counting_0 rfl rfl ?_
  refine z_iconst (v := 0) C dL_counting_1 (by decide) ?_
  refine z_aload_n (i := 0) C dL_counting_2 rfl rfl ?_
  refine z_iload_n (i := 1) C dL_counting_3 rfl rfl ?_
  refine z_callV C Y_X6_counting V_X6_counting ml_RL_78 (c_X6_counting l hD hI.1) dL_counting_4 rfl rfl hD.1.1 ⟨_, _, rfl⟩ (fun _ => Nat.le_of_ble_eq_true rfl) ⟨Nat.le_of_ble_eq_true rfl, Nat.le_of_ble_eq_true rfl⟩ ⟨Nat.le_of_ble_eq_true rfl, Nat.le_of_ble_eq_true rfl⟩ (z_ri (fun r9 σ1 hx => ?_)) (fun E9 σ1 hx => ?_)
  · obtain ⟨hk, rfl, hD1, hF⟩ := hx
    refine z_i2l C dL_counting_7 ?_
    refine z_last (k := 14) (i := 0) (n := 1) (f := fL) C dL_counting_8 ((hF 14 0 (Or.inr (Or.inr rfl))).trans h14) (by decide) in01 ?_
    refine z_goto (tgt := 18) C dL_counting_9 (by decide) ?_
    refine z_iconst (v := 0) C dL_counting_18 (by decide) ?_
    exact z_iret C hr rfl dL_counting_19 (Nat.le_of_ble_eq_true rfl) (Nat.le_of_ble_eq_true rfl) ⟨_, rfl, zLz.ok hk hD1 hF h14⟩

  · obtain ⟨rfl, hk⟩ := hx
    rcases hk with ⟨hk, rfl⟩ | ⟨hk, rfl⟩ | ⟨hk, rfl⟩
    · refine z_catch C hT [] [(0, 9, 15, 81)] (sp := 0) (ep := 9) (hp := 12) (ct := 21) rfl ⟨Nat.le_of_ble_eq_true rfl, Nat.le_of_ble_eq_true rfl⟩ (fun z hz => by cases hz) (by decide) kl_RL_21 (by decide +kernel) (fun q9 => ?_)
      refine z_astore_nQ (i := 3) C dL_counting_12 rfl (by decide) ?_
      refine z_iconst (v := 1) C dL_counting_13 (by decide) ?_
      exact z_iret C hr rfl dL_counting_14 (Nat.le_of_ble_eq_true rfl) (Nat.le_of_ble_eq_true rfl) ⟨_, rfl, zLz.th hk (by decide) hD h14⟩
  
    · refine z_catch C hT [(0, 9, 12, 21)] [] (sp := 0) (ep := 9) (hp := 15) (ct := 81) rfl ⟨Nat.le_of_ble_eq_true rfl, Nat.le_of_ble_eq_true rfl⟩ (pass1 ⟨by decide, _, kl_RL_21, by decide +kernel⟩) (by decide) kl_RL_81 (by decide +kernel) (fun q9 => ?_)
      refine z_astore_nQ (i := 3) C dL_counting_15 rfl (by decide) ?_
      refine z_iconst (v := 2) C dL_counting_16 (by decide) ?_
      exact z_iret C hr rfl dL_counting_17 (Nat.le_of_ble_eq_true rfl) (Nat.le_of_ble_eq_true rfl) ⟨_, rfl, zLz.th hk (by decide) hD h14⟩
  
    · exact absurd hk goC_n3

set_option maxRecDepth 100000 in
set_option maxHeartbeats 4000000 in
theorem c_L_forecast {X : zX} (l : Launch) {x : Nat → Int32} {a : Nat → Nat → Int32} {σ : zHp} (hD : DK x a σ) (hI : zIv x a) {fL : Nat → Int64} (h14 : σ 14 0 = some (lC 1 fL)) {i : Int32} : zMh X l yL_forecast cL_forecast 4 (some .int) [(0, 9, 12, 21)] 9 10 200 [aR 0 0, aI i, aR 14 0] σ (zPi (zLz True (k_forecast x a i) (forS x a (zN i)) (x) (a) x a σ)) zNx := by
  refine zMh.of (by decide +kernel) (Nat.le_of_ble_eq_true rfl) (by simp [zcat, Value.category]) ?_
  intro p e s m args below meth c loc0 C hr hnm hT
  refine z_aload_n (i := 2) C dL_forecast_0 rfl rfl ?_
  refine z_iconst (v := 0) C dL_forecast_1 (by decide) ?_
  refine z_aload_n (i := 0) C dL_forecast_2 rfl rfl ?_
  refine z_iload_n (i := 1) C dL_forecast_3 rfl rfl ?_
  refine z_callV C Y_X6_forecast V_X6_forecast ml_RL_83 (c_X6_forecast l hD hI.1) dL_forecast_4 rfl rfl hD.1.1 ⟨_, _, rfl⟩ (fun _ => Nat.le_of_ble_eq_true rfl) ⟨Nat.le_of_ble_eq_true rfl, Nat.le_of_ble_eq_true rfl⟩ ⟨Nat.le_of_ble_eq_true rfl, Nat.le_of_ble_eq_true rfl⟩ (z_ri (fun r9 σ1 hx => ?_)) (fun E9 σ1 hx => ?_)
  · obtain ⟨hk, rfl, hD1, hF⟩ := hx
    refine z_i2l C dL_forecast_7 ?_
    refine z_last (k := 14) (i := 0) (n := 1) (f := fL) C dL_forecast_8 ((hF 14 0 (Or.inr (Or.inr rfl))).trans h14) (by decide) in01 ?_
    refine z_goto (tgt := 15) C dL_forecast_9 (by decide) ?_
    refine z_iconst (v := 0) C dL_forecast_15 (by decide) ?_
    exact z_iret C hr rfl dL_forecast_16 (Nat.le_of_ble_eq_true rfl) (Nat.le_of_ble_eq_true rfl) ⟨_, rfl, zLz.ok hk hD1 hF h14⟩

  · obtain ⟨rfl, hk⟩ := hx
    rcases hk with ⟨hk, rfl⟩ | ⟨hk, rfl⟩ | ⟨hk, rfl⟩
    · refine z_catch C hT [] [] (sp := 0) (ep := 9) (hp := 12) (ct := 21) rfl ⟨Nat.le_of_ble_eq_true rfl, Nat.le_of_ble_eq_true rfl⟩ (fun z hz => by cases hz) (by decide) kl_RL_21 (by decide +kernel) (fun q9 => ?_)
      refine z_astore_nQ (i := 3) C dL_forecast_12 rfl (by decide) ?_
      refine z_iconst (v := 1) C dL_forecast_13 (by decide) ?_
      exact z_iret C hr rfl dL_forecast_14 (Nat.le_of_ble_eq_true rfl) (Nat.le_of_ble_eq_true rfl) ⟨_, rfl, zLz.th hk (by decide) hD h14⟩
  
    · exact absurd hk goC_n2
  
    · exact absurd hk goC_n3

set_option maxRecDepth 100000 in
set_option maxHeartbeats 4000000 in
theorem c_L_own {X : zX} (l : Launch) {x : Nat → Int32} {a : Nat → Nat → Int32} {σ : zHp} (hD : DK x a σ) (hI : zIv x a) {fL : Nat → Int64} (h14 : σ 14 0 = some (lC 1 fL)) {i : Int32} : zMh X l yL_own cL_own 4 (some .int) [(0, 9, 12, 21)] 9 10 200 [aR 0 0, aI i, aR 14 0] σ (zPi (zLz True (k_own x a i) (ownS x a (zN i)) (x) (a) x a σ)) zNx := by
  refine zMh.of (by decide +kernel) (Nat.le_of_ble_eq_true rfl) (by simp [zcat, Value.category]) ?_
  intro p e s m args below meth c loc0 C hr hnm hT
  refine z_aload_n (i := 2) C dL_own_0 rfl rfl ?_
  refine z_iconst (v := 0) C dL_own_1 (by decide) ?_
  refine z_aload_n (i := 0) C dL_own_2 rfl rfl ?_
  refine z_iload_n (i := 1) C dL_own_3 rfl rfl ?_
  refine z_callV C Y_X6_own V_X6_own ml_RL_86 (c_X6_own l hD hI.1) dL_own_4 rfl rfl hD.1.1 ⟨_, _, rfl⟩ (fun _ => Nat.le_of_ble_eq_true rfl) ⟨Nat.le_of_ble_eq_true rfl, Nat.le_of_ble_eq_true rfl⟩ ⟨Nat.le_of_ble_eq_true rfl, Nat.le_of_ble_eq_true rfl⟩ (z_ri (fun r9 σ1 hx => ?_)) (fun E9 σ1 hx => ?_)
  · obtain ⟨hk, rfl, hD1, hF⟩ := hx
    refine z_i2l C dL_own_7 ?_
    refine z_last (k := 14) (i := 0) (n := 1) (f := fL) C dL_own_8 ((hF 14 0 (Or.inr (Or.inr rfl))).trans h14) (by decide) in01 ?_
    refine z_goto (tgt := 15) C dL_own_9 (by decide) ?_
    refine z_iconst (v := 0) C dL_own_15 (by decide) ?_
    exact z_iret C hr rfl dL_own_16 (Nat.le_of_ble_eq_true rfl) (Nat.le_of_ble_eq_true rfl) ⟨_, rfl, zLz.ok hk hD1 hF h14⟩

  · obtain ⟨rfl, hk⟩ := hx
    rcases hk with ⟨hk, rfl⟩ | ⟨hk, rfl⟩ | ⟨hk, rfl⟩
    · refine z_catch C hT [] [] (sp := 0) (ep := 9) (hp := 12) (ct := 21) rfl ⟨Nat.le_of_ble_eq_true rfl, Nat.le_of_ble_eq_true rfl⟩ (fun z hz => by cases hz) (by decide) kl_RL_21 (by decide +kernel) (fun q9 => ?_)
      refine z_astore_nQ (i := 3) C dL_own_12 rfl (by decide) ?_
      refine z_iconst (v := 1) C dL_own_13 (by decide) ?_
      exact z_iret C hr rfl dL_own_14 (Nat.le_of_ble_eq_true rfl) (Nat.le_of_ble_eq_true rfl) ⟨_, rfl, zLz.th hk (by decide) hD h14⟩
  
    · exact absurd hk goC_n2
  
    · exact absurd hk goC_n3

set_option maxRecDepth 100000 in
set_option maxHeartbeats 4000000 in
theorem c_L_freeze {X : zX} (l : Launch) {x : Nat → Int32} {a : Nat → Nat → Int32} {σ : zHp} (hD : DK x a σ) (hI : zIv x a) {fL : Nat → Int64} (h14 : σ 14 0 = some (lC 1 fL)) : zMh X l yL_freeze cL_freeze 3 (some .int) [(0, 8, 11, 15)] 9 10 200 [aR 0 0, aR 14 0] σ (zPi (zLz True (k_freeze x a 0) (x 29) (upd x 29 (x 29 + 1)) (ua a 30 (frz x a (zN (x 29)) (zN (x 11)))) x a σ)) zNx := by
  refine zMh.of (by decide +kernel) (Nat.le_of_ble_eq_true rfl) (by simp [zcat, Value.category]) ?_
  intro p e s m args below meth c loc0 C hr hnm hT
  refine z_aload_n (i := 1) C dL_freeze_0 rfl rfl ?_
  refine z_iconst (v := 0) C dL_freeze_1 (by decide) ?_
  refine z_aload_n (i := 0) C dL_freeze_2 rfl rfl ?_
  refine z_callV C Y_X6_freeze V_X6_freeze ml_RL_89 (c_X6_freeze l hD hI.1 hI.2) dL_freeze_3 rfl rfl hD.1.1 ⟨_, _, rfl⟩ (fun _ => Nat.le_of_ble_eq_true rfl) ⟨Nat.le_of_ble_eq_true rfl, Nat.le_of_ble_eq_true rfl⟩ ⟨Nat.le_of_ble_eq_true rfl, Nat.le_of_ble_eq_true rfl⟩ (z_ri (fun r9 σ1 hx => ?_)) (fun E9 σ1 hx => ?_)
  · obtain ⟨hk, rfl, hD1, hF⟩ := hx
    refine z_i2l C dL_freeze_6 ?_
    refine z_last (k := 14) (i := 0) (n := 1) (f := fL) C dL_freeze_7 ((hF 14 0 (Or.inr (Or.inr rfl))).trans h14) (by decide) in01 ?_
    refine z_goto (tgt := 14) C dL_freeze_8 (by decide) ?_
    refine z_iconst (v := 0) C dL_freeze_14 (by decide) ?_
    exact z_iret C hr rfl dL_freeze_15 (Nat.le_of_ble_eq_true rfl) (Nat.le_of_ble_eq_true rfl) ⟨_, rfl, zLz.ok hk hD1 hF h14⟩

  · obtain ⟨rfl, hk⟩ := hx
    rcases hk with ⟨hk, rfl⟩ | ⟨hk, rfl⟩ | ⟨hk, rfl⟩
    · refine z_catch C hT [] [] (sp := 0) (ep := 8) (hp := 11) (ct := 15) rfl ⟨Nat.le_of_ble_eq_true rfl, Nat.le_of_ble_eq_true rfl⟩ (fun z hz => by cases hz) (by decide) kl_RL_15 (by decide +kernel) (fun q9 => ?_)
      refine z_astore_nQ (i := 2) C dL_freeze_11 rfl (by decide) ?_
      refine z_iconst (v := 1) C dL_freeze_12 (by decide) ?_
      exact z_iret C hr rfl dL_freeze_13 (Nat.le_of_ble_eq_true rfl) (Nat.le_of_ble_eq_true rfl) ⟨_, rfl, zLz.th hk (by decide) hD h14⟩
  
    · exact absurd hk goC_n2
  
    · exact absurd hk goC_n3

set_option maxRecDepth 100000 in
set_option maxHeartbeats 4000000 in
theorem c_L_since {X : zX} (l : Launch) {x : Nat → Int32} {a : Nat → Nat → Int32} {σ : zHp} (hD : DK x a σ) (hI : zIv x a) {fL : Nat → Int64} (h14 : σ 14 0 = some (lC 1 fL)) {i j : Int32} : zMh X l yL_since cL_since 5 (some .int) [(0, 10, 13, 21)] 9 10 200 [aR 0 0, aI i, aI j, aR 14 0] σ (zPi (zLz True (k_since x a i j) (forS x a (zN j) - a 30 (8 * zN i + zN j)) (x) (a) x a σ)) zNx := by
  refine zMh.of (by decide +kernel) (Nat.le_of_ble_eq_true rfl) (by simp [zcat, Value.category]) ?_
  intro p e s m args below meth c loc0 C hr hnm hT
  refine z_aload_n (i := 3) C dL_since_0 rfl rfl ?_
  refine z_iconst (v := 0) C dL_since_1 (by decide) ?_
  refine z_aload_n (i := 0) C dL_since_2 rfl rfl ?_
  refine z_iload_n (i := 1) C dL_since_3 rfl rfl ?_
  refine z_iload_n (i := 2) C dL_since_4 rfl rfl ?_
  refine z_callV C Y_X6_since V_X6_since ml_RL_93 (c_X6_since l hD hI.1) dL_since_5 rfl rfl hD.1.1 ⟨_, _, rfl⟩ (fun _ => Nat.le_of_ble_eq_true rfl) ⟨Nat.le_of_ble_eq_true rfl, Nat.le_of_ble_eq_true rfl⟩ ⟨Nat.le_of_ble_eq_true rfl, Nat.le_of_ble_eq_true rfl⟩ (z_ri (fun r9 σ1 hx => ?_)) (fun E9 σ1 hx => ?_)
  · obtain ⟨hk, rfl, hD1, hF⟩ := hx
    refine z_i2l C dL_since_8 ?_
    refine z_last (k := 14) (i := 0) (n := 1) (f := fL) C dL_since_9 ((hF 14 0 (Or.inr (Or.inr rfl))).trans h14) (by decide) in01 ?_
    refine z_goto (tgt := 17) C dL_since_10 (by decide) ?_
    refine z_iconst (v := 0) C dL_since_17 (by decide) ?_
    exact z_iret C hr rfl dL_since_18 (Nat.le_of_ble_eq_true rfl) (Nat.le_of_ble_eq_true rfl) ⟨_, rfl, zLz.ok hk hD1 hF h14⟩

  · obtain ⟨rfl, hk⟩ := hx
    rcases hk with ⟨hk, rfl⟩ | ⟨hk, rfl⟩ | ⟨hk, rfl⟩
    · refine z_catch C hT [] [] (sp := 0) (ep := 10) (hp := 13) (ct := 21) rfl ⟨Nat.le_of_ble_eq_true rfl, Nat.le_of_ble_eq_true rfl⟩ (fun z hz => by cases hz) (by decide) kl_RL_21 (by decide +kernel) (fun q9 => ?_)
      refine z_astoreQ C dL_since_13 (by decide) ?_
      refine z_iconst (v := 1) C dL_since_15 (by decide) ?_
      exact z_iret C hr rfl dL_since_16 (Nat.le_of_ble_eq_true rfl) (Nat.le_of_ble_eq_true rfl) ⟨_, rfl, zLz.th hk (by decide) hD h14⟩
  
    · exact absurd hk goC_n2
  
    · exact absurd hk goC_n3

