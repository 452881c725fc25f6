/-! the law's static methods: a call of the desk, its exception a number -/
def rsF (k v c1 c2 c3 : Int32) : Int32 := if k = 0 then v else if k = 1 then c1 else if k = 2 then c2 else c3
theorem rs0 {k v c1 c2 c3 : Int32} (h : k = 0) : rsF k v c1 c2 c3 = v := if_pos h
theorem rs1 {k v c1 c2 c3 : Int32} (h : k = 1) : rsF k v c1 c2 c3 = c1 := by subst h; rfl
theorem rs2 {k v c1 c2 c3 : Int32} (h : k = 2) : rsF k v c1 c2 c3 = c2 := by subst h; rfl
theorem rs3 {k v c1 c2 c3 : Int32} (h : k = 3) : rsF k v c1 c2 c3 = c3 := by subst h; rfl
/-- what a static method of the law answers that only asks -/
def zLq (k v c1 c2 c3 : Int32) (σ : zHp) : Int32 → zHp → Prop := fun r σ1 => r = rsF k v c1 c2 c3 ∧ σ1 = σ
theorem zLq.ok {k v c1 c2 c3 : Int32} {σ : zHp} (h : k = 0) : zLq k v c1 c2 c3 σ v σ := ⟨(rs0 h).symm, rfl⟩
theorem zLq.e1 {k v c1 c2 c3 : Int32} {σ : zHp} (h : k = 1) : zLq k v c1 c2 c3 σ c1 σ := ⟨(rs1 h).symm, rfl⟩
theorem zLq.e2 {k v c1 c2 c3 : Int32} {σ : zHp} (h : k = 2) : zLq k v c1 c2 c3 σ c2 σ := ⟨(rs2 h).symm, rfl⟩
theorem zLq.e3 {k v c1 c2 c3 : Int32} {σ : zHp} (h : k = 3) : zLq k v c1 c2 c3 σ c3 σ := ⟨(rs3 h).symm, rfl⟩
/-- .. and one that changes the desk -/
def zLw (k v c1 c2 c3 : Int32) (x' : Nat → Int32) (a' : Nat → Nat → Int32) (σ : zHp) : Int32 → zHp → Prop := fun r σ1 => r = rsF k v c1 c2 c3 ∧ ((k = 0 ∧ DK x' a' σ1 ∧ Fk σ σ1) ∨ (¬ k = 0 ∧ σ1 = σ))
theorem zLw.ok {k v c1 c2 c3 : Int32} {x' : Nat → Int32} {a' : Nat → Nat → Int32} {σ σ1 : zHp} (h : k = 0) (hD : DK x' a' σ1) (hF : Fk σ σ1) : zLw k v c1 c2 c3 x' a' σ v σ1 := ⟨(rs0 h).symm, Or.inl ⟨h, hD, hF⟩⟩
theorem zLw.e1 {k v c1 c2 c3 : Int32} {x' : Nat → Int32} {a' : Nat → Nat → Int32} {σ : zHp} (h : k = 1) : zLw k v c1 c2 c3 x' a' σ c1 σ := ⟨(rs1 h).symm, Or.inr ⟨by rw [h]; decide, rfl⟩⟩
theorem zLw.e2 {k v c1 c2 c3 : Int32} {x' : Nat → Int32} {a' : Nat → Nat → Int32} {σ : zHp} (h : k = 2) : zLw k v c1 c2 c3 x' a' σ c2 σ := ⟨(rs2 h).symm, Or.inr ⟨by rw [h]; decide, rfl⟩⟩
theorem zLw.e3 {k v c1 c2 c3 : Int32} {x' : Nat → Int32} {a' : Nat → Nat → Int32} {σ : zHp} (h : k = 3) : zLw k v c1 c2 c3 x' a' σ c3 σ := ⟨(rs3 h).symm, Or.inr ⟨by rw [h]; decide, rfl⟩⟩
theorem zLw.y {k v c1 c2 c3 r : Int32} {x x' x2 : Nat → Int32} {a a' a2 A : Nat → Nat → Int32} {σ σ1 : zHp} (h : zLw k v c1 c2 c3 x' a' σ r σ1) (hk : k = 0) (hW : LW x a x2 a2 A σ) : r = v ∧ LW x' a' x2 a2 A σ1 := by
  obtain ⟨e, ⟨-, hD, hF⟩ | ⟨hn, -⟩⟩ := h
  · exact ⟨e.trans (rs0 hk), hW.o hF hD⟩
  · exact absurd hk hn
theorem zLw.yt {k v c1 c2 c3 r : Int32} {x x' x2 : Nat → Int32} {a a' a2 A : Nat → Nat → Int32} {σ σ1 : zHp} (h : zLw k v c1 c2 c3 x' a' (fH σ) r (fH σ1)) (hk : k = 0) (hW : LW x2 a2 x a A σ) : r = v ∧ LW x2 a2 x' a' A σ1 := by
  obtain ⟨e, ⟨-, hD, hF⟩ | ⟨hn, -⟩⟩ := h
  · exact ⟨e.trans (rs0 hk), hW.t hF hD⟩
  · exact absurd hk hn
theorem zLw.n {k v c1 c2 c3 r : Int32} {x' : Nat → Int32} {a' : Nat → Nat → Int32} {σ σ1 : zHp} (h : zLw k v c1 c2 c3 x' a' σ r σ1) (hk : ¬ k = 0) : r = rsF k v c1 c2 c3 ∧ σ1 = σ := by
  obtain ⟨e, ⟨h0, -, -⟩ | ⟨-, hs⟩⟩ := h
  · exact absurd h0 hk
  · exact ⟨e, hs⟩
theorem zLw.nt {k v c1 c2 c3 r : Int32} {x' : Nat → Int32} {a' : Nat → Nat → Int32} {σ σ1 : zHp} (h : zLw k v c1 c2 c3 x' a' (fH σ) r (fH σ1)) (hk : ¬ k = 0) : r = rsF k v c1 c2 c3 ∧ σ1 = σ := ⟨(h.n hk).1, fH_inj (h.n hk).2⟩
theorem goC_n2 {p r : Bool} : ¬ goC p true r = 2 := by cases p <;> cases r <;> decide
theorem goC_n3 {p q : Bool} : ¬ goC p q true = 3 := by cases p <;> cases q <;> decide
theorem pass1 {α : Type} {P : α → Prop} {u : α} (h : P u) : ∀ z ∈ [u], P z := fun z hz => by rw [List.mem_singleton.mp hz]; exact h
theorem pass2 {α : Type} {P : α → Prop} {u v : α} (h : P u) (h' : P v) : ∀ z ∈ [u, v], P z := fun z hz => (List.mem_cons.mp hz).elim (fun e => by rw [e]; exact h) (fun hz => by rw [List.mem_singleton.mp hz]; exact h')
set_option maxRecDepth 100000 in
set_option maxHeartbeats 4000000 in
theorem c_L_pass {X : zX} (l : Launch) {x : Nat → Int32} {a : Nat → Nat → Int32} {σ : zHp} (hD : DK x a σ) (hI : zIv x a) {d : Int32} : zMh X l yL_pass cL_pass 3 (some .int) [(0, 5, 6, 16), (0, 5, 10, 19)] 9 10 200 [aR 0 0, aI d] σ (zPi (zLw (k_pass x a d) (x 0 + d) (-1000002) (-1000003) 0 (upd x 0 (x 0 + d)) (a) σ)) zNx := by
  refine zMh.of (by decide +kernel) (Nat.le_of_ble_eq_true rfl) (by simp [zcat, Value.category]) ?_
  intro p e s m args below meth c loc0 C hr hnm hT
  refine z_aload_n (i := 0) C dL_pass_0 rfl rfl ?_
  refine z_iload_n (i := 1) C dL_pass_1 rfl rfl ?_
  refine z_callV C Y_X6_pass V_X6_pass ml_RL_10 (c_X6_pass l hD hI.1) dL_pass_2 rfl rfl hD.1.1 ⟨_, _, rfl⟩ (fun _ => Nat.le_of_ble_eq_true rfl) ⟨Nat.le_of_ble_eq_true rfl, Nat.le_of_ble_eq_true rfl⟩ ⟨Nat.le_of_ble_eq_true rfl, Nat.le_of_ble_eq_true rfl⟩ (z_ri (fun r9 σ1 hx => ?_)) (fun E9 σ1 hx => ?_)
  · obtain ⟨hk, rfl, hD1, hF⟩ := hx
    exact z_iret C hr rfl dL_pass_5 (Nat.le_of_ble_eq_true rfl) (Nat.le_of_ble_eq_true rfl) ⟨_, rfl, zLw.ok hk hD1 hF⟩

  · obtain ⟨rfl, hk⟩ := hx
    rcases hk with ⟨hk, rfl⟩ | ⟨hk, rfl⟩ | ⟨hk, rfl⟩
    · refine z_catch C hT [] [(0, 5, 10, 19)] (sp := 0) (ep := 5) (hp := 6) (ct := 16) rfl ⟨Nat.le_of_ble_eq_true rfl, Nat.le_of_ble_eq_true rfl⟩ (fun z hz => by cases hz) (by decide) kl_RL_16 (by decide +kernel) (fun q9 => ?_)
      refine z_astore_nQ (i := 2) C dL_pass_6 rfl (by decide) ?_
      refine z_ldc C dL_pass_7 kc_RL_18 ?_
      exact z_iret C hr rfl dL_pass_9 (Nat.le_of_ble_eq_true rfl) (Nat.le_of_ble_eq_true rfl) ⟨_, rfl, zLw.e1 hk⟩
  
    · refine z_catch C hT [(0, 5, 6, 16)] [] (sp := 0) (ep := 5) (hp := 10) (ct := 19) rfl ⟨Nat.le_of_ble_eq_true rfl, Nat.le_of_ble_eq_true rfl⟩ (pass1 ⟨by decide, _, kl_RL_16, by decide +kernel⟩) (by decide) kl_RL_19 (by decide +kernel) (fun q9 => ?_)
      refine z_astore_nQ (i := 2) C dL_pass_10 rfl (by decide) ?_
      refine z_ldc C dL_pass_11 kc_RL_21 ?_
      exact z_iret C hr rfl dL_pass_13 (Nat.le_of_ble_eq_true rfl) (Nat.le_of_ble_eq_true rfl) ⟨_, rfl, zLw.e2 hk⟩
  
    · exact absurd hk goC_n3

set_option maxRecDepth 100000 in
set_option maxHeartbeats 4000000 in
theorem c_L_addAccount {X : zX} (l : Launch) {x : Nat → Int32} {a : Nat → Nat → Int32} {σ : zHp} (hD : DK x a σ) (hI : zIv x a) {o w g : Int32} : zMh X l yL_addAccount cL_addAccount 5 (some .int) [(0, 7, 8, 26), (0, 7, 13, 16), (0, 7, 18, 19)] 9 10 200 [aR 0 0, aI o, aI w, aI g] σ (zPi (zLw (k_addAccount x a o w g) (x 1) (-1000001) (-1000002) (-1000003) (upd x 1 (x 1 + 1)) (ua (ua (ua (ua a 2 (upd (a 2) (zN (x 1)) o)) 3 (upd (a 3) (zN (x 1)) w)) 4 (upd (a 4) (zN (x 1)) g)) 5 (upd (a 5) (zN (x 1)) (-1))) σ)) zNx := by
  refine zMh.of (by decide +kernel) (Nat.le_of_ble_eq_true rfl) (by simp [zcat, Value.category]) ?_
  intro p e s m args below meth c loc0 C hr hnm hT
  refine z_aload_n (i := 0) C dL_addAccount_0 rfl rfl ?_
  refine z_iload_n (i := 1) C dL_addAccount_1 rfl rfl ?_
  refine z_iload_n (i := 2) C dL_addAccount_2 rfl rfl ?_
  refine z_iload_n (i := 3) C dL_addAccount_3 rfl rfl ?_
  refine z_callV C Y_X6_addAccount V_X6_addAccount ml_RL_22 (c_X6_addAccount l hD hI.1 hI.2) dL_addAccount_4 rfl rfl hD.1.1 ⟨_, _, rfl⟩ (fun _ => Nat.le_of_ble_eq_true rfl) ⟨Nat.le_of_ble_eq_true rfl, Nat.le_of_ble_eq_true rfl⟩ ⟨Nat.le_of_ble_eq_true rfl, Nat.le_of_ble_eq_true rfl⟩ (z_ri (fun r9 σ1 hx => ?_)) (fun E9 σ1 hx => ?_)
  · obtain ⟨hk, rfl, hD1, hF⟩ := hx
    exact z_iret C hr rfl dL_addAccount_7 (Nat.le_of_ble_eq_true rfl) (Nat.le_of_ble_eq_true rfl) ⟨_, rfl, zLw.ok hk hD1 hF⟩

  · obtain ⟨rfl, hk⟩ := hx
    rcases hk with ⟨hk, rfl⟩ | ⟨hk, rfl⟩ | ⟨hk, rfl⟩
    · refine z_catch C hT [] [(0, 7, 13, 16), (0, 7, 18, 19)] (sp := 0) (ep := 7) (hp := 8) (ct := 26) rfl ⟨Nat.le_of_ble_eq_true rfl, Nat.le_of_ble_eq_true rfl⟩ (fun z hz => by cases hz) (by decide) kl_RL_26 (by decide +kernel) (fun q9 => ?_)
      refine z_astoreQ C dL_addAccount_8 (by decide) ?_
      refine z_ldc C dL_addAccount_10 kc_RL_28 ?_
      exact z_iret C hr rfl dL_addAccount_12 (Nat.le_of_ble_eq_true rfl) (Nat.le_of_ble_eq_true rfl) ⟨_, rfl, zLw.e1 hk⟩
  
    · refine z_catch C hT [(0, 7, 8, 26)] [(0, 7, 18, 19)] (sp := 0) (ep := 7) (hp := 13) (ct := 16) rfl ⟨Nat.le_of_ble_eq_true rfl, Nat.le_of_ble_eq_true rfl⟩ (pass1 ⟨by decide, _, kl_RL_26, by decide +kernel⟩) (by decide) kl_RL_16 (by decide +kernel) (fun q9 => ?_)
      refine z_astoreQ C dL_addAccount_13 (by decide) ?_
      refine z_ldc C dL_addAccount_15 kc_RL_18 ?_
      exact z_iret C hr rfl dL_addAccount_17 (Nat.le_of_ble_eq_true rfl) (Nat.le_of_ble_eq_true rfl) ⟨_, rfl, zLw.e2 hk⟩
  
    · refine z_catch C hT [(0, 7, 8, 26), (0, 7, 13, 16)] [] (sp := 0) (ep := 7) (hp := 18) (ct := 19) rfl ⟨Nat.le_of_ble_eq_true rfl, Nat.le_of_ble_eq_true rfl⟩ (pass2 ⟨by decide, _, kl_RL_26, by decide +kernel⟩ ⟨by decide, _, kl_RL_16, by decide +kernel⟩) (by decide) kl_RL_19 (by decide +kernel) (fun q9 => ?_)
      refine z_astoreQ C dL_addAccount_18 (by decide) ?_
      refine z_ldc C dL_addAccount_20 kc_RL_21 ?_
      exact z_iret C hr rfl dL_addAccount_22 (Nat.le_of_ble_eq_true rfl) (Nat.le_of_ble_eq_true rfl) ⟨_, rfl, zLw.e3 hk⟩

set_option maxRecDepth 100000 in
set_option maxHeartbeats 4000000 in
theorem c_L_putRule {X : zX} (l : Launch) {x : Nat → Int32} {a : Nat → Nat → Int32} {σ : zHp} (hD : DK x a σ) (hI : zIv x a) {pl f u g w : Int32} : zMh X l yL_putRule cL_putRule 7 (some .int) [(0, 11, 12, 26), (0, 11, 17, 16), (0, 11, 22, 19)] 9 10 200 [aR 0 0, aI pl, aI f, aI u, aI g, aI w] σ (zPi (zLw (k_putRule x a pl f u g w) (x 6 + 1) (-1000001) (-1000002) (-1000003) (upd x 6 (x 6 + 1)) (putR a (zN pl) (zN (x 6)) f u g w) σ)) zNx := by
  refine zMh.of (by decide +kernel) (Nat.le_of_ble_eq_true rfl) (by simp [zcat, Value.category]) ?_
  intro p e s m args below meth c loc0 C hr hnm hT
  refine z_aload_n (i := 0) C dL_putRule_0 rfl rfl ?_
  refine z_iload_n (i := 1) C dL_putRule_1 rfl rfl ?_
  refine z_iload_n (i := 2) C dL_putRule_2 rfl rfl ?_
  refine z_iload_n (i := 3) C dL_putRule_3 rfl rfl ?_
  refine z_iload C dL_putRule_4 rfl ?_
  refine z_iload C dL_putRule_6 rfl ?_
  refine z_callV C Y_X6_putRule V_X6_putRule ml_RL_29 (c_X6_putRule l hD hI.1) dL_putRule_8 rfl rfl hD.1.1 ⟨_, _, rfl⟩ (fun _ => Nat.le_of_ble_eq_true rfl) ⟨Nat.le_of_ble_eq_true rfl, Nat.le_of_ble_eq_true rfl⟩ ⟨Nat.le_of_ble_eq_true rfl, Nat.le_of_ble_eq_true rfl⟩ (z_ri (fun r9 σ1 hx => ?_)) (fun E9 σ1 hx => ?_)
  · obtain ⟨hk, rfl, hD1, hF⟩ := hx
    exact z_iret C hr rfl dL_putRule_11 (Nat.le_of_ble_eq_true rfl) (Nat.le_of_ble_eq_true rfl) ⟨_, rfl, zLw.ok hk hD1 hF⟩

  · obtain ⟨rfl, hk⟩ := hx
    rcases hk with ⟨hk, rfl⟩ | ⟨hk, rfl⟩ | ⟨hk, rfl⟩
    · refine z_catch C hT [] [(0, 11, 17, 16), (0, 11, 22, 19)] (sp := 0) (ep := 11) (hp := 12) (ct := 26) rfl ⟨Nat.le_of_ble_eq_true rfl, Nat.le_of_ble_eq_true rfl⟩ (fun z hz => by cases hz) (by decide) kl_RL_26 (by decide +kernel) (fun q9 => ?_)
      refine z_astoreQ C dL_putRule_12 (by decide) ?_
      refine z_ldc C dL_putRule_14 kc_RL_28 ?_
      exact z_iret C hr rfl dL_putRule_16 (Nat.le_of_ble_eq_true rfl) (Nat.le_of_ble_eq_true rfl) ⟨_, rfl, zLw.e1 hk⟩
  
    · refine z_catch C hT [(0, 11, 12, 26)] [(0, 11, 22, 19)] (sp := 0) (ep := 11) (hp := 17) (ct := 16) rfl ⟨Nat.le_of_ble_eq_true rfl, Nat.le_of_ble_eq_true rfl⟩ (pass1 ⟨by decide, _, kl_RL_26, by decide +kernel⟩) (by decide) kl_RL_16 (by decide +kernel) (fun q9 => ?_)
      refine z_astoreQ C dL_putRule_17 (by decide) ?_
      refine z_ldc C dL_putRule_19 kc_RL_18 ?_
      exact z_iret C hr rfl dL_putRule_21 (Nat.le_of_ble_eq_true rfl) (Nat.le_of_ble_eq_true rfl) ⟨_, rfl, zLw.e2 hk⟩
  
    · refine z_catch C hT [(0, 11, 12, 26), (0, 11, 17, 16)] [] (sp := 0) (ep := 11) (hp := 22) (ct := 19) rfl ⟨Nat.le_of_ble_eq_true rfl, Nat.le_of_ble_eq_true rfl⟩ (pass2 ⟨by decide, _, kl_RL_26, by decide +kernel⟩ ⟨by decide, _, kl_RL_16, by decide +kernel⟩) (by decide) kl_RL_19 (by decide +kernel) (fun q9 => ?_)
      refine z_astoreQ C dL_putRule_22 (by decide) ?_
      refine z_ldc C dL_putRule_24 kc_RL_21 ?_
      exact z_iret C hr rfl dL_putRule_26 (Nat.le_of_ble_eq_true rfl) (Nat.le_of_ble_eq_true rfl) ⟨_, rfl, zLw.e3 hk⟩

set_option maxRecDepth 100000 in
set_option maxHeartbeats 4000000 in
theorem c_L_removeRule {X : zX} (l : Launch) {x : Nat → Int32} {a : Nat → Nat → Int32} {σ : zHp} (hD : DK x a σ) (hI : zIv x a) {pl : Int32} : zMh X l yL_removeRule cL_removeRule 3 (some .int) [(0, 5, 6, 26)] 9 10 200 [aR 0 0, aI pl] σ (zPi (zLw (k_removeRule x a pl) (x 6 - 1) (-1000001) 0 0 (upd x 6 (x 6 - 1)) (R4 a (delG (zN pl) (zN (x 6) - 1))) σ)) zNx := by
  refine zMh.of (by decide +kernel) (Nat.le_of_ble_eq_true rfl) (by simp [zcat, Value.category]) ?_
  intro p e s m args below meth c loc0 C hr hnm hT
  refine z_aload_n (i := 0) C dL_removeRule_0 rfl rfl ?_
  refine z_iload_n (i := 1) C dL_removeRule_1 rfl rfl ?_
  refine z_callV C Y_X6_removeRule V_X6_removeRule ml_RL_33 (c_X6_removeRule l hD hI.1) dL_removeRule_2 rfl rfl hD.1.1 ⟨_, _, rfl⟩ (fun _ => Nat.le_of_ble_eq_true rfl) ⟨Nat.le_of_ble_eq_true rfl, Nat.le_of_ble_eq_true rfl⟩ ⟨Nat.le_of_ble_eq_true rfl, Nat.le_of_ble_eq_true rfl⟩ (z_ri (fun r9 σ1 hx => ?_)) (fun E9 σ1 hx => ?_)
  · obtain ⟨hk, rfl, hD1, hF⟩ := hx
    exact z_iret C hr rfl dL_removeRule_5 (Nat.le_of_ble_eq_true rfl) (Nat.le_of_ble_eq_true rfl) ⟨_, rfl, zLw.ok hk hD1 hF⟩

  · obtain ⟨rfl, hk⟩ := hx
    rcases hk with ⟨hk, rfl⟩ | ⟨hk, rfl⟩ | ⟨hk, rfl⟩
    · refine z_catch C hT [] [] (sp := 0) (ep := 5) (hp := 6) (ct := 26) rfl ⟨Nat.le_of_ble_eq_true rfl, Nat.le_of_ble_eq_true rfl⟩ (fun z hz => by cases hz) (by decide) kl_RL_26 (by decide +kernel) (fun q9 => ?_)
      refine z_astore_nQ (i := 2) C dL_removeRule_6 rfl (by decide) ?_
      refine z_ldc C dL_removeRule_7 kc_RL_28 ?_
      exact z_iret C hr rfl dL_removeRule_9 (Nat.le_of_ble_eq_true rfl) (Nat.le_of_ble_eq_true rfl) ⟨_, rfl, zLw.e1 hk⟩
  
    · exact absurd hk goC_n2
  
    · exact absurd hk goC_n3

set_option maxRecDepth 100000 in
set_option maxHeartbeats 4000000 in
theorem c_L_except {X : zX} (l : Launch) {x : Nat → Int32} {a : Nat → Nat → Int32} {σ : zHp} (hD : DK x a σ) (hI : zIv x a) {i w : Int32} : zMh X l yL_except cL_except 4 (some .int) [(0, 6, 7, 26), (0, 6, 11, 16)] 9 10 200 [aR 0 0, aI i, aI w] σ (zPi (zLw (k_except x a i w) (a 5 (zN i)) (-1000001) (-1000002) 0 (x) (ua a 5 (upd (a 5) (zN i) w)) σ)) zNx := by
  refine zMh.of (by decide +kernel) (Nat.le_of_ble_eq_true rfl) (by simp [zcat, Value.category]) ?_
  intro p e s m args below meth c loc0 C hr hnm hT
  refine z_aload_n (i := 0) C dL_except_0 rfl rfl ?_
  refine z_iload_n (i := 1) C dL_except_1 rfl rfl ?_
  refine z_iload_n (i := 2) C dL_except_2 rfl rfl ?_
  refine z_callV C Y_X6_except V_X6_except ml_RL_36 (c_X6_except l hD hI.1) dL_except_3 rfl rfl hD.1.1 ⟨_, _, rfl⟩ (fun _ => Nat.le_of_ble_eq_true rfl) ⟨Nat.le_of_ble_eq_true rfl, Nat.le_of_ble_eq_true rfl⟩ ⟨Nat.le_of_ble_eq_true rfl, Nat.le_of_ble_eq_true rfl⟩ (z_ri (fun r9 σ1 hx => ?_)) (fun E9 σ1 hx => ?_)
  · obtain ⟨hk, rfl, hD1, hF⟩ := hx
    exact z_iret C hr rfl dL_except_6 (Nat.le_of_ble_eq_true rfl) (Nat.le_of_ble_eq_true rfl) ⟨_, rfl, zLw.ok hk hD1 hF⟩

  · obtain ⟨rfl, hk⟩ := hx
    rcases hk with ⟨hk, rfl⟩ | ⟨hk, rfl⟩ | ⟨hk, rfl⟩
    · refine z_catch C hT [] [(0, 6, 11, 16)] (sp := 0) (ep := 6) (hp := 7) (ct := 26) rfl ⟨Nat.le_of_ble_eq_true rfl, Nat.le_of_ble_eq_true rfl⟩ (fun z hz => by cases hz) (by decide) kl_RL_26 (by decide +kernel) (fun q9 => ?_)
      refine z_astore_nQ (i := 3) C dL_except_7 rfl (by decide) ?_
      refine z_ldc C dL_except_8 kc_RL_28 ?_
      exact z_iret C hr rfl dL_except_10 (Nat.le_of_ble_eq_true rfl) (Nat.le_of_ble_eq_true rfl) ⟨_, rfl, zLw.e1 hk⟩
  
    · refine z_catch C hT [(0, 6, 7, 26)] [] (sp := 0) (ep := 6) (hp := 11) (ct := 16) rfl ⟨Nat.le_of_ble_eq_true rfl, Nat.le_of_ble_eq_true rfl⟩ (pass1 ⟨by decide, _, kl_RL_26, by decide +kernel⟩) (by decide) kl_RL_16 (by decide +kernel) (fun q9 => ?_)
      refine z_astore_nQ (i := 3) C dL_except_11 rfl (by decide) ?_
      refine z_ldc C dL_except_12 kc_RL_18 ?_
      exact z_iret C hr rfl dL_except_14 (Nat.le_of_ble_eq_true rfl) (Nat.le_of_ble_eq_true rfl) ⟨_, rfl, zLw.e2 hk⟩
  
    · exact absurd hk goC_n3

set_option maxRecDepth 100000 in
set_option maxHeartbeats 4000000 in
theorem c_L_regionOf {X : zX} (l : Launch) {x : Nat → Int32} {a : Nat → Nat → Int32} {σ : zHp} (hD : DK x a σ) (hI : zIv x a) {i : Int32} : zMh X l yL_regionOf cL_regionOf 3 (some .int) [(0, 5, 6, 26)] 9 3 18 [aR 0 0, aI i] σ (zPi (zLq (k_regionOf x a i) (regS x a (zN i)) (-1000001) 0 0 σ)) zNx := by
  refine zMh.of (by decide +kernel) (Nat.le_of_ble_eq_true rfl) (by simp [zcat, Value.category]) ?_
  intro p e s m args below meth c loc0 C hr hnm hT
  refine z_aload_n (i := 0) C dL_regionOf_0 rfl rfl ?_
  refine z_iload_n (i := 1) C dL_regionOf_1 rfl rfl ?_
  refine z_callV C Y_X6_regionOf V_X6_regionOf ml_RL_40 (c_X6_regionOf l hD hI.1) dL_regionOf_2 rfl rfl hD.1.1 ⟨_, _, rfl⟩ (fun _ => Nat.le_of_ble_eq_true rfl) ⟨Nat.le_of_ble_eq_true rfl, Nat.le_of_ble_eq_true rfl⟩ ⟨Nat.le_of_ble_eq_true rfl, Nat.le_of_ble_eq_true rfl⟩ (z_ri (fun r9 σ1 hx => ?_)) (fun E9 σ1 hx => ?_)
  · obtain ⟨hk, rfl, rfl⟩ := hx
    exact z_iret C hr rfl dL_regionOf_5 (Nat.le_of_ble_eq_true rfl) (Nat.le_of_ble_eq_true rfl) ⟨_, rfl, zLq.ok hk⟩

  · obtain ⟨rfl, hk⟩ := hx
    rcases hk with ⟨hk, rfl⟩ | ⟨hk, rfl⟩ | ⟨hk, rfl⟩
    · refine z_catch C hT [] [] (sp := 0) (ep := 5) (hp := 6) (ct := 26) rfl ⟨Nat.le_of_ble_eq_true rfl, Nat.le_of_ble_eq_true rfl⟩ (fun z hz => by cases hz) (by decide) kl_RL_26 (by decide +kernel) (fun q9 => ?_)
      refine z_astore_nQ (i := 2) C dL_regionOf_6 rfl (by decide) ?_
      refine z_ldc C dL_regionOf_7 kc_RL_28 ?_
      exact z_iret C hr rfl dL_regionOf_9 (Nat.le_of_ble_eq_true rfl) (Nat.le_of_ble_eq_true rfl) ⟨_, rfl, zLq.e1 hk⟩
  
    · exact absurd hk goC_n2
  
    · exact absurd hk goC_n3

set_option maxRecDepth 100000 in
set_option maxHeartbeats 4000000 in
theorem c_L_addSeller {X : zX} (l : Launch) {x : Nat → Int32} {a : Nat → Nat → Int32} {σ : zHp} (hD : DK x a σ) (hI : zIv x a) {o w : Int32} : zMh X l yL_addSeller cL_addSeller 4 (some .int) [(0, 6, 7, 26), (0, 6, 11, 16), (0, 6, 15, 19)] 9 10 200 [aR 0 0, aI o, aI w] σ (zPi (zLw (k_addSeller x a o w) (x 11) (-1000001) (-1000002) (-1000003) (upd x 11 (x 11 + 1)) (ua (ua a 12 (upd (a 12) (zN (x 11)) o)) 13 (upd (a 13) (zN (x 11)) w)) σ)) zNx := by
  refine zMh.of (by decide +kernel) (Nat.le_of_ble_eq_true rfl) (by simp [zcat, Value.category]) ?_
  intro p e s m args below meth c loc0 C hr hnm hT
  refine z_aload_n (i := 0) C dL_addSeller_0 rfl rfl ?_
  refine z_iload_n (i := 1) C dL_addSeller_1 rfl rfl ?_
  refine z_iload_n (i := 2) C dL_addSeller_2 rfl rfl ?_
  refine z_callV C Y_X6_addSeller V_X6_addSeller ml_RL_43 (c_X6_addSeller l hD hI.1 hI.2) dL_addSeller_3 rfl rfl hD.1.1 ⟨_, _, rfl⟩ (fun _ => Nat.le_of_ble_eq_true rfl) ⟨Nat.le_of_ble_eq_true rfl, Nat.le_of_ble_eq_true rfl⟩ ⟨Nat.le_of_ble_eq_true rfl, Nat.le_of_ble_eq_true rfl⟩ (z_ri (fun r9 σ1 hx => ?_)) (fun E9 σ1 hx => ?_)
  · obtain ⟨hk, rfl, hD1, hF⟩ := hx
    exact z_iret C hr rfl dL_addSeller_6 (Nat.le_of_ble_eq_true rfl) (Nat.le_of_ble_eq_true rfl) ⟨_, rfl, zLw.ok hk hD1 hF⟩

  · obtain ⟨rfl, hk⟩ := hx
    rcases hk with ⟨hk, rfl⟩ | ⟨hk, rfl⟩ | ⟨hk, rfl⟩
    · refine z_catch C hT [] [(0, 6, 11, 16), (0, 6, 15, 19)] (sp := 0) (ep := 6) (hp := 7) (ct := 26) rfl ⟨Nat.le_of_ble_eq_true rfl, Nat.le_of_ble_eq_true rfl⟩ (fun z hz => by cases hz) (by decide) kl_RL_26 (by decide +kernel) (fun q9 => ?_)
      refine z_astore_nQ (i := 3) C dL_addSeller_7 rfl (by decide) ?_
      refine z_ldc C dL_addSeller_8 kc_RL_28 ?_
      exact z_iret C hr rfl dL_addSeller_10 (Nat.le_of_ble_eq_true rfl) (Nat.le_of_ble_eq_true rfl) ⟨_, rfl, zLw.e1 hk⟩
  
    · refine z_catch C hT [(0, 6, 7, 26)] [(0, 6, 15, 19)] (sp := 0) (ep := 6) (hp := 11) (ct := 16) rfl ⟨Nat.le_of_ble_eq_true rfl, Nat.le_of_ble_eq_true rfl⟩ (pass1 ⟨by decide, _, kl_RL_26, by decide +kernel⟩) (by decide) kl_RL_16 (by decide +kernel) (fun q9 => ?_)
      refine z_astore_nQ (i := 3) C dL_addSeller_11 rfl (by decide) ?_
      refine z_ldc C dL_addSeller_12 kc_RL_18 ?_
      exact z_iret C hr rfl dL_addSeller_14 (Nat.le_of_ble_eq_true rfl) (Nat.le_of_ble_eq_true rfl) ⟨_, rfl, zLw.e2 hk⟩
  
    · refine z_catch C hT [(0, 6, 7, 26), (0, 6, 11, 16)] [] (sp := 0) (ep := 6) (hp := 15) (ct := 19) rfl ⟨Nat.le_of_ble_eq_true rfl, Nat.le_of_ble_eq_true rfl⟩ (pass2 ⟨by decide, _, kl_RL_26, by decide +kernel⟩ ⟨by decide, _, kl_RL_16, by decide +kernel⟩) (by decide) kl_RL_19 (by decide +kernel) (fun q9 => ?_)
      refine z_astore_nQ (i := 3) C dL_addSeller_15 rfl (by decide) ?_
      refine z_ldc C dL_addSeller_16 kc_RL_21 ?_
      exact z_iret C hr rfl dL_addSeller_18 (Nat.le_of_ble_eq_true rfl) (Nat.le_of_ble_eq_true rfl) ⟨_, rfl, zLw.e3 hk⟩

set_option maxRecDepth 100000 in
set_option maxHeartbeats 4000000 in
theorem c_L_adjust {X : zX} (l : Launch) {x : Nat → Int32} {a : Nat → Nat → Int32} {σ : zHp} (hD : DK x a σ) (hI : zIv x a) {i w : Int32} : zMh X l yL_adjust cL_adjust 4 (some .int) [(0, 6, 7, 26), (0, 6, 11, 16)] 9 10 200 [aR 0 0, aI i, aI w] σ (zPi (zLw (k_adjust x a i w) (a 14 (zN i)) (-10000001) (-10000002) 0 (x) (ua a 14 (upd (a 14) (zN i) w)) σ)) zNx := by
  refine zMh.of (by decide +kernel) (Nat.le_of_ble_eq_true rfl) (by simp [zcat, Value.category]) ?_
  intro p e s m args below meth c loc0 C hr hnm hT
  refine z_aload_n (i := 0) C dL_adjust_0 rfl rfl ?_
  refine z_iload_n (i := 1) C dL_adjust_1 rfl rfl ?_
  refine z_iload_n (i := 2) C dL_adjust_2 rfl rfl ?_
  refine z_callV C Y_X6_adjust V_X6_adjust ml_RL_46 (c_X6_adjust l hD hI.1) dL_adjust_3 rfl rfl hD.1.1 ⟨_, _, rfl⟩ (fun _ => Nat.le_of_ble_eq_true rfl) ⟨Nat.le_of_ble_eq_true rfl, Nat.le_of_ble_eq_true rfl⟩ ⟨Nat.le_of_ble_eq_true rfl, Nat.le_of_ble_eq_true rfl⟩ (z_ri (fun r9 σ1 hx => ?_)) (fun E9 σ1 hx => ?_)
  · obtain ⟨hk, rfl, hD1, hF⟩ := hx
    exact z_iret C hr rfl dL_adjust_6 (Nat.le_of_ble_eq_true rfl) (Nat.le_of_ble_eq_true rfl) ⟨_, rfl, zLw.ok hk hD1 hF⟩

  · obtain ⟨rfl, hk⟩ := hx
    rcases hk with ⟨hk, rfl⟩ | ⟨hk, rfl⟩ | ⟨hk, rfl⟩
    · refine z_catch C hT [] [(0, 6, 11, 16)] (sp := 0) (ep := 6) (hp := 7) (ct := 26) rfl ⟨Nat.le_of_ble_eq_true rfl, Nat.le_of_ble_eq_true rfl⟩ (fun z hz => by cases hz) (by decide) kl_RL_26 (by decide +kernel) (fun q9 => ?_)
      refine z_astore_nQ (i := 3) C dL_adjust_7 rfl (by decide) ?_
      refine z_ldc C dL_adjust_8 kc_RL_49 ?_
      exact z_iret C hr rfl dL_adjust_10 (Nat.le_of_ble_eq_true rfl) (Nat.le_of_ble_eq_true rfl) ⟨_, rfl, zLw.e1 hk⟩
  
    · refine z_catch C hT [(0, 6, 7, 26)] [] (sp := 0) (ep := 6) (hp := 11) (ct := 16) rfl ⟨Nat.le_of_ble_eq_true rfl, Nat.le_of_ble_eq_true rfl⟩ (pass1 ⟨by decide, _, kl_RL_26, by decide +kernel⟩) (by decide) kl_RL_16 (by decide +kernel) (fun q9 => ?_)
      refine z_astore_nQ (i := 3) C dL_adjust_11 rfl (by decide) ?_
      refine z_ldc C dL_adjust_12 kc_RL_50 ?_
      exact z_iret C hr rfl dL_adjust_14 (Nat.le_of_ble_eq_true rfl) (Nat.le_of_ble_eq_true rfl) ⟨_, rfl, zLw.e2 hk⟩
  
    · exact absurd hk goC_n3

set_option maxRecDepth 100000 in
set_option maxHeartbeats 4000000 in
theorem c_L_addChance {X : zX} (l : Launch) {x : Nat → Int32} {a : Nat → Nat → Int32} {σ : zHp} (hD : DK x a σ) (hI : zIv x a) {i j w : Int32} : zMh X l yL_addChance cL_addChance 5 (some .int) [(0, 7, 8, 26), (0, 7, 13, 16), (0, 7, 18, 19)] 9 10 200 [aR 0 0, aI i, aI j, aI w] σ (zPi (zLw (k_addChance x a i j w) (x 15) (-1000001) (-1000002) (-1000003) (upd x 15 (x 15 + 1)) (ua (ua (ua (ua a 16 (upd (a 16) (zN (x 15)) i)) 17 (upd (a 17) (zN (x 15)) w)) 19 (upd (a 19) (zN (x 15)) (x 0))) 21 (upd (a 21) (8 * zN (x 15) + zN j) 100)) σ)) zNx := by
  refine zMh.of (by decide +kernel) (Nat.le_of_ble_eq_true rfl) (by simp [zcat, Value.category]) ?_
  intro p e s m args below meth c loc0 C hr hnm hT
  refine z_aload_n (i := 0) C dL_addChance_0 rfl rfl ?_
  refine z_iload_n (i := 1) C dL_addChance_1 rfl rfl ?_
  refine z_iload_n (i := 2) C dL_addChance_2 rfl rfl ?_
  refine z_iload_n (i := 3) C dL_addChance_3 rfl rfl ?_
  refine z_callV C Y_X6_addChance V_X6_addChance ml_RL_51 (c_X6_addChance l hD hI.1 hI.2) dL_addChance_4 rfl rfl hD.1.1 ⟨_, _, rfl⟩ (fun _ => Nat.le_of_ble_eq_true rfl) ⟨Nat.le_of_ble_eq_true rfl, Nat.le_of_ble_eq_true rfl⟩ ⟨Nat.le_of_ble_eq_true rfl, Nat.le_of_ble_eq_true rfl⟩ (z_ri (fun r9 σ1 hx => ?_)) (fun E9 σ1 hx => ?_)
  · obtain ⟨hk, rfl, hD1, hF⟩ := hx
    exact z_iret C hr rfl dL_addChance_7 (Nat.le_of_ble_eq_true rfl) (Nat.le_of_ble_eq_true rfl) ⟨_, rfl, zLw.ok hk hD1 hF⟩

  · obtain ⟨rfl, hk⟩ := hx
    rcases hk with ⟨hk, rfl⟩ | ⟨hk, rfl⟩ | ⟨hk, rfl⟩
    · refine z_catch C hT [] [(0, 7, 13, 16), (0, 7, 18, 19)] (sp := 0) (ep := 7) (hp := 8) (ct := 26) rfl ⟨Nat.le_of_ble_eq_true rfl, Nat.le_of_ble_eq_true rfl⟩ (fun z hz => by cases hz) (by decide) kl_RL_26 (by decide +kernel) (fun q9 => ?_)
      refine z_astoreQ C dL_addChance_8 (by decide) ?_
      refine z_ldc C dL_addChance_10 kc_RL_28 ?_
      exact z_iret C hr rfl dL_addChance_12 (Nat.le_of_ble_eq_true rfl) (Nat.le_of_ble_eq_true rfl) ⟨_, rfl, zLw.e1 hk⟩
  
    · refine z_catch C hT [(0, 7, 8, 26)] [(0, 7, 18, 19)] (sp := 0) (ep := 7) (hp := 13) (ct := 16) rfl ⟨Nat.le_of_ble_eq_true rfl, Nat.le_of_ble_eq_true rfl⟩ (pass1 ⟨by decide, _, kl_RL_26, by decide +kernel⟩) (by decide) kl_RL_16 (by decide +kernel) (fun q9 => ?_)
      refine z_astoreQ C dL_addChance_13 (by decide) ?_
      refine z_ldc C dL_addChance_15 kc_RL_18 ?_
      exact z_iret C hr rfl dL_addChance_17 (Nat.le_of_ble_eq_true rfl) (Nat.le_of_ble_eq_true rfl) ⟨_, rfl, zLw.e2 hk⟩
  
    · refine z_catch C hT [(0, 7, 8, 26), (0, 7, 13, 16)] [] (sp := 0) (ep := 7) (hp := 18) (ct := 19) rfl ⟨Nat.le_of_ble_eq_true rfl, Nat.le_of_ble_eq_true rfl⟩ (pass2 ⟨by decide, _, kl_RL_26, by decide +kernel⟩ ⟨by decide, _, kl_RL_16, by decide +kernel⟩) (by decide) kl_RL_19 (by decide +kernel) (fun q9 => ?_)
      refine z_astoreQ C dL_addChance_18 (by decide) ?_
      refine z_ldc C dL_addChance_20 kc_RL_21 ?_
      exact z_iret C hr rfl dL_addChance_22 (Nat.le_of_ble_eq_true rfl) (Nat.le_of_ble_eq_true rfl) ⟨_, rfl, zLw.e3 hk⟩

set_option maxRecDepth 100000 in
set_option maxHeartbeats 4000000 in
theorem c_L_giveShare {X : zX} (l : Launch) {x : Nat → Int32} {a : Nat → Nat → Int32} {σ : zHp} (hD : DK x a σ) (hI : zIv x a) {i j t w : Int32} : zMh X l yL_giveShare cL_giveShare 6 (some .int) [(0, 9, 10, 26), (0, 9, 15, 16), (0, 9, 20, 19)] 9 10 200 [aR 0 0, aI i, aI j, aI t, aI w] σ (zPi (zLw (k_giveShare x a i j t w) (upd (upd (a 21) (8 * zN i + zN j) (a 21 (8 * zN i + zN j) - w)) (8 * zN i + zN t) ((upd (a 21) (8 * zN i + zN j) (a 21 (8 * zN i + zN j) - w)) (8 * zN i + zN t) + w) (8 * zN i + zN t)) (-1000001) (-1000002) (-1000003) (x) (ua (ua a 21 (upd (a 21) (8 * zN i + zN j) (a 21 (8 * zN i + zN j) - w))) 21 (upd (upd (a 21) (8 * zN i + zN j) (a 21 (8 * zN i + zN j) - w)) (8 * zN i + zN t) ((upd (a 21) (8 * zN i + zN j) (a 21 (8 * zN i + zN j) - w)) (8 * zN i + zN t) + w))) σ)) zNx := by
  refine zMh.of (by decide +kernel) (Nat.le_of_ble_eq_true rfl) (by simp [zcat, Value.category]) ?_
  intro p e s m args below meth c loc0 C hr hnm hT
  refine z_aload_n (i := 0) C dL_giveShare_0 rfl rfl ?_
  refine z_iload_n (i := 1) C dL_giveShare_1 rfl rfl ?_
  refine z_iload_n (i := 2) C dL_giveShare_2 rfl rfl ?_
  refine z_iload_n (i := 3) C dL_giveShare_3 rfl rfl ?_
  refine z_iload C dL_giveShare_4 rfl ?_
  refine z_callV C Y_X6_giveShare V_X6_giveShare ml_RL_54 (c_X6_giveShare l hD hI.1) dL_giveShare_6 rfl rfl hD.1.1 ⟨_, _, rfl⟩ (fun _ => Nat.le_of_ble_eq_true rfl) ⟨Nat.le_of_ble_eq_true rfl, Nat.le_of_ble_eq_true rfl⟩ ⟨Nat.le_of_ble_eq_true rfl, Nat.le_of_ble_eq_true rfl⟩ (z_ri (fun r9 σ1 hx => ?_)) (fun E9 σ1 hx => ?_)
  · obtain ⟨hk, rfl, hD1, hF⟩ := hx
    exact z_iret C hr rfl dL_giveShare_9 (Nat.le_of_ble_eq_true rfl) (Nat.le_of_ble_eq_true rfl) ⟨_, rfl, zLw.ok hk hD1 hF⟩

  · obtain ⟨rfl, hk⟩ := hx
    rcases hk with ⟨hk, rfl⟩ | ⟨hk, rfl⟩ | ⟨hk, rfl⟩
    · refine z_catch C hT [] [(0, 9, 15, 16), (0, 9, 20, 19)] (sp := 0) (ep := 9) (hp := 10) (ct := 26) rfl ⟨Nat.le_of_ble_eq_true rfl, Nat.le_of_ble_eq_true rfl⟩ (fun z hz => by cases hz) (by decide) kl_RL_26 (by decide +kernel) (fun q9 => ?_)
      refine z_astoreQ C dL_giveShare_10 (by decide) ?_
      refine z_ldc C dL_giveShare_12 kc_RL_28 ?_
      exact z_iret C hr rfl dL_giveShare_14 (Nat.le_of_ble_eq_true rfl) (Nat.le_of_ble_eq_true rfl) ⟨_, rfl, zLw.e1 hk⟩
  
    · refine z_catch C hT [(0, 9, 10, 26)] [(0, 9, 20, 19)] (sp := 0) (ep := 9) (hp := 15) (ct := 16) rfl ⟨Nat.le_of_ble_eq_true rfl, Nat.le_of_ble_eq_true rfl⟩ (pass1 ⟨by decide, _, kl_RL_26, by decide +kernel⟩) (by decide) kl_RL_16 (by decide +kernel) (fun q9 => ?_)
      refine z_astoreQ C dL_giveShare_15 (by decide) ?_
      refine z_ldc C dL_giveShare_17 kc_RL_18 ?_
      exact z_iret C hr rfl dL_giveShare_19 (Nat.le_of_ble_eq_true rfl) (Nat.le_of_ble_eq_true rfl) ⟨_, rfl, zLw.e2 hk⟩
  
    · refine z_catch C hT [(0, 9, 10, 26), (0, 9, 15, 16)] [] (sp := 0) (ep := 9) (hp := 20) (ct := 19) rfl ⟨Nat.le_of_ble_eq_true rfl, Nat.le_of_ble_eq_true rfl⟩ (pass2 ⟨by decide, _, kl_RL_26, by decide +kernel⟩ ⟨by decide, _, kl_RL_16, by decide +kernel⟩) (by decide) kl_RL_19 (by decide +kernel) (fun q9 => ?_)
      refine z_astoreQ C dL_giveShare_20 (by decide) ?_
      refine z_ldc C dL_giveShare_22 kc_RL_21 ?_
      exact z_iret C hr rfl dL_giveShare_24 (Nat.le_of_ble_eq_true rfl) (Nat.le_of_ble_eq_true rfl) ⟨_, rfl, zLw.e3 hk⟩

set_option maxRecDepth 100000 in
set_option maxHeartbeats 4000000 in
theorem c_L_move {X : zX} (l : Launch) {x : Nat → Int32} {a : Nat → Nat → Int32} {σ : zHp} (hD : DK x a σ) (hI : zIv x a) {i w : Int32} : zMh X l yL_move cL_move 4 (some .int) [(0, 6, 7, 26), (0, 6, 11, 16), (0, 6, 15, 19)] 9 10 200 [aR 0 0, aI i, aI w] σ (zPi (zLw (k_move x a i w) (x 0 - a 19 (zN i)) (-1000001) (-1000002) (-1000003) (x) (ua (ua (ua (ua a 22 (upd (a 22) (6 * zN i + zN (a 18 (zN i))) (a 22 (6 * zN i + zN (a 18 (zN i))) + (x 0 - a 19 (zN i))))) 18 (upd (a 18) (zN i) w)) 19 (upd (a 19) (zN i) (x 0))) 20 (upd (a 20) (zN i) (regS x a (zN (a 16 (zN i)))))) σ)) zNx := by
  refine zMh.of (by decide +kernel) (Nat.le_of_ble_eq_true rfl) (by simp [zcat, Value.category]) ?_
  intro p e s m args below meth c loc0 C hr hnm hT
  refine z_aload_n (i := 0) C dL_move_0 rfl rfl ?_
  refine z_iload_n (i := 1) C dL_move_1 rfl rfl ?_
  refine z_iload_n (i := 2) C dL_move_2 rfl rfl ?_
  refine z_callV C Y_X6_move V_X6_move ml_RL_58 (c_X6_move l hD hI.1 hI.2) dL_move_3 rfl rfl hD.1.1 ⟨_, _, rfl⟩ (fun _ => Nat.le_of_ble_eq_true rfl) ⟨Nat.le_of_ble_eq_true rfl, Nat.le_of_ble_eq_true rfl⟩ ⟨Nat.le_of_ble_eq_true rfl, Nat.le_of_ble_eq_true rfl⟩ (z_ri (fun r9 σ1 hx => ?_)) (fun E9 σ1 hx => ?_)
  · obtain ⟨hk, rfl, hD1, hF⟩ := hx
    exact z_iret C hr rfl dL_move_6 (Nat.le_of_ble_eq_true rfl) (Nat.le_of_ble_eq_true rfl) ⟨_, rfl, zLw.ok hk hD1 hF⟩

  · obtain ⟨rfl, hk⟩ := hx
    rcases hk with ⟨hk, rfl⟩ | ⟨hk, rfl⟩ | ⟨hk, rfl⟩
    · refine z_catch C hT [] [(0, 6, 11, 16), (0, 6, 15, 19)] (sp := 0) (ep := 6) (hp := 7) (ct := 26) rfl ⟨Nat.le_of_ble_eq_true rfl, Nat.le_of_ble_eq_true rfl⟩ (fun z hz => by cases hz) (by decide) kl_RL_26 (by decide +kernel) (fun q9 => ?_)
      refine z_astore_nQ (i := 3) C dL_move_7 rfl (by decide) ?_
      refine z_ldc C dL_move_8 kc_RL_28 ?_
      exact z_iret C hr rfl dL_move_10 (Nat.le_of_ble_eq_true rfl) (Nat.le_of_ble_eq_true rfl) ⟨_, rfl, zLw.e1 hk⟩
  
    · refine z_catch C hT [(0, 6, 7, 26)] [(0, 6, 15, 19)] (sp := 0) (ep := 6) (hp := 11) (ct := 16) rfl ⟨Nat.le_of_ble_eq_true rfl, Nat.le_of_ble_eq_true rfl⟩ (pass1 ⟨by decide, _, kl_RL_26, by decide +kernel⟩) (by decide) kl_RL_16 (by decide +kernel) (fun q9 => ?_)
      refine z_astore_nQ (i := 3) C dL_move_11 rfl (by decide) ?_
      refine z_ldc C dL_move_12 kc_RL_18 ?_
      exact z_iret C hr rfl dL_move_14 (Nat.le_of_ble_eq_true rfl) (Nat.le_of_ble_eq_true rfl) ⟨_, rfl, zLw.e2 hk⟩
  
    · refine z_catch C hT [(0, 6, 7, 26), (0, 6, 11, 16)] [] (sp := 0) (ep := 6) (hp := 15) (ct := 19) rfl ⟨Nat.le_of_ble_eq_true rfl, Nat.le_of_ble_eq_true rfl⟩ (pass2 ⟨by decide, _, kl_RL_26, by decide +kernel⟩ ⟨by decide, _, kl_RL_16, by decide +kernel⟩) (by decide) kl_RL_19 (by decide +kernel) (fun q9 => ?_)
      refine z_astore_nQ (i := 3) C dL_move_15 rfl (by decide) ?_
      refine z_ldc C dL_move_16 kc_RL_21 ?_
      exact z_iret C hr rfl dL_move_18 (Nat.le_of_ble_eq_true rfl) (Nat.le_of_ble_eq_true rfl) ⟨_, rfl, zLw.e3 hk⟩

set_option maxRecDepth 100000 in
set_option maxHeartbeats 4000000 in
theorem c_L_stage {X : zX} (l : Launch) {x : Nat → Int32} {a : Nat → Nat → Int32} {σ : zHp} (hD : DK x a σ) (hI : zIv x a) {i : Int32} : zMh X l yL_stage cL_stage 3 (some .int) [(0, 5, 6, 26)] 9 3 18 [aR 0 0, aI i] σ (zPi (zLq (k_stage x a i) (a 18 (zN i)) (-1000001) 0 0 σ)) zNx := by
  refine zMh.of (by decide +kernel) (Nat.le_of_ble_eq_true rfl) (by simp [zcat, Value.category]) ?_
  intro p e s m args below meth c loc0 C hr hnm hT
  refine z_aload_n (i := 0) C dL_stage_0 rfl rfl ?_
  refine z_iload_n (i := 1) C dL_stage_1 rfl rfl ?_
  refine z_callV C Y_X6_stage V_X6_stage ml_RL_61 (c_X6_stage l hD hI.1) dL_stage_2 rfl rfl hD.1.1 ⟨_, _, rfl⟩ (fun _ => Nat.le_of_ble_eq_true rfl) ⟨Nat.le_of_ble_eq_true rfl, Nat.le_of_ble_eq_true rfl⟩ ⟨Nat.le_of_ble_eq_true rfl, Nat.le_of_ble_eq_true rfl⟩ (z_ri (fun r9 σ1 hx => ?_)) (fun E9 σ1 hx => ?_)
  · obtain ⟨hk, rfl, rfl⟩ := hx
    exact z_iret C hr rfl dL_stage_5 (Nat.le_of_ble_eq_true rfl) (Nat.le_of_ble_eq_true rfl) ⟨_, rfl, zLq.ok hk⟩

  · obtain ⟨rfl, hk⟩ := hx
    rcases hk with ⟨hk, rfl⟩ | ⟨hk, rfl⟩ | ⟨hk, rfl⟩
    · refine z_catch C hT [] [] (sp := 0) (ep := 5) (hp := 6) (ct := 26) rfl ⟨Nat.le_of_ble_eq_true rfl, Nat.le_of_ble_eq_true rfl⟩ (fun z hz => by cases hz) (by decide) kl_RL_26 (by decide +kernel) (fun q9 => ?_)
      refine z_astore_nQ (i := 2) C dL_stage_6 rfl (by decide) ?_
      refine z_ldc C dL_stage_7 kc_RL_28 ?_
      exact z_iret C hr rfl dL_stage_9 (Nat.le_of_ble_eq_true rfl) (Nat.le_of_ble_eq_true rfl) ⟨_, rfl, zLq.e1 hk⟩
  
    · exact absurd hk goC_n2
  
    · exact absurd hk goC_n3

set_option maxRecDepth 100000 in
set_option maxHeartbeats 4000000 in
theorem c_L_daysIn {X : zX} (l : Launch) {x : Nat → Int32} {a : Nat → Nat → Int32} {σ : zHp} (hD : DK x a σ) (hI : zIv x a) {i w : Int32} : zMh X l yL_daysIn cL_daysIn 4 (some .int) [(0, 6, 7, 26), (0, 6, 11, 16)] 9 3 18 [aR 0 0, aI i, aI w] σ (zPi (zLq (k_daysIn x a i w) (a 22 (6 * zN i + zN w) + (if a 18 (zN i) = w then x 0 - a 19 (zN i) else 0)) (-1000001) (-1000002) 0 σ)) zNx := by
  refine zMh.of (by decide +kernel) (Nat.le_of_ble_eq_true rfl) (by simp [zcat, Value.category]) ?_
  intro p e s m args below meth c loc0 C hr hnm hT
  refine z_aload_n (i := 0) C dL_daysIn_0 rfl rfl ?_
  refine z_iload_n (i := 1) C dL_daysIn_1 rfl rfl ?_
  refine z_iload_n (i := 2) C dL_daysIn_2 rfl rfl ?_
  refine z_callV C Y_X6_daysIn V_X6_daysIn ml_RL_64 (c_X6_daysIn l hD hI.1) dL_daysIn_3 rfl rfl hD.1.1 ⟨_, _, rfl⟩ (fun _ => Nat.le_of_ble_eq_true rfl) ⟨Nat.le_of_ble_eq_true rfl, Nat.le_of_ble_eq_true rfl⟩ ⟨Nat.le_of_ble_eq_true rfl, Nat.le_of_ble_eq_true rfl⟩ (z_ri (fun r9 σ1 hx => ?_)) (fun E9 σ1 hx => ?_)
  · obtain ⟨hk, rfl, rfl⟩ := hx
    exact z_iret C hr rfl dL_daysIn_6 (Nat.le_of_ble_eq_true rfl) (Nat.le_of_ble_eq_true rfl) ⟨_, rfl, zLq.ok hk⟩

  · obtain ⟨rfl, hk⟩ := hx
    rcases hk with ⟨hk, rfl⟩ | ⟨hk, rfl⟩ | ⟨hk, rfl⟩
    · refine z_catch C hT [] [(0, 6, 11, 16)] (sp := 0) (ep := 6) (hp := 7) (ct := 26) rfl ⟨Nat.le_of_ble_eq_true rfl, Nat.le_of_ble_eq_true rfl⟩ (fun z hz => by cases hz) (by decide) kl_RL_26 (by decide +kernel) (fun q9 => ?_)
      refine z_astore_nQ (i := 3) C dL_daysIn_7 rfl (by decide) ?_
      refine z_ldc C dL_daysIn_8 kc_RL_28 ?_
      exact z_iret C hr rfl dL_daysIn_10 (Nat.le_of_ble_eq_true rfl) (Nat.le_of_ble_eq_true rfl) ⟨_, rfl, zLq.e1 hk⟩
  
    · refine z_catch C hT [(0, 6, 7, 26)] [] (sp := 0) (ep := 6) (hp := 11) (ct := 16) rfl ⟨Nat.le_of_ble_eq_true rfl, Nat.le_of_ble_eq_true rfl⟩ (pass1 ⟨by decide, _, kl_RL_26, by decide +kernel⟩) (by decide) kl_RL_16 (by decide +kernel) (fun q9 => ?_)
      refine z_astore_nQ (i := 3) C dL_daysIn_11 rfl (by decide) ?_
      refine z_ldc C dL_daysIn_12 kc_RL_18 ?_
      exact z_iret C hr rfl dL_daysIn_14 (Nat.le_of_ble_eq_true rfl) (Nat.le_of_ble_eq_true rfl) ⟨_, rfl, zLq.e2 hk⟩
  
    · exact absurd hk goC_n3

set_option maxRecDepth 100000 in
set_option maxHeartbeats 4000000 in
theorem c_L_stalled {X : zX} (l : Launch) {x : Nat → Int32} {a : Nat → Nat → Int32} {σ : zHp} (hD : DK x a σ) (hI : zIv x a) {w : Int32} : zMh X l yL_stalled cL_stalled 3 (some .int) [(0, 5, 6, 16)] 9 3 18 [aR 0 0, aI w] σ (zPi (zLq (k_stalled x a w) (stlL x a w (zN (x 15))) (-1000002) 0 0 σ)) zNx := by
  refine zMh.of (by decide +kernel) (Nat.le_of_ble_eq_true rfl) (by simp [zcat, Value.category]) ?_
  intro p e s m args below meth c loc0 C hr hnm hT
  refine z_aload_n (i := 0) C dL_stalled_0 rfl rfl ?_
  refine z_iload_n (i := 1) C dL_stalled_1 rfl rfl ?_
  refine z_callV C Y_X6_stalled V_X6_stalled ml_RL_67 (c_X6_stalled l hD hI.1) dL_stalled_2 rfl rfl hD.1.1 ⟨_, _, rfl⟩ (fun _ => Nat.le_of_ble_eq_true rfl) ⟨Nat.le_of_ble_eq_true rfl, Nat.le_of_ble_eq_true rfl⟩ ⟨Nat.le_of_ble_eq_true rfl, Nat.le_of_ble_eq_true rfl⟩ (z_ri (fun r9 σ1 hx => ?_)) (fun E9 σ1 hx => ?_)
  · obtain ⟨hk, rfl, rfl⟩ := hx
    exact z_iret C hr rfl dL_stalled_5 (Nat.le_of_ble_eq_true rfl) (Nat.le_of_ble_eq_true rfl) ⟨_, rfl, zLq.ok hk⟩

  · obtain ⟨rfl, hk⟩ := hx
    rcases hk with ⟨hk, rfl⟩ | ⟨hk, rfl⟩ | ⟨hk, rfl⟩
    · refine z_catch C hT [] [] (sp := 0) (ep := 5) (hp := 6) (ct := 16) rfl ⟨Nat.le_of_ble_eq_true rfl, Nat.le_of_ble_eq_true rfl⟩ (fun z hz => by cases hz) (by decide) kl_RL_16 (by decide +kernel) (fun q9 => ?_)
      refine z_astore_nQ (i := 2) C dL_stalled_6 rfl (by decide) ?_
      refine z_ldc C dL_stalled_7 kc_RL_18 ?_
      exact z_iret C hr rfl dL_stalled_9 (Nat.le_of_ble_eq_true rfl) (Nat.le_of_ble_eq_true rfl) ⟨_, rfl, zLq.e1 hk⟩
  
    · exact absurd hk goC_n2
  
    · exact absurd hk goC_n3

set_option maxRecDepth 100000 in
set_option maxHeartbeats 4000000 in
theorem c_L_worth {X : zX} (l : Launch) {x : Nat → Int32} {a : Nat → Nat → Int32} {σ : zHp} (hD : DK x a σ) (hI : zIv x a) {i : Int32} : zMh X l yL_worth cL_worth 3 (some .int) [(0, 5, 6, 26)] 9 3 18 [aR 0 0, aI i] σ (zPi (zLq (k_worth x a i) (wrt x a (zN i)) (-1000001) 0 0 σ)) zNx := by
  refine zMh.of (by decide +kernel) (Nat.le_of_ble_eq_true rfl) (by simp [zcat, Value.category]) ?_
  intro p e s m args below meth c loc0 C hr hnm hT
  refine z_aload_n (i := 0) C dL_worth_0 rfl rfl ?_
  refine z_iload_n (i := 1) C dL_worth_1 rfl rfl ?_
  refine z_callV C Y_X6_worth V_X6_worth ml_RL_70 (c_X6_worth l hD hI.1) dL_worth_2 rfl rfl hD.1.1 ⟨_, _, rfl⟩ (fun _ => Nat.le_of_ble_eq_true rfl) ⟨Nat.le_of_ble_eq_true rfl, Nat.le_of_ble_eq_true rfl⟩ ⟨Nat.le_of_ble_eq_true rfl, Nat.le_of_ble_eq_true rfl⟩ (z_ri (fun r9 σ1 hx => ?_)) (fun E9 σ1 hx => ?_)
  · obtain ⟨hk, rfl, rfl⟩ := hx
    exact z_iret C hr rfl dL_worth_5 (Nat.le_of_ble_eq_true rfl) (Nat.le_of_ble_eq_true rfl) ⟨_, rfl, zLq.ok hk⟩

  · obtain ⟨rfl, hk⟩ := hx
    rcases hk with ⟨hk, rfl⟩ | ⟨hk, rfl⟩ | ⟨hk, rfl⟩
    · refine z_catch C hT [] [] (sp := 0) (ep := 5) (hp := 6) (ct := 26) rfl ⟨Nat.le_of_ble_eq_true rfl, Nat.le_of_ble_eq_true rfl⟩ (fun z hz => by cases hz) (by decide) kl_RL_26 (by decide +kernel) (fun q9 => ?_)
      refine z_astore_nQ (i := 2) C dL_worth_6 rfl (by decide) ?_
      refine z_ldc C dL_worth_7 kc_RL_28 ?_
      exact z_iret C hr rfl dL_worth_9 (Nat.le_of_ble_eq_true rfl) (Nat.le_of_ble_eq_true rfl) ⟨_, rfl, zLq.e1 hk⟩
  
    · exact absurd hk goC_n2
  
    · exact absurd hk goC_n3

set_option maxRecDepth 100000 in
set_option maxHeartbeats 4000000 in
theorem c_L_inRegion {X : zX} (l : Launch) {x : Nat → Int32} {a : Nat → Nat → Int32} {σ : zHp} (hD : DK x a σ) (hI : zIv x a) {w t : Int32} : zMh X l yL_inRegion cL_inRegion 4 (some .int) [(0, 6, 7, 16)] 9 3 18 [aR 0 0, aI w, aI t] σ (zPi (zLq (k_inRegion x a w t) (inrL x a w t (zN (x 15))) (-1000002) 0 0 σ)) zNx := by
  refine zMh.of (by decide +kernel) (Nat.le_of_ble_eq_true rfl) (by simp [zcat, Value.category]) ?_
  intro p e s m args below meth c loc0 C hr hnm hT
  refine z_aload_n (i := 0) C dL_inRegion_0 rfl rfl ?_
  refine z_iload_n (i := 1) C dL_inRegion_1 rfl rfl ?_
  refine z_iload_n (i := 2) C dL_inRegion_2 rfl rfl ?_
  refine z_callV C Y_X6_inRegion V_X6_inRegion ml_RL_73 (c_X6_inRegion l hD hI.1) dL_inRegion_3 rfl rfl hD.1.1 ⟨_, _, rfl⟩ (fun _ => Nat.le_of_ble_eq_true rfl) ⟨Nat.le_of_ble_eq_true rfl, Nat.le_of_ble_eq_true rfl⟩ ⟨Nat.le_of_ble_eq_true rfl, Nat.le_of_ble_eq_true rfl⟩ (z_ri (fun r9 σ1 hx => ?_)) (fun E9 σ1 hx => ?_)
  · obtain ⟨hk, rfl, rfl⟩ := hx
    exact z_iret C hr rfl dL_inRegion_6 (Nat.le_of_ble_eq_true rfl) (Nat.le_of_ble_eq_true rfl) ⟨_, rfl, zLq.ok hk⟩

  · obtain ⟨rfl, hk⟩ := hx
    rcases hk with ⟨hk, rfl⟩ | ⟨hk, rfl⟩ | ⟨hk, rfl⟩
    · refine z_catch C hT [] [] (sp := 0) (ep := 6) (hp := 7) (ct := 16) rfl ⟨Nat.le_of_ble_eq_true rfl, Nat.le_of_ble_eq_true rfl⟩ (fun z hz => by cases hz) (by decide) kl_RL_16 (by decide +kernel) (fun q9 => ?_)
      refine z_astore_nQ (i := 3) C dL_inRegion_7 rfl (by decide) ?_
      refine z_ldc C dL_inRegion_8 kc_RL_18 ?_
      exact z_iret C hr rfl dL_inRegion_10 (Nat.le_of_ble_eq_true rfl) (Nat.le_of_ble_eq_true rfl) ⟨_, rfl, zLq.e1 hk⟩
  
    · exact absurd hk goC_n2
  
    · exact absurd hk goC_n3

set_option maxRecDepth 100000 in
set_option maxHeartbeats 4000000 in
theorem c_L_won {X : zX} (l : Launch) {x : Nat → Int32} {a : Nat → Nat → Int32} {σ : zHp} (hD : DK x a σ) (hI : zIv x a) {i : Int32} : zMh X l yL_won cL_won 3 (some .int) [(0, 5, 6, 26)] 9 3 18 [aR 0 0, aI i] σ (zPi (zLq (k_won x a i) (wonL x a i (zN (x 15))) (-1000001) 0 0 σ)) zNx := by
  refine zMh.of (by decide +kernel) (Nat.le_of_ble_eq_true rfl) (by simp [zcat, Value.category]) ?_
  intro p e s m args below meth c loc0 C hr hnm hT
  refine z_aload_n (i := 0) C dL_won_0 rfl rfl ?_
  refine z_iload_n (i := 1) C dL_won_1 rfl rfl ?_
  refine z_callV C Y_X6_won V_X6_won ml_RL_76 (c_X6_won l hD hI.1) dL_won_2 rfl rfl hD.1.1 ⟨_, _, rfl⟩ (fun _ => Nat.le_of_ble_eq_true rfl) ⟨Nat.le_of_ble_eq_true rfl, Nat.le_of_ble_eq_true rfl⟩ ⟨Nat.le_of_ble_eq_true rfl, Nat.le_of_ble_eq_true rfl⟩ (z_ri (fun r9 σ1 hx => ?_)) (fun E9 σ1 hx => ?_)
  · obtain ⟨hk, rfl, rfl⟩ := hx
    exact z_iret C hr rfl dL_won_5 (Nat.le_of_ble_eq_true rfl) (Nat.le_of_ble_eq_true rfl) ⟨_, rfl, zLq.ok hk⟩

  · obtain ⟨rfl, hk⟩ := hx
    rcases hk with ⟨hk, rfl⟩ | ⟨hk, rfl⟩ | ⟨hk, rfl⟩
    · refine z_catch C hT [] [] (sp := 0) (ep := 5) (hp := 6) (ct := 26) rfl ⟨Nat.le_of_ble_eq_true rfl, Nat.le_of_ble_eq_true rfl⟩ (fun z hz => by cases hz) (by decide) kl_RL_26 (by decide +kernel) (fun q9 => ?_)
      refine z_astore_nQ (i := 2) C dL_won_6 rfl (by decide) ?_
      refine z_ldc C dL_won_7 kc_RL_28 ?_
      exact z_iret C hr rfl dL_won_9 (Nat.le_of_ble_eq_true rfl) (Nat.le_of_ble_eq_true rfl) ⟨_, rfl, zLq.e1 hk⟩
  
    · exact absurd hk goC_n2
  
    · exact absurd hk goC_n3

set_option maxRecDepth 100000 in
set_option maxHeartbeats 4000000 in
theorem c_L_quote {X : zX} (l : Launch) {x : Nat → Int32} {a : Nat → Nat → Int32} {σ : zHp} (hD : DK x a σ) (hI : zIv x a) {i j w : Int32} : zMh X l yL_quote cL_quote 5 (some .int) [(0, 7, 8, 26), (0, 7, 13, 16), (0, 7, 18, 19)] 9 10 200 [aR 0 0, aI i, aI j, aI w] σ (zPi (zLw (k_quote x a i j w) (x 23) (-1000001) (-1000002) (-1000003) (if w ≤ a 13 (zN j) then upd (upd x 23 (x 23 + 1)) 24 (x 24 + 1) else upd x 23 (x 23 + 1)) (if w ≤ a 13 (zN j) then ua (ua (ua (ua a 25 (upd (a 25) (zN (x 23)) i)) 26 (upd (a 26) (zN (x 23)) j)) 27 (upd (a 27) (zN (x 23)) w)) 28 (upd (a 28) (zN (x 23)) (x 24 + 1)) else (ua (ua (ua a 25 (upd (a 25) (zN (x 23)) i)) 26 (upd (a 26) (zN (x 23)) j)) 27 (upd (a 27) (zN (x 23)) w))) σ)) zNx := by
  refine zMh.of (by decide +kernel) (Nat.le_of_ble_eq_true rfl) (by simp [zcat, Value.category]) ?_
  intro p e s m args below meth c loc0 C hr hnm hT
  refine z_aload_n (i := 0) C dL_quote_0 rfl rfl ?_
  refine z_iload_n (i := 1) C dL_quote_1 rfl rfl ?_
  refine z_iload_n (i := 2) C dL_quote_2 rfl rfl ?_
  refine z_iload_n (i := 3) C dL_quote_3 rfl rfl ?_
  refine z_callV C Y_X6_quote V_X6_quote ml_RL_79 (c_X6_quote l hD hI.1 hI.2) dL_quote_4 rfl rfl hD.1.1 ⟨_, _, rfl⟩ (fun _ => Nat.le_of_ble_eq_true rfl) ⟨Nat.le_of_ble_eq_true rfl, Nat.le_of_ble_eq_true rfl⟩ ⟨Nat.le_of_ble_eq_true rfl, Nat.le_of_ble_eq_true rfl⟩ (z_ri (fun r9 σ1 hx => ?_)) (fun E9 σ1 hx => ?_)
  · obtain ⟨hk, rfl, hD1, hF⟩ := hx
    exact z_iret C hr rfl dL_quote_7 (Nat.le_of_ble_eq_true rfl) (Nat.le_of_ble_eq_true rfl) ⟨_, rfl, zLw.ok hk hD1 hF⟩

  · obtain ⟨rfl, hk⟩ := hx
    rcases hk with ⟨hk, rfl⟩ | ⟨hk, rfl⟩ | ⟨hk, rfl⟩
    · refine z_catch C hT [] [(0, 7, 13, 16), (0, 7, 18, 19)] (sp := 0) (ep := 7) (hp := 8) (ct := 26) rfl ⟨Nat.le_of_ble_eq_true rfl, Nat.le_of_ble_eq_true rfl⟩ (fun z hz => by cases hz) (by decide) kl_RL_26 (by decide +kernel) (fun q9 => ?_)
      refine z_astoreQ C dL_quote_8 (by decide) ?_
      refine z_ldc C dL_quote_10 kc_RL_28 ?_
      exact z_iret C hr rfl dL_quote_12 (Nat.le_of_ble_eq_true rfl) (Nat.le_of_ble_eq_true rfl) ⟨_, rfl, zLw.e1 hk⟩
  
    · refine z_catch C hT [(0, 7, 8, 26)] [(0, 7, 18, 19)] (sp := 0) (ep := 7) (hp := 13) (ct := 16) rfl ⟨Nat.le_of_ble_eq_true rfl, Nat.le_of_ble_eq_true rfl⟩ (pass1 ⟨by decide, _, kl_RL_26, by decide +kernel⟩) (by decide) kl_RL_16 (by decide +kernel) (fun q9 => ?_)
      refine z_astoreQ C dL_quote_13 (by decide) ?_
      refine z_ldc C dL_quote_15 kc_RL_18 ?_
      exact z_iret C hr rfl dL_quote_17 (Nat.le_of_ble_eq_true rfl) (Nat.le_of_ble_eq_true rfl) ⟨_, rfl, zLw.e2 hk⟩
  
    · refine z_catch C hT [(0, 7, 8, 26), (0, 7, 13, 16)] [] (sp := 0) (ep := 7) (hp := 18) (ct := 19) rfl ⟨Nat.le_of_ble_eq_true rfl, Nat.le_of_ble_eq_true rfl⟩ (pass2 ⟨by decide, _, kl_RL_26, by decide +kernel⟩ ⟨by decide, _, kl_RL_16, by decide +kernel⟩) (by decide) kl_RL_19 (by decide +kernel) (fun q9 => ?_)
      refine z_astoreQ C dL_quote_18 (by decide) ?_
      refine z_ldc C dL_quote_20 kc_RL_21 ?_
      exact z_iret C hr rfl dL_quote_22 (Nat.le_of_ble_eq_true rfl) (Nat.le_of_ble_eq_true rfl) ⟨_, rfl, zLw.e3 hk⟩

set_option maxRecDepth 100000 in
set_option maxHeartbeats 4000000 in
theorem c_L_approve {X : zX} (l : Launch) {x : Nat → Int32} {a : Nat → Nat → Int32} {σ : zHp} (hD : DK x a σ) (hI : zIv x a) {i j : Int32} : zMh X l yL_approve cL_approve 4 (some .int) [(0, 7, 8, 26), (0, 7, 12, 19)] 9 10 200 [aR 0 0, aI i, aI j] σ (zPi (zLw (k_approve x a i j) (0) (-1000001) (-1000003) 0 (upd x 24 (x 24 + 1)) (ua a 28 (upd (a 28) (zN i) (x 24 + 1))) σ)) zNx := by
  refine zMh.of (by decide +kernel) (Nat.le_of_ble_eq_true rfl) (by simp [zcat, Value.category]) ?_
  intro p e s m args below meth c loc0 C hr hnm hT
  refine z_aload_n (i := 0) C dL_approve_0 rfl rfl ?_
  refine z_iload_n (i := 1) C dL_approve_1 rfl rfl ?_
  refine z_iload_n (i := 2) C dL_approve_2 rfl rfl ?_
  refine z_callV C Y_X6_approve V_X6_approve ml_RL_82 (c_X6_approve l hD hI.1) dL_approve_3 rfl rfl hD.1.1 ⟨_, _, rfl⟩ (fun _ => Nat.le_of_ble_eq_true rfl) ⟨Nat.le_of_ble_eq_true rfl, Nat.le_of_ble_eq_true rfl⟩ ⟨Nat.le_of_ble_eq_true rfl, Nat.le_of_ble_eq_true rfl⟩ (z_rv (fun σ1 hx => ?_)) (fun E9 σ1 hx => ?_)
  · obtain ⟨hk, -, hD1, hF⟩ := hx
    refine z_iconst (v := 0) C dL_approve_6 (by decide) ?_
    exact z_iret C hr rfl dL_approve_7 (Nat.le_of_ble_eq_true rfl) (Nat.le_of_ble_eq_true rfl) ⟨_, rfl, zLw.ok hk hD1 hF⟩

  · obtain ⟨rfl, hk⟩ := hx
    rcases hk with ⟨hk, rfl⟩ | ⟨hk, rfl⟩ | ⟨hk, rfl⟩
    · refine z_catch C hT [] [(0, 7, 12, 19)] (sp := 0) (ep := 7) (hp := 8) (ct := 26) rfl ⟨Nat.le_of_ble_eq_true rfl, Nat.le_of_ble_eq_true rfl⟩ (fun z hz => by cases hz) (by decide) kl_RL_26 (by decide +kernel) (fun q9 => ?_)
      refine z_astore_nQ (i := 3) C dL_approve_8 rfl (by decide) ?_
      refine z_ldc C dL_approve_9 kc_RL_28 ?_
      exact z_iret C hr rfl dL_approve_11 (Nat.le_of_ble_eq_true rfl) (Nat.le_of_ble_eq_true rfl) ⟨_, rfl, zLw.e1 hk⟩
  
    · refine z_catch C hT [(0, 7, 8, 26)] [] (sp := 0) (ep := 7) (hp := 12) (ct := 19) rfl ⟨Nat.le_of_ble_eq_true rfl, Nat.le_of_ble_eq_true rfl⟩ (pass1 ⟨by decide, _, kl_RL_26, by decide +kernel⟩) (by decide) kl_RL_19 (by decide +kernel) (fun q9 => ?_)
      refine z_astore_nQ (i := 3) C dL_approve_12 rfl (by decide) ?_
      refine z_ldc C dL_approve_13 kc_RL_21 ?_
      exact z_iret C hr rfl dL_approve_15 (Nat.le_of_ble_eq_true rfl) (Nat.le_of_ble_eq_true rfl) ⟨_, rfl, zLw.e2 hk⟩
  
    · exact absurd hk goC_n3

set_option maxRecDepth 100000 in
set_option maxHeartbeats 4000000 in
theorem c_L_counting {X : zX} (l : Launch) {x : Nat → Int32} {a : Nat → Nat → Int32} {σ : zHp} (hD : DK x a σ) (hI : zIv x a) {i : Int32} : zMh X l yL_counting cL_counting 3 (some .int) [(0, 5, 6, 26), (0, 5, 10, 89)] 9 3 18 [aR 0 0, aI i] σ (zPi (zLq (k_counting x a i) (cnt x a i) (-1000001) (-1000002) 0 σ)) zNx := by
  refine zMh.of (by decide +kernel) (Nat.le_of_ble_eq_true rfl) (by simp [zcat, Value.category]) ?_
  intro p e s m args below meth c loc0 C hr hnm hT
  refine z_aload_n (i := 0) C dL_counting_0 rfl rfl ?_
  refine z_iload_n (i := 1) C dL_counting_1 rfl rfl ?_
  refine z_callV C Y_X6_counting V_X6_counting ml_RL_86 (c_X6_counting l hD hI.1) dL_counting_2 rfl rfl hD.1.1 ⟨_, _, rfl⟩ (fun _ => Nat.le_of_ble_eq_true rfl) ⟨Nat.le_of_ble_eq_true rfl, Nat.le_of_ble_eq_true rfl⟩ ⟨Nat.le_of_ble_eq_true rfl, Nat.le_of_ble_eq_true rfl⟩ (z_ri (fun r9 σ1 hx => ?_)) (fun E9 σ1 hx => ?_)
  · obtain ⟨hk, rfl, rfl⟩ := hx
    exact z_iret C hr rfl dL_counting_5 (Nat.le_of_ble_eq_true rfl) (Nat.le_of_ble_eq_true rfl) ⟨_, rfl, zLq.ok hk⟩

  · obtain ⟨rfl, hk⟩ := hx
    rcases hk with ⟨hk, rfl⟩ | ⟨hk, rfl⟩ | ⟨hk, rfl⟩
    · refine z_catch C hT [] [(0, 5, 10, 89)] (sp := 0) (ep := 5) (hp := 6) (ct := 26) rfl ⟨Nat.le_of_ble_eq_true rfl, Nat.le_of_ble_eq_true rfl⟩ (fun z hz => by cases hz) (by decide) kl_RL_26 (by decide +kernel) (fun q9 => ?_)
      refine z_astore_nQ (i := 2) C dL_counting_6 rfl (by decide) ?_
      refine z_ldc C dL_counting_7 kc_RL_28 ?_
      exact z_iret C hr rfl dL_counting_9 (Nat.le_of_ble_eq_true rfl) (Nat.le_of_ble_eq_true rfl) ⟨_, rfl, zLq.e1 hk⟩
  
    · refine z_catch C hT [(0, 5, 6, 26)] [] (sp := 0) (ep := 5) (hp := 10) (ct := 89) rfl ⟨Nat.le_of_ble_eq_true rfl, Nat.le_of_ble_eq_true rfl⟩ (pass1 ⟨by decide, _, kl_RL_26, by decide +kernel⟩) (by decide) kl_RL_89 (by decide +kernel) (fun q9 => ?_)
      refine z_astore_nQ (i := 2) C dL_counting_10 rfl (by decide) ?_
      refine z_ldc C dL_counting_11 kc_RL_18 ?_
      exact z_iret C hr rfl dL_counting_13 (Nat.le_of_ble_eq_true rfl) (Nat.le_of_ble_eq_true rfl) ⟨_, rfl, zLq.e2 hk⟩
  
    · exact absurd hk goC_n3

set_option maxRecDepth 100000 in
set_option maxHeartbeats 4000000 in
theorem c_L_forecast {X : zX} (l : Launch) {x : Nat → Int32} {a : Nat → Nat → Int32} {σ : zHp} (hD : DK x a σ) (hI : zIv x a) {i : Int32} : zMh X l yL_forecast cL_forecast 3 (some .int) [(0, 5, 6, 26)] 9 3 18 [aR 0 0, aI i] σ (zPi (zLq (k_forecast x a i) (forS x a (zN i)) (-100000001) 0 0 σ)) zNx := by
  refine zMh.of (by decide +kernel) (Nat.le_of_ble_eq_true rfl) (by simp [zcat, Value.category]) ?_
  intro p e s m args below meth c loc0 C hr hnm hT
  refine z_aload_n (i := 0) C dL_forecast_0 rfl rfl ?_
  refine z_iload_n (i := 1) C dL_forecast_1 rfl rfl ?_
  refine z_callV C Y_X6_forecast V_X6_forecast ml_RL_91 (c_X6_forecast l hD hI.1) dL_forecast_2 rfl rfl hD.1.1 ⟨_, _, rfl⟩ (fun _ => Nat.le_of_ble_eq_true rfl) ⟨Nat.le_of_ble_eq_true rfl, Nat.le_of_ble_eq_true rfl⟩ ⟨Nat.le_of_ble_eq_true rfl, Nat.le_of_ble_eq_true rfl⟩ (z_ri (fun r9 σ1 hx => ?_)) (fun E9 σ1 hx => ?_)
  · obtain ⟨hk, rfl, rfl⟩ := hx
    exact z_iret C hr rfl dL_forecast_5 (Nat.le_of_ble_eq_true rfl) (Nat.le_of_ble_eq_true rfl) ⟨_, rfl, zLq.ok hk⟩

  · obtain ⟨rfl, hk⟩ := hx
    rcases hk with ⟨hk, rfl⟩ | ⟨hk, rfl⟩ | ⟨hk, rfl⟩
    · refine z_catch C hT [] [] (sp := 0) (ep := 5) (hp := 6) (ct := 26) rfl ⟨Nat.le_of_ble_eq_true rfl, Nat.le_of_ble_eq_true rfl⟩ (fun z hz => by cases hz) (by decide) kl_RL_26 (by decide +kernel) (fun q9 => ?_)
      refine z_astore_nQ (i := 2) C dL_forecast_6 rfl (by decide) ?_
      refine z_ldc C dL_forecast_7 kc_RL_94 ?_
      exact z_iret C hr rfl dL_forecast_9 (Nat.le_of_ble_eq_true rfl) (Nat.le_of_ble_eq_true rfl) ⟨_, rfl, zLq.e1 hk⟩
  
    · exact absurd hk goC_n2
  
    · exact absurd hk goC_n3

set_option maxRecDepth 100000 in
set_option maxHeartbeats 4000000 in
theorem c_L_own {X : zX} (l : Launch) {x : Nat → Int32} {a : Nat → Nat → Int32} {σ : zHp} (hD : DK x a σ) (hI : zIv x a) {i : Int32} : zMh X l yL_own cL_own 3 (some .int) [(0, 5, 6, 26)] 9 3 18 [aR 0 0, aI i] σ (zPi (zLq (k_own x a i) (ownS x a (zN i)) (-1000001) 0 0 σ)) zNx := by
  refine zMh.of (by decide +kernel) (Nat.le_of_ble_eq_true rfl) (by simp [zcat, Value.category]) ?_
  intro p e s m args below meth c loc0 C hr hnm hT
  refine z_aload_n (i := 0) C dL_own_0 rfl rfl ?_
  refine z_iload_n (i := 1) C dL_own_1 rfl rfl ?_
  refine z_callV C Y_X6_own V_X6_own ml_RL_95 (c_X6_own l hD hI.1) dL_own_2 rfl rfl hD.1.1 ⟨_, _, rfl⟩ (fun _ => Nat.le_of_ble_eq_true rfl) ⟨Nat.le_of_ble_eq_true rfl, Nat.le_of_ble_eq_true rfl⟩ ⟨Nat.le_of_ble_eq_true rfl, Nat.le_of_ble_eq_true rfl⟩ (z_ri (fun r9 σ1 hx => ?_)) (fun E9 σ1 hx => ?_)
  · obtain ⟨hk, rfl, rfl⟩ := hx
    exact z_iret C hr rfl dL_own_5 (Nat.le_of_ble_eq_true rfl) (Nat.le_of_ble_eq_true rfl) ⟨_, rfl, zLq.ok hk⟩

  · obtain ⟨rfl, hk⟩ := hx
    rcases hk with ⟨hk, rfl⟩ | ⟨hk, rfl⟩ | ⟨hk, rfl⟩
    · refine z_catch C hT [] [] (sp := 0) (ep := 5) (hp := 6) (ct := 26) rfl ⟨Nat.le_of_ble_eq_true rfl, Nat.le_of_ble_eq_true rfl⟩ (fun z hz => by cases hz) (by decide) kl_RL_26 (by decide +kernel) (fun q9 => ?_)
      refine z_astore_nQ (i := 2) C dL_own_6 rfl (by decide) ?_
      refine z_ldc C dL_own_7 kc_RL_28 ?_
      exact z_iret C hr rfl dL_own_9 (Nat.le_of_ble_eq_true rfl) (Nat.le_of_ble_eq_true rfl) ⟨_, rfl, zLq.e1 hk⟩
  
    · exact absurd hk goC_n2
  
    · exact absurd hk goC_n3

set_option maxRecDepth 100000 in
set_option maxHeartbeats 4000000 in
theorem c_L_freeze {X : zX} (l : Launch) {x : Nat → Int32} {a : Nat → Nat → Int32} {σ : zHp} (hD : DK x a σ) (hI : zIv x a) : zMh X l yL_freeze cL_freeze 2 (some .int) [(0, 4, 5, 19)] 9 10 200 [aR 0 0] σ (zPi (zLw (k_freeze x a 0) (x 29) (-1000003) 0 0 (upd x 29 (x 29 + 1)) (ua a 30 (frz x a (zN (x 29)) (zN (x 11)))) σ)) zNx := by
  refine zMh.of (by decide +kernel) (Nat.le_of_ble_eq_true rfl) (by simp [zcat, Value.category]) ?_
  intro p e s m args below meth c loc0 C hr hnm hT
  refine z_aload_n (i := 0) C dL_freeze_0 rfl rfl ?_
  refine z_callV C Y_X6_freeze V_X6_freeze ml_RL_98 (c_X6_freeze l hD hI.1 hI.2) dL_freeze_1 rfl rfl hD.1.1 ⟨_, _, rfl⟩ (fun _ => Nat.le_of_ble_eq_true rfl) ⟨Nat.le_of_ble_eq_true rfl, Nat.le_of_ble_eq_true rfl⟩ ⟨Nat.le_of_ble_eq_true rfl, Nat.le_of_ble_eq_true rfl⟩ (z_ri (fun r9 σ1 hx => ?_)) (fun E9 σ1 hx => ?_)
  · obtain ⟨hk, rfl, hD1, hF⟩ := hx
    exact z_iret C hr rfl dL_freeze_4 (Nat.le_of_ble_eq_true rfl) (Nat.le_of_ble_eq_true rfl) ⟨_, rfl, zLw.ok hk hD1 hF⟩

  · obtain ⟨rfl, hk⟩ := hx
    rcases hk with ⟨hk, rfl⟩ | ⟨hk, rfl⟩ | ⟨hk, rfl⟩
    · refine z_catch C hT [] [] (sp := 0) (ep := 4) (hp := 5) (ct := 19) rfl ⟨Nat.le_of_ble_eq_true rfl, Nat.le_of_ble_eq_true rfl⟩ (fun z hz => by cases hz) (by decide) kl_RL_19 (by decide +kernel) (fun q9 => ?_)
      refine z_astore_nQ (i := 1) C dL_freeze_5 rfl (by decide) ?_
      refine z_ldc C dL_freeze_6 kc_RL_21 ?_
      exact z_iret C hr rfl dL_freeze_8 (Nat.le_of_ble_eq_true rfl) (Nat.le_of_ble_eq_true rfl) ⟨_, rfl, zLw.e1 hk⟩
  
    · exact absurd hk goC_n2
  
    · exact absurd hk goC_n3

set_option maxRecDepth 100000 in
set_option maxHeartbeats 4000000 in
theorem c_L_since {X : zX} (l : Launch) {x : Nat → Int32} {a : Nat → Nat → Int32} {σ : zHp} (hD : DK x a σ) (hI : zIv x a) {i j : Int32} : zMh X l yL_since cL_since 4 (some .int) [(0, 6, 7, 26)] 9 3 18 [aR 0 0, aI i, aI j] σ (zPi (zLq (k_since x a i j) (forS x a (zN j) - a 30 (8 * zN i + zN j)) (-100000001) 0 0 σ)) zNx := by
  refine zMh.of (by decide +kernel) (Nat.le_of_ble_eq_true rfl) (by simp [zcat, Value.category]) ?_
  intro p e s m args below meth c loc0 C hr hnm hT
  refine z_aload_n (i := 0) C dL_since_0 rfl rfl ?_
  refine z_iload_n (i := 1) C dL_since_1 rfl rfl ?_
  refine z_iload_n (i := 2) C dL_since_2 rfl rfl ?_
  refine z_callV C Y_X6_since V_X6_since ml_RL_102 (c_X6_since l hD hI.1) dL_since_3 rfl rfl hD.1.1 ⟨_, _, rfl⟩ (fun _ => Nat.le_of_ble_eq_true rfl) ⟨Nat.le_of_ble_eq_true rfl, Nat.le_of_ble_eq_true rfl⟩ ⟨Nat.le_of_ble_eq_true rfl, Nat.le_of_ble_eq_true rfl⟩ (z_ri (fun r9 σ1 hx => ?_)) (fun E9 σ1 hx => ?_)
  · obtain ⟨hk, rfl, rfl⟩ := hx
    exact z_iret C hr rfl dL_since_6 (Nat.le_of_ble_eq_true rfl) (Nat.le_of_ble_eq_true rfl) ⟨_, rfl, zLq.ok hk⟩

  · obtain ⟨rfl, hk⟩ := hx
    rcases hk with ⟨hk, rfl⟩ | ⟨hk, rfl⟩ | ⟨hk, rfl⟩
    · refine z_catch C hT [] [] (sp := 0) (ep := 6) (hp := 7) (ct := 26) rfl ⟨Nat.le_of_ble_eq_true rfl, Nat.le_of_ble_eq_true rfl⟩ (fun z hz => by cases hz) (by decide) kl_RL_26 (by decide +kernel) (fun q9 => ?_)
      refine z_astore_nQ (i := 3) C dL_since_7 rfl (by decide) ?_
      refine z_ldc C dL_since_8 kc_RL_94 ?_
      exact z_iret C hr rfl dL_since_10 (Nat.le_of_ble_eq_true rfl) (Nat.le_of_ble_eq_true rfl) ⟨_, rfl, zLq.e1 hk⟩
  
    · exact absurd hk goC_n2
  
    · exact absurd hk goC_n3

