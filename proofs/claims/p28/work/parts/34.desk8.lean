/-! the desk: what stays, and the constructors -/
theorem zLs.ag {σ σ1 : zHp} {j n : Nat} {el : Nat → zK} (h : zLs σ j n el) (hg : ∀ k i, ((k = 1 ∧ i = j) ∨ k = 20 + j ∨ k = 90) → σ1 k i = σ k i) : zLs σ1 j n el := by
  obtain ⟨mc, q, cap, f, h1, h2, h3, h4, h5, h6, h7, h8⟩ := h
  refine ⟨mc, q, cap, f, by rw [hg 1 j (Or.inl ⟨rfl, rfl⟩)]; exact h1, ?_, h3, h4, h5, fun g hgg => by rw [hg _ _ (Or.inr (Or.inl rfl))]; exact h6 g hgg, h7, h8⟩
  rw [hg q.1 q.2 ?_]
  · exact h2
  · rcases h5 with ⟨e, -⟩ | ⟨e, -⟩
    · right; right; rw [e]
    · right; left; exact e
theorem DA.ag {n : Nat} {b2 b3 b4 b5 : Nat → Int32} {σ σ1 : zHp} (h : DA n b2 b3 b4 b5 σ) (hg : ∀ k i, ((k = 1 ∧ i = 0) ∨ k = 20 ∨ k = 90 ∨ k = 3) → σ1 k i = σ k i) : DA n b2 b3 b4 b5 σ1 :=
  ⟨h.1.ag (fun k i z => hg k i (by omega)), fun i hi => by rw [hg 3 i (by omega)]; exact h.2.1 i hi, fun i hi => by rw [hg 3 i (by omega)]; exact h.2.2 i hi⟩
theorem DR.ag {n : Nat} {b7 b8 b9 b10 : Nat → Int32} {σ σ1 : zHp} (h : DR n b7 b8 b9 b10 σ) (hg : ∀ k i, ((k = 1 ∧ i = 1) ∨ k = 21 ∨ k = 90 ∨ k = 7) → σ1 k i = σ k i) : DR n b7 b8 b9 b10 σ1 := by
  obtain ⟨rk, nr, h1, h2, h3⟩ := h
  exact ⟨rk, nr, h1.ag (fun k i z => hg k i (by omega)), fun i hi => by rw [hg 7 _ (by omega)]; exact h2 i hi, fun i hi => by rw [hg 7 i (by omega)]; exact h3 i hi⟩
theorem DS.ag {n : Nat} {b12 b13 b14 : Nat → Int32} {σ σ1 : zHp} (h : DS n b12 b13 b14 σ) (hg : ∀ k i, ((k = 1 ∧ i = 2) ∨ k = 22 ∨ k = 90 ∨ k = 5) → σ1 k i = σ k i) : DS n b12 b13 b14 σ1 :=
  ⟨h.1.ag (fun k i z => hg k i (by omega)), fun i hi => by rw [hg 5 i (by omega)]; exact h.2.1 i hi, fun i hi => by rw [hg 5 i (by omega)]; exact h.2.2 i hi⟩
theorem DC.ag {n : Nat} {b16 b17 b18 b19 b20 b21 b22 ct ct' : Nat → Int32} {σ σ1 : zHp} (h : DC n b16 b17 b18 b19 b20 b21 b22 ct σ) (hg : ∀ k i, ((k = 1 ∧ i = 3) ∨ k = 23 ∨ k = 90 ∨ k = 6 ∨ k = 30 ∨ k = 31) → σ1 k i = σ k i) (hct : ∀ c, c < n → ct' c = ct c) : DC n b16 b17 b18 b19 b20 b21 b22 ct' σ1 := by
  obtain ⟨h1, h2, h3, h4, h5⟩ := h
  refine ⟨h1.ag (fun k i z => hg k i (by omega)), fun i hi => ?_, fun i hi => by rw [hg 30 i (by omega)]; exact h3 i hi, fun i hi => by rw [hg 31 i (by omega)]; exact h4 i hi, fun i hi => by rw [hg 6 i (by omega), hg 30 i (by omega), hg 31 i (by omega)]; exact h5 i hi⟩
  rw [hg 6 i (by omega), h2 i hi]
  unfold chF
  rw [hct i hi]
theorem DQ.ag {n : Nat} {b25 b26 b27 b28 : Nat → Int32} {σ σ1 : zHp} (h : DQ n b25 b26 b27 b28 σ) (hg : ∀ k i, ((k = 1 ∧ i = 4) ∨ k = 24 ∨ k = 90 ∨ k = 9) → σ1 k i = σ k i) : DQ n b25 b26 b27 b28 σ1 :=
  ⟨h.1.ag (fun k i z => hg k i (by omega)), fun i hi => by rw [hg 9 i (by omega)]; exact h.2.1 i hi, fun i hi => by rw [hg 9 i (by omega)]; exact h.2.2 i hi⟩
theorem DF.ag {n : Nat} {b30 : Nat → Int32} {σ σ1 : zHp} (h : DF n b30 σ) (hg : ∀ k i, ((k = 1 ∧ i = 5) ∨ k = 25 ∨ k = 90 ∨ k = 10 ∨ k = 32) → σ1 k i = σ k i) : DF n b30 σ1 :=
  ⟨h.1.ag (fun k i z => hg k i (by omega)), fun i hi => by rw [hg 10 i (by omega)]; exact h.2.1 i hi, fun i hi => by rw [hg 32 i (by omega)]; exact h.2.2.1 i hi, fun i hi => by rw [hg 10 i (by omega), hg 32 i (by omega)]; exact h.2.2.2 i hi⟩
theorem cntL_cg {a a' : Nat → Nat → Int32} {q : Int32} (h25 : a 25 = a' 25) (h28 : a 28 = a' 28) : ∀ n, cntL a q n = cntL a' q n
  | 0 => rfl
  | n + 1 => by
    simp only [cntL, cntL_cg h25 h28 n, cntC, h25, h28]
theorem cnt_cg {x x' : Nat → Int32} {a a' : Nat → Nat → Int32} {q : Int32} (h23 : x 23 = x' 23) (h25 : a 25 = a' 25) (h28 : a 28 = a' 28) : cnt x a q = cnt x' a' q := by
  unfold cnt
  rw [h23]
  exact cntL_cg h25 h28 _
theorem va_up_id {k n : Nat} : va_up (fun i => (k, i)) n (k, n) = fun i => ((k, i) : zK) := by
  funext i
  by_cases h : i = n
  · subst h; simp [va_up]
  · simp [va_up, h]
theorem zN_s {v : Int32} {b : Nat} (h : zCnt v b) (hb : b ≤ 1000000) : v + 1 = nI (zN v + 1) ∧ zN (v + 1) = zN v + 1 := by
  have e : v + 1 = nI (zN v + 1) := by
    have := h.1
    generalize zN v = n at *
    rw [this]
    exact nI_1 n
  exact ⟨e, by rw [e]; exact zN_nI (by have := h.2; omega)⟩
section ZWD
variable {X : zX} {p : Program} {l : Launch} {e : Env} {s : State} {m : MethodId} {args : Array Value} {below : List Frame} {meth : Method} {c : Code} {nL : Nat} {σ0 σ : zHp} {loc0 : zK → Nat} {Q : State → Prop} {mc ms : Nat} {R : Room} {cells slots cells' slots' pc : Nat} {cc : ByteArray} {own : String} {L : List (Nat × zV)} {st : List zV}
theorem z_widen (hc : cells ≤ cells') (hs : slots ≤ slots') (kk : zG X p l e R s m args below meth c nL σ0 loc0 Q cells' slots' σ pc L st) : zG X p l e R s m args below meth c nL σ0 loc0 Q cells slots σ pc L st := fun loc H locs ls hI => W.widen hc hs (kk loc H locs ls hI)
theorem z_joinP {P : Prop} {cells' slots' pc' : Nat} {L' : List (Nat × zV)} {st' : List zV} (h : (P → zG X p l e R s m args below meth c nL σ0 loc0 Q cells' slots' σ pc' L' st') → zG X p l e R s m args below meth c nL σ0 loc0 Q cells slots σ pc L st) (kk : P → zG X p l e R s m args below meth c nL σ0 loc0 Q cells' slots' σ pc' L' st') : zG X p l e R s m args below meth c nL σ0 loc0 Q cells slots σ pc L st := h kk
end ZWD
set_option maxRecDepth 100000 in
set_option maxHeartbeats 4000000 in
theorem c_X0_init {X : zX} (l : Launch) {σ : zHp} {i : Nat} {o : Option zK} {v w : Int32} (hσ : σ 3 i = some (oC 3 [aN, aI 0, aI 0, aI 0])) : zM X l yX0_init cX0_init 4 none 2 0 0 [aR 3 i, aO o, aI v, aI w] σ (zPv (fun σ1 => σ1 3 i = some (oC 3 [aO o, aI v, aI w, aI (-1)]) ∧ ∀ k9 i9, ¬ (k9 = 3 ∧ i9 = i) → σ1 k9 i9 = σ k9 i9)) zNx := by
  refine zM.of (by decide +kernel) (Nat.le_of_ble_eq_true rfl) (by simp only [List.forall_mem_cons]; refine ⟨?_, ?_, ?_, ?_, ?_⟩ <;> first | exact zcat_aO _ | simp [zcat, Value.category] | (intro _ h; cases h)) ?_
  intro p e s m args below meth c loc0 C hr hnm hT
  refine z_aload_n (i := 0) C dX0_init_0 rfl rfl ?_
  refine z_objI C ml_RX0_3 im_objectInit co_objectInit ⟨Nat.le_of_ble_eq_true rfl, Nat.le_of_ble_eq_true rfl⟩ (fun _ => Nat.le_of_ble_eq_true rfl) dX0_init_1 ?_
  refine z_aload_n (i := 0) C dX0_init_4 rfl rfl ?_
  refine z_iconst (v := -1) C dX0_init_5 (by decide) ?_
  refine z_putf C fp_RX0_9 dX0_init_6 hσ (by decide) (Nat.le_of_ble_eq_true rfl) (fun _ => ⟨rfl, rfl⟩) ?_
  refine z_aload_n (i := 0) C dX0_init_9 rfl rfl ?_
  refine z_aload_nO (i := 1) C dX0_init_10 rfl rfl ?_
  refine z_putF C fp_RX0_15 hnm dX0_init_11 (zput_s _ _ _ _) (by decide) (Nat.le_of_ble_eq_true rfl) (fun _ => by cases o <;> exact ⟨rfl, rfl⟩) ?_
  refine z_aload_n (i := 0) C dX0_init_14 rfl rfl ?_
  refine z_iload_n (i := 2) C dX0_init_15 rfl rfl ?_
  refine z_putF C fp_RX0_19 hnm dX0_init_16 (zput_s _ _ _ _) (by decide) (Nat.le_of_ble_eq_true rfl) (fun _ => ⟨rfl, rfl⟩) ?_
  refine z_aload_n (i := 0) C dX0_init_19 rfl rfl ?_
  refine z_iload_n (i := 3) C dX0_init_20 rfl rfl ?_
  refine z_putF C fp_RX0_22 hnm dX0_init_21 (zput_s _ _ _ _) (by decide) (Nat.le_of_ble_eq_true rfl) (fun _ => ⟨rfl, rfl⟩) ?_
  exact z_vret C hr dX0_init_24 (Nat.le_of_ble_eq_true rfl) (Nat.le_of_ble_eq_true rfl) ⟨rfl, by first | exact zput_s _ _ _ _ | (rw [zput_s]; rfl), fun k9 i9 z0 => by repeat rw [zput_n (by omega)]⟩

set_option maxRecDepth 100000 in
set_option maxHeartbeats 4000000 in
theorem c_X5_init {X : zX} (l : Launch) {σ : zHp} {i : Nat} {o : Option zK} {u v : Int32} (hσ : σ 5 i = some (oC 8 [aI 0, aN, aI 0, aI 0])) : zM X l yX5_init cX5_init 4 none 2 0 0 [aR 5 i, aI u, aO o, aI v] σ (zPv (fun σ1 => σ1 5 i = some (oC 8 [aI u, aO o, aI v, aI 0]) ∧ ∀ k9 i9, ¬ (k9 = 5 ∧ i9 = i) → σ1 k9 i9 = σ k9 i9)) zNx := by
  refine zM.of (by decide +kernel) (Nat.le_of_ble_eq_true rfl) (by simp only [List.forall_mem_cons]; refine ⟨?_, ?_, ?_, ?_, ?_⟩ <;> first | exact zcat_aO _ | simp [zcat, Value.category] | (intro _ h; cases h)) ?_
  intro p e s m args below meth c loc0 C hr hnm hT
  refine z_aload_n (i := 0) C dX5_init_0 rfl rfl ?_
  refine z_objI C ml_RX5_1 im_objectInit co_objectInit ⟨Nat.le_of_ble_eq_true rfl, Nat.le_of_ble_eq_true rfl⟩ (fun _ => Nat.le_of_ble_eq_true rfl) dX5_init_1 ?_
  refine z_aload_n (i := 0) C dX5_init_4 rfl rfl ?_
  refine z_iconst (v := 0) C dX5_init_5 (by decide) ?_
  refine z_putf C fp_RX5_7 dX5_init_6 hσ (by decide) (Nat.le_of_ble_eq_true rfl) (fun _ => ⟨rfl, rfl⟩) ?_
  refine z_aload_n (i := 0) C dX5_init_9 rfl rfl ?_
  refine z_iload_n (i := 1) C dX5_init_10 rfl rfl ?_
  refine z_putF C fp_RX5_13 hnm dX5_init_11 (zput_s _ _ _ _) (by decide) (Nat.le_of_ble_eq_true rfl) (fun _ => ⟨rfl, rfl⟩) ?_
  refine z_aload_n (i := 0) C dX5_init_14 rfl rfl ?_
  refine z_aload_nO (i := 2) C dX5_init_15 rfl rfl ?_
  refine z_putF C fp_RX5_16 hnm dX5_init_16 (zput_s _ _ _ _) (by decide) (Nat.le_of_ble_eq_true rfl) (fun _ => by cases o <;> exact ⟨rfl, rfl⟩) ?_
  refine z_aload_n (i := 0) C dX5_init_19 rfl rfl ?_
  refine z_iload_n (i := 3) C dX5_init_20 rfl rfl ?_
  refine z_putF C fp_RX5_20 hnm dX5_init_21 (zput_s _ _ _ _) (by decide) (Nat.le_of_ble_eq_true rfl) (fun _ => ⟨rfl, rfl⟩) ?_
  exact z_vret C hr dX5_init_24 (Nat.le_of_ble_eq_true rfl) (Nat.le_of_ble_eq_true rfl) ⟨rfl, by first | exact zput_s _ _ _ _ | (rw [zput_s]; rfl), fun k9 i9 z0 => by repeat rw [zput_n (by omega)]⟩

set_option maxRecDepth 100000 in
set_option maxHeartbeats 4000000 in
theorem c_X4_init {X : zX} (l : Launch) {σ : zHp} {i : Nat} {u v w y : Int32} (hσ : σ 7 i = some (oC 7 [aI 0, aI 0, aI 0, aI 0])) : zM X l yX4_init cX4_init 5 none 2 0 0 [aR 7 i, aI u, aI v, aI w, aI y] σ (zPv (fun σ1 => σ1 7 i = some (oC 7 [aI u, aI v, aI w, aI y]) ∧ ∀ k9 i9, ¬ (k9 = 7 ∧ i9 = i) → σ1 k9 i9 = σ k9 i9)) zNx := by
  refine zM.of (by decide +kernel) (Nat.le_of_ble_eq_true rfl) (by simp [zcat, Value.category]) ?_
  intro p e s m args below meth c loc0 C hr hnm hT
  refine z_aload_n (i := 0) C dX4_init_0 rfl rfl ?_
  refine z_objI C ml_RX4_1 im_objectInit co_objectInit ⟨Nat.le_of_ble_eq_true rfl, Nat.le_of_ble_eq_true rfl⟩ (fun _ => Nat.le_of_ble_eq_true rfl) dX4_init_1 ?_
  refine z_aload_n (i := 0) C dX4_init_4 rfl rfl ?_
  refine z_iload_n (i := 1) C dX4_init_5 rfl rfl ?_
  refine z_putF C fp_RX4_7 hnm dX4_init_6 hσ (by decide) (Nat.le_of_ble_eq_true rfl) (fun _ => ⟨rfl, rfl⟩) ?_
  refine z_aload_n (i := 0) C dX4_init_9 rfl rfl ?_
  refine z_iload_n (i := 2) C dX4_init_10 rfl rfl ?_
  refine z_putF C fp_RX4_13 hnm dX4_init_11 (zput_s _ _ _ _) (by decide) (Nat.le_of_ble_eq_true rfl) (fun _ => ⟨rfl, rfl⟩) ?_
  refine z_aload_n (i := 0) C dX4_init_14 rfl rfl ?_
  refine z_iload_n (i := 3) C dX4_init_15 rfl rfl ?_
  refine z_putF C fp_RX4_16 hnm dX4_init_16 (zput_s _ _ _ _) (by decide) (Nat.le_of_ble_eq_true rfl) (fun _ => ⟨rfl, rfl⟩) ?_
  refine z_aload_n (i := 0) C dX4_init_19 rfl rfl ?_
  refine z_iload C dX4_init_20 rfl ?_
  refine z_putF C fp_RX4_19 hnm dX4_init_22 (zput_s _ _ _ _) (by decide) (Nat.le_of_ble_eq_true rfl) (fun _ => ⟨rfl, rfl⟩) ?_
  exact z_vret C hr dX4_init_25 (Nat.le_of_ble_eq_true rfl) (Nat.le_of_ble_eq_true rfl) ⟨rfl, by first | exact zput_s _ _ _ _ | (rw [zput_s]; rfl), fun k9 i9 z0 => by repeat rw [zput_n (by omega)]⟩

set_option maxRecDepth 100000 in
set_option maxHeartbeats 4000000 in
theorem c_X3_init {X : zX} (l : Launch) {σ : zHp} {i : Nat} {u v : Int32} {c t : Nat} (hσ : σ 9 i = some (oC 6 [aI 0, aN, aN, aI 0, aI 0])) : zM X l yX3_init cX3_init 5 none 2 0 0 [aR 9 i, aI u, aR 6 c, aR 5 t, aI v] σ (zPv (fun σ1 => σ1 9 i = some (oC 6 [aI u, aR 6 c, aR 5 t, aI v, aI 0]) ∧ ∀ k9 i9, ¬ (k9 = 9 ∧ i9 = i) → σ1 k9 i9 = σ k9 i9)) zNx := by
  refine zM.of (by decide +kernel) (Nat.le_of_ble_eq_true rfl) (by simp [zcat, Value.category]) ?_
  intro p e s m args below meth c9 loc0 C hr hnm hT
  refine z_aload_n (i := 0) C dX3_init_0 rfl rfl ?_
  refine z_objI C ml_RX3_1 im_objectInit co_objectInit ⟨Nat.le_of_ble_eq_true rfl, Nat.le_of_ble_eq_true rfl⟩ (fun _ => Nat.le_of_ble_eq_true rfl) dX3_init_1 ?_
  refine z_aload_n (i := 0) C dX3_init_4 rfl rfl ?_
  refine z_iconst (v := 0) C dX3_init_5 (by decide) ?_
  refine z_putf C fp_RX3_7 dX3_init_6 hσ (by decide) (Nat.le_of_ble_eq_true rfl) (fun _ => ⟨rfl, rfl⟩) ?_
  refine z_aload_n (i := 0) C dX3_init_9 rfl rfl ?_
  refine z_iload_n (i := 1) C dX3_init_10 rfl rfl ?_
  refine z_putF C fp_RX3_13 hnm dX3_init_11 (zput_s _ _ _ _) (by decide) (Nat.le_of_ble_eq_true rfl) (fun _ => ⟨rfl, rfl⟩) ?_
  refine z_aload_n (i := 0) C dX3_init_14 rfl rfl ?_
  refine z_aload_n (i := 2) C dX3_init_15 rfl rfl ?_
  refine z_putF C fp_RX3_17 hnm dX3_init_16 (zput_s _ _ _ _) (by decide) (Nat.le_of_ble_eq_true rfl) (fun _ => ⟨rfl, rfl⟩) ?_
  refine z_aload_n (i := 0) C dX3_init_19 rfl rfl ?_
  refine z_aload_n (i := 3) C dX3_init_20 rfl rfl ?_
  refine z_putF C fp_RX3_21 hnm dX3_init_21 (zput_s _ _ _ _) (by decide) (Nat.le_of_ble_eq_true rfl) (fun _ => ⟨rfl, rfl⟩) ?_
  refine z_aload_n (i := 0) C dX3_init_24 rfl rfl ?_
  refine z_iload C dX3_init_25 rfl ?_
  refine z_putF C fp_RX3_25 hnm dX3_init_27 (zput_s _ _ _ _) (by decide) (Nat.le_of_ble_eq_true rfl) (fun _ => ⟨rfl, rfl⟩) ?_
  exact z_vret C hr dX3_init_30 (Nat.le_of_ble_eq_true rfl) (Nat.le_of_ble_eq_true rfl) ⟨rfl, by first | exact zput_s _ _ _ _ | (rw [zput_s]; rfl), fun k9 i9 z0 => by repeat rw [zput_n (by omega)]⟩

set_option maxRecDepth 100000 in
set_option maxHeartbeats 4000000 in
theorem c_X1_init {X : zX} (l : Launch) {σ : zHp} {i : Nat} {v w : Int32} {t : Nat} (hσ : σ 6 i = some (oC 4 [aN, aI 0, aN, aN, aI 0, aI 0, aI 0, aN])) (h30 : σ 30 i = none) (h31 : σ 31 i = none) : zM X l yX1_init cX1_init 4 none 2 2 14 [aR 6 i, aR 3 t, aI v, aI w] σ (zPv (fun σ1 => σ1 6 i = some (oC 4 [aR 3 t, aI v, aR 30 i, aR 31 i, aI 0, aI w, aI (-1), aN]) ∧ σ1 30 i = some (iC 8 (fun _ => 0)) ∧ σ1 31 i = some (iC 6 (fun _ => 0)) ∧ ∀ k9 i9, ¬ (k9 = 6 ∧ i9 = i) → ¬ (k9 = 30 ∧ i9 = i) → ¬ (k9 = 31 ∧ i9 = i) → σ1 k9 i9 = σ k9 i9)) zNx := by
  refine zM.of (by decide +kernel) (Nat.le_of_ble_eq_true rfl) (by simp [zcat, Value.category]) ?_
  intro p e s m args below meth c loc0 C hr hnm hT
  refine z_aload_n (i := 0) C dX1_init_0 rfl rfl ?_
  refine z_objI C ml_RX1_3 im_objectInit co_objectInit ⟨Nat.le_of_ble_eq_true rfl, Nat.le_of_ble_eq_true rfl⟩ (fun _ => Nat.le_of_ble_eq_true rfl) dX1_init_1 ?_
  refine z_aload_n (i := 0) C dX1_init_4 rfl rfl ?_
  refine z_bipush (v := 8) C dX1_init_5 (by decide) ?_
  refine z_newI C 30 i dX1_init_7 (by decide) (by (repeat rw [zput_n (by omega)]); exact h30) (by decide) (N := 8) (by decide) (by decide) ⟨Nat.le_of_ble_eq_true rfl, Nat.le_of_ble_eq_true rfl⟩ ac__int ?_
  refine z_putF C fp_RX1_9 hnm dX1_init_9 (by rw [zput_n (by omega)]; exact hσ) (by decide) (Nat.le_of_ble_eq_true rfl) (fun _ => ⟨rfl, rfl⟩) ?_
  refine z_aload_n (i := 0) C dX1_init_12 rfl rfl ?_
  refine z_bipush (v := 6) C dX1_init_13 (by decide) ?_
  refine z_newI C 31 i dX1_init_15 (by decide) (by (repeat rw [zput_n (by omega)]); exact h31) (by decide) (N := 6) (by decide) (by decide) ⟨Nat.le_of_ble_eq_true rfl, Nat.le_of_ble_eq_true rfl⟩ ac__int ?_
  refine z_putF C fp_RX1_15 hnm dX1_init_17 (by rw [zput_n (by omega)]; exact zput_s _ _ _ _) (by decide) (Nat.le_of_ble_eq_true rfl) (fun _ => ⟨rfl, rfl⟩) ?_
  refine z_aload_n (i := 0) C dX1_init_20 rfl rfl ?_
  refine z_iconst (v := 0) C dX1_init_21 (by decide) ?_
  refine z_putf C fp_RX1_18 dX1_init_22 (zput_s _ _ _ _) (by decide) (Nat.le_of_ble_eq_true rfl) (fun _ => ⟨rfl, rfl⟩) ?_
  refine z_aload_n (i := 0) C dX1_init_25 rfl rfl ?_
  refine z_iconst (v := -1) C dX1_init_26 (by decide) ?_
  refine z_putf C fp_RX1_22 dX1_init_27 (zput_s _ _ _ _) (by decide) (Nat.le_of_ble_eq_true rfl) (fun _ => ⟨rfl, rfl⟩) ?_
  refine z_aload_n (i := 0) C dX1_init_30 rfl rfl ?_
  refine z_null C dX1_init_31 ?_
  refine z_putf C fp_RX1_25 dX1_init_32 (zput_s _ _ _ _) (by decide) (Nat.le_of_ble_eq_true rfl) (fun _ => ⟨rfl, rfl⟩) ?_
  refine z_aload_n (i := 0) C dX1_init_35 rfl rfl ?_
  refine z_aload_n (i := 1) C dX1_init_36 rfl rfl ?_
  refine z_putF C fp_RX1_29 hnm dX1_init_37 (zput_s _ _ _ _) (by decide) (Nat.le_of_ble_eq_true rfl) (fun _ => ⟨rfl, rfl⟩) ?_
  refine z_aload_n (i := 0) C dX1_init_40 rfl rfl ?_
  refine z_iload_n (i := 2) C dX1_init_41 rfl rfl ?_
  refine z_putF C fp_RX1_33 hnm dX1_init_42 (zput_s _ _ _ _) (by decide) (Nat.le_of_ble_eq_true rfl) (fun _ => ⟨rfl, rfl⟩) ?_
  refine z_aload_n (i := 0) C dX1_init_45 rfl rfl ?_
  refine z_iload_n (i := 3) C dX1_init_46 rfl rfl ?_
  refine z_putf C fp_RX1_36 dX1_init_47 (zput_s _ _ _ _) (by decide) (Nat.le_of_ble_eq_true rfl) (fun _ => ⟨rfl, rfl⟩) ?_
  exact z_vret C hr dX1_init_50 (Nat.le_of_ble_eq_true rfl) (Nat.le_of_ble_eq_true rfl) ⟨rfl, by first | exact zput_s _ _ _ _ | (rw [zput_s]; rfl), by (repeat rw [zput_n (by omega)]); exact zput_s _ _ _ _, by (repeat rw [zput_n (by omega)]); exact zput_s _ _ _ _, fun k9 i9 z0 z1 z2 => by repeat rw [zput_n (by omega)]⟩

set_option maxRecDepth 100000 in
set_option maxHeartbeats 4000000 in
theorem c_X2_init {X : zX} (l : Launch) {σ : zHp} {i : Nat}  (hσ : σ 10 i = some (oC 5 [aN])) (h32 : σ 32 i = none) : zM X l yX2_init cX2_init 1 none 2 1 8 [aR 10 i] σ (zPv (fun σ1 => σ1 10 i = some (oC 5 [aR 32 i]) ∧ σ1 32 i = some (iC 8 (fun _ => 0)) ∧ ∀ k9 i9, ¬ (k9 = 10 ∧ i9 = i) → ¬ (k9 = 32 ∧ i9 = i) → σ1 k9 i9 = σ k9 i9)) zNx := by
  refine zM.of (by decide +kernel) (Nat.le_of_ble_eq_true rfl) (by simp [zcat, Value.category]) ?_
  intro p e s m args below meth c loc0 C hr hnm hT
  refine z_aload_n (i := 0) C dX2_init_0 rfl rfl ?_
  refine z_objI C ml_RX2_3 im_objectInit co_objectInit ⟨Nat.le_of_ble_eq_true rfl, Nat.le_of_ble_eq_true rfl⟩ (fun _ => Nat.le_of_ble_eq_true rfl) dX2_init_1 ?_
  refine z_aload_n (i := 0) C dX2_init_4 rfl rfl ?_
  refine z_bipush (v := 8) C dX2_init_5 (by decide) ?_
  refine z_newI C 32 i dX2_init_7 (by decide) (by (repeat rw [zput_n (by omega)]); exact h32) (by decide) (N := 8) (by decide) (by decide) ⟨Nat.le_of_ble_eq_true rfl, Nat.le_of_ble_eq_true rfl⟩ ac__int ?_
  refine z_putF C fp_RX2_9 hnm dX2_init_9 (by rw [zput_n (by omega)]; exact hσ) (by decide) (Nat.le_of_ble_eq_true rfl) (fun _ => ⟨rfl, rfl⟩) ?_
  exact z_vret C hr dX2_init_12 (Nat.le_of_ble_eq_true rfl) (Nat.le_of_ble_eq_true rfl) ⟨rfl, by first | exact zput_s _ _ _ _ | (rw [zput_s]; rfl), by (repeat rw [zput_n (by omega)]); exact zput_s _ _ _ _, fun k9 i9 z0 z1 => by repeat rw [zput_n (by omega)]⟩

