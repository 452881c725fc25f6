/-! the reference: freeze, rules, the constructor -/
theorem ua_s {a : Nat → Nat → Int32} {j : Nat} {f : Nat → Int32} : ua a j f j = f := by simp [ua]
theorem ua_n {a : Nat → Nat → Int32} {j t : Nat} {f : Nat → Int32} (h : ¬ t = j) : ua a j f t = a t := by simp [ua, h]
theorem ua_ua {a : Nat → Nat → Int32} {j : Nat} {f g : Nat → Int32} : ua (ua a j f) j g = ua a j g := by
  funext t
  by_cases h : t = j
  · subst h; rw [ua_s, ua_s]
  · rw [ua_n h, ua_n h, ua_n h]
theorem cntL_30 {a : Nat → Nat → Int32} {F : Nat → Int32} {q : Int32} : ∀ n, cntL (ua a 30 F) q n = cntL a q n
  | 0 => rfl
  | n + 1 => by
    simp only [cntL, cntL_30 n]
    rfl
theorem wrt_30 {x : Nat → Int32} {a : Nat → Nat → Int32} {F : Nat → Int32} (c : Nat) : wrt x (ua a 30 F) c = wrt x a c := by
  unfold wrt cnt
  rw [cntL_30]
  rfl
theorem ownL_30 {x : Nat → Int32} {a : Nat → Nat → Int32} {F : Nat → Int32} (s : Nat) : ∀ n, ownL x (ua a 30 F) s n = ownL x a s n
  | 0 => rfl
  | n + 1 => by
    simp only [ownL, ownL_30 s n, wrt_30]
    rfl
theorem abvF_30 {a : Nat → Nat → Int32} {F : Nat → Int32} {t : Int32} : ∀ f h, abvF (ua a 30 F) t f h = abvF a t f h
  | 0, _ => rfl
  | f + 1, h => by
    simp only [abvF, abvF_30 f]
    rfl
theorem abvB_30 {a : Nat → Nat → Int32} {F : Nat → Int32} {t : Int32} (s : Nat) : abvB (ua a 30 F) t s = abvB a t s := abvF_30 _ _
theorem forL_30 {x : Nat → Int32} {a : Nat → Nat → Int32} {F : Nat → Int32} (t : Nat) : ∀ n, forL x (ua a 30 F) t n = forL x a t n
  | 0 => rfl
  | n + 1 => by
    have e : ownS x (ua a 30 F) n = ownS x a n := ownL_30 _ _
    simp only [forL, forL_30 t n, e, abvB_30]
    rfl
theorem forS_30 {x : Nat → Int32} {a : Nat → Nat → Int32} {F : Nat → Int32} (t : Nat) : forS x (ua a 30 F) t = forS x a t := forL_30 _ _
def frz (x : Nat → Int32) (a : Nat → Nat → Int32) (z k : Nat) : Nat → Int32 := fun t => if 8 * z ≤ t ∧ t < 8 * z + k then forS x a (t - 8 * z) else a 30 t
theorem frz_s {x : Nat → Int32} {a : Nat → Nat → Int32} {z k : Nat} : upd (frz x a z k) (8 * z + k) (forS x a k) = frz x a z (k + 1) := by
  funext t
  by_cases h : t = 8 * z + k
  · subst h
    simp [upd, frz]
  · simp only [upd, if_neg h, frz]
    by_cases h2 : 8 * z ≤ t ∧ t < 8 * z + k
    · rw [if_pos h2, if_pos (by omega)]
    · rw [if_neg h2, if_neg (by omega)]
theorem frz_0 {x : Nat → Int32} {a : Nat → Nat → Int32} {z : Nat} : frz x a z 0 = a 30 := by
  funext t
  simp only [frz]
  rw [if_neg (by omega)]
theorem ua_id {a : Nat → Nat → Int32} {j : Nat} : ua a j (a j) = a := by
  funext t
  by_cases h : t = j
  · subst h; rw [ua_s]
  · rw [ua_n h]
theorem frz_x {x : Nat → Int32} {a : Nat → Nat → Int32} {z k : Nat} {v : Int32} : frz (upd x 31 v) a z k = frz x a z k := by
  funext t
  simp only [frz, forS_x]
section Llp_freeze
variable {X : zX} {p : Program} {l : Launch} {e : Env} {s : State} {m : MethodId} {args : Array Value} {below : List Frame} {meth : Method} {c : Code} {nL : Nat} {σ0 σ : zHp} {loc0 : zK → Nat} {Q : State → Prop} {mc ms : Nat}
set_option maxRecDepth 100000 in
set_option maxHeartbeats 4000000 in
theorem lp_freeze (C : zC X p l s m args meth c cX7_freeze 2 yX7_freeze.cls) {x : Nat → Int32} {a : Nat → Nat → Int32} (hI : zInv x a) (hz : zN (x 29) < 20) (kk : ∀ σ1, MD x (ua a 30 (frz x a (zN (x 29)) (zN (x 11)))) σ1 → Fm σ σ1 → zG X p l e (zRm 4 mc ms) s m args below meth c 2 σ0 loc0 Q 0 0 σ1 60 [(0, aR 12 0)] []) : ∀ (r k : Nat) (σ1 : zHp), k + r = zN (x 11) → MD x (ua a 30 (frz x a (zN (x 29)) k)) σ1 → Fm σ σ1 → zG X p l e (zRm 4 mc ms) s m args below meth c 2 σ0 loc0 Q 0 0 σ1 27 [(0, aR 12 0), (1, aI (nI k))] [] := by
  obtain ⟨i0, i1, i6, i11, i15, i23, i24, i29, iA, iS, iC, iQ, iP⟩ := id hI
  have b1 := i1.2
  have b6 := i6.2
  have b11 := i11.2
  have b15 := i15.2
  have b23 := i23.2
  have b24 := i24.2
  have b29 := i29.2
  intro r
  induction r with
  | zero =>
    intro k σ1 hk hM hF
    refine z_iload_n (i := 1) C dX7_freeze_27 rfl rfl ?_
    refine z_aload_n (i := 0) C dX7_freeze_28 rfl rfl ?_
    refine z_getf C f_RX7_90 dX7_freeze_29 hM.1 rfl ?_
    have ek : k = zN (x 11) := by omega
    refine z_icmp_ge (tgt := 60) C dX7_freeze_32 (by decide) (fun _ => ?_) (fun h => absurd (by rw [i11.1, ek]; exact Int32.le_refl _) h)
    subst ek
    refine z_sub (L' := [(0, aR 12 0)]) (zs1 rfl zs0) ?_
    exact kk _ hM hF
  | succ r ih =>
    intro k σ1 hk hM hF
    refine z_iload_n (i := 1) C dX7_freeze_27 rfl rfl ?_
    refine z_aload_n (i := 0) C dX7_freeze_28 rfl rfl ?_
    refine z_getf C f_RX7_90 dX7_freeze_29 hM.1 rfl ?_
    refine z_icmp_ge (tgt := 60) C dX7_freeze_32 (by decide) (fun h => absurd h (by rw [i11.1]; exact nI_ge (by omega) (by omega))) (fun _ => ?_)
    have hI9 : zInv x (ua a 30 (frz x a (zN (x 29)) k)) := hI
    refine z_aload_n (i := 0) C dX7_freeze_35 rfl rfl ?_
    refine z_getf C f_RX7_76 dX7_freeze_36 hM.1 rfl ?_
    refine z_bipush (v := 8) C dX7_freeze_39 (by decide) ?_
    refine z_aload_n (i := 0) C dX7_freeze_41 rfl rfl ?_
    refine z_getf C f_RX7_165 dX7_freeze_42 hM.1 rfl ?_
    refine z_imul C dX7_freeze_45 ?_
    refine z_iload_n (i := 1) C dX7_freeze_46 rfl rfl ?_
    refine z_iadd C dX7_freeze_47 ?_
    refine z_top (w := nI (8 * zN (x 29) + k)) (by rw [i29.1, zN_nI (by omega)]; exact nI_lin8 _ _) ?_
    refine z_aload_n (i := 0) C dX7_freeze_48 rfl rfl ?_
    refine z_iload_n (i := 1) C dX7_freeze_49 rfl rfl ?_
    refine z_callV C Y_X7_forecastOf V_X7_forecastOf ml_RX7_162 (c_X7_forecastOf l hM hI9 (t := k) (by omega)) dX7_freeze_50 rfl rfl hM.1 ⟨_, _, rfl⟩ (fun _ => Nat.le_of_ble_eq_true rfl) ⟨Nat.le_of_ble_eq_true rfl, Nat.le_of_ble_eq_true rfl⟩ ⟨Nat.zero_le _, Nat.zero_le _⟩ (z_ri (fun x σ1 hx => ?_)) (z_nx)
    obtain ⟨rfl, rfl⟩ := hx
    refine z_top (forS_30 _) ?_
    refine z_iastW C dX7_freeze_53 hM 30 (by decide) (by first | rfl | exact i15.1 | exact i1.1 | exact i11.1 | exact i23.1 | exact i6.1) (show _ < 160 by omega) (fun σ hM hF9 => ?_)
    replace hF := hF.tr hF9
    refine z_iinc C dX7_freeze_54 (by decide) rfl (zinc k) ?_
    refine z_goto (tgt := 27) C dX7_freeze_57 (by decide) ?_
    refine z_sub (L' := [(0, aR 12 0), (1, aI (nI (k + 1)))]) (zs1 rfl (zs1 rfl zs0)) ?_
    exact ih (k + 1) σ (by omega) (hM.cg rfl (by rw [ua_ua, ua_s, frz_s])) hF
end Llp_freeze
def k_freeze (x : Nat → Int32) (a : Nat → Nat → Int32) (_z : Int32) : Int32 := goC (decide (x 29 < 20)) (true) (true)
set_option maxRecDepth 100000 in
set_option maxHeartbeats 4000000 in
theorem c_X7_freeze {X : zX} (l : Launch) {x : Nat → Int32} {a : Nat → Nat → Int32} {σ : zHp} (hM : MD x a σ) (hI : zInv x a) : zM X l yX7_freeze cX7_freeze 2 (some .int) 4 0 0 [aR 12 0] σ (zPi (fun r9 σ1 => zRz (k_freeze x a 0) (x 29) (upd x 29 (x 29 + 1)) (ua a 30 (frz x a (zN (x 29)) (zN (x 11)))) x a r9 σ σ1)) zNx := by
  obtain ⟨i0, i1, i6, i11, i15, i23, i24, i29, iA, iS, iC, iQ, iP⟩ := id hI
  have b1 := i1.2
  have b6 := i6.2
  have b11 := i11.2
  have b15 := i15.2
  have b23 := i23.2
  have b24 := i24.2
  have b29 := i29.2
  refine zM.of (by decide +kernel) (Nat.le_of_ble_eq_true rfl) (by simp [zcat, Value.category]) ?_
  intro p e s m args below meth c loc0 C hr hnm hT
  refine z_aload_n (i := 0) C dX7_freeze_0 rfl rfl ?_
  refine z_join (pc' := 15) (L' := [(0, aR 12 0)]) (st' := [aI (zb (decide (x 29 < 20))), aR 12 0]) (fun kk => ?_) ?_
  · refine z_aload_n (i := 0) C dX7_freeze_1 rfl rfl ?_
    refine z_getf C f_RX7_165 dX7_freeze_2 hM.1 rfl ?_
    refine z_bipush (v := 20) C dX7_freeze_5 (by decide) ?_
    refine z_icmp_ge (tgt := 14) C dX7_freeze_7 (by decide) (fun h7 => ?_) (fun h7 => ?_)
    · have g7 := Int32.not_lt.mpr h7
      refine z_iconst (v := 0) C dX7_freeze_14 (by decide) ?_
      exact z_subK (z_b0 (by simp only [h7, g7, eq_self, decide_true, decide_false, Bool.and_true, Bool.true_and, Bool.and_false, Bool.false_and, Bool.or_true, Bool.true_or, Bool.or_false, Bool.false_or, Bool.not_true, Bool.not_false, not_true, not_false_eq_true, if_true, if_false]) kk) (zs1 rfl zs0)
    · have g7 := Int32.not_le.mp h7
      refine z_iconst (v := 1) C dX7_freeze_10 (by decide) ?_
      refine z_goto (tgt := 15) C dX7_freeze_11 (by decide) ?_
      exact z_subK (z_b1 (by simp only [h7, g7, eq_self, decide_true, decide_false, Bool.and_true, Bool.true_and, Bool.and_false, Bool.false_and, Bool.or_true, Bool.true_or, Bool.or_false, Bool.false_or, Bool.not_true, Bool.not_false, not_true, not_false_eq_true, if_true, if_false]) kk) (zs1 rfl zs0)
  refine z_iconst (v := 1) C dX7_freeze_15 (by decide) ?_
  refine z_iconst (v := 1) C dX7_freeze_16 (by decide) ?_
  refine z_callV C Y_X7_goes V_X7_goes ml_RX7_100 (c_X7_goes l hM (p1 := decide (x 29 < 20)) (p2 := true) (p3 := true)) dX7_freeze_17 rfl rfl hM.1 ⟨_, _, rfl⟩ (fun _ => Nat.le_of_ble_eq_true rfl) ⟨Nat.le_of_ble_eq_true rfl, Nat.le_of_ble_eq_true rfl⟩ ⟨Nat.le_of_ble_eq_true rfl, Nat.le_of_ble_eq_true rfl⟩ (z_ri (fun x σ1 hx => ?_)) (z_nx)
  obtain ⟨rfl, hM, hF⟩ := hx
  refine z_if_neB (tgt := 25) C dX7_freeze_20 (by decide) (fun h0 => ?_) (fun h0 => ?_)
  · have h1 := of_decide_eq_true h0
    rw [h1] at hM
    obtain ⟨q1, q2, q3⟩ := goC_0.mp h1
    replace h0 : k_freeze x a 0 = 0 := h1
    have hn : zN (x 29) < 20 := zN_lt i29 (by decide) (of_decide_eq_true q1)
    have hI1 : zInv (upd x 31 0) a := hI
    refine z_iconst (v := 0) C dX7_freeze_25 (by decide) ?_
    refine z_istore_n (i := 1) C dX7_freeze_26 rfl (by decide) ?_
    refine z_sub (L' := [(0, aR 12 0), (1, aI (nI 0))]) (zs1 rfl (zs1 rfl zs0)) ?_
    refine lp_freeze C hI1 hn (fun σ1 hM hF9 => ?_) (zN (x 11)) 0 _ (by exact Nat.zero_add _) (hM.cg rfl (by rw [frz_0, ua_id])) Fm.rf
    replace hF := hF.tr hF9
    refine z_aload_n (i := 0) C dX7_freeze_60 rfl rfl ?_
    refine z_dup C (by first | trivial | rfl) dX7_freeze_61 ?_
    refine z_getf C f_RX7_165 dX7_freeze_62 hM.1 rfl ?_
    refine z_iconst (v := 1) C dX7_freeze_65 (by decide) ?_
    refine z_iadd C dX7_freeze_66 ?_
    refine z_putM (j := 29) C fp_RX7_165 dX7_freeze_67 hM (by decide) (by decide) (fun σ hM hF9 => ?_)
    replace hF := hF.tr hF9
    refine z_aload_n (i := 0) C dX7_freeze_70 rfl rfl ?_
    refine z_getf C f_RX7_165 dX7_freeze_71 hM.1 rfl ?_
    refine z_iconst (v := 1) C dX7_freeze_74 (by decide) ?_
    refine z_isub C dX7_freeze_75 ?_
    exact z_iret C hr rfl dX7_freeze_76 (Nat.le_of_ble_eq_true rfl) (Nat.le_of_ble_eq_true rfl) ⟨_, rfl, zRz.ok h0 (Int32.add_sub_cancel _ _) hM rfl (by rw [frz_x]; rfl) hF⟩
  · refine z_iconst (v := 0) C dX7_freeze_23 (by decide) ?_
    exact z_iret C hr rfl dX7_freeze_24 (Nat.le_of_ble_eq_true rfl) (Nat.le_of_ble_eq_true rfl) ⟨_, rfl, zRz.no h0 hM hF⟩

def R4 (a : Nat → Nat → Int32) (g : (Nat → Int32) → Nat → Int32) : Nat → Nat → Int32 := ua (ua (ua (ua a 7 (g (a 7))) 8 (g (a 8))) 9 (g (a 9))) 10 (g (a 10))
theorem R4_at {a : Nat → Nat → Int32} {g : (Nat → Int32) → Nat → Int32} {t : Nat} : R4 a g t = if t = 10 ∨ t = 9 ∨ t = 8 ∨ t = 7 then g (a t) else a t := by
  unfold R4
  by_cases h1 : t = 10
  · subst h1; rfl
  · by_cases h2 : t = 9
    · subst h2; rfl
    · by_cases h3 : t = 8
      · subst h3; rfl
      · by_cases h4 : t = 7
        · subst h4; rfl
        · rw [ua_n h1, ua_n h2, ua_n h3, ua_n h4, if_neg (by omega)]
theorem cpR_R4 {a : Nat → Nat → Int32} {i j : Nat} : cpR a i j = R4 a (fun f => upd f j (f i)) := rfl
theorem R4_R4 {a : Nat → Nat → Int32} {g h : (Nat → Int32) → Nat → Int32} : R4 (R4 a g) h = R4 a (fun f => h (g f)) := by
  funext t
  rw [R4_at, R4_at, R4_at]
  by_cases e : t = 10 ∨ t = 9 ∨ t = 8 ∨ t = 7
  · rw [if_pos e, if_pos e, if_pos e]
  · rw [if_neg e, if_neg e, if_neg e]
theorem R4_id {a : Nat → Nat → Int32} {g : (Nat → Int32) → Nat → Int32} (h : ∀ f, g f = f) : R4 a g = a := by
  funext t
  rw [R4_at, h]
  exact ite_self _
theorem R4_cg {a : Nat → Nat → Int32} {g h : (Nat → Int32) → Nat → Int32} (e : ∀ f, g f = h f) : R4 a g = R4 a h := by
  funext t
  rw [R4_at, R4_at, e]
def insG (k n : Nat) (f : Nat → Int32) : Nat → Int32 := fun t => if k < t ∧ t ≤ n then f (t - 1) else f t
def delG (k m : Nat) (f : Nat → Int32) : Nat → Int32 := fun t => if k ≤ t ∧ t < m then f (t + 1) else f t
theorem insG_0 {n : Nat} (f : Nat → Int32) : insG n n f = f := by
  funext t
  simp only [insG]
  rw [if_neg (by omega)]
theorem insG_s {k n : Nat} (h : k < n) (f : Nat → Int32) : upd (insG (k + 1) n f) (k + 1) (insG (k + 1) n f k) = insG k n f := by
  funext t
  by_cases e : t = k + 1
  · subst e
    simp only [upd, if_true, insG]
    rw [if_neg (by omega), if_pos (by omega)]
    rfl
  · simp only [upd, if_neg e, insG]
    by_cases e2 : k + 1 < t ∧ t ≤ n
    · rw [if_pos e2, if_pos (by omega)]
    · rw [if_neg e2, if_neg (by omega)]
theorem delG_0 {k : Nat} (f : Nat → Int32) : delG k k f = f := by
  funext t
  simp only [delG]
  rw [if_neg (by omega)]
theorem delG_s {k m : Nat} (h : k ≤ m) (f : Nat → Int32) : upd (delG k m f) m (delG k m f (m + 1)) = delG k (m + 1) f := by
  funext t
  by_cases e : t = m
  · subst e
    simp only [upd, if_true, delG]
    rw [if_neg (by omega), if_pos (by omega)]
  · simp only [upd, if_neg e, delG]
    by_cases e2 : k ≤ t ∧ t < m
    · rw [if_pos e2, if_pos (by omega)]
    · rw [if_neg e2, if_neg (by omega)]
/-- the rules with one more at its place -/
def putR (a : Nat → Nat → Int32) (p n : Nat) (f u g r : Int32) : Nat → Nat → Int32 := ua (ua (ua (ua a 7 (upd (insG p n (a 7)) p f)) 8 (upd (insG p n (a 8)) p u)) 9 (upd (insG p n (a 9)) p g)) 10 (upd (insG p n (a 10)) p r)
theorem putR_eq {a : Nat → Nat → Int32} {p n : Nat} {f u g r : Int32} : ua (ua (ua (ua (R4 a (insG p n)) 7 (upd (R4 a (insG p n) 7) p f)) 8 (upd (R4 a (insG p n) 8) p u)) 9 (upd (R4 a (insG p n) 9) p g)) 10 (upd (R4 a (insG p n) 10) p r) = putR a p n f u g r := by
  have e7 : R4 a (insG p n) 7 = insG p n (a 7) := rfl
  have e8 : R4 a (insG p n) 8 = insG p n (a 8) := rfl
  have e9 : R4 a (insG p n) 9 = insG p n (a 9) := rfl
  have e10 : R4 a (insG p n) 10 = insG p n (a 10) := rfl
  rw [e7, e8, e9, e10]
  unfold putR
  funext t
  by_cases h1 : t = 10
  · subst h1; rfl
  · by_cases h2 : t = 9
    · subst h2; rfl
    · by_cases h3 : t = 8
      · subst h3; rfl
      · by_cases h4 : t = 7
        · subst h4; rfl
        · rw [ua_n h1, ua_n h2, ua_n h3, ua_n h4, ua_n h1, ua_n h2, ua_n h3, ua_n h4, R4_at, if_neg (by omega)]
section Llp_putRule
variable {X : zX} {p : Program} {l : Launch} {e : Env} {s : State} {m : MethodId} {args : Array Value} {below : List Frame} {meth : Method} {c : Code} {nL : Nat} {σ0 σ : zHp} {loc0 : zK → Nat} {Q : State → Prop} {mc ms : Nat}
set_option maxRecDepth 100000 in
set_option maxHeartbeats 4000000 in
theorem lp_putRule (C : zC X p l s m args meth c cX7_putRule 8 yX7_putRule.cls) {x : Nat → Int32} {a : Nat → Nat → Int32} {pl n : Nat} {v2 v3 v4 v5 : Int32} (hn : n < 8) (kk : ∀ σ1, MD x (R4 a (insG pl n)) σ1 → Fm σ σ1 → zG X p l e (zRm 2 mc ms) s m args below meth c 8 σ0 loc0 Q 0 0 σ1 110 [(0, aR 12 0), (1, aI (nI pl)), (2, aI v2), (3, aI v3), (4, aI v4), (5, aI v5)] []) : ∀ (d : Nat) (σ1 : zHp), pl + d ≤ n → MD x (R4 a (insG (pl + d) n)) σ1 → Fm σ σ1 → zG X p l e (zRm 2 mc ms) s m args below meth c 8 σ0 loc0 Q 0 0 σ1 88 [(0, aR 12 0), (1, aI (nI pl)), (2, aI v2), (3, aI v3), (4, aI v4), (5, aI v5), (7, aI (nI (pl + d)))] [] := by
  intro d
  induction d with
  | zero =>
    intro σ1 hk hM hF
    refine z_iload C dX7_putRule_88 rfl ?_
    refine z_iload_n (i := 1) C dX7_putRule_90 rfl rfl ?_
    refine z_icmp_le (tgt := 110) C dX7_putRule_91 (by decide) (fun _ => ?_) (fun h => absurd (Int32.le_refl _) h)
    refine z_sub (L' := [(0, aR 12 0), (1, aI (nI pl)), (2, aI v2), (3, aI v3), (4, aI v4), (5, aI v5)]) (zs1 rfl (zs1 rfl (zs1 rfl (zs1 rfl (zs1 rfl (zs1 rfl zs0)))))) ?_
    exact kk _ hM hF
  | succ d ih =>
    intro σ1 hk hM hF
    refine z_iload C dX7_putRule_88 rfl ?_
    refine z_iload_n (i := 1) C dX7_putRule_90 rfl rfl ?_
    refine z_icmp_le (tgt := 110) C dX7_putRule_91 (by decide) (fun h => absurd h (nI_ge (by omega) (by omega))) (fun _ => ?_)
    refine z_aload_n (i := 0) C dX7_putRule_94 rfl rfl ?_
    refine z_iload C dX7_putRule_95 rfl ?_
    refine z_iconst (v := 1) C dX7_putRule_97 (by decide) ?_
    refine z_isub C dX7_putRule_98 ?_
    refine z_iload C dX7_putRule_99 rfl ?_
    rw [show nI (pl + (d + 1)) - 1 = nI (pl + d) from nI_pred (pl + d)]
    refine z_callV C Y_X7_copyRule V_X7_copyRule ml_RX7_111 (c_X7_copyRule l hM (i := pl + d) (j := pl + (d + 1)) (by omega) (by omega)) dX7_putRule_101 rfl rfl hM.1 ⟨_, _, rfl⟩ (fun _ => Nat.le_of_ble_eq_true rfl) ⟨Nat.le_of_ble_eq_true rfl, Nat.le_of_ble_eq_true rfl⟩ ⟨Nat.zero_le _, Nat.zero_le _⟩ (z_rv (fun σ2 hx => ?_)) (z_nx)
    obtain ⟨hM, hF9⟩ := hx
    replace hF := hF.tr hF9
    refine z_iinc (v := nI (pl + d)) C dX7_putRule_104 (by decide) rfl (by rw [zdec]; exact nI_pred (pl + d)) ?_
    refine z_goto (tgt := 88) C dX7_putRule_107 (by decide) ?_
    refine z_sub (L' := [(0, aR 12 0), (1, aI (nI pl)), (2, aI v2), (3, aI v3), (4, aI v4), (5, aI v5), (7, aI (nI (pl + d)))]) (zs1 rfl (zs1 rfl (zs1 rfl (zs1 rfl (zs1 rfl (zs1 rfl (zs1 rfl zs0))))))) ?_
    exact ih _ (by omega) (hM.cg rfl (by rw [cpR_R4, R4_R4]; exact R4_cg (fun f => insG_s (k := pl + d) (by omega) f))) hF
end Llp_putRule
def k_putRule (x : Nat → Int32) (a : Nat → Nat → Int32) (pl f u g w : Int32) : Int32 := goC (inB pl 0 (x 6)) (inB f 0 9 && (inB u f 9 && (inB g 0 9 && inB w 0 3))) (decide (x 6 < 8))
set_option maxRecDepth 100000 in
set_option maxHeartbeats 4000000 in
theorem c_X7_putRule {X : zX} (l : Launch) {x : Nat → Int32} {a : Nat → Nat → Int32} {σ : zHp} (hM : MD x a σ) (hI : zInv x a) {pl f u g w : Int32} : zM X l yX7_putRule cX7_putRule 8 (some .int) 2 0 0 [aR 12 0, aI pl, aI f, aI u, aI g, aI w] σ (zPi (fun r9 σ1 => zRz (k_putRule x a pl f u g w) (x 6 + 1) (upd x 6 (x 6 + 1)) (putR a (zN pl) (zN (x 6)) f u g w) x a r9 σ σ1)) zNx := by
  obtain ⟨i0, i1, i6, i11, i15, i23, i24, i29, iA, iS, iC, iQ, iP⟩ := id hI
  have b1 := i1.2
  have b6 := i6.2
  have b11 := i11.2
  have b15 := i15.2
  have b23 := i23.2
  have b24 := i24.2
  have b29 := i29.2
  refine zM.of (by decide +kernel) (Nat.le_of_ble_eq_true rfl) (by simp [zcat, Value.category]) ?_
  intro p e s m args below meth c loc0 C hr hnm hT
  refine z_join (pc' := 46) (L' := [(0, aR 12 0), (1, aI pl), (2, aI f), (3, aI u), (4, aI g), (5, aI w)]) (st' := [aI (zb (inB f 0 9 && (inB u f 9 && (inB g 0 9 && inB w 0 3))))]) (fun kk => ?_) ?_
  · refine z_iload_n (i := 2) C dX7_putRule_0 rfl rfl ?_
    refine z_iconst (v := 0) C dX7_putRule_1 (by decide) ?_
    refine z_bipush (v := 9) C dX7_putRule_2 (by decide) ?_
    refine z_callS C Y_X7_in sm_yX7_in ml_RX7_86 (c_X7_in l) dX7_putRule_4 rfl rfl (fun _ => Nat.le_of_ble_eq_true rfl) ⟨Nat.le_of_ble_eq_true rfl, Nat.le_of_ble_eq_true rfl⟩ ⟨Nat.le_of_ble_eq_true rfl, Nat.le_of_ble_eq_true rfl⟩ (z_ri (fun x σ1 hx => ?_)) (z_nx)
    obtain ⟨rfl, rfl⟩ := hx
    refine z_if_eqB (tgt := 45) C dX7_putRule_7 (by decide) (fun h7 => ?_) (fun h7 => ?_)
    · refine z_iconst (v := 0) C dX7_putRule_45 (by decide) ?_
      exact z_subK (z_b0 (by simp only [h7, eq_self, decide_true, decide_false, Bool.and_true, Bool.true_and, Bool.and_false, Bool.false_and, Bool.or_true, Bool.true_or, Bool.or_false, Bool.false_or, Bool.not_true, Bool.not_false, not_true, not_false_eq_true, if_true, if_false]) kk) (zs1 rfl (zs1 rfl (zs1 rfl (zs1 rfl (zs1 rfl (zs1 rfl zs0))))))
    · refine z_iload_n (i := 3) C dX7_putRule_10 rfl rfl ?_
      refine z_iload_n (i := 2) C dX7_putRule_11 rfl rfl ?_
      refine z_bipush (v := 9) C dX7_putRule_12 (by decide) ?_
      refine z_callS C Y_X7_in sm_yX7_in ml_RX7_86 (c_X7_in l) dX7_putRule_14 rfl rfl (fun _ => Nat.le_of_ble_eq_true rfl) ⟨Nat.le_of_ble_eq_true rfl, Nat.le_of_ble_eq_true rfl⟩ ⟨Nat.le_of_ble_eq_true rfl, Nat.le_of_ble_eq_true rfl⟩ (z_ri (fun x σ1 hx => ?_)) (z_nx)
      obtain ⟨rfl, rfl⟩ := hx
      refine z_if_eqB (tgt := 45) C dX7_putRule_17 (by decide) (fun h17 => ?_) (fun h17 => ?_)
      · refine z_iconst (v := 0) C dX7_putRule_45 (by decide) ?_
        exact z_subK (z_b0 (by simp only [h7, h17, eq_self, decide_true, decide_false, Bool.and_true, Bool.true_and, Bool.and_false, Bool.false_and, Bool.or_true, Bool.true_or, Bool.or_false, Bool.false_or, Bool.not_true, Bool.not_false, not_true, not_false_eq_true, if_true, if_false]) kk) (zs1 rfl (zs1 rfl (zs1 rfl (zs1 rfl (zs1 rfl (zs1 rfl zs0))))))
      · refine z_iload C dX7_putRule_20 rfl ?_
        refine z_iconst (v := 0) C dX7_putRule_22 (by decide) ?_
        refine z_bipush (v := 9) C dX7_putRule_23 (by decide) ?_
        refine z_callS C Y_X7_in sm_yX7_in ml_RX7_86 (c_X7_in l) dX7_putRule_25 rfl rfl (fun _ => Nat.le_of_ble_eq_true rfl) ⟨Nat.le_of_ble_eq_true rfl, Nat.le_of_ble_eq_true rfl⟩ ⟨Nat.le_of_ble_eq_true rfl, Nat.le_of_ble_eq_true rfl⟩ (z_ri (fun x σ1 hx => ?_)) (z_nx)
        obtain ⟨rfl, rfl⟩ := hx
        refine z_if_eqB (tgt := 45) C dX7_putRule_28 (by decide) (fun h28 => ?_) (fun h28 => ?_)
        · refine z_iconst (v := 0) C dX7_putRule_45 (by decide) ?_
          exact z_subK (z_b0 (by simp only [h7, h17, h28, eq_self, decide_true, decide_false, Bool.and_true, Bool.true_and, Bool.and_false, Bool.false_and, Bool.or_true, Bool.true_or, Bool.or_false, Bool.false_or, Bool.not_true, Bool.not_false, not_true, not_false_eq_true, if_true, if_false]) kk) (zs1 rfl (zs1 rfl (zs1 rfl (zs1 rfl (zs1 rfl (zs1 rfl zs0))))))
        · refine z_iload C dX7_putRule_31 rfl ?_
          refine z_iconst (v := 0) C dX7_putRule_33 (by decide) ?_
          refine z_iconst (v := 3) C dX7_putRule_34 (by decide) ?_
          refine z_callS C Y_X7_in sm_yX7_in ml_RX7_86 (c_X7_in l) dX7_putRule_35 rfl rfl (fun _ => Nat.le_of_ble_eq_true rfl) ⟨Nat.le_of_ble_eq_true rfl, Nat.le_of_ble_eq_true rfl⟩ ⟨Nat.le_of_ble_eq_true rfl, Nat.le_of_ble_eq_true rfl⟩ (z_ri (fun x σ1 hx => ?_)) (z_nx)
          obtain ⟨rfl, rfl⟩ := hx
          refine z_if_eqB (tgt := 45) C dX7_putRule_38 (by decide) (fun h38 => ?_) (fun h38 => ?_)
          · refine z_iconst (v := 0) C dX7_putRule_45 (by decide) ?_
            exact z_subK (z_b0 (by simp only [h7, h17, h28, h38, eq_self, decide_true, decide_false, Bool.and_true, Bool.true_and, Bool.and_false, Bool.false_and, Bool.or_true, Bool.true_or, Bool.or_false, Bool.false_or, Bool.not_true, Bool.not_false, not_true, not_false_eq_true, if_true, if_false]) kk) (zs1 rfl (zs1 rfl (zs1 rfl (zs1 rfl (zs1 rfl (zs1 rfl zs0))))))
          · refine z_iconst (v := 1) C dX7_putRule_41 (by decide) ?_
            refine z_goto (tgt := 46) C dX7_putRule_42 (by decide) ?_
            exact z_subK (z_b1 (by simp only [h7, h17, h28, h38, eq_self, decide_true, decide_false, Bool.and_true, Bool.true_and, Bool.and_false, Bool.false_and, Bool.or_true, Bool.true_or, Bool.or_false, Bool.false_or, Bool.not_true, Bool.not_false, not_true, not_false_eq_true, if_true, if_false]) kk) (zs1 rfl (zs1 rfl (zs1 rfl (zs1 rfl (zs1 rfl (zs1 rfl zs0))))))
  refine z_istore C dX7_putRule_46 (by decide) ?_
  refine z_aload_n (i := 0) C dX7_putRule_48 rfl rfl ?_
  refine z_iload_n (i := 1) C dX7_putRule_49 rfl rfl ?_
  refine z_iconst (v := 0) C dX7_putRule_50 (by decide) ?_
  refine z_aload_n (i := 0) C dX7_putRule_51 rfl rfl ?_
  refine z_getf C f_RX7_108 dX7_putRule_52 hM.1 rfl ?_
  refine z_callS C Y_X7_in sm_yX7_in ml_RX7_86 (c_X7_in l) dX7_putRule_55 rfl rfl (fun _ => Nat.le_of_ble_eq_true rfl) ⟨Nat.le_of_ble_eq_true rfl, Nat.le_of_ble_eq_true rfl⟩ ⟨Nat.le_of_ble_eq_true rfl, Nat.le_of_ble_eq_true rfl⟩ (z_ri (fun x σ1 hx => ?_)) (z_nx)
  obtain ⟨rfl, rfl⟩ := hx
  refine z_iload C dX7_putRule_58 rfl ?_
  refine z_join (pc' := 74) (L' := [(0, aR 12 0), (1, aI pl), (2, aI f), (3, aI u), (4, aI g), (5, aI w), (6, aI (zb (inB f 0 9 && (inB u f 9 && (inB g 0 9 && inB w 0 3)))))]) (st' := [aI (zb (decide (x 6 < 8))), aI (zb (inB f 0 9 && (inB u f 9 && (inB g 0 9 && inB w 0 3)))), aI (zb (inB pl 0 (x 6))), aR 12 0]) (fun kk => ?_) ?_
  · refine z_aload_n (i := 0) C dX7_putRule_60 rfl rfl ?_
    refine z_getf C f_RX7_108 dX7_putRule_61 hM.1 rfl ?_
    refine z_bipush (v := 8) C dX7_putRule_64 (by decide) ?_
    refine z_icmp_ge (tgt := 73) C dX7_putRule_66 (by decide) (fun h66 => ?_) (fun h66 => ?_)
    · have g66 := Int32.not_lt.mpr h66
      refine z_iconst (v := 0) C dX7_putRule_73 (by decide) ?_
      exact z_subK (z_b0 (by simp only [h66, g66, eq_self, decide_true, decide_false, Bool.and_true, Bool.true_and, Bool.and_false, Bool.false_and, Bool.or_true, Bool.true_or, Bool.or_false, Bool.false_or, Bool.not_true, Bool.not_false, not_true, not_false_eq_true, if_true, if_false]) kk) (zs1 rfl (zs1 rfl (zs1 rfl (zs1 rfl (zs1 rfl (zs1 rfl (zs1 rfl zs0)))))))
    · have g66 := Int32.not_le.mp h66
      refine z_iconst (v := 1) C dX7_putRule_69 (by decide) ?_
      refine z_goto (tgt := 74) C dX7_putRule_70 (by decide) ?_
      exact z_subK (z_b1 (by simp only [h66, g66, eq_self, decide_true, decide_false, Bool.and_true, Bool.true_and, Bool.and_false, Bool.false_and, Bool.or_true, Bool.true_or, Bool.or_false, Bool.false_or, Bool.not_true, Bool.not_false, not_true, not_false_eq_true, if_true, if_false]) kk) (zs1 rfl (zs1 rfl (zs1 rfl (zs1 rfl (zs1 rfl (zs1 rfl (zs1 rfl zs0)))))))
  refine z_callV C Y_X7_goes V_X7_goes ml_RX7_100 (c_X7_goes l hM (p1 := inB pl 0 (x 6)) (p2 := inB f 0 9 && (inB u f 9 && (inB g 0 9 && inB w 0 3))) (p3 := decide (x 6 < 8))) dX7_putRule_74 rfl rfl hM.1 ⟨_, _, rfl⟩ (fun _ => Nat.le_of_ble_eq_true rfl) ⟨Nat.le_of_ble_eq_true rfl, Nat.le_of_ble_eq_true rfl⟩ ⟨Nat.le_of_ble_eq_true rfl, Nat.le_of_ble_eq_true rfl⟩ (z_ri (fun x σ1 hx => ?_)) (z_nx)
  obtain ⟨rfl, hM, hF⟩ := hx
  refine z_if_neB (tgt := 82) C dX7_putRule_77 (by decide) (fun h0 => ?_) (fun h0 => ?_)
  · have h1 := of_decide_eq_true h0
    rw [h1] at hM
    obtain ⟨q1, q2, q3⟩ := goC_0.mp h1
    replace h0 : k_putRule x a pl f u g w = 0 := h1
    have hn : zN (x 6) < 8 := zN_lt i6 (by decide) (of_decide_eq_true q3)
    rw [i6.1] at q1
    obtain ⟨pl, hp, rfl⟩ := inB_to (by omega) q1
    rw [← i6.1] at q1
    have zp : zN (nI pl) = pl := zN_nI (by omega)
    obtain ⟨d, hd⟩ : ∃ d, zN (x 6) = pl + d := ⟨zN (x 6) - pl, by omega⟩
    refine z_aload_n (i := 0) C dX7_putRule_82 rfl rfl ?_
    refine z_getf C f_RX7_108 dX7_putRule_83 hM.1 rfl ?_
    refine z_istore C dX7_putRule_86 (by decide) ?_
    refine z_sub (L' := [(0, aR 12 0), (1, aI (nI pl)), (2, aI f), (3, aI u), (4, aI g), (5, aI w), (7, aI (nI (pl + d)))]) (zs1 rfl (zs1 rfl (zs1 rfl (zs1 rfl (zs1 rfl (zs1 rfl (zs1 (by rw [← hd, ← i6.1]; rfl) zs0))))))) ?_
    refine lp_putRule C (n := zN (x 6)) hn (fun σ1 hM hF9 => ?_) d _ (by omega) (hM.cg rfl (by rw [← hd]; exact (R4_id insG_0).symm)) Fm.rf
    replace hF := hF.tr hF9
    refine z_aload_n (i := 0) C dX7_putRule_110 rfl rfl ?_
    refine z_getf C f_RX7_22 dX7_putRule_111 hM.1 rfl ?_
    refine z_iload_n (i := 1) C dX7_putRule_114 rfl rfl ?_
    refine z_iload_n (i := 2) C dX7_putRule_115 rfl rfl ?_
    refine z_iastW C dX7_putRule_116 hM 7 (by decide) (by first | rfl | exact i15.1 | exact i1.1 | exact i11.1 | exact i23.1 | exact i6.1) (show _ < 9 by omega) (fun σ hM hF9 => ?_)
    replace hF := hF.tr hF9
    refine z_aload_n (i := 0) C dX7_putRule_117 rfl rfl ?_
    refine z_getf C f_RX7_25 dX7_putRule_118 hM.1 rfl ?_
    refine z_iload_n (i := 1) C dX7_putRule_121 rfl rfl ?_
    refine z_iload_n (i := 3) C dX7_putRule_122 rfl rfl ?_
    refine z_iastW C dX7_putRule_123 hM 8 (by decide) (by first | rfl | exact i15.1 | exact i1.1 | exact i11.1 | exact i23.1 | exact i6.1) (show _ < 9 by omega) (fun σ hM hF9 => ?_)
    replace hF := hF.tr hF9
    refine z_aload_n (i := 0) C dX7_putRule_124 rfl rfl ?_
    refine z_getf C f_RX7_28 dX7_putRule_125 hM.1 rfl ?_
    refine z_iload_n (i := 1) C dX7_putRule_128 rfl rfl ?_
    refine z_iload C dX7_putRule_129 rfl ?_
    refine z_iastW C dX7_putRule_131 hM 9 (by decide) (by first | rfl | exact i15.1 | exact i1.1 | exact i11.1 | exact i23.1 | exact i6.1) (show _ < 9 by omega) (fun σ hM hF9 => ?_)
    replace hF := hF.tr hF9
    refine z_aload_n (i := 0) C dX7_putRule_132 rfl rfl ?_
    refine z_getf C f_RX7_31 dX7_putRule_133 hM.1 rfl ?_
    refine z_iload_n (i := 1) C dX7_putRule_136 rfl rfl ?_
    refine z_iload C dX7_putRule_137 rfl ?_
    refine z_iastW C dX7_putRule_139 hM 10 (by decide) (by first | rfl | exact i15.1 | exact i1.1 | exact i11.1 | exact i23.1 | exact i6.1) (show _ < 9 by omega) (fun σ hM hF9 => ?_)
    replace hF := hF.tr hF9
    refine z_aload_n (i := 0) C dX7_putRule_140 rfl rfl ?_
    refine z_dup C (by first | trivial | rfl) dX7_putRule_141 ?_
    refine z_getf C f_RX7_108 dX7_putRule_142 hM.1 rfl ?_
    refine z_iconst (v := 1) C dX7_putRule_145 (by decide) ?_
    refine z_iadd C dX7_putRule_146 ?_
    refine z_putM (j := 6) C fp_RX7_108 dX7_putRule_147 hM (by decide) (by decide) (fun σ hM hF9 => ?_)
    replace hF := hF.tr hF9
    refine z_aload_n (i := 0) C dX7_putRule_150 rfl rfl ?_
    refine z_getf C f_RX7_108 dX7_putRule_151 hM.1 rfl ?_
    exact z_iret C hr rfl dX7_putRule_154 (Nat.le_of_ble_eq_true rfl) (Nat.le_of_ble_eq_true rfl) ⟨_, rfl, zRz.ok h0 rfl hM rfl (by rw [zp]; exact putR_eq) hF⟩
  · refine z_iconst (v := 0) C dX7_putRule_80 (by decide) ?_
    exact z_iret C hr rfl dX7_putRule_81 (Nat.le_of_ble_eq_true rfl) (Nat.le_of_ble_eq_true rfl) ⟨_, rfl, zRz.no h0 hM hF⟩

section Llp_removeRule
variable {X : zX} {p : Program} {l : Launch} {e : Env} {s : State} {m : MethodId} {args : Array Value} {below : List Frame} {meth : Method} {c : Code} {nL : Nat} {σ0 σ : zHp} {loc0 : zK → Nat} {Q : State → Prop} {mc ms : Nat}
set_option maxRecDepth 100000 in
set_option maxHeartbeats 4000000 in
theorem lp_removeRule (C : zC X p l s m args meth c cX7_removeRule 3 yX7_removeRule.cls) {x : Nat → Int32} {a : Nat → Nat → Int32} {pl n : Nat} (hx6 : x 6 = nI n) (hn : n < 8) (kk : ∀ σ1, MD x (R4 a (delG pl n)) σ1 → Fm σ σ1 → zG X p l e (zRm 2 mc ms) s m args below meth c 3 σ0 loc0 Q 0 0 σ1 56 [(0, aR 12 0)] []) : ∀ (d k : Nat) (σ1 : zHp), k + d = n → pl ≤ k → MD x (R4 a (delG pl k)) σ1 → Fm σ σ1 → zG X p l e (zRm 2 mc ms) s m args below meth c 3 σ0 loc0 Q 0 0 σ1 34 [(0, aR 12 0), (2, aI (nI k))] [] := by
  intro d
  induction d with
  | zero =>
    intro k σ1 hk hp hM hF
    have ek : k = n := by omega
    subst ek
    refine z_iload_n (i := 2) C dX7_removeRule_34 rfl rfl ?_
    refine z_aload_n (i := 0) C dX7_removeRule_35 rfl rfl ?_
    refine z_getf C f_RX7_108 dX7_removeRule_36 hM.1 rfl ?_
    refine z_icmp_ge (tgt := 56) C dX7_removeRule_39 (by decide) (fun _ => ?_) (fun h => absurd (by rw [hx6]; exact Int32.le_refl _) h)
    refine z_sub (L' := [(0, aR 12 0)]) (zs1 rfl zs0) ?_
    exact kk _ hM hF
  | succ d ih =>
    intro k σ1 hk hp hM hF
    refine z_iload_n (i := 2) C dX7_removeRule_34 rfl rfl ?_
    refine z_aload_n (i := 0) C dX7_removeRule_35 rfl rfl ?_
    refine z_getf C f_RX7_108 dX7_removeRule_36 hM.1 rfl ?_
    refine z_icmp_ge (tgt := 56) C dX7_removeRule_39 (by decide) (fun h => absurd h (by rw [hx6]; exact nI_ge (by omega) (by omega))) (fun _ => ?_)
    refine z_aload_n (i := 0) C dX7_removeRule_42 rfl rfl ?_
    refine z_iload_n (i := 2) C dX7_removeRule_43 rfl rfl ?_
    refine z_iconst (v := 1) C dX7_removeRule_44 (by decide) ?_
    refine z_iadd C dX7_removeRule_45 ?_
    refine z_iload_n (i := 2) C dX7_removeRule_46 rfl rfl ?_
    rw [nI_1 k]
    refine z_callV C Y_X7_copyRule V_X7_copyRule ml_RX7_111 (c_X7_copyRule l hM (i := k + 1) (j := k) (by omega) (by omega)) dX7_removeRule_47 rfl rfl hM.1 ⟨_, _, rfl⟩ (fun _ => Nat.le_of_ble_eq_true rfl) ⟨Nat.le_of_ble_eq_true rfl, Nat.le_of_ble_eq_true rfl⟩ ⟨Nat.zero_le _, Nat.zero_le _⟩ (z_rv (fun σ2 hx => ?_)) (z_nx)
    obtain ⟨hM, hF9⟩ := hx
    replace hF := hF.tr hF9
    refine z_iinc C dX7_removeRule_50 (by decide) rfl (zinc k) ?_
    refine z_goto (tgt := 34) C dX7_removeRule_53 (by decide) ?_
    refine z_sub (L' := [(0, aR 12 0), (2, aI (nI (k + 1)))]) (zs1 rfl (zs1 rfl zs0)) ?_
    exact ih (k + 1) _ (by omega) (by omega) (hM.cg rfl (by rw [cpR_R4, R4_R4]; exact R4_cg (fun f => delG_s hp f))) hF
end Llp_removeRule
def k_removeRule (x : Nat → Int32) (a : Nat → Nat → Int32) (pl : Int32) : Int32 := goC (inB pl 0 (x 6 - 1)) (true) (true)
set_option maxRecDepth 100000 in
set_option maxHeartbeats 4000000 in
theorem c_X7_removeRule {X : zX} (l : Launch) {x : Nat → Int32} {a : Nat → Nat → Int32} {σ : zHp} (hM : MD x a σ) (hI : zInv x a) {pl : Int32} : zM X l yX7_removeRule cX7_removeRule 3 (some .int) 2 0 0 [aR 12 0, aI pl] σ (zPi (fun r9 σ1 => zRz (k_removeRule x a pl) (x 6 - 1) (upd x 6 (x 6 - 1)) (R4 a (delG (zN pl) (zN (x 6) - 1))) x a r9 σ σ1)) zNx := by
  obtain ⟨i0, i1, i6, i11, i15, i23, i24, i29, iA, iS, iC, iQ, iP⟩ := id hI
  have b1 := i1.2
  have b6 := i6.2
  have b11 := i11.2
  have b15 := i15.2
  have b23 := i23.2
  have b24 := i24.2
  have b29 := i29.2
  refine zM.of (by decide +kernel) (Nat.le_of_ble_eq_true rfl) (by simp [zcat, Value.category]) ?_
  intro p e s m args below meth c loc0 C hr hnm hT
  refine z_aload_n (i := 0) C dX7_removeRule_0 rfl rfl ?_
  refine z_iload_n (i := 1) C dX7_removeRule_1 rfl rfl ?_
  refine z_iconst (v := 0) C dX7_removeRule_2 (by decide) ?_
  refine z_aload_n (i := 0) C dX7_removeRule_3 rfl rfl ?_
  refine z_getf C f_RX7_108 dX7_removeRule_4 hM.1 rfl ?_
  refine z_iconst (v := 1) C dX7_removeRule_7 (by decide) ?_
  refine z_isub C dX7_removeRule_8 ?_
  refine z_callS C Y_X7_in sm_yX7_in ml_RX7_86 (c_X7_in l) dX7_removeRule_9 rfl rfl (fun _ => Nat.le_of_ble_eq_true rfl) ⟨Nat.le_of_ble_eq_true rfl, Nat.le_of_ble_eq_true rfl⟩ ⟨Nat.le_of_ble_eq_true rfl, Nat.le_of_ble_eq_true rfl⟩ (z_ri (fun x σ1 hx => ?_)) (z_nx)
  obtain ⟨rfl, rfl⟩ := hx
  refine z_iconst (v := 1) C dX7_removeRule_12 (by decide) ?_
  refine z_iconst (v := 1) C dX7_removeRule_13 (by decide) ?_
  refine z_callV C Y_X7_goes V_X7_goes ml_RX7_100 (c_X7_goes l hM (p1 := inB pl 0 (x 6 - 1)) (p2 := true) (p3 := true)) dX7_removeRule_14 rfl rfl hM.1 ⟨_, _, rfl⟩ (fun _ => Nat.le_of_ble_eq_true rfl) ⟨Nat.le_of_ble_eq_true rfl, Nat.le_of_ble_eq_true rfl⟩ ⟨Nat.le_of_ble_eq_true rfl, Nat.le_of_ble_eq_true rfl⟩ (z_ri (fun x σ1 hx => ?_)) (z_nx)
  obtain ⟨rfl, hM, hF⟩ := hx
  refine z_if_neB (tgt := 22) C dX7_removeRule_17 (by decide) (fun h0 => ?_) (fun h0 => ?_)
  · have h1 := of_decide_eq_true h0
    rw [h1] at hM
    obtain ⟨q1, q2, q3⟩ := goC_0.mp h1
    replace h0 : k_removeRule x a pl = 0 := h1
    obtain ⟨pl, hp, rfl⟩ := inB_ix i6 (by decide) q1
    have zp : zN (nI pl) = pl := zN_nI (by omega)
    obtain ⟨d, hd⟩ : ∃ d, zN (x 6) = pl + d + 1 := ⟨zN (x 6) - pl - 1, by omega⟩
    have e6 : x 6 - 1 = nI (pl + d) := by rw [i6.1, hd]; exact nI_pred (pl + d)
    have ez : zN (x 6) - 1 = pl + d := by omega
    refine z_aload_n (i := 0) C dX7_removeRule_22 rfl rfl ?_
    refine z_dup C (by first | trivial | rfl) dX7_removeRule_23 ?_
    refine z_getf C f_RX7_108 dX7_removeRule_24 hM.1 rfl ?_
    refine z_iconst (v := 1) C dX7_removeRule_27 (by decide) ?_
    refine z_isub C dX7_removeRule_28 ?_
    refine z_putM (j := 6) C fp_RX7_108 dX7_removeRule_29 hM (by decide) (by decide) (fun σ hM hF9 => ?_)
    replace hF := hF.tr hF9
    refine z_iload_n (i := 1) C dX7_removeRule_32 rfl rfl ?_
    refine z_istore_n (i := 2) C dX7_removeRule_33 rfl (by decide) ?_
    refine z_sub (L' := [(0, aR 12 0), (2, aI (nI pl))]) (zs1 rfl (zs1 rfl zs0)) ?_
    refine lp_removeRule C (n := pl + d) (pl := pl) e6 (by omega) (fun σ1 hM hF9 => ?_) d pl _ (by omega) (Nat.le_refl _) (hM.cg rfl (R4_id delG_0).symm) Fm.rf
    replace hF := hF.tr hF9
    refine z_aload_n (i := 0) C dX7_removeRule_56 rfl rfl ?_
    refine z_getf C f_RX7_108 dX7_removeRule_57 hM.1 rfl ?_
    exact z_iret C hr rfl dX7_removeRule_60 (Nat.le_of_ble_eq_true rfl) (Nat.le_of_ble_eq_true rfl) ⟨_, rfl, zRz.ok h0 rfl hM rfl (by rw [zp, ez]) hF⟩
  · refine z_iconst (v := 0) C dX7_removeRule_20 (by decide) ?_
    exact z_iret C hr rfl dX7_removeRule_21 (Nat.le_of_ble_eq_true rfl) (Nat.le_of_ble_eq_true rfl) ⟨_, rfl, zRz.no h0 hM hF⟩

def NM (fs : List zV) (f : Nat → Option zCell) (σ : zHp) : Prop := σ 12 0 = some (oC 10 fs) ∧ ∀ j, σ 13 j = f j
section MKM
variable {X : zX} {p : Program} {l : Launch} {e : Env} {s : State} {m : MethodId} {args : Array Value} {below : List Frame} {meth : Method} {c : Code} {nL : Nat} {σ0 σ : zHp} {loc0 : zK → Nat} {Q : State → Prop} {mc ms : Nat} {R : Room} {cells slots pc : Nat} {cc : ByteArray} {own : String} {L : List (Nat × zV)} {st : List zV}
theorem z_mkM (C : zC X p l s m args meth c cc nL own) {fs : List zV} {f : Nat → Option zCell} {n : Int32} {N idx j : Nat} (hnm : meth.name = "<init>") (hf : zFp own idx 10 j (.array .int) true) (hd : decode cc pc = .ok (.newarray .int, 2)) (hd2 : decode cc (pc + 2) = .ok (.putfield idx, 3)) (hN : NM fs f σ) (h0 : f j = none) (hj : j < fs.length) (hn : ¬ n < 0) (hNN : n.toNatClampNeg = N) (hby : N ≤ 100000) (hr : cells + 1 ≤ R.cells ∧ slots + N ≤ R.slots) (kk : ∀ σ', NM (fs.set j (aR 13 j)) (fun t => if t = j then some (iC N (fun _ => 0)) else f t) σ' → Fm σ σ' → zG X p l e R s m args below meth c nL σ0 loc0 Q (cells + 1) (slots + N) σ' (pc + 2 + 3) L st) : zG X p l e R s m args below meth c nL σ0 loc0 Q cells slots σ pc L (aI n :: aR 12 0 :: st) := by
  refine z_newI C 13 j hd (by decide) (by rw [hN.2 j]; exact h0) hn hNN hby hr ac__int ?_
  refine z_putF C hf hnm hd2 (by rw [zput_n (by omega)]; exact hN.1) (by decide) hj (fun _ => ⟨rfl, rfl⟩) ?_
  refine kk _ ⟨zput_s _ _ _ _, fun t => ?_⟩ (Fm.p13.tr Fm.p12)
  rw [zput_n (by omega)]
  by_cases e : t = j
  · subst e
    rw [zput_s]
    exact (if_pos rfl).symm
  · rw [zput_n (fun z => e z.2), hN.2 t]
    exact (if_neg e).symm
end MKM
theorem md_pos : ∀ j, 0 < mdLen j → j = 2 ∨ j = 3 ∨ j = 4 ∨ j = 5 ∨ j = 7 ∨ j = 8 ∨ j = 9 ∨ j = 10 ∨ j = 12 ∨ j = 13 ∨ j = 14 ∨ j = 16 ∨ j = 17 ∨ j = 18 ∨ j = 19 ∨ j = 20 ∨ j = 21 ∨ j = 22 ∨ j = 25 ∨ j = 26 ∨ j = 27 ∨ j = 28 ∨ j = 30 := by
  intro j hj
  have h : ∀ j, j < 32 → 0 < mdLen j → j ∈ [2, 3, 4, 5, 7, 8, 9, 10, 12, 13, 14, 16, 17, 18, 19, 20, 21, 22, 25, 26, 27, 28, 30] := by decide
  by_cases h32 : j < 32
  · simpa using h j h32 hj
  · exfalso
    have : mdLen j = 0 := by
      unfold mdLen
      rw [List.getD_eq_getElem?_getD, List.getElem?_eq_none (by show 32 ≤ j; omega)]
      rfl
    omega
set_option maxRecDepth 100000 in
set_option maxHeartbeats 4000000 in
theorem c_X7_init {X : zX} (l : Launch) {σ : zHp} (h12 : σ 12 0 = some (oC 10 [aI 0, aI 0, aN, aN, aN, aN, aI 0, aN, aN, aN, aN, aI 0, aN, aN, aN, aI 0, aN, aN, aN, aN, aN, aN, aN, aI 0, aI 0, aN, aN, aN, aN, aI 0, aN, aI 0])) (h13 : ∀ j, σ 13 j = none) : zM X l yX7_init cX7_init 1 none 2 23 1020 [aR 12 0] σ (zPv (fun σ1 => MD (fun _ => 0) (fun _ _ => 0) σ1 ∧ Fm σ σ1)) zNx := by
  have hN : NM [aI 0, aI 0, aN, aN, aN, aN, aI 0, aN, aN, aN, aN, aI 0, aN, aN, aN, aI 0, aN, aN, aN, aN, aN, aN, aN, aI 0, aI 0, aN, aN, aN, aN, aI 0, aN, aI 0] (fun _ => none) σ := ⟨h12, h13⟩
  refine zM.of (by decide +kernel) (Nat.le_of_ble_eq_true rfl) (by simp [zcat, Value.category]) ?_
  intro p e s m args below meth c loc0 C hr hnm hT
  have hF : Fm σ σ := Fm.rf
  refine z_aload_n (i := 0) C dX7_init_0 rfl rfl ?_
  refine z_objI C ml_RX7_1 im_objectInit co_objectInit ⟨Nat.le_of_ble_eq_true rfl, Nat.le_of_ble_eq_true rfl⟩ (fun _ => Nat.le_of_ble_eq_true rfl) dX7_init_1 ?_
  refine z_aload_n (i := 0) C dX7_init_4 rfl rfl ?_
  refine z_bipush (v := 16) C dX7_init_5 (by decide) ?_
  refine z_mkM C (j := 2) hnm fp_RX7_7 dX7_init_7 dX7_init_9 hN rfl (Nat.le_of_ble_eq_true rfl) (by decide) (N := 16) (by decide) (by decide) ⟨Nat.le_of_ble_eq_true rfl, Nat.le_of_ble_eq_true rfl⟩ (fun σ hN hF9 => ?_)
  replace hF := hF.tr hF9
  refine z_aload_n (i := 0) C dX7_init_12 rfl rfl ?_
  refine z_bipush (v := 16) C dX7_init_13 (by decide) ?_
  refine z_mkM C (j := 3) hnm fp_RX7_13 dX7_init_15 dX7_init_17 hN rfl (Nat.le_of_ble_eq_true rfl) (by decide) (N := 16) (by decide) (by decide) ⟨Nat.le_of_ble_eq_true rfl, Nat.le_of_ble_eq_true rfl⟩ (fun σ hN hF9 => ?_)
  replace hF := hF.tr hF9
  refine z_aload_n (i := 0) C dX7_init_20 rfl rfl ?_
  refine z_bipush (v := 16) C dX7_init_21 (by decide) ?_
  refine z_mkM C (j := 4) hnm fp_RX7_16 dX7_init_23 dX7_init_25 hN rfl (Nat.le_of_ble_eq_true rfl) (by decide) (N := 16) (by decide) (by decide) ⟨Nat.le_of_ble_eq_true rfl, Nat.le_of_ble_eq_true rfl⟩ (fun σ hN hF9 => ?_)
  replace hF := hF.tr hF9
  refine z_aload_n (i := 0) C dX7_init_28 rfl rfl ?_
  refine z_bipush (v := 16) C dX7_init_29 (by decide) ?_
  refine z_mkM C (j := 5) hnm fp_RX7_19 dX7_init_31 dX7_init_33 hN rfl (Nat.le_of_ble_eq_true rfl) (by decide) (N := 16) (by decide) (by decide) ⟨Nat.le_of_ble_eq_true rfl, Nat.le_of_ble_eq_true rfl⟩ (fun σ hN hF9 => ?_)
  replace hF := hF.tr hF9
  refine z_aload_n (i := 0) C dX7_init_36 rfl rfl ?_
  refine z_bipush (v := 9) C dX7_init_37 (by decide) ?_
  refine z_mkM C (j := 7) hnm fp_RX7_22 dX7_init_39 dX7_init_41 hN rfl (Nat.le_of_ble_eq_true rfl) (by decide) (N := 9) (by decide) (by decide) ⟨Nat.le_of_ble_eq_true rfl, Nat.le_of_ble_eq_true rfl⟩ (fun σ hN hF9 => ?_)
  replace hF := hF.tr hF9
  refine z_aload_n (i := 0) C dX7_init_44 rfl rfl ?_
  refine z_bipush (v := 9) C dX7_init_45 (by decide) ?_
  refine z_mkM C (j := 8) hnm fp_RX7_25 dX7_init_47 dX7_init_49 hN rfl (Nat.le_of_ble_eq_true rfl) (by decide) (N := 9) (by decide) (by decide) ⟨Nat.le_of_ble_eq_true rfl, Nat.le_of_ble_eq_true rfl⟩ (fun σ hN hF9 => ?_)
  replace hF := hF.tr hF9
  refine z_aload_n (i := 0) C dX7_init_52 rfl rfl ?_
  refine z_bipush (v := 9) C dX7_init_53 (by decide) ?_
  refine z_mkM C (j := 9) hnm fp_RX7_28 dX7_init_55 dX7_init_57 hN rfl (Nat.le_of_ble_eq_true rfl) (by decide) (N := 9) (by decide) (by decide) ⟨Nat.le_of_ble_eq_true rfl, Nat.le_of_ble_eq_true rfl⟩ (fun σ hN hF9 => ?_)
  replace hF := hF.tr hF9
  refine z_aload_n (i := 0) C dX7_init_60 rfl rfl ?_
  refine z_bipush (v := 9) C dX7_init_61 (by decide) ?_
  refine z_mkM C (j := 10) hnm fp_RX7_31 dX7_init_63 dX7_init_65 hN rfl (Nat.le_of_ble_eq_true rfl) (by decide) (N := 9) (by decide) (by decide) ⟨Nat.le_of_ble_eq_true rfl, Nat.le_of_ble_eq_true rfl⟩ (fun σ hN hF9 => ?_)
  replace hF := hF.tr hF9
  refine z_aload_n (i := 0) C dX7_init_68 rfl rfl ?_
  refine z_bipush (v := 8) C dX7_init_69 (by decide) ?_
  refine z_mkM C (j := 12) hnm fp_RX7_34 dX7_init_71 dX7_init_73 hN rfl (Nat.le_of_ble_eq_true rfl) (by decide) (N := 8) (by decide) (by decide) ⟨Nat.le_of_ble_eq_true rfl, Nat.le_of_ble_eq_true rfl⟩ (fun σ hN hF9 => ?_)
  replace hF := hF.tr hF9
  refine z_aload_n (i := 0) C dX7_init_76 rfl rfl ?_
  refine z_bipush (v := 8) C dX7_init_77 (by decide) ?_
  refine z_mkM C (j := 13) hnm fp_RX7_37 dX7_init_79 dX7_init_81 hN rfl (Nat.le_of_ble_eq_true rfl) (by decide) (N := 8) (by decide) (by decide) ⟨Nat.le_of_ble_eq_true rfl, Nat.le_of_ble_eq_true rfl⟩ (fun σ hN hF9 => ?_)
  replace hF := hF.tr hF9
  refine z_aload_n (i := 0) C dX7_init_84 rfl rfl ?_
  refine z_bipush (v := 8) C dX7_init_85 (by decide) ?_
  refine z_mkM C (j := 14) hnm fp_RX7_40 dX7_init_87 dX7_init_89 hN rfl (Nat.le_of_ble_eq_true rfl) (by decide) (N := 8) (by decide) (by decide) ⟨Nat.le_of_ble_eq_true rfl, Nat.le_of_ble_eq_true rfl⟩ (fun σ hN hF9 => ?_)
  replace hF := hF.tr hF9
  refine z_aload_n (i := 0) C dX7_init_92 rfl rfl ?_
  refine z_bipush (v := 30) C dX7_init_93 (by decide) ?_
  refine z_mkM C (j := 16) hnm fp_RX7_43 dX7_init_95 dX7_init_97 hN rfl (Nat.le_of_ble_eq_true rfl) (by decide) (N := 30) (by decide) (by decide) ⟨Nat.le_of_ble_eq_true rfl, Nat.le_of_ble_eq_true rfl⟩ (fun σ hN hF9 => ?_)
  replace hF := hF.tr hF9
  refine z_aload_n (i := 0) C dX7_init_100 rfl rfl ?_
  refine z_bipush (v := 30) C dX7_init_101 (by decide) ?_
  refine z_mkM C (j := 17) hnm fp_RX7_46 dX7_init_103 dX7_init_105 hN rfl (Nat.le_of_ble_eq_true rfl) (by decide) (N := 30) (by decide) (by decide) ⟨Nat.le_of_ble_eq_true rfl, Nat.le_of_ble_eq_true rfl⟩ (fun σ hN hF9 => ?_)
  replace hF := hF.tr hF9
  refine z_aload_n (i := 0) C dX7_init_108 rfl rfl ?_
  refine z_bipush (v := 30) C dX7_init_109 (by decide) ?_
  refine z_mkM C (j := 18) hnm fp_RX7_49 dX7_init_111 dX7_init_113 hN rfl (Nat.le_of_ble_eq_true rfl) (by decide) (N := 30) (by decide) (by decide) ⟨Nat.le_of_ble_eq_true rfl, Nat.le_of_ble_eq_true rfl⟩ (fun σ hN hF9 => ?_)
  replace hF := hF.tr hF9
  refine z_aload_n (i := 0) C dX7_init_116 rfl rfl ?_
  refine z_bipush (v := 30) C dX7_init_117 (by decide) ?_
  refine z_mkM C (j := 19) hnm fp_RX7_52 dX7_init_119 dX7_init_121 hN rfl (Nat.le_of_ble_eq_true rfl) (by decide) (N := 30) (by decide) (by decide) ⟨Nat.le_of_ble_eq_true rfl, Nat.le_of_ble_eq_true rfl⟩ (fun σ hN hF9 => ?_)
  replace hF := hF.tr hF9
  refine z_aload_n (i := 0) C dX7_init_124 rfl rfl ?_
  refine z_bipush (v := 30) C dX7_init_125 (by decide) ?_
  refine z_mkM C (j := 20) hnm fp_RX7_55 dX7_init_127 dX7_init_129 hN rfl (Nat.le_of_ble_eq_true rfl) (by decide) (N := 30) (by decide) (by decide) ⟨Nat.le_of_ble_eq_true rfl, Nat.le_of_ble_eq_true rfl⟩ (fun σ hN hF9 => ?_)
  replace hF := hF.tr hF9
  refine z_aload_n (i := 0) C dX7_init_132 rfl rfl ?_
  refine z_sipush (v := 240) C dX7_init_133 (by decide) ?_
  refine z_mkM C (j := 21) hnm fp_RX7_58 dX7_init_136 dX7_init_138 hN rfl (Nat.le_of_ble_eq_true rfl) (by decide) (N := 240) (by decide) (by decide) ⟨Nat.le_of_ble_eq_true rfl, Nat.le_of_ble_eq_true rfl⟩ (fun σ hN hF9 => ?_)
  replace hF := hF.tr hF9
  refine z_aload_n (i := 0) C dX7_init_141 rfl rfl ?_
  refine z_sipush (v := 180) C dX7_init_142 (by decide) ?_
  refine z_mkM C (j := 22) hnm fp_RX7_61 dX7_init_145 dX7_init_147 hN rfl (Nat.le_of_ble_eq_true rfl) (by decide) (N := 180) (by decide) (by decide) ⟨Nat.le_of_ble_eq_true rfl, Nat.le_of_ble_eq_true rfl⟩ (fun σ hN hF9 => ?_)
  replace hF := hF.tr hF9
  refine z_aload_n (i := 0) C dX7_init_150 rfl rfl ?_
  refine z_bipush (v := 40) C dX7_init_151 (by decide) ?_
  refine z_mkM C (j := 25) hnm fp_RX7_64 dX7_init_153 dX7_init_155 hN rfl (Nat.le_of_ble_eq_true rfl) (by decide) (N := 40) (by decide) (by decide) ⟨Nat.le_of_ble_eq_true rfl, Nat.le_of_ble_eq_true rfl⟩ (fun σ hN hF9 => ?_)
  replace hF := hF.tr hF9
  refine z_aload_n (i := 0) C dX7_init_158 rfl rfl ?_
  refine z_bipush (v := 40) C dX7_init_159 (by decide) ?_
  refine z_mkM C (j := 26) hnm fp_RX7_67 dX7_init_161 dX7_init_163 hN rfl (Nat.le_of_ble_eq_true rfl) (by decide) (N := 40) (by decide) (by decide) ⟨Nat.le_of_ble_eq_true rfl, Nat.le_of_ble_eq_true rfl⟩ (fun σ hN hF9 => ?_)
  replace hF := hF.tr hF9
  refine z_aload_n (i := 0) C dX7_init_166 rfl rfl ?_
  refine z_bipush (v := 40) C dX7_init_167 (by decide) ?_
  refine z_mkM C (j := 27) hnm fp_RX7_70 dX7_init_169 dX7_init_171 hN rfl (Nat.le_of_ble_eq_true rfl) (by decide) (N := 40) (by decide) (by decide) ⟨Nat.le_of_ble_eq_true rfl, Nat.le_of_ble_eq_true rfl⟩ (fun σ hN hF9 => ?_)
  replace hF := hF.tr hF9
  refine z_aload_n (i := 0) C dX7_init_174 rfl rfl ?_
  refine z_bipush (v := 40) C dX7_init_175 (by decide) ?_
  refine z_mkM C (j := 28) hnm fp_RX7_73 dX7_init_177 dX7_init_179 hN rfl (Nat.le_of_ble_eq_true rfl) (by decide) (N := 40) (by decide) (by decide) ⟨Nat.le_of_ble_eq_true rfl, Nat.le_of_ble_eq_true rfl⟩ (fun σ hN hF9 => ?_)
  replace hF := hF.tr hF9
  refine z_aload_n (i := 0) C dX7_init_182 rfl rfl ?_
  refine z_sipush (v := 160) C dX7_init_183 (by decide) ?_
  refine z_mkM C (j := 30) hnm fp_RX7_76 dX7_init_186 dX7_init_188 hN rfl (Nat.le_of_ble_eq_true rfl) (by decide) (N := 160) (by decide) (by decide) ⟨Nat.le_of_ble_eq_true rfl, Nat.le_of_ble_eq_true rfl⟩ (fun σ hN hF9 => ?_)
  replace hF := hF.tr hF9
  refine z_vret C hr dX7_init_191 (Nat.le_of_ble_eq_true rfl) (Nat.le_of_ble_eq_true rfl) ⟨rfl, ⟨hN.1, fun j hj => ?_⟩, hF⟩
  rw [hN.2 j]
  rcases md_pos j hj with rfl | rfl | rfl | rfl | rfl | rfl | rfl | rfl | rfl | rfl | rfl | rfl | rfl | rfl | rfl | rfl | rfl | rfl | rfl | rfl | rfl | rfl | rfl <;> rfl

