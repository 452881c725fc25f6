/-! the desk: the public methods that change nothing -/
def Fk (σ σ1 : zHp) : Prop := ∀ k i, (k = 12 ∨ k = 13 ∨ k = 14 ∨ 40 ≤ k) → σ1 k i = σ k i
theorem Fk.rf {σ : zHp} : Fk σ σ := fun _ _ _ => rfl
theorem Fk.tr {σ σ1 σ2 : zHp} (h : Fk σ σ1) (h' : Fk σ1 σ2) : Fk σ σ2 := fun k i a => (h' k i a).trans (h k i a)
theorem Fk.put {σ : zHp} {k i : Nat} {c : zCell} (h : k ≠ 12 ∧ k ≠ 13 ∧ k ≠ 14 ∧ k < 40) : Fk σ (zput σ k i c) := fun _ _ a => zput_n (fun z => by omega)
theorem Fk.lf {σ σ1 : zHp} {j : Nat} (hj : j < 6) (h : zLf σ σ1 j) : Fk σ σ1 := fun k i a => h k i (by omega) (by omega)
/-- what a method of the desk answers: k the exception, v the answer, x' a' what is left -/
def zDz (k v : Int32) (x' : Nat → Int32) (a' : Nat → Nat → Int32) (σ : zHp) : Int32 → zHp → Prop := fun r σ1 => k = 0 ∧ r = v ∧ DK x' a' σ1 ∧ Fk σ σ1
/-- what a method that only asks answers: the world is as before -/
def zDq (k v : Int32) (σ : zHp) : Int32 → zHp → Prop := fun r σ1 => k = 0 ∧ r = v ∧ σ1 = σ
def zXk (k : Int32) (a b c : String) (σ : zHp) : String → zHp → Prop := fun E σ1 => σ1 = σ ∧ ((k = 1 ∧ E = a) ∨ (k = 2 ∧ E = b) ∨ (k = 3 ∧ E = c))
theorem zXk.e1 {p q r : Bool} {a b c : String} {σ : zHp} (h : p = false) : zXk (goC p q r) a b c σ a σ := ⟨rfl, Or.inl ⟨by simp [goC, h], rfl⟩⟩
theorem zXk.e2 {p q r : Bool} {a b c : String} {σ : zHp} (hp : p = true) (h : q = false) : zXk (goC p q r) a b c σ b σ := ⟨rfl, Or.inr (Or.inl ⟨by simp [goC, h, hp], rfl⟩)⟩
theorem zXk.e3 {p q r : Bool} {a b c : String} {σ : zHp} (hp : p = true) (hq : q = true) (h : r = false) : zXk (goC p q r) a b c σ c σ := ⟨rfl, Or.inr (Or.inr ⟨by simp [goC, h, hp, hq], rfl⟩)⟩
theorem zDz.ok {p q r : Bool} {v w : Int32} {x' : Nat → Int32} {a' : Nat → Nat → Int32} {σ σ1 : zHp} (hp : p = true) (hq : q = true) (hr : r = true) (hv : w = v) (hD : DK x' a' σ1) (hF : Fk σ σ1) : zDz (goC p q r) v x' a' σ w σ1 := ⟨goC_0.mpr ⟨hp, hq, hr⟩, hv, hD, hF⟩
theorem zDq.ok {p q r : Bool} {v w : Int32} {σ σ1 : zHp} (hp : p = true) (hq : q = true) (hr : r = true) (hv : w = v) (hs : σ1 = σ) : zDq (goC p q r) v σ w σ1 := ⟨goC_0.mpr ⟨hp, hq, hr⟩, hv, hs⟩
set_option maxRecDepth 100000 in
set_option maxHeartbeats 4000000 in
theorem c_X6_regionOf {X : zX} (l : Launch) {x : Nat → Int32} {a : Nat → Nat → Int32} {σ : zHp} (hD : DK x a σ) (hI : zInv x a) {i : Int32} : zM X l yX6_regionOf cX6_regionOf 2 (some .int) 8 3 18 [aR 0 0, aI i] σ (zPi (zDq (k_regionOf x a i) (regS x a (zN i)) σ)) (zXk (k_regionOf x a i) eIO eIA eIS σ) := by
  obtain ⟨i0, i1, i6, i11, i15, i23, i24, i29, iA, iS, iC, iQ, iP⟩ := id hI
  have b1 := i1.2
  have b6 := i6.2
  have b11 := i11.2
  have b15 := i15.2
  have b23 := i23.2
  have b24 := i24.2
  have b29 := i29.2
  obtain ⟨hE, dF⟩ := id hD
  obtain ⟨d0, dA, dR, dS, dC, dQ⟩ := id hE
  have lA := dA.1
  have lS := dS.1
  have lC := dC.1
  have lQ := dQ.1
  have lF := dF.1
  refine zM.of (by decide +kernel) (Nat.le_of_ble_eq_true rfl) (by simp [zcat, Value.category]) ?_
  intro p e s m args below meth c9 loc0 C hr hnm hT
  refine z_aload_n (i := 0) C dX6_regionOf_0 rfl rfl ?_
  refine z_aload_n (i := 0) C dX6_regionOf_1 rfl rfl ?_
  refine z_iload_n (i := 1) C dX6_regionOf_2 rfl rfl ?_
  refine z_callV C Y_X6_accountAt V_X6_accountAt ml_RX6_47 (c_X6_accountAt l hE hI) dX6_regionOf_3 rfl rfl d0 ⟨_, _, rfl⟩ (fun _ => Nat.le_of_ble_eq_true rfl) ⟨Nat.le_of_ble_eq_true rfl, Nat.le_of_ble_eq_true rfl⟩ ⟨Nat.le_of_ble_eq_true rfl, Nat.le_of_ble_eq_true rfl⟩ (z_rr (fun r9 σ1 hx => ?_)) (fun E9 σ9 hx => by obtain ⟨rfl, hx, rfl⟩ := hx; exact z_out hT C.2.2.2.2.2.2.2.1 (Nat.le_of_ble_eq_true rfl) (Nat.le_of_ble_eq_true rfl) (zXk.e1 (by simp only [hx, eq_self, decide_true, decide_false, Bool.and_true, Bool.true_and, Bool.and_false, Bool.false_and, Bool.or_true, Bool.true_or, Bool.or_false, Bool.false_or, Bool.not_true, Bool.not_false, not_true, not_false_eq_true, if_true, if_false])))
  obtain ⟨t3, rfl, rfl⟩ := hx
  obtain ⟨i, hi, rfl⟩ := inB_ix i1 (by decide) t3
  have zi : zN (nI i) = i := zN_nI (by omega)
  rw [zi]
  refine z_callV C Y_X6_regionNow V_X6_regionNow ml_RX6_90 (c_X6_regionNow l hE hI hi) dX6_regionOf_6 rfl rfl d0 ⟨_, _, rfl⟩ (fun _ => Nat.le_of_ble_eq_true rfl) ⟨Nat.le_of_ble_eq_true rfl, Nat.le_of_ble_eq_true rfl⟩ ⟨Nat.le_of_ble_eq_true rfl, Nat.le_of_ble_eq_true rfl⟩ (z_ri (fun x σ1 hx => ?_)) (z_nx)
  obtain ⟨rfl, rfl⟩ := hx
  exact z_iret C hr rfl dX6_regionOf_9 (Nat.le_of_ble_eq_true rfl) (Nat.le_of_ble_eq_true rfl) ⟨_, rfl, zDq.ok (by simp only [t3, zi, eq_self, decide_true, decide_false, Bool.and_true, Bool.true_and, Bool.and_false, Bool.false_and, Bool.or_true, Bool.true_or, Bool.or_false, Bool.false_or, Bool.not_true, Bool.not_false, not_true, not_false_eq_true, if_true, if_false]) (by simp only [t3, zi, eq_self, decide_true, decide_false, Bool.and_true, Bool.true_and, Bool.and_false, Bool.false_and, Bool.or_true, Bool.true_or, Bool.or_false, Bool.false_or, Bool.not_true, Bool.not_false, not_true, not_false_eq_true, if_true, if_false]) (by simp only [t3, zi, eq_self, decide_true, decide_false, Bool.and_true, Bool.true_and, Bool.and_false, Bool.false_and, Bool.or_true, Bool.true_or, Bool.or_false, Bool.false_or, Bool.not_true, Bool.not_false, not_true, not_false_eq_true, if_true, if_false]) (rfl) rfl⟩

set_option maxRecDepth 100000 in
set_option maxHeartbeats 4000000 in
theorem c_X6_worth {X : zX} (l : Launch) {x : Nat → Int32} {a : Nat → Nat → Int32} {σ : zHp} (hD : DK x a σ) (hI : zInv x a) {i : Int32} : zM X l yX6_worth cX6_worth 2 (some .int) 8 3 18 [aR 0 0, aI i] σ (zPi (zDq (k_worth x a i) (wrt x a (zN i)) σ)) (zXk (k_worth x a i) eIO eIA eIS σ) := by
  obtain ⟨i0, i1, i6, i11, i15, i23, i24, i29, iA, iS, iC, iQ, iP⟩ := id hI
  have b1 := i1.2
  have b6 := i6.2
  have b11 := i11.2
  have b15 := i15.2
  have b23 := i23.2
  have b24 := i24.2
  have b29 := i29.2
  obtain ⟨hE, dF⟩ := id hD
  obtain ⟨d0, dA, dR, dS, dC, dQ⟩ := id hE
  have lA := dA.1
  have lS := dS.1
  have lC := dC.1
  have lQ := dQ.1
  have lF := dF.1
  refine zM.of (by decide +kernel) (Nat.le_of_ble_eq_true rfl) (by simp [zcat, Value.category]) ?_
  intro p e s m args below meth c9 loc0 C hr hnm hT
  refine z_aload_n (i := 0) C dX6_worth_0 rfl rfl ?_
  refine z_iload_n (i := 1) C dX6_worth_1 rfl rfl ?_
  refine z_callV C Y_X6_chanceAt V_X6_chanceAt ml_RX6_122 (c_X6_chanceAt l hE hI) dX6_worth_2 rfl rfl d0 ⟨_, _, rfl⟩ (fun _ => Nat.le_of_ble_eq_true rfl) ⟨Nat.le_of_ble_eq_true rfl, Nat.le_of_ble_eq_true rfl⟩ ⟨Nat.le_of_ble_eq_true rfl, Nat.le_of_ble_eq_true rfl⟩ (z_rr (fun r9 σ1 hx => ?_)) (fun E9 σ9 hx => by obtain ⟨rfl, hx, rfl⟩ := hx; exact z_out hT C.2.2.2.2.2.2.2.1 (Nat.le_of_ble_eq_true rfl) (Nat.le_of_ble_eq_true rfl) (zXk.e1 (by simp only [hx, eq_self, decide_true, decide_false, Bool.and_true, Bool.true_and, Bool.and_false, Bool.false_and, Bool.or_true, Bool.true_or, Bool.or_false, Bool.false_or, Bool.not_true, Bool.not_false, not_true, not_false_eq_true, if_true, if_false])))
  obtain ⟨t2, rfl, rfl⟩ := hx
  obtain ⟨i, hi, rfl⟩ := inB_ix i15 (by decide) t2
  have zi : zN (nI i) = i := zN_nI (by omega)
  rw [zi]
  refine z_callS C Y_X6_worthNow sm_yX6_worthNow ml_RX6_174 (c_X6_worthNow l hE hI hi) dX6_worth_5 rfl rfl (fun _ => Nat.le_of_ble_eq_true rfl) ⟨Nat.le_of_ble_eq_true rfl, Nat.le_of_ble_eq_true rfl⟩ ⟨Nat.le_of_ble_eq_true rfl, Nat.le_of_ble_eq_true rfl⟩ (z_ri (fun x σ1 hx => ?_)) (z_nx)
  obtain ⟨rfl, rfl⟩ := hx
  exact z_iret C hr rfl dX6_worth_8 (Nat.le_of_ble_eq_true rfl) (Nat.le_of_ble_eq_true rfl) ⟨_, rfl, zDq.ok (by simp only [t2, zi, eq_self, decide_true, decide_false, Bool.and_true, Bool.true_and, Bool.and_false, Bool.false_and, Bool.or_true, Bool.true_or, Bool.or_false, Bool.false_or, Bool.not_true, Bool.not_false, not_true, not_false_eq_true, if_true, if_false]) (by simp only [t2, zi, eq_self, decide_true, decide_false, Bool.and_true, Bool.true_and, Bool.and_false, Bool.false_and, Bool.or_true, Bool.true_or, Bool.or_false, Bool.false_or, Bool.not_true, Bool.not_false, not_true, not_false_eq_true, if_true, if_false]) (by simp only [t2, zi, eq_self, decide_true, decide_false, Bool.and_true, Bool.true_and, Bool.and_false, Bool.false_and, Bool.or_true, Bool.true_or, Bool.or_false, Bool.false_or, Bool.not_true, Bool.not_false, not_true, not_false_eq_true, if_true, if_false]) (rfl) rfl⟩

set_option maxRecDepth 100000 in
set_option maxHeartbeats 4000000 in
theorem c_X6_stage {X : zX} (l : Launch) {x : Nat → Int32} {a : Nat → Nat → Int32} {σ : zHp} (hD : DK x a σ) (hI : zInv x a) {i : Int32} : zM X l yX6_stage cX6_stage 2 (some .int) 8 3 18 [aR 0 0, aI i] σ (zPi (zDq (k_stage x a i) (a 18 (zN i)) σ)) (zXk (k_stage x a i) eIO eIA eIS σ) := by
  obtain ⟨i0, i1, i6, i11, i15, i23, i24, i29, iA, iS, iC, iQ, iP⟩ := id hI
  have b1 := i1.2
  have b6 := i6.2
  have b11 := i11.2
  have b15 := i15.2
  have b23 := i23.2
  have b24 := i24.2
  have b29 := i29.2
  obtain ⟨hE, dF⟩ := id hD
  obtain ⟨d0, dA, dR, dS, dC, dQ⟩ := id hE
  have lA := dA.1
  have lS := dS.1
  have lC := dC.1
  have lQ := dQ.1
  have lF := dF.1
  refine zM.of (by decide +kernel) (Nat.le_of_ble_eq_true rfl) (by simp [zcat, Value.category]) ?_
  intro p e s m args below meth c9 loc0 C hr hnm hT
  refine z_aload_n (i := 0) C dX6_stage_0 rfl rfl ?_
  refine z_iload_n (i := 1) C dX6_stage_1 rfl rfl ?_
  refine z_callV C Y_X6_chanceAt V_X6_chanceAt ml_RX6_122 (c_X6_chanceAt l hE hI) dX6_stage_2 rfl rfl d0 ⟨_, _, rfl⟩ (fun _ => Nat.le_of_ble_eq_true rfl) ⟨Nat.le_of_ble_eq_true rfl, Nat.le_of_ble_eq_true rfl⟩ ⟨Nat.le_of_ble_eq_true rfl, Nat.le_of_ble_eq_true rfl⟩ (z_rr (fun r9 σ1 hx => ?_)) (fun E9 σ9 hx => by obtain ⟨rfl, hx, rfl⟩ := hx; exact z_out hT C.2.2.2.2.2.2.2.1 (Nat.le_of_ble_eq_true rfl) (Nat.le_of_ble_eq_true rfl) (zXk.e1 (by simp only [hx, eq_self, decide_true, decide_false, Bool.and_true, Bool.true_and, Bool.and_false, Bool.false_and, Bool.or_true, Bool.true_or, Bool.or_false, Bool.false_or, Bool.not_true, Bool.not_false, not_true, not_false_eq_true, if_true, if_false])))
  obtain ⟨t2, rfl, rfl⟩ := hx
  obtain ⟨i, hi, rfl⟩ := inB_ix i15 (by decide) t2
  have zi : zN (nI i) = i := zN_nI (by omega)
  rw [zi]
  refine z_getf C f_RX6_157 dX6_stage_5 (dC.2.1 _ (by first | assumption | omega)) rfl ?_
  exact z_iret C hr rfl dX6_stage_8 (Nat.le_of_ble_eq_true rfl) (Nat.le_of_ble_eq_true rfl) ⟨_, rfl, zDq.ok (by simp only [t2, zi, eq_self, decide_true, decide_false, Bool.and_true, Bool.true_and, Bool.and_false, Bool.false_and, Bool.or_true, Bool.true_or, Bool.or_false, Bool.false_or, Bool.not_true, Bool.not_false, not_true, not_false_eq_true, if_true, if_false]) (by simp only [t2, zi, eq_self, decide_true, decide_false, Bool.and_true, Bool.true_and, Bool.and_false, Bool.false_and, Bool.or_true, Bool.true_or, Bool.or_false, Bool.false_or, Bool.not_true, Bool.not_false, not_true, not_false_eq_true, if_true, if_false]) (by simp only [t2, zi, eq_self, decide_true, decide_false, Bool.and_true, Bool.true_and, Bool.and_false, Bool.false_and, Bool.or_true, Bool.true_or, Bool.or_false, Bool.false_or, Bool.not_true, Bool.not_false, not_true, not_false_eq_true, if_true, if_false]) (rfl) rfl⟩

set_option maxRecDepth 100000 in
set_option maxHeartbeats 4000000 in
theorem c_X6_forecast {X : zX} (l : Launch) {x : Nat → Int32} {a : Nat → Nat → Int32} {σ : zHp} (hD : DK x a σ) (hI : zInv x a) {i : Int32} : zM X l yX6_forecast cX6_forecast 2 (some .int) 8 3 18 [aR 0 0, aI i] σ (zPi (zDq (k_forecast x a i) (forS x a (zN i)) σ)) (zXk (k_forecast x a i) eIO eIA eIS σ) := by
  obtain ⟨i0, i1, i6, i11, i15, i23, i24, i29, iA, iS, iC, iQ, iP⟩ := id hI
  have b1 := i1.2
  have b6 := i6.2
  have b11 := i11.2
  have b15 := i15.2
  have b23 := i23.2
  have b24 := i24.2
  have b29 := i29.2
  obtain ⟨hE, dF⟩ := id hD
  obtain ⟨d0, dA, dR, dS, dC, dQ⟩ := id hE
  have lA := dA.1
  have lS := dS.1
  have lC := dC.1
  have lQ := dQ.1
  have lF := dF.1
  refine zM.of (by decide +kernel) (Nat.le_of_ble_eq_true rfl) (by simp [zcat, Value.category]) ?_
  intro p e s m args below meth c9 loc0 C hr hnm hT
  refine z_aload_n (i := 0) C dX6_forecast_0 rfl rfl ?_
  refine z_aload_n (i := 0) C dX6_forecast_1 rfl rfl ?_
  refine z_iload_n (i := 1) C dX6_forecast_2 rfl rfl ?_
  refine z_callV C Y_X6_sellerAt V_X6_sellerAt ml_RX6_94 (c_X6_sellerAt l hE hI) dX6_forecast_3 rfl rfl d0 ⟨_, _, rfl⟩ (fun _ => Nat.le_of_ble_eq_true rfl) ⟨Nat.le_of_ble_eq_true rfl, Nat.le_of_ble_eq_true rfl⟩ ⟨Nat.le_of_ble_eq_true rfl, Nat.le_of_ble_eq_true rfl⟩ (z_rr (fun r9 σ1 hx => ?_)) (fun E9 σ9 hx => by obtain ⟨rfl, hx, rfl⟩ := hx; exact z_out hT C.2.2.2.2.2.2.2.1 (Nat.le_of_ble_eq_true rfl) (Nat.le_of_ble_eq_true rfl) (zXk.e1 (by simp only [hx, eq_self, decide_true, decide_false, Bool.and_true, Bool.true_and, Bool.and_false, Bool.false_and, Bool.or_true, Bool.true_or, Bool.or_false, Bool.false_or, Bool.not_true, Bool.not_false, not_true, not_false_eq_true, if_true, if_false])))
  obtain ⟨t3, rfl, rfl⟩ := hx
  obtain ⟨i, hi, rfl⟩ := inB_ix i11 (by decide) t3
  have zi : zN (nI i) = i := zN_nI (by omega)
  rw [zi]
  refine z_callV C Y_X6_forecastNow V_X6_forecastNow ml_RX6_225 (c_X6_forecastNow l hE hI hi) dX6_forecast_6 rfl rfl d0 ⟨_, _, rfl⟩ (fun _ => Nat.le_of_ble_eq_true rfl) ⟨Nat.le_of_ble_eq_true rfl, Nat.le_of_ble_eq_true rfl⟩ ⟨Nat.le_of_ble_eq_true rfl, Nat.le_of_ble_eq_true rfl⟩ (z_ri (fun x σ1 hx => ?_)) (z_nx)
  obtain ⟨rfl, rfl⟩ := hx
  exact z_iret C hr rfl dX6_forecast_9 (Nat.le_of_ble_eq_true rfl) (Nat.le_of_ble_eq_true rfl) ⟨_, rfl, zDq.ok (by simp only [t3, zi, eq_self, decide_true, decide_false, Bool.and_true, Bool.true_and, Bool.and_false, Bool.false_and, Bool.or_true, Bool.true_or, Bool.or_false, Bool.false_or, Bool.not_true, Bool.not_false, not_true, not_false_eq_true, if_true, if_false]) (by simp only [t3, zi, eq_self, decide_true, decide_false, Bool.and_true, Bool.true_and, Bool.and_false, Bool.false_and, Bool.or_true, Bool.true_or, Bool.or_false, Bool.false_or, Bool.not_true, Bool.not_false, not_true, not_false_eq_true, if_true, if_false]) (by simp only [t3, zi, eq_self, decide_true, decide_false, Bool.and_true, Bool.true_and, Bool.and_false, Bool.false_and, Bool.or_true, Bool.true_or, Bool.or_false, Bool.false_or, Bool.not_true, Bool.not_false, not_true, not_false_eq_true, if_true, if_false]) (rfl) rfl⟩

set_option maxRecDepth 100000 in
set_option maxHeartbeats 4000000 in
theorem c_X6_own {X : zX} (l : Launch) {x : Nat → Int32} {a : Nat → Nat → Int32} {σ : zHp} (hD : DK x a σ) (hI : zInv x a) {i : Int32} : zM X l yX6_own cX6_own 2 (some .int) 8 3 18 [aR 0 0, aI i] σ (zPi (zDq (k_own x a i) (ownS x a (zN i)) σ)) (zXk (k_own x a i) eIO eIA eIS σ) := by
  obtain ⟨i0, i1, i6, i11, i15, i23, i24, i29, iA, iS, iC, iQ, iP⟩ := id hI
  have b1 := i1.2
  have b6 := i6.2
  have b11 := i11.2
  have b15 := i15.2
  have b23 := i23.2
  have b24 := i24.2
  have b29 := i29.2
  obtain ⟨hE, dF⟩ := id hD
  obtain ⟨d0, dA, dR, dS, dC, dQ⟩ := id hE
  have lA := dA.1
  have lS := dS.1
  have lC := dC.1
  have lQ := dQ.1
  have lF := dF.1
  refine zM.of (by decide +kernel) (Nat.le_of_ble_eq_true rfl) (by simp [zcat, Value.category]) ?_
  intro p e s m args below meth c9 loc0 C hr hnm hT
  refine z_aload_n (i := 0) C dX6_own_0 rfl rfl ?_
  refine z_aload_n (i := 0) C dX6_own_1 rfl rfl ?_
  refine z_iload_n (i := 1) C dX6_own_2 rfl rfl ?_
  refine z_callV C Y_X6_sellerAt V_X6_sellerAt ml_RX6_94 (c_X6_sellerAt l hE hI) dX6_own_3 rfl rfl d0 ⟨_, _, rfl⟩ (fun _ => Nat.le_of_ble_eq_true rfl) ⟨Nat.le_of_ble_eq_true rfl, Nat.le_of_ble_eq_true rfl⟩ ⟨Nat.le_of_ble_eq_true rfl, Nat.le_of_ble_eq_true rfl⟩ (z_rr (fun r9 σ1 hx => ?_)) (fun E9 σ9 hx => by obtain ⟨rfl, hx, rfl⟩ := hx; exact z_out hT C.2.2.2.2.2.2.2.1 (Nat.le_of_ble_eq_true rfl) (Nat.le_of_ble_eq_true rfl) (zXk.e1 (by simp only [hx, eq_self, decide_true, decide_false, Bool.and_true, Bool.true_and, Bool.and_false, Bool.false_and, Bool.or_true, Bool.true_or, Bool.or_false, Bool.false_or, Bool.not_true, Bool.not_false, not_true, not_false_eq_true, if_true, if_false])))
  obtain ⟨t3, rfl, rfl⟩ := hx
  obtain ⟨i, hi, rfl⟩ := inB_ix i11 (by decide) t3
  have zi : zN (nI i) = i := zN_nI (by omega)
  rw [zi]
  refine z_callV C Y_X6_ownNow V_X6_ownNow ml_RX6_229 (c_X6_ownNow l hE hI hi) dX6_own_6 rfl rfl d0 ⟨_, _, rfl⟩ (fun _ => Nat.le_of_ble_eq_true rfl) ⟨Nat.le_of_ble_eq_true rfl, Nat.le_of_ble_eq_true rfl⟩ ⟨Nat.le_of_ble_eq_true rfl, Nat.le_of_ble_eq_true rfl⟩ (z_ri (fun x σ1 hx => ?_)) (z_nx)
  obtain ⟨rfl, rfl⟩ := hx
  exact z_iret C hr rfl dX6_own_9 (Nat.le_of_ble_eq_true rfl) (Nat.le_of_ble_eq_true rfl) ⟨_, rfl, zDq.ok (by simp only [t3, zi, eq_self, decide_true, decide_false, Bool.and_true, Bool.true_and, Bool.and_false, Bool.false_and, Bool.or_true, Bool.true_or, Bool.or_false, Bool.false_or, Bool.not_true, Bool.not_false, not_true, not_false_eq_true, if_true, if_false]) (by simp only [t3, zi, eq_self, decide_true, decide_false, Bool.and_true, Bool.true_and, Bool.and_false, Bool.false_and, Bool.or_true, Bool.true_or, Bool.or_false, Bool.false_or, Bool.not_true, Bool.not_false, not_true, not_false_eq_true, if_true, if_false]) (by simp only [t3, zi, eq_self, decide_true, decide_false, Bool.and_true, Bool.true_and, Bool.and_false, Bool.false_and, Bool.or_true, Bool.true_or, Bool.or_false, Bool.false_or, Bool.not_true, Bool.not_false, not_true, not_false_eq_true, if_true, if_false]) (rfl) rfl⟩

theorem sub_as (d t c : Int32) : d + t - c = d + (t - c) := by
  rw [Int32.sub_eq_add_neg, Int32.sub_eq_add_neg, Int32.add_assoc]
set_option maxRecDepth 100000 in
set_option maxHeartbeats 4000000 in
theorem c_X6_daysIn {X : zX} (l : Launch) {x : Nat → Int32} {a : Nat → Nat → Int32} {σ : zHp} (hD : DK x a σ) (hI : zInv x a) {i w : Int32} : zM X l yX6_daysIn cX6_daysIn 5 (some .int) 8 3 18 [aR 0 0, aI i, aI w] σ (zPi (zDq (k_daysIn x a i w) (a 22 (6 * zN i + zN w) + (if a 18 (zN i) = w then x 0 - a 19 (zN i) else 0)) σ)) (zXk (k_daysIn x a i w) eIO eIA eIS σ) := by
  obtain ⟨i0, i1, i6, i11, i15, i23, i24, i29, iA, iS, iC, iQ, iP⟩ := id hI
  have b1 := i1.2
  have b6 := i6.2
  have b11 := i11.2
  have b15 := i15.2
  have b23 := i23.2
  have b24 := i24.2
  have b29 := i29.2
  obtain ⟨hE, dF⟩ := id hD
  obtain ⟨d0, dA, dR, dS, dC, dQ⟩ := id hE
  have lA := dA.1
  have lS := dS.1
  have lC := dC.1
  have lQ := dQ.1
  have lF := dF.1
  refine zM.of (by decide +kernel) (Nat.le_of_ble_eq_true rfl) (by simp [zcat, Value.category]) ?_
  intro p e s m args below meth c9 loc0 C hr hnm hT
  refine z_aload_n (i := 0) C dX6_daysIn_0 rfl rfl ?_
  refine z_iload_n (i := 1) C dX6_daysIn_1 rfl rfl ?_
  refine z_callV C Y_X6_chanceAt V_X6_chanceAt ml_RX6_122 (c_X6_chanceAt l hE hI) dX6_daysIn_2 rfl rfl d0 ⟨_, _, rfl⟩ (fun _ => Nat.le_of_ble_eq_true rfl) ⟨Nat.le_of_ble_eq_true rfl, Nat.le_of_ble_eq_true rfl⟩ ⟨Nat.le_of_ble_eq_true rfl, Nat.le_of_ble_eq_true rfl⟩ (z_rr (fun r9 σ1 hx => ?_)) (fun E9 σ9 hx => by obtain ⟨rfl, hx, rfl⟩ := hx; exact z_out hT C.2.2.2.2.2.2.2.1 (Nat.le_of_ble_eq_true rfl) (Nat.le_of_ble_eq_true rfl) (zXk.e1 (by simp only [hx, eq_self, decide_true, decide_false, Bool.and_true, Bool.true_and, Bool.and_false, Bool.false_and, Bool.or_true, Bool.true_or, Bool.or_false, Bool.false_or, Bool.not_true, Bool.not_false, not_true, not_false_eq_true, if_true, if_false])))
  obtain ⟨t2, rfl, rfl⟩ := hx
  obtain ⟨i, hi, rfl⟩ := inB_ix i15 (by decide) t2
  have zi : zN (nI i) = i := zN_nI (by omega)
  rw [zi]
  refine z_astore_n (i := 3) C dX6_daysIn_5 rfl (by decide) ?_
  refine z_iload_n (i := 2) C dX6_daysIn_6 rfl rfl ?_
  refine z_callS C Y_X6_requireStage sm_yX6_requireStage ml_RX6_141 (c_X6_requireStage l) dX6_daysIn_7 rfl rfl (fun _ => Nat.le_of_ble_eq_true rfl) ⟨Nat.le_of_ble_eq_true rfl, Nat.le_of_ble_eq_true rfl⟩ ⟨Nat.le_of_ble_eq_true rfl, Nat.le_of_ble_eq_true rfl⟩ (z_rv (fun σ1 hx => ?_)) (fun E9 σ9 hx => by obtain ⟨rfl, hx, rfl⟩ := hx; exact z_out hT C.2.2.2.2.2.2.2.1 (Nat.le_of_ble_eq_true rfl) (Nat.le_of_ble_eq_true rfl) (zXk.e2 (by simp only [t2, zi, eq_self, decide_true, decide_false, Bool.and_true, Bool.true_and, Bool.and_false, Bool.false_and, Bool.or_true, Bool.true_or, Bool.or_false, Bool.false_or, Bool.not_true, Bool.not_false, not_true, not_false_eq_true, if_true, if_false]) (by simp only [t2, zi, hx, eq_self, decide_true, decide_false, Bool.and_true, Bool.true_and, Bool.and_false, Bool.false_and, Bool.or_true, Bool.true_or, Bool.or_false, Bool.false_or, Bool.not_true, Bool.not_false, not_true, not_false_eq_true, if_true, if_false])))
  obtain ⟨t7, rfl⟩ := hx
  refine z_aload_n (i := 3) C dX6_daysIn_10 rfl rfl ?_
  refine z_getf C f_RX6_154 dX6_daysIn_11 (dC.2.1 _ (by first | assumption | omega)) rfl ?_
  refine z_iload_n (i := 2) C dX6_daysIn_14 rfl rfl ?_
  obtain ⟨fd, hfd, efd⟩ := dC.2.2.2.1 i hi
  obtain ⟨t, ht, rfl⟩ := inB_to (n := 5) (by decide) t7
  have zt : zN (nI t) = t := zN_nI (by omega)
  rw [zt]
  refine z_callS C Y_X6_at sm_yX6_at ml_RX6_135 (c_X6_at l hfd (j := t) (by omega) (by omega)) dX6_daysIn_15 rfl rfl (fun _ => Nat.le_of_ble_eq_true rfl) ⟨Nat.le_of_ble_eq_true rfl, Nat.le_of_ble_eq_true rfl⟩ ⟨Nat.le_of_ble_eq_true rfl, Nat.le_of_ble_eq_true rfl⟩ (z_ri (fun x σ1 hx => ?_)) (z_nx)
  obtain ⟨rfl, rfl⟩ := hx
  rw [efd t (by omega)]
  refine z_istore C dX6_daysIn_18 (by decide) ?_
  refine z_aload_n (i := 3) C dX6_daysIn_20 rfl rfl ?_
  refine z_getf C f_RX6_157 dX6_daysIn_21 (dC.2.1 _ (by first | assumption | omega)) rfl ?_
  refine z_iload_n (i := 2) C dX6_daysIn_24 rfl rfl ?_
  refine z_icmp_ne (tgt := 43) C dX6_daysIn_25 (by decide) (fun h25 => ?_) (fun h25 => ?_)
  · refine z_iload C dX6_daysIn_43 rfl ?_
    exact z_iret C hr rfl dX6_daysIn_45 (Nat.le_of_ble_eq_true rfl) (Nat.le_of_ble_eq_true rfl) ⟨_, rfl, zDq.ok (by simp only [t2, zi, t7, eq_self, decide_true, decide_false, Bool.and_true, Bool.true_and, Bool.and_false, Bool.false_and, Bool.or_true, Bool.true_or, Bool.or_false, Bool.false_or, Bool.not_true, Bool.not_false, not_true, not_false_eq_true, if_true, if_false]) (by simp only [t2, zi, t7, eq_self, decide_true, decide_false, Bool.and_true, Bool.true_and, Bool.and_false, Bool.false_and, Bool.or_true, Bool.true_or, Bool.or_false, Bool.false_or, Bool.not_true, Bool.not_false, not_true, not_false_eq_true, if_true, if_false]) (by simp only [t2, zi, t7, eq_self, decide_true, decide_false, Bool.and_true, Bool.true_and, Bool.and_false, Bool.false_and, Bool.or_true, Bool.true_or, Bool.or_false, Bool.false_or, Bool.not_true, Bool.not_false, not_true, not_false_eq_true, if_true, if_false]) (by rw [if_neg h25, Int32.add_zero]) rfl⟩
  · refine z_iload C dX6_daysIn_28 rfl ?_
    refine z_aload_n (i := 0) C dX6_daysIn_30 rfl rfl ?_
    refine z_getf C f_RX6_31 dX6_daysIn_31 d0 rfl ?_
    refine z_iadd C dX6_daysIn_34 ?_
    refine z_aload_n (i := 3) C dX6_daysIn_35 rfl rfl ?_
    refine z_getf C f_RX6_151 dX6_daysIn_36 (dC.2.1 _ (by first | assumption | omega)) rfl ?_
    refine z_isub C dX6_daysIn_39 ?_
    refine z_goto (tgt := 45) C dX6_daysIn_40 (by decide) ?_
    exact z_iret C hr rfl dX6_daysIn_45 (Nat.le_of_ble_eq_true rfl) (Nat.le_of_ble_eq_true rfl) ⟨_, rfl, zDq.ok (by simp only [t2, zi, t7, eq_self, decide_true, decide_false, Bool.and_true, Bool.true_and, Bool.and_false, Bool.false_and, Bool.or_true, Bool.true_or, Bool.or_false, Bool.false_or, Bool.not_true, Bool.not_false, not_true, not_false_eq_true, if_true, if_false]) (by simp only [t2, zi, t7, eq_self, decide_true, decide_false, Bool.and_true, Bool.true_and, Bool.and_false, Bool.false_and, Bool.or_true, Bool.true_or, Bool.or_false, Bool.false_or, Bool.not_true, Bool.not_false, not_true, not_false_eq_true, if_true, if_false]) (by simp only [t2, zi, t7, eq_self, decide_true, decide_false, Bool.and_true, Bool.true_and, Bool.and_false, Bool.false_and, Bool.or_true, Bool.true_or, Bool.or_false, Bool.false_or, Bool.not_true, Bool.not_false, not_true, not_false_eq_true, if_true, if_false]) (by rw [if_pos h25]; exact sub_as _ _ _) rfl⟩

