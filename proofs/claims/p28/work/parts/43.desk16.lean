/-! a new desk -/
section ZML
variable {X : zX} {p : Program} {l : Launch} {e : Env} {s : State} {m : MethodId} {args : Array Value} {below : List Frame} {meth : Method} {c : Code} {nL : Nat} {σ0 σ : zHp} {loc0 : zK → Nat} {Q : State → Prop} {mc ms : Nat} {R : Room} {cells slots pc : Nat} {cc : ByteArray} {L : List (Nat × zV)} {st : List zV}
/-- new ArrayList; dup; its constructor; into a field of the desk -/
theorem z_mkL (C : zC X p l s m args meth c cc nL RX6) {fs : List zV} {idx j : Nat} (hnm : meth.name = "<init>") (hf : zFp RX6 idx 9 j (.object "java/util/ArrayList") true) (hd : decode cc pc = .ok (.new 7, 3)) (hd1 : decode cc (pc + 3) = .ok (.dup, 1)) (hd2 : decode cc (pc + 4) = .ok (.invokespecial 9, 3)) (hd3 : decode cc (pc + 7) = .ok (.putfield idx, 3))
    (h0 : σ 0 0 = some (oC 9 fs)) (hj : j < fs.length) (hn : σ 1 j = none) (hr : cells + 1 ≤ R.cells ∧ slots + 3 ≤ R.slots) (hR : 4 ≤ R.frames ∧ 140 ≤ R.locals) (hcat : ∀ loc : zK → Nat, (((aR 1 j :: aR 0 0 :: st).map (zcv loc)).map fun v => v.category).sum ≤ 8)
    (kk : ∀ σ', σ' 0 0 = some (oC 9 (fs.set j (aR 1 j))) → σ' 1 j = some (oC 2 [aI 0, aR 90 0, aI 0]) → (∀ k i, ¬ (k = 0 ∧ i = 0) → ¬ (k = 1 ∧ i = j) → σ' k i = σ k i) → zG X p l e R s m args below meth c nL σ0 loc0 Q (cells + 1) (slots + 3) σ' (pc + 10) L st) : zG X p l e R s m args below meth c nL σ0 loc0 Q cells slots σ pc L (aR 0 0 :: st) := by
  refine z_new C 1 j n_RX6_7 hd (by decide) hn ⟨hr.1, hr.2⟩ ?_
  refine z_dup C (by first | trivial | rfl) hd1 ?_
  refine z_callI C Y_Jx4a65c_init_da8c8 im_yJx4a65c_init_da8c8 rfl ml_RX6_9 (c_Jx4a65c_init_da8c8 l (zput_s _ _ _ _)) hd2 rfl rfl hcat ⟨hR.1, ?_⟩ ⟨hr.1, hr.2⟩ (z_rv (fun σ1 hx => ?_)) z_nx
  · show 8 + (1 + 11) + 40 * 3 ≤ _
    have := hR.2
    omega
  obtain ⟨h1, hfr⟩ := hx
  refine z_putF C hf hnm hd3 ((hfr 0 0 (by omega)).trans ((zput_n (by omega)).trans h0)) (by decide) hj (fun _ => ⟨rfl, rfl⟩) ?_
  exact kk _ (zput_s _ _ _ _) ((zput_n (by omega)).trans h1) (fun k i z z1 => (zput_n z).trans ((hfr k i z1).trans (zput_n z1)))
theorem z_arr (kk : σ 90 0 = some (rC 0 (fun _ => none)) → zG X p l e R s m args below meth c nL σ0 loc0 Q cells slots σ pc L st) : zG X p l e R s m args below meth c nL σ0 loc0 Q cells slots σ pc L st := fun loc H locs ls hI => kk hI.1.2.2.2.2.2.2.1 loc H locs ls hI
end ZML
theorem zLs_0 {σ : zHp} {j : Nat} {el : Nat → zK} (h1 : σ 1 j = some (oC 2 [aI 0, aR 90 0, aI 0])) (h9 : σ 90 0 = some (rC 0 (fun _ => none))) (hf : ∀ g, σ (20 + j) g = none) (hj : j < 6) : zLs σ j 0 el :=
  ⟨0, (90, 0), 0, _, h1, h9, Nat.le_refl _, (fun i hi => absurd hi (Nat.not_lt_zero _)), Or.inl ⟨rfl, rfl⟩, (fun g _ => hf g), Or.inl (by decide), hj⟩
def x00 : Nat → Int32 := fun _ => 0
def a00 : Nat → Nat → Int32 := fun _ _ => 0
theorem DK_0 {σ : zHp} (h0 : D0 0 σ) (h1 : ∀ j, j < 6 → σ 1 j = some (oC 2 [aI 0, aR 90 0, aI 0])) (h9 : σ 90 0 = some (rC 0 (fun _ => none))) (hf : ∀ k i, k < 40 → k ≠ 0 → k ≠ 1 → k ≠ 12 → k ≠ 13 → k ≠ 14 → σ k i = none) : DK x00 a00 σ := by
  have hl : ∀ (j : Nat) (el : Nat → zK), j < 6 → zLs σ j 0 el := fun j el hj => zLs_0 (h1 j hj) h9 (fun g => hf _ _ (by omega) (by omega) (by omega) (by omega) (by omega) (by omega)) hj
  have z0 : zN (0 : Int32) = 0 := by decide
  have hn : ∀ (i : Nat), i < zN (0 : Int32) → False := fun i hi => by rw [z0] at hi; omega
  have nx : ∀ (k : Nat), k < 40 ∧ k ≠ 0 ∧ k ≠ 1 ∧ k ≠ 12 ∧ k ≠ 13 ∧ k ≠ 14 → ∀ i, σ k i = none := fun k hk i => hf k i hk.1 hk.2.1 hk.2.2.1 hk.2.2.2.1 hk.2.2.2.2.1 hk.2.2.2.2.2
  refine ⟨⟨h0, ⟨by show zLs σ 0 (zN 0) _; rw [z0]; exact hl 0 _ (by decide), fun i hi => (hn i hi).elim, fun i _ => nx 3 (by decide) i⟩, ⟨fun _ => 0, 0, by show zLs σ 1 (zN 0) _; rw [z0]; exact hl 1 _ (by decide), fun i hi => (hn i hi).elim, fun i _ => nx 7 (by decide) i⟩, ⟨by show zLs σ 2 (zN 0) _; rw [z0]; exact hl 2 _ (by decide), fun i hi => (hn i hi).elim, fun i _ => nx 5 (by decide) i⟩, ⟨by show zLs σ 3 (zN 0) _; rw [z0]; exact hl 3 _ (by decide), fun i hi => (hn i hi).elim, fun i hi => (hn i hi).elim, fun i hi => (hn i hi).elim, fun i _ => ⟨nx 6 (by decide) i, nx 30 (by decide) i, nx 31 (by decide) i⟩⟩, ⟨by show zLs σ 4 (zN 0) _; rw [z0]; exact hl 4 _ (by decide), fun i hi => (hn i hi).elim, fun i _ => nx 9 (by decide) i⟩⟩, ⟨by show zLs σ 5 (zN 0) _; rw [z0]; exact hl 5 _ (by decide), fun i hi => (hn i hi).elim, fun i hi => (hn i hi).elim, fun i _ => ⟨nx 10 (by decide) i, nx 32 (by decide) i⟩⟩⟩
theorem zIv_0 : zIv x00 a00 := by
  have z0 : zN (0 : Int32) = 0 := by decide
  have hc : ∀ b, zCnt (0 : Int32) b := fun b => ⟨by decide, by rw [z0]; exact Nat.zero_le _⟩
  have hn : ∀ (i : Nat), i < zN (0 : Int32) → False := fun i hi => by rw [z0] at hi; omega
  exact ⟨⟨hc _, hc _, hc _, hc _, hc _, hc _, hc _, hc _, fun i hi => (hn i hi).elim, fun i hi => (hn i hi).elim, fun i hi => (hn i hi).elim, fun i hi => (hn i hi).elim, Nat.le_refl _⟩, fun _ _ => rfl, fun _ _ => rfl, fun _ _ => rfl, fun _ _ => rfl, fun _ _ => rfl, fun _ _ => rfl, by show zN 0 = apc _ (zN 0); rw [z0]; rfl⟩
set_option maxRecDepth 100000 in
set_option maxHeartbeats 4000000 in
theorem c_X6_init {X : zX} (l : Launch) {σ : zHp} (h0 : σ 0 0 = some (oC 9 [aN, aN, aN, aN, aN, aN, aI 0])) (hf : ∀ k i, k < 40 → ¬ (k = 0 ∧ i = 0) → σ k i = none) : zM X l yX6_init cX6_init 1 none 5 6 18 [aR 0 0] σ (zPv (fun σ1 => DK x00 a00 σ1 ∧ ∀ k i, ¬ (k = 0 ∧ i = 0) → k ≠ 1 → σ1 k i = σ k i)) zNx := by
  refine zM.of (by decide +kernel) (Nat.le_of_ble_eq_true rfl) (by simp [zcat, Value.category]) ?_
  intro p e s m args below meth c loc0 C hr hnm hT
  refine z_aload_n (i := 0) C dX6_init_0 rfl rfl ?_
  refine z_objI C ml_RX6_1 im_objectInit co_objectInit ⟨Nat.le_of_ble_eq_true rfl, Nat.le_of_ble_eq_true rfl⟩ (fun _ => Nat.le_of_ble_eq_true rfl) dX6_init_1 ?_
  refine z_aload_n (i := 0) C dX6_init_4 rfl rfl ?_
  refine z_mkL C hnm fp_RX6_10 dX6_init_5 dX6_init_8 dX6_init_9 dX6_init_12 (j := 0) h0 (Nat.le_of_ble_eq_true rfl) (by exact hf 1 0 (by decide) (by omega)) ⟨Nat.le_of_ble_eq_true rfl, Nat.le_of_ble_eq_true rfl⟩ ⟨Nat.le_of_ble_eq_true rfl, Nat.le_of_ble_eq_true rfl⟩ (fun _ => Nat.le_of_ble_eq_true rfl) (fun σ0 o0 l0 g0 => ?_)
  refine z_aload_n (i := 0) C dX6_init_15 rfl rfl ?_
  refine z_mkL C hnm fp_RX6_16 dX6_init_16 dX6_init_19 dX6_init_20 dX6_init_23 (j := 1) o0 (Nat.le_of_ble_eq_true rfl) (by rw [g0 1 1 (by omega) (by omega)]; exact hf 1 1 (by decide) (by omega)) ⟨Nat.le_of_ble_eq_true rfl, Nat.le_of_ble_eq_true rfl⟩ ⟨Nat.le_of_ble_eq_true rfl, Nat.le_of_ble_eq_true rfl⟩ (fun _ => Nat.le_of_ble_eq_true rfl) (fun σ1 o1 l1 g1 => ?_)
  refine z_aload_n (i := 0) C dX6_init_26 rfl rfl ?_
  refine z_mkL C hnm fp_RX6_19 dX6_init_27 dX6_init_30 dX6_init_31 dX6_init_34 (j := 2) o1 (Nat.le_of_ble_eq_true rfl) (by rw [g1 1 2 (by omega) (by omega), g0 1 2 (by omega) (by omega)]; exact hf 1 2 (by decide) (by omega)) ⟨Nat.le_of_ble_eq_true rfl, Nat.le_of_ble_eq_true rfl⟩ ⟨Nat.le_of_ble_eq_true rfl, Nat.le_of_ble_eq_true rfl⟩ (fun _ => Nat.le_of_ble_eq_true rfl) (fun σ2 o2 l2 g2 => ?_)
  refine z_aload_n (i := 0) C dX6_init_37 rfl rfl ?_
  refine z_mkL C hnm fp_RX6_22 dX6_init_38 dX6_init_41 dX6_init_42 dX6_init_45 (j := 3) o2 (Nat.le_of_ble_eq_true rfl) (by rw [g2 1 3 (by omega) (by omega), g1 1 3 (by omega) (by omega), g0 1 3 (by omega) (by omega)]; exact hf 1 3 (by decide) (by omega)) ⟨Nat.le_of_ble_eq_true rfl, Nat.le_of_ble_eq_true rfl⟩ ⟨Nat.le_of_ble_eq_true rfl, Nat.le_of_ble_eq_true rfl⟩ (fun _ => Nat.le_of_ble_eq_true rfl) (fun σ3 o3 l3 g3 => ?_)
  refine z_aload_n (i := 0) C dX6_init_48 rfl rfl ?_
  refine z_mkL C hnm fp_RX6_25 dX6_init_49 dX6_init_52 dX6_init_53 dX6_init_56 (j := 4) o3 (Nat.le_of_ble_eq_true rfl) (by rw [g3 1 4 (by omega) (by omega), g2 1 4 (by omega) (by omega), g1 1 4 (by omega) (by omega), g0 1 4 (by omega) (by omega)]; exact hf 1 4 (by decide) (by omega)) ⟨Nat.le_of_ble_eq_true rfl, Nat.le_of_ble_eq_true rfl⟩ ⟨Nat.le_of_ble_eq_true rfl, Nat.le_of_ble_eq_true rfl⟩ (fun _ => Nat.le_of_ble_eq_true rfl) (fun σ4 o4 l4 g4 => ?_)
  refine z_aload_n (i := 0) C dX6_init_59 rfl rfl ?_
  refine z_mkL C hnm fp_RX6_28 dX6_init_60 dX6_init_63 dX6_init_64 dX6_init_67 (j := 5) o4 (Nat.le_of_ble_eq_true rfl) (by rw [g4 1 5 (by omega) (by omega), g3 1 5 (by omega) (by omega), g2 1 5 (by omega) (by omega), g1 1 5 (by omega) (by omega), g0 1 5 (by omega) (by omega)]; exact hf 1 5 (by decide) (by omega)) ⟨Nat.le_of_ble_eq_true rfl, Nat.le_of_ble_eq_true rfl⟩ ⟨Nat.le_of_ble_eq_true rfl, Nat.le_of_ble_eq_true rfl⟩ (fun _ => Nat.le_of_ble_eq_true rfl) (fun σ5 o5 l5 g5 => ?_)
  refine z_aload_n (i := 0) C dX6_init_70 rfl rfl ?_
  refine z_iconst (v := 0) C dX6_init_71 (by decide) ?_
  refine z_putf C fp_RX6_31 dX6_init_72 o5 (by decide) (Nat.le_of_ble_eq_true rfl) (fun _ => ⟨rfl, rfl⟩) ?_
  refine z_arr (fun h90 => ?_)
  have hfin : ∀ k i, ¬ (k = 0 ∧ i = 0) → k ≠ 1 → zput σ5 0 0 (oC 9 [aR 1 0, aR 1 1, aR 1 2, aR 1 3, aR 1 4, aR 1 5, aI 0]) k i = σ k i := fun k i z z1 => by rw [zput_n z, g5 k i z (by omega), g4 k i z (by omega), g3 k i z (by omega), g2 k i z (by omega), g1 k i z (by omega), g0 k i z (by omega)]
  refine z_vret C hr dX6_init_75 (Nat.le_of_ble_eq_true rfl) (Nat.le_of_ble_eq_true rfl) ⟨rfl, DK_0 (zput_s _ _ _ _) (fun j hj => ?_) h90 (fun k i h1 h2 h3 _ _ _ => (hfin k i (by omega) h3).trans (hf k i h1 (by omega))), fun k i z z1 => hfin k i z z1⟩
  rcases (show j = 0 ∨ j = 1 ∨ j = 2 ∨ j = 3 ∨ j = 4 ∨ j = 5 by omega) with rfl | rfl | rfl | rfl | rfl | rfl
  · rw [zput_n (by omega), g5 1 0 (by omega) (by omega), g4 1 0 (by omega) (by omega), g3 1 0 (by omega) (by omega), g2 1 0 (by omega) (by omega), g1 1 0 (by omega) (by omega)]; exact l0
  · rw [zput_n (by omega), g5 1 1 (by omega) (by omega), g4 1 1 (by omega) (by omega), g3 1 1 (by omega) (by omega), g2 1 1 (by omega) (by omega)]; exact l1
  · rw [zput_n (by omega), g5 1 2 (by omega) (by omega), g4 1 2 (by omega) (by omega), g3 1 2 (by omega) (by omega)]; exact l2
  · rw [zput_n (by omega), g5 1 3 (by omega) (by omega), g4 1 3 (by omega) (by omega)]; exact l3
  · rw [zput_n (by omega), g5 1 4 (by omega) (by omega)]; exact l4
  · rw [zput_n (by omega)]; exact l5

