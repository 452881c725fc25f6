/-! the law's loop -/
section ZLL
variable {X : zX} {p : Program} {l : Launch} {e : Env} {s : State} {m : MethodId} {below : List Frame} {meth : Method} {c : Code} {σ0 σ : zHp} {loc0 : zK → Nat} {b n : Nat} {xs : Nat → Int32} {cells slots : Nat}
set_option maxRecDepth 100000 in
set_option maxHeartbeats 4000000 in
theorem lw_loop (K : LwC X p l s m b meth c n xs) : ∀ (d k : Nat) (x : Nat → Int32) (a : Nat → Nat → Int32) (σ : zHp), lwS x a σ → k + d = 513 → 6 * k ≤ n → LwG X p l e s m b below meth c σ0 loc0 (40 + 10 * k) (1200 + 200 * k) σ 23 (lw_L b (6 * k)) [] := by
  have C := K.1
  obtain ⟨-, hX, hbl, hz, hn, -⟩ := id K
  intro d
  induction d with
  | zero =>
    intro k x a σ hS h1 h2
    exact absurd h2 (by omega)
  | succ d ih =>
    intro k x a σ hS h1 h2
    have hk : k ≤ 512 := by omega
    have es : (nI n - 6).toInt = (n : Int) - 6 := pk_sub_toInt (a := n) (b := 6) (by omega) (by omega)
    refine z_iload C dL_law_23 rfl ?_
    refine z_aload_nQ (i := 0) C dL_law_25 rfl rfl ?_
    refine z_slen C hX hbl hz dL_law_26 ?_
    refine z_bipush (v := 6) C dL_law_27 (by decide) ?_
    refine z_isub C dL_law_29 ?_
    refine z_icmp_gt (tgt := 1739) C dL_law_30 (by decide) (fun h => ?_) (fun h => ?_)
    · refine z_iconst (v := 1) C dL_law_1739 (by decide) ?_
      exact z_lret K dL_law_1740 (by omega) (by omega)
    · have h6 : 6 * k + 6 ≤ n := by
        rw [Int32.lt_iff_toInt_lt, es, nI_toInt (by omega)] at h
        omega
      refine z_aload_nQ (i := 0) C dL_law_33 rfl rfl ?_
      refine z_iload C dL_law_34 rfl ?_
      refine z_sld C hX hbl hz dL_law_36 (vp_in_nI (by omega) (by omega)) ?_
      refine z_bipush (v := 31) C dL_law_37 (by decide) ?_
      refine z_iand C dL_law_39 ?_
      obtain ⟨j, hj, ej⟩ := lw_and (xs (nI (6 * k)).toNatClampNeg)
      rw [ej]
      have kk : ∀ (x : Nat → Int32) (a : Nat → Nat → Int32) (σ : zHp), lwS x a σ → LwG X p l e s m b below meth c σ0 loc0 (40 + 10 * k + 10) (1200 + 200 * k + 200) σ 1733 (lw_L b (6 * k)) [] := by
        intro x a σ hS
        refine z_iinc (v := nI (6 * (k + 1))) C dL_law_1733 (by decide) rfl ?_ ?_
        · show nI (6 * k) + nI 6 = _
          rw [nI_add]
          rfl
        refine z_goto (tgt := 23) C dL_law_1736 (by decide) ?_
        refine z_sub (L' := lw_L b (6 * (k + 1))) (zs1 rfl (zs1 rfl (zs1 rfl (zs1 rfl (zs1 rfl zs0))))) ?_
        exact z_wd (by omega) (by omega) (ih (k + 1) x a σ hS (by omega) (by omega))
      have hc : 40 + 10 * k + 10 ≤ 601024 ∧ 1200 + 200 * k + 200 ≤ 7293034 := by omega
      by_cases hj25 : 25 ≤ j
      · refine z_tableOut (tgt := 1733) C dL_law_40 (Or.inr ?_) (by decide) (z_wd (by omega) (by omega) (kk x a σ hS))
        rw [nI_toInt (by omega)]
        omega
      · rcases (show j = 0 ∨ j = 1 ∨ j = 2 ∨ j = 3 ∨ j = 4 ∨ j = 5 ∨ j = 6 ∨ j = 7 ∨ j = 8 ∨ j = 9 ∨ j = 10 ∨ j = 11 ∨ j = 12 ∨ j = 13 ∨ j = 14 ∨ j = 15 ∨ j = 16 ∨ j = 17 ∨ j = 18 ∨ j = 19 ∨ j = 20 ∨ j = 21 ∨ j = 22 ∨ j = 23 ∨ j = 24 by omega) with rfl | rfl | rfl | rfl | rfl | rfl | rfl | rfl | rfl | rfl | rfl | rfl | rfl | rfl | rfl | rfl | rfl | rfl | rfl | rfl | rfl | rfl | rfl | rfl | rfl
        · exact z_tableIn (off := 116) (tgt := 156) C dL_law_40 (by decide) (by decide) (by decide) (by decide) (lw_c0 K hS h6 hc kk)
        · exact z_tableIn (off := 172) (tgt := 212) C dL_law_40 (by decide) (by decide) (by decide) (by decide) (lw_c1 K hS h6 hc kk)
        · exact z_tableIn (off := 252) (tgt := 292) C dL_law_40 (by decide) (by decide) (by decide) (by decide) (lw_c2 K hS h6 hc kk)
        · exact z_tableIn (off := 356) (tgt := 396) C dL_law_40 (by decide) (by decide) (by decide) (by decide) (lw_c3 K hS h6 hc kk)
        · exact z_tableIn (off := 412) (tgt := 452) C dL_law_40 (by decide) (by decide) (by decide) (by decide) (lw_c4 K hS h6 hc kk)
        · exact z_tableIn (off := 480) (tgt := 520) C dL_law_40 (by decide) (by decide) (by decide) (by decide) (lw_c5 K hS h6 hc kk)
        · exact z_tableIn (off := 536) (tgt := 576) C dL_law_40 (by decide) (by decide) (by decide) (by decide) (lw_c6 K hS h6 hc kk)
        · exact z_tableIn (off := 604) (tgt := 644) C dL_law_40 (by decide) (by decide) (by decide) (by decide) (lw_c7 K hS h6 hc kk)
        · exact z_tableIn (off := 672) (tgt := 712) C dL_law_40 (by decide) (by decide) (by decide) (by decide) (lw_c8 K hS h6 hc kk)
        · exact z_tableIn (off := 752) (tgt := 792) C dL_law_40 (by decide) (by decide) (by decide) (by decide) (lw_c9 K hS h6 hc kk)
        · exact z_tableIn (off := 844) (tgt := 884) C dL_law_40 (by decide) (by decide) (by decide) (by decide) (lw_c10 K hS h6 hc kk)
        · exact z_tableIn (off := 912) (tgt := 952) C dL_law_40 (by decide) (by decide) (by decide) (by decide) (lw_c11 K hS h6 hc kk)
        · exact z_tableIn (off := 968) (tgt := 1008) C dL_law_40 (by decide) (by decide) (by decide) (by decide) (lw_c12 K hS h6 hc kk)
        · exact z_tableIn (off := 1036) (tgt := 1076) C dL_law_40 (by decide) (by decide) (by decide) (by decide) (lw_c13 K hS h6 hc kk)
        · exact z_tableIn (off := 1092) (tgt := 1132) C dL_law_40 (by decide) (by decide) (by decide) (by decide) (lw_c14 K hS h6 hc kk)
        · exact z_tableIn (off := 1148) (tgt := 1188) C dL_law_40 (by decide) (by decide) (by decide) (by decide) (lw_c15 K hS h6 hc kk)
        · exact z_tableIn (off := 1216) (tgt := 1256) C dL_law_40 (by decide) (by decide) (by decide) (by decide) (lw_c16 K hS h6 hc kk)
        · exact z_tableIn (off := 1272) (tgt := 1312) C dL_law_40 (by decide) (by decide) (by decide) (by decide) (lw_c17 K hS h6 hc kk)
        · exact z_tableIn (off := 1352) (tgt := 1392) C dL_law_40 (by decide) (by decide) (by decide) (by decide) (lw_c18 K hS h6 hc kk)
        · exact z_tableIn (off := 1400) (tgt := 1440) C dL_law_40 (by decide) (by decide) (by decide) (by decide) (lw_c19 K hS h6 hc kk)
        · exact z_tableIn (off := 1456) (tgt := 1496) C dL_law_40 (by decide) (by decide) (by decide) (by decide) (lw_c20 K hS h6 hc kk)
        · exact z_tableIn (off := 1469) (tgt := 1509) C dL_law_40 (by decide) (by decide) (by decide) (by decide) (lw_c21 K hS h6 hc kk)
        · exact z_tableIn (off := 1525) (tgt := 1565) C dL_law_40 (by decide) (by decide) (by decide) (by decide) (lw_c22 K hS h6 hc kk)
        · exact z_tableIn (off := 1581) (tgt := 1621) C dL_law_40 (by decide) (by decide) (by decide) (by decide) (lw_c23 K hS h6 hc kk)
        · exact z_tableIn (off := 1625) (tgt := 1665) C dL_law_40 (by decide) (by decide) (by decide) (by decide) (lw_c24 K hS h6 hc kk)
end ZLL
