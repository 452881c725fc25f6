/-! the law's method chances: the other loops, its contract -/
section CHB
variable {X : zX} {p : Program} {l : Launch} {e : Env} {s : State} {m : MethodId} {args : Array Value} {below : List Frame} {meth : Method} {c : Code} {σ0 σ : zHp} {loc0 : zK → Nat} {Q : State → Prop} {cells slots : Nat} {x : Nat → Int32} {a A : Nat → Nat → Int32} {f : Nat → Int32}
set_option maxRecDepth 100000 in
set_option maxHeartbeats 4000000 in
theorem ch_2 (C : zC X p l s m args meth c cL_chances 12 RL) (hC : ChC x a A σ) (h5 : σ 80 5 = some (iC 6 f)) (hb : cells + 3 * zN (x 23) ≤ 4000 ∧ slots + 18 * zN (x 23) ≤ 24000) (kk : zG X p l e (zRm 10 4000 24000) s m args below meth c 12 σ0 loc0 Q (cells + 3 * zN (x 23)) (slots + 18 * zN (x 23)) σ 248 [(0, aR 0 0), (1, aR 80 0), (2, aR 80 2), (3, aR 80 3), (4, aR 80 4), (5, aI (watL a (zN (x 23)))), (6, aR 80 5)] []) : ∀ (d k : Nat), k + d = zN (x 23) → zG X p l e (zRm 10 4000 24000) s m args below meth c 12 σ0 loc0 Q (cells + 3 * k) (slots + 18 * k) σ 195 [(0, aR 0 0), (1, aR 80 0), (2, aR 80 2), (3, aR 80 3), (4, aR 80 4), (5, aI (watL a k)), (6, aR 80 5), (7, aI (nI (k)))] [] := by
  obtain ⟨hD, hI, hJ, ⟨⟨t0, t1, t2, t3, t4, t5, t6⟩, hTa, hTb, hTd, hTq⟩, hrow⟩ := id hC
  obtain ⟨i0, i1, i6, i11, i15, i23, i24, i29, iA, iS, iC, iQ, iP⟩ := id hI.1
  have b0 := i0.2
  have b1 := i1.2
  have b11 := i11.2
  have b15 := hJ.1.1
  have b23 := hJ.1.2
  have g0 : A 4 0 = nI (zN (x 1)) := t0.trans i1.1
  have g1 : A 4 1 = nI (zN (x 11)) := t1.trans i11.1
  have g2 : A 4 2 = nI (zN (x 15)) := t2.trans i15.1
  have g3 : A 4 3 = nI (zN (x 23)) := t3.trans i23.1
  have g6 : A 4 6 = nI (zN (x 0)) := t6.trans i0.1
  intro d
  induction d with
  | zero =>
    intro k h9
    refine z_iload C dL_chances_195 rfl ?_
    refine z_aload C dL_chances_197 rfl ?_
    refine z_iconst (v := nI 3) C dL_chances_199 (by decide) ?_
    refine z_ialdN C dL_chances_200 (hrow 4 (by decide)) (show _ < 7 by omega) (by decide) ?_
    refine z_top (w := (nI (zN (x 23)))) (g3) ?_
    refine z_icmp_ge (tgt := 248) C dL_chances_201 (by decide) (fun _ => ?_) (fun h => absurd (by rw [show k = zN (x 23) by omega]; exact Int32.le_refl _) h)
    refine z_sub (L' := [(0, aR 0 0), (1, aR 80 0), (2, aR 80 2), (3, aR 80 3), (4, aR 80 4), (5, aI (watL a k)), (6, aR 80 5)]) (zs1 rfl (zs1 rfl (zs1 rfl (zs1 rfl (zs1 rfl (zs1 rfl (zs1 rfl zs0))))))) ?_
    have e9 : k = zN (x 23) := by omega
    rw [e9]
    exact kk
  | succ d ih =>
    intro k h9
    refine z_iload C dL_chances_195 rfl ?_
    refine z_aload C dL_chances_197 rfl ?_
    refine z_iconst (v := nI 3) C dL_chances_199 (by decide) ?_
    refine z_ialdN C dL_chances_200 (hrow 4 (by decide)) (show _ < 7 by omega) (by decide) ?_
    refine z_top (w := (nI (zN (x 23)))) (g3) ?_
    refine z_icmp_ge (tgt := 248) C dL_chances_201 (by decide) (fun h => absurd h (nI_ge (by omega) (by omega))) (fun _ => ?_)
    have hk9 : k < zN (x 23) := by omega
    have hq9 := hTq k hk9
    obtain ⟨⟨c9, hc9, ec9⟩, ⟨s9, hs9, es9⟩, -⟩ := iQ k hk9
    obtain ⟨dd, hdd, ed⟩ := hJ.2.2.2.2.2.2.2.2 k hk9
    have hqb : qN a k < 2 ^ 31 ∧ qN a k / 1000000 / 10 = c9 ∧ qN a k % 10 = if a 28 k = 0 then 0 else 1 := by
      unfold qN
      rw [ec9, es9, ed, zN_nI (by omega), zN_nI (by omega), zN_nI (by omega)]
      by_cases e0 : a 28 k = 0
      · rw [if_pos e0]; omega
      · rw [if_neg e0]; omega
    obtain ⟨hq1, hq2, hq3⟩ := hqb
    refine z_iload C dL_chances_204 rfl ?_
    refine z_aload_n (i := 3) C dL_chances_206 rfl rfl ?_
    refine z_iload C dL_chances_207 rfl ?_
    refine z_ialdN C dL_chances_209 (hrow 3 (by decide)) (show _ < 30 by omega) (by decide) ?_
    refine z_top (w := (nI (qN a k))) (hq9) ?_
    refine z_bipush (v := nI 10) C dL_chances_210 (by decide) ?_
    refine z_irem C dL_chances_212 (by decide) ?_
    refine z_top (w := (nI ((qN a k % 10)))) (pk_rem (by omega) (by decide) (by decide)) ?_
    by_cases e0 : a 28 k = 0
    · rw [if_pos e0] at hq3
      refine z_if_ne (tgt := 238) C dL_chances_213 (by decide) (fun h => absurd (by rw [hq3]; rfl) h) (fun _ => ?_)
      refine z_aload_n (i := 0) C dL_chances_216 rfl rfl ?_
      refine z_aload_n (i := 3) C dL_chances_217 rfl rfl ?_
      refine z_iload C dL_chances_218 rfl ?_
      refine z_ialdN C dL_chances_220 (hrow 3 (by decide)) (show _ < 30 by omega) (by decide) ?_
      refine z_top (w := (nI (qN a k))) (hq9) ?_
      refine z_ldc C dL_chances_221 kc_RL_117 ?_
      refine z_top (w := (nI 1000000)) (by decide) ?_
      refine z_idiv C dL_chances_223 (by decide) ?_
      refine z_top (w := (nI ((qN a k / 1000000)))) (pk_div (by omega) (by decide) (by decide)) ?_
      refine z_bipush (v := nI 10) C dL_chances_224 (by decide) ?_
      refine z_idiv C dL_chances_226 (by decide) ?_
      refine z_top (w := (nI (((qN a k / 1000000) / 10)))) (pk_div (by omega) (by decide) (by decide)) ?_
      refine z_top (w := (nI (c9))) (by rw [hq2]) ?_
      refine z_callSX C Y_L_stage sm_yL_stage ml_RL_107 (c_L_stage l hD hI) dL_chances_227 rfl rfl (fun _ => Nat.le_of_ble_eq_true rfl) ⟨Nat.le_of_ble_eq_true rfl, Nat.le_of_ble_eq_true rfl⟩ (by show _ ≤ 4000 ∧ _ ≤ 24000; omega) (z_q0 (w := (nI (stN a (c9)))) (kq_cha hI.1 hc9) (by rw [zN_nI (by omega)]; exact (st_N hI hc9).2) ?_) z_nx
      refine z_iconst (v := nI 4) C dL_chances_230 (by decide) ?_
      refine z_icmp_ge (tgt := 238) C dL_chances_231 (by decide) (fun h231 => ?_) (fun h231 => ?_)
      · refine z_iconst (v := nI 0) C dL_chances_238 (by decide) ?_
        refine z_iadd C dL_chances_239 ?_
        refine z_top (w := watL a (k + 1)) (by
          have hst := (st_N hI hc9).2
          rw [watL, decide_eq_true e0, ec9, zN_nI (by omega), opnB, hst]
          rw [decide_eq_false (show ¬ nI (stN a c9) < 4 from fun z => absurd h231 (fun z2 => Int32.not_le.mpr z z2))]
          rfl) ?_
        refine z_istore C dL_chances_240 (by decide) ?_
        refine z_iinc (v := nI (k + 1)) C dL_chances_242 (by decide) rfl (zinc _) ?_
        refine z_goto (tgt := 195) C dL_chances_245 (by decide) ?_
        refine z_sub (L' := [(0, aR 0 0), (1, aR 80 0), (2, aR 80 2), (3, aR 80 3), (4, aR 80 4), (5, aI (watL a (k + 1))), (6, aR 80 5), (7, aI (nI (k + 1)))]) (zs1 rfl (zs1 rfl (zs1 rfl (zs1 rfl (zs1 rfl (zs1 rfl (zs1 rfl (zs1 rfl zs0)))))))) ?_
        exact z_wd (by omega) (by omega) (ih (k + 1) (by omega))
      · refine z_iconst (v := nI 1) C dL_chances_234 (by decide) ?_
        refine z_goto (tgt := 239) C dL_chances_235 (by decide) ?_
        refine z_iadd C dL_chances_239 ?_
        refine z_top (w := watL a (k + 1)) (by
          have hst := (st_N hI hc9).2
          rw [watL, decide_eq_true e0, ec9, zN_nI (by omega), opnB, hst]
          rw [decide_eq_true (show nI (stN a c9) < 4 from Int32.not_le.mp h231)]
          rfl) ?_
        refine z_istore C dL_chances_240 (by decide) ?_
        refine z_iinc (v := nI (k + 1)) C dL_chances_242 (by decide) rfl (zinc _) ?_
        refine z_goto (tgt := 195) C dL_chances_245 (by decide) ?_
        refine z_sub (L' := [(0, aR 0 0), (1, aR 80 0), (2, aR 80 2), (3, aR 80 3), (4, aR 80 4), (5, aI (watL a (k + 1))), (6, aR 80 5), (7, aI (nI (k + 1)))]) (zs1 rfl (zs1 rfl (zs1 rfl (zs1 rfl (zs1 rfl (zs1 rfl (zs1 rfl (zs1 rfl zs0)))))))) ?_
        exact z_wd (by omega) (by omega) (ih (k + 1) (by omega))
    · rw [if_neg e0] at hq3
      refine z_if_ne (tgt := 238) C dL_chances_213 (by decide) (fun _ => ?_) (fun h => absurd h (by rw [hq3]; exact nI_ne0 (by decide) (by decide)))
      refine z_iconst (v := nI 0) C dL_chances_238 (by decide) ?_
      refine z_iadd C dL_chances_239 ?_
      refine z_top (w := watL a (k + 1)) (by
        rw [watL, decide_eq_false e0]
        rfl) ?_
      refine z_istore C dL_chances_240 (by decide) ?_
      refine z_iinc (v := nI (k + 1)) C dL_chances_242 (by decide) rfl (zinc _) ?_
      refine z_goto (tgt := 195) C dL_chances_245 (by decide) ?_
      refine z_sub (L' := [(0, aR 0 0), (1, aR 80 0), (2, aR 80 2), (3, aR 80 3), (4, aR 80 4), (5, aI (watL a (k + 1))), (6, aR 80 5), (7, aI (nI (k + 1)))]) (zs1 rfl (zs1 rfl (zs1 rfl (zs1 rfl (zs1 rfl (zs1 rfl (zs1 rfl (zs1 rfl zs0)))))))) ?_
      exact z_wd (by omega) (by omega) (ih (k + 1) (by omega))
set_option maxRecDepth 100000 in
set_option maxHeartbeats 4000000 in
theorem ch_3a (C : zC X p l s m args meth c cL_chances 12 RL) (hC : ChC x a A σ) (h5 : σ 80 5 = some (iC 6 f)) {u9 : Int32} {k : Nat} (hk : k < 6) (hb : cells + 3 * 4 ≤ 4000 ∧ slots + 18 * 4 ≤ 24000) (kk : zG X p l e (zRm 10 4000 24000) s m args below meth c 12 σ0 loc0 Q (cells + 3 * 4) (slots + 18 * 4) σ 289 [(0, aR 0 0), (1, aR 80 0), (2, aR 80 2), (3, aR 80 3), (4, aR 80 4), (5, aI (u9)), (6, aR 80 5), (7, aI (nI (k))), (8, aI (irS x a k 4))] []) : ∀ (d n : Nat), n + d = 4 → zG X p l e (zRm 10 4000 24000) s m args below meth c 12 σ0 loc0 Q (cells + 3 * n) (slots + 18 * n) σ 264 [(0, aR 0 0), (1, aR 80 0), (2, aR 80 2), (3, aR 80 3), (4, aR 80 4), (5, aI (u9)), (6, aR 80 5), (7, aI (nI (k))), (8, aI (irS x a k n)), (9, aI (nI (n)))] [] := by
  obtain ⟨hD, hI, hJ, ⟨⟨t0, t1, t2, t3, t4, t5, t6⟩, hTa, hTb, hTd, hTq⟩, hrow⟩ := id hC
  obtain ⟨i0, i1, i6, i11, i15, i23, i24, i29, iA, iS, iC, iQ, iP⟩ := id hI.1
  have b0 := i0.2
  have b1 := i1.2
  have b11 := i11.2
  have b15 := hJ.1.1
  have b23 := hJ.1.2
  have g0 : A 4 0 = nI (zN (x 1)) := t0.trans i1.1
  have g1 : A 4 1 = nI (zN (x 11)) := t1.trans i11.1
  have g2 : A 4 2 = nI (zN (x 15)) := t2.trans i15.1
  have g3 : A 4 3 = nI (zN (x 23)) := t3.trans i23.1
  have g6 : A 4 6 = nI (zN (x 0)) := t6.trans i0.1
  intro d
  induction d with
  | zero =>
    intro n h9
    refine z_iload C dL_chances_264 rfl ?_
    refine z_iconst (v := nI 4) C dL_chances_266 (by decide) ?_
    refine z_icmp_ge (tgt := 289) C dL_chances_267 (by decide) (fun _ => ?_) (fun h => absurd (by rw [show n = 4 by omega]; exact Int32.le_refl _) h)
    refine z_sub (L' := [(0, aR 0 0), (1, aR 80 0), (2, aR 80 2), (3, aR 80 3), (4, aR 80 4), (5, aI (u9)), (6, aR 80 5), (7, aI (nI (k))), (8, aI (irS x a k n))]) (zs1 rfl (zs1 rfl (zs1 rfl (zs1 rfl (zs1 rfl (zs1 rfl (zs1 rfl (zs1 rfl (zs1 rfl zs0))))))))) ?_
    have e9 : n = 4 := by omega
    rw [e9]
    exact kk
  | succ d ih =>
    intro n h9
    refine z_iload C dL_chances_264 rfl ?_
    refine z_iconst (v := nI 4) C dL_chances_266 (by decide) ?_
    refine z_icmp_ge (tgt := 289) C dL_chances_267 (by decide) (fun h => absurd h (nI_ge (by omega) (by omega))) (fun _ => ?_)
    have hk9 : n < 4 := by omega
    refine z_iload C dL_chances_270 rfl ?_
    refine z_aload_n (i := 0) C dL_chances_272 rfl rfl ?_
    refine z_iload C dL_chances_273 rfl ?_
    refine z_iload C dL_chances_275 rfl ?_
    refine z_callSX C Y_L_inRegion sm_yL_inRegion ml_RL_118 (c_L_inRegion l hD hI) dL_chances_277 rfl rfl (fun _ => Nat.le_of_ble_eq_true rfl) ⟨Nat.le_of_ble_eq_true rfl, Nat.le_of_ble_eq_true rfl⟩ (by show _ ≤ 4000 ∧ _ ≤ 24000; omega) (z_q0 (w := (inrL x a (nI n) (nI k) (zN (x 15)))) (goC_0.mpr ⟨by rw [show (3 : Int32) = nI 3 from rfl, show (0 : Int32) = nI 0 from rfl, show (5 : Int32) = nI 5 from rfl, inB_nn (by omega) (by omega) (by decide), inB_nn (by omega) (by omega) (by decide)]; rfl, rfl, rfl⟩) (rfl) ?_) z_nx
    refine z_iadd C dL_chances_280 ?_
    refine z_istore C dL_chances_281 (by decide) ?_
    refine z_iinc (v := nI (n + 1)) C dL_chances_283 (by decide) rfl (zinc _) ?_
    refine z_goto (tgt := 264) C dL_chances_286 (by decide) ?_
    refine z_sub (L' := [(0, aR 0 0), (1, aR 80 0), (2, aR 80 2), (3, aR 80 3), (4, aR 80 4), (5, aI (u9)), (6, aR 80 5), (7, aI (nI (k))), (8, aI (irS x a k (n + 1))), (9, aI (nI (n + 1)))]) (zs1 rfl (zs1 rfl (zs1 rfl (zs1 rfl (zs1 rfl (zs1 rfl (zs1 rfl (zs1 rfl (zs1 rfl (zs1 rfl zs0)))))))))) ?_
    exact z_wd (by omega) (by omega) (ih (n + 1) (by omega))
set_option maxRecDepth 100000 in
set_option maxHeartbeats 4000000 in
theorem ch_3 (C : zC X p l s m args meth c cL_chances 12 RL) (hC : ChC x a A σ) (h5 : σ 80 5 = some (iC 6 f)) {u9 : Int32} (hf : ∀ t, t < 6 → f t = allL x a t (zN (x 15))) (hb : cells + 12 * 6 ≤ 4000 ∧ slots + 72 * 6 ≤ 24000) (kk : zG X p l e (zRm 10 4000 24000) s m args below meth c 12 σ0 loc0 Q (cells + 12 * 6) (slots + 72 * 6) σ 307 [(0, aR 0 0), (1, aR 80 0), (2, aR 80 2), (3, aR 80 3), (4, aR 80 4), (5, aI (u9)), (6, aR 80 5)] []) : ∀ (d k : Nat), k + d = 6 → zG X p l e (zRm 10 4000 24000) s m args below meth c 12 σ0 loc0 Q (cells + 12 * k) (slots + 72 * k) σ 251 [(0, aR 0 0), (1, aR 80 0), (2, aR 80 2), (3, aR 80 3), (4, aR 80 4), (5, aI (u9)), (6, aR 80 5), (7, aI (nI (k)))] [] := by
  obtain ⟨hD, hI, hJ, ⟨⟨t0, t1, t2, t3, t4, t5, t6⟩, hTa, hTb, hTd, hTq⟩, hrow⟩ := id hC
  obtain ⟨i0, i1, i6, i11, i15, i23, i24, i29, iA, iS, iC, iQ, iP⟩ := id hI.1
  have b0 := i0.2
  have b1 := i1.2
  have b11 := i11.2
  have b15 := hJ.1.1
  have b23 := hJ.1.2
  have g0 : A 4 0 = nI (zN (x 1)) := t0.trans i1.1
  have g1 : A 4 1 = nI (zN (x 11)) := t1.trans i11.1
  have g2 : A 4 2 = nI (zN (x 15)) := t2.trans i15.1
  have g3 : A 4 3 = nI (zN (x 23)) := t3.trans i23.1
  have g6 : A 4 6 = nI (zN (x 0)) := t6.trans i0.1
  intro d
  induction d with
  | zero =>
    intro k h9
    refine z_iload C dL_chances_251 rfl ?_
    refine z_bipush (v := nI 6) C dL_chances_253 (by decide) ?_
    refine z_icmp_ge (tgt := 307) C dL_chances_255 (by decide) (fun _ => ?_) (fun h => absurd (by rw [show k = 6 by omega]; exact Int32.le_refl _) h)
    refine z_sub (L' := [(0, aR 0 0), (1, aR 80 0), (2, aR 80 2), (3, aR 80 3), (4, aR 80 4), (5, aI (u9)), (6, aR 80 5)]) (zs1 rfl (zs1 rfl (zs1 rfl (zs1 rfl (zs1 rfl (zs1 rfl (zs1 rfl zs0))))))) ?_
    have e9 : k = 6 := by omega
    rw [e9]
    exact kk
  | succ d ih =>
    intro k h9
    refine z_iload C dL_chances_251 rfl ?_
    refine z_bipush (v := nI 6) C dL_chances_253 (by decide) ?_
    refine z_icmp_ge (tgt := 307) C dL_chances_255 (by decide) (fun h => absurd h (nI_ge (by omega) (by omega))) (fun _ => ?_)
    have hk9 : k < 6 := by omega
    refine z_iconst (v := nI 0) C dL_chances_258 (by decide) ?_
    refine z_istore C dL_chances_259 (by decide) ?_
    refine z_iconst (v := nI 0) C dL_chances_261 (by decide) ?_
    refine z_istore C dL_chances_262 (by decide) ?_
    refine z_wd (k := cells + 12 * k + 3 * 0) (n := slots + 72 * k + 18 * 0) (by omega) (by omega) ?_
    refine z_sub (L' := [(0, aR 0 0), (1, aR 80 0), (2, aR 80 2), (3, aR 80 3), (4, aR 80 4), (5, aI (u9)), (6, aR 80 5), (7, aI (nI (k))), (8, aI (irS x a k 0)), (9, aI (nI 0))]) (zs1 rfl (zs1 rfl (zs1 rfl (zs1 rfl (zs1 rfl (zs1 rfl (zs1 rfl (zs1 rfl (zs1 rfl (zs1 rfl zs0)))))))))) ?_
    refine ch_3a (cells := cells + 12 * k) (slots := slots + 72 * k) C hC h5 hk9 (by omega) ?_ 4 0 rfl
    refine z_iload C dL_chances_289 rfl ?_
    refine z_aload C dL_chances_291 rfl ?_
    refine z_iload C dL_chances_293 rfl ?_
    refine z_ialdN C dL_chances_295 (h5) (show _ < 6 by omega) (by decide) ?_
    refine z_top (w := (irS x a k 4)) ((hf k hk9).trans (irS_4 hI hJ k).symm) ?_
    refine z_icmp_eq (tgt := 301) C dL_chances_296 (by decide) (fun _ => ?_) (fun h => absurd (rfl) h)
    refine z_iinc (v := nI (k + 1)) C dL_chances_301 (by decide) rfl (zinc _) ?_
    refine z_goto (tgt := 251) C dL_chances_304 (by decide) ?_
    refine z_sub (L' := [(0, aR 0 0), (1, aR 80 0), (2, aR 80 2), (3, aR 80 3), (4, aR 80 4), (5, aI (u9)), (6, aR 80 5), (7, aI (nI (k + 1)))]) (zs1 rfl (zs1 rfl (zs1 rfl (zs1 rfl (zs1 rfl (zs1 rfl (zs1 rfl (zs1 rfl zs0)))))))) ?_
    exact z_wd (by omega) (by omega) (ih (k + 1) (by omega))
set_option maxRecDepth 100000 in
set_option maxHeartbeats 4000000 in
theorem ch_4 (C : zC X p l s m args meth c cL_chances 12 RL) (hC : ChC x a A σ) (h5 : σ 80 5 = some (iC 6 f)) {u9 : Int32} (hb : cells + 3 * zN (x 15) ≤ 4000 ∧ slots + 18 * zN (x 15) ≤ 24000) (kk : zG X p l e (zRm 10 4000 24000) s m args below meth c 12 σ0 loc0 Q (cells + 3 * zN (x 15)) (slots + 18 * zN (x 15)) σ 348 [(0, aR 0 0), (1, aR 80 0), (2, aR 80 2), (3, aR 80 3), (4, aR 80 4), (5, aI (u9)), (6, aR 80 5), (7, aI (opnL a (zN (x 15))))] []) : ∀ (d k : Nat), k + d = zN (x 15) → zG X p l e (zRm 10 4000 24000) s m args below meth c 12 σ0 loc0 Q (cells + 3 * k) (slots + 18 * k) σ 313 [(0, aR 0 0), (1, aR 80 0), (2, aR 80 2), (3, aR 80 3), (4, aR 80 4), (5, aI (u9)), (6, aR 80 5), (7, aI (opnL a k)), (8, aI (nI (k)))] [] := by
  obtain ⟨hD, hI, hJ, ⟨⟨t0, t1, t2, t3, t4, t5, t6⟩, hTa, hTb, hTd, hTq⟩, hrow⟩ := id hC
  obtain ⟨i0, i1, i6, i11, i15, i23, i24, i29, iA, iS, iC, iQ, iP⟩ := id hI.1
  have b0 := i0.2
  have b1 := i1.2
  have b11 := i11.2
  have b15 := hJ.1.1
  have b23 := hJ.1.2
  have g0 : A 4 0 = nI (zN (x 1)) := t0.trans i1.1
  have g1 : A 4 1 = nI (zN (x 11)) := t1.trans i11.1
  have g2 : A 4 2 = nI (zN (x 15)) := t2.trans i15.1
  have g3 : A 4 3 = nI (zN (x 23)) := t3.trans i23.1
  have g6 : A 4 6 = nI (zN (x 0)) := t6.trans i0.1
  intro d
  induction d with
  | zero =>
    intro k h9
    refine z_iload C dL_chances_313 rfl ?_
    refine z_aload C dL_chances_315 rfl ?_
    refine z_iconst (v := nI 2) C dL_chances_317 (by decide) ?_
    refine z_ialdN C dL_chances_318 (hrow 4 (by decide)) (show _ < 7 by omega) (by decide) ?_
    refine z_top (w := (nI (zN (x 15)))) (g2) ?_
    refine z_icmp_ge (tgt := 348) C dL_chances_319 (by decide) (fun _ => ?_) (fun h => absurd (by rw [show k = zN (x 15) by omega]; exact Int32.le_refl _) h)
    refine z_sub (L' := [(0, aR 0 0), (1, aR 80 0), (2, aR 80 2), (3, aR 80 3), (4, aR 80 4), (5, aI (u9)), (6, aR 80 5), (7, aI (opnL a k))]) (zs1 rfl (zs1 rfl (zs1 rfl (zs1 rfl (zs1 rfl (zs1 rfl (zs1 rfl (zs1 rfl zs0)))))))) ?_
    have e9 : k = zN (x 15) := by omega
    rw [e9]
    exact kk
  | succ d ih =>
    intro k h9
    refine z_iload C dL_chances_313 rfl ?_
    refine z_aload C dL_chances_315 rfl ?_
    refine z_iconst (v := nI 2) C dL_chances_317 (by decide) ?_
    refine z_ialdN C dL_chances_318 (hrow 4 (by decide)) (show _ < 7 by omega) (by decide) ?_
    refine z_top (w := (nI (zN (x 15)))) (g2) ?_
    refine z_icmp_ge (tgt := 348) C dL_chances_319 (by decide) (fun h => absurd h (nI_ge (by omega) (by omega))) (fun _ => ?_)
    have hk9 : k < zN (x 15) := by omega
    refine z_iload C dL_chances_322 rfl ?_
    refine z_aload_n (i := 0) C dL_chances_324 rfl rfl ?_
    refine z_iload C dL_chances_325 rfl ?_
    refine z_callSX C Y_L_stage sm_yL_stage ml_RL_107 (c_L_stage l hD hI) dL_chances_327 rfl rfl (fun _ => Nat.le_of_ble_eq_true rfl) ⟨Nat.le_of_ble_eq_true rfl, Nat.le_of_ble_eq_true rfl⟩ (by show _ ≤ 4000 ∧ _ ≤ 24000; omega) (z_q0 (w := (nI (stN a (k)))) (kq_cha hI.1 hk9) (by rw [zN_nI (by omega)]; exact (st_N hI hk9).2) ?_) z_nx
    refine z_iconst (v := nI 4) C dL_chances_330 (by decide) ?_
    have hst := (st_N hI hk9).2
    refine z_icmp_ge (tgt := 338) C dL_chances_331 (by decide) (fun h331 => ?_) (fun h331 => ?_)
    · refine z_iconst (v := nI 0) C dL_chances_338 (by decide) ?_
      refine z_iadd C dL_chances_339 ?_
      refine z_top (w := opnL a (k + 1)) (by
        unfold opnL
        rw [sumL, opnB, hst]
        rw [decide_eq_false (show ¬ nI (stN a k) < 4 from fun z => absurd h331 (fun z2 => Int32.not_le.mpr z z2))]
        rfl) ?_
      refine z_istore C dL_chances_340 (by decide) ?_
      refine z_iinc (v := nI (k + 1)) C dL_chances_342 (by decide) rfl (zinc _) ?_
      refine z_goto (tgt := 313) C dL_chances_345 (by decide) ?_
      refine z_sub (L' := [(0, aR 0 0), (1, aR 80 0), (2, aR 80 2), (3, aR 80 3), (4, aR 80 4), (5, aI (u9)), (6, aR 80 5), (7, aI (opnL a (k + 1))), (8, aI (nI (k + 1)))]) (zs1 rfl (zs1 rfl (zs1 rfl (zs1 rfl (zs1 rfl (zs1 rfl (zs1 rfl (zs1 rfl (zs1 rfl zs0))))))))) ?_
      exact z_wd (by omega) (by omega) (ih (k + 1) (by omega))
    · refine z_iconst (v := nI 1) C dL_chances_334 (by decide) ?_
      refine z_goto (tgt := 339) C dL_chances_335 (by decide) ?_
      refine z_iadd C dL_chances_339 ?_
      refine z_top (w := opnL a (k + 1)) (by
        unfold opnL
        rw [sumL, opnB, hst]
        rw [decide_eq_true (show nI (stN a k) < 4 from Int32.not_le.mp h331)]
        rfl) ?_
      refine z_istore C dL_chances_340 (by decide) ?_
      refine z_iinc (v := nI (k + 1)) C dL_chances_342 (by decide) rfl (zinc _) ?_
      refine z_goto (tgt := 313) C dL_chances_345 (by decide) ?_
      refine z_sub (L' := [(0, aR 0 0), (1, aR 80 0), (2, aR 80 2), (3, aR 80 3), (4, aR 80 4), (5, aI (u9)), (6, aR 80 5), (7, aI (opnL a (k + 1))), (8, aI (nI (k + 1)))]) (zs1 rfl (zs1 rfl (zs1 rfl (zs1 rfl (zs1 rfl (zs1 rfl (zs1 rfl (zs1 rfl (zs1 rfl zs0))))))))) ?_
      exact z_wd (by omega) (by omega) (ih (k + 1) (by omega))
set_option maxRecDepth 100000 in
set_option maxHeartbeats 4000000 in
theorem ch_5a (C : zC X p l s m args meth c cL_chances 12 RL) (hC : ChC x a A σ) (h5 : σ 80 5 = some (iC 6 f)) {u9 u7 u8 : Int32} {k : Nat} (hk : k < zN (x 1)) (hb : cells + 6 * zN (x 15) ≤ 4000 ∧ slots + 36 * zN (x 15) ≤ 24000) (kk : zG X p l e (zRm 10 4000 24000) s m args below meth c 12 σ0 loc0 Q (cells + 6 * zN (x 15)) (slots + 36 * zN (x 15)) σ 422 [(0, aR 0 0), (1, aR 80 0), (2, aR 80 2), (3, aR 80 3), (4, aR 80 4), (5, aI (u9)), (6, aR 80 5), (7, aI (u7)), (8, aI (u8)), (9, aI (nI (k))), (10, aI (own1 x a k (zN (x 15))))] []) : ∀ (d n : Nat), n + d = zN (x 15) → zG X p l e (zRm 10 4000 24000) s m args below meth c 12 σ0 loc0 Q (cells + 6 * n) (slots + 36 * n) σ 369 [(0, aR 0 0), (1, aR 80 0), (2, aR 80 2), (3, aR 80 3), (4, aR 80 4), (5, aI (u9)), (6, aR 80 5), (7, aI (u7)), (8, aI (u8)), (9, aI (nI (k))), (10, aI (own1 x a k n)), (11, aI (nI (n)))] [] := by
  obtain ⟨hD, hI, hJ, ⟨⟨t0, t1, t2, t3, t4, t5, t6⟩, hTa, hTb, hTd, hTq⟩, hrow⟩ := id hC
  obtain ⟨i0, i1, i6, i11, i15, i23, i24, i29, iA, iS, iC, iQ, iP⟩ := id hI.1
  have b0 := i0.2
  have b1 := i1.2
  have b11 := i11.2
  have b15 := hJ.1.1
  have b23 := hJ.1.2
  have g0 : A 4 0 = nI (zN (x 1)) := t0.trans i1.1
  have g1 : A 4 1 = nI (zN (x 11)) := t1.trans i11.1
  have g2 : A 4 2 = nI (zN (x 15)) := t2.trans i15.1
  have g3 : A 4 3 = nI (zN (x 23)) := t3.trans i23.1
  have g6 : A 4 6 = nI (zN (x 0)) := t6.trans i0.1
  intro d
  induction d with
  | zero =>
    intro n h9
    refine z_iload C dL_chances_369 rfl ?_
    refine z_aload C dL_chances_371 rfl ?_
    refine z_iconst (v := nI 2) C dL_chances_373 (by decide) ?_
    refine z_ialdN C dL_chances_374 (hrow 4 (by decide)) (show _ < 7 by omega) (by decide) ?_
    refine z_top (w := (nI (zN (x 15)))) (g2) ?_
    refine z_icmp_ge (tgt := 422) C dL_chances_375 (by decide) (fun _ => ?_) (fun h => absurd (by rw [show n = zN (x 15) by omega]; exact Int32.le_refl _) h)
    refine z_sub (L' := [(0, aR 0 0), (1, aR 80 0), (2, aR 80 2), (3, aR 80 3), (4, aR 80 4), (5, aI (u9)), (6, aR 80 5), (7, aI (u7)), (8, aI (u8)), (9, aI (nI (k))), (10, aI (own1 x a k n))]) (zs1 rfl (zs1 rfl (zs1 rfl (zs1 rfl (zs1 rfl (zs1 rfl (zs1 rfl (zs1 rfl (zs1 rfl (zs1 rfl (zs1 rfl zs0))))))))))) ?_
    have e9 : n = zN (x 15) := by omega
    rw [e9]
    exact kk
  | succ d ih =>
    intro n h9
    refine z_iload C dL_chances_369 rfl ?_
    refine z_aload C dL_chances_371 rfl ?_
    refine z_iconst (v := nI 2) C dL_chances_373 (by decide) ?_
    refine z_ialdN C dL_chances_374 (hrow 4 (by decide)) (show _ < 7 by omega) (by decide) ?_
    refine z_top (w := (nI (zN (x 15)))) (g2) ?_
    refine z_icmp_ge (tgt := 422) C dL_chances_375 (by decide) (fun h => absurd h (nI_ge (by omega) (by omega))) (fun _ => ?_)
    have hk9 : n < zN (x 15) := by omega
    obtain ⟨d0, d1, d3, t00, d2, dsum⟩ := hTd n hk9
    have hst := (st_N hI hk9).2
    obtain ⟨⟨i9, hi9, ei9⟩, -⟩ := iC n hk9
    refine z_iload C dL_chances_378 rfl ?_
    refine z_aload_n (i := 2) C dL_chances_380 rfl rfl ?_
    refine z_iconst (v := nI 4) C dL_chances_381 (by decide) ?_
    refine z_iload C dL_chances_382 rfl ?_
    refine z_imul C dL_chances_384 ?_
    refine z_top (w := (nI ((4 * n)))) (pk_mul _ _) ?_
    refine z_iconst (v := nI 1) C dL_chances_385 (by decide) ?_
    refine z_iadd C dL_chances_386 ?_
    refine z_top (w := (nI (((4 * n) + 1)))) (nI_add _ _) ?_
    refine z_ialdN C dL_chances_387 (hrow 2 (by decide)) (show _ < 64 by omega) (by decide) ?_
    refine z_top (w := (a 16 n)) (d1) ?_
    refine z_iload C dL_chances_388 rfl ?_
    refine z_icmp_ne (tgt := 412) C dL_chances_390 (by decide) (fun h390 => ?_) (fun h390 => ?_)
    · refine z_iconst (v := nI 0) C dL_chances_412 (by decide) ?_
      refine z_iadd C dL_chances_413 ?_
      refine z_top (w := own1 x a k (n + 1)) (by
        unfold own1
        rw [sumL, decide_eq_false h390]
        rfl) ?_
      refine z_istore C dL_chances_414 (by decide) ?_
      refine z_iinc (v := nI (n + 1)) C dL_chances_416 (by decide) rfl (zinc _) ?_
      refine z_goto (tgt := 369) C dL_chances_419 (by decide) ?_
      refine z_sub (L' := [(0, aR 0 0), (1, aR 80 0), (2, aR 80 2), (3, aR 80 3), (4, aR 80 4), (5, aI (u9)), (6, aR 80 5), (7, aI (u7)), (8, aI (u8)), (9, aI (nI (k))), (10, aI (own1 x a k (n + 1))), (11, aI (nI (n + 1)))]) (zs1 rfl (zs1 rfl (zs1 rfl (zs1 rfl (zs1 rfl (zs1 rfl (zs1 rfl (zs1 rfl (zs1 rfl (zs1 rfl (zs1 rfl (zs1 rfl zs0)))))))))))) ?_
      exact z_wd (by omega) (by omega) (ih (n + 1) (by omega))
    · refine z_aload_n (i := 0) C dL_chances_393 rfl rfl ?_
      refine z_iload C dL_chances_394 rfl ?_
      refine z_callSX C Y_L_stage sm_yL_stage ml_RL_107 (c_L_stage l hD hI) dL_chances_396 rfl rfl (fun _ => Nat.le_of_ble_eq_true rfl) ⟨Nat.le_of_ble_eq_true rfl, Nat.le_of_ble_eq_true rfl⟩ (by show _ ≤ 4000 ∧ _ ≤ 24000; omega) (z_q0 (w := (nI (stN a (n)))) (kq_cha hI.1 hk9) (by rw [zN_nI (by omega)]; exact (st_N hI hk9).2) ?_) z_nx
      refine z_iconst (v := nI 4) C dL_chances_399 (by decide) ?_
      refine z_icmp_ne (tgt := 412) C dL_chances_400 (by decide) (fun h400 => ?_) (fun h400 => ?_)
      · refine z_iconst (v := nI 0) C dL_chances_412 (by decide) ?_
        refine z_iadd C dL_chances_413 ?_
        refine z_top (w := own1 x a k (n + 1)) (by
          unfold own1
          rw [sumL, decide_eq_true h390, hst, decide_eq_false (show ¬ nI (stN a n) = 4 from h400)]
          rfl) ?_
        refine z_istore C dL_chances_414 (by decide) ?_
        refine z_iinc (v := nI (n + 1)) C dL_chances_416 (by decide) rfl (zinc _) ?_
        refine z_goto (tgt := 369) C dL_chances_419 (by decide) ?_
        refine z_sub (L' := [(0, aR 0 0), (1, aR 80 0), (2, aR 80 2), (3, aR 80 3), (4, aR 80 4), (5, aI (u9)), (6, aR 80 5), (7, aI (u7)), (8, aI (u8)), (9, aI (nI (k))), (10, aI (own1 x a k (n + 1))), (11, aI (nI (n + 1)))]) (zs1 rfl (zs1 rfl (zs1 rfl (zs1 rfl (zs1 rfl (zs1 rfl (zs1 rfl (zs1 rfl (zs1 rfl (zs1 rfl (zs1 rfl (zs1 rfl zs0)))))))))))) ?_
        exact z_wd (by omega) (by omega) (ih (n + 1) (by omega))
  
      · refine z_aload_n (i := 0) C dL_chances_403 rfl rfl ?_
        refine z_iload C dL_chances_404 rfl ?_
        refine z_callSX C Y_L_worth sm_yL_worth ml_RL_113 (c_L_worth l hD hI) dL_chances_406 rfl rfl (fun _ => Nat.le_of_ble_eq_true rfl) ⟨Nat.le_of_ble_eq_true rfl, Nat.le_of_ble_eq_true rfl⟩ (by show _ ≤ 4000 ∧ _ ≤ 24000; omega) (z_q0 (w := (wrt x a (n))) (kq_cha hI.1 hk9) (by rw [zN_nI (by omega)]) ?_) z_nx
        refine z_goto (tgt := 413) C dL_chances_409 (by decide) ?_
        refine z_iadd C dL_chances_413 ?_
        refine z_top (w := own1 x a k (n + 1)) (by
          unfold own1
          rw [sumL, decide_eq_true h390, hst, decide_eq_true (show nI (stN a n) = 4 from h400)]
          rfl) ?_
        refine z_istore C dL_chances_414 (by decide) ?_
        refine z_iinc (v := nI (n + 1)) C dL_chances_416 (by decide) rfl (zinc _) ?_
        refine z_goto (tgt := 369) C dL_chances_419 (by decide) ?_
        refine z_sub (L' := [(0, aR 0 0), (1, aR 80 0), (2, aR 80 2), (3, aR 80 3), (4, aR 80 4), (5, aI (u9)), (6, aR 80 5), (7, aI (u7)), (8, aI (u8)), (9, aI (nI (k))), (10, aI (own1 x a k (n + 1))), (11, aI (nI (n + 1)))]) (zs1 rfl (zs1 rfl (zs1 rfl (zs1 rfl (zs1 rfl (zs1 rfl (zs1 rfl (zs1 rfl (zs1 rfl (zs1 rfl (zs1 rfl (zs1 rfl zs0)))))))))))) ?_
        exact z_wd (by omega) (by omega) (ih (n + 1) (by omega))
set_option maxRecDepth 100000 in
set_option maxHeartbeats 4000000 in
theorem ch_5b (C : zC X p l s m args meth c cL_chances 12 RL) (hC : ChC x a A σ) (h5 : σ 80 5 = some (iC 6 f)) {u9 u7 u8 : Int32} {k : Nat} (hk : k < zN (x 1)) (hb : cells + 3 * zN (x 1) ≤ 4000 ∧ slots + 18 * zN (x 1) ≤ 24000) (kk : zG X p l e (zRm 10 4000 24000) s m args below meth c 12 σ0 loc0 Q (cells + 3 * zN (x 1)) (slots + 18 * zN (x 1)) σ 466 [(0, aR 0 0), (1, aR 80 0), (2, aR 80 2), (3, aR 80 3), (4, aR 80 4), (5, aI (u9)), (6, aR 80 5), (7, aI (u7)), (8, aI (u8)), (9, aI (nI (k))), (10, aI (own1 x a k (zN (x 15)) + own2 x a k (zN (x 1))))] []) : ∀ (d n : Nat), n + d = zN (x 1) → zG X p l e (zRm 10 4000 24000) s m args below meth c 12 σ0 loc0 Q (cells + 3 * n) (slots + 18 * n) σ 425 [(0, aR 0 0), (1, aR 80 0), (2, aR 80 2), (3, aR 80 3), (4, aR 80 4), (5, aI (u9)), (6, aR 80 5), (7, aI (u7)), (8, aI (u8)), (9, aI (nI (k))), (10, aI (own1 x a k (zN (x 15)) + own2 x a k n)), (11, aI (nI (n)))] [] := by
  obtain ⟨hD, hI, hJ, ⟨⟨t0, t1, t2, t3, t4, t5, t6⟩, hTa, hTb, hTd, hTq⟩, hrow⟩ := id hC
  obtain ⟨i0, i1, i6, i11, i15, i23, i24, i29, iA, iS, iC, iQ, iP⟩ := id hI.1
  have b0 := i0.2
  have b1 := i1.2
  have b11 := i11.2
  have b15 := hJ.1.1
  have b23 := hJ.1.2
  have g0 : A 4 0 = nI (zN (x 1)) := t0.trans i1.1
  have g1 : A 4 1 = nI (zN (x 11)) := t1.trans i11.1
  have g2 : A 4 2 = nI (zN (x 15)) := t2.trans i15.1
  have g3 : A 4 3 = nI (zN (x 23)) := t3.trans i23.1
  have g6 : A 4 6 = nI (zN (x 0)) := t6.trans i0.1
  intro d
  induction d with
  | zero =>
    intro n h9
    refine z_iload C dL_chances_425 rfl ?_
    refine z_aload C dL_chances_427 rfl ?_
    refine z_iconst (v := nI 0) C dL_chances_429 (by decide) ?_
    refine z_ialdN C dL_chances_430 (hrow 4 (by decide)) (show _ < 7 by omega) (by decide) ?_
    refine z_top (w := (nI (zN (x 1)))) (g0) ?_
    refine z_icmp_ge (tgt := 466) C dL_chances_431 (by decide) (fun _ => ?_) (fun h => absurd (by rw [show n = zN (x 1) by omega]; exact Int32.le_refl _) h)
    refine z_sub (L' := [(0, aR 0 0), (1, aR 80 0), (2, aR 80 2), (3, aR 80 3), (4, aR 80 4), (5, aI (u9)), (6, aR 80 5), (7, aI (u7)), (8, aI (u8)), (9, aI (nI (k))), (10, aI (own1 x a k (zN (x 15)) + own2 x a k n))]) (zs1 rfl (zs1 rfl (zs1 rfl (zs1 rfl (zs1 rfl (zs1 rfl (zs1 rfl (zs1 rfl (zs1 rfl (zs1 rfl (zs1 rfl zs0))))))))))) ?_
    have e9 : n = zN (x 1) := by omega
    rw [e9]
    exact kk
  | succ d ih =>
    intro n h9
    refine z_iload C dL_chances_425 rfl ?_
    refine z_aload C dL_chances_427 rfl ?_
    refine z_iconst (v := nI 0) C dL_chances_429 (by decide) ?_
    refine z_ialdN C dL_chances_430 (hrow 4 (by decide)) (show _ < 7 by omega) (by decide) ?_
    refine z_top (w := (nI (zN (x 1)))) (g0) ?_
    refine z_icmp_ge (tgt := 466) C dL_chances_431 (by decide) (fun h => absurd h (nI_ge (by omega) (by omega))) (fun _ => ?_)
    have hk9 : n < zN (x 1) := by omega
    refine z_iload C dL_chances_434 rfl ?_
    refine z_aload_n (i := 1) C dL_chances_436 rfl rfl ?_
    refine z_iconst (v := nI 4) C dL_chances_437 (by decide) ?_
    refine z_iload C dL_chances_438 rfl ?_
    refine z_imul C dL_chances_440 ?_
    refine z_top (w := (nI ((4 * n)))) (pk_mul _ _) ?_
    refine z_ialdN C dL_chances_441 (hrow 0 (by decide)) (show _ < 64 by omega) (by decide) ?_
    refine z_top (w := (a 2 n)) (hTa n hk9) ?_
    refine z_iload C dL_chances_442 rfl ?_
    refine z_icmp_ne (tgt := 456) C dL_chances_444 (by decide) (fun h444 => ?_) (fun h444 => ?_)
    · refine z_iconst (v := nI 0) C dL_chances_456 (by decide) ?_
      refine z_iadd C dL_chances_457 ?_
      refine z_top (w := own1 x a k (zN (x 15)) + own2 x a k (n + 1)) (by
        rw [Int32.add_assoc]
        unfold own2
        rw [sumL, decide_eq_false h444]
        rfl) ?_
      refine z_istore C dL_chances_458 (by decide) ?_
      refine z_iinc (v := nI (n + 1)) C dL_chances_460 (by decide) rfl (zinc _) ?_
      refine z_goto (tgt := 425) C dL_chances_463 (by decide) ?_
      refine z_sub (L' := [(0, aR 0 0), (1, aR 80 0), (2, aR 80 2), (3, aR 80 3), (4, aR 80 4), (5, aI (u9)), (6, aR 80 5), (7, aI (u7)), (8, aI (u8)), (9, aI (nI (k))), (10, aI (own1 x a k (zN (x 15)) + own2 x a k (n + 1))), (11, aI (nI (n + 1)))]) (zs1 rfl (zs1 rfl (zs1 rfl (zs1 rfl (zs1 rfl (zs1 rfl (zs1 rfl (zs1 rfl (zs1 rfl (zs1 rfl (zs1 rfl (zs1 rfl zs0)))))))))))) ?_
      exact z_wd (by omega) (by omega) (ih (n + 1) (by omega))
    · refine z_aload_n (i := 0) C dL_chances_447 rfl rfl ?_
      refine z_iload C dL_chances_448 rfl ?_
      refine z_callSX C Y_L_won sm_yL_won ml_RL_120 (c_L_won l hD hI) dL_chances_450 rfl rfl (fun _ => Nat.le_of_ble_eq_true rfl) ⟨Nat.le_of_ble_eq_true rfl, Nat.le_of_ble_eq_true rfl⟩ (by show _ ≤ 4000 ∧ _ ≤ 24000; omega) (z_q0 (w := (wonL x a (nI n) (zN (x 15)))) (kq_acc hI.1 hk9) (rfl) ?_) z_nx
      refine z_goto (tgt := 457) C dL_chances_453 (by decide) ?_
      refine z_iadd C dL_chances_457 ?_
      refine z_top (w := own1 x a k (zN (x 15)) + own2 x a k (n + 1)) (by
        rw [Int32.add_assoc]
        unfold own2
        rw [sumL, decide_eq_true h444]
        rfl) ?_
      refine z_istore C dL_chances_458 (by decide) ?_
      refine z_iinc (v := nI (n + 1)) C dL_chances_460 (by decide) rfl (zinc _) ?_
      refine z_goto (tgt := 425) C dL_chances_463 (by decide) ?_
      refine z_sub (L' := [(0, aR 0 0), (1, aR 80 0), (2, aR 80 2), (3, aR 80 3), (4, aR 80 4), (5, aI (u9)), (6, aR 80 5), (7, aI (u7)), (8, aI (u8)), (9, aI (nI (k))), (10, aI (own1 x a k (zN (x 15)) + own2 x a k (n + 1))), (11, aI (nI (n + 1)))]) (zs1 rfl (zs1 rfl (zs1 rfl (zs1 rfl (zs1 rfl (zs1 rfl (zs1 rfl (zs1 rfl (zs1 rfl (zs1 rfl (zs1 rfl (zs1 rfl zs0)))))))))))) ?_
      exact z_wd (by omega) (by omega) (ih (n + 1) (by omega))
set_option maxRecDepth 100000 in
set_option maxHeartbeats 4000000 in
theorem ch_5 (C : zC X p l s m args meth c cL_chances 12 RL) (hC : ChC x a A σ) (h5 : σ 80 5 = some (iC 6 f)) {u9 u7 : Int32} (hb : cells + 200 * zN (x 1) ≤ 4000 ∧ slots + 1200 * zN (x 1) ≤ 24000) (kk : zG X p l e (zRm 10 4000 24000) s m args below meth c 12 σ0 loc0 Q (cells + 200 * zN (x 1)) (slots + 1200 * zN (x 1)) σ 505 [(0, aR 0 0), (1, aR 80 0), (2, aR 80 2), (3, aR 80 3), (4, aR 80 4), (5, aI (u9)), (6, aR 80 5), (7, aI (u7)), (8, aI (sumL (fun k => cond (decide (a 2 k < 0)) (wonL x a (nI k) (zN (x 15))) 0) (zN (x 1))))] []) : ∀ (d k : Nat), k + d = zN (x 1) → zG X p l e (zRm 10 4000 24000) s m args below meth c 12 σ0 loc0 Q (cells + 200 * k) (slots + 1200 * k) σ 354 [(0, aR 0 0), (1, aR 80 0), (2, aR 80 2), (3, aR 80 3), (4, aR 80 4), (5, aI (u9)), (6, aR 80 5), (7, aI (u7)), (8, aI (sumL (fun k => cond (decide (a 2 k < 0)) (wonL x a (nI k) (zN (x 15))) 0) k)), (9, aI (nI (k)))] [] := by
  obtain ⟨hD, hI, hJ, ⟨⟨t0, t1, t2, t3, t4, t5, t6⟩, hTa, hTb, hTd, hTq⟩, hrow⟩ := id hC
  obtain ⟨i0, i1, i6, i11, i15, i23, i24, i29, iA, iS, iC, iQ, iP⟩ := id hI.1
  have b0 := i0.2
  have b1 := i1.2
  have b11 := i11.2
  have b15 := hJ.1.1
  have b23 := hJ.1.2
  have g0 : A 4 0 = nI (zN (x 1)) := t0.trans i1.1
  have g1 : A 4 1 = nI (zN (x 11)) := t1.trans i11.1
  have g2 : A 4 2 = nI (zN (x 15)) := t2.trans i15.1
  have g3 : A 4 3 = nI (zN (x 23)) := t3.trans i23.1
  have g6 : A 4 6 = nI (zN (x 0)) := t6.trans i0.1
  intro d
  induction d with
  | zero =>
    intro k h9
    refine z_iload C dL_chances_354 rfl ?_
    refine z_aload C dL_chances_356 rfl ?_
    refine z_iconst (v := nI 0) C dL_chances_358 (by decide) ?_
    refine z_ialdN C dL_chances_359 (hrow 4 (by decide)) (show _ < 7 by omega) (by decide) ?_
    refine z_top (w := (nI (zN (x 1)))) (g0) ?_
    refine z_icmp_ge (tgt := 505) C dL_chances_360 (by decide) (fun _ => ?_) (fun h => absurd (by rw [show k = zN (x 1) by omega]; exact Int32.le_refl _) h)
    refine z_sub (L' := [(0, aR 0 0), (1, aR 80 0), (2, aR 80 2), (3, aR 80 3), (4, aR 80 4), (5, aI (u9)), (6, aR 80 5), (7, aI (u7)), (8, aI (sumL (fun k => cond (decide (a 2 k < 0)) (wonL x a (nI k) (zN (x 15))) 0) k))]) (zs1 rfl (zs1 rfl (zs1 rfl (zs1 rfl (zs1 rfl (zs1 rfl (zs1 rfl (zs1 rfl (zs1 rfl zs0))))))))) ?_
    have e9 : k = zN (x 1) := by omega
    rw [e9]
    exact kk
  | succ d ih =>
    intro k h9
    refine z_iload C dL_chances_354 rfl ?_
    refine z_aload C dL_chances_356 rfl ?_
    refine z_iconst (v := nI 0) C dL_chances_358 (by decide) ?_
    refine z_ialdN C dL_chances_359 (hrow 4 (by decide)) (show _ < 7 by omega) (by decide) ?_
    refine z_top (w := (nI (zN (x 1)))) (g0) ?_
    refine z_icmp_ge (tgt := 505) C dL_chances_360 (by decide) (fun h => absurd h (nI_ge (by omega) (by omega))) (fun _ => ?_)
    have hk9 : k < zN (x 1) := by omega
    refine z_iconst (v := nI 0) C dL_chances_363 (by decide) ?_
    refine z_istore C dL_chances_364 (by decide) ?_
    refine z_iconst (v := nI 0) C dL_chances_366 (by decide) ?_
    refine z_istore C dL_chances_367 (by decide) ?_
    refine z_wd (k := cells + 200 * k + 6 * 0) (n := slots + 1200 * k + 36 * 0) (by omega) (by omega) ?_
    refine z_sub (L' := [(0, aR 0 0), (1, aR 80 0), (2, aR 80 2), (3, aR 80 3), (4, aR 80 4), (5, aI (u9)), (6, aR 80 5), (7, aI (u7)), (8, aI (sumL (fun k => cond (decide (a 2 k < 0)) (wonL x a (nI k) (zN (x 15))) 0) k)), (9, aI (nI (k))), (10, aI (own1 x a k 0)), (11, aI (nI 0))]) (zs1 rfl (zs1 rfl (zs1 rfl (zs1 rfl (zs1 rfl (zs1 rfl (zs1 rfl (zs1 rfl (zs1 rfl (zs1 rfl (zs1 rfl (zs1 rfl zs0)))))))))))) ?_
    refine ch_5a (cells := cells + 200 * k) (slots := slots + 1200 * k) C hC h5 hk9 (by omega) ?_ (zN (x 15)) 0 (Nat.zero_add _)
    refine z_iconst (v := nI 0) C dL_chances_422 (by decide) ?_
    refine z_istore C dL_chances_423 (by decide) ?_
    refine z_wd (k := cells + 200 * k + 96 + 3 * 0) (n := slots + 1200 * k + 576 + 18 * 0) (by omega) (by omega) ?_
    have e0 : own1 x a k (zN (x 15)) = own1 x a k (zN (x 15)) + own2 x a k 0 := (Int32.add_zero _).symm
    refine z_sub (L' := [(0, aR 0 0), (1, aR 80 0), (2, aR 80 2), (3, aR 80 3), (4, aR 80 4), (5, aI (u9)), (6, aR 80 5), (7, aI (u7)), (8, aI (sumL (fun k => cond (decide (a 2 k < 0)) (wonL x a (nI k) (zN (x 15))) 0) k)), (9, aI (nI (k))), (10, aI (own1 x a k (zN (x 15)))), (11, aI (nI 0))]) (zs1 rfl (zs1 rfl (zs1 rfl (zs1 rfl (zs1 rfl (zs1 rfl (zs1 rfl (zs1 rfl (zs1 rfl (zs1 rfl (zs1 rfl (zs1 rfl zs0)))))))))))) ?_
    rw [e0]
    refine ch_5b (cells := cells + 200 * k + 96) (slots := slots + 1200 * k + 576) C hC h5 hk9 (by omega) ?_ (zN (x 1)) 0 (Nat.zero_add _)
    rw [← won_tree hI hk9]
    refine z_wd (k := cells + 200 * k + 150) (n := slots + 1200 * k + 900) (by omega) (by omega) ?_
    refine z_iload C dL_chances_466 rfl ?_
    refine z_aload_n (i := 1) C dL_chances_468 rfl rfl ?_
    refine z_iconst (v := nI 4) C dL_chances_469 (by decide) ?_
    refine z_iload C dL_chances_470 rfl ?_
    refine z_imul C dL_chances_472 ?_
    refine z_top (w := (nI ((4 * k)))) (pk_mul _ _) ?_
    refine z_ialdN C dL_chances_473 (hrow 0 (by decide)) (show _ < 64 by omega) (by decide) ?_
    refine z_top (w := (a 2 k)) (hTa k hk9) ?_
    refine z_if_ge (tgt := 482) C dL_chances_474 (by decide) (fun h474 => ?_) (fun h474 => ?_)
    · refine z_iconst (v := nI 0) C dL_chances_482 (by decide) ?_
      refine z_iadd C dL_chances_483 ?_
      refine z_top (w := sumL (fun k => cond (decide (a 2 k < 0)) (wonL x a (nI k) (zN (x 15))) 0) (k + 1)) (by
        rw [sumL, decide_eq_false (fun z => absurd h474 (Int32.not_le.mpr z))]
        rfl) ?_
      refine z_istore C dL_chances_484 (by decide) ?_
      refine z_aload_n (i := 0) C dL_chances_486 rfl rfl ?_
      refine z_iload C dL_chances_487 rfl ?_
      refine z_callSX C Y_L_won sm_yL_won ml_RL_120 (c_L_won l hD hI) dL_chances_489 rfl rfl (fun _ => Nat.le_of_ble_eq_true rfl) ⟨Nat.le_of_ble_eq_true rfl, Nat.le_of_ble_eq_true rfl⟩ (by show _ ≤ 4000 ∧ _ ≤ 24000; omega) (z_q0 (w := (wonL x a (nI k) (zN (x 15)))) (kq_acc hI.1 hk9) (rfl) ?_) z_nx
      refine z_iload C dL_chances_492 rfl ?_
      refine z_icmp_eq (tgt := 499) C dL_chances_494 (by decide) (fun _ => ?_) (fun h => absurd (rfl) h)
      refine z_iinc (v := nI (k + 1)) C dL_chances_499 (by decide) rfl (zinc _) ?_
      refine z_goto (tgt := 354) C dL_chances_502 (by decide) ?_
      refine z_sub (L' := [(0, aR 0 0), (1, aR 80 0), (2, aR 80 2), (3, aR 80 3), (4, aR 80 4), (5, aI (u9)), (6, aR 80 5), (7, aI (u7)), (8, aI (sumL (fun k => cond (decide (a 2 k < 0)) (wonL x a (nI k) (zN (x 15))) 0) (k + 1))), (9, aI (nI (k + 1)))]) (zs1 rfl (zs1 rfl (zs1 rfl (zs1 rfl (zs1 rfl (zs1 rfl (zs1 rfl (zs1 rfl (zs1 rfl (zs1 rfl zs0)))))))))) ?_
      exact z_wd (by omega) (by omega) (ih (k + 1) (by omega))
    · refine z_iload C dL_chances_477 rfl ?_
      refine z_goto (tgt := 483) C dL_chances_479 (by decide) ?_
      refine z_iadd C dL_chances_483 ?_
      refine z_top (w := sumL (fun k => cond (decide (a 2 k < 0)) (wonL x a (nI k) (zN (x 15))) 0) (k + 1)) (by
        rw [sumL, decide_eq_true (Int32.not_le.mp h474)]
        rfl) ?_
      refine z_istore C dL_chances_484 (by decide) ?_
      refine z_aload_n (i := 0) C dL_chances_486 rfl rfl ?_
      refine z_iload C dL_chances_487 rfl ?_
      refine z_callSX C Y_L_won sm_yL_won ml_RL_120 (c_L_won l hD hI) dL_chances_489 rfl rfl (fun _ => Nat.le_of_ble_eq_true rfl) ⟨Nat.le_of_ble_eq_true rfl, Nat.le_of_ble_eq_true rfl⟩ (by show _ ≤ 4000 ∧ _ ≤ 24000; omega) (z_q0 (w := (wonL x a (nI k) (zN (x 15)))) (kq_acc hI.1 hk9) (rfl) ?_) z_nx
      refine z_iload C dL_chances_492 rfl ?_
      refine z_icmp_eq (tgt := 499) C dL_chances_494 (by decide) (fun _ => ?_) (fun h => absurd (rfl) h)
      refine z_iinc (v := nI (k + 1)) C dL_chances_499 (by decide) rfl (zinc _) ?_
      refine z_goto (tgt := 354) C dL_chances_502 (by decide) ?_
      refine z_sub (L' := [(0, aR 0 0), (1, aR 80 0), (2, aR 80 2), (3, aR 80 3), (4, aR 80 4), (5, aI (u9)), (6, aR 80 5), (7, aI (u7)), (8, aI (sumL (fun k => cond (decide (a 2 k < 0)) (wonL x a (nI k) (zN (x 15))) 0) (k + 1))), (9, aI (nI (k + 1)))]) (zs1 rfl (zs1 rfl (zs1 rfl (zs1 rfl (zs1 rfl (zs1 rfl (zs1 rfl (zs1 rfl (zs1 rfl (zs1 rfl zs0)))))))))) ?_
      exact z_wd (by omega) (by omega) (ih (k + 1) (by omega))
end CHB
theorem kx_1 {p q r : Bool} (h : p = false) : goC p q r = 1 := by rw [h]; rfl
theorem z_d0 {K : zHp → List zV → Prop} {v : Int32} {σ : zHp} {rest : List zV} (kk : K σ (aI v :: rest)) : ∀ r σ1, zPi (zDq 0 v σ) r σ1 → K σ1 (r.toList ++ rest) := fun r σ1 ⟨x, e, _, e1, e2⟩ => by
  subst e
  rw [e2, e1]
  exact kk
set_option maxRecDepth 100000 in
set_option maxHeartbeats 4000000 in
theorem c_L_chances {X : zX} (l : Launch) {x : Nat → Int32} {a A : Nat → Nat → Int32} {σ : zHp} (hC : ChC x a A σ) (h5n : σ 80 5 = none) : zM X l yL_chances cL_chances 12 (some .boolean) 10 4000 24000 [aR 0 0, aR 80 0, aR 80 2, aR 80 3, aR 80 4] σ (zPi (fun r σ1 => r = 1 ∧ ∀ k i, ¬ (k = 80 ∧ i = 5) → σ1 k i = σ k i)) zNx := by
  refine zM.of (by decide +kernel) (Nat.le_of_ble_eq_true rfl) (by simp [zcat, Value.category]) ?_
  intro p e s m args below meth c loc0 C hr hnm hT
  have hC0 := hC
  refine z_iconst (v := nI 0) C dL_chances_0 (by decide) ?_
  refine z_istore C dL_chances_1 (by decide) ?_
  refine z_bipush (v := nI 6) C dL_chances_3 (by decide) ?_
  refine z_newI C 80 5 dL_chances_5 (by decide) h5n (by decide) (N := 6) (by decide) (by decide) ⟨Nat.le_of_ble_eq_true rfl, Nat.le_of_ble_eq_true rfl⟩ ac__int ?_
  refine z_astore C dL_chances_7 (by decide) ?_
  refine z_iconst (v := nI 0) C dL_chances_9 (by decide) ?_
  refine z_istore C dL_chances_10 (by decide) ?_
  refine z_sub (L' := [(0, aR 0 0), (1, aR 80 0), (2, aR 80 2), (3, aR 80 3), (4, aR 80 4), (5, aI (nI 0)), (6, aR 80 5), (7, aI (nI 0))]) (zs1 rfl (zs1 rfl (zs1 rfl (zs1 rfl (zs1 rfl (zs1 rfl (zs1 rfl (zs1 rfl zs0)))))))) ?_
  refine z_wd (k := 1 + 30 * 0) (n := 6 + 180 * 0) (by omega) (by omega) ?_
  refine ch_1 C hC (fun σ2 f hag h5 hf => ?_) (zN (x 15)) 0 _ _ (Nat.zero_add _) (fun k i h => zput_n h) (zput_s _ _ _ _) (fun t _ => rfl)
  clear hC
  have hC := hC0.up hag
  obtain ⟨hD, hI, hJ, ⟨⟨t0, t1, t2, t3, t4, t5, t6⟩, hTa, hTb, hTd, hTq⟩, hrow⟩ := id hC
  obtain ⟨i0, i1, i6, i11, i15, i23, i24, i29, iA, iS, iC, iQ, iP⟩ := id hI.1
  have b0 := i0.2
  have b1 := i1.2
  have b11 := i11.2
  have b15 := hJ.1.1
  have b23 := hJ.1.2
  have g0 : A 4 0 = nI (zN (x 1)) := t0.trans i1.1
  have g1 : A 4 1 = nI (zN (x 11)) := t1.trans i11.1
  have g2 : A 4 2 = nI (zN (x 15)) := t2.trans i15.1
  have g3 : A 4 3 = nI (zN (x 23)) := t3.trans i23.1
  have g6 : A 4 6 = nI (zN (x 0)) := t6.trans i0.1
  refine z_iconst (v := nI 0) C dL_chances_192 (by decide) ?_
  refine z_istore C dL_chances_193 (by decide) ?_
  refine z_sub (L' := [(0, aR 0 0), (1, aR 80 0), (2, aR 80 2), (3, aR 80 3), (4, aR 80 4), (5, aI (watL a 0)), (6, aR 80 5), (7, aI (nI 0))]) (zs1 rfl (zs1 rfl (zs1 rfl (zs1 rfl (zs1 rfl (zs1 rfl (zs1 rfl (zs1 rfl zs0)))))))) ?_
  refine z_wd (k := 500 + 3 * 0) (n := 3000 + 18 * 0) (by omega) (by omega) ?_
  refine ch_2 C hC h5 (by omega) ?_ (zN (x 23)) 0 (Nat.zero_add _)
  refine z_iconst (v := nI 0) C dL_chances_248 (by decide) ?_
  refine z_istore C dL_chances_249 (by decide) ?_
  refine z_sub (L' := [(0, aR 0 0), (1, aR 80 0), (2, aR 80 2), (3, aR 80 3), (4, aR 80 4), (5, aI (watL a (zN (x 23)))), (6, aR 80 5), (7, aI (nI 0))]) (zs1 rfl (zs1 rfl (zs1 rfl (zs1 rfl (zs1 rfl (zs1 rfl (zs1 rfl (zs1 rfl zs0)))))))) ?_
  refine z_wd (k := 600 + 12 * 0) (n := 3600 + 72 * 0) (by omega) (by omega) ?_
  refine ch_3 C hC h5 hf (by omega) ?_ 6 0 rfl
  refine z_iconst (v := nI 0) C dL_chances_307 (by decide) ?_
  refine z_istore C dL_chances_308 (by decide) ?_
  refine z_iconst (v := nI 0) C dL_chances_310 (by decide) ?_
  refine z_istore C dL_chances_311 (by decide) ?_
  refine z_sub (L' := [(0, aR 0 0), (1, aR 80 0), (2, aR 80 2), (3, aR 80 3), (4, aR 80 4), (5, aI (watL a (zN (x 23)))), (6, aR 80 5), (7, aI (opnL a 0)), (8, aI (nI 0))]) (zs1 rfl (zs1 rfl (zs1 rfl (zs1 rfl (zs1 rfl (zs1 rfl (zs1 rfl (zs1 rfl (zs1 rfl zs0))))))))) ?_
  refine z_wd (k := 700 + 3 * 0) (n := 4200 + 18 * 0) (by omega) (by omega) ?_
  refine ch_4 C hC h5 (by omega) ?_ (zN (x 15)) 0 (Nat.zero_add _)
  refine z_iconst (v := nI 0) C dL_chances_348 (by decide) ?_
  refine z_istore C dL_chances_349 (by decide) ?_
  refine z_iconst (v := nI 0) C dL_chances_351 (by decide) ?_
  refine z_istore C dL_chances_352 (by decide) ?_
  refine z_sub (L' := [(0, aR 0 0), (1, aR 80 0), (2, aR 80 2), (3, aR 80 3), (4, aR 80 4), (5, aI (watL a (zN (x 23)))), (6, aR 80 5), (7, aI (opnL a (zN (x 15)))), (8, aI (sumL (fun k => cond (decide (a 2 k < 0)) (wonL x a (nI k) (zN (x 15))) 0) 0)), (9, aI (nI 0))]) (zs1 rfl (zs1 rfl (zs1 rfl (zs1 rfl (zs1 rfl (zs1 rfl (zs1 rfl (zs1 rfl (zs1 rfl (zs1 rfl zs0)))))))))) ?_
  refine z_wd (k := 750 + 200 * 0) (n := 4500 + 1200 * 0) (by omega) (by omega) ?_
  refine ch_5 C hC h5 (by omega) ?_ (zN (x 1)) 0 (Nat.zero_add _)
  refine z_wd (k := 3950) (n := 23700) (by omega) (by omega) ?_
  refine z_aload_n (i := 0) C dL_chances_505 rfl rfl ?_
  refine z_callV C Y_X6_waiting V_X6_waiting ml_RL_122 (c_X6_waiting l hD hI.1) dL_chances_506 rfl rfl hD.1.1 ⟨_, _, rfl⟩ (fun _ => Nat.le_of_ble_eq_true rfl) ⟨Nat.le_of_ble_eq_true rfl, Nat.le_of_ble_eq_true rfl⟩ (by show _ ≤ 4000 ∧ _ ≤ 24000; omega) (z_d0 ?_) (fun E9 σ1 hx => by obtain ⟨-, hk⟩ := hx; rcases hk with ⟨hk, -⟩ | ⟨hk, -⟩ | ⟨hk, -⟩ <;> exact absurd hk (by decide))
  refine z_iload C dL_chances_509 rfl ?_
  refine z_icmp_ne (tgt := 632) C dL_chances_511 (by decide) (fun h => absurd (rfl) h) (fun _ => ?_)
  refine z_iload C dL_chances_514 rfl ?_
  refine z_aload C dL_chances_516 rfl ?_
  refine z_iconst (v := nI 4) C dL_chances_518 (by decide) ?_
  refine z_ialdN C dL_chances_519 (h5) (show _ < 6 by omega) (by decide) ?_
  refine z_top (w := (allL x a 4 (zN (x 15)))) (hf 4 (by decide)) ?_
  refine z_icmp_ne (tgt := 632) C dL_chances_520 (by decide) (fun h => absurd (won_root hI) h) (fun _ => ?_)
  refine z_aload_n (i := 0) C dL_chances_523 rfl rfl ?_
  refine z_aload C dL_chances_524 rfl ?_
  refine z_bipush (v := nI 6) C dL_chances_526 (by decide) ?_
  refine z_ialdN C dL_chances_528 (hrow 4 (by decide)) (show _ < 7 by omega) (by decide) ?_
  refine z_top (w := (nI (zN (x 0)))) (g6) ?_
  refine z_callSX C Y_L_stalled sm_yL_stalled ml_RL_125 (c_L_stalled l hD hI) dL_chances_529 rfl rfl (fun _ => Nat.le_of_ble_eq_true rfl) ⟨Nat.le_of_ble_eq_true rfl, Nat.le_of_ble_eq_true rfl⟩ (by show _ ≤ 4000 ∧ _ ≤ 24000; omega) (z_q0 (w := (0)) (goC_0.mpr ⟨inB_nn (a := 0) (b := 100000) (by omega) i0.2 (by decide), rfl, rfl⟩) (by rw [← i0.1]; exact stl_0 i0 hJ.2.2.2.2.2.2.2.1 (Nat.le_refl _)) ?_) z_nx
  refine z_if_ne (tgt := 632) C dL_chances_532 (by decide) (fun h => absurd (rfl) h) (fun _ => ?_)
  obtain ⟨u8, o8, eu8, eo8, huo, ho8⟩ := stl_le (x := x) (a := a) (d := nI 0) (n := zN (x 15)) (by omega)
  refine z_aload_n (i := 0) C dL_chances_535 rfl rfl ?_
  refine z_iconst (v := nI 0) C dL_chances_536 (by decide) ?_
  refine z_callSX C Y_L_stalled sm_yL_stalled ml_RL_125 (c_L_stalled l hD hI) dL_chances_537 rfl rfl (fun _ => Nat.le_of_ble_eq_true rfl) ⟨Nat.le_of_ble_eq_true rfl, Nat.le_of_ble_eq_true rfl⟩ (by show _ ≤ 4000 ∧ _ ≤ 24000; omega) (z_q0 (w := (nI (u8))) (goC_0.mpr ⟨inB_nn (a := 0) (b := 100000) (by omega) (by omega) (by decide), rfl, rfl⟩) (eu8) ?_) z_nx
  refine z_iload C dL_chances_540 rfl ?_
  refine z_top (w := nI o8) eo8 ?_
  refine z_icmp_gt (tgt := 632) C dL_chances_542 (by decide) (fun h => absurd h (nI_nlt huo (by omega))) (fun _ => ?_)
  refine z_aload_n (i := 0) C dL_chances_545 rfl rfl ?_
  refine z_ldc C dL_chances_546 kc_RL_127 ?_
  refine z_top (w := (nI 100001)) (by decide) ?_
  refine z_callSX C Y_L_stalled sm_yL_stalled ml_RL_125 (c_L_stalled l hD hI) dL_chances_548 rfl rfl (fun _ => Nat.le_of_ble_eq_true rfl) ⟨Nat.le_of_ble_eq_true rfl, Nat.le_of_ble_eq_true rfl⟩ (by show _ ≤ 4000 ∧ _ ≤ 24000; omega) (z_q1 (kx_1 (by decide)) ?_) z_nx
  refine z_ldc C dL_chances_551 kc_RL_18 ?_
  refine z_icmp_ne (tgt := 632) C dL_chances_553 (by decide) (fun h => absurd (rfl) h) (fun _ => ?_)
  refine z_aload_n (i := 0) C dL_chances_556 rfl rfl ?_
  refine z_aload C dL_chances_557 rfl ?_
  refine z_iconst (v := nI 2) C dL_chances_559 (by decide) ?_
  refine z_ialdN C dL_chances_560 (hrow 4 (by decide)) (show _ < 7 by omega) (by decide) ?_
  refine z_top (w := (nI (zN (x 15)))) (g2) ?_
  refine z_callSX C Y_L_stage sm_yL_stage ml_RL_107 (c_L_stage l hD hI) dL_chances_561 rfl rfl (fun _ => Nat.le_of_ble_eq_true rfl) ⟨Nat.le_of_ble_eq_true rfl, Nat.le_of_ble_eq_true rfl⟩ (by show _ ≤ 4000 ∧ _ ≤ 24000; omega) (z_q1 (kx_1 (inB_out i15 (by decide) (Nat.le_refl _) (by omega))) ?_) z_nx
  refine z_ldc C dL_chances_564 kc_RL_28 ?_
  refine z_icmp_ne (tgt := 632) C dL_chances_566 (by decide) (fun h => absurd (rfl) h) (fun _ => ?_)
  refine z_aload_n (i := 0) C dL_chances_569 rfl rfl ?_
  refine z_iconst (v := (-1)) C dL_chances_570 (by decide) ?_
  refine z_callSX C Y_L_worth sm_yL_worth ml_RL_113 (c_L_worth l hD hI) dL_chances_571 rfl rfl (fun _ => Nat.le_of_ble_eq_true rfl) ⟨Nat.le_of_ble_eq_true rfl, Nat.le_of_ble_eq_true rfl⟩ (by show _ ≤ 4000 ∧ _ ≤ 24000; omega) (z_q1 (kx_1 inB_m1) ?_) z_nx
  refine z_ldc C dL_chances_574 kc_RL_28 ?_
  refine z_icmp_ne (tgt := 632) C dL_chances_576 (by decide) (fun h => absurd (rfl) h) (fun _ => ?_)
  refine z_aload_n (i := 0) C dL_chances_579 rfl rfl ?_
  refine z_aload C dL_chances_580 rfl ?_
  refine z_iconst (v := nI 2) C dL_chances_582 (by decide) ?_
  refine z_ialdN C dL_chances_583 (hrow 4 (by decide)) (show _ < 7 by omega) (by decide) ?_
  refine z_top (w := (nI (zN (x 15)))) (g2) ?_
  refine z_callSX C Y_L_counting sm_yL_counting ml_RL_115 (c_L_counting l hD hI) dL_chances_584 rfl rfl (fun _ => Nat.le_of_ble_eq_true rfl) ⟨Nat.le_of_ble_eq_true rfl, Nat.le_of_ble_eq_true rfl⟩ (by show _ ≤ 4000 ∧ _ ≤ 24000; omega) (z_q1 (kx_1 (inB_out i15 (by decide) (Nat.le_refl _) (by omega))) ?_) z_nx
  refine z_ldc C dL_chances_587 kc_RL_28 ?_
  refine z_icmp_ne (tgt := 632) C dL_chances_589 (by decide) (fun h => absurd (rfl) h) (fun _ => ?_)
  refine z_aload_n (i := 0) C dL_chances_592 rfl rfl ?_
  refine z_iconst (v := nI 4) C dL_chances_593 (by decide) ?_
  refine z_iconst (v := nI 0) C dL_chances_594 (by decide) ?_
  refine z_callSX C Y_L_inRegion sm_yL_inRegion ml_RL_118 (c_L_inRegion l hD hI) dL_chances_595 rfl rfl (fun _ => Nat.le_of_ble_eq_true rfl) ⟨Nat.le_of_ble_eq_true rfl, Nat.le_of_ble_eq_true rfl⟩ (by show _ ≤ 4000 ∧ _ ≤ 24000; omega) (z_q1 (kx_1 (by decide)) ?_) z_nx
  refine z_ldc C dL_chances_598 kc_RL_18 ?_
  refine z_icmp_ne (tgt := 632) C dL_chances_600 (by decide) (fun h => absurd (rfl) h) (fun _ => ?_)
  refine z_aload_n (i := 0) C dL_chances_603 rfl rfl ?_
  refine z_iconst (v := nI 0) C dL_chances_604 (by decide) ?_
  refine z_bipush (v := nI 6) C dL_chances_605 (by decide) ?_
  refine z_callSX C Y_L_inRegion sm_yL_inRegion ml_RL_118 (c_L_inRegion l hD hI) dL_chances_607 rfl rfl (fun _ => Nat.le_of_ble_eq_true rfl) ⟨Nat.le_of_ble_eq_true rfl, Nat.le_of_ble_eq_true rfl⟩ (by show _ ≤ 4000 ∧ _ ≤ 24000; omega) (z_q1 (kx_1 (by decide)) ?_) z_nx
  refine z_ldc C dL_chances_610 kc_RL_18 ?_
  refine z_icmp_ne (tgt := 632) C dL_chances_612 (by decide) (fun h => absurd (rfl) h) (fun _ => ?_)
  refine z_aload_n (i := 0) C dL_chances_615 rfl rfl ?_
  refine z_aload C dL_chances_616 rfl ?_
  refine z_iconst (v := nI 0) C dL_chances_618 (by decide) ?_
  refine z_ialdN C dL_chances_619 (hrow 4 (by decide)) (show _ < 7 by omega) (by decide) ?_
  refine z_top (w := (nI (zN (x 1)))) (g0) ?_
  refine z_callSX C Y_L_won sm_yL_won ml_RL_120 (c_L_won l hD hI) dL_chances_620 rfl rfl (fun _ => Nat.le_of_ble_eq_true rfl) ⟨Nat.le_of_ble_eq_true rfl, Nat.le_of_ble_eq_true rfl⟩ (by show _ ≤ 4000 ∧ _ ≤ 24000; omega) (z_q1 (kx_1 (inB_out i1 (by decide) (Nat.le_refl _) (by omega))) ?_) z_nx
  refine z_ldc C dL_chances_623 kc_RL_28 ?_
  refine z_icmp_ne (tgt := 632) C dL_chances_625 (by decide) (fun h => absurd (rfl) h) (fun _ => ?_)
  refine z_iconst (v := nI 1) C dL_chances_628 (by decide) ?_
  refine z_goto (tgt := 633) C dL_chances_629 (by decide) ?_
  exact z_iret C hr rfl dL_chances_633 (Nat.le_of_ble_eq_true rfl) (Nat.le_of_ble_eq_true rfl) ⟨_, rfl, rfl, hag⟩
theorem k_L_chances {X : zX} (l : Launch) {x : Nat → Int32} {a A : Nat → Nat → Int32} {σ : zHp} (hC : ChC x a A σ) (h5n : σ 80 5 = none) : zM X l yL_chances cL_chances 12 (some .boolean) 10 4000 24000 [aR 0 0, aR 80 0, aR 80 2, aR 80 3, aR 80 4] σ (zPi (fun r σ1 => r = 1 ∧ σ1 = σ)) zNx := zMw.fgt (c_L_chances l hC h5n) (fun r σ1 h => ⟨h.1, fun k i c hc => (h.2 k i (fun z => by rw [z.1, z.2, h5n] at hc; cases hc)).trans hc⟩)
