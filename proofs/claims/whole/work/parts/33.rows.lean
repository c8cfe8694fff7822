section PROWS
variable {c m t : Nat} {hC hM h : AH} {x : RX Int32} {y : AH → RX Int32} {r : Int32} {G1 G2 : Nat → Nat → Int32}
theorem a_to_eq {n : Nat} {h : AH} (e : n = a_nx h) : a_to n h = h := by subst e; rfl
theorem OPR_w (en : a_nx hC = a_nx hM) (hx : x = some (r, wi hC G1, 0, 0)) (hy : y hM = some (r, wi hM G2, 0, 0)) (hR : ∃ own σ, RC own c (wi hC G1) σ ∧ RM m (wi hM G2) σ ∧ VS σ (t + 1) ∧ CC G1 c σ.2.2.1 σ.2.2.2.1) : OPR c m hC hM t x y :=
  ⟨r, wi hC G1, 0, 0, wi hM G2, hx, by rw [a_nx_wi, a_to_eq en]; exact hy, ⟨en, hR⟩, by omega, by omega⟩
theorem OPR_same (R : RR c m hC hM t) (hx : x = some (r, hC, 0, 0)) (hy : y hM = some (r, wi hM G2, 0, 0)) (e : ∀ a j, ¬ scrM m a j → G2 a j = a_gi hM a j) : OPR c m hC hM t x y := by
  obtain ⟨en, own, σ, rc, rm, v, cc⟩ := R
  exact OPR_w (G1 := a_gi hC) en hx hy ⟨own, σ, rc, RM_fr rm e, VS_mono v (Nat.le_succ _), cc⟩
theorem scr0 (hM : AH) (v : Int32) : ∀ a j, ¬ scrM m a j → ug (a_gi hM) m 0 v a j = a_gi hM a j := fun a j hs => by
  rw [ug_r, if_neg]
  rintro ⟨rfl, rfl⟩
  exact hs (.inl ⟨rfl, .inl rfl⟩)
/-- both say the same, and the reference only its 'thrown' -/
theorem OPR_bad (R : RR c m hC hM t) (hx : x = some (r, hC, 0, 0)) (hy : y hM = some (r, wi hM (ug (a_gi hM) m 0 0), 0, 0)) : OPR c m hC hM t x y := OPR_same R hx hy (scr0 hM 0)
theorem C_below (h : AH) (p q : Int32) : f_X10_isBelow h p q = some (if p < nI 0 then nI 0 else if q ≤ p then nI 0 else nI 1, h, 0, 0) := by
  unfold f_X10_isBelow rZ
  rw [← li_0, ← li_1]
  by_cases h1 : p < 0
  · simp [h1]
  · by_cases h2 : q ≤ p <;> simp [h1, h2]
theorem C_isRow (h : AH) (p : Int32) : f_X10_isRow h p = some (if p < nI 0 then nI 0 else if nI 8 ≤ p then nI 0 else nI 1, h, 0, 0) := by
  unfold f_X10_isRow rZ
  rw [C_below, bnd_s, ← li_0, ← li_1, ← li_8]
  by_cases h1 : p < 0
  · simp [h1]
  · by_cases h2 : (8 : Int32) ≤ p <;> simp [h1, h2]
theorem lg_lt0 (p : Int32) : (lg_cmp p.toInt64 0 < 0) = (p < 0) := by
  have e := lg_cmp_ge p.toInt64 0
  have e2 : ((0 : Int64) ≤ p.toInt64) ↔ (0 : Int32) ≤ p := Int32.toInt64_le (a := 0) (b := p)
  refine propext ⟨fun h => ?_, fun h => ?_⟩
  · exact Int32.not_le.mp (fun g => Int32.not_le.mpr h (e.mpr (e2.mpr g)))
  · exact Int32.not_le.mp (fun g => Int32.not_le.mpr h (e2.mp (e.mp g)))
theorem lg_gt (x y : Int64) : (0 < lg_cmp x y) = (y < x) := by
  unfold lg_cmp
  refine propext ⟨fun h => ?_, fun h => ?_⟩
  · by_cases g : x > y
    · exact g
    · rw [if_neg g] at h
      by_cases g2 : x = y
      · rw [if_pos g2] at h; exact absurd h (by decide)
      · rw [if_neg g2] at h; exact absurd h (by decide)
  · rw [if_pos h]; decide
theorem M_in (h : AH) (p q : Int32) : f_X11_in h p.toInt64 0 q.toInt64 = some (if p < nI 0 then nI 0 else if q < p then nI 0 else nI 1, h, 0, 0) := by
  have e : ((q.toInt64) < p.toInt64) = (q < p) := propext Int32.toInt64_lt
  unfold f_X11_in rZ
  simp only [lg_lt0, lg_gt, e]
  rw [← li_0, ← li_1]
  by_cases h1 : p < 0
  · simp [h1]
  · by_cases h2 : q < p <;> simp [h1, h2]
theorem M_in1 (h : AH) (p : Int32) : f_X11_in h p.toInt64 0 1 = some (if p < nI 0 then nI 0 else if nI 1 < p then nI 0 else nI 1, h, 0, 0) := M_in h p 1
theorem M_in2 (h : AH) (p : Int32) : f_X11_in h p.toInt64 0 2 = some (if p < nI 0 then nI 0 else if nI 2 < p then nI 0 else nI 1, h, 0, 0) := M_in h p 2
theorem M_in3 (h : AH) (p : Int32) : f_X11_in h p.toInt64 0 3 = some (if p < nI 0 then nI 0 else if nI 3 < p then nI 0 else nI 1, h, 0, 0) := M_in h p 3
theorem M_in4 (h : AH) (p : Int32) : f_X11_in h p.toInt64 0 4 = some (if p < nI 0 then nI 0 else if nI 4 < p then nI 0 else nI 1, h, 0, 0) := M_in h p 4
theorem M_in5 (h : AH) (p : Int32) : f_X11_in h p.toInt64 0 5 = some (if p < nI 0 then nI 0 else if nI 5 < p then nI 0 else nI 1, h, 0, 0) := M_in h p 5
theorem M_in7 (h : AH) (p : Int32) : f_X11_in h p.toInt64 0 7 = some (if p < nI 0 then nI 0 else if nI 7 < p then nI 0 else nI 1, h, 0, 0) := M_in h p 7
theorem M_in11 (h : AH) (p : Int32) : f_X11_in h p.toInt64 0 11 = some (if p < nI 0 then nI 0 else if nI 11 < p then nI 0 else nI 1, h, 0, 0) := M_in h p 11
theorem M_in121 (h : AH) (p : Int32) : f_X11_in h p.toInt64 0 121 = some (if p < nI 0 then nI 0 else if nI 121 < p then nI 0 else nI 1, h, 0, 0) := M_in h p 121
theorem lt_le_succ {n : Nat} {p : Int32} (hn : n + 1 < 2147483648) (h : nI (n + 1) ≤ p) : nI n < p := Int32.lt_of_lt_of_le (nI_lt (by omega) hn) h
theorem M_isRow (h : AH) (p : Int32) : f_X11_isRow h p = some (if p < nI 0 then nI 0 else if nI 8 ≤ p then nI 0 else nI 1, h, 0, 0) := by
  unfold f_X11_isRow rZ
  rw [M_in7 h p, bnd_s]
  rcases n_ix p (n := 8) (by decide) with hp | ⟨hp, hp'⟩ | ⟨j, hj, rfl⟩
  · simp only [hp, if_true, n_sub, nI_add, pk_mul, n_m1, n_leI, n_ltI, n_eqI, n_eqm1, n_0m1, n_m10, n_cl, n_div, n_rem, li_0, li_1, li_2, li_3, li_4, li_5, li_6, li_7, li_8, li_9, li_10, li_11, li_12, li_13, li_16, li_20, li_21, li_22, li_36, li_40, li_59, li_60, li_61, li_99, li_100, li_109, li_110, li_119, li_120, li_121, li_512, li_3721, li_1000000, li_1000001, li_1000002, li_1000003, li_1000010, if_true, if_false, true_and, and_true, or_true, true_or, or_false, false_or, and_false, false_and, not_true_eq_false, not_false_eq_true, Nat.zero_add, Nat.add_zero, Nat.mul_zero]
  · simp only [hp, hp', lt_le_succ (n := 7) (by decide) hp', if_true, if_false, n_sub, nI_add, pk_mul, n_m1, n_leI, n_ltI, n_eqI, n_eqm1, n_0m1, n_m10, n_cl, n_div, n_rem, li_0, li_1, li_2, li_3, li_4, li_5, li_6, li_7, li_8, li_9, li_10, li_11, li_12, li_13, li_16, li_20, li_21, li_22, li_36, li_40, li_59, li_60, li_61, li_99, li_100, li_109, li_110, li_119, li_120, li_121, li_512, li_3721, li_1000000, li_1000001, li_1000002, li_1000003, li_1000010, if_true, if_false, true_and, and_true, or_true, true_or, or_false, false_or, and_false, false_and, not_true_eq_false, not_false_eq_true, Nat.zero_add, Nat.add_zero, Nat.mul_zero]
  · simp (disch := omega) only [n_sub, nI_add, pk_mul, n_m1, n_leI, n_ltI, n_eqI, n_eqm1, n_0m1, n_m10, n_cl, n_div, n_rem, li_0, li_1, li_2, li_3, li_4, li_5, li_6, li_7, li_8, li_9, li_10, li_11, li_12, li_13, li_16, li_20, li_21, li_22, li_36, li_40, li_59, li_60, li_61, li_99, li_100, li_109, li_110, li_119, li_120, li_121, li_512, li_3721, li_1000000, li_1000001, li_1000002, li_1000003, li_1000010, t_lt, t_le, f_lt, f_le, t_eq, f_eq, if_true, if_false, true_and, and_true, or_true, true_or, or_false, false_or, and_false, false_and, not_true_eq_false, not_false_eq_true, Nat.zero_add, Nat.add_zero, Nat.mul_zero]
theorem M_row_L (s : SM m h) {r0 : Nat} (hr : r0 < 8) {v : Int32} : ∀ d i fu G, i + d = 60 → d < fu → ∃ G', f_X11_row_L65 fu m (nI r0) v (nI i) (wi h G) = some (v, wi h G', 0, 0) ∧ ∀ a j, G' a j = if a = m + 3 ∧ 60 * r0 + i ≤ j ∧ j < 60 * r0 + 60 then 0 else G a j := by
  intro d
  induction d with
  | zero =>
    intro i fu G hi hf
    obtain ⟨fu, rfl⟩ : ∃ k, fu = k + 1 := ⟨fu - 1, by omega⟩
    refine ⟨G, ?_, fun a j => by rw [if_neg (by omega)]⟩
    simp (disch := omega) only [f_X11_row_L65, gI, gR, pI, pZ, pR, aI, aR, aL, sI, sR, nn, cV, rI, rZ, rV, rR, bnd_s, wA00, a_nx_wi, a_kd_wi, a_ln_wi, a_gi_wi0, a_gr_wi, a_pi_h, a_si_h, wi_wi, n_sub, nI_add, pk_mul, n_m1, n_leI, n_ltI, n_eqI, n_eqm1, n_0m1, n_m10, n_cl, n_div, n_rem, li_0, li_1, li_2, li_3, li_4, li_5, li_6, li_7, li_8, li_9, li_10, li_11, li_12, li_13, li_16, li_20, li_21, li_22, li_36, li_40, li_59, li_60, li_61, li_99, li_100, li_109, li_110, li_119, li_120, li_121, li_512, li_3721, li_1000000, li_1000001, li_1000002, li_1000003, li_1000010, t_lt, t_le, f_lt, f_le, t_eq, f_eq, if_true, if_false, true_and, and_true, or_true, true_or, or_false, false_or, and_false, false_and, not_true_eq_false, not_false_eq_true, Nat.zero_add, Nat.add_zero, Nat.mul_zero]
  | succ d ih =>
    intro i fu G hi hf
    obtain ⟨fu, rfl⟩ : ∃ k, fu = k + 1 := ⟨fu - 1, by omega⟩
    obtain ⟨G', e, e2⟩ := ih (i + 1) fu (ug G (m + 3) (60 * r0 + i) 0) (by omega) (by omega)
    refine ⟨G', ?_, fun a j => ?_⟩
    · simp (disch := omega) only [f_X11_row_L65, gI, gR, pI, pZ, pR, aI, aR, aL, sI, sR, nn, cV, rI, rZ, rV, rR, bnd_s, wA00, a_nx_wi, a_kd_wi, a_ln_wi, a_gi_wi0, a_gr_wi, a_pi_h, a_si_h, wi_wi, n_sub, nI_add, pk_mul, n_m1, n_leI, n_ltI, n_eqI, n_eqm1, n_0m1, n_m10, n_cl, n_div, n_rem, li_0, li_1, li_2, li_3, li_4, li_5, li_6, li_7, li_8, li_9, li_10, li_11, li_12, li_13, li_16, li_20, li_21, li_22, li_36, li_40, li_59, li_60, li_61, li_99, li_100, li_109, li_110, li_119, li_120, li_121, li_512, li_3721, li_1000000, li_1000001, li_1000002, li_1000003, li_1000010, t_lt, t_le, f_lt, f_le, t_eq, f_eq, if_true, if_false, true_and, and_true, or_true, true_or, or_false, false_or, and_false, false_and, not_true_eq_false, not_false_eq_true, Nat.zero_add, Nat.add_zero, Nat.mul_zero, SM_0 s, SM_r1 s, SM_k1 s, SM_l1 s, SM_r2 s, SM_k2 s, SM_l2 s, SM_r3 s, SM_k3 s, SM_l3 s, SM_r4 s, SM_k4 s, SM_l4 s, SM_r5 s, SM_k5 s, SM_l5 s, SM_r6 s, SM_k6 s, SM_l6 s, SM_r7 s, SM_k7 s, SM_l7 s, SM_r8 s, SM_k8 s, SM_l8 s, SM_r9 s, SM_k9 s, SM_l9 s, SM_r10 s, SM_k10 s, SM_l10 s, SM_r11 s, SM_k11 s, SM_l11 s, SM_r12 s, SM_k12 s, SM_l12 s, SM_r13 s, SM_k13 s, SM_l13 s, SM_r14 s, SM_k14 s, SM_l14 s, SM_r15 s, SM_k15 s, SM_l15 s, SM_r16 s, SM_k16 s, SM_l16 s, SM_r17 s, SM_k17 s, SM_l17 s, SM_r18 s, SM_k18 s, SM_l18 s, SM_r19 s, SM_k19 s, SM_l19 s, SM_r20 s, SM_k20 s, SM_l20 s, SM_r21 s, SM_k21 s, SM_l21 s, SM_r22 s, SM_k22 s, SM_l22 s, SM_r23 s, SM_k23 s, SM_l23 s, SM_r24 s, SM_k24 s, SM_l24 s, SM_r25 s, SM_k25 s, SM_l25 s, SM_r26 s, SM_k26 s, SM_l26 s, SM_r27 s, SM_k27 s, SM_l27 s, SM_r28 s, SM_k28 s, SM_l28 s, SM_r29 s, SM_k29 s, SM_l29 s, SM_r30 s, SM_k30 s, SM_l30 s, SM_r31 s, SM_k31 s, SM_l31 s, SM_r32 s, SM_k32 s, SM_l32 s, SM_r33 s, SM_k33 s, SM_l33 s, SM_r34 s, SM_k34 s, SM_l34 s, SM_r35 s, SM_k35 s, SM_l35 s, SM_r36 s, SM_k36 s, SM_l36 s, SM_r37 s, SM_k37 s, SM_l37 s, SM_r38 s, SM_k38 s, SM_l38 s, SM_r39 s, SM_k39 s, SM_l39 s, SM_r40 s, SM_k40 s, SM_l40 s, SM_r41 s, SM_k41 s, SM_l41 s, SM_r42 s, SM_k42 s, SM_l42 s]
      exact e
    · rw [e2, ug_r]
      by_cases h1 : a = m + 3 ∧ j = 60 * r0 + i
      · rw [if_neg (by omega), if_pos h1, if_pos (by omega)]
      · by_cases h2 : a = m + 3 ∧ 60 * r0 + (i + 1) ≤ j ∧ j < 60 * r0 + 60
        · rw [if_pos h2, if_pos (by omega)]
        · rw [if_neg h2, if_neg h1, if_neg (by omega)]
end PROWS
