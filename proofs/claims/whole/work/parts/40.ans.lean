section PANS
variable {c m t r s : Nat} {hC hM h : AH} {own : Nat → Nat} {G G' : Nat → Nat → Int32}
variable {ru fd fd' : Int32} {rw rw' : Nat → Option Rw} {kp gv : Nat → Option An} {lk : Nat → List Nat} {bk : Nat × (Nat → En)} {tr tr' : Nat × (Nat → Int32)}
def dlt (x : Int32) : Int32 := if x = nI 120 then nI 1 else if x = nI 121 then -nI 1 else nI 0
def scn (f : Nat → Int32) : Nat → Nat → Int32 → Prop
  | 0, _, d => d = nI 0
  | r + 1, i, d => ¬ f i < nI 0 ∧ f i ≤ nI 121 ∧ nI 0 ≤ d + dlt (f i) ∧ scn f r (i + 1) (d + dlt (f i))
noncomputable def bI (P : Prop) : Int32 := haveI := Classical.propDecidable P; if P then nI 1 else nI 0
theorem bI_t {P : Prop} (h : P) : bI P = nI 1 := if_pos h
theorem bI_f {P : Prop} (h : ¬ P) : bI P = nI 0 := if_neg h
theorem bI_c {P Q : Prop} (h : P ↔ Q) : bI P = bI Q := by rw [propext h]
theorem i_add0 (x : Int32) : x + nI 0 = x := Int32.add_zero x
theorem C_ans_L {b n : Nat} {f : Nat → Int32} (hk : a_kd h b = 12) (hl : n ≤ a_ln h b) (hn : n ≤ 60) (hf : ∀ j, j < n → G b j = f j) : ∀ d i dep fu, i + d = n → d < fu → f_X9_areAnswer_L12 f_X9_areAnswer_J71 fu (some b) (nI n) dep (nI i) (wi h G) = some (bI (scn f d i dep), wi h G, 0, 0) := by
  intro d
  induction d with
  | zero =>
    intro i dep fu hi hf
    obtain ⟨fu, rfl⟩ : ∃ k, fu = k + 1 := ⟨fu - 1, by omega⟩
    by_cases h1 : dep = nI 0
    · rw [bI_t (show scn f 0 i dep from h1)]
      simp (disch := omega) only [f_X9_areAnswer_L12, f_X9_areAnswer_J71, h1, ↓nn_s, ↓nn_n, ↓bnd_s, nn_s, nn_n, bnd_s, rI, rZ, rV, rR, wA00, n_sub, nI_add, pk_mul, n_m1, n_leI, n_ltI, n_eqI, n_eqm1, n_0m1, n_m10, n_cl, n_div, n_rem, li_0, li_1, li_2, li_3, li_4, li_5, li_6, li_7, li_8, li_9, li_10, li_11, li_12, li_13, li_16, li_20, li_21, li_22, li_36, li_40, li_59, li_60, li_61, li_99, li_100, li_109, li_110, li_119, li_120, li_121, li_512, li_3721, li_1000000, li_1000001, li_1000002, li_1000003, li_1000010, t_lt, t_le, f_lt, f_le, t_eq, f_eq, if_true, if_false, true_and, and_true, or_true, true_or, or_false, false_or, and_false, false_and, not_true_eq_false, not_false_eq_true, Nat.zero_add, Nat.add_zero, Nat.mul_zero]
    · rw [bI_f (show ¬ scn f 0 i dep from h1)]
      simp (disch := omega) only [f_X9_areAnswer_L12, f_X9_areAnswer_J71, h1, ↓nn_s, ↓nn_n, ↓bnd_s, nn_s, nn_n, bnd_s, rI, rZ, rV, rR, wA00, n_sub, nI_add, pk_mul, n_m1, n_leI, n_ltI, n_eqI, n_eqm1, n_0m1, n_m10, n_cl, n_div, n_rem, li_0, li_1, li_2, li_3, li_4, li_5, li_6, li_7, li_8, li_9, li_10, li_11, li_12, li_13, li_16, li_20, li_21, li_22, li_36, li_40, li_59, li_60, li_61, li_99, li_100, li_109, li_110, li_119, li_120, li_121, li_512, li_3721, li_1000000, li_1000001, li_1000002, li_1000003, li_1000010, t_lt, t_le, f_lt, f_le, t_eq, f_eq, if_true, if_false, true_and, and_true, or_true, true_or, or_false, false_or, and_false, false_and, not_true_eq_false, not_false_eq_true, Nat.zero_add, Nat.add_zero, Nat.mul_zero]
  | succ d ih =>
    intro i dep fu hi hf'
    obtain ⟨fu, rfl⟩ : ∃ k, fu = k + 1 := ⟨fu - 1, by omega⟩
    have e := hf i (by omega)
    have rd : ∀ q : Int32 → RX Int32, aI (wi h G) (some b) 12 (nI i) q = q (f i) := fun q => by rw [aI_w hk (by omega) (by omega), e]
    by_cases h1 : f i < nI 0
    · rw [bI_f (fun x => x.1 h1)]
      simp (disch := omega) only [f_X9_areAnswer_L12, rd, h1, ↓nn_s, ↓nn_n, ↓bnd_s, nn_s, nn_n, bnd_s, rI, rZ, rV, rR, wA00, n_sub, nI_add, pk_mul, n_m1, n_leI, n_ltI, n_eqI, n_eqm1, n_0m1, n_m10, n_cl, n_div, n_rem, li_0, li_1, li_2, li_3, li_4, li_5, li_6, li_7, li_8, li_9, li_10, li_11, li_12, li_13, li_16, li_20, li_21, li_22, li_36, li_40, li_59, li_60, li_61, li_99, li_100, li_109, li_110, li_119, li_120, li_121, li_512, li_3721, li_1000000, li_1000001, li_1000002, li_1000003, li_1000010, t_lt, t_le, f_lt, f_le, t_eq, f_eq, if_true, if_false, true_and, and_true, or_true, true_or, or_false, false_or, and_false, false_and, not_true_eq_false, not_false_eq_true, Nat.zero_add, Nat.add_zero, Nat.mul_zero]
    by_cases h2 : f i ≤ nI 121
    case neg =>
      rw [bI_f (fun x => h2 x.2.1)]
      simp (disch := omega) only [f_X9_areAnswer_L12, rd, h1, h2, ↓nn_s, ↓nn_n, ↓bnd_s, nn_s, nn_n, bnd_s, rI, rZ, rV, rR, wA00, n_sub, nI_add, pk_mul, n_m1, n_leI, n_ltI, n_eqI, n_eqm1, n_0m1, n_m10, n_cl, n_div, n_rem, li_0, li_1, li_2, li_3, li_4, li_5, li_6, li_7, li_8, li_9, li_10, li_11, li_12, li_13, li_16, li_20, li_21, li_22, li_36, li_40, li_59, li_60, li_61, li_99, li_100, li_109, li_110, li_119, li_120, li_121, li_512, li_3721, li_1000000, li_1000001, li_1000002, li_1000003, li_1000010, t_lt, t_le, f_lt, f_le, t_eq, f_eq, if_true, if_false, true_and, and_true, or_true, true_or, or_false, false_or, and_false, false_and, not_true_eq_false, not_false_eq_true, Nat.zero_add, Nat.add_zero, Nat.mul_zero]
    by_cases h3 : nI 0 ≤ dep + dlt (f i)
    case neg =>
      rw [bI_f (fun x => h3 x.2.2.1)]
      unfold dlt at h3
      by_cases h4 : f i = nI 120
      · rw [if_pos h4] at h3
        simp (disch := omega) only [f_X9_areAnswer_L12, f_X9_areAnswer_J59, rd, h1, h2, h4, h3, ↓nn_s, ↓nn_n, ↓bnd_s, nn_s, nn_n, bnd_s, rI, rZ, rV, rR, wA00, n_sub, nI_add, pk_mul, n_m1, n_leI, n_ltI, n_eqI, n_eqm1, n_0m1, n_m10, n_cl, n_div, n_rem, li_0, li_1, li_2, li_3, li_4, li_5, li_6, li_7, li_8, li_9, li_10, li_11, li_12, li_13, li_16, li_20, li_21, li_22, li_36, li_40, li_59, li_60, li_61, li_99, li_100, li_109, li_110, li_119, li_120, li_121, li_512, li_3721, li_1000000, li_1000001, li_1000002, li_1000003, li_1000010, t_lt, t_le, f_lt, f_le, t_eq, f_eq, if_true, if_false, true_and, and_true, or_true, true_or, or_false, false_or, and_false, false_and, not_true_eq_false, not_false_eq_true, Nat.zero_add, Nat.add_zero, Nat.mul_zero]
      · rw [if_neg h4] at h3
        by_cases h5 : f i = nI 121
        · rw [if_pos h5] at h3
          simp (disch := omega) only [f_X9_areAnswer_L12, f_X9_areAnswer_J59, rd, h1, h2, h4, h5, h3, ↓nn_s, ↓nn_n, ↓bnd_s, nn_s, nn_n, bnd_s, rI, rZ, rV, rR, wA00, n_sub, nI_add, pk_mul, n_m1, n_leI, n_ltI, n_eqI, n_eqm1, n_0m1, n_m10, n_cl, n_div, n_rem, li_0, li_1, li_2, li_3, li_4, li_5, li_6, li_7, li_8, li_9, li_10, li_11, li_12, li_13, li_16, li_20, li_21, li_22, li_36, li_40, li_59, li_60, li_61, li_99, li_100, li_109, li_110, li_119, li_120, li_121, li_512, li_3721, li_1000000, li_1000001, li_1000002, li_1000003, li_1000010, t_lt, t_le, f_lt, f_le, t_eq, f_eq, if_true, if_false, true_and, and_true, or_true, true_or, or_false, false_or, and_false, false_and, not_true_eq_false, not_false_eq_true, Nat.zero_add, Nat.add_zero, Nat.mul_zero]
        · rw [if_neg h5, i_add0] at h3
          simp (disch := omega) only [f_X9_areAnswer_L12, f_X9_areAnswer_J59, rd, h1, h2, h4, h5, h3, ↓nn_s, ↓nn_n, ↓bnd_s, nn_s, nn_n, bnd_s, rI, rZ, rV, rR, wA00, n_sub, nI_add, pk_mul, n_m1, n_leI, n_ltI, n_eqI, n_eqm1, n_0m1, n_m10, n_cl, n_div, n_rem, li_0, li_1, li_2, li_3, li_4, li_5, li_6, li_7, li_8, li_9, li_10, li_11, li_12, li_13, li_16, li_20, li_21, li_22, li_36, li_40, li_59, li_60, li_61, li_99, li_100, li_109, li_110, li_119, li_120, li_121, li_512, li_3721, li_1000000, li_1000001, li_1000002, li_1000003, li_1000010, t_lt, t_le, f_lt, f_le, t_eq, f_eq, if_true, if_false, true_and, and_true, or_true, true_or, or_false, false_or, and_false, false_and, not_true_eq_false, not_false_eq_true, Nat.zero_add, Nat.add_zero, Nat.mul_zero]
    rw [show bI (scn f (d + 1) i dep) = bI (scn f d (i + 1) (dep + dlt (f i))) from bI_c ⟨fun x => x.2.2.2, fun x => ⟨h1, h2, h3, x⟩⟩]
    have ih' := ih (i + 1) (dep + dlt (f i)) fu (by omega) (by omega)
    unfold dlt at h3 ih' ⊢
    by_cases h4 : f i = nI 120
    · rw [if_pos h4] at h3 ih' ⊢
      simp (disch := omega) only [f_X9_areAnswer_L12, f_X9_areAnswer_J59, rd, h4, h3, ↓nn_s, ↓nn_n, ↓bnd_s, nn_s, nn_n, bnd_s, rI, rZ, rV, rR, wA00, n_sub, nI_add, pk_mul, n_m1, n_leI, n_ltI, n_eqI, n_eqm1, n_0m1, n_m10, n_cl, n_div, n_rem, li_0, li_1, li_2, li_3, li_4, li_5, li_6, li_7, li_8, li_9, li_10, li_11, li_12, li_13, li_16, li_20, li_21, li_22, li_36, li_40, li_59, li_60, li_61, li_99, li_100, li_109, li_110, li_119, li_120, li_121, li_512, li_3721, li_1000000, li_1000001, li_1000002, li_1000003, li_1000010, t_lt, t_le, f_lt, f_le, t_eq, f_eq, if_true, if_false, true_and, and_true, or_true, true_or, or_false, false_or, and_false, false_and, not_true_eq_false, not_false_eq_true, Nat.zero_add, Nat.add_zero, Nat.mul_zero]
      exact ih'
    · rw [if_neg h4] at h3 ih' ⊢
      by_cases h5 : f i = nI 121
      · rw [if_pos h5] at h3 ih' ⊢
        simp (disch := omega) only [f_X9_areAnswer_L12, f_X9_areAnswer_J59, rd, h5, h3, ↓nn_s, ↓nn_n, ↓bnd_s, nn_s, nn_n, bnd_s, rI, rZ, rV, rR, wA00, n_sub, nI_add, pk_mul, n_m1, n_leI, n_ltI, n_eqI, n_eqm1, n_0m1, n_m10, n_cl, n_div, n_rem, li_0, li_1, li_2, li_3, li_4, li_5, li_6, li_7, li_8, li_9, li_10, li_11, li_12, li_13, li_16, li_20, li_21, li_22, li_36, li_40, li_59, li_60, li_61, li_99, li_100, li_109, li_110, li_119, li_120, li_121, li_512, li_3721, li_1000000, li_1000001, li_1000002, li_1000003, li_1000010, t_lt, t_le, f_lt, f_le, t_eq, f_eq, if_true, if_false, true_and, and_true, or_true, true_or, or_false, false_or, and_false, false_and, not_true_eq_false, not_false_eq_true, Nat.zero_add, Nat.add_zero, Nat.mul_zero]
        exact ih'
      · rw [if_neg h5, i_add0] at h3 ih' ⊢
        simp (disch := omega) only [f_X9_areAnswer_L12, f_X9_areAnswer_J59, rd, h1, h2, h4, h5, h3, ↓nn_s, ↓nn_n, ↓bnd_s, nn_s, nn_n, bnd_s, rI, rZ, rV, rR, wA00, n_sub, nI_add, pk_mul, n_m1, n_leI, n_ltI, n_eqI, n_eqm1, n_0m1, n_m10, n_cl, n_div, n_rem, li_0, li_1, li_2, li_3, li_4, li_5, li_6, li_7, li_8, li_9, li_10, li_11, li_12, li_13, li_16, li_20, li_21, li_22, li_36, li_40, li_59, li_60, li_61, li_99, li_100, li_109, li_110, li_119, li_120, li_121, li_512, li_3721, li_1000000, li_1000001, li_1000002, li_1000003, li_1000010, t_lt, t_le, f_lt, f_le, t_eq, f_eq, if_true, if_false, true_and, and_true, or_true, true_or, or_false, false_or, and_false, false_and, not_true_eq_false, not_false_eq_true, Nat.zero_add, Nat.add_zero, Nat.mul_zero]
        exact ih'
/-- the first n of f are an ANSWER -/
def isA (n : Nat) (f : Nat → Int32) : Prop := n ≤ 60 ∧ scn f n 0 (nI 0)
theorem C_areAns {b n : Nat} {f : Nat → Int32} (hk : a_kd h b = 12) (hl : n ≤ a_ln h b) (hn : n < 1000000) (hf : ∀ j, j < n → G b j = f j) : f_X9_areAnswer (wi h G) (some b) (nI n) = some (bI (isA n f), wi h G, 0, 0) := by
  unfold f_X9_areAnswer
  by_cases h1 : n ≤ 60
  · have := C_ans_L hk hl h1 hf n 0 (nI 0) FU (by omega) (by unfold FU; omega)
    simp (disch := omega) only [h1, this, ↓nn_s, ↓nn_n, ↓bnd_s, nn_s, nn_n, bnd_s, rI, rZ, rV, rR, wA00, n_sub, nI_add, pk_mul, n_m1, n_leI, n_ltI, n_eqI, n_eqm1, n_0m1, n_m10, n_cl, n_div, n_rem, li_0, li_1, li_2, li_3, li_4, li_5, li_6, li_7, li_8, li_9, li_10, li_11, li_12, li_13, li_16, li_20, li_21, li_22, li_36, li_40, li_59, li_60, li_61, li_99, li_100, li_109, li_110, li_119, li_120, li_121, li_512, li_3721, li_1000000, li_1000001, li_1000002, li_1000003, li_1000010, t_lt, t_le, f_lt, f_le, t_eq, f_eq, if_true, if_false, true_and, and_true, or_true, true_or, or_false, false_or, and_false, false_and, not_true_eq_false, not_false_eq_true, Nat.zero_add, Nat.add_zero, Nat.mul_zero]
    rw [show bI (isA n f) = bI (scn f n 0 (nI 0)) from bI_c ⟨fun x => x.2, fun x => ⟨h1, x⟩⟩]
  · rw [bI_f (fun x => h1 x.1)]
    simp (disch := omega) only [h1, ↓nn_s, ↓nn_n, ↓bnd_s, nn_s, nn_n, bnd_s, rI, rZ, rV, rR, wA00, n_sub, nI_add, pk_mul, n_m1, n_leI, n_ltI, n_eqI, n_eqm1, n_0m1, n_m10, n_cl, n_div, n_rem, li_0, li_1, li_2, li_3, li_4, li_5, li_6, li_7, li_8, li_9, li_10, li_11, li_12, li_13, li_16, li_20, li_21, li_22, li_36, li_40, li_59, li_60, li_61, li_99, li_100, li_109, li_110, li_119, li_120, li_121, li_512, li_3721, li_1000000, li_1000001, li_1000002, li_1000003, li_1000010, t_lt, t_le, f_lt, f_le, t_eq, f_eq, if_true, if_false, true_and, and_true, or_true, true_or, or_false, false_or, and_false, false_and, not_true_eq_false, not_false_eq_true, Nat.zero_add, Nat.add_zero, Nat.mul_zero]
theorem M_ans_L {b n o : Nat} {f : Nat → Int32} (hk : a_kd h b = 12) (hl : o + n ≤ a_ln h b) (ho : o < 1000000) (hn : n ≤ 60) (hf : ∀ j, j < n → G b (o + j) = f j) : ∀ d i dep fu, i + d = n → d < fu → nI 0 ≤ dep → f_X11_isAnswer_L18 f_X11_isAnswer_J93 fu (some b) (nI o) (nI n) dep (nI 1) (nI i) (wi h G) = some (bI (scn f d i dep), wi h G, 0, 0) := by
  intro d
  induction d with
  | zero =>
    intro i dep fu hi hf h0
    obtain ⟨fu, rfl⟩ : ∃ k, fu = k + 1 := ⟨fu - 1, by omega⟩
    by_cases h1 : dep = nI 0
    · rw [bI_t (show scn f 0 i dep from h1)]
      simp (disch := omega) only [f_X11_isAnswer_L18, f_X11_isAnswer_J93, h1, ↓nn_s, ↓nn_n, ↓bnd_s, nn_s, nn_n, bnd_s, rI, rZ, rV, rR, wA00, n_sub, nI_add, pk_mul, n_m1, n_leI, n_ltI, n_eqI, n_eqm1, n_0m1, n_m10, n_cl, n_div, n_rem, li_0, li_1, li_2, li_3, li_4, li_5, li_6, li_7, li_8, li_9, li_10, li_11, li_12, li_13, li_16, li_20, li_21, li_22, li_36, li_40, li_59, li_60, li_61, li_99, li_100, li_109, li_110, li_119, li_120, li_121, li_512, li_3721, li_1000000, li_1000001, li_1000002, li_1000003, li_1000010, t_lt, t_le, f_lt, f_le, t_eq, f_eq, if_true, if_false, true_and, and_true, or_true, true_or, or_false, false_or, and_false, false_and, not_true_eq_false, not_false_eq_true, Nat.zero_add, Nat.add_zero, Nat.mul_zero]
    · rw [bI_f (show ¬ scn f 0 i dep from h1)]
      simp (disch := omega) only [f_X11_isAnswer_L18, f_X11_isAnswer_J93, h1, ↓nn_s, ↓nn_n, ↓bnd_s, nn_s, nn_n, bnd_s, rI, rZ, rV, rR, wA00, n_sub, nI_add, pk_mul, n_m1, n_leI, n_ltI, n_eqI, n_eqm1, n_0m1, n_m10, n_cl, n_div, n_rem, li_0, li_1, li_2, li_3, li_4, li_5, li_6, li_7, li_8, li_9, li_10, li_11, li_12, li_13, li_16, li_20, li_21, li_22, li_36, li_40, li_59, li_60, li_61, li_99, li_100, li_109, li_110, li_119, li_120, li_121, li_512, li_3721, li_1000000, li_1000001, li_1000002, li_1000003, li_1000010, t_lt, t_le, f_lt, f_le, t_eq, f_eq, if_true, if_false, true_and, and_true, or_true, true_or, or_false, false_or, and_false, false_and, not_true_eq_false, not_false_eq_true, Nat.zero_add, Nat.add_zero, Nat.mul_zero]
  | succ d ih =>
    intro i dep fu hi hf' h0
    obtain ⟨fu, rfl⟩ : ∃ k, fu = k + 1 := ⟨fu - 1, by omega⟩
    have e := hf i (by omega)
    have rd : ∀ q : Int32 → RX Int32, aI (wi h G) (some b) 12 (nI (o + i)) q = q (f i) := fun q => by rw [aI_w hk (by omega) (by omega), e]
    have tail : ∀ x : Int32, dlt (f i) = x → f_X11_isAnswer_J61 (f_X11_isAnswer_L18 f_X11_isAnswer_J93 fu) (some b) (nI o) (nI n) (nI i) (f i) x dep (wi h G) = some (bI (scn f (d + 1) i dep), wi h G, 0, 0) := by
      intro x hx
      have stop : f_X11_isAnswer_L18 f_X11_isAnswer_J93 fu (some b) (nI o) (nI n) (dep + x) (nI 0) (nI (i + 1)) (wi h G) = some (nI 0, wi h G, 0, 0) := by
        obtain ⟨fu, rfl⟩ : ∃ k, fu = k + 1 := ⟨fu - 1, by omega⟩
        by_cases hz : n ≤ i + 1
        · simp (disch := omega) only [f_X11_isAnswer_L18, f_X11_isAnswer_J93, hz, ↓nn_s, ↓nn_n, ↓bnd_s, nn_s, nn_n, bnd_s, rI, rZ, rV, rR, wA00, n_sub, nI_add, pk_mul, n_m1, n_leI, n_ltI, n_eqI, n_eqm1, n_0m1, n_m10, n_cl, n_div, n_rem, li_0, li_1, li_2, li_3, li_4, li_5, li_6, li_7, li_8, li_9, li_10, li_11, li_12, li_13, li_16, li_20, li_21, li_22, li_36, li_40, li_59, li_60, li_61, li_99, li_100, li_109, li_110, li_119, li_120, li_121, li_512, li_3721, li_1000000, li_1000001, li_1000002, li_1000003, li_1000010, t_lt, t_le, f_lt, f_le, t_eq, f_eq, if_true, if_false, true_and, and_true, or_true, true_or, or_false, false_or, and_false, false_and, not_true_eq_false, not_false_eq_true, Nat.zero_add, Nat.add_zero, Nat.mul_zero]
        · simp (disch := omega) only [f_X11_isAnswer_L18, f_X11_isAnswer_J93, hz, ↓nn_s, ↓nn_n, ↓bnd_s, nn_s, nn_n, bnd_s, rI, rZ, rV, rR, wA00, n_sub, nI_add, pk_mul, n_m1, n_leI, n_ltI, n_eqI, n_eqm1, n_0m1, n_m10, n_cl, n_div, n_rem, li_0, li_1, li_2, li_3, li_4, li_5, li_6, li_7, li_8, li_9, li_10, li_11, li_12, li_13, li_16, li_20, li_21, li_22, li_36, li_40, li_59, li_60, li_61, li_99, li_100, li_109, li_110, li_119, li_120, li_121, li_512, li_3721, li_1000000, li_1000001, li_1000002, li_1000003, li_1000010, t_lt, t_le, f_lt, f_le, t_eq, f_eq, if_true, if_false, true_and, and_true, or_true, true_or, or_false, false_or, and_false, false_and, not_true_eq_false, not_false_eq_true, Nat.zero_add, Nat.add_zero, Nat.mul_zero]
      by_cases h1 : f i < nI 0
      · rw [bI_f (fun x => x.1 h1)]
        simp (disch := omega) only [f_X11_isAnswer_J61, M_in121, h1, stop, ↓nn_s, ↓nn_n, ↓bnd_s, nn_s, nn_n, bnd_s, rI, rZ, rV, rR, wA00, n_sub, nI_add, pk_mul, n_m1, n_leI, n_ltI, n_eqI, n_eqm1, n_0m1, n_m10, n_cl, n_div, n_rem, li_0, li_1, li_2, li_3, li_4, li_5, li_6, li_7, li_8, li_9, li_10, li_11, li_12, li_13, li_16, li_20, li_21, li_22, li_36, li_40, li_59, li_60, li_61, li_99, li_100, li_109, li_110, li_119, li_120, li_121, li_512, li_3721, li_1000000, li_1000001, li_1000002, li_1000003, li_1000010, t_lt, t_le, f_lt, f_le, t_eq, f_eq, if_true, if_false, true_and, and_true, or_true, true_or, or_false, false_or, and_false, false_and, not_true_eq_false, not_false_eq_true, Nat.zero_add, Nat.add_zero, Nat.mul_zero]
      by_cases h2 : f i ≤ nI 121
      case neg =>
        rw [bI_f (fun x => h2 x.2.1)]
        have h2' : nI 121 < f i := Int32.not_le.mp h2
        simp (disch := omega) only [f_X11_isAnswer_J61, M_in121, h1, h2', stop, ↓nn_s, ↓nn_n, ↓bnd_s, nn_s, nn_n, bnd_s, rI, rZ, rV, rR, wA00, n_sub, nI_add, pk_mul, n_m1, n_leI, n_ltI, n_eqI, n_eqm1, n_0m1, n_m10, n_cl, n_div, n_rem, li_0, li_1, li_2, li_3, li_4, li_5, li_6, li_7, li_8, li_9, li_10, li_11, li_12, li_13, li_16, li_20, li_21, li_22, li_36, li_40, li_59, li_60, li_61, li_99, li_100, li_109, li_110, li_119, li_120, li_121, li_512, li_3721, li_1000000, li_1000001, li_1000002, li_1000003, li_1000010, t_lt, t_le, f_lt, f_le, t_eq, f_eq, if_true, if_false, true_and, and_true, or_true, true_or, or_false, false_or, and_false, false_and, not_true_eq_false, not_false_eq_true, Nat.zero_add, Nat.add_zero, Nat.mul_zero]
      have h2' : ¬ nI 121 < f i := Int32.not_lt.mpr h2
      by_cases h3 : nI 0 ≤ dep + dlt (f i)
      case neg =>
        rw [bI_f (fun x => h3 x.2.2.1)]
        rw [hx] at h3
        have h3' : dep + x < nI 0 := Int32.not_le.mp h3
        simp (disch := omega) only [f_X11_isAnswer_J61, M_in121, h1, h2', h3', stop, ↓nn_s, ↓nn_n, ↓bnd_s, nn_s, nn_n, bnd_s, rI, rZ, rV, rR, wA00, n_sub, nI_add, pk_mul, n_m1, n_leI, n_ltI, n_eqI, n_eqm1, n_0m1, n_m10, n_cl, n_div, n_rem, li_0, li_1, li_2, li_3, li_4, li_5, li_6, li_7, li_8, li_9, li_10, li_11, li_12, li_13, li_16, li_20, li_21, li_22, li_36, li_40, li_59, li_60, li_61, li_99, li_100, li_109, li_110, li_119, li_120, li_121, li_512, li_3721, li_1000000, li_1000001, li_1000002, li_1000003, li_1000010, t_lt, t_le, f_lt, f_le, t_eq, f_eq, if_true, if_false, true_and, and_true, or_true, true_or, or_false, false_or, and_false, false_and, not_true_eq_false, not_false_eq_true, Nat.zero_add, Nat.add_zero, Nat.mul_zero]
      rw [show bI (scn f (d + 1) i dep) = bI (scn f d (i + 1) (dep + dlt (f i))) from bI_c ⟨fun x => x.2.2.2, fun x => ⟨h1, h2, h3, x⟩⟩]
      have ih' := ih (i + 1) (dep + dlt (f i)) fu (by omega) (by omega) h3
      rw [hx] at h3 ih' ⊢
      have h3' : ¬ dep + x < nI 0 := Int32.not_lt.mpr h3
      simp (disch := omega) only [f_X11_isAnswer_J61, M_in121, h1, h2', h3', ↓nn_s, ↓nn_n, ↓bnd_s, nn_s, nn_n, bnd_s, rI, rZ, rV, rR, wA00, n_sub, nI_add, pk_mul, n_m1, n_leI, n_ltI, n_eqI, n_eqm1, n_0m1, n_m10, n_cl, n_div, n_rem, li_0, li_1, li_2, li_3, li_4, li_5, li_6, li_7, li_8, li_9, li_10, li_11, li_12, li_13, li_16, li_20, li_21, li_22, li_36, li_40, li_59, li_60, li_61, li_99, li_100, li_109, li_110, li_119, li_120, li_121, li_512, li_3721, li_1000000, li_1000001, li_1000002, li_1000003, li_1000010, t_lt, t_le, f_lt, f_le, t_eq, f_eq, if_true, if_false, true_and, and_true, or_true, true_or, or_false, false_or, and_false, false_and, not_true_eq_false, not_false_eq_true, Nat.zero_add, Nat.add_zero, Nat.mul_zero]
      exact ih'
    by_cases h4 : f i = nI 120
    · have tl := tail (nI 1) (by unfold dlt; rw [if_pos h4])
      rw [h4] at tl
      simp (disch := omega) only [f_X11_isAnswer_L18, rd, h4, ↓nn_s, ↓nn_n, ↓bnd_s, nn_s, nn_n, bnd_s, rI, rZ, rV, rR, wA00, n_sub, nI_add, pk_mul, n_m1, n_leI, n_ltI, n_eqI, n_eqm1, n_0m1, n_m10, n_cl, n_div, n_rem, li_0, li_1, li_2, li_3, li_4, li_5, li_6, li_7, li_8, li_9, li_10, li_11, li_12, li_13, li_16, li_20, li_21, li_22, li_36, li_40, li_59, li_60, li_61, li_99, li_100, li_109, li_110, li_119, li_120, li_121, li_512, li_3721, li_1000000, li_1000001, li_1000002, li_1000003, li_1000010, t_lt, t_le, f_lt, f_le, t_eq, f_eq, if_true, if_false, true_and, and_true, or_true, true_or, or_false, false_or, and_false, false_and, not_true_eq_false, not_false_eq_true, Nat.zero_add, Nat.add_zero, Nat.mul_zero]
      exact tl
    · by_cases h5 : f i = nI 121
      · have tl := tail (-nI 1) (by unfold dlt; rw [if_neg h4, if_pos h5])
        rw [h5] at tl
        simp (disch := omega) only [f_X11_isAnswer_L18, rd, h5, ↓nn_s, ↓nn_n, ↓bnd_s, nn_s, nn_n, bnd_s, rI, rZ, rV, rR, wA00, n_sub, nI_add, pk_mul, n_m1, n_leI, n_ltI, n_eqI, n_eqm1, n_0m1, n_m10, n_cl, n_div, n_rem, li_0, li_1, li_2, li_3, li_4, li_5, li_6, li_7, li_8, li_9, li_10, li_11, li_12, li_13, li_16, li_20, li_21, li_22, li_36, li_40, li_59, li_60, li_61, li_99, li_100, li_109, li_110, li_119, li_120, li_121, li_512, li_3721, li_1000000, li_1000001, li_1000002, li_1000003, li_1000010, t_lt, t_le, f_lt, f_le, t_eq, f_eq, if_true, if_false, true_and, and_true, or_true, true_or, or_false, false_or, and_false, false_and, not_true_eq_false, not_false_eq_true, Nat.zero_add, Nat.add_zero, Nat.mul_zero]
        exact tl
      · have tl := tail (nI 0) (by unfold dlt; rw [if_neg h4, if_neg h5])
        simp (disch := omega) only [f_X11_isAnswer_L18, rd, h4, h5, ↓nn_s, ↓nn_n, ↓bnd_s, nn_s, nn_n, bnd_s, rI, rZ, rV, rR, wA00, n_sub, nI_add, pk_mul, n_m1, n_leI, n_ltI, n_eqI, n_eqm1, n_0m1, n_m10, n_cl, n_div, n_rem, li_0, li_1, li_2, li_3, li_4, li_5, li_6, li_7, li_8, li_9, li_10, li_11, li_12, li_13, li_16, li_20, li_21, li_22, li_36, li_40, li_59, li_60, li_61, li_99, li_100, li_109, li_110, li_119, li_120, li_121, li_512, li_3721, li_1000000, li_1000001, li_1000002, li_1000003, li_1000010, t_lt, t_le, f_lt, f_le, t_eq, f_eq, if_true, if_false, true_and, and_true, or_true, true_or, or_false, false_or, and_false, false_and, not_true_eq_false, not_false_eq_true, Nat.zero_add, Nat.add_zero, Nat.mul_zero]
        exact tl
theorem M_isAns {b n o : Nat} {f : Nat → Int32} (hk : a_kd h b = 12) (hl : o + n ≤ a_ln h b) (ho : o < 1000000) (hn : n < 1000000) (hf : ∀ j, j < n → G b (o + j) = f j) : f_X11_isAnswer (wi h G) (some b) (nI o) (nI n) = some (bI (isA n f), wi h G, 0, 0) := by
  unfold f_X11_isAnswer
  by_cases h1 : n ≤ 60
  · have := M_ans_L hk hl ho h1 hf n 0 (nI 0) FU (by omega) (by unfold FU; omega) (by decide)
    have h2 : ¬ 60 < n := by omega
    simp (disch := omega) only [h2, this, ↓nn_s, ↓nn_n, ↓bnd_s, nn_s, nn_n, bnd_s, rI, rZ, rV, rR, wA00, n_sub, nI_add, pk_mul, n_m1, n_leI, n_ltI, n_eqI, n_eqm1, n_0m1, n_m10, n_cl, n_div, n_rem, li_0, li_1, li_2, li_3, li_4, li_5, li_6, li_7, li_8, li_9, li_10, li_11, li_12, li_13, li_16, li_20, li_21, li_22, li_36, li_40, li_59, li_60, li_61, li_99, li_100, li_109, li_110, li_119, li_120, li_121, li_512, li_3721, li_1000000, li_1000001, li_1000002, li_1000003, li_1000010, t_lt, t_le, f_lt, f_le, t_eq, f_eq, if_true, if_false, true_and, and_true, or_true, true_or, or_false, false_or, and_false, false_and, not_true_eq_false, not_false_eq_true, Nat.zero_add, Nat.add_zero, Nat.mul_zero]
    rw [show bI (isA n f) = bI (scn f n 0 (nI 0)) from bI_c ⟨fun x => x.2, fun x => ⟨h1, x⟩⟩]
  · rw [bI_f (fun x => h1 x.1)]
    have h2 : 60 < n := by omega
    have st : ∀ fu, 0 < fu → f_X11_isAnswer_L18 f_X11_isAnswer_J93 fu (some b) (nI o) (nI n) (nI 0) (nI 0) (nI 0) (wi h G) = some (nI 0, wi h G, 0, 0) := by
      intro fu hfu
      obtain ⟨fu, rfl⟩ : ∃ k, fu = k + 1 := ⟨fu - 1, by omega⟩
      simp (disch := omega) only [f_X11_isAnswer_L18, f_X11_isAnswer_J93, ↓nn_s, ↓nn_n, ↓bnd_s, nn_s, nn_n, bnd_s, rI, rZ, rV, rR, wA00, n_sub, nI_add, pk_mul, n_m1, n_leI, n_ltI, n_eqI, n_eqm1, n_0m1, n_m10, n_cl, n_div, n_rem, li_0, li_1, li_2, li_3, li_4, li_5, li_6, li_7, li_8, li_9, li_10, li_11, li_12, li_13, li_16, li_20, li_21, li_22, li_36, li_40, li_59, li_60, li_61, li_99, li_100, li_109, li_110, li_119, li_120, li_121, li_512, li_3721, li_1000000, li_1000001, li_1000002, li_1000003, li_1000010, t_lt, t_le, f_lt, f_le, t_eq, f_eq, if_true, if_false, true_and, and_true, or_true, true_or, or_false, false_or, and_false, false_and, not_true_eq_false, not_false_eq_true, Nat.zero_add, Nat.add_zero, Nat.mul_zero]
    simp (disch := omega) only [h2, st FU (by unfold FU; omega), ↓nn_s, ↓nn_n, ↓bnd_s, nn_s, nn_n, bnd_s, rI, rZ, rV, rR, wA00, n_sub, nI_add, pk_mul, n_m1, n_leI, n_ltI, n_eqI, n_eqm1, n_0m1, n_m10, n_cl, n_div, n_rem, li_0, li_1, li_2, li_3, li_4, li_5, li_6, li_7, li_8, li_9, li_10, li_11, li_12, li_13, li_16, li_20, li_21, li_22, li_36, li_40, li_59, li_60, li_61, li_99, li_100, li_109, li_110, li_119, li_120, li_121, li_512, li_3721, li_1000000, li_1000001, li_1000002, li_1000003, li_1000010, t_lt, t_le, f_lt, f_le, t_eq, f_eq, if_true, if_false, true_and, and_true, or_true, true_or, or_false, false_or, and_false, false_and, not_true_eq_false, not_false_eq_true, Nat.zero_add, Nat.add_zero, Nat.mul_zero]
end PANS
