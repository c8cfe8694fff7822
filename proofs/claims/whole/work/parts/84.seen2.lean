section PSEEN2
variable {c m t r s : Nat} {h : AH} {G G' : Nat → Nat → Int32} {kp gv : Nat → Option An}
theorem mem_hnd {l : List Nat} {hd key : Nat} (hk : key < 3721) : (∃ q, 0 ≤ q ∧ q < (hnd hd l).length ∧ (hnd hd l).getD q 0 % 3721 = key) ↔ hd * 3721 + key ∈ l := by
  constructor
  · rintro ⟨q, _, h2, h3⟩
    have hm : (hnd hd l).getD q 0 ∈ hnd hd l := by rw [gd_e h2]; exact List.getElem_mem _
    have hm2 := List.mem_filter.mp hm
    have e1 : (hnd hd l).getD q 0 / 3721 = hd := by simpa using hm2.2
    have e2 : hd * 3721 + key = (hnd hd l).getD q 0 := by omega
    rw [e2]; exact hm2.1
  · intro hz
    have hm : hd * 3721 + key ∈ hnd hd l := List.mem_filter.mpr ⟨hz, by simp; omega⟩
    obtain ⟨q, h1, h2⟩ := mem_gd.mpr hm
    exact ⟨q, h1, h2.1, by rw [h2.2]; omega⟩
theorem M_isSeen (s0 : SM m h) {l : List Nat} {hd i : Nat} {x : Nat × (Nat → Ch)} (hs : s < 36) (hh : hd < 4) (p : lookM G m s l) (hl : (hnd hd l).length ≤ 512) (hc : chM G m x) (hi : i < x.1) (hx : x.1 ≤ 40) (b1 : (x.2 i).2.2.1 ≤ 60) (b2 : (x.2 i).2.2.2 ≤ 60) : f_X11_isSeen (wi h G) m (nI hd) (nI s) (nI i) = some (bI (lcd (x.2 i) hd ∈ l), wi h G, 0, 0) := by
  obtain ⟨_, _, f3, f4⟩ := hc.2 i hi
  have L := M_seen_L (key := 61 * (x.2 i).2.2.1 + (x.2 i).2.2.2) s0 hs hh p hl (by omega) (hnd hd l).length 0 FU False (by omega) (by unfold FU; omega)
  rw [bI_f (fun w : False => w)] at L
  have em : bI (False ∨ ∃ q, 0 ≤ q ∧ q < (hnd hd l).length ∧ (hnd hd l).getD q 0 % 3721 = 61 * (x.2 i).2.2.1 + (x.2 i).2.2.2) = bI (lcd (x.2 i) hd ∈ l) := bI_c (by
    rw [false_or, mem_hnd (by omega)]
    unfold lcd
    rw [show hd * 3721 + (61 * (x.2 i).2.2.1 + (x.2 i).2.2.2) = hd * 3721 + (x.2 i).2.2.1 * 61 + (x.2 i).2.2.2 by omega])
  rw [em] at L
  refine Eq.trans ?_ L
  simp (disch := omega) only [f_X11_isSeen, f3, f4, ↓SM_g1 s0, ↓SM_g2 s0, ↓SM_g3 s0, ↓SM_g4 s0, ↓SM_g5 s0, ↓SM_g6 s0, ↓SM_g7 s0, ↓SM_g8 s0, ↓SM_g9 s0, ↓SM_g10 s0, ↓SM_g11 s0, ↓SM_g12 s0, ↓SM_g13 s0, ↓SM_g14 s0, ↓SM_g15 s0, ↓SM_g16 s0, ↓SM_g17 s0, ↓SM_g18 s0, ↓SM_g19 s0, ↓SM_g20 s0, ↓SM_g21 s0, ↓SM_g22 s0, ↓SM_g23 s0, ↓SM_g24 s0, ↓SM_g25 s0, ↓SM_g26 s0, ↓SM_g27 s0, ↓SM_g28 s0, ↓SM_g29 s0, ↓SM_g30 s0, ↓SM_g31 s0, ↓SM_g32 s0, ↓SM_g33 s0, ↓SM_g34 s0, ↓SM_g35 s0, ↓SM_g36 s0, ↓SM_g37 s0, ↓SM_g38 s0, ↓SM_g39 s0, ↓SM_g40 s0, ↓SM_g41 s0, ↓SM_g42 s0, ↓SM_oI s0, ↓SM_oP s0, ↓SM_oV s0, ↓SM_a1 s0, ↓SM_s1 s0, ↓SM_a2 s0, ↓SM_s2 s0, ↓SM_a3 s0, ↓SM_s3 s0, ↓SM_a4 s0, ↓SM_s4 s0, ↓SM_a5 s0, ↓SM_s5 s0, ↓SM_a6 s0, ↓SM_s6 s0, ↓SM_a7 s0, ↓SM_s7 s0, ↓SM_a8 s0, ↓SM_s8 s0, ↓SM_a9 s0, ↓SM_s9 s0, ↓SM_a10 s0, ↓SM_s10 s0, ↓SM_a11 s0, ↓SM_s11 s0, ↓SM_a12 s0, ↓SM_s12 s0, ↓SM_a13 s0, ↓SM_s13 s0, ↓SM_a14 s0, ↓SM_s14 s0, ↓SM_a15 s0, ↓SM_s15 s0, ↓SM_a16 s0, ↓SM_s16 s0, ↓SM_a17 s0, ↓SM_s17 s0, ↓SM_a18 s0, ↓SM_s18 s0, ↓SM_a19 s0, ↓SM_s19 s0, ↓SM_a20 s0, ↓SM_s20 s0, ↓SM_a21 s0, ↓SM_s21 s0, ↓SM_a22 s0, ↓SM_s22 s0, ↓SM_a23 s0, ↓SM_s23 s0, ↓SM_a24 s0, ↓SM_s24 s0, ↓SM_a25 s0, ↓SM_s25 s0, ↓SM_a26 s0, ↓SM_s26 s0, ↓SM_a27 s0, ↓SM_s27 s0, ↓SM_a28 s0, ↓SM_s28 s0, ↓SM_a29 s0, ↓SM_s29 s0, ↓SM_a30 s0, ↓SM_s30 s0, ↓SM_a31 s0, ↓SM_s31 s0, ↓SM_a32 s0, ↓SM_s32 s0, ↓SM_a33 s0, ↓SM_s33 s0, ↓SM_a34 s0, ↓SM_s34 s0, ↓SM_a35 s0, ↓SM_s35 s0, ↓SM_a36 s0, ↓SM_s36 s0, ↓SM_a37 s0, ↓SM_s37 s0, ↓SM_a38 s0, ↓SM_s38 s0, ↓SM_a39 s0, ↓SM_s39 s0, ↓SM_a40 s0, ↓SM_s40 s0, ↓SM_a41 s0, ↓SM_s41 s0, ↓SM_a42 s0, ↓SM_s42 s0, SM_oI s0, SM_oP s0, SM_oV s0, SM_a1 s0, SM_s1 s0, SM_a2 s0, SM_s2 s0, SM_a3 s0, SM_s3 s0, SM_a4 s0, SM_s4 s0, SM_a5 s0, SM_s5 s0, SM_a6 s0, SM_s6 s0, SM_a7 s0, SM_s7 s0, SM_a8 s0, SM_s8 s0, SM_a9 s0, SM_s9 s0, SM_a10 s0, SM_s10 s0, SM_a11 s0, SM_s11 s0, SM_a12 s0, SM_s12 s0, SM_a13 s0, SM_s13 s0, SM_a14 s0, SM_s14 s0, SM_a15 s0, SM_s15 s0, SM_a16 s0, SM_s16 s0, SM_a17 s0, SM_s17 s0, SM_a18 s0, SM_s18 s0, SM_a19 s0, SM_s19 s0, SM_a20 s0, SM_s20 s0, SM_a21 s0, SM_s21 s0, SM_a22 s0, SM_s22 s0, SM_a23 s0, SM_s23 s0, SM_a24 s0, SM_s24 s0, SM_a25 s0, SM_s25 s0, SM_a26 s0, SM_s26 s0, SM_a27 s0, SM_s27 s0, SM_a28 s0, SM_s28 s0, SM_a29 s0, SM_s29 s0, SM_a30 s0, SM_s30 s0, SM_a31 s0, SM_s31 s0, SM_a32 s0, SM_s32 s0, SM_a33 s0, SM_s33 s0, SM_a34 s0, SM_s34 s0, SM_a35 s0, SM_s35 s0, SM_a36 s0, SM_s36 s0, SM_a37 s0, SM_s37 s0, SM_a38 s0, SM_s38 s0, SM_a39 s0, SM_s39 s0, SM_a40 s0, SM_s40 s0, SM_a41 s0, SM_s41 s0, SM_a42 s0, SM_s42 s0, ↓nn_s, ↓nn_n, ↓bnd_s, nn_s, nn_n, bnd_s, rI, rZ, rV, rR, wA00, n_sub, nI_add, pk_mul, n_m1, n_leI, n_ltI, n_eqI, n_eqm1, n_0m1, n_m10, n_cl, n_div, n_rem, li_0, li_1, li_2, li_3, li_4, li_5, li_6, li_7, li_8, li_9, li_10, li_11, li_12, li_13, li_16, li_20, li_21, li_22, li_36, li_40, li_59, li_60, li_61, li_99, li_100, li_109, li_110, li_119, li_120, li_121, li_512, li_3721, li_1000000, li_1000001, li_1000002, li_1000003, li_1000010, t_lt, t_le, f_lt, f_le, t_eq, f_eq, if_true, if_false, true_and, and_true, or_true, true_or, or_false, false_or, and_false, false_and, not_true_eq_false, not_false_eq_true, Nat.zero_add, Nat.add_zero, Nat.mul_zero]
end PSEEN2
