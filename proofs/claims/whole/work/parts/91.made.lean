section PMADE
variable {c m t r s : Nat} {hC hM h h' : AH} {own own' : Nat → Nat} {G G' : Nat → Nat → Int32}
def seg (f : Nat → Int32) : Nat → Nat → List Int32
  | _, 0 => []
  | a, n + 1 => f a :: seg f (a + 1) n
theorem seg_len {f : Nat → Int32} : ∀ n a, (seg f a n).length = n
  | 0, _ => rfl
  | n + 1, a => by show (seg f (a + 1) n).length + 1 = n + 1; rw [seg_len n]
theorem seg_app {f : Nat → Int32} : ∀ n a k, seg f a (n + k) = seg f a n ++ seg f (a + n) k
  | 0, a, k => by rw [Nat.zero_add]; rfl
  | n + 1, a, k => by
    rw [show n + 1 + k = (n + k) + 1 by omega]
    show f a :: seg f (a + 1) (n + k) = f a :: (seg f (a + 1) n ++ seg f (a + (n + 1)) k)
    rw [seg_app n (a + 1) k, show a + 1 + n = a + (n + 1) by omega]
theorem seg_get {f : Nat → Int32} : ∀ n a j, j < n → (seg f a n).getD j 0 = f (a + j)
  | 0, _, j, h => absurd h (Nat.not_lt_zero _)
  | n + 1, a, 0, _ => rfl
  | n + 1, a, j + 1, h => by
    show (seg f (a + 1) n).getD j 0 = _
    rw [seg_get n (a + 1) j (by omega), show a + 1 + j = a + (j + 1) by omega]
theorem gdi_1 {l k : List Int32} {j : Nat} (h : j < l.length) : (l ++ k).getD j 0 = l.getD j 0 := by
  simp only [List.getD]; rw [List.getElem?_append_left h]
theorem gdi_2 {l k : List Int32} {j : Nat} (h : l.length ≤ j) : (l ++ k).getD j 0 = k.getD (j - l.length) 0 := by
  simp only [List.getD]; rw [List.getElem?_append_right h]
/-- what comes of a kept one (n, fx) by the changes that D means, d of them from k on, the first nx of it behind us -/
def mkL (n : Nat) (fx fy : Nat → Int32) (F : Nat → Ch) (D : Nat → Bool) : Nat → Nat → Nat → List Int32
  | 0, _, nx => seg fx nx (n - nx)
  | d + 1, k, nx => if D k = true then seg fx nx ((F k).1 - nx) ++ (seg fy (F k).2.2.1 (F k).2.2.2 ++ mkL n fx fy F D d (k + 1) ((F k).1 + (F k).2.1)) else mkL n fx fy F D d (k + 1) nx
variable {n z cnt : Nat} {fx fy : Nat → Int32} {F : Nat → Ch} {D : Nat → Bool}
theorem mkL_t {d k nx : Nat} (e : D k = true) : mkL n fx fy F D (d + 1) k nx = seg fx nx ((F k).1 - nx) ++ (seg fy (F k).2.2.1 (F k).2.2.2 ++ mkL n fx fy F D d (k + 1) ((F k).1 + (F k).2.1)) := if_pos e
theorem mkL_f {d k nx : Nat} (e : ¬ D k = true) : mkL n fx fy F D (d + 1) k nx = mkL n fx fy F D d (k + 1) nx := if_neg e
def upw (F : Nat → Ch) (cnt n z : Nat) : Prop := (∀ q, q < cnt → (F q).1 + (F q).2.1 ≤ n ∧ (F q).2.2.1 + (F q).2.2.2 ≤ z) ∧ (∀ q, q + 1 < cnt → (F q).1 + (F q).2.1 ≤ (F (q + 1)).1 ∧ (F q).2.2.1 + (F q).2.2.2 ≤ (F (q + 1)).2.2.1)
theorem mkL_adv (U : upw F cnt n z) : ∀ d k nx i, k + d = cnt → nx ≤ i → i ≤ n → (k < cnt → i ≤ (F k).1) → mkL n fx fy F D d k nx = seg fx nx (i - nx) ++ mkL n fx fy F D d k i
  | 0, k, nx, i, _, h1, h2, _ => by
    show seg fx nx (n - nx) = seg fx nx (i - nx) ++ seg fx i (n - i)
    rw [show n - nx = (i - nx) + (n - i) by omega, seg_app, show nx + (i - nx) = i by omega]
  | d + 1, k, nx, i, hk, h1, h2, h3 => by
    have hi := h3 (by omega)
    have u1 := U.1 k (by omega)
    by_cases e : D k = true
    · rw [mkL_t e, mkL_t e, show (F k).1 - nx = (i - nx) + ((F k).1 - i) by omega, seg_app, show nx + (i - nx) = i by omega, List.append_assoc]
    · rw [mkL_f e, mkL_f e]
      exact mkL_adv U d (k + 1) nx i (by omega) h1 h2 (fun hq => by have := U.2 k hq; omega)
theorem mkL_len (U : upw F cnt n z) : ∀ d k nx g, k + d = cnt → nx ≤ n → g ≤ z → (k < cnt → nx ≤ (F k).1 ∧ g ≤ (F k).2.2.1) → (mkL n fx fy F D d k nx).length ≤ (n - nx) + (z - g)
  | 0, k, nx, g, _, h1, h2, _ => by
    show (seg fx nx (n - nx)).length ≤ _
    rw [seg_len]; omega
  | d + 1, k, nx, g, hk, h1, h2, h3 => by
    obtain ⟨i1, i2⟩ := h3 (by omega)
    have u1 := U.1 k (by omega)
    by_cases e : D k = true
    · rw [mkL_t e, List.length_append, List.length_append, seg_len, seg_len]
      have := mkL_len U d (k + 1) ((F k).1 + (F k).2.1) ((F k).2.2.1 + (F k).2.2.2) (by omega) (by omega) (by omega) (fun hq => U.2 k hq)
      omega
    · rw [mkL_f e]
      exact mkL_len U d (k + 1) nx g (by omega) h1 h2 (fun hq => by have := U.2 k hq; omega)
/-- what a draft holds -/
def drC (G : Nat → Nat → Int32) (c : Nat) (l : List Int32) : Prop := G (c + 66) 1 = nI l.length ∧ ∀ j, j < l.length → G (c + 67) j = l.getD j 0
theorem C_add (s0 : SC c h) {b L a n : Nat} {f : Nat → Int32} {l : List Int32} (hk : a_kd h b = 12) (hl : a_ln h b = L) (hb : b ≠ c + 67) (ha : a + n ≤ L) (hL : L ≤ 60) (hf : ∀ j, j < n → G b (a + j) = f (a + j)) (p : drC G c l) (hn : l.length + n ≤ 120) : ∃ G', f_X3_add (wi h G) (c + 66) (some b) (nI a) (nI n) = some ((), wi h G', 0, 0) ∧ (∀ x j, x ≠ c + 66 → x ≠ c + 67 → G' x j = G x j) ∧ drC G' c (l ++ seg f a n) := by
  obtain ⟨p1, p2⟩ := p
  by_cases z : n = 0
  · subst z
    refine ⟨G, ?_, fun _ _ _ _ => rfl, ?_⟩
    · simp (disch := omega) only [f_X3_add, ↓SC_g1 s0, ↓SC_g2 s0, ↓SC_g74 s0, ↓SC_g3 s0, ↓SC_g66 s0, ↓SC_g68 s0, ↓SC_g72 s0, ↓SC_g73 s0, ↓SC_g4 s0, ↓SC_g67 s0, ↓SC_g69 s0, ↓SC_g70 s0, ↓SC_g71 s0, ↓SC_g75 s0, ↓SC_g76 s0, ↓SC_g77 s0, ↓SC_g78 s0, ↓SC_g79 s0, ↓SC_g80 s0, ↓SC_gri s0, ↓SC_grc s0, ↓SC_grc0 s0, ↓SC_grc1 s0, ↓SC_grc2 s0, ↓SC_grc3 s0, ↓SC_grc4 s0, ↓SC_grr s0, ↓SC_grs s0, ↓SC_grg s0, ↓SC_b72 s0, ↓SC_oI0 s0, ↓SC_oP0 s0, ↓SC_oZ0 s0, ↓SC_oY0 s0, ↓SC_oz0 s0, ↓SC_oy0 s0, ↓SC_oV0 s0, ↓SC_oI3 s0, ↓SC_oP3 s0, ↓SC_oZ3 s0, ↓SC_oY3 s0, ↓SC_oz3 s0, ↓SC_oy3 s0, ↓SC_oV3 s0, ↓SC_oI66 s0, ↓SC_oP66 s0, ↓SC_oZ66 s0, ↓SC_oY66 s0, ↓SC_oz66 s0, ↓SC_oy66 s0, ↓SC_oV66 s0, ↓SC_oI68 s0, ↓SC_oP68 s0, ↓SC_oZ68 s0, ↓SC_oY68 s0, ↓SC_oz68 s0, ↓SC_oy68 s0, ↓SC_oV68 s0, ↓SC_oI74 s0, ↓SC_oP74 s0, ↓SC_oZ74 s0, ↓SC_oY74 s0, ↓SC_oz74 s0, ↓SC_oy74 s0, ↓SC_oV74 s0, ↓SC_oIr s0, ↓SC_oPr s0, ↓SC_oZr s0, ↓SC_oYr s0, ↓SC_ozr s0, ↓SC_oyr s0, ↓SC_oVr s0, ↓SC_oIw s0, ↓SC_oPw s0, ↓SC_oZw s0, ↓SC_oYw s0, ↓SC_ozw s0, ↓SC_oyw s0, ↓SC_oVw s0, ↓SC_oIh s0, ↓SC_oPh s0, ↓SC_oZh s0, ↓SC_oYh s0, ↓SC_ozh s0, ↓SC_oyh s0, ↓SC_oVh s0, ↓SC_a67 s0, ↓SC_s67 s0, ↓SC_n67 s0, ↓SC_a69 s0, ↓SC_s69 s0, ↓SC_n69 s0, ↓SC_a70 s0, ↓SC_s70 s0, ↓SC_n70 s0, ↓SC_a71 s0, ↓SC_s71 s0, ↓SC_n71 s0, ↓SC_a73 s0, ↓SC_s73 s0, ↓SC_n73 s0, ↓SC_a75 s0, ↓SC_s75 s0, ↓SC_n75 s0, ↓SC_a76 s0, ↓SC_s76 s0, ↓SC_n76 s0, ↓SC_a77 s0, ↓SC_s77 s0, ↓SC_n77 s0, ↓SC_a78 s0, ↓SC_s78 s0, ↓SC_n78 s0, ↓SC_a79 s0, ↓SC_s79 s0, ↓SC_n79 s0, ↓SC_a80 s0, ↓SC_s80 s0, ↓SC_n80 s0, ↓SC_ai s0, ↓SC_si s0, ↓SC_ni s0, ↓SC_ag s0, ↓SC_sg s0, ↓SC_ng s0, ↓SC_ac0 s0, ↓SC_sc0 s0, ↓SC_nc0 s0, ↓SC_ac1 s0, ↓SC_sc1 s0, ↓SC_nc1 s0, ↓SC_ac2 s0, ↓SC_sc2 s0, ↓SC_nc2 s0, ↓SC_ac3 s0, ↓SC_sc3 s0, ↓SC_nc3 s0, ↓SC_ac4 s0, ↓SC_sc4 s0, ↓SC_nc4 s0, SC_b72 s0, SC_oI0 s0, SC_oP0 s0, SC_oZ0 s0, SC_oY0 s0, SC_oz0 s0, SC_oy0 s0, SC_oV0 s0, SC_oI3 s0, SC_oP3 s0, SC_oZ3 s0, SC_oY3 s0, SC_oz3 s0, SC_oy3 s0, SC_oV3 s0, SC_oI66 s0, SC_oP66 s0, SC_oZ66 s0, SC_oY66 s0, SC_oz66 s0, SC_oy66 s0, SC_oV66 s0, SC_oI68 s0, SC_oP68 s0, SC_oZ68 s0, SC_oY68 s0, SC_oz68 s0, SC_oy68 s0, SC_oV68 s0, SC_oI74 s0, SC_oP74 s0, SC_oZ74 s0, SC_oY74 s0, SC_oz74 s0, SC_oy74 s0, SC_oV74 s0, SC_oIr s0, SC_oPr s0, SC_oZr s0, SC_oYr s0, SC_ozr s0, SC_oyr s0, SC_oVr s0, SC_oIw s0, SC_oPw s0, SC_oZw s0, SC_oYw s0, SC_ozw s0, SC_oyw s0, SC_oVw s0, SC_oIh s0, SC_oPh s0, SC_oZh s0, SC_oYh s0, SC_ozh s0, SC_oyh s0, SC_oVh s0, SC_a67 s0, SC_s67 s0, SC_n67 s0, SC_a69 s0, SC_s69 s0, SC_n69 s0, SC_a70 s0, SC_s70 s0, SC_n70 s0, SC_a71 s0, SC_s71 s0, SC_n71 s0, SC_a73 s0, SC_s73 s0, SC_n73 s0, SC_a75 s0, SC_s75 s0, SC_n75 s0, SC_a76 s0, SC_s76 s0, SC_n76 s0, SC_a77 s0, SC_s77 s0, SC_n77 s0, SC_a78 s0, SC_s78 s0, SC_n78 s0, SC_a79 s0, SC_s79 s0, SC_n79 s0, SC_a80 s0, SC_s80 s0, SC_n80 s0, SC_ai s0, SC_si s0, SC_ni s0, SC_ag s0, SC_sg s0, SC_ng s0, SC_ac0 s0, SC_sc0 s0, SC_nc0 s0, SC_ac1 s0, SC_sc1 s0, SC_nc1 s0, SC_ac2 s0, SC_sc2 s0, SC_nc2 s0, SC_ac3 s0, SC_sc3 s0, SC_nc3 s0, SC_ac4 s0, SC_sc4 s0, SC_nc4 s0, SC_g1 s0, SC_g2 s0, SC_g74 s0, SC_g3 s0, SC_g66 s0, SC_g68 s0, SC_g72 s0, SC_g73 s0, SC_g4 s0, SC_g67 s0, SC_g69 s0, SC_g70 s0, SC_g71 s0, SC_g75 s0, SC_g76 s0, SC_g77 s0, SC_g78 s0, SC_g79 s0, SC_g80 s0, SC_gri s0, SC_grc s0, SC_grc0 s0, SC_grc1 s0, SC_grc2 s0, SC_grc3 s0, SC_grc4 s0, SC_grr s0, SC_grs s0, SC_grg s0, ↓nn_s, ↓nn_n, ↓bnd_s, nn_s, nn_n, bnd_s, rI, rZ, rV, rR, wA00, n_sub, nI_add, pk_mul, n_m1, n_leI, n_ltI, n_eqI, n_eqm1, n_0m1, n_m10, n_cl, n_div, n_rem, li_0, li_1, li_2, li_3, li_4, li_5, li_6, li_7, li_8, li_9, li_10, li_11, li_12, li_13, li_16, li_20, li_21, li_22, li_36, li_40, li_59, li_60, li_61, li_99, li_100, li_109, li_110, li_119, li_120, li_121, li_512, li_3721, li_1000000, li_1000001, li_1000002, li_1000003, li_1000010, t_lt, t_le, f_lt, f_le, t_eq, f_eq, if_true, if_false, true_and, and_true, or_true, true_or, or_false, false_or, and_false, false_and, not_true_eq_false, not_false_eq_true, Nat.zero_add, Nat.add_zero, Nat.mul_zero]
    · show drC G c (l ++ [])
      rw [List.append_nil]; exact ⟨p1, p2⟩
  · have cp : ∀ q : AH → RX Unit, cpI (wi h G) (some b) (nI a) (some (c + 67)) (nI l.length) (nI n) q = q (wi h (us G (c + 67) (va_cpy (G b) (G (c + 67)) a l.length n))) := fun q => cpI_v hk (SC_k67 s0) hl (SC_l67 s0) ha hn (by omega) (by omega) (by omega)
    have p1' : us G (c + 67) (va_cpy (G b) (G (c + 67)) a l.length n) (c + 66) 1 = nI l.length := by rw [us_2 (by omega)]; exact p1
    refine ⟨ug (us G (c + 67) (va_cpy (G b) (G (c + 67)) a l.length n)) (c + 66) 1 (nI (l.length + n)), ?_, fun x j z1 z2 => by rw [ug_2 z1, us_2 z2], ?_, fun j hj => ?_⟩
    · simp (disch := omega) only [f_X3_add, p1, cp, p1', ↓SC_g1 s0, ↓SC_g2 s0, ↓SC_g74 s0, ↓SC_g3 s0, ↓SC_g66 s0, ↓SC_g68 s0, ↓SC_g72 s0, ↓SC_g73 s0, ↓SC_g4 s0, ↓SC_g67 s0, ↓SC_g69 s0, ↓SC_g70 s0, ↓SC_g71 s0, ↓SC_g75 s0, ↓SC_g76 s0, ↓SC_g77 s0, ↓SC_g78 s0, ↓SC_g79 s0, ↓SC_g80 s0, ↓SC_gri s0, ↓SC_grc s0, ↓SC_grc0 s0, ↓SC_grc1 s0, ↓SC_grc2 s0, ↓SC_grc3 s0, ↓SC_grc4 s0, ↓SC_grr s0, ↓SC_grs s0, ↓SC_grg s0, ↓SC_b72 s0, ↓SC_oI0 s0, ↓SC_oP0 s0, ↓SC_oZ0 s0, ↓SC_oY0 s0, ↓SC_oz0 s0, ↓SC_oy0 s0, ↓SC_oV0 s0, ↓SC_oI3 s0, ↓SC_oP3 s0, ↓SC_oZ3 s0, ↓SC_oY3 s0, ↓SC_oz3 s0, ↓SC_oy3 s0, ↓SC_oV3 s0, ↓SC_oI66 s0, ↓SC_oP66 s0, ↓SC_oZ66 s0, ↓SC_oY66 s0, ↓SC_oz66 s0, ↓SC_oy66 s0, ↓SC_oV66 s0, ↓SC_oI68 s0, ↓SC_oP68 s0, ↓SC_oZ68 s0, ↓SC_oY68 s0, ↓SC_oz68 s0, ↓SC_oy68 s0, ↓SC_oV68 s0, ↓SC_oI74 s0, ↓SC_oP74 s0, ↓SC_oZ74 s0, ↓SC_oY74 s0, ↓SC_oz74 s0, ↓SC_oy74 s0, ↓SC_oV74 s0, ↓SC_oIr s0, ↓SC_oPr s0, ↓SC_oZr s0, ↓SC_oYr s0, ↓SC_ozr s0, ↓SC_oyr s0, ↓SC_oVr s0, ↓SC_oIw s0, ↓SC_oPw s0, ↓SC_oZw s0, ↓SC_oYw s0, ↓SC_ozw s0, ↓SC_oyw s0, ↓SC_oVw s0, ↓SC_oIh s0, ↓SC_oPh s0, ↓SC_oZh s0, ↓SC_oYh s0, ↓SC_ozh s0, ↓SC_oyh s0, ↓SC_oVh s0, ↓SC_a67 s0, ↓SC_s67 s0, ↓SC_n67 s0, ↓SC_a69 s0, ↓SC_s69 s0, ↓SC_n69 s0, ↓SC_a70 s0, ↓SC_s70 s0, ↓SC_n70 s0, ↓SC_a71 s0, ↓SC_s71 s0, ↓SC_n71 s0, ↓SC_a73 s0, ↓SC_s73 s0, ↓SC_n73 s0, ↓SC_a75 s0, ↓SC_s75 s0, ↓SC_n75 s0, ↓SC_a76 s0, ↓SC_s76 s0, ↓SC_n76 s0, ↓SC_a77 s0, ↓SC_s77 s0, ↓SC_n77 s0, ↓SC_a78 s0, ↓SC_s78 s0, ↓SC_n78 s0, ↓SC_a79 s0, ↓SC_s79 s0, ↓SC_n79 s0, ↓SC_a80 s0, ↓SC_s80 s0, ↓SC_n80 s0, ↓SC_ai s0, ↓SC_si s0, ↓SC_ni s0, ↓SC_ag s0, ↓SC_sg s0, ↓SC_ng s0, ↓SC_ac0 s0, ↓SC_sc0 s0, ↓SC_nc0 s0, ↓SC_ac1 s0, ↓SC_sc1 s0, ↓SC_nc1 s0, ↓SC_ac2 s0, ↓SC_sc2 s0, ↓SC_nc2 s0, ↓SC_ac3 s0, ↓SC_sc3 s0, ↓SC_nc3 s0, ↓SC_ac4 s0, ↓SC_sc4 s0, ↓SC_nc4 s0, SC_b72 s0, SC_oI0 s0, SC_oP0 s0, SC_oZ0 s0, SC_oY0 s0, SC_oz0 s0, SC_oy0 s0, SC_oV0 s0, SC_oI3 s0, SC_oP3 s0, SC_oZ3 s0, SC_oY3 s0, SC_oz3 s0, SC_oy3 s0, SC_oV3 s0, SC_oI66 s0, SC_oP66 s0, SC_oZ66 s0, SC_oY66 s0, SC_oz66 s0, SC_oy66 s0, SC_oV66 s0, SC_oI68 s0, SC_oP68 s0, SC_oZ68 s0, SC_oY68 s0, SC_oz68 s0, SC_oy68 s0, SC_oV68 s0, SC_oI74 s0, SC_oP74 s0, SC_oZ74 s0, SC_oY74 s0, SC_oz74 s0, SC_oy74 s0, SC_oV74 s0, SC_oIr s0, SC_oPr s0, SC_oZr s0, SC_oYr s0, SC_ozr s0, SC_oyr s0, SC_oVr s0, SC_oIw s0, SC_oPw s0, SC_oZw s0, SC_oYw s0, SC_ozw s0, SC_oyw s0, SC_oVw s0, SC_oIh s0, SC_oPh s0, SC_oZh s0, SC_oYh s0, SC_ozh s0, SC_oyh s0, SC_oVh s0, SC_a67 s0, SC_s67 s0, SC_n67 s0, SC_a69 s0, SC_s69 s0, SC_n69 s0, SC_a70 s0, SC_s70 s0, SC_n70 s0, SC_a71 s0, SC_s71 s0, SC_n71 s0, SC_a73 s0, SC_s73 s0, SC_n73 s0, SC_a75 s0, SC_s75 s0, SC_n75 s0, SC_a76 s0, SC_s76 s0, SC_n76 s0, SC_a77 s0, SC_s77 s0, SC_n77 s0, SC_a78 s0, SC_s78 s0, SC_n78 s0, SC_a79 s0, SC_s79 s0, SC_n79 s0, SC_a80 s0, SC_s80 s0, SC_n80 s0, SC_ai s0, SC_si s0, SC_ni s0, SC_ag s0, SC_sg s0, SC_ng s0, SC_ac0 s0, SC_sc0 s0, SC_nc0 s0, SC_ac1 s0, SC_sc1 s0, SC_nc1 s0, SC_ac2 s0, SC_sc2 s0, SC_nc2 s0, SC_ac3 s0, SC_sc3 s0, SC_nc3 s0, SC_ac4 s0, SC_sc4 s0, SC_nc4 s0, SC_g1 s0, SC_g2 s0, SC_g74 s0, SC_g3 s0, SC_g66 s0, SC_g68 s0, SC_g72 s0, SC_g73 s0, SC_g4 s0, SC_g67 s0, SC_g69 s0, SC_g70 s0, SC_g71 s0, SC_g75 s0, SC_g76 s0, SC_g77 s0, SC_g78 s0, SC_g79 s0, SC_g80 s0, SC_gri s0, SC_grc s0, SC_grc0 s0, SC_grc1 s0, SC_grc2 s0, SC_grc3 s0, SC_grc4 s0, SC_grr s0, SC_grs s0, SC_grg s0, ↓nn_s, ↓nn_n, ↓bnd_s, nn_s, nn_n, bnd_s, rI, rZ, rV, rR, wA00, n_sub, nI_add, pk_mul, n_m1, n_leI, n_ltI, n_eqI, n_eqm1, n_0m1, n_m10, n_cl, n_div, n_rem, li_0, li_1, li_2, li_3, li_4, li_5, li_6, li_7, li_8, li_9, li_10, li_11, li_12, li_13, li_16, li_20, li_21, li_22, li_36, li_40, li_59, li_60, li_61, li_99, li_100, li_109, li_110, li_119, li_120, li_121, li_512, li_3721, li_1000000, li_1000001, li_1000002, li_1000003, li_1000010, t_lt, t_le, f_lt, f_le, t_eq, f_eq, if_true, if_false, true_and, and_true, or_true, true_or, or_false, false_or, and_false, false_and, not_true_eq_false, not_false_eq_true, Nat.zero_add, Nat.add_zero, Nat.mul_zero]
    · rw [ug_1 rfl rfl, List.length_append, seg_len]
    · rw [List.length_append, seg_len] at hj
      rw [ug_2 (by omega), us_1 rfl, va_cpy_r]
      by_cases w : j < l.length
      · rw [if_neg (by omega), gdi_1 w]; exact p2 j w
      · rw [if_pos (by omega), gdi_2 (by omega), seg_get _ _ _ (by omega)]; exact hf _ (by omega)
end PMADE
