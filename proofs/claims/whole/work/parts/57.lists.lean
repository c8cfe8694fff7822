section PLISTS
variable {c m t r s : Nat} {h : AH} {G G' : Nat → Nat → Int32} {T T' : Nat → Int32} {S o : Nat → Nat}
theorem prt_c : ∀ d i dep P S, (∀ k, k < d → T' (i + k) = T (i + k)) → prt T' d i dep P S = prt T d i dep P S
  | 0, _, _, _, _, _ => rfl
  | d + 1, i, dep, P, S, e => by
    have e0 : T' i = T i := e 0 (by omega)
    have en : nd T' i dep = nd T i dep := by unfold nd; rw [e0]
    show prt T' d (i + 1) (nd T' i dep) _ _ = prt T d (i + 1) (nd T i dep) _ _
    rw [en]
    refine prt_c d (i + 1) _ _ _ (fun k hk => ?_)
    rw [show i + 1 + k = i + (k + 1) by omega]; exact e (k + 1) (by omega)
theorem lxF_c {a b n z : Nat} : ∀ d k, (∀ x, x < k + d → T' (a + x) = T (a + x)) → (∀ x, x < k + d → T' (b + x) = T (b + x)) → (lxF T' a b n z d k ↔ lxF T a b n z d k)
  | 0, _, _, _ => Iff.rfl
  | d + 1, k, e1, e2 => by
    have ih := lxF_c (a := a) (b := b) (n := n) (z := z) d (k + 1) (fun x hx => e1 x (by omega)) (fun x hx => e2 x (by omega))
    show (_ ∧ _ ∨ _) ↔ (_ ∧ _ ∨ _)
    rw [e1 k (by omega), e2 k (by omega), ih]
theorem shf_c {Q Q' : Nat → Prop} : ∀ k o, (∀ j, j < k → (Q' (o j) ↔ Q (o j))) → shf Q' k o = shf Q k o
  | 0, _, _ => rfl
  | k + 1, o, e => by
    have ek := e k (by omega)
    by_cases hq : Q (o k)
    · rw [shf_t hq, shf_t (ek.mpr hq)]
      exact shf_c k _ (fun j hj => by rw [va_up_off _ _ (by omega)]; exact e j (by omega))
    · rw [shf_f hq, shf_f (fun z => hq (ek.mp z))]
theorem ahead_c {P p e N : Nat} (hS : prS S P) (hN : S P ≤ N) (hm : ∀ p, p < P → S (p + 1) ≤ S P) (hp : p < P) (he : e < P) (hT : ∀ x, x < N → T' x = T x) : aheadP T' S p e ↔ aheadP T S p e := by
  have b1 := hm p hp
  have b2 := hm e he
  have c1 := (hS.2 p hp).1
  have c2 := (hS.2 e he).1
  have l1 : ln S p = S (p + 1) - S p := rfl
  have l2 : ln S e = S (e + 1) - S e := rfl
  exact lxF_c _ 0 (fun x hx => hT _ (by omega)) (fun x hx => hT _ (by omega))
theorem ordO_c {P N : Nat} (hS : prS S P) (hN : S P ≤ N) (hm : ∀ p, p < P → S (p + 1) ≤ S P) (hT : ∀ x, x < N → T' x = T x) : ∀ d p o, p + d = P → (∀ j, j < p → o j < p) → ordO T' S d p o = ordO T S d p o
  | 0, _, _, _, _ => rfl
  | d + 1, p, o, hp, hB => by
    have e : insO T' S p o = insO T S p o := by
      unfold insO
      rw [shf_c (Q := aheadP T S p) (Q' := aheadP T' S p) p o (fun j hj => ahead_c hS hN hm (by omega) (by have := hB j hj; omega) hT)]
    show ordO T' S d (p + 1) (insO T' S p o) = ordO T S d (p + 1) (insO T S p o)
    rw [e]
    exact ordO_c hS hN hm hT d (p + 1) _ (by omega) (shf_bd (by omega) p o (fun j hj => by have := hB j hj; omega))
theorem cat_c {P N : Nat} (hN : S P ≤ N) (hS : prS S P) (hm : ∀ p, p < P → S (p + 1) ≤ S P) (hoB : ∀ j, j < P → o j < P) (hT : ∀ x, x < N → T' x = T x) : ∀ d q e X, q + d = P → cat T' S o d q e X = cat T S o d q e X
  | 0, _, _, _, _ => rfl
  | d + 1, q, e, X, hq => by
    have b := hm (o q) (hoB q (by omega))
    have b2 := (hS.2 (o q) (hoB q (by omega))).1
    have l1 : ln S (o q) = S (o q + 1) - S (o q) := rfl
    have ev : va_cpy T' X (S (o q)) e (ln S (o q)) = va_cpy T X (S (o q)) e (ln S (o q)) := by
      funext x
      rw [va_cpy_r, va_cpy_r]
      by_cases z : e ≤ x ∧ x < e + ln S (o q)
      · rw [if_pos z, if_pos z]; exact hT _ (by omega)
      · rw [if_neg z, if_neg z]
    show cat T' S o d (q + 1) _ (va_cpy T' X _ _ _) = cat T S o d (q + 1) _ (va_cpy T X _ _ _)
    rw [ev]
    exact cat_c hN hS hm hoB hT d (q + 1) _ _ (by omega)
theorem sg1_c {f n N : Nat} (hb : bl T n f 0) (hn : f + n ≤ 60) (hN : f + n ≤ N) (hT : ∀ x, x < N → T' x = T x) : ∀ x, x < N → sg1 T' f n x = sg1 T f n x := by
  intro x hx
  have e1 : prt T' n f 0 0 (fun _ => 0) = prt T n f 0 0 (fun _ => 0) := prt_c n f 0 0 _ (fun k hk => hT _ (by omega))
  obtain ⟨a1, a2, a3, a4, a5⟩ := prt_all hb hn
  unfold sg1
  rw [e1]
  generalize prt T n f 0 0 (fun _ => 0) = pr at a1 a2 a3 a4 a5 ⊢
  have hm : ∀ p, p < pr.1 → pr.2 (p + 1) ≤ pr.2 pr.1 := by
    have up : ∀ k p, p + k = pr.1 → pr.2 p ≤ pr.2 pr.1 := by
      intro k
      induction k with
      | zero => intro p hp; rw [show p = pr.1 by omega]; exact Nat.le_refl _
      | succ k ih => intro p hp; have := (a1.2 p (by omega)).1; have := ih (p + 1) (by omega); omega
    exact fun p hp => up (pr.1 - (p + 1)) (p + 1) (by omega)
  obtain ⟨b1, b2⟩ := ordO_p (T := T) (S := pr.2) pr.1 0 (fun _ => 0) (fun j hj => absurd hj (Nat.not_lt_zero _)) rfl
  simp only [Nat.zero_add] at b1
  rw [ordO_c (T' := T') (T := T) (N := N) a1 (by omega) hm hT pr.1 0 _ (by omega) (fun j hj => absurd hj (Nat.not_lt_zero _)), cat_c (T' := T') (T := T) (N := N) (by omega) a1 hm b1 hT pr.1 0 _ _ (by omega)]
  show va_cpy _ _ _ _ _ _ = va_cpy _ _ _ _ _ _
  rw [va_cpy_r, va_cpy_r, hT x hx]
theorem olF_c {N : Nat} (hN : N ≤ 60) : ∀ d i dep St T T', i + d ≤ N → (∀ x, x < N → T' x = T x) → stI T St dep i → scn T d i (nI dep) → ∀ x, x < N → olF d i dep St T' x = olF d i dep St T x
  | 0, _, _, _, _, _, _, hT, _, _, x, hx => hT x hx
  | d + 1, i, dep, St, T, T', hi, hT, hs, hsc, x, hx => by
    obtain ⟨c1, c2, c3, c4⟩ := hsc
    have e0 := hT i (by omega)
    unfold olF
    rw [e0]
    by_cases h1 : T i = nI 120
    · rw [if_pos h1, if_pos h1]
      have dl : dlt (T i) = nI 1 := by unfold dlt; rw [if_pos h1]
      rw [dl, nI_add] at c4
      exact olF_c hN d (i + 1) (dep + 1) _ T T' (by omega) hT (stI_push hs h1) c4 x hx
    · rw [if_neg h1, if_neg h1]
      by_cases h2 : T i = nI 121
      · rw [if_pos h2, if_pos h2]
        have dl : dlt (T i) = -nI 1 := by unfold dlt; rw [if_neg h1, if_pos h2]
        rw [dl] at c3 c4
        obtain ⟨e, rfl⟩ : ∃ e, dep = e + 1 := by
          cases dep with
          | zero => exact absurd c3 (by decide)
          | succ e => exact ⟨e, rfl⟩
        rw [n_m1 (by omega), Nat.add_sub_cancel] at c4
        rw [Nat.add_sub_cancel]
        have p1 : St e < i := hs.1
        have sout := (sg1_all (T := T) (f := St e + 1) (n := i - (St e + 1)) hs.2.2.1 (by omega)).2.1
        exact olF_c hN d (i + 1) e St _ _ (by omega) (sg1_c (N := N) hs.2.2.1 (by omega) (by omega) hT) (stI_pop hs h2 (by omega)) (scn_c _ _ _ (fun j a b => (sout j (by omega)).symm) c4) x hx
      · rw [if_neg h2, if_neg h2]
        have dl : dlt (T i) = nI 0 := by unfold dlt; rw [if_neg h1, if_neg h2]
        rw [dl, i_add0] at c4
        exact olF_c hN d (i + 1) dep St T T' (by omega) hT (stI_word hs h1 h2) c4 x hx
theorem M_lists_L (s0 : SM m h) {n : Nat} {ru : Int32} (hn : n ≤ 60) (h4 : ru &&& nI 4 = nI 4) : ∀ d i dep St T fu G, i + d = n → d < fu → dep ≤ i → G m 2 = ru → (∀ j, j < 60 → G (m + 4) j = T j) → (∀ k, k < dep → G (m + 6) k = nI (St k)) → stI T St dep i → scn T d i (nI dep) → ∃ G', f_X11_foldRow_L67 f_X11_foldRow_J146 fu m (nI n) (nI dep) (nI i) (wi h G) = f_X11_foldRow_J146 m (nI n) (wi h G') ∧ (∀ a j, ¬ (m + 4 ≤ a ∧ a ≤ m + 8) → G' a j = G a j) ∧ ∀ j, j < 60 → G' (m + 4) j = olF d i dep St T j := by
  intro d
  induction d with
  | zero =>
    intro i dep St T fu G hi hfu hd hR hT hSt hs hsc
    obtain ⟨fu, rfl⟩ : ∃ k, fu = k + 1 := ⟨fu - 1, by omega⟩
    refine ⟨G, ?_, fun a j _ => rfl, hT⟩
    simp (disch := omega) only [f_X11_foldRow_L67, ↓SM_g1 s0, ↓SM_g2 s0, ↓SM_g3 s0, ↓SM_g4 s0, ↓SM_g5 s0, ↓SM_g6 s0, ↓SM_g7 s0, ↓SM_g8 s0, ↓SM_g9 s0, ↓SM_g10 s0, ↓SM_g11 s0, ↓SM_g12 s0, ↓SM_g13 s0, ↓SM_g14 s0, ↓SM_g15 s0, ↓SM_g16 s0, ↓SM_g17 s0, ↓SM_g18 s0, ↓SM_g19 s0, ↓SM_g20 s0, ↓SM_g21 s0, ↓SM_g22 s0, ↓SM_g23 s0, ↓SM_g24 s0, ↓SM_g25 s0, ↓SM_g26 s0, ↓SM_g27 s0, ↓SM_g28 s0, ↓SM_g29 s0, ↓SM_g30 s0, ↓SM_g31 s0, ↓SM_g32 s0, ↓SM_g33 s0, ↓SM_g34 s0, ↓SM_g35 s0, ↓SM_g36 s0, ↓SM_g37 s0, ↓SM_g38 s0, ↓SM_g39 s0, ↓SM_g40 s0, ↓SM_g41 s0, ↓SM_g42 s0, ↓SM_oI s0, ↓SM_oP s0, ↓SM_oV s0, ↓SM_a1 s0, ↓SM_s1 s0, ↓SM_a2 s0, ↓SM_s2 s0, ↓SM_a3 s0, ↓SM_s3 s0, ↓SM_a4 s0, ↓SM_s4 s0, ↓SM_a5 s0, ↓SM_s5 s0, ↓SM_a6 s0, ↓SM_s6 s0, ↓SM_a7 s0, ↓SM_s7 s0, ↓SM_a8 s0, ↓SM_s8 s0, ↓SM_a9 s0, ↓SM_s9 s0, ↓SM_a10 s0, ↓SM_s10 s0, ↓SM_a11 s0, ↓SM_s11 s0, ↓SM_a12 s0, ↓SM_s12 s0, ↓SM_a13 s0, ↓SM_s13 s0, ↓SM_a14 s0, ↓SM_s14 s0, ↓SM_a15 s0, ↓SM_s15 s0, ↓SM_a16 s0, ↓SM_s16 s0, ↓SM_a17 s0, ↓SM_s17 s0, ↓SM_a18 s0, ↓SM_s18 s0, ↓SM_a19 s0, ↓SM_s19 s0, ↓SM_a20 s0, ↓SM_s20 s0, ↓SM_a21 s0, ↓SM_s21 s0, ↓SM_a22 s0, ↓SM_s22 s0, ↓SM_a23 s0, ↓SM_s23 s0, ↓SM_a24 s0, ↓SM_s24 s0, ↓SM_a25 s0, ↓SM_s25 s0, ↓SM_a26 s0, ↓SM_s26 s0, ↓SM_a27 s0, ↓SM_s27 s0, ↓SM_a28 s0, ↓SM_s28 s0, ↓SM_a29 s0, ↓SM_s29 s0, ↓SM_a30 s0, ↓SM_s30 s0, ↓SM_a31 s0, ↓SM_s31 s0, ↓SM_a32 s0, ↓SM_s32 s0, ↓SM_a33 s0, ↓SM_s33 s0, ↓SM_a34 s0, ↓SM_s34 s0, ↓SM_a35 s0, ↓SM_s35 s0, ↓SM_a36 s0, ↓SM_s36 s0, ↓SM_a37 s0, ↓SM_s37 s0, ↓SM_a38 s0, ↓SM_s38 s0, ↓SM_a39 s0, ↓SM_s39 s0, ↓SM_a40 s0, ↓SM_s40 s0, ↓SM_a41 s0, ↓SM_s41 s0, ↓SM_a42 s0, ↓SM_s42 s0, SM_oI s0, SM_oP s0, SM_oV s0, SM_a1 s0, SM_s1 s0, SM_a2 s0, SM_s2 s0, SM_a3 s0, SM_s3 s0, SM_a4 s0, SM_s4 s0, SM_a5 s0, SM_s5 s0, SM_a6 s0, SM_s6 s0, SM_a7 s0, SM_s7 s0, SM_a8 s0, SM_s8 s0, SM_a9 s0, SM_s9 s0, SM_a10 s0, SM_s10 s0, SM_a11 s0, SM_s11 s0, SM_a12 s0, SM_s12 s0, SM_a13 s0, SM_s13 s0, SM_a14 s0, SM_s14 s0, SM_a15 s0, SM_s15 s0, SM_a16 s0, SM_s16 s0, SM_a17 s0, SM_s17 s0, SM_a18 s0, SM_s18 s0, SM_a19 s0, SM_s19 s0, SM_a20 s0, SM_s20 s0, SM_a21 s0, SM_s21 s0, SM_a22 s0, SM_s22 s0, SM_a23 s0, SM_s23 s0, SM_a24 s0, SM_s24 s0, SM_a25 s0, SM_s25 s0, SM_a26 s0, SM_s26 s0, SM_a27 s0, SM_s27 s0, SM_a28 s0, SM_s28 s0, SM_a29 s0, SM_s29 s0, SM_a30 s0, SM_s30 s0, SM_a31 s0, SM_s31 s0, SM_a32 s0, SM_s32 s0, SM_a33 s0, SM_s33 s0, SM_a34 s0, SM_s34 s0, SM_a35 s0, SM_s35 s0, SM_a36 s0, SM_s36 s0, SM_a37 s0, SM_s37 s0, SM_a38 s0, SM_s38 s0, SM_a39 s0, SM_s39 s0, SM_a40 s0, SM_s40 s0, SM_a41 s0, SM_s41 s0, SM_a42 s0, SM_s42 s0, ↓nn_s, ↓nn_n, ↓bnd_s, nn_s, nn_n, bnd_s, rI, rZ, rV, rR, wA00, n_sub, nI_add, pk_mul, n_m1, n_leI, n_ltI, n_eqI, n_eqm1, n_0m1, n_m10, n_cl, n_div, n_rem, li_0, li_1, li_2, li_3, li_4, li_5, li_6, li_7, li_8, li_9, li_10, li_11, li_12, li_13, li_16, li_20, li_21, li_22, li_36, li_40, li_59, li_60, li_61, li_99, li_100, li_109, li_110, li_119, li_120, li_121, li_512, li_3721, li_1000000, li_1000001, li_1000002, li_1000003, li_1000010, t_lt, t_le, f_lt, f_le, t_eq, f_eq, if_true, if_false, true_and, and_true, or_true, true_or, or_false, false_or, and_false, false_and, not_true_eq_false, not_false_eq_true, Nat.zero_add, Nat.add_zero, Nat.mul_zero]
  | succ d ih =>
    intro i dep St T fu G hi hfu hd hR hT hSt hs hsc
    obtain ⟨fu, rfl⟩ : ∃ k, fu = k + 1 := ⟨fu - 1, by omega⟩
    obtain ⟨c1, c2, c3, c4⟩ := hsc
    have eT := hT i (by omega)
    by_cases h1 : T i = nI 120
    · have e : olF (d + 1) i dep St T = olF d (i + 1) (dep + 1) (va_up St dep i) T := by show (if _ then _ else _) = _; rw [if_pos h1]
      rw [e]
      have dl : dlt (T i) = nI 1 := by unfold dlt; rw [if_pos h1]
      rw [dl, nI_add] at c4
      obtain ⟨G', g1, g2, g3⟩ := ih (i + 1) (dep + 1) (va_up St dep i) T fu (ug G (m + 6) dep (nI i)) (by omega) (by omega) (by omega) (by rw [ug_2 (by omega)]; exact hR) (fun j hj => by rw [ug_2 (by omega)]; exact hT j hj) (fun k hk => by
        by_cases z : k = dep
        · subst z; rw [ug_1 rfl rfl, va_up_at]
        · rw [ug_3 z, va_up_off _ _ z]; exact hSt k (by omega)) (stI_push hs h1) c4
      refine ⟨G', ?_, fun a j ha => by rw [g2 a j ha, ug_2 (by omega)], g3⟩
      refine Eq.trans ?_ g1
      simp (disch := omega) only [f_X11_foldRow_L67, hR, h4, eT, h1, ↓SM_g1 s0, ↓SM_g2 s0, ↓SM_g3 s0, ↓SM_g4 s0, ↓SM_g5 s0, ↓SM_g6 s0, ↓SM_g7 s0, ↓SM_g8 s0, ↓SM_g9 s0, ↓SM_g10 s0, ↓SM_g11 s0, ↓SM_g12 s0, ↓SM_g13 s0, ↓SM_g14 s0, ↓SM_g15 s0, ↓SM_g16 s0, ↓SM_g17 s0, ↓SM_g18 s0, ↓SM_g19 s0, ↓SM_g20 s0, ↓SM_g21 s0, ↓SM_g22 s0, ↓SM_g23 s0, ↓SM_g24 s0, ↓SM_g25 s0, ↓SM_g26 s0, ↓SM_g27 s0, ↓SM_g28 s0, ↓SM_g29 s0, ↓SM_g30 s0, ↓SM_g31 s0, ↓SM_g32 s0, ↓SM_g33 s0, ↓SM_g34 s0, ↓SM_g35 s0, ↓SM_g36 s0, ↓SM_g37 s0, ↓SM_g38 s0, ↓SM_g39 s0, ↓SM_g40 s0, ↓SM_g41 s0, ↓SM_g42 s0, ↓SM_oI s0, ↓SM_oP s0, ↓SM_oV s0, ↓SM_a1 s0, ↓SM_s1 s0, ↓SM_a2 s0, ↓SM_s2 s0, ↓SM_a3 s0, ↓SM_s3 s0, ↓SM_a4 s0, ↓SM_s4 s0, ↓SM_a5 s0, ↓SM_s5 s0, ↓SM_a6 s0, ↓SM_s6 s0, ↓SM_a7 s0, ↓SM_s7 s0, ↓SM_a8 s0, ↓SM_s8 s0, ↓SM_a9 s0, ↓SM_s9 s0, ↓SM_a10 s0, ↓SM_s10 s0, ↓SM_a11 s0, ↓SM_s11 s0, ↓SM_a12 s0, ↓SM_s12 s0, ↓SM_a13 s0, ↓SM_s13 s0, ↓SM_a14 s0, ↓SM_s14 s0, ↓SM_a15 s0, ↓SM_s15 s0, ↓SM_a16 s0, ↓SM_s16 s0, ↓SM_a17 s0, ↓SM_s17 s0, ↓SM_a18 s0, ↓SM_s18 s0, ↓SM_a19 s0, ↓SM_s19 s0, ↓SM_a20 s0, ↓SM_s20 s0, ↓SM_a21 s0, ↓SM_s21 s0, ↓SM_a22 s0, ↓SM_s22 s0, ↓SM_a23 s0, ↓SM_s23 s0, ↓SM_a24 s0, ↓SM_s24 s0, ↓SM_a25 s0, ↓SM_s25 s0, ↓SM_a26 s0, ↓SM_s26 s0, ↓SM_a27 s0, ↓SM_s27 s0, ↓SM_a28 s0, ↓SM_s28 s0, ↓SM_a29 s0, ↓SM_s29 s0, ↓SM_a30 s0, ↓SM_s30 s0, ↓SM_a31 s0, ↓SM_s31 s0, ↓SM_a32 s0, ↓SM_s32 s0, ↓SM_a33 s0, ↓SM_s33 s0, ↓SM_a34 s0, ↓SM_s34 s0, ↓SM_a35 s0, ↓SM_s35 s0, ↓SM_a36 s0, ↓SM_s36 s0, ↓SM_a37 s0, ↓SM_s37 s0, ↓SM_a38 s0, ↓SM_s38 s0, ↓SM_a39 s0, ↓SM_s39 s0, ↓SM_a40 s0, ↓SM_s40 s0, ↓SM_a41 s0, ↓SM_s41 s0, ↓SM_a42 s0, ↓SM_s42 s0, SM_oI s0, SM_oP s0, SM_oV s0, SM_a1 s0, SM_s1 s0, SM_a2 s0, SM_s2 s0, SM_a3 s0, SM_s3 s0, SM_a4 s0, SM_s4 s0, SM_a5 s0, SM_s5 s0, SM_a6 s0, SM_s6 s0, SM_a7 s0, SM_s7 s0, SM_a8 s0, SM_s8 s0, SM_a9 s0, SM_s9 s0, SM_a10 s0, SM_s10 s0, SM_a11 s0, SM_s11 s0, SM_a12 s0, SM_s12 s0, SM_a13 s0, SM_s13 s0, SM_a14 s0, SM_s14 s0, SM_a15 s0, SM_s15 s0, SM_a16 s0, SM_s16 s0, SM_a17 s0, SM_s17 s0, SM_a18 s0, SM_s18 s0, SM_a19 s0, SM_s19 s0, SM_a20 s0, SM_s20 s0, SM_a21 s0, SM_s21 s0, SM_a22 s0, SM_s22 s0, SM_a23 s0, SM_s23 s0, SM_a24 s0, SM_s24 s0, SM_a25 s0, SM_s25 s0, SM_a26 s0, SM_s26 s0, SM_a27 s0, SM_s27 s0, SM_a28 s0, SM_s28 s0, SM_a29 s0, SM_s29 s0, SM_a30 s0, SM_s30 s0, SM_a31 s0, SM_s31 s0, SM_a32 s0, SM_s32 s0, SM_a33 s0, SM_s33 s0, SM_a34 s0, SM_s34 s0, SM_a35 s0, SM_s35 s0, SM_a36 s0, SM_s36 s0, SM_a37 s0, SM_s37 s0, SM_a38 s0, SM_s38 s0, SM_a39 s0, SM_s39 s0, SM_a40 s0, SM_s40 s0, SM_a41 s0, SM_s41 s0, SM_a42 s0, SM_s42 s0, ↓nn_s, ↓nn_n, ↓bnd_s, nn_s, nn_n, bnd_s, rI, rZ, rV, rR, wA00, n_sub, nI_add, pk_mul, n_m1, n_leI, n_ltI, n_eqI, n_eqm1, n_0m1, n_m10, n_cl, n_div, n_rem, li_0, li_1, li_2, li_3, li_4, li_5, li_6, li_7, li_8, li_9, li_10, li_11, li_12, li_13, li_16, li_20, li_21, li_22, li_36, li_40, li_59, li_60, li_61, li_99, li_100, li_109, li_110, li_119, li_120, li_121, li_512, li_3721, li_1000000, li_1000001, li_1000002, li_1000003, li_1000010, t_lt, t_le, f_lt, f_le, t_eq, f_eq, if_true, if_false, true_and, and_true, or_true, true_or, or_false, false_or, and_false, false_and, not_true_eq_false, not_false_eq_true, Nat.zero_add, Nat.add_zero, Nat.mul_zero]
    · by_cases h2 : T i = nI 121
      · have dl : dlt (T i) = -nI 1 := by unfold dlt; rw [if_neg h1, if_pos h2]
        rw [dl] at c3 c4
        obtain ⟨e, rfl⟩ : ∃ e, dep = e + 1 := by
          cases dep with
          | zero => exact absurd c3 (by decide)
          | succ e => exact ⟨e, rfl⟩
        rw [n_m1 (by omega), Nat.add_sub_cancel] at c4
        have eo : olF (d + 1) i (e + 1) St T = olF d (i + 1) e St (sg1 T (St e + 1) (i - (St e + 1))) := by show (if _ then _ else if _ then _ else _) = _; rw [if_neg h1, if_pos h2]; rfl
        rw [eo]
        have p1 : St e < i := hs.1
        have eS := hSt e (by omega)
        obtain ⟨G1, o1, o2, o3⟩ := M_putInOrder s0 hs.2.2.1 (by omega) (by omega) hT
        rw [show St e + 1 + (i - (St e + 1)) = i by omega] at o1
        have sout := (sg1_all (T := T) (f := St e + 1) (n := i - (St e + 1)) hs.2.2.1 (by omega)).2.1
        obtain ⟨G', g1, g2, g3⟩ := ih (i + 1) e St (sg1 T (St e + 1) (i - (St e + 1))) fu G1 (by omega) (by omega) (by omega) (by rw [o2 _ _ (by omega)]; exact hR) o3 (fun k hk => by rw [o2 _ _ (by omega)]; exact hSt k (by omega)) (stI_pop hs h2 (by omega)) (scn_c _ _ _ (fun j a b => (sout j (by omega)).symm) c4)
        refine ⟨G', ?_, fun a j ha => by rw [g2 a j ha, o2 a j (by omega)], g3⟩
        refine Eq.trans ?_ g1
        simp (disch := omega) only [f_X11_foldRow_L67, Nat.add_sub_cancel, hR, h4, eT, h2, eS, o1, ↓SM_g1 s0, ↓SM_g2 s0, ↓SM_g3 s0, ↓SM_g4 s0, ↓SM_g5 s0, ↓SM_g6 s0, ↓SM_g7 s0, ↓SM_g8 s0, ↓SM_g9 s0, ↓SM_g10 s0, ↓SM_g11 s0, ↓SM_g12 s0, ↓SM_g13 s0, ↓SM_g14 s0, ↓SM_g15 s0, ↓SM_g16 s0, ↓SM_g17 s0, ↓SM_g18 s0, ↓SM_g19 s0, ↓SM_g20 s0, ↓SM_g21 s0, ↓SM_g22 s0, ↓SM_g23 s0, ↓SM_g24 s0, ↓SM_g25 s0, ↓SM_g26 s0, ↓SM_g27 s0, ↓SM_g28 s0, ↓SM_g29 s0, ↓SM_g30 s0, ↓SM_g31 s0, ↓SM_g32 s0, ↓SM_g33 s0, ↓SM_g34 s0, ↓SM_g35 s0, ↓SM_g36 s0, ↓SM_g37 s0, ↓SM_g38 s0, ↓SM_g39 s0, ↓SM_g40 s0, ↓SM_g41 s0, ↓SM_g42 s0, ↓SM_oI s0, ↓SM_oP s0, ↓SM_oV s0, ↓SM_a1 s0, ↓SM_s1 s0, ↓SM_a2 s0, ↓SM_s2 s0, ↓SM_a3 s0, ↓SM_s3 s0, ↓SM_a4 s0, ↓SM_s4 s0, ↓SM_a5 s0, ↓SM_s5 s0, ↓SM_a6 s0, ↓SM_s6 s0, ↓SM_a7 s0, ↓SM_s7 s0, ↓SM_a8 s0, ↓SM_s8 s0, ↓SM_a9 s0, ↓SM_s9 s0, ↓SM_a10 s0, ↓SM_s10 s0, ↓SM_a11 s0, ↓SM_s11 s0, ↓SM_a12 s0, ↓SM_s12 s0, ↓SM_a13 s0, ↓SM_s13 s0, ↓SM_a14 s0, ↓SM_s14 s0, ↓SM_a15 s0, ↓SM_s15 s0, ↓SM_a16 s0, ↓SM_s16 s0, ↓SM_a17 s0, ↓SM_s17 s0, ↓SM_a18 s0, ↓SM_s18 s0, ↓SM_a19 s0, ↓SM_s19 s0, ↓SM_a20 s0, ↓SM_s20 s0, ↓SM_a21 s0, ↓SM_s21 s0, ↓SM_a22 s0, ↓SM_s22 s0, ↓SM_a23 s0, ↓SM_s23 s0, ↓SM_a24 s0, ↓SM_s24 s0, ↓SM_a25 s0, ↓SM_s25 s0, ↓SM_a26 s0, ↓SM_s26 s0, ↓SM_a27 s0, ↓SM_s27 s0, ↓SM_a28 s0, ↓SM_s28 s0, ↓SM_a29 s0, ↓SM_s29 s0, ↓SM_a30 s0, ↓SM_s30 s0, ↓SM_a31 s0, ↓SM_s31 s0, ↓SM_a32 s0, ↓SM_s32 s0, ↓SM_a33 s0, ↓SM_s33 s0, ↓SM_a34 s0, ↓SM_s34 s0, ↓SM_a35 s0, ↓SM_s35 s0, ↓SM_a36 s0, ↓SM_s36 s0, ↓SM_a37 s0, ↓SM_s37 s0, ↓SM_a38 s0, ↓SM_s38 s0, ↓SM_a39 s0, ↓SM_s39 s0, ↓SM_a40 s0, ↓SM_s40 s0, ↓SM_a41 s0, ↓SM_s41 s0, ↓SM_a42 s0, ↓SM_s42 s0, SM_oI s0, SM_oP s0, SM_oV s0, SM_a1 s0, SM_s1 s0, SM_a2 s0, SM_s2 s0, SM_a3 s0, SM_s3 s0, SM_a4 s0, SM_s4 s0, SM_a5 s0, SM_s5 s0, SM_a6 s0, SM_s6 s0, SM_a7 s0, SM_s7 s0, SM_a8 s0, SM_s8 s0, SM_a9 s0, SM_s9 s0, SM_a10 s0, SM_s10 s0, SM_a11 s0, SM_s11 s0, SM_a12 s0, SM_s12 s0, SM_a13 s0, SM_s13 s0, SM_a14 s0, SM_s14 s0, SM_a15 s0, SM_s15 s0, SM_a16 s0, SM_s16 s0, SM_a17 s0, SM_s17 s0, SM_a18 s0, SM_s18 s0, SM_a19 s0, SM_s19 s0, SM_a20 s0, SM_s20 s0, SM_a21 s0, SM_s21 s0, SM_a22 s0, SM_s22 s0, SM_a23 s0, SM_s23 s0, SM_a24 s0, SM_s24 s0, SM_a25 s0, SM_s25 s0, SM_a26 s0, SM_s26 s0, SM_a27 s0, SM_s27 s0, SM_a28 s0, SM_s28 s0, SM_a29 s0, SM_s29 s0, SM_a30 s0, SM_s30 s0, SM_a31 s0, SM_s31 s0, SM_a32 s0, SM_s32 s0, SM_a33 s0, SM_s33 s0, SM_a34 s0, SM_s34 s0, SM_a35 s0, SM_s35 s0, SM_a36 s0, SM_s36 s0, SM_a37 s0, SM_s37 s0, SM_a38 s0, SM_s38 s0, SM_a39 s0, SM_s39 s0, SM_a40 s0, SM_s40 s0, SM_a41 s0, SM_s41 s0, SM_a42 s0, SM_s42 s0, ↓nn_s, ↓nn_n, ↓bnd_s, nn_s, nn_n, bnd_s, rI, rZ, rV, rR, wA00, n_sub, nI_add, pk_mul, n_m1, n_leI, n_ltI, n_eqI, n_eqm1, n_0m1, n_m10, n_cl, n_div, n_rem, li_0, li_1, li_2, li_3, li_4, li_5, li_6, li_7, li_8, li_9, li_10, li_11, li_12, li_13, li_16, li_20, li_21, li_22, li_36, li_40, li_59, li_60, li_61, li_99, li_100, li_109, li_110, li_119, li_120, li_121, li_512, li_3721, li_1000000, li_1000001, li_1000002, li_1000003, li_1000010, t_lt, t_le, f_lt, f_le, t_eq, f_eq, if_true, if_false, true_and, and_true, or_true, true_or, or_false, false_or, and_false, false_and, not_true_eq_false, not_false_eq_true, Nat.zero_add, Nat.add_zero, Nat.mul_zero]
      · have e : olF (d + 1) i dep St T = olF d (i + 1) dep St T := by show (if _ then _ else if _ then _ else _) = _; rw [if_neg h1, if_neg h2]
        rw [e]
        have dl : dlt (T i) = nI 0 := by unfold dlt; rw [if_neg h1, if_neg h2]
        rw [dl, i_add0] at c4
        obtain ⟨G', g1, g2, g3⟩ := ih (i + 1) dep St T fu G (by omega) (by omega) (by omega) hR hT hSt (stI_word hs h1 h2) c4
        refine ⟨G', ?_, g2, g3⟩
        refine Eq.trans ?_ g1
        simp (disch := omega) only [f_X11_foldRow_L67, hR, h4, eT, h1, h2, ↓SM_g1 s0, ↓SM_g2 s0, ↓SM_g3 s0, ↓SM_g4 s0, ↓SM_g5 s0, ↓SM_g6 s0, ↓SM_g7 s0, ↓SM_g8 s0, ↓SM_g9 s0, ↓SM_g10 s0, ↓SM_g11 s0, ↓SM_g12 s0, ↓SM_g13 s0, ↓SM_g14 s0, ↓SM_g15 s0, ↓SM_g16 s0, ↓SM_g17 s0, ↓SM_g18 s0, ↓SM_g19 s0, ↓SM_g20 s0, ↓SM_g21 s0, ↓SM_g22 s0, ↓SM_g23 s0, ↓SM_g24 s0, ↓SM_g25 s0, ↓SM_g26 s0, ↓SM_g27 s0, ↓SM_g28 s0, ↓SM_g29 s0, ↓SM_g30 s0, ↓SM_g31 s0, ↓SM_g32 s0, ↓SM_g33 s0, ↓SM_g34 s0, ↓SM_g35 s0, ↓SM_g36 s0, ↓SM_g37 s0, ↓SM_g38 s0, ↓SM_g39 s0, ↓SM_g40 s0, ↓SM_g41 s0, ↓SM_g42 s0, ↓SM_oI s0, ↓SM_oP s0, ↓SM_oV s0, ↓SM_a1 s0, ↓SM_s1 s0, ↓SM_a2 s0, ↓SM_s2 s0, ↓SM_a3 s0, ↓SM_s3 s0, ↓SM_a4 s0, ↓SM_s4 s0, ↓SM_a5 s0, ↓SM_s5 s0, ↓SM_a6 s0, ↓SM_s6 s0, ↓SM_a7 s0, ↓SM_s7 s0, ↓SM_a8 s0, ↓SM_s8 s0, ↓SM_a9 s0, ↓SM_s9 s0, ↓SM_a10 s0, ↓SM_s10 s0, ↓SM_a11 s0, ↓SM_s11 s0, ↓SM_a12 s0, ↓SM_s12 s0, ↓SM_a13 s0, ↓SM_s13 s0, ↓SM_a14 s0, ↓SM_s14 s0, ↓SM_a15 s0, ↓SM_s15 s0, ↓SM_a16 s0, ↓SM_s16 s0, ↓SM_a17 s0, ↓SM_s17 s0, ↓SM_a18 s0, ↓SM_s18 s0, ↓SM_a19 s0, ↓SM_s19 s0, ↓SM_a20 s0, ↓SM_s20 s0, ↓SM_a21 s0, ↓SM_s21 s0, ↓SM_a22 s0, ↓SM_s22 s0, ↓SM_a23 s0, ↓SM_s23 s0, ↓SM_a24 s0, ↓SM_s24 s0, ↓SM_a25 s0, ↓SM_s25 s0, ↓SM_a26 s0, ↓SM_s26 s0, ↓SM_a27 s0, ↓SM_s27 s0, ↓SM_a28 s0, ↓SM_s28 s0, ↓SM_a29 s0, ↓SM_s29 s0, ↓SM_a30 s0, ↓SM_s30 s0, ↓SM_a31 s0, ↓SM_s31 s0, ↓SM_a32 s0, ↓SM_s32 s0, ↓SM_a33 s0, ↓SM_s33 s0, ↓SM_a34 s0, ↓SM_s34 s0, ↓SM_a35 s0, ↓SM_s35 s0, ↓SM_a36 s0, ↓SM_s36 s0, ↓SM_a37 s0, ↓SM_s37 s0, ↓SM_a38 s0, ↓SM_s38 s0, ↓SM_a39 s0, ↓SM_s39 s0, ↓SM_a40 s0, ↓SM_s40 s0, ↓SM_a41 s0, ↓SM_s41 s0, ↓SM_a42 s0, ↓SM_s42 s0, SM_oI s0, SM_oP s0, SM_oV s0, SM_a1 s0, SM_s1 s0, SM_a2 s0, SM_s2 s0, SM_a3 s0, SM_s3 s0, SM_a4 s0, SM_s4 s0, SM_a5 s0, SM_s5 s0, SM_a6 s0, SM_s6 s0, SM_a7 s0, SM_s7 s0, SM_a8 s0, SM_s8 s0, SM_a9 s0, SM_s9 s0, SM_a10 s0, SM_s10 s0, SM_a11 s0, SM_s11 s0, SM_a12 s0, SM_s12 s0, SM_a13 s0, SM_s13 s0, SM_a14 s0, SM_s14 s0, SM_a15 s0, SM_s15 s0, SM_a16 s0, SM_s16 s0, SM_a17 s0, SM_s17 s0, SM_a18 s0, SM_s18 s0, SM_a19 s0, SM_s19 s0, SM_a20 s0, SM_s20 s0, SM_a21 s0, SM_s21 s0, SM_a22 s0, SM_s22 s0, SM_a23 s0, SM_s23 s0, SM_a24 s0, SM_s24 s0, SM_a25 s0, SM_s25 s0, SM_a26 s0, SM_s26 s0, SM_a27 s0, SM_s27 s0, SM_a28 s0, SM_s28 s0, SM_a29 s0, SM_s29 s0, SM_a30 s0, SM_s30 s0, SM_a31 s0, SM_s31 s0, SM_a32 s0, SM_s32 s0, SM_a33 s0, SM_s33 s0, SM_a34 s0, SM_s34 s0, SM_a35 s0, SM_s35 s0, SM_a36 s0, SM_s36 s0, SM_a37 s0, SM_s37 s0, SM_a38 s0, SM_s38 s0, SM_a39 s0, SM_s39 s0, SM_a40 s0, SM_s40 s0, SM_a41 s0, SM_s41 s0, SM_a42 s0, SM_s42 s0, ↓nn_s, ↓nn_n, ↓bnd_s, nn_s, nn_n, bnd_s, rI, rZ, rV, rR, wA00, n_sub, nI_add, pk_mul, n_m1, n_leI, n_ltI, n_eqI, n_eqm1, n_0m1, n_m10, n_cl, n_div, n_rem, li_0, li_1, li_2, li_3, li_4, li_5, li_6, li_7, li_8, li_9, li_10, li_11, li_12, li_13, li_16, li_20, li_21, li_22, li_36, li_40, li_59, li_60, li_61, li_99, li_100, li_109, li_110, li_119, li_120, li_121, li_512, li_3721, li_1000000, li_1000001, li_1000002, li_1000003, li_1000010, t_lt, t_le, f_lt, f_le, t_eq, f_eq, if_true, if_false, true_and, and_true, or_true, true_or, or_false, false_or, and_false, false_and, not_true_eq_false, not_false_eq_true, Nat.zero_add, Nat.add_zero, Nat.mul_zero]
end PLISTS
