section PSIZE
variable {c m t r s : Nat} {hC hM h h' : AH} {own own' : Nat → Nat} {G G' : Nat → Nat → Int32}
variable {ru fd fd' : Int32} {rw rw' : Nat → Option Rw} {kp gv : Nat → Option An} {lk : Nat → List Nat} {bk : Nat × (Nat → En)} {tr tr' : Nat × (Nat → Int32)}
theorem cn_app {P : Nat → Prop} : ∀ a b i, cn P (a + b) i = cn P a i + cn P b (i + a)
  | 0, b, i => by rw [Nat.zero_add, Nat.add_zero]; show _ = 0 + _; omega
  | a + 1, b, i => by
    have ih := cn_app (P := P) a b (i + 1)
    rw [show i + 1 + a = i + (a + 1) by omega] at ih
    rw [show a + 1 + b = (a + b) + 1 by omega]
    by_cases h : P i
    · rw [cn_t h, cn_t h, ih]; omega
    · rw [cn_f h, cn_f h, ih]
theorem cn_sh {P : Nat → Prop} : ∀ d i, cn P d i = cn (fun q => P (i + q)) d 0 := by
  have gen : ∀ d i j, cn P d (i + j) = cn (fun q => P (i + q)) d j := by
    intro d
    induction d with
    | zero => intro i j; rfl
    | succ d ih =>
      intro i j
      have e := ih i (j + 1)
      rw [show i + (j + 1) = i + j + 1 by omega] at e
      by_cases h : P (i + j)
      · rw [cn_t h, cn_t (P := fun q => P (i + q)) h, e]
      · rw [cn_f h, cn_f (P := fun q => P (i + q)) h, e]
  exact fun d i => gen d i 0
theorem cn_0 {P : Nat → Prop} : ∀ d i, (∀ j, i ≤ j → j < i + d → ¬ P j) → cn P d i = 0
  | 0, _, _ => rfl
  | d + 1, i, h => by rw [cn_f (h i (Nat.le_refl _) (by omega))]; exact cn_0 d (i + 1) (fun j h1 h2 => h j (by omega) (by omega))
theorem cn_1t {P : Nat → Prop} {k : Nat} (h : P k) : cn P (k + 1) 0 = cn P k 0 + 1 := by rw [cn_app, Nat.zero_add, cn_t h]; rfl
theorem cn_1f {P : Nat → Prop} {k : Nat} (h : ¬ P k) : cn P (k + 1) 0 = cn P k 0 := by rw [cn_app, Nat.zero_add, cn_f h]; rfl
noncomputable def cS (kp gv : Nat → Option An) (asg : Nat → Nat → Nat) (g : Nat) : Nat → Nat
  | 0 => 0
  | s + 1 => cS kp gv asg g s + cn (fun q => asg s q = g) (chs (kp s) (gv s)).1 0
theorem cS_c {asg asg' : Nat → Nat → Nat} {g : Nat} : ∀ s, (∀ u q, u < s → q < (chs (kp u) (gv u)).1 → asg' u q = asg u q) → cS kp gv asg' g s = cS kp gv asg g s
  | 0, _ => rfl
  | s + 1, e => by
    show _ + _ = _ + _
    rw [cS_c s (fun u q h1 h2 => e u q (by omega) h2), cn_c (P := fun q => asg' s q = g) (Q := fun q => asg s q = g) _ 0 (fun j _ hj => by rw [e s j (by omega) (by omega)])]
theorem cS_0 {asg : Nat → Nat → Nat} {g : Nat} : ∀ s, (∀ u q, u < s → q < (chs (kp u) (gv u)).1 → asg u q ≠ g) → cS kp gv asg g s = 0
  | 0, _ => rfl
  | s + 1, e => by
    show _ + _ = _
    rw [cS_0 s (fun u q h1 h2 => e u q (by omega) h2), cn_0 _ 0 (fun j _ hj => e s j (by omega) (by omega))]
def gZ (kp gv : Nat → Option An) (s k : Nat) (X : Gs) : Prop := (∀ g, g < X.1 → X.2.2.1 g = cS kp gv X.2.2.2 g s + cn (fun q => X.2.2.2 s q = g) k 0) ∧ ∀ u q, prc kp gv s k u q → X.2.2.2 u q < X.1
theorem gth_z {k : Nat} {X : Gs} (p : gZ kp gv s k X) : gZ kp gv s (k + 1) (gth kp gv X s k) := by
  obtain ⟨p1, p2⟩ := p
  unfold gth gZ
  dsimp only
  generalize hg : fnd (fun g => shq kp gv (X.2.1 g) (s, k)) X.1 0 = g0
  have le := (fnd_le (fun g => shq kp gv (X.2.1 g) (s, k)) X.1 0).2
  rw [hg, Nat.zero_add] at le
  have as : ∀ u q, ¬ (u = s ∧ q = k) → (if u = s ∧ q = k then g0 else X.2.2.2 u q) = X.2.2.2 u q := fun u q hn => if_neg hn
  have a0 : (if s = s ∧ k = k then g0 else X.2.2.2 s k) = g0 := if_pos ⟨rfl, rfl⟩
  have eS : ∀ g, cS kp gv (fun s' k' => if s' = s ∧ k' = k then g0 else X.2.2.2 s' k') g s = cS kp gv X.2.2.2 g s := fun g => cS_c s (fun u q h1 h2 => as u q (by omega))
  have eN : ∀ g, cn (fun q => (if s = s ∧ q = k then g0 else X.2.2.2 s q) = g) k 0 = cn (fun q => X.2.2.2 s q = g) k 0 := fun g => cn_c k 0 (fun j _ hj => by rw [as s j (by omega)])
  refine ⟨fun g hgg => ?_, fun u q hp => ?_⟩
  · rw [eS]
    by_cases z : g = g0
    · subst z
      rw [va_up_at, cn_1t (P := fun q => (if s = s ∧ q = k then g else X.2.2.2 s q) = g) a0, eN]
      by_cases e : g = X.1
      · rw [if_pos e, cS_0 s (fun u q h1 h2 => by have := p2 u q (.inl ⟨h1, h2⟩); omega), cn_0 k 0 (fun j _ hj => by have := p2 s j (.inr ⟨rfl, by omega⟩); omega)]
      · rw [if_neg e, p1 g (by omega)]; omega
    · rw [va_up_off _ _ z, cn_1f (P := fun q => (if s = s ∧ q = k then g0 else X.2.2.2 s q) = g) (fun w => z (w.symm.trans a0)), eN]
      refine p1 g ?_
      by_cases e : g0 = X.1
      · rw [if_pos e] at hgg; omega
      · rw [if_neg e] at hgg; exact hgg
  · by_cases z : u = s ∧ q = k
    · rw [if_pos z]; split <;> omega
    · rw [if_neg z]
      have := p2 u q (hp.imp id (fun w => ⟨w.1, by omega⟩))
      split <;> omega
theorem gtL_z : ∀ d k X, gZ kp gv s k X → gZ kp gv s (k + d) (gtL kp gv s d k X)
  | 0, _, _, p => p
  | d + 1, k, X, p => by
    have := gtL_z d (k + 1) _ (gth_z p)
    rw [show k + (d + 1) = k + 1 + d by omega]
    exact this
theorem gtS_z : ∀ d s X, gZ kp gv s 0 X → gZ kp gv (s + d) 0 (gtS kp gv d s X)
  | 0, _, _, p => p
  | d + 1, s, X, p => by
    have p1 := gtL_z (s := s) (chs (kp s) (gv s)).1 0 X p
    rw [Nat.zero_add] at p1
    have p2 : gZ kp gv (s + 1) 0 (gtL kp gv s (chs (kp s) (gv s)).1 0 X) := ⟨p1.1, fun u q hp => p1.2 u q (by
      rcases hp with ⟨h1, h2⟩ | ⟨h1, h2⟩
      · by_cases e : u = s
        · subst e; exact .inr ⟨rfl, h2⟩
        · exact .inl ⟨by omega, h2⟩
      · exact absurd h2 (Nat.not_lt_zero _))⟩
    have := gtS_z d (s + 1) _ p2
    rw [show s + (d + 1) = s + 1 + d by omega]
    exact this
theorem grp_z (kp gv : Nat → Option An) : gZ kp gv 36 0 (grp kp gv) := gtS_z 36 0 _ ⟨fun g hg => absurd hg (Nat.not_lt_zero _), fun u q hp => by
  rcases hp with ⟨h1, _⟩ | ⟨_, h1⟩
  · exact absurd h1 (Nat.not_lt_zero _)
  · exact absurd h1 (Nat.not_lt_zero _)⟩
theorem M_grpcnt (s0 : SM m h) {g n : Nat} (hn : n < 2300) (h24 : G m 24 = nI n) : ∀ d k e fu, e + d = n → d < fu → k + d < 10000 → f_X11_group_L57 fu m (nI g) (nI k) (nI e) (wi h G) = some (nI (k + cn (fun e => G (m + 26) e = nI g) d e), wi h G, 0, 0) := by
  intro d
  induction d with
  | zero =>
    intro k e fu he hfu hk
    obtain ⟨fu, rfl⟩ : ∃ k, fu = k + 1 := ⟨fu - 1, by omega⟩
    simp (disch := omega) only [f_X11_group_L57, h24, cn, ↓SM_g1 s0, ↓SM_g2 s0, ↓SM_g3 s0, ↓SM_g4 s0, ↓SM_g5 s0, ↓SM_g6 s0, ↓SM_g7 s0, ↓SM_g8 s0, ↓SM_g9 s0, ↓SM_g10 s0, ↓SM_g11 s0, ↓SM_g12 s0, ↓SM_g13 s0, ↓SM_g14 s0, ↓SM_g15 s0, ↓SM_g16 s0, ↓SM_g17 s0, ↓SM_g18 s0, ↓SM_g19 s0, ↓SM_g20 s0, ↓SM_g21 s0, ↓SM_g22 s0, ↓SM_g23 s0, ↓SM_g24 s0, ↓SM_g25 s0, ↓SM_g26 s0, ↓SM_g27 s0, ↓SM_g28 s0, ↓SM_g29 s0, ↓SM_g30 s0, ↓SM_g31 s0, ↓SM_g32 s0, ↓SM_g33 s0, ↓SM_g34 s0, ↓SM_g35 s0, ↓SM_g36 s0, ↓SM_g37 s0, ↓SM_g38 s0, ↓SM_g39 s0, ↓SM_g40 s0, ↓SM_g41 s0, ↓SM_g42 s0, ↓SM_oI s0, ↓SM_oP s0, ↓SM_oV s0, ↓SM_a1 s0, ↓SM_s1 s0, ↓SM_a2 s0, ↓SM_s2 s0, ↓SM_a3 s0, ↓SM_s3 s0, ↓SM_a4 s0, ↓SM_s4 s0, ↓SM_a5 s0, ↓SM_s5 s0, ↓SM_a6 s0, ↓SM_s6 s0, ↓SM_a7 s0, ↓SM_s7 s0, ↓SM_a8 s0, ↓SM_s8 s0, ↓SM_a9 s0, ↓SM_s9 s0, ↓SM_a10 s0, ↓SM_s10 s0, ↓SM_a11 s0, ↓SM_s11 s0, ↓SM_a12 s0, ↓SM_s12 s0, ↓SM_a13 s0, ↓SM_s13 s0, ↓SM_a14 s0, ↓SM_s14 s0, ↓SM_a15 s0, ↓SM_s15 s0, ↓SM_a16 s0, ↓SM_s16 s0, ↓SM_a17 s0, ↓SM_s17 s0, ↓SM_a18 s0, ↓SM_s18 s0, ↓SM_a19 s0, ↓SM_s19 s0, ↓SM_a20 s0, ↓SM_s20 s0, ↓SM_a21 s0, ↓SM_s21 s0, ↓SM_a22 s0, ↓SM_s22 s0, ↓SM_a23 s0, ↓SM_s23 s0, ↓SM_a24 s0, ↓SM_s24 s0, ↓SM_a25 s0, ↓SM_s25 s0, ↓SM_a26 s0, ↓SM_s26 s0, ↓SM_a27 s0, ↓SM_s27 s0, ↓SM_a28 s0, ↓SM_s28 s0, ↓SM_a29 s0, ↓SM_s29 s0, ↓SM_a30 s0, ↓SM_s30 s0, ↓SM_a31 s0, ↓SM_s31 s0, ↓SM_a32 s0, ↓SM_s32 s0, ↓SM_a33 s0, ↓SM_s33 s0, ↓SM_a34 s0, ↓SM_s34 s0, ↓SM_a35 s0, ↓SM_s35 s0, ↓SM_a36 s0, ↓SM_s36 s0, ↓SM_a37 s0, ↓SM_s37 s0, ↓SM_a38 s0, ↓SM_s38 s0, ↓SM_a39 s0, ↓SM_s39 s0, ↓SM_a40 s0, ↓SM_s40 s0, ↓SM_a41 s0, ↓SM_s41 s0, ↓SM_a42 s0, ↓SM_s42 s0, SM_oI s0, SM_oP s0, SM_oV s0, SM_a1 s0, SM_s1 s0, SM_a2 s0, SM_s2 s0, SM_a3 s0, SM_s3 s0, SM_a4 s0, SM_s4 s0, SM_a5 s0, SM_s5 s0, SM_a6 s0, SM_s6 s0, SM_a7 s0, SM_s7 s0, SM_a8 s0, SM_s8 s0, SM_a9 s0, SM_s9 s0, SM_a10 s0, SM_s10 s0, SM_a11 s0, SM_s11 s0, SM_a12 s0, SM_s12 s0, SM_a13 s0, SM_s13 s0, SM_a14 s0, SM_s14 s0, SM_a15 s0, SM_s15 s0, SM_a16 s0, SM_s16 s0, SM_a17 s0, SM_s17 s0, SM_a18 s0, SM_s18 s0, SM_a19 s0, SM_s19 s0, SM_a20 s0, SM_s20 s0, SM_a21 s0, SM_s21 s0, SM_a22 s0, SM_s22 s0, SM_a23 s0, SM_s23 s0, SM_a24 s0, SM_s24 s0, SM_a25 s0, SM_s25 s0, SM_a26 s0, SM_s26 s0, SM_a27 s0, SM_s27 s0, SM_a28 s0, SM_s28 s0, SM_a29 s0, SM_s29 s0, SM_a30 s0, SM_s30 s0, SM_a31 s0, SM_s31 s0, SM_a32 s0, SM_s32 s0, SM_a33 s0, SM_s33 s0, SM_a34 s0, SM_s34 s0, SM_a35 s0, SM_s35 s0, SM_a36 s0, SM_s36 s0, SM_a37 s0, SM_s37 s0, SM_a38 s0, SM_s38 s0, SM_a39 s0, SM_s39 s0, SM_a40 s0, SM_s40 s0, SM_a41 s0, SM_s41 s0, SM_a42 s0, SM_s42 s0, ↓nn_s, ↓nn_n, ↓bnd_s, nn_s, nn_n, bnd_s, rI, rZ, rV, rR, wA00, n_sub, nI_add, pk_mul, n_m1, n_leI, n_ltI, n_eqI, n_eqm1, n_0m1, n_m10, n_cl, n_div, n_rem, li_0, li_1, li_2, li_3, li_4, li_5, li_6, li_7, li_8, li_9, li_10, li_11, li_12, li_13, li_16, li_20, li_21, li_22, li_36, li_40, li_59, li_60, li_61, li_99, li_100, li_109, li_110, li_119, li_120, li_121, li_512, li_3721, li_1000000, li_1000001, li_1000002, li_1000003, li_1000010, t_lt, t_le, f_lt, f_le, t_eq, f_eq, if_true, if_false, true_and, and_true, or_true, true_or, or_false, false_or, and_false, false_and, not_true_eq_false, not_false_eq_true, Nat.zero_add, Nat.add_zero, Nat.mul_zero]
  | succ d ih =>
    intro k e fu he hfu hk
    obtain ⟨fu, rfl⟩ : ∃ k, fu = k + 1 := ⟨fu - 1, by omega⟩
    by_cases z : G (m + 26) e = nI g
    · rw [cn_t (P := fun e => G (m + 26) e = nI g) z]
      have i := ih (k + 1) (e + 1) fu (by omega) (by omega) (by omega)
      rw [Nat.add_assoc] at i
      refine Eq.trans ?_ i
      simp (disch := omega) only [f_X11_group_L57, h24, eq_true z, ↓SM_g1 s0, ↓SM_g2 s0, ↓SM_g3 s0, ↓SM_g4 s0, ↓SM_g5 s0, ↓SM_g6 s0, ↓SM_g7 s0, ↓SM_g8 s0, ↓SM_g9 s0, ↓SM_g10 s0, ↓SM_g11 s0, ↓SM_g12 s0, ↓SM_g13 s0, ↓SM_g14 s0, ↓SM_g15 s0, ↓SM_g16 s0, ↓SM_g17 s0, ↓SM_g18 s0, ↓SM_g19 s0, ↓SM_g20 s0, ↓SM_g21 s0, ↓SM_g22 s0, ↓SM_g23 s0, ↓SM_g24 s0, ↓SM_g25 s0, ↓SM_g26 s0, ↓SM_g27 s0, ↓SM_g28 s0, ↓SM_g29 s0, ↓SM_g30 s0, ↓SM_g31 s0, ↓SM_g32 s0, ↓SM_g33 s0, ↓SM_g34 s0, ↓SM_g35 s0, ↓SM_g36 s0, ↓SM_g37 s0, ↓SM_g38 s0, ↓SM_g39 s0, ↓SM_g40 s0, ↓SM_g41 s0, ↓SM_g42 s0, ↓SM_oI s0, ↓SM_oP s0, ↓SM_oV s0, ↓SM_a1 s0, ↓SM_s1 s0, ↓SM_a2 s0, ↓SM_s2 s0, ↓SM_a3 s0, ↓SM_s3 s0, ↓SM_a4 s0, ↓SM_s4 s0, ↓SM_a5 s0, ↓SM_s5 s0, ↓SM_a6 s0, ↓SM_s6 s0, ↓SM_a7 s0, ↓SM_s7 s0, ↓SM_a8 s0, ↓SM_s8 s0, ↓SM_a9 s0, ↓SM_s9 s0, ↓SM_a10 s0, ↓SM_s10 s0, ↓SM_a11 s0, ↓SM_s11 s0, ↓SM_a12 s0, ↓SM_s12 s0, ↓SM_a13 s0, ↓SM_s13 s0, ↓SM_a14 s0, ↓SM_s14 s0, ↓SM_a15 s0, ↓SM_s15 s0, ↓SM_a16 s0, ↓SM_s16 s0, ↓SM_a17 s0, ↓SM_s17 s0, ↓SM_a18 s0, ↓SM_s18 s0, ↓SM_a19 s0, ↓SM_s19 s0, ↓SM_a20 s0, ↓SM_s20 s0, ↓SM_a21 s0, ↓SM_s21 s0, ↓SM_a22 s0, ↓SM_s22 s0, ↓SM_a23 s0, ↓SM_s23 s0, ↓SM_a24 s0, ↓SM_s24 s0, ↓SM_a25 s0, ↓SM_s25 s0, ↓SM_a26 s0, ↓SM_s26 s0, ↓SM_a27 s0, ↓SM_s27 s0, ↓SM_a28 s0, ↓SM_s28 s0, ↓SM_a29 s0, ↓SM_s29 s0, ↓SM_a30 s0, ↓SM_s30 s0, ↓SM_a31 s0, ↓SM_s31 s0, ↓SM_a32 s0, ↓SM_s32 s0, ↓SM_a33 s0, ↓SM_s33 s0, ↓SM_a34 s0, ↓SM_s34 s0, ↓SM_a35 s0, ↓SM_s35 s0, ↓SM_a36 s0, ↓SM_s36 s0, ↓SM_a37 s0, ↓SM_s37 s0, ↓SM_a38 s0, ↓SM_s38 s0, ↓SM_a39 s0, ↓SM_s39 s0, ↓SM_a40 s0, ↓SM_s40 s0, ↓SM_a41 s0, ↓SM_s41 s0, ↓SM_a42 s0, ↓SM_s42 s0, SM_oI s0, SM_oP s0, SM_oV s0, SM_a1 s0, SM_s1 s0, SM_a2 s0, SM_s2 s0, SM_a3 s0, SM_s3 s0, SM_a4 s0, SM_s4 s0, SM_a5 s0, SM_s5 s0, SM_a6 s0, SM_s6 s0, SM_a7 s0, SM_s7 s0, SM_a8 s0, SM_s8 s0, SM_a9 s0, SM_s9 s0, SM_a10 s0, SM_s10 s0, SM_a11 s0, SM_s11 s0, SM_a12 s0, SM_s12 s0, SM_a13 s0, SM_s13 s0, SM_a14 s0, SM_s14 s0, SM_a15 s0, SM_s15 s0, SM_a16 s0, SM_s16 s0, SM_a17 s0, SM_s17 s0, SM_a18 s0, SM_s18 s0, SM_a19 s0, SM_s19 s0, SM_a20 s0, SM_s20 s0, SM_a21 s0, SM_s21 s0, SM_a22 s0, SM_s22 s0, SM_a23 s0, SM_s23 s0, SM_a24 s0, SM_s24 s0, SM_a25 s0, SM_s25 s0, SM_a26 s0, SM_s26 s0, SM_a27 s0, SM_s27 s0, SM_a28 s0, SM_s28 s0, SM_a29 s0, SM_s29 s0, SM_a30 s0, SM_s30 s0, SM_a31 s0, SM_s31 s0, SM_a32 s0, SM_s32 s0, SM_a33 s0, SM_s33 s0, SM_a34 s0, SM_s34 s0, SM_a35 s0, SM_s35 s0, SM_a36 s0, SM_s36 s0, SM_a37 s0, SM_s37 s0, SM_a38 s0, SM_s38 s0, SM_a39 s0, SM_s39 s0, SM_a40 s0, SM_s40 s0, SM_a41 s0, SM_s41 s0, SM_a42 s0, SM_s42 s0, ↓nn_s, ↓nn_n, ↓bnd_s, nn_s, nn_n, bnd_s, rI, rZ, rV, rR, wA00, n_sub, nI_add, pk_mul, n_m1, n_leI, n_ltI, n_eqI, n_eqm1, n_0m1, n_m10, n_cl, n_div, n_rem, li_0, li_1, li_2, li_3, li_4, li_5, li_6, li_7, li_8, li_9, li_10, li_11, li_12, li_13, li_16, li_20, li_21, li_22, li_36, li_40, li_59, li_60, li_61, li_99, li_100, li_109, li_110, li_119, li_120, li_121, li_512, li_3721, li_1000000, li_1000001, li_1000002, li_1000003, li_1000010, t_lt, t_le, f_lt, f_le, t_eq, f_eq, if_true, if_false, true_and, and_true, or_true, true_or, or_false, false_or, and_false, false_and, not_true_eq_false, not_false_eq_true, Nat.zero_add, Nat.add_zero, Nat.mul_zero]
    · rw [cn_f (P := fun e => G (m + 26) e = nI g) z]
      refine Eq.trans ?_ (ih k (e + 1) fu (by omega) (by omega) (by omega))
      simp (disch := omega) only [f_X11_group_L57, h24, z, ↓SM_g1 s0, ↓SM_g2 s0, ↓SM_g3 s0, ↓SM_g4 s0, ↓SM_g5 s0, ↓SM_g6 s0, ↓SM_g7 s0, ↓SM_g8 s0, ↓SM_g9 s0, ↓SM_g10 s0, ↓SM_g11 s0, ↓SM_g12 s0, ↓SM_g13 s0, ↓SM_g14 s0, ↓SM_g15 s0, ↓SM_g16 s0, ↓SM_g17 s0, ↓SM_g18 s0, ↓SM_g19 s0, ↓SM_g20 s0, ↓SM_g21 s0, ↓SM_g22 s0, ↓SM_g23 s0, ↓SM_g24 s0, ↓SM_g25 s0, ↓SM_g26 s0, ↓SM_g27 s0, ↓SM_g28 s0, ↓SM_g29 s0, ↓SM_g30 s0, ↓SM_g31 s0, ↓SM_g32 s0, ↓SM_g33 s0, ↓SM_g34 s0, ↓SM_g35 s0, ↓SM_g36 s0, ↓SM_g37 s0, ↓SM_g38 s0, ↓SM_g39 s0, ↓SM_g40 s0, ↓SM_g41 s0, ↓SM_g42 s0, ↓SM_oI s0, ↓SM_oP s0, ↓SM_oV s0, ↓SM_a1 s0, ↓SM_s1 s0, ↓SM_a2 s0, ↓SM_s2 s0, ↓SM_a3 s0, ↓SM_s3 s0, ↓SM_a4 s0, ↓SM_s4 s0, ↓SM_a5 s0, ↓SM_s5 s0, ↓SM_a6 s0, ↓SM_s6 s0, ↓SM_a7 s0, ↓SM_s7 s0, ↓SM_a8 s0, ↓SM_s8 s0, ↓SM_a9 s0, ↓SM_s9 s0, ↓SM_a10 s0, ↓SM_s10 s0, ↓SM_a11 s0, ↓SM_s11 s0, ↓SM_a12 s0, ↓SM_s12 s0, ↓SM_a13 s0, ↓SM_s13 s0, ↓SM_a14 s0, ↓SM_s14 s0, ↓SM_a15 s0, ↓SM_s15 s0, ↓SM_a16 s0, ↓SM_s16 s0, ↓SM_a17 s0, ↓SM_s17 s0, ↓SM_a18 s0, ↓SM_s18 s0, ↓SM_a19 s0, ↓SM_s19 s0, ↓SM_a20 s0, ↓SM_s20 s0, ↓SM_a21 s0, ↓SM_s21 s0, ↓SM_a22 s0, ↓SM_s22 s0, ↓SM_a23 s0, ↓SM_s23 s0, ↓SM_a24 s0, ↓SM_s24 s0, ↓SM_a25 s0, ↓SM_s25 s0, ↓SM_a26 s0, ↓SM_s26 s0, ↓SM_a27 s0, ↓SM_s27 s0, ↓SM_a28 s0, ↓SM_s28 s0, ↓SM_a29 s0, ↓SM_s29 s0, ↓SM_a30 s0, ↓SM_s30 s0, ↓SM_a31 s0, ↓SM_s31 s0, ↓SM_a32 s0, ↓SM_s32 s0, ↓SM_a33 s0, ↓SM_s33 s0, ↓SM_a34 s0, ↓SM_s34 s0, ↓SM_a35 s0, ↓SM_s35 s0, ↓SM_a36 s0, ↓SM_s36 s0, ↓SM_a37 s0, ↓SM_s37 s0, ↓SM_a38 s0, ↓SM_s38 s0, ↓SM_a39 s0, ↓SM_s39 s0, ↓SM_a40 s0, ↓SM_s40 s0, ↓SM_a41 s0, ↓SM_s41 s0, ↓SM_a42 s0, ↓SM_s42 s0, SM_oI s0, SM_oP s0, SM_oV s0, SM_a1 s0, SM_s1 s0, SM_a2 s0, SM_s2 s0, SM_a3 s0, SM_s3 s0, SM_a4 s0, SM_s4 s0, SM_a5 s0, SM_s5 s0, SM_a6 s0, SM_s6 s0, SM_a7 s0, SM_s7 s0, SM_a8 s0, SM_s8 s0, SM_a9 s0, SM_s9 s0, SM_a10 s0, SM_s10 s0, SM_a11 s0, SM_s11 s0, SM_a12 s0, SM_s12 s0, SM_a13 s0, SM_s13 s0, SM_a14 s0, SM_s14 s0, SM_a15 s0, SM_s15 s0, SM_a16 s0, SM_s16 s0, SM_a17 s0, SM_s17 s0, SM_a18 s0, SM_s18 s0, SM_a19 s0, SM_s19 s0, SM_a20 s0, SM_s20 s0, SM_a21 s0, SM_s21 s0, SM_a22 s0, SM_s22 s0, SM_a23 s0, SM_s23 s0, SM_a24 s0, SM_s24 s0, SM_a25 s0, SM_s25 s0, SM_a26 s0, SM_s26 s0, SM_a27 s0, SM_s27 s0, SM_a28 s0, SM_s28 s0, SM_a29 s0, SM_s29 s0, SM_a30 s0, SM_s30 s0, SM_a31 s0, SM_s31 s0, SM_a32 s0, SM_s32 s0, SM_a33 s0, SM_s33 s0, SM_a34 s0, SM_s34 s0, SM_a35 s0, SM_s35 s0, SM_a36 s0, SM_s36 s0, SM_a37 s0, SM_s37 s0, SM_a38 s0, SM_s38 s0, SM_a39 s0, SM_s39 s0, SM_a40 s0, SM_s40 s0, SM_a41 s0, SM_s41 s0, SM_a42 s0, SM_s42 s0, ↓nn_s, ↓nn_n, ↓bnd_s, nn_s, nn_n, bnd_s, rI, rZ, rV, rR, wA00, n_sub, nI_add, pk_mul, n_m1, n_leI, n_ltI, n_eqI, n_eqm1, n_0m1, n_m10, n_cl, n_div, n_rem, li_0, li_1, li_2, li_3, li_4, li_5, li_6, li_7, li_8, li_9, li_10, li_11, li_12, li_13, li_16, li_20, li_21, li_22, li_36, li_40, li_59, li_60, li_61, li_99, li_100, li_109, li_110, li_119, li_120, li_121, li_512, li_3721, li_1000000, li_1000001, li_1000002, li_1000003, li_1000010, t_lt, t_le, f_lt, f_le, t_eq, f_eq, if_true, if_false, true_and, and_true, or_true, true_or, or_false, false_or, and_false, false_and, not_true_eq_false, not_false_eq_true, Nat.zero_add, Nat.add_zero, Nat.mul_zero]
theorem cn_all (ok : ∀ s, s < 36 → okA (kp s) ∧ okA (gv s)) {X : Gs} {g : Nat} (hg : g < 2300) (hX : X.1 < 2300) (w : gM G m kp gv 36 0 X) (z : gZ kp gv 36 0 X) : ∀ s, s ≤ 36 → cn (fun e => G (m + 26) e = nI g) (pos kp gv s) 0 = cS kp gv X.2.2.2 g s
  | 0, _ => rfl
  | s + 1, hs => by
    show cn _ (pos kp gv s + (chs (kp s) (gv s)).1) 0 = _ + _
    rw [cn_app, cn_all ok hg hX w z s (by omega), Nat.zero_add, cn_sh, cn_c (P := fun q => G (m + 26) (pos kp gv s + q) = nI g) (Q := fun q => X.2.2.2 s q = g) _ 0 (fun j _ hj => ?_)]
    have hp : prc kp gv 36 0 s j := .inl ⟨by omega, by omega⟩
    have b := z.2 s j hp
    rw [(w.2.2.1 s j hp).2.2.1, nI_eq (by omega) (by omega)]
end PSIZE
