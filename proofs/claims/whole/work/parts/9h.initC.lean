section PINITC
variable {h h' h'' : AH} {c p : Nat} {R : Nat → Option Nat}
/-- the class's object on its way: p cells there, its ints 0, its references R -/
def QQ (c p : Nat) (h : AH) (R : Nat → Option Nat) : Prop := a_nx h = c + p ∧ a_kd h c = 10 ∧ (∀ j, a_gi h c j = 0) ∧ ∀ j, a_gr h c j = R j
def smU (c p : Nat) (h h' : AH) : Prop := ∀ x, c < x → x < c + p → sm x h h'
theorem smU_t {p' : Nat} (a : smU c p h h') (b : smU c p' h' h'') (hp : p ≤ p') : smU c p h h'' := fun x h1 h2 => sm_t (a x h1 h2) (b x h1 (by omega))
theorem q_pR {j v : Nat} (q : QQ c p h R) : QQ c p (a_pr h c j (some v)) (va_up R j (some v)) ∧ smU c p h (a_pr h c j (some v)) := by
  obtain ⟨q1, q2, q3, q4⟩ := q
  refine ⟨⟨q1, q2, q3, fun i => ?_⟩, fun x h1 h2 => sm_pr (by omega)⟩
  rw [a_gr_pr]
  by_cases e : i = j
  · subst e; rw [if_pos ⟨rfl, rfl⟩, va_up_at]
  · rw [if_neg (fun w => e w.2), va_up_off _ _ e]; exact q4 i
theorem q_pI {j : Nat} (q : QQ c p h R) : QQ c p (a_pi h c j 0) R ∧ smU c p h (a_pi h c j 0) := by
  obtain ⟨q1, q2, q3, q4⟩ := q
  refine ⟨⟨q1, q2, fun i => ?_, q4⟩, fun x h1 h2 => sm_pi (by omega)⟩
  rw [a_gi_pi]
  by_cases e : c = c ∧ i = j
  · rw [if_pos e]
  · rw [if_neg e]; exact q3 i
theorem q_nA {k n j : Nat} (q : QQ c p h R) (hp : 1 ≤ p) (hn : n ≤ 1000000) : ∃ h', (∀ f : AH → RX Unit, nA h k (nI n) (fun a h2 => pR h2 (some c) 10 j (some a) f) = wA 1 n (f h')) ∧ QQ c (p + 1) h' (va_up R j (some (c + p))) ∧ smU c p h h' ∧ cel h' (c + p) k n := by
  have q' := q
  obtain ⟨q1, q2, q3, q4⟩ := q
  have s0 : ∀ x, x < c + p → sm x h (a_mk h k n) := fun x hx => sm_mk (by omega)
  have c0 := cel_mk h k n
  rw [q1] at c0
  have Q1 : QQ c (p + 1) (a_mk h k n) R := ⟨by show a_nx h + 1 = _; omega, (s0 c (by omega)).1.trans q2, fun i => (congrFun (s0 c (by omega)).2.2.1 i).trans (q3 i), fun i => (congrFun (s0 c (by omega)).2.2.2 i).trans (q4 i)⟩
  obtain ⟨Q2, S2⟩ := q_pR (j := j) (v := c + p) Q1
  refine ⟨_, fun f => ?_, Q2, fun x h1 h2 => sm_t (s0 x h2) (S2 x h1 (by omega)), cel_s c0 (S2 _ (by omega) (by omega))⟩
  rw [nA_h hn, q1, pR_h Q1.2.1]
/-- a new object, with what its making gives (P), into field j -/
theorem q_nO {k N j e ki ni : Nat} {ini : AH → Nat → RX Unit} {P : AH → Prop} (q : QQ c p h R) (hp : 1 ≤ p) (hi : ∀ h1, a_kd h1 (c + p) = k → a_nx h1 = c + p + 1 → ∃ h', ini h1 (c + p) = some ((), h', ki, ni) ∧ a_nx h' = a_nx h1 + e ∧ (∀ x, x < a_nx h1 → x ≠ c + p → sm x h1 h') ∧ P h') (hP : ∀ h1 h2, (∀ x, c + p ≤ x → x < c + p + 1 + e → sm x h1 h2) → P h1 → P h2) : ∃ h', (∀ f : AH → RX Unit, nO h k N (fun a h2 => bnd (ini h2 a) (fun _ h3 => pR h3 (some c) 10 j (some a) f)) = wA (1 + ki) (N + ni) (f h')) ∧ QQ c (p + 1 + e) h' (va_up R j (some (c + p))) ∧ smU c p h h' ∧ P h' := by
  have q' := q
  obtain ⟨q1, q2, q3, q4⟩ := q
  have s0 : ∀ x, x < c + p → sm x h (a_mk h k 0) := fun x hx => sm_mk (by omega)
  have c0 := cel_mk h k 0
  rw [q1] at c0
  have x0 : a_nx (a_mk h k 0) = c + p + 1 := by show a_nx h + 1 = _; omega
  obtain ⟨h1, e1, e2, e3, e4⟩ := hi (a_mk h k 0) c0.1 x0
  rw [x0] at e2 e3
  have s1 : ∀ x, x < c + p → sm x h h1 := fun x hx => sm_t (s0 x hx) (e3 x (by omega) (by omega))
  have Q1 : QQ c (p + 1 + e) h1 R := ⟨by omega, (s1 c (by omega)).1.trans q2, fun i => (congrFun (s1 c (by omega)).2.2.1 i).trans (q3 i), fun i => (congrFun (s1 c (by omega)).2.2.2 i).trans (q4 i)⟩
  obtain ⟨Q2, S2⟩ := q_pR (j := j) (v := c + p) Q1
  refine ⟨_, fun f => ?_, Q2, fun x h1' h2' => sm_t (s1 x h2') (S2 x h1' (by omega)), hP _ _ (fun x h1' h2' => S2 x (by omega) (by omega)) e4⟩
  show wA 1 N (bnd (ini (a_mk h k 0) (a_nx h)) (fun _ h3 => pR h3 (some c) 10 j (some (a_nx h)) f)) = _
  rw [q1, e1, bnd_k, pR_h Q1.2.1, wA_wA]
def p3 (c : Nat) (h : AH) : Prop := a_kd h (c + 3) = 3 ∧ a_gr h (c + 3) 0 = some (c + 4) ∧ a_kd h (c + 4) = 18 ∧ a_ln h (c + 4) = 61 ∧ ∀ i, i < 61 → a_gr h (c + 4) i = some (c + 5 + i) ∧ a_kd h (c + 5 + i) = 12 ∧ a_ln h (c + 5 + i) = 61
def p66 (c : Nat) (h : AH) : Prop := a_kd h (c + 66) = 4 ∧ a_gr h (c + 66) 0 = some (c + 67) ∧ a_kd h (c + 67) = 12 ∧ a_ln h (c + 67) = 120
def p68 (c : Nat) (h : AH) : Prop := a_kd h (c + 68) = 7 ∧ ∀ q, q < 3 → a_gr h (c + 68) (1 + q) = some (c + 69 + q) ∧ a_kd h (c + 69 + q) = 12 ∧ a_ln h (c + 69 + q) = 1440
def p74 (c : Nat) (v : Int32) (h : AH) : Prop := a_kd h (c + 74) = 6 ∧ a_gi h (c + 74) 0 = v ∧ ∀ i q, ([(1, 12, 60), (2, 12, 60), (3, 12, 61), (4, 12, 60), (5, 12, 60), (6, 12, 10)] : List (Nat × Nat × Nat))[i]? = some q → a_gr h (c + 74) q.1 = some (c + 75 + i) ∧ a_kd h (c + 75 + i) = q.2.1 ∧ a_ln h (c + 75 + i) = q.2.2
theorem p3_s (p : p3 c h) (e : ∀ x, c + 3 ≤ x → x < c + 66 → sm x h h') : p3 c h' := by
  obtain ⟨p1, p2, p3, p4, p5⟩ := p
  refine ⟨(e _ (by omega) (by omega)).1.trans p1, (congrFun (e _ (by omega) (by omega)).2.2.2 _).trans p2, (e _ (by omega) (by omega)).1.trans p3, (e _ (by omega) (by omega)).2.1.trans p4, fun i hi => ?_⟩
  obtain ⟨y1, y2, y3⟩ := p5 i hi
  exact ⟨(congrFun (e _ (by omega) (by omega)).2.2.2 _).trans y1, (e _ (by omega) (by omega)).1.trans y2, (e _ (by omega) (by omega)).2.1.trans y3⟩
theorem p66_s (p : p66 c h) (e : ∀ x, c + 66 ≤ x → x < c + 68 → sm x h h') : p66 c h' := by
  obtain ⟨p1, p2, p3, p4⟩ := p
  exact ⟨(e _ (by omega) (by omega)).1.trans p1, (congrFun (e _ (by omega) (by omega)).2.2.2 _).trans p2, (e _ (by omega) (by omega)).1.trans p3, (e _ (by omega) (by omega)).2.1.trans p4⟩
theorem p68_s (p : p68 c h) (e : ∀ x, c + 68 ≤ x → x < c + 72 → sm x h h') : p68 c h' := by
  obtain ⟨p1, p2⟩ := p
  refine ⟨(e _ (by omega) (by omega)).1.trans p1, fun q hq => ?_⟩
  obtain ⟨y1, y2, y3⟩ := p2 q hq
  exact ⟨(congrFun (e _ (by omega) (by omega)).2.2.2 _).trans y1, (e _ (by omega) (by omega)).1.trans y2, (e _ (by omega) (by omega)).2.1.trans y3⟩
theorem p74_s {v : Int32} (p : p74 c v h) (e : ∀ x, c + 74 ≤ x → x < c + 81 → sm x h h') : p74 c v h' := by
  obtain ⟨p1, p2, p3⟩ := p
  refine ⟨(e _ (by omega) (by omega)).1.trans p1, (congrFun (e _ (by omega) (by omega)).2.2.1 _).trans p2, fun i q hq => ?_⟩
  have hi : i < 6 := by
    have := (List.getElem?_eq_some_iff.mp hq).1
    exact this
  obtain ⟨y1, y2, y3⟩ := p3 i q hq
  exact ⟨(congrFun (e _ (by omega) (by omega)).2.2.2 _).trans y1, (e _ (by omega) (by omega)).1.trans y2, (e _ (by omega) (by omega)).2.1.trans y3⟩
/-- what the making of the class's object leaves -/
def iC (c : Nat) (v : Int32) (h : AH) : Prop := a_nx h = c + 385 ∧ a_kd h c = 10 ∧ (∀ j, a_gi h c j = 0) ∧ (a_gr h c 0 = some (c + 1) ∧ a_gr h c 1 = some (c + 2) ∧ a_gr h c 2 = some (c + 74) ∧ a_gr h c 3 = some (c + 3) ∧ a_gr h c 4 = some (c + 66) ∧ a_gr h c 5 = some (c + 68) ∧ a_gr h c 7 = some (c + 72) ∧ a_gr h c 9 = some (c + 73)) ∧ p3 c h ∧ p66 c h ∧ p68 c h ∧ (a_kd h (c + 72) = 15 ∧ a_ln h (c + 72) = 100) ∧ (a_kd h (c + 73) = 12 ∧ a_ln h (c + 73) = 16) ∧ p74 c v h ∧ (a_kd h (c + 1) = 16 ∧ a_ln h (c + 1) = 8 ∧ ∀ r, r < 8 → a_gr h (c + 1) r = some (c + 81 + 2 * r) ∧ rwP h (c + 81 + 2 * r)) ∧ (a_kd h (c + 2) = 17 ∧ a_ln h (c + 2) = 36 ∧ ∀ s, s < 36 → a_gr h (c + 2) s = some (c + 97 + 8 * s) ∧ slP h (c + 97 + 8 * s) (nI (s / 3)) (nI (s % 3)))
set_option maxHeartbeats 4000000 in
theorem i_X10 {v : Int32} (c : Nat) : ∃ h' k n, f_X10_init (a_mk (e_AH c) 10 0) c v = some ((), h', k, n) ∧ iC c (v &&& 7) h' ∧ k ≤ 1000 ∧ n ≤ 20000 := by
  have Q0 : QQ c 1 (a_mk (e_AH c) 10 0) (fun _ => none) := by
    have c0 : cel (a_mk (e_AH c) 10 0) c 10 0 := cel_mk (e_AH c) 10 0
    exact ⟨rfl, c0.1, fun j => congrFun c0.2.2.1 j, fun j => congrFun c0.2.2.2 j⟩
  generalize a_mk (e_AH c) 10 0 = h0 at Q0 ⊢
  obtain ⟨h1, f1, Q1, S1, C1⟩ := q_nA (k := 16) (n := 8) (j := 0) Q0 (by omega) (by omega)
  obtain ⟨h2, f2, Q2, S2, C2⟩ := q_nA (k := 17) (n := 36) (j := 1) Q1 (by omega) (by omega)
  obtain ⟨h3, f3, Q3, S3, C3⟩ := q_nO (k := 3) (N := 1) (j := 3) (e := 62) (ki := 62) (ni := 3782) (ini := f_X2_init) (P := p3 c) Q2 (by omega) (fun h1 k1 x1 => by
    obtain ⟨h', r1, r2, r3, r4, r5, r6, r7, r8⟩ := i_X2 (h := h1) (a := c + (1 + 1 + 1)) k1 (by omega)
    rw [x1] at r5 r6 r7 r8
    exact ⟨h', r1, r2, r3, r4, r5, r6, r7, r8⟩) (fun h1 h2 e p => p3_s p (fun x y1 y2 => e x (by omega) (by omega)))
  obtain ⟨h4, f4, Q4, S4, C4⟩ := q_nO (k := 4) (N := 2) (j := 4) (e := 1) (ki := 1) (ni := 120) (ini := f_X3_init) (P := p66 c) Q3 (by omega) (fun h1 k1 x1 => by
    obtain ⟨h', r1, r2, r3, r4, r5, r6⟩ := i_X3 (h := h1) (a := c + (1 + 1 + 1 + 1 + 62)) k1 (by omega)
    rw [x1] at r5 r6
    exact ⟨h', r1, r2, r3, r4, r5, r6.1, r6.2.1⟩) (fun h1 h2 e p => p66_s p (fun x y1 y2 => e x (by omega) (by omega)))
  obtain ⟨h5, f5, Q5, S5, C5⟩ := q_nO (k := 7) (N := 4) (j := 5) (e := 3) (ki := 3) (ni := 4320) (ini := f_X6_init) (P := p68 c) Q4 (by omega) (fun h1 k1 x1 => by
    obtain ⟨h', r1, r2, r3, r4, r5⟩ := i_X6 (h := h1) (a := c + (1 + 1 + 1 + 1 + 62 + 1 + 1)) k1 (by omega)
    rw [x1] at r5
    exact ⟨h', r1, r2, r3, r4, fun q hq => ⟨(r5 q hq).1, (r5 q hq).2.1, (r5 q hq).2.2.1⟩⟩) (fun h1 h2 e p => p68_s p (fun x y1 y2 => e x (by omega) (by omega)))
  obtain ⟨Q6, S6⟩ := q_pI (j := 6) Q5
  obtain ⟨h7, f7, Q7, S7, C7⟩ := q_nA (k := 15) (n := 100) (j := 7) Q6 (by omega) (by omega)
  obtain ⟨Q8, S8⟩ := q_pI (j := 8) Q7
  obtain ⟨h9, f9, Q9, S9, C9⟩ := q_nA (k := 12) (n := 16) (j := 9) Q8 (by omega) (by omega)
  obtain ⟨Q10, S10⟩ := q_pI (j := 10) Q9
  obtain ⟨Q11, S11⟩ := q_pI (j := 11) Q10
  obtain ⟨h12, f12, Q12, S12, C12⟩ := q_nO (k := 6) (N := 7) (j := 2) (e := 6) (ki := 6) (ni := 311) (ini := fun h a => f_X5_init h a (v &&& 7)) (P := p74 c (v &&& 7)) Q11 (by omega) (fun h1 k1 x1 => by
    obtain ⟨h', r1, r2, r3, r4, r5, r6⟩ := i_X5 (v := v &&& 7) (h := h1) (a := c + (1 + 1 + 1 + 1 + 62 + 1 + 1 + 1 + 3 + 1 + 1)) k1 (by omega)
    rw [x1] at r6
    exact ⟨h', r1, r2, r3, r4, r5, fun i q e => ⟨(r6 i q e).1, (r6 i q e).2.1, (r6 i q e).2.2.1⟩⟩) (fun h1 h2 e p => p74_s p (fun x y1 y2 => e x (by omega) (by omega)))
  have T11 := smU_t S11 S12 (by omega)
  have T10 := smU_t S10 T11 (by omega)
  have T9 := smU_t S9 T10 (by omega)
  have T8 := smU_t S8 T9 (by omega)
  have T7 := smU_t S7 T8 (by omega)
  have T6 := smU_t S6 T7 (by omega)
  have T5 := smU_t S5 T6 (by omega)
  have T4 := smU_t S4 T5 (by omega)
  have T3 := smU_t S3 T4 (by omega)
  have T2 := smU_t S2 T3 (by omega)
  have C1 := cel_s C1 (T2 _ (by omega) (by omega))
  have C2 := cel_s C2 (T3 _ (by omega) (by omega))
  have C3 := p3_s C3 (fun x y1 y2 => T4 x (by omega) (by omega))
  have C4 := p66_s C4 (fun x y1 y2 => T5 x (by omega) (by omega))
  have C5 := p68_s C5 (fun x y1 y2 => T6 x (by omega) (by omega))
  have C7 := cel_s C7 (T8 _ (by omega) (by omega))
  have C9 := cel_s C9 (T10 _ (by omega) (by omega))
  obtain ⟨n12, k12, z12, R12⟩ := Q12
  have R0 : a_gr h12 c 0 = some (c + 1) := R12 0
  have R1 : a_gr h12 c 1 = some (c + 2) := R12 1
  have R2 : a_gr h12 c 2 = some (c + 74) := R12 2
  have R3 : a_gr h12 c 3 = some (c + 3) := R12 3
  have R4 : a_gr h12 c 4 = some (c + 66) := R12 4
  have R5 : a_gr h12 c 5 = some (c + 68) := R12 5
  have R7 : a_gr h12 c 7 = some (c + 72) := R12 7
  have R9 : a_gr h12 c 9 = some (c + 73) := R12 9
  have C1 : cel h12 (c + 1) 16 8 := C1
  have C2 : cel h12 (c + 2) 17 36 := C2
  have C7 : cel h12 (c + 72) 15 100 := C7
  have C9 : cel h12 (c + 73) 12 16 := C9
  obtain ⟨h13, g1, g2, g3, g4, g5, g6, g7⟩ := i_L109 (c := c) f_X10_init_J134 8 0 h12 FU (by omega) (by unfold FU; omega) k12 R0 C1.1 C1.2.1 (by rw [n12])
  have Sc : sm c h12 h13 := g3 c (by omega) (by omega)
  have Sx : ∀ x, c + 2 ≤ x → x < c + 81 → sm x h12 h13 := fun x y1 y2 => g3 x (by omega) (by omega)
  have C2' := cel_s C2 (Sx (c + 2) (by omega) (by omega))
  obtain ⟨h14, i1, i2, i3, i4, i5, i6, i7⟩ := i_L136 (c := c) 36 0 h13 FU (by omega) (by unfold FU; omega) (Sc.1.trans k12) ((congrFun Sc.2.2.2 1).trans R1) C2'.1 C2'.2.1 (by rw [g2])
  have Sc2 : sm c h12 h14 := sm_t Sc (i3 c (by omega) (by omega))
  have Sy : ∀ x, c + 3 ≤ x → x < c + 81 → sm x h12 h14 := fun x y1 y2 => sm_t (Sx x (by omega) y2) (i3 x (by omega) (by omega))
  have Sr : ∀ x, c + 81 ≤ x → x < c + 97 → sm x h13 h14 := fun x y1 y2 => i3 x (by omega) (by omega)
  have S1r : sm (c + 1) h13 h14 := i3 (c + 1) (by omega) (by omega)
  refine ⟨h14, 1 + (1 + ((1 + 62) + ((1 + 1) + ((1 + 3) + (1 + (1 + ((1 + 6) + (2 * 8 + 8 * 36)))))))), 8 + (36 + ((1 + 3782) + ((2 + 120) + ((4 + 4320) + (100 + (16 + ((7 + 311) + (64 * 8 + 219 * 36)))))))), ?_, ⟨i2, Sc2.1.trans k12, fun j => (congrFun Sc2.2.2.1 j).trans (z12 j), ⟨(congrFun Sc2.2.2.2 _).trans R0, (congrFun Sc2.2.2.2 _).trans R1, (congrFun Sc2.2.2.2 _).trans R2, (congrFun Sc2.2.2.2 _).trans R3, (congrFun Sc2.2.2.2 _).trans R4, (congrFun Sc2.2.2.2 _).trans R5, (congrFun Sc2.2.2.2 _).trans R7, (congrFun Sc2.2.2.2 _).trans R9⟩, p3_s C3 (fun x y1 y2 => Sy x (by omega) (by omega)), p66_s C4 (fun x y1 y2 => Sy x (by omega) (by omega)), p68_s C5 (fun x y1 y2 => Sy x (by omega) (by omega)), ⟨(Sy _ (by omega) (by omega)).1.trans C7.1, (Sy _ (by omega) (by omega)).2.1.trans C7.2.1⟩, ⟨(Sy _ (by omega) (by omega)).1.trans C9.1, (Sy _ (by omega) (by omega)).2.1.trans C9.2.1⟩, p74_s C12 (fun x y1 y2 => Sy x (by omega) (by omega)), ⟨S1r.1.trans g4, S1r.2.1.trans g5, fun r hr => ⟨(congrFun S1r.2.2.2 _).trans (g7 r (Nat.zero_le _) hr).1, rwP_s (g7 r (Nat.zero_le _) hr).2 (fun x y1 y2 => Sr x (by omega) (by omega))⟩⟩, ⟨i4, i5, fun s hs => i7 s (Nat.zero_le _) hs⟩⟩, ?_, ?_⟩
  · show nA h0 16 (nI 8) (fun a1 h2 => pR h2 (some c) 10 0 (some a1) (fun h3 => nA h3 17 (nI 36) (fun a4 h5 => pR h5 (some c) 10 1 (some a4) (fun h6 => nO h6 3 1 (fun a7 h8 => bnd (f_X2_init h8 a7) (fun u9 h10 => pR h10 (some c) 10 3 (some a7) (fun h11 => nO h11 4 2 (fun a12 h13 => bnd (f_X3_init h13 a12) (fun u14 h15 => pR h15 (some c) 10 4 (some a12) (fun h16 => nO h16 7 4 (fun a17 h18 => bnd (f_X6_init h18 a17) (fun u19 h20 => pR h20 (some c) 10 5 (some a17) (fun h21 => pZ h21 (some c) 10 6 0 (fun h22 => nA h22 15 (nI 100) (fun a23 h24 => pR h24 (some c) 10 7 (some a23) (fun h25 => pI h25 (some c) 10 8 0 (fun h26 => nA h26 12 (nI 16) (fun a27 h28 => pR h28 (some c) 10 9 (some a27) (fun h29 => pI h29 (some c) 10 10 0 (fun h30 => pI h30 (some c) 10 11 0 (fun h31 => nO h31 6 7 (fun a32 h33 => bnd (f_X5_init h33 a32 (v &&& 7)) (fun u34 h35 => pR h35 (some c) 10 2 (some a32) (fun h36 => f_X10_init_L109 f_X10_init_J134 FU c (nI 0) h36)))))))))))))))))))))))) = _
    rw [f1, f2, f3, f4, f5, pZ_h0 Q5.2.1, f7, pI_h Q7.2.1, f9, pI_h Q9.2.1, pI_h Q10.2.1, f12, g1]
    have J : f_X10_init_J134 c h13 = some ((), h14, 8 * 36, 219 * 36) := i1
    rw [J, wA_s, wA_s, wA_s, wA_s, wA_s, wA_s, wA_s, wA_s, wA_s]
  · omega
  · omega
end PINITC
