section PINIT2
variable {h h' h'' : AH} {c : Nat}
/-- a slot as it is made, at a -/
def slP (h : AH) (a : Nat) (v1 v2 : Int32) : Prop := a_kd h a = 9 ∧ a_gr h a 2 = none ∧ a_gr h a 3 = none ∧ a_gr h a 4 = some (a + 1) ∧ a_gr h a 6 = some (a + 7) ∧ a_gi h a 0 = v1 ∧ a_gi h a 1 = v2 ∧ a_gi h a 5 = 0 ∧ a_gi h a 7 = 0 ∧ a_kd h (a + 1) = 2 ∧ (∀ q, q < 5 → a_gr h (a + 1) (2 + q) = some (a + 2 + q) ∧ a_kd h (a + 2 + q) = 12 ∧ a_ln h (a + 2 + q) = 40) ∧ a_kd h (a + 7) = 12 ∧ a_ln h (a + 7) = 4
theorem slP_s {a : Nat} {v1 v2 : Int32} (p : slP h a v1 v2) (e : ∀ x, a ≤ x → x < a + 8 → sm x h h') : slP h' a v1 v2 := by
  obtain ⟨p1, p2, p3, p4, p5, p6, p7, p8, p9, p10, p11, p12, p13⟩ := p
  have e0 := e a (by omega) (by omega)
  have e1 := e (a + 1) (by omega) (by omega)
  have e7 := e (a + 7) (by omega) (by omega)
  refine ⟨e0.1.trans p1, (congrFun e0.2.2.2 _).trans p2, (congrFun e0.2.2.2 _).trans p3, (congrFun e0.2.2.2 _).trans p4, (congrFun e0.2.2.2 _).trans p5, (congrFun e0.2.2.1 _).trans p6, (congrFun e0.2.2.1 _).trans p7, (congrFun e0.2.2.1 _).trans p8, (congrFun e0.2.2.1 _).trans p9, e1.1.trans p10, fun q hq => ?_, e7.1.trans p12, e7.2.1.trans p13⟩
  have e2 := e (a + 2 + q) (by omega) (by omega)
  obtain ⟨y1, y2, y3⟩ := p11 q hq
  exact ⟨(congrFun e1.2.2.2 _).trans y1, e2.1.trans y2, e2.2.1.trans y3⟩
theorem i_X8 {a : Nat} {v1 v2 : Int32} (hk : a_kd h a = 9) (ha : a_nx h = a + 1) : ∃ h', f_X8_init h a v1 v2 = some ((), h', 7, 211) ∧ a_nx h' = a + 8 ∧ (∀ x, x < a → sm x h h') ∧ slP h' a v1 v2 := by
  obtain ⟨h2, eh2⟩ : ∃ h2, a_pr (a_pr h a 2 none) a 3 none = h2 := ⟨_, rfl⟩
  have k2 : a_kd h2 a = 9 := by rw [← eh2]; exact hk
  have x2 : a_nx h2 = a + 1 := by rw [← eh2]; exact ha
  have s2 : ∀ x, x < a → sm x h h2 := fun x hx => by rw [← eh2]; exact sm_t (sm_pr (by omega)) (sm_pr (by omega))
  have g2 : a_gr h2 a 2 = none ∧ a_gr h2 a 3 = none := by rw [← eh2]; exact ⟨by rw [a_gr_pr, if_neg (by omega), a_gr_pr, if_pos ⟨rfl, rfl⟩], by rw [a_gr_pr, if_pos ⟨rfl, rfl⟩]⟩
  have c4 := cel_mk h2 2 0
  have s4 : ∀ x, x < a + 1 → sm x h2 (a_mk h2 2 0) := fun x hx => sm_mk (by omega)
  have x4 : a_nx (a_mk h2 2 0) = a + 2 := by show a_nx h2 + 1 = a + 2; omega
  rw [x2] at c4
  obtain ⟨h6, r1, r2, r3, r4, r5⟩ := i_X1 (h := a_mk h2 2 0) (a := a + 1) c4.1 (by omega)
  rw [x4] at r2 r3 r5
  have s6 : ∀ x, x < a + 1 → sm x h2 h6 := fun x hx => sm_t (s4 x hx) (r3 x (by omega) (by omega))
  have k6 : a_kd h6 a = 9 := (s6 a (by omega)).1.trans k2
  obtain ⟨h8, eh8⟩ : ∃ h8, a_pi (a_pr h6 a 4 (some (a + 1))) a 5 0 = h8 := ⟨_, rfl⟩
  have k8 : a_kd h8 a = 9 := by rw [← eh8]; exact k6
  have x8 : a_nx h8 = a + 7 := by rw [← eh8]; exact r2
  have s8 : ∀ x, x ≠ a → sm x h6 h8 := fun x hx => by rw [← eh8]; exact sm_t (sm_pr hx) (sm_pi hx)
  have c10 := cel_mk h8 12 4
  rw [x8] at c10
  have s10 : ∀ x, x < a + 7 → sm x h8 (a_mk h8 12 4) := fun x hx => sm_mk (by omega)
  have k10 : a_kd (a_mk h8 12 4) a = 9 := (s10 a (by omega)).1.trans k8
  obtain ⟨h14, eh14⟩ : ∃ h14, a_pi (a_pi (a_pi (a_pr (a_mk h8 12 4) a 6 (some (a + 7))) a 7 0) a 0 v1) a 1 v2 = h14 := ⟨_, rfl⟩
  have s14 : ∀ x, x ≠ a → sm x (a_mk h8 12 4) h14 := fun x hx => by rw [← eh14]; exact sm_t (sm_t (sm_t (sm_pr hx) (sm_pi hx)) (sm_pi hx)) (sm_pi hx)
  have T : ∀ x, x < a + 7 → x ≠ a → sm x h6 h14 := fun x h1 h2 => sm_t (sm_t (s8 x h2) (s10 x h1)) (s14 x h2)
  have gr : ∀ j, j ≠ 4 → j ≠ 6 → a_gr h14 a j = a_gr h6 a j := fun j h1 h2 => by
    rw [← eh14]
    show a_gr (a_pr (a_mk h8 12 4) a 6 (some (a + 7))) a j = _
    rw [a_gr_pr, if_neg (by omega), congrFun (s10 a (by omega)).2.2.2 j, ← eh8]
    show a_gr (a_pr h6 a 4 (some (a + 1))) a j = _
    rw [a_gr_pr, if_neg (by omega)]
  have gi : ∀ j, a_gi h14 a j = if j = 1 then v2 else if j = 0 then v1 else if j = 7 then 0 else if j = 5 then 0 else a_gi h6 a j := fun j => by
    rw [← eh14, a_gi_pi]
    by_cases z1 : j = 1
    · rw [if_pos ⟨rfl, z1⟩, if_pos z1]
    · rw [if_neg (fun w => z1 w.2), if_neg z1, a_gi_pi]
      by_cases z2 : j = 0
      · rw [if_pos ⟨rfl, z2⟩, if_pos z2]
      · rw [if_neg (fun w => z2 w.2), if_neg z2, a_gi_pi]
        by_cases z3 : j = 7
        · rw [if_pos ⟨rfl, z3⟩, if_pos z3]
        · rw [if_neg (fun w => z3 w.2), if_neg z3]
          show a_gi (a_mk h8 12 4) a j = _
          rw [congrFun (s10 a (by omega)).2.2.1 j, ← eh8, a_gi_pi]
          by_cases z4 : j = 5
          · rw [if_pos ⟨rfl, z4⟩, if_pos z4]
          · rw [if_neg (fun w => z4 w.2), if_neg z4]; rfl
  refine ⟨h14, ?_, ?_, fun x hx => sm_t (sm_t (s2 x hx) (s6 x (by omega))) (T x (by omega) (by omega)), ?_⟩
  · show pR h (some a) 9 2 none (fun h1 => pR h1 (some a) 9 3 none (fun h2 => nO h2 2 7 (fun a3 h4 => bnd (f_X1_init h4 a3) (fun u5 h6 => pR h6 (some a) 9 4 (some a3) (fun h7 => pZ h7 (some a) 9 5 0 (fun h8 => nA h8 12 (nI 4) (fun a9 h10 => pR h10 (some a) 9 6 (some a9) (fun h11 => pI h11 (some a) 9 7 0 (fun h12 => pI h12 (some a) 9 0 v1 (fun h13 => pI h13 (some a) 9 1 v2 (fun h14 => rV h14))))))))))) = _
    rw [pR_h hk, pR_h (h := a_pr h a 2 none) hk, eh2]
    show wA 1 7 (bnd (f_X1_init (a_mk h2 2 0) (a_nx h2)) _) = _
    rw [x2, r1, bnd_k, pR_h k6, pZ_h0 (h := a_pr h6 a 4 (some (a + 1))) k6, eh8, nA_h (by omega), x8, pR_h k10, pI_h (h := a_pr (a_mk h8 12 4) a 6 (some (a + 7))) k10, pI_h (h := a_pi (a_pr (a_mk h8 12 4) a 6 (some (a + 7))) a 7 0) k10, pI_h (h := a_pi (a_pi (a_pr (a_mk h8 12 4) a 6 (some (a + 7))) a 7 0) a 0 v1) k10, eh14]; rfl
  · rw [← eh14]; show a_nx h8 + 1 = a + 8; omega
  · refine ⟨?_, ?_, ?_, ?_, ?_, ?_, ?_, ?_, ?_, ?_, fun q hq => ?_, ?_, ?_⟩
    · rw [← eh14]; exact k10
    · rw [gr 2 (by omega) (by omega), congrFun (s6 a (by omega)).2.2.2]; exact g2.1
    · rw [gr 3 (by omega) (by omega), congrFun (s6 a (by omega)).2.2.2]; exact g2.2
    · rw [← eh14]
      show a_gr (a_pr (a_mk h8 12 4) a 6 (some (a + 7))) a 4 = _
      rw [a_gr_pr, if_neg (by omega), congrFun (s10 a (by omega)).2.2.2 4, ← eh8]
      show a_gr (a_pr h6 a 4 (some (a + 1))) a 4 = _
      rw [a_gr_pr, if_pos ⟨rfl, rfl⟩]
    · rw [← eh14]
      show a_gr (a_pr (a_mk h8 12 4) a 6 (some (a + 7))) a 6 = _
      rw [a_gr_pr, if_pos ⟨rfl, rfl⟩]
    · rw [gi]; rfl
    · rw [gi]; rfl
    · rw [gi]; rfl
    · rw [gi]; rfl
    · rw [(T (a + 1) (by omega) (by omega)).1]; exact r4
    · obtain ⟨y1, y2⟩ := r5 q hq
      exact ⟨(congrFun (T (a + 1) (by omega) (by omega)).2.2.2 _).trans y1, (T _ (by omega) (by omega)).1.trans y2.1, (T _ (by omega) (by omega)).2.1.trans y2.2.1⟩
    · rw [(s14 (a + 7) (by omega)).1]; exact c10.1
    · rw [(s14 (a + 7) (by omega)).2.1]; exact c10.2.1
theorem i_L136 : ∀ d s h fu, s + d = 36 → d < fu → a_kd h c = 10 → a_gr h c 1 = some (c + 2) → a_kd h (c + 2) = 17 → a_ln h (c + 2) = 36 → a_nx h = c + 97 + 8 * s → ∃ h', f_X10_init_L136 fu c (nI s) h = some ((), h', 8 * d, 219 * d) ∧ a_nx h' = c + 385 ∧ (∀ x, x < c + 97 + 8 * s → x ≠ c + 2 → sm x h h') ∧ a_kd h' (c + 2) = 17 ∧ a_ln h' (c + 2) = 36 ∧ (∀ j, j < s → a_gr h' (c + 2) j = a_gr h (c + 2) j) ∧ ∀ u, s ≤ u → u < 36 → a_gr h' (c + 2) u = some (c + 97 + 8 * u) ∧ slP h' (c + 97 + 8 * u) (nI (u / 3)) (nI (u % 3)) := by
  intro d
  induction d with
  | zero =>
    intro s h fu hs hfu k0 r1 k2 l2 nx
    obtain ⟨fu, rfl⟩ : ∃ k, fu = k + 1 := ⟨fu - 1, by omega⟩
    refine ⟨h, ?_, by omega, fun _ _ _ => sm_r, k2, l2, fun _ _ => rfl, fun u h1 h2 => by omega⟩
    show (if nI 36 ≤ nI s then rV h else _) = _
    rw [if_pos ((nI_leI (by decide) (by omega)).mpr (by omega))]; rfl
  | succ d ih =>
    intro s h fu hs hfu k0 r1 k2 l2 nx
    obtain ⟨fu, rfl⟩ : ∃ k, fu = k + 1 := ⟨fu - 1, by omega⟩
    have cM := cel_mk h 9 0
    have sM : ∀ x, x < c + 97 + 8 * s → sm x h (a_mk h 9 0) := fun x hx => sm_mk (by omega)
    rw [nx] at cM
    obtain ⟨h1, e1, e2, e3, e4⟩ := i_X8 (h := a_mk h 9 0) (a := c + 97 + 8 * s) (v1 := nI (s / 3)) (v2 := nI (s % 3)) cM.1 (by show a_nx h + 1 = _; omega)
    have S1 : ∀ x, x < c + 97 + 8 * s → sm x h h1 := fun x hx => sm_t (sM x hx) (e3 x hx)
    have k2' : a_kd h1 (c + 2) = 17 := (S1 _ (by omega)).1.trans k2
    have l2' : a_ln h1 (c + 2) = 36 := (S1 _ (by omega)).2.1.trans l2
    have S2 : ∀ x, x ≠ c + 2 → sm x h1 (a_pr h1 (c + 2) s (some (c + 97 + 8 * s))) := fun x hx => sm_pr hx
    obtain ⟨h', i1, i2, i3, i4, i5, i6, i7⟩ := ih (s + 1) (a_pr h1 (c + 2) s (some (c + 97 + 8 * s))) fu (by omega) (by omega) ((sm_t (S1 c (by omega)) (S2 c (by omega))).1.trans k0) ((congrFun (sm_t (S1 c (by omega)) (S2 c (by omega))).2.2.2 1).trans r1) k2' l2' (by show a_nx h1 = _; omega)
    refine ⟨h', ?_, i2, fun x hx hx2 => sm_t (sm_t (S1 x hx) (S2 x hx2)) (i3 x (by omega) hx2), i4, i5, fun j hj => ?_, fun u h1' h2' => ?_⟩
    · show (if nI 36 ≤ nI s then rV h else gR h (some c) 10 1 (fun r43 => nO h 9 8 (fun a44 h45 => if nI 3 = nI 0 then none else if nI 3 = nI 0 then none else bnd (f_X8_init h45 a44 (nI s / nI 3) (nI s - nI s / nI 3 * nI 3)) (fun u46 h47 => sR h47 r43 17 9 (nI s) (some a44) (fun h48 => f_X10_init_L136 fu c (nI s + nI 1) h48))))) = _
      have n36 : ¬ nI 36 ≤ nI s := fun w => by rw [nI_leI (by decide) (by omega)] at w; omega
      have n3 : ¬ nI 3 = nI 0 := by decide
      rw [if_neg n36, gR_h k0, r1]
      show wA 1 8 (if nI 3 = nI 0 then none else if nI 3 = nI 0 then none else bnd (f_X8_init (a_mk h 9 0) (a_nx h) (nI s / nI 3) (nI s - nI s / nI 3 * nI 3)) (fun u46 h47 => sR h47 (some (c + 2)) 17 9 (nI s) (some (a_nx h)) (fun h48 => f_X10_init_L136 fu c (nI s + nI 1) h48))) = _
      rw [if_neg n3, if_neg n3, nx, n_rem (by omega) (by omega) (by omega), n_div (by omega) (by omega) (by omega), e1, bnd_k, sR_h k2' (by omega) (by omega) e4.1, nI_add, i1, wA_s, wA_s, show 1 + (7 + 8 * d) = 8 * (d + 1) by omega, show 8 + (211 + 219 * d) = 219 * (d + 1) by omega]
    · rw [i6 j (by omega), a_gr_pr, if_neg (by omega)]
      exact congrFun (S1 (c + 2) (by omega)).2.2.2 j
    · by_cases z : u = s
      · subst z
        refine ⟨by rw [i6 u (by omega), a_gr_pr, if_pos ⟨rfl, rfl⟩], slP_s (slP_s e4 (fun x y1 y2 => S2 x (by omega))) (fun x y1 y2 => i3 x (by omega) (by omega))⟩
      · exact i7 u (by omega) h2'
/-- a row as it is made -/
def rwP (h : AH) (a : Nat) : Prop := a_kd h a = 8 ∧ a_gi h a 0 = 1 ∧ a_gr h a 3 = some (a + 1) ∧ a_kd h (a + 1) = 12 ∧ a_ln h (a + 1) = 60
theorem rwP_s {a : Nat} (p : rwP h a) (e : ∀ x, a ≤ x → x < a + 2 → sm x h h') : rwP h' a := by
  obtain ⟨p1, p2, p3, p4, p5⟩ := p
  have e0 := e a (by omega) (by omega)
  have e1 := e (a + 1) (by omega) (by omega)
  exact ⟨e0.1.trans p1, (congrFun e0.2.2.1 _).trans p2, (congrFun e0.2.2.2 _).trans p3, e1.1.trans p4, e1.2.1.trans p5⟩
theorem i_L109 (K : Nat → AH → RX Unit) : ∀ d s h fu, s + d = 8 → d < fu → a_kd h c = 10 → a_gr h c 0 = some (c + 1) → a_kd h (c + 1) = 16 → a_ln h (c + 1) = 8 → a_nx h = c + 81 + 2 * s → ∃ h', f_X10_init_L109 K fu c (nI s) h = wA (2 * d) (64 * d) (K c h') ∧ a_nx h' = c + 97 ∧ (∀ x, x < c + 81 + 2 * s → x ≠ c + 1 → sm x h h') ∧ a_kd h' (c + 1) = 16 ∧ a_ln h' (c + 1) = 8 ∧ (∀ j, j < s → a_gr h' (c + 1) j = a_gr h (c + 1) j) ∧ ∀ u, s ≤ u → u < 8 → a_gr h' (c + 1) u = some (c + 81 + 2 * u) ∧ rwP h' (c + 81 + 2 * u) := by
  intro d
  induction d with
  | zero =>
    intro s h fu hs hfu k0 r1 k2 l2 nx
    obtain ⟨fu, rfl⟩ : ∃ k, fu = k + 1 := ⟨fu - 1, by omega⟩
    refine ⟨h, ?_, by omega, fun _ _ _ => sm_r, k2, l2, fun _ _ => rfl, fun u h1 h2 => by omega⟩
    show (if nI 8 ≤ nI s then K c h else _) = _
    rw [if_pos ((nI_leI (by decide) (by omega)).mpr (by omega))]
    exact (wA00 _).symm
  | succ d ih =>
    intro s h fu hs hfu k0 r1 k2 l2 nx
    obtain ⟨fu, rfl⟩ : ∃ k, fu = k + 1 := ⟨fu - 1, by omega⟩
    have cM := cel_mk h 8 0
    have sM : ∀ x, x < c + 81 + 2 * s → sm x h (a_mk h 8 0) := fun x hx => sm_mk (by omega)
    rw [nx] at cM
    have nxM : a_nx (a_mk h 8 0) = c + 81 + 2 * s + 1 := by show a_nx h + 1 = _; omega
    obtain ⟨h1, e1, e2, e3, e4, e5, e6, e7⟩ := i_X7 (h := a_mk h 8 0) (a := c + 81 + 2 * s) cM.1 (by omega)
    rw [nxM] at e2 e3 e6 e7
    have R : rwP h1 (c + 81 + 2 * s) := ⟨e4, e5, e6, e7.1, e7.2.1⟩
    have S1 : ∀ x, x < c + 81 + 2 * s → sm x h h1 := fun x hx => sm_t (sM x hx) (e3 x (by omega) (by omega))
    have k2' : a_kd h1 (c + 1) = 16 := (S1 _ (by omega)).1.trans k2
    have l2' : a_ln h1 (c + 1) = 8 := (S1 _ (by omega)).2.1.trans l2
    have S2 : ∀ x, x ≠ c + 1 → sm x h1 (a_pr h1 (c + 1) s (some (c + 81 + 2 * s))) := fun x hx => sm_pr hx
    obtain ⟨h', i1, i2, i3, i4, i5, i6, i7⟩ := ih (s + 1) (a_pr h1 (c + 1) s (some (c + 81 + 2 * s))) fu (by omega) (by omega) ((sm_t (S1 c (by omega)) (S2 c (by omega))).1.trans k0) ((congrFun (sm_t (S1 c (by omega)) (S2 c (by omega))).2.2.2 0).trans r1) k2' l2' (by show a_nx h1 = _; omega)
    refine ⟨h', ?_, i2, fun x hx hx2 => sm_t (sm_t (S1 x hx) (S2 x hx2)) (i3 x (by omega) hx2), i4, i5, fun j hj => ?_, fun u h1' h2' => ?_⟩
    · show (if nI 8 ≤ nI s then K c h else gR h (some c) 10 0 (fun r37 => nO h 8 4 (fun a38 h39 => bnd (f_X7_init h39 a38) (fun u40 h41 => sR h41 r37 16 8 (nI s) (some a38) (fun h42 => f_X10_init_L109 K fu c (nI s + nI 1) h42))))) = _
      have n36 : ¬ nI 8 ≤ nI s := fun w => by rw [nI_leI (by decide) (by omega)] at w; omega
      rw [if_neg n36, gR_h k0, r1]
      show wA 1 4 (bnd (f_X7_init (a_mk h 8 0) (a_nx h)) (fun u40 h41 => sR h41 (some (c + 1)) 16 8 (nI s) (some (a_nx h)) (fun h42 => f_X10_init_L109 K fu c (nI s + nI 1) h42))) = _
      rw [nx, e1, bnd_k, sR_h k2' (by omega) (by omega) e4, nI_add, i1, wA_wA, wA_wA, show 1 + 1 + 2 * d = 2 * (d + 1) by omega, show 4 + 60 + 64 * d = 64 * (d + 1) by omega]
    · rw [i6 j (by omega), a_gr_pr, if_neg (by omega)]
      exact congrFun (S1 (c + 1) (by omega)).2.2.2 j
    · by_cases z : u = s
      · subst z
        refine ⟨by rw [i6 u (by omega), a_gr_pr, if_pos ⟨rfl, rfl⟩], rwP_s (rwP_s R (fun x y1 y2 => S2 x (by omega))) (fun x y1 y2 => i3 x (by omega) (by omega))⟩
      · exact i7 u (by omega) h2'
end PINIT2
