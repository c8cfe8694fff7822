section PENTER
variable {c m t r s : Nat} {hC hM h h' : AH} {own own' : Nat → Nat} {G G' : Nat → Nat → Int32}
variable {ru fd fd' : Int32} {rw rw' : Nat → Option Rw} {kp gv : Nat → Option An} {lk : Nat → List Nat} {bk bk' : Nat × (Nat → En)} {tr tr' : Nat × (Nat → Int32)}
variable {D : Nat → Bool} {o g : Int32}
theorem sR_w {β : Type} {a b k kv i : Nat} {q : AH → Option β} (hk : a_kd h a = k) (hi : i < a_ln h a) (hb : i < 2147483648) (hv : a_kd h b = kv) : sR (wi h G) (some a) k kv (nI i) (some b) q = q (wi (a_pr h a i (some b)) G) := by
  have e : (nI i).toNatClampNeg = i := nI_clamp hb
  show (if a_kd (wi h G) a = k ∧ _ ∧ _ ∧ _ then _ else _) = _
  rw [e, if_pos ⟨hk, nI_pos' hb, hi, fun b' hb' => by cases hb'; exact hv⟩]; rfl
/-- an entry that is being written, with room for cap places -/
def enW (h : AH) (own : Nat → Nat) (c a e : Nat) (x : En) (cap : Nat) : Prop := a_kd h a = 5 ∧ c + 385 ≤ a ∧ a < a_nx h ∧ own a = 100 + e ∧ a_gi h a 0 = x.1 ∧ a_gi h a 1 = x.2.1 ∧ a_gi h a 2 = x.2.2.1 ∧ a_gi h a 3 = x.2.2.2.1 ∧ a_gi h a 4 = x.2.2.2.2.1 ∧ a_gi h a 5 = nI x.2.2.2.2.2.1 ∧ ∃ b1 b2, a_gr h a 6 = some b1 ∧ a_gr h a 7 = some b2 ∧ (a_kd h b1 = 12 ∧ a_ln h b1 = cap ∧ c + 385 ≤ b1 ∧ b1 < a_nx h ∧ own b1 = 100 + e) ∧ (a_kd h b2 = 14 ∧ a_ln h b2 = cap ∧ c + 385 ≤ b2 ∧ b2 < a_nx h ∧ own b2 = 100 + e) ∧ ∀ k, k < x.2.2.2.2.2.1 → a_gi h b1 k = nI (x.2.2.2.2.2.2.1 k) ∧ ∃ q, a_gr h b2 k = some q ∧ isAn h own c q (x.2.2.2.2.2.2.2 k)
theorem enW_fr {S : Nat → Nat → Prop} {a e cap : Nat} {x : En} (p : enW h own c a e x cap) (F : Fr h h' S) (hS : Ok0 S own c h) (hE : ∀ a j, c + 385 ≤ a → a < a_nx h → own a = 100 + e → ¬ S a j) (ho : Sown own own' h) : enW h' own' c a e x cap := by
  obtain ⟨p1, p2, p3, p4, q0, q1, q2, q3, q4, q5, b1, b2, r1, r2, ⟨r3, r4, r5, r6, r7⟩, ⟨y3, y4, y5, y6, y7⟩, r10⟩ := p
  have z := fun j => hE a j p2 p3 p4
  have z1 := fun j => hE b1 j r5 r6 r7
  have z2 := fun j => hE b2 j y5 y6 y7
  refine ⟨(F.kd p3).trans p1, p2, Nat.lt_of_lt_of_le p3 F.1, (ho a p3).trans p4, (F.gi p3 (z 0)).trans q0, (F.gi p3 (z 1)).trans q1, (F.gi p3 (z 2)).trans q2, (F.gi p3 (z 3)).trans q3, (F.gi p3 (z 4)).trans q4, (F.gi p3 (z 5)).trans q5, b1, b2, (F.gr p3 (z 6)).trans r1, (F.gr p3 (z 7)).trans r2, ⟨(F.kd r6).trans r3, (F.ln r6).trans r4, r5, Nat.lt_of_lt_of_le r6 F.1, (ho b1 r6).trans r7⟩, ⟨(F.kd y6).trans y3, (F.ln y6).trans y4, y5, Nat.lt_of_lt_of_le y6 F.1, (ho b2 y6).trans y7⟩, fun k hk => ?_⟩
  obtain ⟨w1, q, w2, w3⟩ := r10 k hk
  exact ⟨(F.gi r6 (z1 k)).trans w1, q, (F.gr y6 (z2 k)).trans w2, isAn_fr w3 F hS ho⟩
theorem enW_enC {a e cap : Nat} {x : En} (p : enW h own c a e x cap) (hc : x.2.2.2.2.2.1 ≤ cap) : enC h own c a e x := by
  obtain ⟨p1, p2, p3, p4, q0, q1, q2, q3, q4, q5, b1, b2, r1, r2, ⟨r3, r4, r5, r6, r7⟩, ⟨y3, y4, y5, y6, y7⟩, r10⟩ := p
  exact ⟨p1, p2, p3, p4, q0, q1, q2, q3, q4, q5, b1, b2, r1, r2, ⟨r3, rfl, r5, r6, r7, fun _ _ => rfl⟩, by rw [r4]; exact hc, y3, y5, y6, y7, by rw [y4]; exact hc, r10⟩
/-- one more place in an entry -/
def enA (X : En) (s : Nat) (x : An) (v2 v3 : Int32) : En := (X.1, X.2.1, v2, v3, X.2.2.2.2.1, X.2.2.2.2.2.1 + 1, va_up X.2.2.2.2.2.2.1 X.2.2.2.2.2.1 s, va_up X.2.2.2.2.2.2.2 X.2.2.2.2.2.1 x)
set_option maxHeartbeats 8000000 in
theorem C_enter {nb ea cap st hd y2 y3 : Nat} {be : Nat → En} {X : En} {x : An} (p : RCC own c h (ru, rw, kp, gv, lk, (nb, be), tr, fd)) (ok : ∀ s, s < 36 → okA (kp s) ∧ okA (gv s)) (hs : s < 36) (hch : chC (a_gi h) c s (chs (kp s) (gv s)) st) (M : mnt (a_gi h) c s (chs (kp s) (gv s)).1 D o g) (hc : 0 < (chs (kp s) (gv s)).1) (hkx : kp s = some x) (W : enW h own c ea nb X cap) (hX : X.1 = nI hd) (hh : hd < 4) (hcap : X.2.2.2.2.2.1 < cap) (cap36 : cap ≤ 36) (v2 : X.2.2.1 = nI y2) (v3 : X.2.2.2.1 = nI y3) (hy2 : y2 < 100000) (hy3 : y3 < 100000) (hl : (lk s).length < 600) (hlb : ∀ x, x ∈ lk s → x < 14884) (hA : (mkd (kp s) (gv s) D).length ≤ 60) : ∃ own' h' n, f_X10_enter h c (some ea) (nI s) o g = some ((), h', 2, n) ∧ n ≤ 62 ∧ RCC own' c h' (ru, rw, va_up kp s (some (anL (mkd (kp s) (gv s) D))), gv, lk, (nb, be), tr, fd) ∧ enW h' own' c ea nb (enA X s x (nI (y2 + cn (fun k => D k = true) (chs (kp s) (gv s)).1 0)) (nI (y3 + cn (fun k => D k = true ∧ ¬ lcd ((chs (kp s) (gv s)).2 k) hd ∈ lk s) (chs (kp s) (gv s)).1 0))) cap ∧ (∀ a j, c + 97 ≤ a → a < c + 385 → a ≠ c + 97 + 8 * s → a_gi h' a j = a_gi h a j) := by
  have sC := p.1.1
  have hx := SC_nx sC
  have B := chB (ok s hs).1 (ok s hs).2
  obtain ⟨p1, p2, p3, p4, q0, q1, q2, q3, q4, q5, b1, b2, r1, r2, ⟨r3, r4, r5, r6, r7⟩, ⟨w3, w4, w5, w6, w7⟩, r10⟩ := W
  have an : anssC h own c kp gv := p.1.2.2.2.2.1
  have x1 : ansC h own c (a_gr h (c + 97 + 8 * s) 2) (kp s) := (an s hs).1
  rw [hkx] at x1
  obtain ⟨a1, u1, A1⟩ := ansC_s x1
  have k1 := A1.1
  have nb1 : b1 ≠ ea := fun w => by rw [w, p1] at r3; cases r3
  have nb2 : b2 ≠ ea := fun w => by rw [w, p1] at w3; cases w3
  have nb3 : b2 ≠ b1 := fun w => by rw [w, r3] at w3; cases w3
  -- step A: the entry
  have fE : ∀ G', (∀ a j, c + 97 ≤ a → a < c + 385 → G' a j = a_gi h a j) → f_X1_countOf (wi h G') (c + 98 + 8 * s) o g = some (nI (cn (fun k => D k = true) (chs (kp s) (gv s)).1 0), wi h G', 0, 0) := fun G' e => C_cntOf sC hs B.1 (mnt_fr M (fun j => e _ _ (by omega) (by omega))) (by rw [e _ _ (by omega) (by omega)]; exact hch.1)
  have cl := cn_le (fun k => D k = true) (chs (kp s) (gv s)).1 0
  have ul := cn_le (fun k => D k = true ∧ ¬ lcd ((chs (kp s) (gv s)).2 k) hd ∈ lk s) (chs (kp s) (gv s)).1 0
  have hz : ∀ i, i < (chs (kp s) (gv s)).1 → lcd ((chs (kp s) (gv s)).2 i) hd < 20000 := fun i hi => by have := (lcd_lt (hd := hd) (ok s hs) hi hh).1; omega
  have cE := fE (a_gi h) (fun _ _ _ _ => rfl)
  obtain ⟨cc, ecc⟩ : ∃ cc, cn (fun k => D k = true) (chs (kp s) (gv s)).1 0 = cc := ⟨_, rfl⟩
  obtain ⟨uu, euu⟩ : ∃ uu, cn (fun k => D k = true ∧ ¬ lcd ((chs (kp s) (gv s)).2 k) hd ∈ lk s) (chs (kp s) (gv s)).1 0 = uu := ⟨_, rfl⟩
  have lkC : lookC h own c s (lk s) := p.1.2.2.2.2.2.1 s hs
  have uE : f_X8_unseenOf (wi h (ug (a_gi h) ea 2 (nI (y2 + cc)))) (c + 97 + 8 * s) (nI hd) o g = some (nI uu, wi h (ug (a_gi h) ea 2 (nI (y2 + cc))), 0, 0) := by
    rw [← euu]
    refine C_unseen (own := own) (st := st) sC hs B.1 (mnt_fr M (fun j => ug_2 (by omega))) (chC_fr hch (fun a j z1 z2 => ug_2 (by omega))) hz hl hlb ?_
    have F0 : Fr h (wi h (ug (a_gi h) ea 2 (nI (y2 + cc)))) (fun a _ => a = ea) := Fr_wi (fun a j hj => ug_2 hj)
    exact lookC_fr lkC F0 hx hs (by omega) (by omega) (fun a j z1 z2 z3 => by rintro rfl; omega) (fun _ _ => rfl)
  rw [ecc] at cE cl ⊢
  rw [euu] at ul ⊢
  have i2 : a_gi h ea 2 = nI y2 := q2.trans v2
  have i3 : ug (a_gi h) ea 2 (nI (y2 + cc)) ea 3 = nI y3 := by rw [ug_3 (by omega)]; exact q3.trans v3
  have i0 : ug (a_gi h) ea 2 (nI (y2 + cc)) ea 0 = nI hd := by rw [ug_3 (by omega)]; exact q0.trans hX
  obtain ⟨n0, en0⟩ : ∃ n0, X.2.2.2.2.2.1 = n0 := ⟨_, rfl⟩
  rw [en0] at q5 hcap
  obtain ⟨GB, eGB⟩ : ∃ GB, ug (ug (a_gi h) ea 2 (nI (y2 + cc))) ea 3 (nI (y3 + uu)) = GB := ⟨_, rfl⟩
  have i5 : GB ea 5 = nI n0 := by rw [← eGB, ug_3 (by omega), ug_3 (by omega)]; exact q5
  obtain ⟨hA', ehA⟩ : ∃ hA', a_pr h b2 n0 (some a1) = hA' := ⟨_, rfl⟩
  obtain ⟨GA, eGA⟩ : ∃ GA, ug (ug GB b1 n0 (nI s)) ea 5 (nI (n0 + 1)) = GA := ⟨_, rfl⟩
  have rem : f_X4_remember (wi h GB) ea (nI s) (some a1) = some ((), wi hA' GA, 0, 0) := by
    have t6 : ∀ q : Option Nat → RX Unit, gR (wi h GB) (some ea) 5 6 q = q (some b1) := fun q => by rw [gR_w p1, r1]
    have t5 : ∀ q : Int32 → RX Unit, gI (wi h GB) (some ea) 5 5 q = q (nI n0) := fun q => by rw [gI_w p1, i5]
    have aLl : ∀ q : Int32 → RX Unit, aL (wi h GB) (some b1) 12 q = q (nI cap) := fun q => by rw [aL_w r3, r4]
    have wr : ∀ q : AH → RX Unit, sI (wi h GB) (some b1) 12 (nI n0) (nI s) q = q (wi h (ug GB b1 n0 (nI s))) := fun q => sI_w r3 (by omega) (by omega)
    have t7 : ∀ G (q : Option Nat → RX Unit), gR (wi h G) (some ea) 5 7 q = q (some b2) := fun G q => by rw [gR_w p1, r2]
    have t5b : ∀ q : Int32 → RX Unit, gI (wi h (ug GB b1 n0 (nI s))) (some ea) 5 5 q = q (nI n0) := fun q => by rw [gI_w p1, ug_2 (fun w => nb1 w.symm), i5]
    have sr : ∀ G (q : AH → RX Unit), sR (wi h G) (some b2) 14 1 (nI n0) (some a1) q = q (wi hA' G) := fun G q => by rw [sR_w w3 (by omega) (by omega) k1, ehA]
    have p1' : a_kd hA' ea = 5 := by rw [← ehA]; exact p1
    have t5c : ∀ q : Int32 → RX Unit, gI (wi hA' (ug GB b1 n0 (nI s))) (some ea) 5 5 q = q (nI n0) := fun q => by rw [gI_w p1', ug_2 (fun w => nb1 w.symm), i5]
    have wr5 : ∀ q : AH → RX Unit, pI (wi hA' (ug GB b1 n0 (nI s))) (some ea) 5 5 (nI (n0 + 1)) q = q (wi hA' GA) := fun q => by rw [pI_w p1', eGA]
    simp (disch := omega) only [f_X4_remember, t5, t6, aLl, wr, t7, t5b, sr, t5c, wr5, ↓nn_s, ↓nn_n, ↓bnd_s, nn_s, nn_n, bnd_s, rI, rZ, rV, rR, wA00, n_sub, nI_add, pk_mul, n_m1, n_leI, n_ltI, n_eqI, n_eqm1, n_0m1, n_m10, n_cl, n_div, n_rem, li_0, li_1, li_2, li_3, li_4, li_5, li_6, li_7, li_8, li_9, li_10, li_11, li_12, li_13, li_16, li_20, li_21, li_22, li_36, li_40, li_59, li_60, li_61, li_99, li_100, li_109, li_110, li_119, li_120, li_121, li_512, li_3721, li_1000000, li_1000001, li_1000002, li_1000003, li_1000010, t_lt, t_le, f_lt, f_le, t_eq, f_eq, if_true, if_false, true_and, and_true, or_true, true_or, or_false, false_or, and_false, false_and, not_true_eq_false, not_false_eq_true, Nat.zero_add, Nat.add_zero, Nat.mul_zero]
  have sA : SC c hA' := by
    rw [← ehA]
    refine SC_of sC (by exact hx) (fun a ha => ⟨rfl, rfl⟩) (fun a k z1 z2 => ?_) (fun s' hs' => ?_) (fun s' k hs' => ?_)
    · rw [a_gr_pr, if_neg (by omega)]
    · rw [a_gr_pr, if_neg (by omega)]
    · rw [a_gr_pr, if_neg (by omega)]
  have gA : ∀ a j, a ≠ ea → a ≠ b1 → GA a j = a_gi h a j := fun a j z1 z2 => by rw [← eGA, ug_2 z1, ug_2 z2, ← eGB, ug_2 z1, ug_2 z1]
  have FA : Fr h (wi hA' GA) (fun a _ => c + 385 ≤ a ∧ own a = 100 + nb) := by
    refine ⟨by rw [← ehA]; exact Nat.le_refl _, fun a ha => ⟨by rw [← ehA]; rfl, by rw [← ehA]; rfl, fun j hj => ⟨?_, ?_⟩⟩⟩
    · rw [a_gi_wi]
      exact gA a j (fun w => hj (by rw [w]; exact ⟨p2, p4⟩)) (fun w => hj (by rw [w]; exact ⟨r5, r7⟩))
    · rw [a_gr_wi, ← ehA, a_gr_pr, if_neg (fun w => hj (by rw [w.1]; exact ⟨w5, w7⟩))]
  have ho : Sown own own h := fun _ _ => rfl
  have okF : Ok0 (fun a _ => c + 385 ≤ a ∧ own a = 100 + nb) own c h := fun a j z1 z2 z3 => by omega
  have PA : RCC own c (wi hA' GA) (ru, rw, kp, gv, lk, (nb, be), tr, fd) := RCC_book p (FA.mono (fun a j z => .inl ⟨z.1, by omega⟩)) (SC_wi sA) ho (bookC_fr2 p.1.2.2.2.2.2.2.1 FA hx (FA.gi (by omega) (by omega)) (fun e he => by omega) okF (fun e he a j z1 z2 z3 => by omega) ho)
  have WA : enW (wi hA' GA) own c ea nb (enA X s x (nI (y2 + cc)) (nI (y3 + uu))) cap := by
    have nx : a_nx hA' = a_nx h := by rw [← ehA]; rfl
    have kd : ∀ a, a_kd hA' a = a_kd h a := fun a => by rw [← ehA]; rfl
    have ln : ∀ a, a_ln hA' a = a_ln h a := fun a => by rw [← ehA]; rfl
    have gE : ∀ j, j ≠ 2 → j ≠ 3 → j ≠ 5 → GA ea j = a_gi h ea j := fun j z1 z2 z3 => by rw [← eGA, ug_3 z3, ug_2 (fun w => nb1 w.symm), ← eGB, ug_3 z2, ug_3 z1]
    refine ⟨(kd _).trans p1, p2, nx ▸ p3, p4, ?_, ?_, ?_, ?_, ?_, ?_, b1, b2, ?_, ?_, ⟨(kd _).trans r3, (ln _).trans r4, r5, nx ▸ r6, r7⟩, ⟨(kd _).trans w3, (ln _).trans w4, w5, nx ▸ w6, w7⟩, fun k hk => ?_⟩
    · rw [a_gi_wi, gE 0 (by omega) (by omega) (by omega)]; exact q0
    · rw [a_gi_wi, gE 1 (by omega) (by omega) (by omega)]; exact q1
    · rw [a_gi_wi, ← eGA, ug_3 (by omega), ug_2 (fun w => nb1 w.symm), ← eGB, ug_3 (by omega), ug_1 rfl rfl]; rfl
    · rw [a_gi_wi, ← eGA, ug_3 (by omega), ug_2 (fun w => nb1 w.symm), ← eGB, ug_1 rfl rfl]; rfl
    · rw [a_gi_wi, gE 4 (by omega) (by omega) (by omega)]; exact q4
    · rw [a_gi_wi, ← eGA, ug_1 rfl rfl, ← en0]; rfl
    · rw [a_gr_wi, ← ehA, a_gr_pr, if_neg (fun w => nb2 w.1.symm)]; exact r1
    · rw [a_gr_wi, ← ehA, a_gr_pr, if_neg (fun w => nb2 w.1.symm)]; exact r2
    · have hk : k < X.2.2.2.2.2.1 + 1 := hk
      show GA b1 k = nI (va_up X.2.2.2.2.2.2.1 X.2.2.2.2.2.1 s k) ∧ ∃ q, a_gr hA' b2 k = some q ∧ isAn (wi hA' GA) own c q (va_up X.2.2.2.2.2.2.2 X.2.2.2.2.2.1 x k)
      rw [en0] at hk ⊢
      by_cases z : k = n0
      · subst z
        rw [va_up_at, va_up_at]
        refine ⟨by rw [← eGA, ug_2 nb1, ug_1 rfl rfl], a1, by rw [← ehA, a_gr_pr, if_pos ⟨rfl, rfl⟩], isAn_fr A1 FA okF ho⟩
      · rw [va_up_off _ _ z, va_up_off _ _ z]
        obtain ⟨y1, q, y2', y3'⟩ := r10 k (by omega)
        refine ⟨by rw [← eGA, ug_2 nb1, ug_3 z, ← eGB, ug_2 nb1, ug_2 nb1]; exact y1, q, by rw [← ehA, a_gr_pr, if_neg (fun w => z w.2)]; exact y2', isAn_fr y3' FA okF ho⟩
  -- step B: the draft, and the kept one
  obtain ⟨G1, d1, d2, d3⟩ := C_write (own := own) (D := D) (o := o) (g := g) (st := st) sA PA.1.2.2.2.2.1 ok hs (chC_fr hch (fun a j z1 z2 => gA _ _ (by omega) (by omega))) (mnt_fr M (fun j => gA _ _ (by omega) (by omega))) hc
  have PB : RCC own c (wi hA' G1) (ru, rw, kp, gv, lk, (nb, be), tr, fd) := RCC_66 (h := wi hA' GA) PA d2
  have FB : Fr (wi hA' GA) (wi hA' G1) (fun a _ => a < c + 385) := Fr_wi2 (fun a j hj => d2 a j (by omega) (by omega))
  have okB : Ok0 (fun a _ => a < c + 385) own c (wi hA' GA) := fun a j z1 z2 z3 => by omega
  have WB := enW_fr WA FB okB (fun a j z1 z2 z3 => by omega) (fun _ _ => rfl)
  obtain ⟨H, t1, t2, t3, t4, t5⟩ := C_toAns (h := wi hA' G1) (l := mkd (kp s) (gv s) D) (SC_wi sA) d3 hA
  have nxA : a_nx hA' = a_nx h := by rw [← ehA]; rfl
  have nxw : a_nx (wi hA' G1) = a_nx h := nxA
  rw [nxw] at t1 t3 t5
  have hoC : Sown own (fun a => if a < a_nx h then own a else 0) (wi hA' G1) := fun a ha => if_pos (by rw [nxw] at ha; exact ha)
  have PC := RCC_new PB t4 t2 hoC
  have WC := enW_fr WB t4 (fun _ _ _ _ _ z => z) (fun _ _ _ _ _ z => z) hoC
  have AN := t5 (fun a => if a < a_nx h then own a else 0) (if_neg (by omega)) (if_neg (by omega))
  have PD := C_put PC hs AN
  have FD : Fr H (wi (a_pr H (c + 97 + 8 * s) 2 (some (a_nx h + 1))) (ug (ug (a_gi H) (c + 97 + 8 * s) 5 (nI 0)) c 6 (nI 0))) (fun a _ => a < c + 385) := by
    refine ⟨Nat.le_refl _, fun a ha => ⟨rfl, rfl, fun j hj => ⟨?_, ?_⟩⟩⟩
    · rw [a_gi_wi, ug_2 (by omega), ug_2 (by omega)]
    · rw [a_gr_wi, a_gr_pr, if_neg (by omega)]
  have WD := enW_fr WC FD (fun a j z1 z2 z3 => by omega) (fun a j z1 z2 z3 => by omega) (fun _ _ => rfl)
  refine ⟨_, _, (mkd (kp s) (gv s) D).length + 2, ?_, by omega, PD, WD, ?_⟩
  · have sH2 := SC_pr (v := some (a_nx h + 1)) t2 hs (.inl rfl)
    have t1 : f_X3_toAnswer (wi hA' G1) (c + 66) = some (some (a_nx h + 1), wi H (a_gi H), 2, (mkd (kp s) (gv s) D).length + 2) := t1
    have gE2 : ∀ q : Int32 → RX Unit, gI (wi h (a_gi h)) (some ea) 5 2 q = q (nI y2) := fun q => by rw [gI_w p1, i2]
    have pE2 : ∀ q : AH → RX Unit, pI (wi h (a_gi h)) (some ea) 5 2 (nI (y2 + cc)) q = q (wi h (ug (a_gi h) ea 2 (nI (y2 + cc)))) := fun q => pI_w p1
    have gE3 : ∀ q : Int32 → RX Unit, gI (wi h (ug (a_gi h) ea 2 (nI (y2 + cc)))) (some ea) 5 3 q = q (nI y3) := fun q => by rw [gI_w p1, i3]
    have gE0 : ∀ q : Int32 → RX Unit, gI (wi h (ug (a_gi h) ea 2 (nI (y2 + cc)))) (some ea) 5 0 q = q (nI hd) := fun q => by rw [gI_w p1, i0]
    have pE3 : ∀ q : AH → RX Unit, pI (wi h (ug (a_gi h) ea 2 (nI (y2 + cc)))) (some ea) 5 3 (nI (y3 + uu)) q = q (wi h GB) := fun q => by rw [pI_w p1, eGB]
    have g2 : ∀ q : Option Nat → RX Unit, gR (wi h GB) (some (c + 97 + 8 * s)) 9 2 q = q (some a1) := fun q => by rw [gR_w (SC_ks sC hs), u1]
    have cVe : ∀ q : Nat → RX Unit, cV (wi h GB) (some ea) 5 q = q ea := fun q => cV_w p1
    show f_X10_enter (wi h (a_gi h)) c (some ea) (nI s) o g = _
    simp (disch := omega) only [f_X10_enter, f_X10_touch, gE2, cE, pE2, gE3, gE0, uE, pE3, g2, cVe, rem, d1, t1, bnd_k, wA_s, pR_w (SC_ks t2 hs), ↓SC_g1 sC, ↓SC_g2 sC, ↓SC_g74 sC, ↓SC_g3 sC, ↓SC_g66 sC, ↓SC_g68 sC, ↓SC_g72 sC, ↓SC_g73 sC, ↓SC_g4 sC, ↓SC_g67 sC, ↓SC_g69 sC, ↓SC_g70 sC, ↓SC_g71 sC, ↓SC_g75 sC, ↓SC_g76 sC, ↓SC_g77 sC, ↓SC_g78 sC, ↓SC_g79 sC, ↓SC_g80 sC, ↓SC_gri sC, ↓SC_grc sC, ↓SC_grc0 sC, ↓SC_grc1 sC, ↓SC_grc2 sC, ↓SC_grc3 sC, ↓SC_grc4 sC, ↓SC_grr sC, ↓SC_grs sC, ↓SC_grg sC, ↓SC_b72 sC, ↓SC_oI0 sC, ↓SC_oP0 sC, ↓SC_oZ0 sC, ↓SC_oY0 sC, ↓SC_oz0 sC, ↓SC_oy0 sC, ↓SC_oV0 sC, ↓SC_oI3 sC, ↓SC_oP3 sC, ↓SC_oZ3 sC, ↓SC_oY3 sC, ↓SC_oz3 sC, ↓SC_oy3 sC, ↓SC_oV3 sC, ↓SC_oI66 sC, ↓SC_oP66 sC, ↓SC_oZ66 sC, ↓SC_oY66 sC, ↓SC_oz66 sC, ↓SC_oy66 sC, ↓SC_oV66 sC, ↓SC_oI68 sC, ↓SC_oP68 sC, ↓SC_oZ68 sC, ↓SC_oY68 sC, ↓SC_oz68 sC, ↓SC_oy68 sC, ↓SC_oV68 sC, ↓SC_oI74 sC, ↓SC_oP74 sC, ↓SC_oZ74 sC, ↓SC_oY74 sC, ↓SC_oz74 sC, ↓SC_oy74 sC, ↓SC_oV74 sC, ↓SC_oIr sC, ↓SC_oPr sC, ↓SC_oZr sC, ↓SC_oYr sC, ↓SC_ozr sC, ↓SC_oyr sC, ↓SC_oVr sC, ↓SC_oIw sC, ↓SC_oPw sC, ↓SC_oZw sC, ↓SC_oYw sC, ↓SC_ozw sC, ↓SC_oyw sC, ↓SC_oVw sC, ↓SC_oIh sC, ↓SC_oPh sC, ↓SC_oZh sC, ↓SC_oYh sC, ↓SC_ozh sC, ↓SC_oyh sC, ↓SC_oVh sC, ↓SC_a67 sC, ↓SC_s67 sC, ↓SC_n67 sC, ↓SC_a69 sC, ↓SC_s69 sC, ↓SC_n69 sC, ↓SC_a70 sC, ↓SC_s70 sC, ↓SC_n70 sC, ↓SC_a71 sC, ↓SC_s71 sC, ↓SC_n71 sC, ↓SC_a73 sC, ↓SC_s73 sC, ↓SC_n73 sC, ↓SC_a75 sC, ↓SC_s75 sC, ↓SC_n75 sC, ↓SC_a76 sC, ↓SC_s76 sC, ↓SC_n76 sC, ↓SC_a77 sC, ↓SC_s77 sC, ↓SC_n77 sC, ↓SC_a78 sC, ↓SC_s78 sC, ↓SC_n78 sC, ↓SC_a79 sC, ↓SC_s79 sC, ↓SC_n79 sC, ↓SC_a80 sC, ↓SC_s80 sC, ↓SC_n80 sC, ↓SC_ai sC, ↓SC_si sC, ↓SC_ni sC, ↓SC_ag sC, ↓SC_sg sC, ↓SC_ng sC, ↓SC_ac0 sC, ↓SC_sc0 sC, ↓SC_nc0 sC, ↓SC_ac1 sC, ↓SC_sc1 sC, ↓SC_nc1 sC, ↓SC_ac2 sC, ↓SC_sc2 sC, ↓SC_nc2 sC, ↓SC_ac3 sC, ↓SC_sc3 sC, ↓SC_nc3 sC, ↓SC_ac4 sC, ↓SC_sc4 sC, ↓SC_nc4 sC, SC_b72 sC, SC_oI0 sC, SC_oP0 sC, SC_oZ0 sC, SC_oY0 sC, SC_oz0 sC, SC_oy0 sC, SC_oV0 sC, SC_oI3 sC, SC_oP3 sC, SC_oZ3 sC, SC_oY3 sC, SC_oz3 sC, SC_oy3 sC, SC_oV3 sC, SC_oI66 sC, SC_oP66 sC, SC_oZ66 sC, SC_oY66 sC, SC_oz66 sC, SC_oy66 sC, SC_oV66 sC, SC_oI68 sC, SC_oP68 sC, SC_oZ68 sC, SC_oY68 sC, SC_oz68 sC, SC_oy68 sC, SC_oV68 sC, SC_oI74 sC, SC_oP74 sC, SC_oZ74 sC, SC_oY74 sC, SC_oz74 sC, SC_oy74 sC, SC_oV74 sC, SC_oIr sC, SC_oPr sC, SC_oZr sC, SC_oYr sC, SC_ozr sC, SC_oyr sC, SC_oVr sC, SC_oIw sC, SC_oPw sC, SC_oZw sC, SC_oYw sC, SC_ozw sC, SC_oyw sC, SC_oVw sC, SC_oIh sC, SC_oPh sC, SC_oZh sC, SC_oYh sC, SC_ozh sC, SC_oyh sC, SC_oVh sC, SC_a67 sC, SC_s67 sC, SC_n67 sC, SC_a69 sC, SC_s69 sC, SC_n69 sC, SC_a70 sC, SC_s70 sC, SC_n70 sC, SC_a71 sC, SC_s71 sC, SC_n71 sC, SC_a73 sC, SC_s73 sC, SC_n73 sC, SC_a75 sC, SC_s75 sC, SC_n75 sC, SC_a76 sC, SC_s76 sC, SC_n76 sC, SC_a77 sC, SC_s77 sC, SC_n77 sC, SC_a78 sC, SC_s78 sC, SC_n78 sC, SC_a79 sC, SC_s79 sC, SC_n79 sC, SC_a80 sC, SC_s80 sC, SC_n80 sC, SC_ai sC, SC_si sC, SC_ni sC, SC_ag sC, SC_sg sC, SC_ng sC, SC_ac0 sC, SC_sc0 sC, SC_nc0 sC, SC_ac1 sC, SC_sc1 sC, SC_nc1 sC, SC_ac2 sC, SC_sc2 sC, SC_nc2 sC, SC_ac3 sC, SC_sc3 sC, SC_nc3 sC, SC_ac4 sC, SC_sc4 sC, SC_nc4 sC, SC_g1 sC, SC_g2 sC, SC_g74 sC, SC_g3 sC, SC_g66 sC, SC_g68 sC, SC_g72 sC, SC_g73 sC, SC_g4 sC, SC_g67 sC, SC_g69 sC, SC_g70 sC, SC_g71 sC, SC_g75 sC, SC_g76 sC, SC_g77 sC, SC_g78 sC, SC_g79 sC, SC_g80 sC, SC_gri sC, SC_grc sC, SC_grc0 sC, SC_grc1 sC, SC_grc2 sC, SC_grc3 sC, SC_grc4 sC, SC_grr sC, SC_grs sC, SC_grg sC, ↓SC_g1 sA, ↓SC_g2 sA, ↓SC_g74 sA, ↓SC_g3 sA, ↓SC_g66 sA, ↓SC_g68 sA, ↓SC_g72 sA, ↓SC_g73 sA, ↓SC_g4 sA, ↓SC_g67 sA, ↓SC_g69 sA, ↓SC_g70 sA, ↓SC_g71 sA, ↓SC_g75 sA, ↓SC_g76 sA, ↓SC_g77 sA, ↓SC_g78 sA, ↓SC_g79 sA, ↓SC_g80 sA, ↓SC_gri sA, ↓SC_grc sA, ↓SC_grc0 sA, ↓SC_grc1 sA, ↓SC_grc2 sA, ↓SC_grc3 sA, ↓SC_grc4 sA, ↓SC_grr sA, ↓SC_grs sA, ↓SC_grg sA, ↓SC_b72 sA, ↓SC_oI0 sA, ↓SC_oP0 sA, ↓SC_oZ0 sA, ↓SC_oY0 sA, ↓SC_oz0 sA, ↓SC_oy0 sA, ↓SC_oV0 sA, ↓SC_oI3 sA, ↓SC_oP3 sA, ↓SC_oZ3 sA, ↓SC_oY3 sA, ↓SC_oz3 sA, ↓SC_oy3 sA, ↓SC_oV3 sA, ↓SC_oI66 sA, ↓SC_oP66 sA, ↓SC_oZ66 sA, ↓SC_oY66 sA, ↓SC_oz66 sA, ↓SC_oy66 sA, ↓SC_oV66 sA, ↓SC_oI68 sA, ↓SC_oP68 sA, ↓SC_oZ68 sA, ↓SC_oY68 sA, ↓SC_oz68 sA, ↓SC_oy68 sA, ↓SC_oV68 sA, ↓SC_oI74 sA, ↓SC_oP74 sA, ↓SC_oZ74 sA, ↓SC_oY74 sA, ↓SC_oz74 sA, ↓SC_oy74 sA, ↓SC_oV74 sA, ↓SC_oIr sA, ↓SC_oPr sA, ↓SC_oZr sA, ↓SC_oYr sA, ↓SC_ozr sA, ↓SC_oyr sA, ↓SC_oVr sA, ↓SC_oIw sA, ↓SC_oPw sA, ↓SC_oZw sA, ↓SC_oYw sA, ↓SC_ozw sA, ↓SC_oyw sA, ↓SC_oVw sA, ↓SC_oIh sA, ↓SC_oPh sA, ↓SC_oZh sA, ↓SC_oYh sA, ↓SC_ozh sA, ↓SC_oyh sA, ↓SC_oVh sA, ↓SC_a67 sA, ↓SC_s67 sA, ↓SC_n67 sA, ↓SC_a69 sA, ↓SC_s69 sA, ↓SC_n69 sA, ↓SC_a70 sA, ↓SC_s70 sA, ↓SC_n70 sA, ↓SC_a71 sA, ↓SC_s71 sA, ↓SC_n71 sA, ↓SC_a73 sA, ↓SC_s73 sA, ↓SC_n73 sA, ↓SC_a75 sA, ↓SC_s75 sA, ↓SC_n75 sA, ↓SC_a76 sA, ↓SC_s76 sA, ↓SC_n76 sA, ↓SC_a77 sA, ↓SC_s77 sA, ↓SC_n77 sA, ↓SC_a78 sA, ↓SC_s78 sA, ↓SC_n78 sA, ↓SC_a79 sA, ↓SC_s79 sA, ↓SC_n79 sA, ↓SC_a80 sA, ↓SC_s80 sA, ↓SC_n80 sA, ↓SC_ai sA, ↓SC_si sA, ↓SC_ni sA, ↓SC_ag sA, ↓SC_sg sA, ↓SC_ng sA, ↓SC_ac0 sA, ↓SC_sc0 sA, ↓SC_nc0 sA, ↓SC_ac1 sA, ↓SC_sc1 sA, ↓SC_nc1 sA, ↓SC_ac2 sA, ↓SC_sc2 sA, ↓SC_nc2 sA, ↓SC_ac3 sA, ↓SC_sc3 sA, ↓SC_nc3 sA, ↓SC_ac4 sA, ↓SC_sc4 sA, ↓SC_nc4 sA, SC_b72 sA, SC_oI0 sA, SC_oP0 sA, SC_oZ0 sA, SC_oY0 sA, SC_oz0 sA, SC_oy0 sA, SC_oV0 sA, SC_oI3 sA, SC_oP3 sA, SC_oZ3 sA, SC_oY3 sA, SC_oz3 sA, SC_oy3 sA, SC_oV3 sA, SC_oI66 sA, SC_oP66 sA, SC_oZ66 sA, SC_oY66 sA, SC_oz66 sA, SC_oy66 sA, SC_oV66 sA, SC_oI68 sA, SC_oP68 sA, SC_oZ68 sA, SC_oY68 sA, SC_oz68 sA, SC_oy68 sA, SC_oV68 sA, SC_oI74 sA, SC_oP74 sA, SC_oZ74 sA, SC_oY74 sA, SC_oz74 sA, SC_oy74 sA, SC_oV74 sA, SC_oIr sA, SC_oPr sA, SC_oZr sA, SC_oYr sA, SC_ozr sA, SC_oyr sA, SC_oVr sA, SC_oIw sA, SC_oPw sA, SC_oZw sA, SC_oYw sA, SC_ozw sA, SC_oyw sA, SC_oVw sA, SC_oIh sA, SC_oPh sA, SC_oZh sA, SC_oYh sA, SC_ozh sA, SC_oyh sA, SC_oVh sA, SC_a67 sA, SC_s67 sA, SC_n67 sA, SC_a69 sA, SC_s69 sA, SC_n69 sA, SC_a70 sA, SC_s70 sA, SC_n70 sA, SC_a71 sA, SC_s71 sA, SC_n71 sA, SC_a73 sA, SC_s73 sA, SC_n73 sA, SC_a75 sA, SC_s75 sA, SC_n75 sA, SC_a76 sA, SC_s76 sA, SC_n76 sA, SC_a77 sA, SC_s77 sA, SC_n77 sA, SC_a78 sA, SC_s78 sA, SC_n78 sA, SC_a79 sA, SC_s79 sA, SC_n79 sA, SC_a80 sA, SC_s80 sA, SC_n80 sA, SC_ai sA, SC_si sA, SC_ni sA, SC_ag sA, SC_sg sA, SC_ng sA, SC_ac0 sA, SC_sc0 sA, SC_nc0 sA, SC_ac1 sA, SC_sc1 sA, SC_nc1 sA, SC_ac2 sA, SC_sc2 sA, SC_nc2 sA, SC_ac3 sA, SC_sc3 sA, SC_nc3 sA, SC_ac4 sA, SC_sc4 sA, SC_nc4 sA, SC_g1 sA, SC_g2 sA, SC_g74 sA, SC_g3 sA, SC_g66 sA, SC_g68 sA, SC_g72 sA, SC_g73 sA, SC_g4 sA, SC_g67 sA, SC_g69 sA, SC_g70 sA, SC_g71 sA, SC_g75 sA, SC_g76 sA, SC_g77 sA, SC_g78 sA, SC_g79 sA, SC_g80 sA, SC_gri sA, SC_grc sA, SC_grc0 sA, SC_grc1 sA, SC_grc2 sA, SC_grc3 sA, SC_grc4 sA, SC_grr sA, SC_grs sA, SC_grg sA, ↓SC_g1 t2, ↓SC_g2 t2, ↓SC_g74 t2, ↓SC_g3 t2, ↓SC_g66 t2, ↓SC_g68 t2, ↓SC_g72 t2, ↓SC_g73 t2, ↓SC_g4 t2, ↓SC_g67 t2, ↓SC_g69 t2, ↓SC_g70 t2, ↓SC_g71 t2, ↓SC_g75 t2, ↓SC_g76 t2, ↓SC_g77 t2, ↓SC_g78 t2, ↓SC_g79 t2, ↓SC_g80 t2, ↓SC_gri t2, ↓SC_grc t2, ↓SC_grc0 t2, ↓SC_grc1 t2, ↓SC_grc2 t2, ↓SC_grc3 t2, ↓SC_grc4 t2, ↓SC_grr t2, ↓SC_grs t2, ↓SC_grg t2, ↓SC_b72 t2, ↓SC_oI0 t2, ↓SC_oP0 t2, ↓SC_oZ0 t2, ↓SC_oY0 t2, ↓SC_oz0 t2, ↓SC_oy0 t2, ↓SC_oV0 t2, ↓SC_oI3 t2, ↓SC_oP3 t2, ↓SC_oZ3 t2, ↓SC_oY3 t2, ↓SC_oz3 t2, ↓SC_oy3 t2, ↓SC_oV3 t2, ↓SC_oI66 t2, ↓SC_oP66 t2, ↓SC_oZ66 t2, ↓SC_oY66 t2, ↓SC_oz66 t2, ↓SC_oy66 t2, ↓SC_oV66 t2, ↓SC_oI68 t2, ↓SC_oP68 t2, ↓SC_oZ68 t2, ↓SC_oY68 t2, ↓SC_oz68 t2, ↓SC_oy68 t2, ↓SC_oV68 t2, ↓SC_oI74 t2, ↓SC_oP74 t2, ↓SC_oZ74 t2, ↓SC_oY74 t2, ↓SC_oz74 t2, ↓SC_oy74 t2, ↓SC_oV74 t2, ↓SC_oIr t2, ↓SC_oPr t2, ↓SC_oZr t2, ↓SC_oYr t2, ↓SC_ozr t2, ↓SC_oyr t2, ↓SC_oVr t2, ↓SC_oIw t2, ↓SC_oPw t2, ↓SC_oZw t2, ↓SC_oYw t2, ↓SC_ozw t2, ↓SC_oyw t2, ↓SC_oVw t2, ↓SC_oIh t2, ↓SC_oPh t2, ↓SC_oZh t2, ↓SC_oYh t2, ↓SC_ozh t2, ↓SC_oyh t2, ↓SC_oVh t2, ↓SC_a67 t2, ↓SC_s67 t2, ↓SC_n67 t2, ↓SC_a69 t2, ↓SC_s69 t2, ↓SC_n69 t2, ↓SC_a70 t2, ↓SC_s70 t2, ↓SC_n70 t2, ↓SC_a71 t2, ↓SC_s71 t2, ↓SC_n71 t2, ↓SC_a73 t2, ↓SC_s73 t2, ↓SC_n73 t2, ↓SC_a75 t2, ↓SC_s75 t2, ↓SC_n75 t2, ↓SC_a76 t2, ↓SC_s76 t2, ↓SC_n76 t2, ↓SC_a77 t2, ↓SC_s77 t2, ↓SC_n77 t2, ↓SC_a78 t2, ↓SC_s78 t2, ↓SC_n78 t2, ↓SC_a79 t2, ↓SC_s79 t2, ↓SC_n79 t2, ↓SC_a80 t2, ↓SC_s80 t2, ↓SC_n80 t2, ↓SC_ai t2, ↓SC_si t2, ↓SC_ni t2, ↓SC_ag t2, ↓SC_sg t2, ↓SC_ng t2, ↓SC_ac0 t2, ↓SC_sc0 t2, ↓SC_nc0 t2, ↓SC_ac1 t2, ↓SC_sc1 t2, ↓SC_nc1 t2, ↓SC_ac2 t2, ↓SC_sc2 t2, ↓SC_nc2 t2, ↓SC_ac3 t2, ↓SC_sc3 t2, ↓SC_nc3 t2, ↓SC_ac4 t2, ↓SC_sc4 t2, ↓SC_nc4 t2, SC_b72 t2, SC_oI0 t2, SC_oP0 t2, SC_oZ0 t2, SC_oY0 t2, SC_oz0 t2, SC_oy0 t2, SC_oV0 t2, SC_oI3 t2, SC_oP3 t2, SC_oZ3 t2, SC_oY3 t2, SC_oz3 t2, SC_oy3 t2, SC_oV3 t2, SC_oI66 t2, SC_oP66 t2, SC_oZ66 t2, SC_oY66 t2, SC_oz66 t2, SC_oy66 t2, SC_oV66 t2, SC_oI68 t2, SC_oP68 t2, SC_oZ68 t2, SC_oY68 t2, SC_oz68 t2, SC_oy68 t2, SC_oV68 t2, SC_oI74 t2, SC_oP74 t2, SC_oZ74 t2, SC_oY74 t2, SC_oz74 t2, SC_oy74 t2, SC_oV74 t2, SC_oIr t2, SC_oPr t2, SC_oZr t2, SC_oYr t2, SC_ozr t2, SC_oyr t2, SC_oVr t2, SC_oIw t2, SC_oPw t2, SC_oZw t2, SC_oYw t2, SC_ozw t2, SC_oyw t2, SC_oVw t2, SC_oIh t2, SC_oPh t2, SC_oZh t2, SC_oYh t2, SC_ozh t2, SC_oyh t2, SC_oVh t2, SC_a67 t2, SC_s67 t2, SC_n67 t2, SC_a69 t2, SC_s69 t2, SC_n69 t2, SC_a70 t2, SC_s70 t2, SC_n70 t2, SC_a71 t2, SC_s71 t2, SC_n71 t2, SC_a73 t2, SC_s73 t2, SC_n73 t2, SC_a75 t2, SC_s75 t2, SC_n75 t2, SC_a76 t2, SC_s76 t2, SC_n76 t2, SC_a77 t2, SC_s77 t2, SC_n77 t2, SC_a78 t2, SC_s78 t2, SC_n78 t2, SC_a79 t2, SC_s79 t2, SC_n79 t2, SC_a80 t2, SC_s80 t2, SC_n80 t2, SC_ai t2, SC_si t2, SC_ni t2, SC_ag t2, SC_sg t2, SC_ng t2, SC_ac0 t2, SC_sc0 t2, SC_nc0 t2, SC_ac1 t2, SC_sc1 t2, SC_nc1 t2, SC_ac2 t2, SC_sc2 t2, SC_nc2 t2, SC_ac3 t2, SC_sc3 t2, SC_nc3 t2, SC_ac4 t2, SC_sc4 t2, SC_nc4 t2, SC_g1 t2, SC_g2 t2, SC_g74 t2, SC_g3 t2, SC_g66 t2, SC_g68 t2, SC_g72 t2, SC_g73 t2, SC_g4 t2, SC_g67 t2, SC_g69 t2, SC_g70 t2, SC_g71 t2, SC_g75 t2, SC_g76 t2, SC_g77 t2, SC_g78 t2, SC_g79 t2, SC_g80 t2, SC_gri t2, SC_grc t2, SC_grc0 t2, SC_grc1 t2, SC_grc2 t2, SC_grc3 t2, SC_grc4 t2, SC_grr t2, SC_grs t2, SC_grg t2, ↓SC_g1 sH2, ↓SC_g2 sH2, ↓SC_g74 sH2, ↓SC_g3 sH2, ↓SC_g66 sH2, ↓SC_g68 sH2, ↓SC_g72 sH2, ↓SC_g73 sH2, ↓SC_g4 sH2, ↓SC_g67 sH2, ↓SC_g69 sH2, ↓SC_g70 sH2, ↓SC_g71 sH2, ↓SC_g75 sH2, ↓SC_g76 sH2, ↓SC_g77 sH2, ↓SC_g78 sH2, ↓SC_g79 sH2, ↓SC_g80 sH2, ↓SC_gri sH2, ↓SC_grc sH2, ↓SC_grc0 sH2, ↓SC_grc1 sH2, ↓SC_grc2 sH2, ↓SC_grc3 sH2, ↓SC_grc4 sH2, ↓SC_grr sH2, ↓SC_grs sH2, ↓SC_grg sH2, ↓SC_b72 sH2, ↓SC_oI0 sH2, ↓SC_oP0 sH2, ↓SC_oZ0 sH2, ↓SC_oY0 sH2, ↓SC_oz0 sH2, ↓SC_oy0 sH2, ↓SC_oV0 sH2, ↓SC_oI3 sH2, ↓SC_oP3 sH2, ↓SC_oZ3 sH2, ↓SC_oY3 sH2, ↓SC_oz3 sH2, ↓SC_oy3 sH2, ↓SC_oV3 sH2, ↓SC_oI66 sH2, ↓SC_oP66 sH2, ↓SC_oZ66 sH2, ↓SC_oY66 sH2, ↓SC_oz66 sH2, ↓SC_oy66 sH2, ↓SC_oV66 sH2, ↓SC_oI68 sH2, ↓SC_oP68 sH2, ↓SC_oZ68 sH2, ↓SC_oY68 sH2, ↓SC_oz68 sH2, ↓SC_oy68 sH2, ↓SC_oV68 sH2, ↓SC_oI74 sH2, ↓SC_oP74 sH2, ↓SC_oZ74 sH2, ↓SC_oY74 sH2, ↓SC_oz74 sH2, ↓SC_oy74 sH2, ↓SC_oV74 sH2, ↓SC_oIr sH2, ↓SC_oPr sH2, ↓SC_oZr sH2, ↓SC_oYr sH2, ↓SC_ozr sH2, ↓SC_oyr sH2, ↓SC_oVr sH2, ↓SC_oIw sH2, ↓SC_oPw sH2, ↓SC_oZw sH2, ↓SC_oYw sH2, ↓SC_ozw sH2, ↓SC_oyw sH2, ↓SC_oVw sH2, ↓SC_oIh sH2, ↓SC_oPh sH2, ↓SC_oZh sH2, ↓SC_oYh sH2, ↓SC_ozh sH2, ↓SC_oyh sH2, ↓SC_oVh sH2, ↓SC_a67 sH2, ↓SC_s67 sH2, ↓SC_n67 sH2, ↓SC_a69 sH2, ↓SC_s69 sH2, ↓SC_n69 sH2, ↓SC_a70 sH2, ↓SC_s70 sH2, ↓SC_n70 sH2, ↓SC_a71 sH2, ↓SC_s71 sH2, ↓SC_n71 sH2, ↓SC_a73 sH2, ↓SC_s73 sH2, ↓SC_n73 sH2, ↓SC_a75 sH2, ↓SC_s75 sH2, ↓SC_n75 sH2, ↓SC_a76 sH2, ↓SC_s76 sH2, ↓SC_n76 sH2, ↓SC_a77 sH2, ↓SC_s77 sH2, ↓SC_n77 sH2, ↓SC_a78 sH2, ↓SC_s78 sH2, ↓SC_n78 sH2, ↓SC_a79 sH2, ↓SC_s79 sH2, ↓SC_n79 sH2, ↓SC_a80 sH2, ↓SC_s80 sH2, ↓SC_n80 sH2, ↓SC_ai sH2, ↓SC_si sH2, ↓SC_ni sH2, ↓SC_ag sH2, ↓SC_sg sH2, ↓SC_ng sH2, ↓SC_ac0 sH2, ↓SC_sc0 sH2, ↓SC_nc0 sH2, ↓SC_ac1 sH2, ↓SC_sc1 sH2, ↓SC_nc1 sH2, ↓SC_ac2 sH2, ↓SC_sc2 sH2, ↓SC_nc2 sH2, ↓SC_ac3 sH2, ↓SC_sc3 sH2, ↓SC_nc3 sH2, ↓SC_ac4 sH2, ↓SC_sc4 sH2, ↓SC_nc4 sH2, SC_b72 sH2, SC_oI0 sH2, SC_oP0 sH2, SC_oZ0 sH2, SC_oY0 sH2, SC_oz0 sH2, SC_oy0 sH2, SC_oV0 sH2, SC_oI3 sH2, SC_oP3 sH2, SC_oZ3 sH2, SC_oY3 sH2, SC_oz3 sH2, SC_oy3 sH2, SC_oV3 sH2, SC_oI66 sH2, SC_oP66 sH2, SC_oZ66 sH2, SC_oY66 sH2, SC_oz66 sH2, SC_oy66 sH2, SC_oV66 sH2, SC_oI68 sH2, SC_oP68 sH2, SC_oZ68 sH2, SC_oY68 sH2, SC_oz68 sH2, SC_oy68 sH2, SC_oV68 sH2, SC_oI74 sH2, SC_oP74 sH2, SC_oZ74 sH2, SC_oY74 sH2, SC_oz74 sH2, SC_oy74 sH2, SC_oV74 sH2, SC_oIr sH2, SC_oPr sH2, SC_oZr sH2, SC_oYr sH2, SC_ozr sH2, SC_oyr sH2, SC_oVr sH2, SC_oIw sH2, SC_oPw sH2, SC_oZw sH2, SC_oYw sH2, SC_ozw sH2, SC_oyw sH2, SC_oVw sH2, SC_oIh sH2, SC_oPh sH2, SC_oZh sH2, SC_oYh sH2, SC_ozh sH2, SC_oyh sH2, SC_oVh sH2, SC_a67 sH2, SC_s67 sH2, SC_n67 sH2, SC_a69 sH2, SC_s69 sH2, SC_n69 sH2, SC_a70 sH2, SC_s70 sH2, SC_n70 sH2, SC_a71 sH2, SC_s71 sH2, SC_n71 sH2, SC_a73 sH2, SC_s73 sH2, SC_n73 sH2, SC_a75 sH2, SC_s75 sH2, SC_n75 sH2, SC_a76 sH2, SC_s76 sH2, SC_n76 sH2, SC_a77 sH2, SC_s77 sH2, SC_n77 sH2, SC_a78 sH2, SC_s78 sH2, SC_n78 sH2, SC_a79 sH2, SC_s79 sH2, SC_n79 sH2, SC_a80 sH2, SC_s80 sH2, SC_n80 sH2, SC_ai sH2, SC_si sH2, SC_ni sH2, SC_ag sH2, SC_sg sH2, SC_ng sH2, SC_ac0 sH2, SC_sc0 sH2, SC_nc0 sH2, SC_ac1 sH2, SC_sc1 sH2, SC_nc1 sH2, SC_ac2 sH2, SC_sc2 sH2, SC_nc2 sH2, SC_ac3 sH2, SC_sc3 sH2, SC_nc3 sH2, SC_ac4 sH2, SC_sc4 sH2, SC_nc4 sH2, SC_g1 sH2, SC_g2 sH2, SC_g74 sH2, SC_g3 sH2, SC_g66 sH2, SC_g68 sH2, SC_g72 sH2, SC_g73 sH2, SC_g4 sH2, SC_g67 sH2, SC_g69 sH2, SC_g70 sH2, SC_g71 sH2, SC_g75 sH2, SC_g76 sH2, SC_g77 sH2, SC_g78 sH2, SC_g79 sH2, SC_g80 sH2, SC_gri sH2, SC_grc sH2, SC_grc0 sH2, SC_grc1 sH2, SC_grc2 sH2, SC_grc3 sH2, SC_grc4 sH2, SC_grr sH2, SC_grs sH2, SC_grg sH2, ↓nn_s, ↓nn_n, ↓bnd_s, nn_s, nn_n, bnd_s, rI, rZ, rV, rR, wA00, n_sub, nI_add, pk_mul, n_m1, n_leI, n_ltI, n_eqI, n_eqm1, n_0m1, n_m10, n_cl, n_div, n_rem, li_0, li_1, li_2, li_3, li_4, li_5, li_6, li_7, li_8, li_9, li_10, li_11, li_12, li_13, li_16, li_20, li_21, li_22, li_36, li_40, li_59, li_60, li_61, li_99, li_100, li_109, li_110, li_119, li_120, li_121, li_512, li_3721, li_1000000, li_1000001, li_1000002, li_1000003, li_1000010, t_lt, t_le, f_lt, f_le, t_eq, f_eq, if_true, if_false, true_and, and_true, or_true, true_or, or_false, false_or, and_false, false_and, not_true_eq_false, not_false_eq_true, Nat.zero_add, Nat.add_zero, Nat.mul_zero]
  · intro a j z1 z2 z3
    rw [a_gi_wi, ug_2 (by omega), ug_2 z3]
    have e1 : a_gi H a j = a_gi (wi hA' G1) a j := t4.gi (by rw [nxw]; omega) (fun z => z)
    rw [e1, a_gi_wi, d2 _ _ (by omega) (by omega), gA _ _ (by omega) (by omega)]
end PENTER
