section PBASE
variable {ρ τ : Type}
theorem wA00 (x : RX ρ) : wA 0 0 x = x := by
  cases x with
  | none => rfl
  | some q => simp [wA]
theorem bnd_s (r : τ) (h : AH) (k : τ → AH → RX ρ) : bnd (some (r, h, 0, 0)) k = k r h := wA00 _
theorem bnd_k (r : τ) (h : AH) (a b : Nat) (k : τ → AH → RX ρ) : bnd (some (r, h, a, b)) k = wA a b (k r h) := rfl
theorem bnd_n (k : τ → AH → RX ρ) : bnd (none : RX τ) k = none := rfl
theorem wA_s (r : ρ) (h : AH) (a b k n : Nat) : wA a b (some (r, h, k, n)) = some (r, h, a + k, b + n) := rfl
def wi (h : AH) (G : Nat → Nat → Int32) : AH := (h.1, h.2.1, h.2.2.1, G, h.2.2.2.2)
theorem wi_eta (h : AH) : wi h (a_gi h) = h := rfl
theorem wi_wi (h : AH) (G G' : Nat → Nat → Int32) : wi (wi h G) G' = wi h G' := rfl
theorem a_nx_wi (h : AH) (G : Nat → Nat → Int32) : a_nx (wi h G) = a_nx h := rfl
theorem a_kd_wi (h : AH) (G : Nat → Nat → Int32) (a : Nat) : a_kd (wi h G) a = a_kd h a := rfl
theorem a_ln_wi (h : AH) (G : Nat → Nat → Int32) (a : Nat) : a_ln (wi h G) a = a_ln h a := rfl
theorem a_gi_wi (h : AH) (G : Nat → Nat → Int32) (a j : Nat) : a_gi (wi h G) a j = G a j := rfl
theorem a_gi_wi1 (h : AH) (G : Nat → Nat → Int32) (a : Nat) : a_gi (wi h G) a = G a := rfl
theorem a_gi_wi0 (h : AH) (G : Nat → Nat → Int32) : a_gi (wi h G) = G := rfl
theorem a_gr_wi (h : AH) (G : Nat → Nat → Int32) (a j : Nat) : a_gr (wi h G) a j = a_gr h a j := rfl
def ug (G : Nat → Nat → Int32) (a j : Nat) (v : Int32) : Nat → Nat → Int32 := fun b k => if b = a ∧ k = j then v else G b k
def us (G : Nat → Nat → Int32) (a : Nat) (f : Nat → Int32) : Nat → Nat → Int32 := fun b k => if b = a then f k else G b k
theorem a_pi_h (h : AH) (a j : Nat) (v : Int32) : a_pi h a j v = wi h (ug (a_gi h) a j v) := by
  show (h.1, h.2.1, h.2.2.1, _, h.2.2.2.2) = (h.1, h.2.1, h.2.2.1, _, h.2.2.2.2)
  congr 4
  funext b k
  simp only [va_up, upd, ug, a_gi]
  by_cases h1 : b = a
  · subst h1; by_cases h2 : k = j <;> simp [h2, upd, a_gi]
  · simp [h1]
theorem a_si_h (h : AH) (a : Nat) (f : Nat → Int32) : a_si h a f = wi h (us (a_gi h) a f) := by
  show (h.1, h.2.1, h.2.2.1, _, h.2.2.2.2) = (h.1, h.2.1, h.2.2.1, _, h.2.2.2.2)
  congr 4
  funext b k
  simp only [va_up, us, a_gi]
  by_cases h1 : b = a
  · subst h1; simp
  · simp [h1]
theorem a_pi_wi (h : AH) (G : Nat → Nat → Int32) (a j : Nat) (v : Int32) : a_pi (wi h G) a j v = wi h (ug G a j v) := a_pi_h _ _ _ _
theorem a_si_wi (h : AH) (G : Nat → Nat → Int32) (a : Nat) (f : Nat → Int32) : a_si (wi h G) a f = wi h (us G a f) := a_si_h _ _ _
variable {G : Nat → Nat → Int32} {a b j k : Nat} {v : Int32} {f : Nat → Int32}
theorem ug_1 (h1 : b = a) (h2 : k = j) : ug G a j v b k = v := by simp [ug, h1, h2]
theorem ug_2 (h1 : b ≠ a) : ug G a j v b k = G b k := by simp [ug, h1]
theorem ug_3 (h1 : k ≠ j) : ug G a j v b k = G b k := by simp [ug, h1]
theorem ug_r : ug G a j v b k = if b = a ∧ k = j then v else G b k := rfl
theorem us_1 (h1 : b = a) : us G a f b k = f k := by simp [us, h1]
theorem us_2 (h1 : b ≠ a) : us G a f b k = G b k := by simp [us, h1]
theorem us_r : us G a f b k = if b = a then f k else G b k := rfl
variable {h : AH} {i n k2 : Nat} {β : Type}
theorem gI_w {q : Int32 → Option β} (hk : a_kd h a = k) : gI (wi h G) (some a) k j q = q (G a j) := if_pos hk
theorem gR_w {q : Option Nat → Option β} (hk : a_kd h a = k) : gR (wi h G) (some a) k j q = q (a_gr h a j) := if_pos hk
theorem pI_w {q : AH → Option β} (hk : a_kd h a = k) : pI (wi h G) (some a) k j v q = q (wi h (ug G a j v)) := (if_pos hk).trans (by rw [a_pi_wi])
theorem pZ_w0 {q : AH → Option β} (hk : a_kd h a = k) : pZ (wi h G) (some a) k j (nI 0) q = q (wi h (ug G a j (nI 0))) := (if_pos hk).trans ((if_pos (.inl rfl)).trans (by rw [a_pi_wi]))
theorem pZ_w1 {q : AH → Option β} (hk : a_kd h a = k) : pZ (wi h G) (some a) k j (nI 1) q = q (wi h (ug G a j (nI 1))) := (if_pos hk).trans ((if_pos (.inr rfl)).trans (by rw [a_pi_wi]))
theorem aI_w {q : Int32 → Option β} (hk : a_kd h a = k) (hi : i < a_ln h a) (hb : i < 2147483648) : aI (wi h G) (some a) k (nI i) q = q (G a i) := by
  have e : (nI i).toNatClampNeg = i := nI_clamp hb
  show (if a_kd (wi h G) a = k ∧ _ ∧ _ then _ else _) = _
  rw [e, if_pos ⟨hk, nI_pos' hb, hi⟩]; rfl
theorem aR_w {q : Option Nat → Option β} (hk : a_kd h a = k) (hi : i < a_ln h a) (hb : i < 2147483648) : aR (wi h G) (some a) k (nI i) q = q (a_gr h a i) := by
  have e : (nI i).toNatClampNeg = i := nI_clamp hb
  show (if a_kd (wi h G) a = k ∧ _ ∧ _ then _ else _) = _
  rw [e, if_pos ⟨hk, nI_pos' hb, hi⟩]; rfl
theorem aL_w {q : Int32 → Option β} (hk : a_kd h a = k) : aL (wi h G) (some a) k q = q (nI (a_ln h a)) := if_pos hk
theorem sI_w {q : AH → Option β} (hk : a_kd h a = k) (hi : i < a_ln h a) (hb : i < 2147483648) : sI (wi h G) (some a) k (nI i) v q = q (wi h (ug G a i v)) := by
  have e : (nI i).toNatClampNeg = i := nI_clamp hb
  show (if a_kd (wi h G) a = k ∧ _ ∧ _ then _ else _) = _
  rw [e, if_pos ⟨hk, nI_pos' hb, hi⟩, a_pi_wi]
theorem cV_w {q : Nat → Option β} (hk : a_kd h a = k) : cV (wi h G) (some a) k q = q a := if_pos hk
theorem nn_s {α β : Type} (a : α) (z : Option β) (q : α → Option β) : nn (some a) z q = q a := rfl
theorem nn_n {α β : Type} (z : Option β) (q : α → Option β) : nn none z q = z := rfl
theorem cpI_w {q : AH → Option β} (h1 : a_kd h a = 12) (h2 : a_kd h b = 12) (h3 : i + n ≤ a_ln h a) (h4 : k2 + n ≤ a_ln h b) (b1 : i < 2147483648) (b2 : k2 < 2147483648) (b3 : n < 2147483648) : cpI (wi h G) (some a) (nI i) (some b) (nI k2) (nI n) q = q (wi h (us G b (va_cpy (G a) (G b) i k2 n))) := by
  have e1 : (nI i).toNatClampNeg = i := nI_clamp b1
  have e2 : (nI k2).toNatClampNeg = k2 := nI_clamp b2
  have e3 : (nI n).toNatClampNeg = n := nI_clamp b3
  show (if a_kd (wi h G) a = 12 ∧ a_kd (wi h G) b = 12 ∧ _ ∧ _ ∧ _ ∧ _ ∧ _ then _ else _) = _
  rw [e1, e2, e3, if_pos ⟨h1, h2, nI_pos' b1, nI_pos' b2, nI_pos' b3, h3, h4⟩, a_si_wi]; rfl
theorem cpI_v {L1 L2 : Nat} {q : AH → Option β} (h1 : a_kd h a = 12) (h2 : a_kd h b = 12) (l1 : a_ln h a = L1) (l2 : a_ln h b = L2) (h3 : i + n ≤ L1) (h4 : k2 + n ≤ L2) (b1 : i < 2147483648) (b2 : k2 < 2147483648) (b3 : n < 2147483648) : cpI (wi h G) (some a) (nI i) (some b) (nI k2) (nI n) q = q (wi h (us G b (va_cpy (G a) (G b) i k2 n))) := cpI_w h1 h2 (by omega) (by omega) b1 b2 b3
end PBASE
section PNUM
variable {a b n : Nat}
theorem b31 : (2147483648 : Nat) = 2 ^ 31 := rfl
theorem nlit (n : Nat) : (OfNat.ofNat n : Int32) = nI n := rfl
theorem n_sub (h : b ≤ a) : nI a - nI b = nI (a - b) := pk_sub h
theorem n_m1 (h : 0 < a) : nI a + (-nI 1) = nI (a - 1) := sb_m1 h
theorem n_div (ha : a < 2147483648) (h0 : 0 < b) (hd : b < 2147483648) : nI a / nI b = nI (a / b) := pk_div ha h0 hd
theorem n_rem (ha : a < 2147483648) (h0 : 0 < b) (hd : b < 2147483648) : nI a - nI a / nI b * nI b = nI (a % b) := pk_rem ha h0 hd
theorem n_leI (ha : a < 2147483648) (hb : b < 2147483648) : (nI a ≤ nI b) = (a ≤ b) := propext (nI_leI ha hb)
theorem n_ltI (ha : a < 2147483648) (hb : b < 2147483648) : (nI a < nI b) = (a < b) := propext (nI_ltI ha hb)
theorem n_eqI (ha : a < 2147483648) (hb : b < 2147483648) : (nI a = nI b) = (a = b) := propext (nI_eq ha hb)
theorem n_eqm1 (ha : a < 2147483648) : (nI a = -nI 1) = False := by
  refine propext ⟨fun h => ?_, False.elim⟩
  have h1 : (nI a).toInt = (-nI 1).toInt := by rw [h]
  rw [nI_toInt ha] at h1
  have h2 : (-nI 1).toInt = -1 := by decide
  omega
theorem n_0m1 : (nI 0 ≤ -nI 1) = False := eq_false (by decide)
theorem n_m10 : (-nI 1 < nI 0) = True := eq_true (by decide)
theorem n_cl (ha : a < 2147483648) : (nI a).toNatClampNeg = a := nI_clamp ha
theorem t_lt (h : a < b) : (a < b) = True := eq_true h
theorem t_le (h : a ≤ b) : (a ≤ b) = True := eq_true h
theorem f_lt (h : b ≤ a) : (a < b) = False := eq_false (Nat.not_lt.mpr h)
theorem f_le (h : b < a) : (a ≤ b) = False := eq_false (Nat.not_le.mpr h)
theorem t_eq (h : a = b) : (a = b) = True := eq_true h
theorem f_eq (h : a ≠ b) : (a = b) = False := eq_false h
theorem n_ix (p : Int32) {n : Nat} (hn : n < 2147483648) : p < nI 0 ∨ (¬ p < nI 0 ∧ nI n ≤ p) ∨ ∃ j : Nat, j < n ∧ p = nI j := by
  by_cases h : p < nI 0
  · exact .inl h
  · rcases pk_ix p hn with h1 | h1 | h1
    · exact .inl h1
    · exact .inr (.inl ⟨h, h1⟩)
    · exact .inr (.inr h1)
theorem i_nle {x y : Int32} (h : x < y) : ¬ y ≤ x := Int32.not_le.mpr h
theorem i_nlt {x y : Int32} (h : y ≤ x) : ¬ x < y := Int32.not_lt.mpr h
end PNUM
section PLIT
theorem li_0 : (0 : Int32) = nI 0 := rfl
theorem li_1 : (1 : Int32) = nI 1 := rfl
theorem li_2 : (2 : Int32) = nI 2 := rfl
theorem li_3 : (3 : Int32) = nI 3 := rfl
theorem li_4 : (4 : Int32) = nI 4 := rfl
theorem li_5 : (5 : Int32) = nI 5 := rfl
theorem li_6 : (6 : Int32) = nI 6 := rfl
theorem li_7 : (7 : Int32) = nI 7 := rfl
theorem li_8 : (8 : Int32) = nI 8 := rfl
theorem li_9 : (9 : Int32) = nI 9 := rfl
theorem li_10 : (10 : Int32) = nI 10 := rfl
theorem li_11 : (11 : Int32) = nI 11 := rfl
theorem li_12 : (12 : Int32) = nI 12 := rfl
theorem li_13 : (13 : Int32) = nI 13 := rfl
theorem li_16 : (16 : Int32) = nI 16 := rfl
theorem li_20 : (20 : Int32) = nI 20 := rfl
theorem li_21 : (21 : Int32) = nI 21 := rfl
theorem li_22 : (22 : Int32) = nI 22 := rfl
theorem li_36 : (36 : Int32) = nI 36 := rfl
theorem li_40 : (40 : Int32) = nI 40 := rfl
theorem li_59 : (59 : Int32) = nI 59 := rfl
theorem li_60 : (60 : Int32) = nI 60 := rfl
theorem li_61 : (61 : Int32) = nI 61 := rfl
theorem li_99 : (99 : Int32) = nI 99 := rfl
theorem li_100 : (100 : Int32) = nI 100 := rfl
theorem li_109 : (109 : Int32) = nI 109 := rfl
theorem li_110 : (110 : Int32) = nI 110 := rfl
theorem li_119 : (119 : Int32) = nI 119 := rfl
theorem li_120 : (120 : Int32) = nI 120 := rfl
theorem li_121 : (121 : Int32) = nI 121 := rfl
theorem li_512 : (512 : Int32) = nI 512 := rfl
theorem li_3721 : (3721 : Int32) = nI 3721 := rfl
theorem li_1000000 : (1000000 : Int32) = nI 1000000 := rfl
theorem li_1000001 : (1000001 : Int32) = nI 1000001 := rfl
theorem li_1000002 : (1000002 : Int32) = nI 1000002 := rfl
theorem li_1000003 : (1000003 : Int32) = nI 1000003 := rfl
theorem li_1000010 : (1000010 : Int32) = nI 1000010 := rfl
end PLIT
section PSHAPE
def fM : List (Nat × Nat × Nat) := [(3, 12, 8), (4, 12, 8), (5, 12, 480), (6, 12, 60), (7, 12, 60), (8, 12, 60), (9, 12, 60), (10, 12, 60), (11, 12, 10), (12, 13, 72), (13, 12, 4320), (14, 12, 4320), (15, 12, 72), (16, 12, 144), (17, 12, 73728), (18, 12, 3721), (20, 12, 61), (21, 12, 61), (22, 12, 61), (23, 12, 61), (25, 12, 2300), (26, 12, 2300), (27, 12, 2300), (28, 12, 2300), (29, 12, 2300), (30, 12, 2300), (31, 12, 4400), (33, 12, 2300), (34, 13, 61), (35, 12, 180), (38, 12, 100), (39, 12, 100), (40, 12, 100), (41, 12, 100), (42, 13, 100), (43, 12, 100), (44, 12, 3600), (45, 13, 3600), (46, 12, 3600), (47, 12, 216000), (48, 12, 216000), (49, 12, 16)]
def SM (m : Nat) (h : AH) : Prop := a_kd h m = 11 ∧ ∀ i q, fM[i]? = some q → a_gr h m q.1 = some (m + 1 + i) ∧ a_kd h (m + 1 + i) = q.2.1 ∧ a_ln h (m + 1 + i) = q.2.2
variable {m c : Nat} {h : AH}
theorem SM_0 (s : SM m h) : a_kd h m = 11 := s.1
theorem SM_r1 (s : SM m h) : a_gr h m 3 = some (m + 1) := (s.2 0 _ rfl).1
theorem SM_k1 (s : SM m h) : a_kd h (m + 1) = 12 := (s.2 0 _ rfl).2.1
theorem SM_l1 (s : SM m h) : a_ln h (m + 1) = 8 := (s.2 0 _ rfl).2.2
theorem SM_r2 (s : SM m h) : a_gr h m 4 = some (m + 2) := (s.2 1 _ rfl).1
theorem SM_k2 (s : SM m h) : a_kd h (m + 2) = 12 := (s.2 1 _ rfl).2.1
theorem SM_l2 (s : SM m h) : a_ln h (m + 2) = 8 := (s.2 1 _ rfl).2.2
theorem SM_r3 (s : SM m h) : a_gr h m 5 = some (m + 3) := (s.2 2 _ rfl).1
theorem SM_k3 (s : SM m h) : a_kd h (m + 3) = 12 := (s.2 2 _ rfl).2.1
theorem SM_l3 (s : SM m h) : a_ln h (m + 3) = 480 := (s.2 2 _ rfl).2.2
theorem SM_r4 (s : SM m h) : a_gr h m 6 = some (m + 4) := (s.2 3 _ rfl).1
theorem SM_k4 (s : SM m h) : a_kd h (m + 4) = 12 := (s.2 3 _ rfl).2.1
theorem SM_l4 (s : SM m h) : a_ln h (m + 4) = 60 := (s.2 3 _ rfl).2.2
theorem SM_r5 (s : SM m h) : a_gr h m 7 = some (m + 5) := (s.2 4 _ rfl).1
theorem SM_k5 (s : SM m h) : a_kd h (m + 5) = 12 := (s.2 4 _ rfl).2.1
theorem SM_l5 (s : SM m h) : a_ln h (m + 5) = 60 := (s.2 4 _ rfl).2.2
theorem SM_r6 (s : SM m h) : a_gr h m 8 = some (m + 6) := (s.2 5 _ rfl).1
theorem SM_k6 (s : SM m h) : a_kd h (m + 6) = 12 := (s.2 5 _ rfl).2.1
theorem SM_l6 (s : SM m h) : a_ln h (m + 6) = 60 := (s.2 5 _ rfl).2.2
theorem SM_r7 (s : SM m h) : a_gr h m 9 = some (m + 7) := (s.2 6 _ rfl).1
theorem SM_k7 (s : SM m h) : a_kd h (m + 7) = 12 := (s.2 6 _ rfl).2.1
theorem SM_l7 (s : SM m h) : a_ln h (m + 7) = 60 := (s.2 6 _ rfl).2.2
theorem SM_r8 (s : SM m h) : a_gr h m 10 = some (m + 8) := (s.2 7 _ rfl).1
theorem SM_k8 (s : SM m h) : a_kd h (m + 8) = 12 := (s.2 7 _ rfl).2.1
theorem SM_l8 (s : SM m h) : a_ln h (m + 8) = 60 := (s.2 7 _ rfl).2.2
theorem SM_r9 (s : SM m h) : a_gr h m 11 = some (m + 9) := (s.2 8 _ rfl).1
theorem SM_k9 (s : SM m h) : a_kd h (m + 9) = 12 := (s.2 8 _ rfl).2.1
theorem SM_l9 (s : SM m h) : a_ln h (m + 9) = 10 := (s.2 8 _ rfl).2.2
theorem SM_r10 (s : SM m h) : a_gr h m 12 = some (m + 10) := (s.2 9 _ rfl).1
theorem SM_k10 (s : SM m h) : a_kd h (m + 10) = 13 := (s.2 9 _ rfl).2.1
theorem SM_l10 (s : SM m h) : a_ln h (m + 10) = 72 := (s.2 9 _ rfl).2.2
theorem SM_r11 (s : SM m h) : a_gr h m 13 = some (m + 11) := (s.2 10 _ rfl).1
theorem SM_k11 (s : SM m h) : a_kd h (m + 11) = 12 := (s.2 10 _ rfl).2.1
theorem SM_l11 (s : SM m h) : a_ln h (m + 11) = 4320 := (s.2 10 _ rfl).2.2
theorem SM_r12 (s : SM m h) : a_gr h m 14 = some (m + 12) := (s.2 11 _ rfl).1
theorem SM_k12 (s : SM m h) : a_kd h (m + 12) = 12 := (s.2 11 _ rfl).2.1
theorem SM_l12 (s : SM m h) : a_ln h (m + 12) = 4320 := (s.2 11 _ rfl).2.2
theorem SM_r13 (s : SM m h) : a_gr h m 15 = some (m + 13) := (s.2 12 _ rfl).1
theorem SM_k13 (s : SM m h) : a_kd h (m + 13) = 12 := (s.2 12 _ rfl).2.1
theorem SM_l13 (s : SM m h) : a_ln h (m + 13) = 72 := (s.2 12 _ rfl).2.2
theorem SM_r14 (s : SM m h) : a_gr h m 16 = some (m + 14) := (s.2 13 _ rfl).1
theorem SM_k14 (s : SM m h) : a_kd h (m + 14) = 12 := (s.2 13 _ rfl).2.1
theorem SM_l14 (s : SM m h) : a_ln h (m + 14) = 144 := (s.2 13 _ rfl).2.2
theorem SM_r15 (s : SM m h) : a_gr h m 17 = some (m + 15) := (s.2 14 _ rfl).1
theorem SM_k15 (s : SM m h) : a_kd h (m + 15) = 12 := (s.2 14 _ rfl).2.1
theorem SM_l15 (s : SM m h) : a_ln h (m + 15) = 73728 := (s.2 14 _ rfl).2.2
theorem SM_r16 (s : SM m h) : a_gr h m 18 = some (m + 16) := (s.2 15 _ rfl).1
theorem SM_k16 (s : SM m h) : a_kd h (m + 16) = 12 := (s.2 15 _ rfl).2.1
theorem SM_l16 (s : SM m h) : a_ln h (m + 16) = 3721 := (s.2 15 _ rfl).2.2
theorem SM_r17 (s : SM m h) : a_gr h m 20 = some (m + 17) := (s.2 16 _ rfl).1
theorem SM_k17 (s : SM m h) : a_kd h (m + 17) = 12 := (s.2 16 _ rfl).2.1
theorem SM_l17 (s : SM m h) : a_ln h (m + 17) = 61 := (s.2 16 _ rfl).2.2
theorem SM_r18 (s : SM m h) : a_gr h m 21 = some (m + 18) := (s.2 17 _ rfl).1
theorem SM_k18 (s : SM m h) : a_kd h (m + 18) = 12 := (s.2 17 _ rfl).2.1
theorem SM_l18 (s : SM m h) : a_ln h (m + 18) = 61 := (s.2 17 _ rfl).2.2
theorem SM_r19 (s : SM m h) : a_gr h m 22 = some (m + 19) := (s.2 18 _ rfl).1
theorem SM_k19 (s : SM m h) : a_kd h (m + 19) = 12 := (s.2 18 _ rfl).2.1
theorem SM_l19 (s : SM m h) : a_ln h (m + 19) = 61 := (s.2 18 _ rfl).2.2
theorem SM_r20 (s : SM m h) : a_gr h m 23 = some (m + 20) := (s.2 19 _ rfl).1
theorem SM_k20 (s : SM m h) : a_kd h (m + 20) = 12 := (s.2 19 _ rfl).2.1
theorem SM_l20 (s : SM m h) : a_ln h (m + 20) = 61 := (s.2 19 _ rfl).2.2
theorem SM_r21 (s : SM m h) : a_gr h m 25 = some (m + 21) := (s.2 20 _ rfl).1
theorem SM_k21 (s : SM m h) : a_kd h (m + 21) = 12 := (s.2 20 _ rfl).2.1
theorem SM_l21 (s : SM m h) : a_ln h (m + 21) = 2300 := (s.2 20 _ rfl).2.2
theorem SM_r22 (s : SM m h) : a_gr h m 26 = some (m + 22) := (s.2 21 _ rfl).1
theorem SM_k22 (s : SM m h) : a_kd h (m + 22) = 12 := (s.2 21 _ rfl).2.1
theorem SM_l22 (s : SM m h) : a_ln h (m + 22) = 2300 := (s.2 21 _ rfl).2.2
theorem SM_r23 (s : SM m h) : a_gr h m 27 = some (m + 23) := (s.2 22 _ rfl).1
theorem SM_k23 (s : SM m h) : a_kd h (m + 23) = 12 := (s.2 22 _ rfl).2.1
theorem SM_l23 (s : SM m h) : a_ln h (m + 23) = 2300 := (s.2 22 _ rfl).2.2
theorem SM_r24 (s : SM m h) : a_gr h m 28 = some (m + 24) := (s.2 23 _ rfl).1
theorem SM_k24 (s : SM m h) : a_kd h (m + 24) = 12 := (s.2 23 _ rfl).2.1
theorem SM_l24 (s : SM m h) : a_ln h (m + 24) = 2300 := (s.2 23 _ rfl).2.2
theorem SM_r25 (s : SM m h) : a_gr h m 29 = some (m + 25) := (s.2 24 _ rfl).1
theorem SM_k25 (s : SM m h) : a_kd h (m + 25) = 12 := (s.2 24 _ rfl).2.1
theorem SM_l25 (s : SM m h) : a_ln h (m + 25) = 2300 := (s.2 24 _ rfl).2.2
theorem SM_r26 (s : SM m h) : a_gr h m 30 = some (m + 26) := (s.2 25 _ rfl).1
theorem SM_k26 (s : SM m h) : a_kd h (m + 26) = 12 := (s.2 25 _ rfl).2.1
theorem SM_l26 (s : SM m h) : a_ln h (m + 26) = 2300 := (s.2 25 _ rfl).2.2
theorem SM_r27 (s : SM m h) : a_gr h m 31 = some (m + 27) := (s.2 26 _ rfl).1
theorem SM_k27 (s : SM m h) : a_kd h (m + 27) = 12 := (s.2 26 _ rfl).2.1
theorem SM_l27 (s : SM m h) : a_ln h (m + 27) = 4400 := (s.2 26 _ rfl).2.2
theorem SM_r28 (s : SM m h) : a_gr h m 33 = some (m + 28) := (s.2 27 _ rfl).1
theorem SM_k28 (s : SM m h) : a_kd h (m + 28) = 12 := (s.2 27 _ rfl).2.1
theorem SM_l28 (s : SM m h) : a_ln h (m + 28) = 2300 := (s.2 27 _ rfl).2.2
theorem SM_r29 (s : SM m h) : a_gr h m 34 = some (m + 29) := (s.2 28 _ rfl).1
theorem SM_k29 (s : SM m h) : a_kd h (m + 29) = 13 := (s.2 28 _ rfl).2.1
theorem SM_l29 (s : SM m h) : a_ln h (m + 29) = 61 := (s.2 28 _ rfl).2.2
theorem SM_r30 (s : SM m h) : a_gr h m 35 = some (m + 30) := (s.2 29 _ rfl).1
theorem SM_k30 (s : SM m h) : a_kd h (m + 30) = 12 := (s.2 29 _ rfl).2.1
theorem SM_l30 (s : SM m h) : a_ln h (m + 30) = 180 := (s.2 29 _ rfl).2.2
theorem SM_r31 (s : SM m h) : a_gr h m 38 = some (m + 31) := (s.2 30 _ rfl).1
theorem SM_k31 (s : SM m h) : a_kd h (m + 31) = 12 := (s.2 30 _ rfl).2.1
theorem SM_l31 (s : SM m h) : a_ln h (m + 31) = 100 := (s.2 30 _ rfl).2.2
theorem SM_r32 (s : SM m h) : a_gr h m 39 = some (m + 32) := (s.2 31 _ rfl).1
theorem SM_k32 (s : SM m h) : a_kd h (m + 32) = 12 := (s.2 31 _ rfl).2.1
theorem SM_l32 (s : SM m h) : a_ln h (m + 32) = 100 := (s.2 31 _ rfl).2.2
theorem SM_r33 (s : SM m h) : a_gr h m 40 = some (m + 33) := (s.2 32 _ rfl).1
theorem SM_k33 (s : SM m h) : a_kd h (m + 33) = 12 := (s.2 32 _ rfl).2.1
theorem SM_l33 (s : SM m h) : a_ln h (m + 33) = 100 := (s.2 32 _ rfl).2.2
theorem SM_r34 (s : SM m h) : a_gr h m 41 = some (m + 34) := (s.2 33 _ rfl).1
theorem SM_k34 (s : SM m h) : a_kd h (m + 34) = 12 := (s.2 33 _ rfl).2.1
theorem SM_l34 (s : SM m h) : a_ln h (m + 34) = 100 := (s.2 33 _ rfl).2.2
theorem SM_r35 (s : SM m h) : a_gr h m 42 = some (m + 35) := (s.2 34 _ rfl).1
theorem SM_k35 (s : SM m h) : a_kd h (m + 35) = 13 := (s.2 34 _ rfl).2.1
theorem SM_l35 (s : SM m h) : a_ln h (m + 35) = 100 := (s.2 34 _ rfl).2.2
theorem SM_r36 (s : SM m h) : a_gr h m 43 = some (m + 36) := (s.2 35 _ rfl).1
theorem SM_k36 (s : SM m h) : a_kd h (m + 36) = 12 := (s.2 35 _ rfl).2.1
theorem SM_l36 (s : SM m h) : a_ln h (m + 36) = 100 := (s.2 35 _ rfl).2.2
theorem SM_r37 (s : SM m h) : a_gr h m 44 = some (m + 37) := (s.2 36 _ rfl).1
theorem SM_k37 (s : SM m h) : a_kd h (m + 37) = 12 := (s.2 36 _ rfl).2.1
theorem SM_l37 (s : SM m h) : a_ln h (m + 37) = 3600 := (s.2 36 _ rfl).2.2
theorem SM_r38 (s : SM m h) : a_gr h m 45 = some (m + 38) := (s.2 37 _ rfl).1
theorem SM_k38 (s : SM m h) : a_kd h (m + 38) = 13 := (s.2 37 _ rfl).2.1
theorem SM_l38 (s : SM m h) : a_ln h (m + 38) = 3600 := (s.2 37 _ rfl).2.2
theorem SM_r39 (s : SM m h) : a_gr h m 46 = some (m + 39) := (s.2 38 _ rfl).1
theorem SM_k39 (s : SM m h) : a_kd h (m + 39) = 12 := (s.2 38 _ rfl).2.1
theorem SM_l39 (s : SM m h) : a_ln h (m + 39) = 3600 := (s.2 38 _ rfl).2.2
theorem SM_r40 (s : SM m h) : a_gr h m 47 = some (m + 40) := (s.2 39 _ rfl).1
theorem SM_k40 (s : SM m h) : a_kd h (m + 40) = 12 := (s.2 39 _ rfl).2.1
theorem SM_l40 (s : SM m h) : a_ln h (m + 40) = 216000 := (s.2 39 _ rfl).2.2
theorem SM_r41 (s : SM m h) : a_gr h m 48 = some (m + 41) := (s.2 40 _ rfl).1
theorem SM_k41 (s : SM m h) : a_kd h (m + 41) = 12 := (s.2 40 _ rfl).2.1
theorem SM_l41 (s : SM m h) : a_ln h (m + 41) = 216000 := (s.2 40 _ rfl).2.2
theorem SM_r42 (s : SM m h) : a_gr h m 49 = some (m + 42) := (s.2 41 _ rfl).1
theorem SM_k42 (s : SM m h) : a_kd h (m + 42) = 12 := (s.2 41 _ rfl).2.1
theorem SM_l42 (s : SM m h) : a_ln h (m + 42) = 16 := (s.2 41 _ rfl).2.2
theorem SM_g1 {β : Type} {G : Nat → Nat → Int32} {q : Option Nat → Option β} (s : SM m h) : gR (wi h G) (some m) 11 3 q = q (some (m + 1)) := (if_pos (SM_0 s)).trans (congrArg q (SM_r1 s))
theorem SM_g2 {β : Type} {G : Nat → Nat → Int32} {q : Option Nat → Option β} (s : SM m h) : gR (wi h G) (some m) 11 4 q = q (some (m + 2)) := (if_pos (SM_0 s)).trans (congrArg q (SM_r2 s))
theorem SM_g3 {β : Type} {G : Nat → Nat → Int32} {q : Option Nat → Option β} (s : SM m h) : gR (wi h G) (some m) 11 5 q = q (some (m + 3)) := (if_pos (SM_0 s)).trans (congrArg q (SM_r3 s))
theorem SM_g4 {β : Type} {G : Nat → Nat → Int32} {q : Option Nat → Option β} (s : SM m h) : gR (wi h G) (some m) 11 6 q = q (some (m + 4)) := (if_pos (SM_0 s)).trans (congrArg q (SM_r4 s))
theorem SM_g5 {β : Type} {G : Nat → Nat → Int32} {q : Option Nat → Option β} (s : SM m h) : gR (wi h G) (some m) 11 7 q = q (some (m + 5)) := (if_pos (SM_0 s)).trans (congrArg q (SM_r5 s))
theorem SM_g6 {β : Type} {G : Nat → Nat → Int32} {q : Option Nat → Option β} (s : SM m h) : gR (wi h G) (some m) 11 8 q = q (some (m + 6)) := (if_pos (SM_0 s)).trans (congrArg q (SM_r6 s))
theorem SM_g7 {β : Type} {G : Nat → Nat → Int32} {q : Option Nat → Option β} (s : SM m h) : gR (wi h G) (some m) 11 9 q = q (some (m + 7)) := (if_pos (SM_0 s)).trans (congrArg q (SM_r7 s))
theorem SM_g8 {β : Type} {G : Nat → Nat → Int32} {q : Option Nat → Option β} (s : SM m h) : gR (wi h G) (some m) 11 10 q = q (some (m + 8)) := (if_pos (SM_0 s)).trans (congrArg q (SM_r8 s))
theorem SM_g9 {β : Type} {G : Nat → Nat → Int32} {q : Option Nat → Option β} (s : SM m h) : gR (wi h G) (some m) 11 11 q = q (some (m + 9)) := (if_pos (SM_0 s)).trans (congrArg q (SM_r9 s))
theorem SM_g10 {β : Type} {G : Nat → Nat → Int32} {q : Option Nat → Option β} (s : SM m h) : gR (wi h G) (some m) 11 12 q = q (some (m + 10)) := (if_pos (SM_0 s)).trans (congrArg q (SM_r10 s))
theorem SM_g11 {β : Type} {G : Nat → Nat → Int32} {q : Option Nat → Option β} (s : SM m h) : gR (wi h G) (some m) 11 13 q = q (some (m + 11)) := (if_pos (SM_0 s)).trans (congrArg q (SM_r11 s))
theorem SM_g12 {β : Type} {G : Nat → Nat → Int32} {q : Option Nat → Option β} (s : SM m h) : gR (wi h G) (some m) 11 14 q = q (some (m + 12)) := (if_pos (SM_0 s)).trans (congrArg q (SM_r12 s))
theorem SM_g13 {β : Type} {G : Nat → Nat → Int32} {q : Option Nat → Option β} (s : SM m h) : gR (wi h G) (some m) 11 15 q = q (some (m + 13)) := (if_pos (SM_0 s)).trans (congrArg q (SM_r13 s))
theorem SM_g14 {β : Type} {G : Nat → Nat → Int32} {q : Option Nat → Option β} (s : SM m h) : gR (wi h G) (some m) 11 16 q = q (some (m + 14)) := (if_pos (SM_0 s)).trans (congrArg q (SM_r14 s))
theorem SM_g15 {β : Type} {G : Nat → Nat → Int32} {q : Option Nat → Option β} (s : SM m h) : gR (wi h G) (some m) 11 17 q = q (some (m + 15)) := (if_pos (SM_0 s)).trans (congrArg q (SM_r15 s))
theorem SM_g16 {β : Type} {G : Nat → Nat → Int32} {q : Option Nat → Option β} (s : SM m h) : gR (wi h G) (some m) 11 18 q = q (some (m + 16)) := (if_pos (SM_0 s)).trans (congrArg q (SM_r16 s))
theorem SM_g17 {β : Type} {G : Nat → Nat → Int32} {q : Option Nat → Option β} (s : SM m h) : gR (wi h G) (some m) 11 20 q = q (some (m + 17)) := (if_pos (SM_0 s)).trans (congrArg q (SM_r17 s))
theorem SM_g18 {β : Type} {G : Nat → Nat → Int32} {q : Option Nat → Option β} (s : SM m h) : gR (wi h G) (some m) 11 21 q = q (some (m + 18)) := (if_pos (SM_0 s)).trans (congrArg q (SM_r18 s))
theorem SM_g19 {β : Type} {G : Nat → Nat → Int32} {q : Option Nat → Option β} (s : SM m h) : gR (wi h G) (some m) 11 22 q = q (some (m + 19)) := (if_pos (SM_0 s)).trans (congrArg q (SM_r19 s))
theorem SM_g20 {β : Type} {G : Nat → Nat → Int32} {q : Option Nat → Option β} (s : SM m h) : gR (wi h G) (some m) 11 23 q = q (some (m + 20)) := (if_pos (SM_0 s)).trans (congrArg q (SM_r20 s))
theorem SM_g21 {β : Type} {G : Nat → Nat → Int32} {q : Option Nat → Option β} (s : SM m h) : gR (wi h G) (some m) 11 25 q = q (some (m + 21)) := (if_pos (SM_0 s)).trans (congrArg q (SM_r21 s))
theorem SM_g22 {β : Type} {G : Nat → Nat → Int32} {q : Option Nat → Option β} (s : SM m h) : gR (wi h G) (some m) 11 26 q = q (some (m + 22)) := (if_pos (SM_0 s)).trans (congrArg q (SM_r22 s))
theorem SM_g23 {β : Type} {G : Nat → Nat → Int32} {q : Option Nat → Option β} (s : SM m h) : gR (wi h G) (some m) 11 27 q = q (some (m + 23)) := (if_pos (SM_0 s)).trans (congrArg q (SM_r23 s))
theorem SM_g24 {β : Type} {G : Nat → Nat → Int32} {q : Option Nat → Option β} (s : SM m h) : gR (wi h G) (some m) 11 28 q = q (some (m + 24)) := (if_pos (SM_0 s)).trans (congrArg q (SM_r24 s))
theorem SM_g25 {β : Type} {G : Nat → Nat → Int32} {q : Option Nat → Option β} (s : SM m h) : gR (wi h G) (some m) 11 29 q = q (some (m + 25)) := (if_pos (SM_0 s)).trans (congrArg q (SM_r25 s))
theorem SM_g26 {β : Type} {G : Nat → Nat → Int32} {q : Option Nat → Option β} (s : SM m h) : gR (wi h G) (some m) 11 30 q = q (some (m + 26)) := (if_pos (SM_0 s)).trans (congrArg q (SM_r26 s))
theorem SM_g27 {β : Type} {G : Nat → Nat → Int32} {q : Option Nat → Option β} (s : SM m h) : gR (wi h G) (some m) 11 31 q = q (some (m + 27)) := (if_pos (SM_0 s)).trans (congrArg q (SM_r27 s))
theorem SM_g28 {β : Type} {G : Nat → Nat → Int32} {q : Option Nat → Option β} (s : SM m h) : gR (wi h G) (some m) 11 33 q = q (some (m + 28)) := (if_pos (SM_0 s)).trans (congrArg q (SM_r28 s))
theorem SM_g29 {β : Type} {G : Nat → Nat → Int32} {q : Option Nat → Option β} (s : SM m h) : gR (wi h G) (some m) 11 34 q = q (some (m + 29)) := (if_pos (SM_0 s)).trans (congrArg q (SM_r29 s))
theorem SM_g30 {β : Type} {G : Nat → Nat → Int32} {q : Option Nat → Option β} (s : SM m h) : gR (wi h G) (some m) 11 35 q = q (some (m + 30)) := (if_pos (SM_0 s)).trans (congrArg q (SM_r30 s))
theorem SM_g31 {β : Type} {G : Nat → Nat → Int32} {q : Option Nat → Option β} (s : SM m h) : gR (wi h G) (some m) 11 38 q = q (some (m + 31)) := (if_pos (SM_0 s)).trans (congrArg q (SM_r31 s))
theorem SM_g32 {β : Type} {G : Nat → Nat → Int32} {q : Option Nat → Option β} (s : SM m h) : gR (wi h G) (some m) 11 39 q = q (some (m + 32)) := (if_pos (SM_0 s)).trans (congrArg q (SM_r32 s))
theorem SM_g33 {β : Type} {G : Nat → Nat → Int32} {q : Option Nat → Option β} (s : SM m h) : gR (wi h G) (some m) 11 40 q = q (some (m + 33)) := (if_pos (SM_0 s)).trans (congrArg q (SM_r33 s))
theorem SM_g34 {β : Type} {G : Nat → Nat → Int32} {q : Option Nat → Option β} (s : SM m h) : gR (wi h G) (some m) 11 41 q = q (some (m + 34)) := (if_pos (SM_0 s)).trans (congrArg q (SM_r34 s))
theorem SM_g35 {β : Type} {G : Nat → Nat → Int32} {q : Option Nat → Option β} (s : SM m h) : gR (wi h G) (some m) 11 42 q = q (some (m + 35)) := (if_pos (SM_0 s)).trans (congrArg q (SM_r35 s))
theorem SM_g36 {β : Type} {G : Nat → Nat → Int32} {q : Option Nat → Option β} (s : SM m h) : gR (wi h G) (some m) 11 43 q = q (some (m + 36)) := (if_pos (SM_0 s)).trans (congrArg q (SM_r36 s))
theorem SM_g37 {β : Type} {G : Nat → Nat → Int32} {q : Option Nat → Option β} (s : SM m h) : gR (wi h G) (some m) 11 44 q = q (some (m + 37)) := (if_pos (SM_0 s)).trans (congrArg q (SM_r37 s))
theorem SM_g38 {β : Type} {G : Nat → Nat → Int32} {q : Option Nat → Option β} (s : SM m h) : gR (wi h G) (some m) 11 45 q = q (some (m + 38)) := (if_pos (SM_0 s)).trans (congrArg q (SM_r38 s))
theorem SM_g39 {β : Type} {G : Nat → Nat → Int32} {q : Option Nat → Option β} (s : SM m h) : gR (wi h G) (some m) 11 46 q = q (some (m + 39)) := (if_pos (SM_0 s)).trans (congrArg q (SM_r39 s))
theorem SM_g40 {β : Type} {G : Nat → Nat → Int32} {q : Option Nat → Option β} (s : SM m h) : gR (wi h G) (some m) 11 47 q = q (some (m + 40)) := (if_pos (SM_0 s)).trans (congrArg q (SM_r40 s))
theorem SM_g41 {β : Type} {G : Nat → Nat → Int32} {q : Option Nat → Option β} (s : SM m h) : gR (wi h G) (some m) 11 48 q = q (some (m + 41)) := (if_pos (SM_0 s)).trans (congrArg q (SM_r41 s))
theorem SM_g42 {β : Type} {G : Nat → Nat → Int32} {q : Option Nat → Option β} (s : SM m h) : gR (wi h G) (some m) 11 49 q = q (some (m + 42)) := (if_pos (SM_0 s)).trans (congrArg q (SM_r42 s))
theorem SM_oI {β : Type} {G : Nat → Nat → Int32} {j : Nat} (s : SM m h) : ∀ {q : Int32 → Option β}, gI (wi h G) (some m) 11 j q = q (G m j) := gI_w (SM_0 s)
theorem SM_oP {β : Type} {G : Nat → Nat → Int32} {j : Nat} {v : Int32} (s : SM m h) : ∀ {q : AH → Option β}, pI (wi h G) (some m) 11 j v q = q (wi h (ug G m j v)) := pI_w (SM_0 s)
theorem SM_oV {β : Type} {G : Nat → Nat → Int32} (s : SM m h) : ∀ {q : Nat → Option β}, cV (wi h G) (some m) 11 q = q m := cV_w (SM_0 s)
theorem SM_a1 {β : Type} {G : Nat → Nat → Int32} {j : Nat} (s : SM m h) : ∀ {q : Int32 → Option β}, j < 8 → aI (wi h G) (some (m + 1)) 12 (nI j) q = q (G (m + 1) j) := fun hj => aI_w (SM_k1 s) (by rw [SM_l1 s]; exact hj) (by omega)
theorem SM_s1 {β : Type} {G : Nat → Nat → Int32} {j : Nat} {v : Int32} (s : SM m h) : ∀ {q : AH → Option β}, j < 8 → sI (wi h G) (some (m + 1)) 12 (nI j) v q = q (wi h (ug G (m + 1) j v)) := fun hj => sI_w (SM_k1 s) (by rw [SM_l1 s]; exact hj) (by omega)
theorem SM_a2 {β : Type} {G : Nat → Nat → Int32} {j : Nat} (s : SM m h) : ∀ {q : Int32 → Option β}, j < 8 → aI (wi h G) (some (m + 2)) 12 (nI j) q = q (G (m + 2) j) := fun hj => aI_w (SM_k2 s) (by rw [SM_l2 s]; exact hj) (by omega)
theorem SM_s2 {β : Type} {G : Nat → Nat → Int32} {j : Nat} {v : Int32} (s : SM m h) : ∀ {q : AH → Option β}, j < 8 → sI (wi h G) (some (m + 2)) 12 (nI j) v q = q (wi h (ug G (m + 2) j v)) := fun hj => sI_w (SM_k2 s) (by rw [SM_l2 s]; exact hj) (by omega)
theorem SM_a3 {β : Type} {G : Nat → Nat → Int32} {j : Nat} (s : SM m h) : ∀ {q : Int32 → Option β}, j < 480 → aI (wi h G) (some (m + 3)) 12 (nI j) q = q (G (m + 3) j) := fun hj => aI_w (SM_k3 s) (by rw [SM_l3 s]; exact hj) (by omega)
theorem SM_s3 {β : Type} {G : Nat → Nat → Int32} {j : Nat} {v : Int32} (s : SM m h) : ∀ {q : AH → Option β}, j < 480 → sI (wi h G) (some (m + 3)) 12 (nI j) v q = q (wi h (ug G (m + 3) j v)) := fun hj => sI_w (SM_k3 s) (by rw [SM_l3 s]; exact hj) (by omega)
theorem SM_a4 {β : Type} {G : Nat → Nat → Int32} {j : Nat} (s : SM m h) : ∀ {q : Int32 → Option β}, j < 60 → aI (wi h G) (some (m + 4)) 12 (nI j) q = q (G (m + 4) j) := fun hj => aI_w (SM_k4 s) (by rw [SM_l4 s]; exact hj) (by omega)
theorem SM_s4 {β : Type} {G : Nat → Nat → Int32} {j : Nat} {v : Int32} (s : SM m h) : ∀ {q : AH → Option β}, j < 60 → sI (wi h G) (some (m + 4)) 12 (nI j) v q = q (wi h (ug G (m + 4) j v)) := fun hj => sI_w (SM_k4 s) (by rw [SM_l4 s]; exact hj) (by omega)
theorem SM_a5 {β : Type} {G : Nat → Nat → Int32} {j : Nat} (s : SM m h) : ∀ {q : Int32 → Option β}, j < 60 → aI (wi h G) (some (m + 5)) 12 (nI j) q = q (G (m + 5) j) := fun hj => aI_w (SM_k5 s) (by rw [SM_l5 s]; exact hj) (by omega)
theorem SM_s5 {β : Type} {G : Nat → Nat → Int32} {j : Nat} {v : Int32} (s : SM m h) : ∀ {q : AH → Option β}, j < 60 → sI (wi h G) (some (m + 5)) 12 (nI j) v q = q (wi h (ug G (m + 5) j v)) := fun hj => sI_w (SM_k5 s) (by rw [SM_l5 s]; exact hj) (by omega)
theorem SM_a6 {β : Type} {G : Nat → Nat → Int32} {j : Nat} (s : SM m h) : ∀ {q : Int32 → Option β}, j < 60 → aI (wi h G) (some (m + 6)) 12 (nI j) q = q (G (m + 6) j) := fun hj => aI_w (SM_k6 s) (by rw [SM_l6 s]; exact hj) (by omega)
theorem SM_s6 {β : Type} {G : Nat → Nat → Int32} {j : Nat} {v : Int32} (s : SM m h) : ∀ {q : AH → Option β}, j < 60 → sI (wi h G) (some (m + 6)) 12 (nI j) v q = q (wi h (ug G (m + 6) j v)) := fun hj => sI_w (SM_k6 s) (by rw [SM_l6 s]; exact hj) (by omega)
theorem SM_a7 {β : Type} {G : Nat → Nat → Int32} {j : Nat} (s : SM m h) : ∀ {q : Int32 → Option β}, j < 60 → aI (wi h G) (some (m + 7)) 12 (nI j) q = q (G (m + 7) j) := fun hj => aI_w (SM_k7 s) (by rw [SM_l7 s]; exact hj) (by omega)
theorem SM_s7 {β : Type} {G : Nat → Nat → Int32} {j : Nat} {v : Int32} (s : SM m h) : ∀ {q : AH → Option β}, j < 60 → sI (wi h G) (some (m + 7)) 12 (nI j) v q = q (wi h (ug G (m + 7) j v)) := fun hj => sI_w (SM_k7 s) (by rw [SM_l7 s]; exact hj) (by omega)
theorem SM_a8 {β : Type} {G : Nat → Nat → Int32} {j : Nat} (s : SM m h) : ∀ {q : Int32 → Option β}, j < 60 → aI (wi h G) (some (m + 8)) 12 (nI j) q = q (G (m + 8) j) := fun hj => aI_w (SM_k8 s) (by rw [SM_l8 s]; exact hj) (by omega)
theorem SM_s8 {β : Type} {G : Nat → Nat → Int32} {j : Nat} {v : Int32} (s : SM m h) : ∀ {q : AH → Option β}, j < 60 → sI (wi h G) (some (m + 8)) 12 (nI j) v q = q (wi h (ug G (m + 8) j v)) := fun hj => sI_w (SM_k8 s) (by rw [SM_l8 s]; exact hj) (by omega)
theorem SM_a9 {β : Type} {G : Nat → Nat → Int32} {j : Nat} (s : SM m h) : ∀ {q : Int32 → Option β}, j < 10 → aI (wi h G) (some (m + 9)) 12 (nI j) q = q (G (m + 9) j) := fun hj => aI_w (SM_k9 s) (by rw [SM_l9 s]; exact hj) (by omega)
theorem SM_s9 {β : Type} {G : Nat → Nat → Int32} {j : Nat} {v : Int32} (s : SM m h) : ∀ {q : AH → Option β}, j < 10 → sI (wi h G) (some (m + 9)) 12 (nI j) v q = q (wi h (ug G (m + 9) j v)) := fun hj => sI_w (SM_k9 s) (by rw [SM_l9 s]; exact hj) (by omega)
theorem SM_a10 {β : Type} {G : Nat → Nat → Int32} {j : Nat} (s : SM m h) : ∀ {q : Int32 → Option β}, j < 72 → aI (wi h G) (some (m + 10)) 13 (nI j) q = q (G (m + 10) j) := fun hj => aI_w (SM_k10 s) (by rw [SM_l10 s]; exact hj) (by omega)
theorem SM_s10 {β : Type} {G : Nat → Nat → Int32} {j : Nat} {v : Int32} (s : SM m h) : ∀ {q : AH → Option β}, j < 72 → sI (wi h G) (some (m + 10)) 13 (nI j) v q = q (wi h (ug G (m + 10) j v)) := fun hj => sI_w (SM_k10 s) (by rw [SM_l10 s]; exact hj) (by omega)
theorem SM_a11 {β : Type} {G : Nat → Nat → Int32} {j : Nat} (s : SM m h) : ∀ {q : Int32 → Option β}, j < 4320 → aI (wi h G) (some (m + 11)) 12 (nI j) q = q (G (m + 11) j) := fun hj => aI_w (SM_k11 s) (by rw [SM_l11 s]; exact hj) (by omega)
theorem SM_s11 {β : Type} {G : Nat → Nat → Int32} {j : Nat} {v : Int32} (s : SM m h) : ∀ {q : AH → Option β}, j < 4320 → sI (wi h G) (some (m + 11)) 12 (nI j) v q = q (wi h (ug G (m + 11) j v)) := fun hj => sI_w (SM_k11 s) (by rw [SM_l11 s]; exact hj) (by omega)
theorem SM_a12 {β : Type} {G : Nat → Nat → Int32} {j : Nat} (s : SM m h) : ∀ {q : Int32 → Option β}, j < 4320 → aI (wi h G) (some (m + 12)) 12 (nI j) q = q (G (m + 12) j) := fun hj => aI_w (SM_k12 s) (by rw [SM_l12 s]; exact hj) (by omega)
theorem SM_s12 {β : Type} {G : Nat → Nat → Int32} {j : Nat} {v : Int32} (s : SM m h) : ∀ {q : AH → Option β}, j < 4320 → sI (wi h G) (some (m + 12)) 12 (nI j) v q = q (wi h (ug G (m + 12) j v)) := fun hj => sI_w (SM_k12 s) (by rw [SM_l12 s]; exact hj) (by omega)
theorem SM_a13 {β : Type} {G : Nat → Nat → Int32} {j : Nat} (s : SM m h) : ∀ {q : Int32 → Option β}, j < 72 → aI (wi h G) (some (m + 13)) 12 (nI j) q = q (G (m + 13) j) := fun hj => aI_w (SM_k13 s) (by rw [SM_l13 s]; exact hj) (by omega)
theorem SM_s13 {β : Type} {G : Nat → Nat → Int32} {j : Nat} {v : Int32} (s : SM m h) : ∀ {q : AH → Option β}, j < 72 → sI (wi h G) (some (m + 13)) 12 (nI j) v q = q (wi h (ug G (m + 13) j v)) := fun hj => sI_w (SM_k13 s) (by rw [SM_l13 s]; exact hj) (by omega)
theorem SM_a14 {β : Type} {G : Nat → Nat → Int32} {j : Nat} (s : SM m h) : ∀ {q : Int32 → Option β}, j < 144 → aI (wi h G) (some (m + 14)) 12 (nI j) q = q (G (m + 14) j) := fun hj => aI_w (SM_k14 s) (by rw [SM_l14 s]; exact hj) (by omega)
theorem SM_s14 {β : Type} {G : Nat → Nat → Int32} {j : Nat} {v : Int32} (s : SM m h) : ∀ {q : AH → Option β}, j < 144 → sI (wi h G) (some (m + 14)) 12 (nI j) v q = q (wi h (ug G (m + 14) j v)) := fun hj => sI_w (SM_k14 s) (by rw [SM_l14 s]; exact hj) (by omega)
theorem SM_a15 {β : Type} {G : Nat → Nat → Int32} {j : Nat} (s : SM m h) : ∀ {q : Int32 → Option β}, j < 73728 → aI (wi h G) (some (m + 15)) 12 (nI j) q = q (G (m + 15) j) := fun hj => aI_w (SM_k15 s) (by rw [SM_l15 s]; exact hj) (by omega)
theorem SM_s15 {β : Type} {G : Nat → Nat → Int32} {j : Nat} {v : Int32} (s : SM m h) : ∀ {q : AH → Option β}, j < 73728 → sI (wi h G) (some (m + 15)) 12 (nI j) v q = q (wi h (ug G (m + 15) j v)) := fun hj => sI_w (SM_k15 s) (by rw [SM_l15 s]; exact hj) (by omega)
theorem SM_a16 {β : Type} {G : Nat → Nat → Int32} {j : Nat} (s : SM m h) : ∀ {q : Int32 → Option β}, j < 3721 → aI (wi h G) (some (m + 16)) 12 (nI j) q = q (G (m + 16) j) := fun hj => aI_w (SM_k16 s) (by rw [SM_l16 s]; exact hj) (by omega)
theorem SM_s16 {β : Type} {G : Nat → Nat → Int32} {j : Nat} {v : Int32} (s : SM m h) : ∀ {q : AH → Option β}, j < 3721 → sI (wi h G) (some (m + 16)) 12 (nI j) v q = q (wi h (ug G (m + 16) j v)) := fun hj => sI_w (SM_k16 s) (by rw [SM_l16 s]; exact hj) (by omega)
theorem SM_a17 {β : Type} {G : Nat → Nat → Int32} {j : Nat} (s : SM m h) : ∀ {q : Int32 → Option β}, j < 61 → aI (wi h G) (some (m + 17)) 12 (nI j) q = q (G (m + 17) j) := fun hj => aI_w (SM_k17 s) (by rw [SM_l17 s]; exact hj) (by omega)
theorem SM_s17 {β : Type} {G : Nat → Nat → Int32} {j : Nat} {v : Int32} (s : SM m h) : ∀ {q : AH → Option β}, j < 61 → sI (wi h G) (some (m + 17)) 12 (nI j) v q = q (wi h (ug G (m + 17) j v)) := fun hj => sI_w (SM_k17 s) (by rw [SM_l17 s]; exact hj) (by omega)
theorem SM_a18 {β : Type} {G : Nat → Nat → Int32} {j : Nat} (s : SM m h) : ∀ {q : Int32 → Option β}, j < 61 → aI (wi h G) (some (m + 18)) 12 (nI j) q = q (G (m + 18) j) := fun hj => aI_w (SM_k18 s) (by rw [SM_l18 s]; exact hj) (by omega)
theorem SM_s18 {β : Type} {G : Nat → Nat → Int32} {j : Nat} {v : Int32} (s : SM m h) : ∀ {q : AH → Option β}, j < 61 → sI (wi h G) (some (m + 18)) 12 (nI j) v q = q (wi h (ug G (m + 18) j v)) := fun hj => sI_w (SM_k18 s) (by rw [SM_l18 s]; exact hj) (by omega)
theorem SM_a19 {β : Type} {G : Nat → Nat → Int32} {j : Nat} (s : SM m h) : ∀ {q : Int32 → Option β}, j < 61 → aI (wi h G) (some (m + 19)) 12 (nI j) q = q (G (m + 19) j) := fun hj => aI_w (SM_k19 s) (by rw [SM_l19 s]; exact hj) (by omega)
theorem SM_s19 {β : Type} {G : Nat → Nat → Int32} {j : Nat} {v : Int32} (s : SM m h) : ∀ {q : AH → Option β}, j < 61 → sI (wi h G) (some (m + 19)) 12 (nI j) v q = q (wi h (ug G (m + 19) j v)) := fun hj => sI_w (SM_k19 s) (by rw [SM_l19 s]; exact hj) (by omega)
theorem SM_a20 {β : Type} {G : Nat → Nat → Int32} {j : Nat} (s : SM m h) : ∀ {q : Int32 → Option β}, j < 61 → aI (wi h G) (some (m + 20)) 12 (nI j) q = q (G (m + 20) j) := fun hj => aI_w (SM_k20 s) (by rw [SM_l20 s]; exact hj) (by omega)
theorem SM_s20 {β : Type} {G : Nat → Nat → Int32} {j : Nat} {v : Int32} (s : SM m h) : ∀ {q : AH → Option β}, j < 61 → sI (wi h G) (some (m + 20)) 12 (nI j) v q = q (wi h (ug G (m + 20) j v)) := fun hj => sI_w (SM_k20 s) (by rw [SM_l20 s]; exact hj) (by omega)
theorem SM_a21 {β : Type} {G : Nat → Nat → Int32} {j : Nat} (s : SM m h) : ∀ {q : Int32 → Option β}, j < 2300 → aI (wi h G) (some (m + 21)) 12 (nI j) q = q (G (m + 21) j) := fun hj => aI_w (SM_k21 s) (by rw [SM_l21 s]; exact hj) (by omega)
theorem SM_s21 {β : Type} {G : Nat → Nat → Int32} {j : Nat} {v : Int32} (s : SM m h) : ∀ {q : AH → Option β}, j < 2300 → sI (wi h G) (some (m + 21)) 12 (nI j) v q = q (wi h (ug G (m + 21) j v)) := fun hj => sI_w (SM_k21 s) (by rw [SM_l21 s]; exact hj) (by omega)
theorem SM_a22 {β : Type} {G : Nat → Nat → Int32} {j : Nat} (s : SM m h) : ∀ {q : Int32 → Option β}, j < 2300 → aI (wi h G) (some (m + 22)) 12 (nI j) q = q (G (m + 22) j) := fun hj => aI_w (SM_k22 s) (by rw [SM_l22 s]; exact hj) (by omega)
theorem SM_s22 {β : Type} {G : Nat → Nat → Int32} {j : Nat} {v : Int32} (s : SM m h) : ∀ {q : AH → Option β}, j < 2300 → sI (wi h G) (some (m + 22)) 12 (nI j) v q = q (wi h (ug G (m + 22) j v)) := fun hj => sI_w (SM_k22 s) (by rw [SM_l22 s]; exact hj) (by omega)
theorem SM_a23 {β : Type} {G : Nat → Nat → Int32} {j : Nat} (s : SM m h) : ∀ {q : Int32 → Option β}, j < 2300 → aI (wi h G) (some (m + 23)) 12 (nI j) q = q (G (m + 23) j) := fun hj => aI_w (SM_k23 s) (by rw [SM_l23 s]; exact hj) (by omega)
theorem SM_s23 {β : Type} {G : Nat → Nat → Int32} {j : Nat} {v : Int32} (s : SM m h) : ∀ {q : AH → Option β}, j < 2300 → sI (wi h G) (some (m + 23)) 12 (nI j) v q = q (wi h (ug G (m + 23) j v)) := fun hj => sI_w (SM_k23 s) (by rw [SM_l23 s]; exact hj) (by omega)
theorem SM_a24 {β : Type} {G : Nat → Nat → Int32} {j : Nat} (s : SM m h) : ∀ {q : Int32 → Option β}, j < 2300 → aI (wi h G) (some (m + 24)) 12 (nI j) q = q (G (m + 24) j) := fun hj => aI_w (SM_k24 s) (by rw [SM_l24 s]; exact hj) (by omega)
theorem SM_s24 {β : Type} {G : Nat → Nat → Int32} {j : Nat} {v : Int32} (s : SM m h) : ∀ {q : AH → Option β}, j < 2300 → sI (wi h G) (some (m + 24)) 12 (nI j) v q = q (wi h (ug G (m + 24) j v)) := fun hj => sI_w (SM_k24 s) (by rw [SM_l24 s]; exact hj) (by omega)
theorem SM_a25 {β : Type} {G : Nat → Nat → Int32} {j : Nat} (s : SM m h) : ∀ {q : Int32 → Option β}, j < 2300 → aI (wi h G) (some (m + 25)) 12 (nI j) q = q (G (m + 25) j) := fun hj => aI_w (SM_k25 s) (by rw [SM_l25 s]; exact hj) (by omega)
theorem SM_s25 {β : Type} {G : Nat → Nat → Int32} {j : Nat} {v : Int32} (s : SM m h) : ∀ {q : AH → Option β}, j < 2300 → sI (wi h G) (some (m + 25)) 12 (nI j) v q = q (wi h (ug G (m + 25) j v)) := fun hj => sI_w (SM_k25 s) (by rw [SM_l25 s]; exact hj) (by omega)
theorem SM_a26 {β : Type} {G : Nat → Nat → Int32} {j : Nat} (s : SM m h) : ∀ {q : Int32 → Option β}, j < 2300 → aI (wi h G) (some (m + 26)) 12 (nI j) q = q (G (m + 26) j) := fun hj => aI_w (SM_k26 s) (by rw [SM_l26 s]; exact hj) (by omega)
theorem SM_s26 {β : Type} {G : Nat → Nat → Int32} {j : Nat} {v : Int32} (s : SM m h) : ∀ {q : AH → Option β}, j < 2300 → sI (wi h G) (some (m + 26)) 12 (nI j) v q = q (wi h (ug G (m + 26) j v)) := fun hj => sI_w (SM_k26 s) (by rw [SM_l26 s]; exact hj) (by omega)
theorem SM_a27 {β : Type} {G : Nat → Nat → Int32} {j : Nat} (s : SM m h) : ∀ {q : Int32 → Option β}, j < 4400 → aI (wi h G) (some (m + 27)) 12 (nI j) q = q (G (m + 27) j) := fun hj => aI_w (SM_k27 s) (by rw [SM_l27 s]; exact hj) (by omega)
theorem SM_s27 {β : Type} {G : Nat → Nat → Int32} {j : Nat} {v : Int32} (s : SM m h) : ∀ {q : AH → Option β}, j < 4400 → sI (wi h G) (some (m + 27)) 12 (nI j) v q = q (wi h (ug G (m + 27) j v)) := fun hj => sI_w (SM_k27 s) (by rw [SM_l27 s]; exact hj) (by omega)
theorem SM_a28 {β : Type} {G : Nat → Nat → Int32} {j : Nat} (s : SM m h) : ∀ {q : Int32 → Option β}, j < 2300 → aI (wi h G) (some (m + 28)) 12 (nI j) q = q (G (m + 28) j) := fun hj => aI_w (SM_k28 s) (by rw [SM_l28 s]; exact hj) (by omega)
theorem SM_s28 {β : Type} {G : Nat → Nat → Int32} {j : Nat} {v : Int32} (s : SM m h) : ∀ {q : AH → Option β}, j < 2300 → sI (wi h G) (some (m + 28)) 12 (nI j) v q = q (wi h (ug G (m + 28) j v)) := fun hj => sI_w (SM_k28 s) (by rw [SM_l28 s]; exact hj) (by omega)
theorem SM_a29 {β : Type} {G : Nat → Nat → Int32} {j : Nat} (s : SM m h) : ∀ {q : Int32 → Option β}, j < 61 → aI (wi h G) (some (m + 29)) 13 (nI j) q = q (G (m + 29) j) := fun hj => aI_w (SM_k29 s) (by rw [SM_l29 s]; exact hj) (by omega)
theorem SM_s29 {β : Type} {G : Nat → Nat → Int32} {j : Nat} {v : Int32} (s : SM m h) : ∀ {q : AH → Option β}, j < 61 → sI (wi h G) (some (m + 29)) 13 (nI j) v q = q (wi h (ug G (m + 29) j v)) := fun hj => sI_w (SM_k29 s) (by rw [SM_l29 s]; exact hj) (by omega)
theorem SM_a30 {β : Type} {G : Nat → Nat → Int32} {j : Nat} (s : SM m h) : ∀ {q : Int32 → Option β}, j < 180 → aI (wi h G) (some (m + 30)) 12 (nI j) q = q (G (m + 30) j) := fun hj => aI_w (SM_k30 s) (by rw [SM_l30 s]; exact hj) (by omega)
theorem SM_s30 {β : Type} {G : Nat → Nat → Int32} {j : Nat} {v : Int32} (s : SM m h) : ∀ {q : AH → Option β}, j < 180 → sI (wi h G) (some (m + 30)) 12 (nI j) v q = q (wi h (ug G (m + 30) j v)) := fun hj => sI_w (SM_k30 s) (by rw [SM_l30 s]; exact hj) (by omega)
theorem SM_a31 {β : Type} {G : Nat → Nat → Int32} {j : Nat} (s : SM m h) : ∀ {q : Int32 → Option β}, j < 100 → aI (wi h G) (some (m + 31)) 12 (nI j) q = q (G (m + 31) j) := fun hj => aI_w (SM_k31 s) (by rw [SM_l31 s]; exact hj) (by omega)
theorem SM_s31 {β : Type} {G : Nat → Nat → Int32} {j : Nat} {v : Int32} (s : SM m h) : ∀ {q : AH → Option β}, j < 100 → sI (wi h G) (some (m + 31)) 12 (nI j) v q = q (wi h (ug G (m + 31) j v)) := fun hj => sI_w (SM_k31 s) (by rw [SM_l31 s]; exact hj) (by omega)
theorem SM_a32 {β : Type} {G : Nat → Nat → Int32} {j : Nat} (s : SM m h) : ∀ {q : Int32 → Option β}, j < 100 → aI (wi h G) (some (m + 32)) 12 (nI j) q = q (G (m + 32) j) := fun hj => aI_w (SM_k32 s) (by rw [SM_l32 s]; exact hj) (by omega)
theorem SM_s32 {β : Type} {G : Nat → Nat → Int32} {j : Nat} {v : Int32} (s : SM m h) : ∀ {q : AH → Option β}, j < 100 → sI (wi h G) (some (m + 32)) 12 (nI j) v q = q (wi h (ug G (m + 32) j v)) := fun hj => sI_w (SM_k32 s) (by rw [SM_l32 s]; exact hj) (by omega)
theorem SM_a33 {β : Type} {G : Nat → Nat → Int32} {j : Nat} (s : SM m h) : ∀ {q : Int32 → Option β}, j < 100 → aI (wi h G) (some (m + 33)) 12 (nI j) q = q (G (m + 33) j) := fun hj => aI_w (SM_k33 s) (by rw [SM_l33 s]; exact hj) (by omega)
theorem SM_s33 {β : Type} {G : Nat → Nat → Int32} {j : Nat} {v : Int32} (s : SM m h) : ∀ {q : AH → Option β}, j < 100 → sI (wi h G) (some (m + 33)) 12 (nI j) v q = q (wi h (ug G (m + 33) j v)) := fun hj => sI_w (SM_k33 s) (by rw [SM_l33 s]; exact hj) (by omega)
theorem SM_a34 {β : Type} {G : Nat → Nat → Int32} {j : Nat} (s : SM m h) : ∀ {q : Int32 → Option β}, j < 100 → aI (wi h G) (some (m + 34)) 12 (nI j) q = q (G (m + 34) j) := fun hj => aI_w (SM_k34 s) (by rw [SM_l34 s]; exact hj) (by omega)
theorem SM_s34 {β : Type} {G : Nat → Nat → Int32} {j : Nat} {v : Int32} (s : SM m h) : ∀ {q : AH → Option β}, j < 100 → sI (wi h G) (some (m + 34)) 12 (nI j) v q = q (wi h (ug G (m + 34) j v)) := fun hj => sI_w (SM_k34 s) (by rw [SM_l34 s]; exact hj) (by omega)
theorem SM_a35 {β : Type} {G : Nat → Nat → Int32} {j : Nat} (s : SM m h) : ∀ {q : Int32 → Option β}, j < 100 → aI (wi h G) (some (m + 35)) 13 (nI j) q = q (G (m + 35) j) := fun hj => aI_w (SM_k35 s) (by rw [SM_l35 s]; exact hj) (by omega)
theorem SM_s35 {β : Type} {G : Nat → Nat → Int32} {j : Nat} {v : Int32} (s : SM m h) : ∀ {q : AH → Option β}, j < 100 → sI (wi h G) (some (m + 35)) 13 (nI j) v q = q (wi h (ug G (m + 35) j v)) := fun hj => sI_w (SM_k35 s) (by rw [SM_l35 s]; exact hj) (by omega)
theorem SM_a36 {β : Type} {G : Nat → Nat → Int32} {j : Nat} (s : SM m h) : ∀ {q : Int32 → Option β}, j < 100 → aI (wi h G) (some (m + 36)) 12 (nI j) q = q (G (m + 36) j) := fun hj => aI_w (SM_k36 s) (by rw [SM_l36 s]; exact hj) (by omega)
theorem SM_s36 {β : Type} {G : Nat → Nat → Int32} {j : Nat} {v : Int32} (s : SM m h) : ∀ {q : AH → Option β}, j < 100 → sI (wi h G) (some (m + 36)) 12 (nI j) v q = q (wi h (ug G (m + 36) j v)) := fun hj => sI_w (SM_k36 s) (by rw [SM_l36 s]; exact hj) (by omega)
theorem SM_a37 {β : Type} {G : Nat → Nat → Int32} {j : Nat} (s : SM m h) : ∀ {q : Int32 → Option β}, j < 3600 → aI (wi h G) (some (m + 37)) 12 (nI j) q = q (G (m + 37) j) := fun hj => aI_w (SM_k37 s) (by rw [SM_l37 s]; exact hj) (by omega)
theorem SM_s37 {β : Type} {G : Nat → Nat → Int32} {j : Nat} {v : Int32} (s : SM m h) : ∀ {q : AH → Option β}, j < 3600 → sI (wi h G) (some (m + 37)) 12 (nI j) v q = q (wi h (ug G (m + 37) j v)) := fun hj => sI_w (SM_k37 s) (by rw [SM_l37 s]; exact hj) (by omega)
theorem SM_a38 {β : Type} {G : Nat → Nat → Int32} {j : Nat} (s : SM m h) : ∀ {q : Int32 → Option β}, j < 3600 → aI (wi h G) (some (m + 38)) 13 (nI j) q = q (G (m + 38) j) := fun hj => aI_w (SM_k38 s) (by rw [SM_l38 s]; exact hj) (by omega)
theorem SM_s38 {β : Type} {G : Nat → Nat → Int32} {j : Nat} {v : Int32} (s : SM m h) : ∀ {q : AH → Option β}, j < 3600 → sI (wi h G) (some (m + 38)) 13 (nI j) v q = q (wi h (ug G (m + 38) j v)) := fun hj => sI_w (SM_k38 s) (by rw [SM_l38 s]; exact hj) (by omega)
theorem SM_a39 {β : Type} {G : Nat → Nat → Int32} {j : Nat} (s : SM m h) : ∀ {q : Int32 → Option β}, j < 3600 → aI (wi h G) (some (m + 39)) 12 (nI j) q = q (G (m + 39) j) := fun hj => aI_w (SM_k39 s) (by rw [SM_l39 s]; exact hj) (by omega)
theorem SM_s39 {β : Type} {G : Nat → Nat → Int32} {j : Nat} {v : Int32} (s : SM m h) : ∀ {q : AH → Option β}, j < 3600 → sI (wi h G) (some (m + 39)) 12 (nI j) v q = q (wi h (ug G (m + 39) j v)) := fun hj => sI_w (SM_k39 s) (by rw [SM_l39 s]; exact hj) (by omega)
theorem SM_a40 {β : Type} {G : Nat → Nat → Int32} {j : Nat} (s : SM m h) : ∀ {q : Int32 → Option β}, j < 216000 → aI (wi h G) (some (m + 40)) 12 (nI j) q = q (G (m + 40) j) := fun hj => aI_w (SM_k40 s) (by rw [SM_l40 s]; exact hj) (by omega)
theorem SM_s40 {β : Type} {G : Nat → Nat → Int32} {j : Nat} {v : Int32} (s : SM m h) : ∀ {q : AH → Option β}, j < 216000 → sI (wi h G) (some (m + 40)) 12 (nI j) v q = q (wi h (ug G (m + 40) j v)) := fun hj => sI_w (SM_k40 s) (by rw [SM_l40 s]; exact hj) (by omega)
theorem SM_a41 {β : Type} {G : Nat → Nat → Int32} {j : Nat} (s : SM m h) : ∀ {q : Int32 → Option β}, j < 216000 → aI (wi h G) (some (m + 41)) 12 (nI j) q = q (G (m + 41) j) := fun hj => aI_w (SM_k41 s) (by rw [SM_l41 s]; exact hj) (by omega)
theorem SM_s41 {β : Type} {G : Nat → Nat → Int32} {j : Nat} {v : Int32} (s : SM m h) : ∀ {q : AH → Option β}, j < 216000 → sI (wi h G) (some (m + 41)) 12 (nI j) v q = q (wi h (ug G (m + 41) j v)) := fun hj => sI_w (SM_k41 s) (by rw [SM_l41 s]; exact hj) (by omega)
theorem SM_a42 {β : Type} {G : Nat → Nat → Int32} {j : Nat} (s : SM m h) : ∀ {q : Int32 → Option β}, j < 16 → aI (wi h G) (some (m + 42)) 12 (nI j) q = q (G (m + 42) j) := fun hj => aI_w (SM_k42 s) (by rw [SM_l42 s]; exact hj) (by omega)
theorem SM_s42 {β : Type} {G : Nat → Nat → Int32} {j : Nat} {v : Int32} (s : SM m h) : ∀ {q : AH → Option β}, j < 16 → sI (wi h G) (some (m + 42)) 12 (nI j) v q = q (wi h (ug G (m + 42) j v)) := fun hj => sI_w (SM_k42 s) (by rw [SM_l42 s]; exact hj) (by omega)
theorem SM_wi {G : Nat → Nat → Int32} (s : SM m h) : SM m (wi h G) := s
def SC (c : Nat) (h : AH) : Prop := c + 385 ≤ a_nx h ∧ a_kd h c = 10 ∧ a_kd h (c + 1) = 16 ∧ a_ln h (c + 1) = 8 ∧ a_kd h (c + 2) = 17 ∧ a_ln h (c + 2) = 36 ∧ a_kd h (c + 3) = 3 ∧ a_kd h (c + 4) = 18 ∧ a_ln h (c + 4) = 61 ∧ a_kd h (c + 66) = 4 ∧ a_kd h (c + 67) = 12 ∧ a_ln h (c + 67) = 120 ∧ a_kd h (c + 68) = 7 ∧ a_kd h (c + 69) = 12 ∧ a_ln h (c + 69) = 1440 ∧ a_kd h (c + 70) = 12 ∧ a_ln h (c + 70) = 1440 ∧ a_kd h (c + 71) = 12 ∧ a_ln h (c + 71) = 1440 ∧ a_kd h (c + 72) = 15 ∧ a_ln h (c + 72) = 100 ∧ a_kd h (c + 73) = 12 ∧ a_ln h (c + 73) = 16 ∧ a_kd h (c + 74) = 6 ∧ a_kd h (c + 75) = 12 ∧ a_ln h (c + 75) = 60 ∧ a_kd h (c + 76) = 12 ∧ a_ln h (c + 76) = 60 ∧ a_kd h (c + 77) = 12 ∧ a_ln h (c + 77) = 61 ∧ a_kd h (c + 78) = 12 ∧ a_ln h (c + 78) = 60 ∧ a_kd h (c + 79) = 12 ∧ a_ln h (c + 79) = 60 ∧ a_kd h (c + 80) = 12 ∧ a_ln h (c + 80) = 10 ∧ a_gr h c 0 = some (c + 1) ∧ a_gr h c 1 = some (c + 2) ∧ a_gr h c 2 = some (c + 74) ∧ a_gr h c 3 = some (c + 3) ∧ a_gr h c 4 = some (c + 66) ∧ a_gr h c 5 = some (c + 68) ∧ a_gr h c 7 = some (c + 72) ∧ a_gr h c 9 = some (c + 73) ∧ a_gr h (c + 3) 0 = some (c + 4) ∧ a_gr h (c + 66) 0 = some (c + 67) ∧ a_gr h (c + 68) 1 = some (c + 69) ∧ a_gr h (c + 68) 2 = some (c + 70) ∧ a_gr h (c + 68) 3 = some (c + 71) ∧ a_gr h (c + 74) 1 = some (c + 75) ∧ a_gr h (c + 74) 2 = some (c + 76) ∧ a_gr h (c + 74) 3 = some (c + 77) ∧ a_gr h (c + 74) 4 = some (c + 78) ∧ a_gr h (c + 74) 5 = some (c + 79) ∧ a_gr h (c + 74) 6 = some (c + 80) ∧ (∀ i, i < 61 → a_kd h (c + 5 + i) = 12) ∧ (∀ i, i < 61 → a_ln h (c + 5 + i) = 61) ∧ (∀ i, i < 61 → a_gr h (c + 4) i = some (c + 5 + i)) ∧ (∀ r, r < 8 → a_gr h (c + 1) r = some (c + 81 + 2 * r)) ∧ (∀ r, r < 8 → a_kd h (c + 81 + 2 * r) = 8) ∧ (∀ r, r < 8 → a_gr h (c + 81 + 2 * r) 3 = some (c + 82 + 2 * r)) ∧ (∀ r, r < 8 → a_kd h (c + 82 + 2 * r) = 12) ∧ (∀ r, r < 8 → a_ln h (c + 82 + 2 * r) = 60) ∧ (∀ s, s < 36 → a_gr h (c + 2) s = some (c + 97 + 8 * s)) ∧ (∀ s, s < 36 → a_kd h (c + 97 + 8 * s) = 9) ∧ (∀ s, s < 36 → a_gr h (c + 97 + 8 * s) 4 = some (c + 98 + 8 * s)) ∧ (∀ s, s < 36 → a_kd h (c + 98 + 8 * s) = 2) ∧ (∀ s, s < 36 → a_gr h (c + 98 + 8 * s) 2 = some (c + 99 + 8 * s)) ∧ (∀ s, s < 36 → a_kd h (c + 99 + 8 * s) = 12) ∧ (∀ s, s < 36 → a_ln h (c + 99 + 8 * s) = 40) ∧ (∀ s, s < 36 → a_gr h (c + 98 + 8 * s) 3 = some (c + 100 + 8 * s)) ∧ (∀ s, s < 36 → a_kd h (c + 100 + 8 * s) = 12) ∧ (∀ s, s < 36 → a_ln h (c + 100 + 8 * s) = 40) ∧ (∀ s, s < 36 → a_gr h (c + 98 + 8 * s) 4 = some (c + 101 + 8 * s)) ∧ (∀ s, s < 36 → a_kd h (c + 101 + 8 * s) = 12) ∧ (∀ s, s < 36 → a_ln h (c + 101 + 8 * s) = 40) ∧ (∀ s, s < 36 → a_gr h (c + 98 + 8 * s) 5 = some (c + 102 + 8 * s)) ∧ (∀ s, s < 36 → a_kd h (c + 102 + 8 * s) = 12) ∧ (∀ s, s < 36 → a_ln h (c + 102 + 8 * s) = 40) ∧ (∀ s, s < 36 → a_gr h (c + 98 + 8 * s) 6 = some (c + 103 + 8 * s)) ∧ (∀ s, s < 36 → a_kd h (c + 103 + 8 * s) = 12) ∧ (∀ s, s < 36 → a_ln h (c + 103 + 8 * s) = 40)
theorem SC_nx (s : SC c h) : c + 385 ≤ a_nx h := s.1
theorem SC_k0 (s : SC c h) : a_kd h c = 10 := s.2.1
theorem SC_k1 (s : SC c h) : a_kd h (c + 1) = 16 := s.2.2.1
theorem SC_l1 (s : SC c h) : a_ln h (c + 1) = 8 := s.2.2.2.1
theorem SC_k2 (s : SC c h) : a_kd h (c + 2) = 17 := s.2.2.2.2.1
theorem SC_l2 (s : SC c h) : a_ln h (c + 2) = 36 := s.2.2.2.2.2.1
theorem SC_k3 (s : SC c h) : a_kd h (c + 3) = 3 := s.2.2.2.2.2.2.1
theorem SC_k4 (s : SC c h) : a_kd h (c + 4) = 18 := s.2.2.2.2.2.2.2.1
theorem SC_l4 (s : SC c h) : a_ln h (c + 4) = 61 := s.2.2.2.2.2.2.2.2.1
theorem SC_k66 (s : SC c h) : a_kd h (c + 66) = 4 := s.2.2.2.2.2.2.2.2.2.1
theorem SC_k67 (s : SC c h) : a_kd h (c + 67) = 12 := s.2.2.2.2.2.2.2.2.2.2.1
theorem SC_l67 (s : SC c h) : a_ln h (c + 67) = 120 := s.2.2.2.2.2.2.2.2.2.2.2.1
theorem SC_k68 (s : SC c h) : a_kd h (c + 68) = 7 := s.2.2.2.2.2.2.2.2.2.2.2.2.1
theorem SC_k69 (s : SC c h) : a_kd h (c + 69) = 12 := s.2.2.2.2.2.2.2.2.2.2.2.2.2.1
theorem SC_l69 (s : SC c h) : a_ln h (c + 69) = 1440 := s.2.2.2.2.2.2.2.2.2.2.2.2.2.2.1
theorem SC_k70 (s : SC c h) : a_kd h (c + 70) = 12 := s.2.2.2.2.2.2.2.2.2.2.2.2.2.2.2.1
theorem SC_l70 (s : SC c h) : a_ln h (c + 70) = 1440 := s.2.2.2.2.2.2.2.2.2.2.2.2.2.2.2.2.1
theorem SC_k71 (s : SC c h) : a_kd h (c + 71) = 12 := s.2.2.2.2.2.2.2.2.2.2.2.2.2.2.2.2.2.1
theorem SC_l71 (s : SC c h) : a_ln h (c + 71) = 1440 := s.2.2.2.2.2.2.2.2.2.2.2.2.2.2.2.2.2.2.1
theorem SC_k72 (s : SC c h) : a_kd h (c + 72) = 15 := s.2.2.2.2.2.2.2.2.2.2.2.2.2.2.2.2.2.2.2.1
theorem SC_l72 (s : SC c h) : a_ln h (c + 72) = 100 := s.2.2.2.2.2.2.2.2.2.2.2.2.2.2.2.2.2.2.2.2.1
theorem SC_k73 (s : SC c h) : a_kd h (c + 73) = 12 := s.2.2.2.2.2.2.2.2.2.2.2.2.2.2.2.2.2.2.2.2.2.1
theorem SC_l73 (s : SC c h) : a_ln h (c + 73) = 16 := s.2.2.2.2.2.2.2.2.2.2.2.2.2.2.2.2.2.2.2.2.2.2.1
theorem SC_k74 (s : SC c h) : a_kd h (c + 74) = 6 := s.2.2.2.2.2.2.2.2.2.2.2.2.2.2.2.2.2.2.2.2.2.2.2.1
theorem SC_k75 (s : SC c h) : a_kd h (c + 75) = 12 := s.2.2.2.2.2.2.2.2.2.2.2.2.2.2.2.2.2.2.2.2.2.2.2.2.1
theorem SC_l75 (s : SC c h) : a_ln h (c + 75) = 60 := s.2.2.2.2.2.2.2.2.2.2.2.2.2.2.2.2.2.2.2.2.2.2.2.2.2.1
theorem SC_k76 (s : SC c h) : a_kd h (c + 76) = 12 := s.2.2.2.2.2.2.2.2.2.2.2.2.2.2.2.2.2.2.2.2.2.2.2.2.2.2.1
theorem SC_l76 (s : SC c h) : a_ln h (c + 76) = 60 := s.2.2.2.2.2.2.2.2.2.2.2.2.2.2.2.2.2.2.2.2.2.2.2.2.2.2.2.1
theorem SC_k77 (s : SC c h) : a_kd h (c + 77) = 12 := s.2.2.2.2.2.2.2.2.2.2.2.2.2.2.2.2.2.2.2.2.2.2.2.2.2.2.2.2.1
theorem SC_l77 (s : SC c h) : a_ln h (c + 77) = 61 := s.2.2.2.2.2.2.2.2.2.2.2.2.2.2.2.2.2.2.2.2.2.2.2.2.2.2.2.2.2.1
theorem SC_k78 (s : SC c h) : a_kd h (c + 78) = 12 := s.2.2.2.2.2.2.2.2.2.2.2.2.2.2.2.2.2.2.2.2.2.2.2.2.2.2.2.2.2.2.1
theorem SC_l78 (s : SC c h) : a_ln h (c + 78) = 60 := s.2.2.2.2.2.2.2.2.2.2.2.2.2.2.2.2.2.2.2.2.2.2.2.2.2.2.2.2.2.2.2.1
theorem SC_k79 (s : SC c h) : a_kd h (c + 79) = 12 := s.2.2.2.2.2.2.2.2.2.2.2.2.2.2.2.2.2.2.2.2.2.2.2.2.2.2.2.2.2.2.2.2.1
theorem SC_l79 (s : SC c h) : a_ln h (c + 79) = 60 := s.2.2.2.2.2.2.2.2.2.2.2.2.2.2.2.2.2.2.2.2.2.2.2.2.2.2.2.2.2.2.2.2.2.1
theorem SC_k80 (s : SC c h) : a_kd h (c + 80) = 12 := s.2.2.2.2.2.2.2.2.2.2.2.2.2.2.2.2.2.2.2.2.2.2.2.2.2.2.2.2.2.2.2.2.2.2.1
theorem SC_l80 (s : SC c h) : a_ln h (c + 80) = 10 := s.2.2.2.2.2.2.2.2.2.2.2.2.2.2.2.2.2.2.2.2.2.2.2.2.2.2.2.2.2.2.2.2.2.2.2.1
theorem SC_r1 (s : SC c h) : a_gr h c 0 = some (c + 1) := s.2.2.2.2.2.2.2.2.2.2.2.2.2.2.2.2.2.2.2.2.2.2.2.2.2.2.2.2.2.2.2.2.2.2.2.2.1
theorem SC_r2 (s : SC c h) : a_gr h c 1 = some (c + 2) := s.2.2.2.2.2.2.2.2.2.2.2.2.2.2.2.2.2.2.2.2.2.2.2.2.2.2.2.2.2.2.2.2.2.2.2.2.2.1
theorem SC_r74 (s : SC c h) : a_gr h c 2 = some (c + 74) := s.2.2.2.2.2.2.2.2.2.2.2.2.2.2.2.2.2.2.2.2.2.2.2.2.2.2.2.2.2.2.2.2.2.2.2.2.2.2.1
theorem SC_r3 (s : SC c h) : a_gr h c 3 = some (c + 3) := s.2.2.2.2.2.2.2.2.2.2.2.2.2.2.2.2.2.2.2.2.2.2.2.2.2.2.2.2.2.2.2.2.2.2.2.2.2.2.2.1
theorem SC_r66 (s : SC c h) : a_gr h c 4 = some (c + 66) := s.2.2.2.2.2.2.2.2.2.2.2.2.2.2.2.2.2.2.2.2.2.2.2.2.2.2.2.2.2.2.2.2.2.2.2.2.2.2.2.2.1
theorem SC_r68 (s : SC c h) : a_gr h c 5 = some (c + 68) := s.2.2.2.2.2.2.2.2.2.2.2.2.2.2.2.2.2.2.2.2.2.2.2.2.2.2.2.2.2.2.2.2.2.2.2.2.2.2.2.2.2.1
theorem SC_r72 (s : SC c h) : a_gr h c 7 = some (c + 72) := s.2.2.2.2.2.2.2.2.2.2.2.2.2.2.2.2.2.2.2.2.2.2.2.2.2.2.2.2.2.2.2.2.2.2.2.2.2.2.2.2.2.2.1
theorem SC_r73 (s : SC c h) : a_gr h c 9 = some (c + 73) := s.2.2.2.2.2.2.2.2.2.2.2.2.2.2.2.2.2.2.2.2.2.2.2.2.2.2.2.2.2.2.2.2.2.2.2.2.2.2.2.2.2.2.2.1
theorem SC_r4 (s : SC c h) : a_gr h (c + 3) 0 = some (c + 4) := s.2.2.2.2.2.2.2.2.2.2.2.2.2.2.2.2.2.2.2.2.2.2.2.2.2.2.2.2.2.2.2.2.2.2.2.2.2.2.2.2.2.2.2.2.1
theorem SC_r67 (s : SC c h) : a_gr h (c + 66) 0 = some (c + 67) := s.2.2.2.2.2.2.2.2.2.2.2.2.2.2.2.2.2.2.2.2.2.2.2.2.2.2.2.2.2.2.2.2.2.2.2.2.2.2.2.2.2.2.2.2.2.1
theorem SC_r69 (s : SC c h) : a_gr h (c + 68) 1 = some (c + 69) := s.2.2.2.2.2.2.2.2.2.2.2.2.2.2.2.2.2.2.2.2.2.2.2.2.2.2.2.2.2.2.2.2.2.2.2.2.2.2.2.2.2.2.2.2.2.2.1
theorem SC_r70 (s : SC c h) : a_gr h (c + 68) 2 = some (c + 70) := s.2.2.2.2.2.2.2.2.2.2.2.2.2.2.2.2.2.2.2.2.2.2.2.2.2.2.2.2.2.2.2.2.2.2.2.2.2.2.2.2.2.2.2.2.2.2.2.1
theorem SC_r71 (s : SC c h) : a_gr h (c + 68) 3 = some (c + 71) := s.2.2.2.2.2.2.2.2.2.2.2.2.2.2.2.2.2.2.2.2.2.2.2.2.2.2.2.2.2.2.2.2.2.2.2.2.2.2.2.2.2.2.2.2.2.2.2.2.1
theorem SC_r75 (s : SC c h) : a_gr h (c + 74) 1 = some (c + 75) := s.2.2.2.2.2.2.2.2.2.2.2.2.2.2.2.2.2.2.2.2.2.2.2.2.2.2.2.2.2.2.2.2.2.2.2.2.2.2.2.2.2.2.2.2.2.2.2.2.2.1
theorem SC_r76 (s : SC c h) : a_gr h (c + 74) 2 = some (c + 76) := s.2.2.2.2.2.2.2.2.2.2.2.2.2.2.2.2.2.2.2.2.2.2.2.2.2.2.2.2.2.2.2.2.2.2.2.2.2.2.2.2.2.2.2.2.2.2.2.2.2.2.1
theorem SC_r77 (s : SC c h) : a_gr h (c + 74) 3 = some (c + 77) := s.2.2.2.2.2.2.2.2.2.2.2.2.2.2.2.2.2.2.2.2.2.2.2.2.2.2.2.2.2.2.2.2.2.2.2.2.2.2.2.2.2.2.2.2.2.2.2.2.2.2.2.1
theorem SC_r78 (s : SC c h) : a_gr h (c + 74) 4 = some (c + 78) := s.2.2.2.2.2.2.2.2.2.2.2.2.2.2.2.2.2.2.2.2.2.2.2.2.2.2.2.2.2.2.2.2.2.2.2.2.2.2.2.2.2.2.2.2.2.2.2.2.2.2.2.2.1
theorem SC_r79 (s : SC c h) : a_gr h (c + 74) 5 = some (c + 79) := s.2.2.2.2.2.2.2.2.2.2.2.2.2.2.2.2.2.2.2.2.2.2.2.2.2.2.2.2.2.2.2.2.2.2.2.2.2.2.2.2.2.2.2.2.2.2.2.2.2.2.2.2.2.1
theorem SC_r80 (s : SC c h) : a_gr h (c + 74) 6 = some (c + 80) := s.2.2.2.2.2.2.2.2.2.2.2.2.2.2.2.2.2.2.2.2.2.2.2.2.2.2.2.2.2.2.2.2.2.2.2.2.2.2.2.2.2.2.2.2.2.2.2.2.2.2.2.2.2.2.1
theorem SC_kg {i : Nat} (s0 : SC c h) (hx : i < 61) : a_kd h (c + 5 + i) = 12 := s0.2.2.2.2.2.2.2.2.2.2.2.2.2.2.2.2.2.2.2.2.2.2.2.2.2.2.2.2.2.2.2.2.2.2.2.2.2.2.2.2.2.2.2.2.2.2.2.2.2.2.2.2.2.2.2.1 i hx
theorem SC_lg {i : Nat} (s0 : SC c h) (hx : i < 61) : a_ln h (c + 5 + i) = 61 := s0.2.2.2.2.2.2.2.2.2.2.2.2.2.2.2.2.2.2.2.2.2.2.2.2.2.2.2.2.2.2.2.2.2.2.2.2.2.2.2.2.2.2.2.2.2.2.2.2.2.2.2.2.2.2.2.2.1 i hx
theorem SC_rg {i : Nat} (s0 : SC c h) (hx : i < 61) : a_gr h (c + 4) i = some (c + 5 + i) := s0.2.2.2.2.2.2.2.2.2.2.2.2.2.2.2.2.2.2.2.2.2.2.2.2.2.2.2.2.2.2.2.2.2.2.2.2.2.2.2.2.2.2.2.2.2.2.2.2.2.2.2.2.2.2.2.2.2.1 i hx
theorem SC_rr {r : Nat} (s0 : SC c h) (hx : r < 8) : a_gr h (c + 1) r = some (c + 81 + 2 * r) := s0.2.2.2.2.2.2.2.2.2.2.2.2.2.2.2.2.2.2.2.2.2.2.2.2.2.2.2.2.2.2.2.2.2.2.2.2.2.2.2.2.2.2.2.2.2.2.2.2.2.2.2.2.2.2.2.2.2.2.1 r hx
theorem SC_kr {r : Nat} (s0 : SC c h) (hx : r < 8) : a_kd h (c + 81 + 2 * r) = 8 := s0.2.2.2.2.2.2.2.2.2.2.2.2.2.2.2.2.2.2.2.2.2.2.2.2.2.2.2.2.2.2.2.2.2.2.2.2.2.2.2.2.2.2.2.2.2.2.2.2.2.2.2.2.2.2.2.2.2.2.2.1 r hx
theorem SC_ri {r : Nat} (s0 : SC c h) (hx : r < 8) : a_gr h (c + 81 + 2 * r) 3 = some (c + 82 + 2 * r) := s0.2.2.2.2.2.2.2.2.2.2.2.2.2.2.2.2.2.2.2.2.2.2.2.2.2.2.2.2.2.2.2.2.2.2.2.2.2.2.2.2.2.2.2.2.2.2.2.2.2.2.2.2.2.2.2.2.2.2.2.2.1 r hx
theorem SC_ki {r : Nat} (s0 : SC c h) (hx : r < 8) : a_kd h (c + 82 + 2 * r) = 12 := s0.2.2.2.2.2.2.2.2.2.2.2.2.2.2.2.2.2.2.2.2.2.2.2.2.2.2.2.2.2.2.2.2.2.2.2.2.2.2.2.2.2.2.2.2.2.2.2.2.2.2.2.2.2.2.2.2.2.2.2.2.2.1 r hx
theorem SC_li {r : Nat} (s0 : SC c h) (hx : r < 8) : a_ln h (c + 82 + 2 * r) = 60 := s0.2.2.2.2.2.2.2.2.2.2.2.2.2.2.2.2.2.2.2.2.2.2.2.2.2.2.2.2.2.2.2.2.2.2.2.2.2.2.2.2.2.2.2.2.2.2.2.2.2.2.2.2.2.2.2.2.2.2.2.2.2.2.1 r hx
theorem SC_rs {s : Nat} (s0 : SC c h) (hx : s < 36) : a_gr h (c + 2) s = some (c + 97 + 8 * s) := s0.2.2.2.2.2.2.2.2.2.2.2.2.2.2.2.2.2.2.2.2.2.2.2.2.2.2.2.2.2.2.2.2.2.2.2.2.2.2.2.2.2.2.2.2.2.2.2.2.2.2.2.2.2.2.2.2.2.2.2.2.2.2.2.1 s hx
theorem SC_ks {s : Nat} (s0 : SC c h) (hx : s < 36) : a_kd h (c + 97 + 8 * s) = 9 := s0.2.2.2.2.2.2.2.2.2.2.2.2.2.2.2.2.2.2.2.2.2.2.2.2.2.2.2.2.2.2.2.2.2.2.2.2.2.2.2.2.2.2.2.2.2.2.2.2.2.2.2.2.2.2.2.2.2.2.2.2.2.2.2.2.1 s hx
theorem SC_rc {s : Nat} (s0 : SC c h) (hx : s < 36) : a_gr h (c + 97 + 8 * s) 4 = some (c + 98 + 8 * s) := s0.2.2.2.2.2.2.2.2.2.2.2.2.2.2.2.2.2.2.2.2.2.2.2.2.2.2.2.2.2.2.2.2.2.2.2.2.2.2.2.2.2.2.2.2.2.2.2.2.2.2.2.2.2.2.2.2.2.2.2.2.2.2.2.2.2.1 s hx
theorem SC_kc {s : Nat} (s0 : SC c h) (hx : s < 36) : a_kd h (c + 98 + 8 * s) = 2 := s0.2.2.2.2.2.2.2.2.2.2.2.2.2.2.2.2.2.2.2.2.2.2.2.2.2.2.2.2.2.2.2.2.2.2.2.2.2.2.2.2.2.2.2.2.2.2.2.2.2.2.2.2.2.2.2.2.2.2.2.2.2.2.2.2.2.2.1 s hx
theorem SC_rc0 {s : Nat} (s0 : SC c h) (hx : s < 36) : a_gr h (c + 98 + 8 * s) 2 = some (c + 99 + 8 * s) := s0.2.2.2.2.2.2.2.2.2.2.2.2.2.2.2.2.2.2.2.2.2.2.2.2.2.2.2.2.2.2.2.2.2.2.2.2.2.2.2.2.2.2.2.2.2.2.2.2.2.2.2.2.2.2.2.2.2.2.2.2.2.2.2.2.2.2.2.1 s hx
theorem SC_kc0 {s : Nat} (s0 : SC c h) (hx : s < 36) : a_kd h (c + 99 + 8 * s) = 12 := s0.2.2.2.2.2.2.2.2.2.2.2.2.2.2.2.2.2.2.2.2.2.2.2.2.2.2.2.2.2.2.2.2.2.2.2.2.2.2.2.2.2.2.2.2.2.2.2.2.2.2.2.2.2.2.2.2.2.2.2.2.2.2.2.2.2.2.2.2.1 s hx
theorem SC_lc0 {s : Nat} (s0 : SC c h) (hx : s < 36) : a_ln h (c + 99 + 8 * s) = 40 := s0.2.2.2.2.2.2.2.2.2.2.2.2.2.2.2.2.2.2.2.2.2.2.2.2.2.2.2.2.2.2.2.2.2.2.2.2.2.2.2.2.2.2.2.2.2.2.2.2.2.2.2.2.2.2.2.2.2.2.2.2.2.2.2.2.2.2.2.2.2.1 s hx
theorem SC_rc1 {s : Nat} (s0 : SC c h) (hx : s < 36) : a_gr h (c + 98 + 8 * s) 3 = some (c + 100 + 8 * s) := s0.2.2.2.2.2.2.2.2.2.2.2.2.2.2.2.2.2.2.2.2.2.2.2.2.2.2.2.2.2.2.2.2.2.2.2.2.2.2.2.2.2.2.2.2.2.2.2.2.2.2.2.2.2.2.2.2.2.2.2.2.2.2.2.2.2.2.2.2.2.2.1 s hx
theorem SC_kc1 {s : Nat} (s0 : SC c h) (hx : s < 36) : a_kd h (c + 100 + 8 * s) = 12 := s0.2.2.2.2.2.2.2.2.2.2.2.2.2.2.2.2.2.2.2.2.2.2.2.2.2.2.2.2.2.2.2.2.2.2.2.2.2.2.2.2.2.2.2.2.2.2.2.2.2.2.2.2.2.2.2.2.2.2.2.2.2.2.2.2.2.2.2.2.2.2.2.1 s hx
theorem SC_lc1 {s : Nat} (s0 : SC c h) (hx : s < 36) : a_ln h (c + 100 + 8 * s) = 40 := s0.2.2.2.2.2.2.2.2.2.2.2.2.2.2.2.2.2.2.2.2.2.2.2.2.2.2.2.2.2.2.2.2.2.2.2.2.2.2.2.2.2.2.2.2.2.2.2.2.2.2.2.2.2.2.2.2.2.2.2.2.2.2.2.2.2.2.2.2.2.2.2.2.1 s hx
theorem SC_rc2 {s : Nat} (s0 : SC c h) (hx : s < 36) : a_gr h (c + 98 + 8 * s) 4 = some (c + 101 + 8 * s) := s0.2.2.2.2.2.2.2.2.2.2.2.2.2.2.2.2.2.2.2.2.2.2.2.2.2.2.2.2.2.2.2.2.2.2.2.2.2.2.2.2.2.2.2.2.2.2.2.2.2.2.2.2.2.2.2.2.2.2.2.2.2.2.2.2.2.2.2.2.2.2.2.2.2.1 s hx
theorem SC_kc2 {s : Nat} (s0 : SC c h) (hx : s < 36) : a_kd h (c + 101 + 8 * s) = 12 := s0.2.2.2.2.2.2.2.2.2.2.2.2.2.2.2.2.2.2.2.2.2.2.2.2.2.2.2.2.2.2.2.2.2.2.2.2.2.2.2.2.2.2.2.2.2.2.2.2.2.2.2.2.2.2.2.2.2.2.2.2.2.2.2.2.2.2.2.2.2.2.2.2.2.2.1 s hx
theorem SC_lc2 {s : Nat} (s0 : SC c h) (hx : s < 36) : a_ln h (c + 101 + 8 * s) = 40 := s0.2.2.2.2.2.2.2.2.2.2.2.2.2.2.2.2.2.2.2.2.2.2.2.2.2.2.2.2.2.2.2.2.2.2.2.2.2.2.2.2.2.2.2.2.2.2.2.2.2.2.2.2.2.2.2.2.2.2.2.2.2.2.2.2.2.2.2.2.2.2.2.2.2.2.2.1 s hx
theorem SC_rc3 {s : Nat} (s0 : SC c h) (hx : s < 36) : a_gr h (c + 98 + 8 * s) 5 = some (c + 102 + 8 * s) := s0.2.2.2.2.2.2.2.2.2.2.2.2.2.2.2.2.2.2.2.2.2.2.2.2.2.2.2.2.2.2.2.2.2.2.2.2.2.2.2.2.2.2.2.2.2.2.2.2.2.2.2.2.2.2.2.2.2.2.2.2.2.2.2.2.2.2.2.2.2.2.2.2.2.2.2.2.1 s hx
theorem SC_kc3 {s : Nat} (s0 : SC c h) (hx : s < 36) : a_kd h (c + 102 + 8 * s) = 12 := s0.2.2.2.2.2.2.2.2.2.2.2.2.2.2.2.2.2.2.2.2.2.2.2.2.2.2.2.2.2.2.2.2.2.2.2.2.2.2.2.2.2.2.2.2.2.2.2.2.2.2.2.2.2.2.2.2.2.2.2.2.2.2.2.2.2.2.2.2.2.2.2.2.2.2.2.2.2.1 s hx
theorem SC_lc3 {s : Nat} (s0 : SC c h) (hx : s < 36) : a_ln h (c + 102 + 8 * s) = 40 := s0.2.2.2.2.2.2.2.2.2.2.2.2.2.2.2.2.2.2.2.2.2.2.2.2.2.2.2.2.2.2.2.2.2.2.2.2.2.2.2.2.2.2.2.2.2.2.2.2.2.2.2.2.2.2.2.2.2.2.2.2.2.2.2.2.2.2.2.2.2.2.2.2.2.2.2.2.2.2.1 s hx
theorem SC_rc4 {s : Nat} (s0 : SC c h) (hx : s < 36) : a_gr h (c + 98 + 8 * s) 6 = some (c + 103 + 8 * s) := s0.2.2.2.2.2.2.2.2.2.2.2.2.2.2.2.2.2.2.2.2.2.2.2.2.2.2.2.2.2.2.2.2.2.2.2.2.2.2.2.2.2.2.2.2.2.2.2.2.2.2.2.2.2.2.2.2.2.2.2.2.2.2.2.2.2.2.2.2.2.2.2.2.2.2.2.2.2.2.2.1 s hx
theorem SC_kc4 {s : Nat} (s0 : SC c h) (hx : s < 36) : a_kd h (c + 103 + 8 * s) = 12 := s0.2.2.2.2.2.2.2.2.2.2.2.2.2.2.2.2.2.2.2.2.2.2.2.2.2.2.2.2.2.2.2.2.2.2.2.2.2.2.2.2.2.2.2.2.2.2.2.2.2.2.2.2.2.2.2.2.2.2.2.2.2.2.2.2.2.2.2.2.2.2.2.2.2.2.2.2.2.2.2.2.1 s hx
theorem SC_lc4 {s : Nat} (s0 : SC c h) (hx : s < 36) : a_ln h (c + 103 + 8 * s) = 40 := s0.2.2.2.2.2.2.2.2.2.2.2.2.2.2.2.2.2.2.2.2.2.2.2.2.2.2.2.2.2.2.2.2.2.2.2.2.2.2.2.2.2.2.2.2.2.2.2.2.2.2.2.2.2.2.2.2.2.2.2.2.2.2.2.2.2.2.2.2.2.2.2.2.2.2.2.2.2.2.2.2.2 s hx
theorem SC_g1 {β : Type} {G : Nat → Nat → Int32} {q : Option Nat → Option β} (s : SC c h) : gR (wi h G) (some c) 10 0 q = q (some (c + 1)) := (if_pos (SC_k0 s)).trans (congrArg q (SC_r1 s))
theorem SC_g2 {β : Type} {G : Nat → Nat → Int32} {q : Option Nat → Option β} (s : SC c h) : gR (wi h G) (some c) 10 1 q = q (some (c + 2)) := (if_pos (SC_k0 s)).trans (congrArg q (SC_r2 s))
theorem SC_g74 {β : Type} {G : Nat → Nat → Int32} {q : Option Nat → Option β} (s : SC c h) : gR (wi h G) (some c) 10 2 q = q (some (c + 74)) := (if_pos (SC_k0 s)).trans (congrArg q (SC_r74 s))
theorem SC_g3 {β : Type} {G : Nat → Nat → Int32} {q : Option Nat → Option β} (s : SC c h) : gR (wi h G) (some c) 10 3 q = q (some (c + 3)) := (if_pos (SC_k0 s)).trans (congrArg q (SC_r3 s))
theorem SC_g66 {β : Type} {G : Nat → Nat → Int32} {q : Option Nat → Option β} (s : SC c h) : gR (wi h G) (some c) 10 4 q = q (some (c + 66)) := (if_pos (SC_k0 s)).trans (congrArg q (SC_r66 s))
theorem SC_g68 {β : Type} {G : Nat → Nat → Int32} {q : Option Nat → Option β} (s : SC c h) : gR (wi h G) (some c) 10 5 q = q (some (c + 68)) := (if_pos (SC_k0 s)).trans (congrArg q (SC_r68 s))
theorem SC_g72 {β : Type} {G : Nat → Nat → Int32} {q : Option Nat → Option β} (s : SC c h) : gR (wi h G) (some c) 10 7 q = q (some (c + 72)) := (if_pos (SC_k0 s)).trans (congrArg q (SC_r72 s))
theorem SC_g73 {β : Type} {G : Nat → Nat → Int32} {q : Option Nat → Option β} (s : SC c h) : gR (wi h G) (some c) 10 9 q = q (some (c + 73)) := (if_pos (SC_k0 s)).trans (congrArg q (SC_r73 s))
theorem SC_g4 {β : Type} {G : Nat → Nat → Int32} {q : Option Nat → Option β} (s : SC c h) : gR (wi h G) (some (c + 3)) 3 0 q = q (some (c + 4)) := (if_pos (SC_k3 s)).trans (congrArg q (SC_r4 s))
theorem SC_g67 {β : Type} {G : Nat → Nat → Int32} {q : Option Nat → Option β} (s : SC c h) : gR (wi h G) (some (c + 66)) 4 0 q = q (some (c + 67)) := (if_pos (SC_k66 s)).trans (congrArg q (SC_r67 s))
theorem SC_g69 {β : Type} {G : Nat → Nat → Int32} {q : Option Nat → Option β} (s : SC c h) : gR (wi h G) (some (c + 68)) 7 1 q = q (some (c + 69)) := (if_pos (SC_k68 s)).trans (congrArg q (SC_r69 s))
theorem SC_g70 {β : Type} {G : Nat → Nat → Int32} {q : Option Nat → Option β} (s : SC c h) : gR (wi h G) (some (c + 68)) 7 2 q = q (some (c + 70)) := (if_pos (SC_k68 s)).trans (congrArg q (SC_r70 s))
theorem SC_g71 {β : Type} {G : Nat → Nat → Int32} {q : Option Nat → Option β} (s : SC c h) : gR (wi h G) (some (c + 68)) 7 3 q = q (some (c + 71)) := (if_pos (SC_k68 s)).trans (congrArg q (SC_r71 s))
theorem SC_g75 {β : Type} {G : Nat → Nat → Int32} {q : Option Nat → Option β} (s : SC c h) : gR (wi h G) (some (c + 74)) 6 1 q = q (some (c + 75)) := (if_pos (SC_k74 s)).trans (congrArg q (SC_r75 s))
theorem SC_g76 {β : Type} {G : Nat → Nat → Int32} {q : Option Nat → Option β} (s : SC c h) : gR (wi h G) (some (c + 74)) 6 2 q = q (some (c + 76)) := (if_pos (SC_k74 s)).trans (congrArg q (SC_r76 s))
theorem SC_g77 {β : Type} {G : Nat → Nat → Int32} {q : Option Nat → Option β} (s : SC c h) : gR (wi h G) (some (c + 74)) 6 3 q = q (some (c + 77)) := (if_pos (SC_k74 s)).trans (congrArg q (SC_r77 s))
theorem SC_g78 {β : Type} {G : Nat → Nat → Int32} {q : Option Nat → Option β} (s : SC c h) : gR (wi h G) (some (c + 74)) 6 4 q = q (some (c + 78)) := (if_pos (SC_k74 s)).trans (congrArg q (SC_r78 s))
theorem SC_g79 {β : Type} {G : Nat → Nat → Int32} {q : Option Nat → Option β} (s : SC c h) : gR (wi h G) (some (c + 74)) 6 5 q = q (some (c + 79)) := (if_pos (SC_k74 s)).trans (congrArg q (SC_r79 s))
theorem SC_g80 {β : Type} {G : Nat → Nat → Int32} {q : Option Nat → Option β} (s : SC c h) : gR (wi h G) (some (c + 74)) 6 6 q = q (some (c + 80)) := (if_pos (SC_k74 s)).trans (congrArg q (SC_r80 s))
theorem SC_gri {β : Type} {G : Nat → Nat → Int32} {q : Option Nat → Option β} {r : Nat} (s0 : SC c h) (hx : r < 8) : gR (wi h G) (some (c + 81 + 2 * r)) 8 3 q = q (some (c + 82 + 2 * r)) := (if_pos (SC_kr s0 hx)).trans (congrArg q (SC_ri s0 hx))
theorem SC_grc {β : Type} {G : Nat → Nat → Int32} {q : Option Nat → Option β} {s : Nat} (s0 : SC c h) (hx : s < 36) : gR (wi h G) (some (c + 97 + 8 * s)) 9 4 q = q (some (c + 98 + 8 * s)) := (if_pos (SC_ks s0 hx)).trans (congrArg q (SC_rc s0 hx))
theorem SC_grc0 {β : Type} {G : Nat → Nat → Int32} {q : Option Nat → Option β} {s : Nat} (s0 : SC c h) (hx : s < 36) : gR (wi h G) (some (c + 98 + 8 * s)) 2 2 q = q (some (c + 99 + 8 * s)) := (if_pos (SC_kc s0 hx)).trans (congrArg q (SC_rc0 s0 hx))
theorem SC_grc1 {β : Type} {G : Nat → Nat → Int32} {q : Option Nat → Option β} {s : Nat} (s0 : SC c h) (hx : s < 36) : gR (wi h G) (some (c + 98 + 8 * s)) 2 3 q = q (some (c + 100 + 8 * s)) := (if_pos (SC_kc s0 hx)).trans (congrArg q (SC_rc1 s0 hx))
theorem SC_grc2 {β : Type} {G : Nat → Nat → Int32} {q : Option Nat → Option β} {s : Nat} (s0 : SC c h) (hx : s < 36) : gR (wi h G) (some (c + 98 + 8 * s)) 2 4 q = q (some (c + 101 + 8 * s)) := (if_pos (SC_kc s0 hx)).trans (congrArg q (SC_rc2 s0 hx))
theorem SC_grc3 {β : Type} {G : Nat → Nat → Int32} {q : Option Nat → Option β} {s : Nat} (s0 : SC c h) (hx : s < 36) : gR (wi h G) (some (c + 98 + 8 * s)) 2 5 q = q (some (c + 102 + 8 * s)) := (if_pos (SC_kc s0 hx)).trans (congrArg q (SC_rc3 s0 hx))
theorem SC_grc4 {β : Type} {G : Nat → Nat → Int32} {q : Option Nat → Option β} {s : Nat} (s0 : SC c h) (hx : s < 36) : gR (wi h G) (some (c + 98 + 8 * s)) 2 6 q = q (some (c + 103 + 8 * s)) := (if_pos (SC_kc s0 hx)).trans (congrArg q (SC_rc4 s0 hx))
theorem SC_grr {β : Type} {G : Nat → Nat → Int32} {q : Option Nat → Option β} {r : Nat} (s0 : SC c h) (hx : r < 8) : aR (wi h G) (some (c + 1)) 16 (nI r) q = q (some (c + 81 + 2 * r)) := (aR_w (SC_k1 s0) (by rw [SC_l1 s0]; exact hx) (by omega)).trans (congrArg q (SC_rr s0 hx))
theorem SC_grs {β : Type} {G : Nat → Nat → Int32} {q : Option Nat → Option β} {s : Nat} (s0 : SC c h) (hx : s < 36) : aR (wi h G) (some (c + 2)) 17 (nI s) q = q (some (c + 97 + 8 * s)) := (aR_w (SC_k2 s0) (by rw [SC_l2 s0]; exact hx) (by omega)).trans (congrArg q (SC_rs s0 hx))
theorem SC_grg {β : Type} {G : Nat → Nat → Int32} {q : Option Nat → Option β} {i : Nat} (s0 : SC c h) (hx : i < 61) : aR (wi h G) (some (c + 4)) 18 (nI i) q = q (some (c + 5 + i)) := (aR_w (SC_k4 s0) (by rw [SC_l4 s0]; exact hx) (by omega)).trans (congrArg q (SC_rg s0 hx))
theorem SC_b72 {β : Type} {G : Nat → Nat → Int32} {j : Nat} (s0 : SC c h) : ∀ {q : Option Nat → Option β}, j < 100 → aR (wi h G) (some (c + 72)) 15 (nI j) q = q (a_gr h (c + 72) j) := fun hj => aR_w (SC_k72 s0) (by rw [SC_l72 s0]; exact hj) (by omega)
theorem SC_oI0 {β : Type} {G : Nat → Nat → Int32} {j : Nat} (s0 : SC c h) : ∀ {q : Int32 → Option β}, gI (wi h G) (some c) 10 j q = q (G c j) := gI_w (SC_k0 s0)
theorem SC_oP0 {β : Type} {G : Nat → Nat → Int32} {j : Nat} {v : Int32} (s0 : SC c h) : ∀ {q : AH → Option β}, pI (wi h G) (some c) 10 j v q = q (wi h (ug G c j v)) := pI_w (SC_k0 s0)
theorem SC_oZ0 {β : Type} {G : Nat → Nat → Int32} {j : Nat} (s0 : SC c h) : ∀ {q : AH → Option β}, pZ (wi h G) (some c) 10 j 0 q = q (wi h (ug G c j (nI 0))) := pZ_w0 (SC_k0 s0)
theorem SC_oY0 {β : Type} {G : Nat → Nat → Int32} {j : Nat} (s0 : SC c h) : ∀ {q : AH → Option β}, pZ (wi h G) (some c) 10 j 1 q = q (wi h (ug G c j (nI 1))) := pZ_w1 (SC_k0 s0)
theorem SC_oz0 {β : Type} {G : Nat → Nat → Int32} {j : Nat} (s0 : SC c h) : ∀ {q : AH → Option β}, pZ (wi h G) (some c) 10 j (nI 0) q = q (wi h (ug G c j (nI 0))) := pZ_w0 (SC_k0 s0)
theorem SC_oy0 {β : Type} {G : Nat → Nat → Int32} {j : Nat} (s0 : SC c h) : ∀ {q : AH → Option β}, pZ (wi h G) (some c) 10 j (nI 1) q = q (wi h (ug G c j (nI 1))) := pZ_w1 (SC_k0 s0)
theorem SC_oV0 {β : Type} {G : Nat → Nat → Int32} (s0 : SC c h) : ∀ {q : Nat → Option β}, cV (wi h G) (some c) 10 q = q c := cV_w (SC_k0 s0)
theorem SC_oI3 {β : Type} {G : Nat → Nat → Int32} {j : Nat} (s0 : SC c h) : ∀ {q : Int32 → Option β}, gI (wi h G) (some (c + 3)) 3 j q = q (G (c + 3) j) := gI_w (SC_k3 s0)
theorem SC_oP3 {β : Type} {G : Nat → Nat → Int32} {j : Nat} {v : Int32} (s0 : SC c h) : ∀ {q : AH → Option β}, pI (wi h G) (some (c + 3)) 3 j v q = q (wi h (ug G (c + 3) j v)) := pI_w (SC_k3 s0)
theorem SC_oZ3 {β : Type} {G : Nat → Nat → Int32} {j : Nat} (s0 : SC c h) : ∀ {q : AH → Option β}, pZ (wi h G) (some (c + 3)) 3 j 0 q = q (wi h (ug G (c + 3) j (nI 0))) := pZ_w0 (SC_k3 s0)
theorem SC_oY3 {β : Type} {G : Nat → Nat → Int32} {j : Nat} (s0 : SC c h) : ∀ {q : AH → Option β}, pZ (wi h G) (some (c + 3)) 3 j 1 q = q (wi h (ug G (c + 3) j (nI 1))) := pZ_w1 (SC_k3 s0)
theorem SC_oz3 {β : Type} {G : Nat → Nat → Int32} {j : Nat} (s0 : SC c h) : ∀ {q : AH → Option β}, pZ (wi h G) (some (c + 3)) 3 j (nI 0) q = q (wi h (ug G (c + 3) j (nI 0))) := pZ_w0 (SC_k3 s0)
theorem SC_oy3 {β : Type} {G : Nat → Nat → Int32} {j : Nat} (s0 : SC c h) : ∀ {q : AH → Option β}, pZ (wi h G) (some (c + 3)) 3 j (nI 1) q = q (wi h (ug G (c + 3) j (nI 1))) := pZ_w1 (SC_k3 s0)
theorem SC_oV3 {β : Type} {G : Nat → Nat → Int32} (s0 : SC c h) : ∀ {q : Nat → Option β}, cV (wi h G) (some (c + 3)) 3 q = q (c + 3) := cV_w (SC_k3 s0)
theorem SC_oI66 {β : Type} {G : Nat → Nat → Int32} {j : Nat} (s0 : SC c h) : ∀ {q : Int32 → Option β}, gI (wi h G) (some (c + 66)) 4 j q = q (G (c + 66) j) := gI_w (SC_k66 s0)
theorem SC_oP66 {β : Type} {G : Nat → Nat → Int32} {j : Nat} {v : Int32} (s0 : SC c h) : ∀ {q : AH → Option β}, pI (wi h G) (some (c + 66)) 4 j v q = q (wi h (ug G (c + 66) j v)) := pI_w (SC_k66 s0)
theorem SC_oZ66 {β : Type} {G : Nat → Nat → Int32} {j : Nat} (s0 : SC c h) : ∀ {q : AH → Option β}, pZ (wi h G) (some (c + 66)) 4 j 0 q = q (wi h (ug G (c + 66) j (nI 0))) := pZ_w0 (SC_k66 s0)
theorem SC_oY66 {β : Type} {G : Nat → Nat → Int32} {j : Nat} (s0 : SC c h) : ∀ {q : AH → Option β}, pZ (wi h G) (some (c + 66)) 4 j 1 q = q (wi h (ug G (c + 66) j (nI 1))) := pZ_w1 (SC_k66 s0)
theorem SC_oz66 {β : Type} {G : Nat → Nat → Int32} {j : Nat} (s0 : SC c h) : ∀ {q : AH → Option β}, pZ (wi h G) (some (c + 66)) 4 j (nI 0) q = q (wi h (ug G (c + 66) j (nI 0))) := pZ_w0 (SC_k66 s0)
theorem SC_oy66 {β : Type} {G : Nat → Nat → Int32} {j : Nat} (s0 : SC c h) : ∀ {q : AH → Option β}, pZ (wi h G) (some (c + 66)) 4 j (nI 1) q = q (wi h (ug G (c + 66) j (nI 1))) := pZ_w1 (SC_k66 s0)
theorem SC_oV66 {β : Type} {G : Nat → Nat → Int32} (s0 : SC c h) : ∀ {q : Nat → Option β}, cV (wi h G) (some (c + 66)) 4 q = q (c + 66) := cV_w (SC_k66 s0)
theorem SC_oI68 {β : Type} {G : Nat → Nat → Int32} {j : Nat} (s0 : SC c h) : ∀ {q : Int32 → Option β}, gI (wi h G) (some (c + 68)) 7 j q = q (G (c + 68) j) := gI_w (SC_k68 s0)
theorem SC_oP68 {β : Type} {G : Nat → Nat → Int32} {j : Nat} {v : Int32} (s0 : SC c h) : ∀ {q : AH → Option β}, pI (wi h G) (some (c + 68)) 7 j v q = q (wi h (ug G (c + 68) j v)) := pI_w (SC_k68 s0)
theorem SC_oZ68 {β : Type} {G : Nat → Nat → Int32} {j : Nat} (s0 : SC c h) : ∀ {q : AH → Option β}, pZ (wi h G) (some (c + 68)) 7 j 0 q = q (wi h (ug G (c + 68) j (nI 0))) := pZ_w0 (SC_k68 s0)
theorem SC_oY68 {β : Type} {G : Nat → Nat → Int32} {j : Nat} (s0 : SC c h) : ∀ {q : AH → Option β}, pZ (wi h G) (some (c + 68)) 7 j 1 q = q (wi h (ug G (c + 68) j (nI 1))) := pZ_w1 (SC_k68 s0)
theorem SC_oz68 {β : Type} {G : Nat → Nat → Int32} {j : Nat} (s0 : SC c h) : ∀ {q : AH → Option β}, pZ (wi h G) (some (c + 68)) 7 j (nI 0) q = q (wi h (ug G (c + 68) j (nI 0))) := pZ_w0 (SC_k68 s0)
theorem SC_oy68 {β : Type} {G : Nat → Nat → Int32} {j : Nat} (s0 : SC c h) : ∀ {q : AH → Option β}, pZ (wi h G) (some (c + 68)) 7 j (nI 1) q = q (wi h (ug G (c + 68) j (nI 1))) := pZ_w1 (SC_k68 s0)
theorem SC_oV68 {β : Type} {G : Nat → Nat → Int32} (s0 : SC c h) : ∀ {q : Nat → Option β}, cV (wi h G) (some (c + 68)) 7 q = q (c + 68) := cV_w (SC_k68 s0)
theorem SC_oI74 {β : Type} {G : Nat → Nat → Int32} {j : Nat} (s0 : SC c h) : ∀ {q : Int32 → Option β}, gI (wi h G) (some (c + 74)) 6 j q = q (G (c + 74) j) := gI_w (SC_k74 s0)
theorem SC_oP74 {β : Type} {G : Nat → Nat → Int32} {j : Nat} {v : Int32} (s0 : SC c h) : ∀ {q : AH → Option β}, pI (wi h G) (some (c + 74)) 6 j v q = q (wi h (ug G (c + 74) j v)) := pI_w (SC_k74 s0)
theorem SC_oZ74 {β : Type} {G : Nat → Nat → Int32} {j : Nat} (s0 : SC c h) : ∀ {q : AH → Option β}, pZ (wi h G) (some (c + 74)) 6 j 0 q = q (wi h (ug G (c + 74) j (nI 0))) := pZ_w0 (SC_k74 s0)
theorem SC_oY74 {β : Type} {G : Nat → Nat → Int32} {j : Nat} (s0 : SC c h) : ∀ {q : AH → Option β}, pZ (wi h G) (some (c + 74)) 6 j 1 q = q (wi h (ug G (c + 74) j (nI 1))) := pZ_w1 (SC_k74 s0)
theorem SC_oz74 {β : Type} {G : Nat → Nat → Int32} {j : Nat} (s0 : SC c h) : ∀ {q : AH → Option β}, pZ (wi h G) (some (c + 74)) 6 j (nI 0) q = q (wi h (ug G (c + 74) j (nI 0))) := pZ_w0 (SC_k74 s0)
theorem SC_oy74 {β : Type} {G : Nat → Nat → Int32} {j : Nat} (s0 : SC c h) : ∀ {q : AH → Option β}, pZ (wi h G) (some (c + 74)) 6 j (nI 1) q = q (wi h (ug G (c + 74) j (nI 1))) := pZ_w1 (SC_k74 s0)
theorem SC_oV74 {β : Type} {G : Nat → Nat → Int32} (s0 : SC c h) : ∀ {q : Nat → Option β}, cV (wi h G) (some (c + 74)) 6 q = q (c + 74) := cV_w (SC_k74 s0)
theorem SC_oIr {β : Type} {G : Nat → Nat → Int32} {j : Nat} {r : Nat} (s0 : SC c h) (hx : r < 8) : ∀ {q : Int32 → Option β}, gI (wi h G) (some (c + 81 + 2 * r)) 8 j q = q (G (c + 81 + 2 * r) j) := gI_w (SC_kr s0 hx)
theorem SC_oPr {β : Type} {G : Nat → Nat → Int32} {j : Nat} {v : Int32} {r : Nat} (s0 : SC c h) (hx : r < 8) : ∀ {q : AH → Option β}, pI (wi h G) (some (c + 81 + 2 * r)) 8 j v q = q (wi h (ug G (c + 81 + 2 * r) j v)) := pI_w (SC_kr s0 hx)
theorem SC_oZr {β : Type} {G : Nat → Nat → Int32} {j : Nat} {r : Nat} (s0 : SC c h) (hx : r < 8) : ∀ {q : AH → Option β}, pZ (wi h G) (some (c + 81 + 2 * r)) 8 j 0 q = q (wi h (ug G (c + 81 + 2 * r) j (nI 0))) := pZ_w0 (SC_kr s0 hx)
theorem SC_oYr {β : Type} {G : Nat → Nat → Int32} {j : Nat} {r : Nat} (s0 : SC c h) (hx : r < 8) : ∀ {q : AH → Option β}, pZ (wi h G) (some (c + 81 + 2 * r)) 8 j 1 q = q (wi h (ug G (c + 81 + 2 * r) j (nI 1))) := pZ_w1 (SC_kr s0 hx)
theorem SC_ozr {β : Type} {G : Nat → Nat → Int32} {j : Nat} {r : Nat} (s0 : SC c h) (hx : r < 8) : ∀ {q : AH → Option β}, pZ (wi h G) (some (c + 81 + 2 * r)) 8 j (nI 0) q = q (wi h (ug G (c + 81 + 2 * r) j (nI 0))) := pZ_w0 (SC_kr s0 hx)
theorem SC_oyr {β : Type} {G : Nat → Nat → Int32} {j : Nat} {r : Nat} (s0 : SC c h) (hx : r < 8) : ∀ {q : AH → Option β}, pZ (wi h G) (some (c + 81 + 2 * r)) 8 j (nI 1) q = q (wi h (ug G (c + 81 + 2 * r) j (nI 1))) := pZ_w1 (SC_kr s0 hx)
theorem SC_oVr {β : Type} {G : Nat → Nat → Int32} {r : Nat} (s0 : SC c h) (hx : r < 8) : ∀ {q : Nat → Option β}, cV (wi h G) (some (c + 81 + 2 * r)) 8 q = q (c + 81 + 2 * r) := cV_w (SC_kr s0 hx)
theorem SC_oIw {β : Type} {G : Nat → Nat → Int32} {j : Nat} {s : Nat} (s0 : SC c h) (hx : s < 36) : ∀ {q : Int32 → Option β}, gI (wi h G) (some (c + 97 + 8 * s)) 9 j q = q (G (c + 97 + 8 * s) j) := gI_w (SC_ks s0 hx)
theorem SC_oPw {β : Type} {G : Nat → Nat → Int32} {j : Nat} {v : Int32} {s : Nat} (s0 : SC c h) (hx : s < 36) : ∀ {q : AH → Option β}, pI (wi h G) (some (c + 97 + 8 * s)) 9 j v q = q (wi h (ug G (c + 97 + 8 * s) j v)) := pI_w (SC_ks s0 hx)
theorem SC_oZw {β : Type} {G : Nat → Nat → Int32} {j : Nat} {s : Nat} (s0 : SC c h) (hx : s < 36) : ∀ {q : AH → Option β}, pZ (wi h G) (some (c + 97 + 8 * s)) 9 j 0 q = q (wi h (ug G (c + 97 + 8 * s) j (nI 0))) := pZ_w0 (SC_ks s0 hx)
theorem SC_oYw {β : Type} {G : Nat → Nat → Int32} {j : Nat} {s : Nat} (s0 : SC c h) (hx : s < 36) : ∀ {q : AH → Option β}, pZ (wi h G) (some (c + 97 + 8 * s)) 9 j 1 q = q (wi h (ug G (c + 97 + 8 * s) j (nI 1))) := pZ_w1 (SC_ks s0 hx)
theorem SC_ozw {β : Type} {G : Nat → Nat → Int32} {j : Nat} {s : Nat} (s0 : SC c h) (hx : s < 36) : ∀ {q : AH → Option β}, pZ (wi h G) (some (c + 97 + 8 * s)) 9 j (nI 0) q = q (wi h (ug G (c + 97 + 8 * s) j (nI 0))) := pZ_w0 (SC_ks s0 hx)
theorem SC_oyw {β : Type} {G : Nat → Nat → Int32} {j : Nat} {s : Nat} (s0 : SC c h) (hx : s < 36) : ∀ {q : AH → Option β}, pZ (wi h G) (some (c + 97 + 8 * s)) 9 j (nI 1) q = q (wi h (ug G (c + 97 + 8 * s) j (nI 1))) := pZ_w1 (SC_ks s0 hx)
theorem SC_oVw {β : Type} {G : Nat → Nat → Int32} {s : Nat} (s0 : SC c h) (hx : s < 36) : ∀ {q : Nat → Option β}, cV (wi h G) (some (c + 97 + 8 * s)) 9 q = q (c + 97 + 8 * s) := cV_w (SC_ks s0 hx)
theorem SC_oIh {β : Type} {G : Nat → Nat → Int32} {j : Nat} {s : Nat} (s0 : SC c h) (hx : s < 36) : ∀ {q : Int32 → Option β}, gI (wi h G) (some (c + 98 + 8 * s)) 2 j q = q (G (c + 98 + 8 * s) j) := gI_w (SC_kc s0 hx)
theorem SC_oPh {β : Type} {G : Nat → Nat → Int32} {j : Nat} {v : Int32} {s : Nat} (s0 : SC c h) (hx : s < 36) : ∀ {q : AH → Option β}, pI (wi h G) (some (c + 98 + 8 * s)) 2 j v q = q (wi h (ug G (c + 98 + 8 * s) j v)) := pI_w (SC_kc s0 hx)
theorem SC_oZh {β : Type} {G : Nat → Nat → Int32} {j : Nat} {s : Nat} (s0 : SC c h) (hx : s < 36) : ∀ {q : AH → Option β}, pZ (wi h G) (some (c + 98 + 8 * s)) 2 j 0 q = q (wi h (ug G (c + 98 + 8 * s) j (nI 0))) := pZ_w0 (SC_kc s0 hx)
theorem SC_oYh {β : Type} {G : Nat → Nat → Int32} {j : Nat} {s : Nat} (s0 : SC c h) (hx : s < 36) : ∀ {q : AH → Option β}, pZ (wi h G) (some (c + 98 + 8 * s)) 2 j 1 q = q (wi h (ug G (c + 98 + 8 * s) j (nI 1))) := pZ_w1 (SC_kc s0 hx)
theorem SC_ozh {β : Type} {G : Nat → Nat → Int32} {j : Nat} {s : Nat} (s0 : SC c h) (hx : s < 36) : ∀ {q : AH → Option β}, pZ (wi h G) (some (c + 98 + 8 * s)) 2 j (nI 0) q = q (wi h (ug G (c + 98 + 8 * s) j (nI 0))) := pZ_w0 (SC_kc s0 hx)
theorem SC_oyh {β : Type} {G : Nat → Nat → Int32} {j : Nat} {s : Nat} (s0 : SC c h) (hx : s < 36) : ∀ {q : AH → Option β}, pZ (wi h G) (some (c + 98 + 8 * s)) 2 j (nI 1) q = q (wi h (ug G (c + 98 + 8 * s) j (nI 1))) := pZ_w1 (SC_kc s0 hx)
theorem SC_oVh {β : Type} {G : Nat → Nat → Int32} {s : Nat} (s0 : SC c h) (hx : s < 36) : ∀ {q : Nat → Option β}, cV (wi h G) (some (c + 98 + 8 * s)) 2 q = q (c + 98 + 8 * s) := cV_w (SC_kc s0 hx)
theorem SC_a67 {β : Type} {G : Nat → Nat → Int32} {j : Nat} (s0 : SC c h) : ∀ {q : Int32 → Option β}, j < 120 → aI (wi h G) (some (c + 67)) 12 (nI j) q = q (G (c + 67) j) := fun hj => aI_w (SC_k67 s0) (by rw [SC_l67 s0]; exact hj) (by omega)
theorem SC_s67 {β : Type} {G : Nat → Nat → Int32} {j : Nat} {v : Int32} (s0 : SC c h) : ∀ {q : AH → Option β}, j < 120 → sI (wi h G) (some (c + 67)) 12 (nI j) v q = q (wi h (ug G (c + 67) j v)) := fun hj => sI_w (SC_k67 s0) (by rw [SC_l67 s0]; exact hj) (by omega)
theorem SC_n67 {β : Type} {G : Nat → Nat → Int32} (s0 : SC c h) : ∀ {q : Int32 → Option β}, aL (wi h G) (some (c + 67)) 12 q = q (nI 120) := (aL_w (SC_k67 s0)).trans (by rw [SC_l67 s0])
theorem SC_a69 {β : Type} {G : Nat → Nat → Int32} {j : Nat} (s0 : SC c h) : ∀ {q : Int32 → Option β}, j < 1440 → aI (wi h G) (some (c + 69)) 12 (nI j) q = q (G (c + 69) j) := fun hj => aI_w (SC_k69 s0) (by rw [SC_l69 s0]; exact hj) (by omega)
theorem SC_s69 {β : Type} {G : Nat → Nat → Int32} {j : Nat} {v : Int32} (s0 : SC c h) : ∀ {q : AH → Option β}, j < 1440 → sI (wi h G) (some (c + 69)) 12 (nI j) v q = q (wi h (ug G (c + 69) j v)) := fun hj => sI_w (SC_k69 s0) (by rw [SC_l69 s0]; exact hj) (by omega)
theorem SC_n69 {β : Type} {G : Nat → Nat → Int32} (s0 : SC c h) : ∀ {q : Int32 → Option β}, aL (wi h G) (some (c + 69)) 12 q = q (nI 1440) := (aL_w (SC_k69 s0)).trans (by rw [SC_l69 s0])
theorem SC_a70 {β : Type} {G : Nat → Nat → Int32} {j : Nat} (s0 : SC c h) : ∀ {q : Int32 → Option β}, j < 1440 → aI (wi h G) (some (c + 70)) 12 (nI j) q = q (G (c + 70) j) := fun hj => aI_w (SC_k70 s0) (by rw [SC_l70 s0]; exact hj) (by omega)
theorem SC_s70 {β : Type} {G : Nat → Nat → Int32} {j : Nat} {v : Int32} (s0 : SC c h) : ∀ {q : AH → Option β}, j < 1440 → sI (wi h G) (some (c + 70)) 12 (nI j) v q = q (wi h (ug G (c + 70) j v)) := fun hj => sI_w (SC_k70 s0) (by rw [SC_l70 s0]; exact hj) (by omega)
theorem SC_n70 {β : Type} {G : Nat → Nat → Int32} (s0 : SC c h) : ∀ {q : Int32 → Option β}, aL (wi h G) (some (c + 70)) 12 q = q (nI 1440) := (aL_w (SC_k70 s0)).trans (by rw [SC_l70 s0])
theorem SC_a71 {β : Type} {G : Nat → Nat → Int32} {j : Nat} (s0 : SC c h) : ∀ {q : Int32 → Option β}, j < 1440 → aI (wi h G) (some (c + 71)) 12 (nI j) q = q (G (c + 71) j) := fun hj => aI_w (SC_k71 s0) (by rw [SC_l71 s0]; exact hj) (by omega)
theorem SC_s71 {β : Type} {G : Nat → Nat → Int32} {j : Nat} {v : Int32} (s0 : SC c h) : ∀ {q : AH → Option β}, j < 1440 → sI (wi h G) (some (c + 71)) 12 (nI j) v q = q (wi h (ug G (c + 71) j v)) := fun hj => sI_w (SC_k71 s0) (by rw [SC_l71 s0]; exact hj) (by omega)
theorem SC_n71 {β : Type} {G : Nat → Nat → Int32} (s0 : SC c h) : ∀ {q : Int32 → Option β}, aL (wi h G) (some (c + 71)) 12 q = q (nI 1440) := (aL_w (SC_k71 s0)).trans (by rw [SC_l71 s0])
theorem SC_a73 {β : Type} {G : Nat → Nat → Int32} {j : Nat} (s0 : SC c h) : ∀ {q : Int32 → Option β}, j < 16 → aI (wi h G) (some (c + 73)) 12 (nI j) q = q (G (c + 73) j) := fun hj => aI_w (SC_k73 s0) (by rw [SC_l73 s0]; exact hj) (by omega)
theorem SC_s73 {β : Type} {G : Nat → Nat → Int32} {j : Nat} {v : Int32} (s0 : SC c h) : ∀ {q : AH → Option β}, j < 16 → sI (wi h G) (some (c + 73)) 12 (nI j) v q = q (wi h (ug G (c + 73) j v)) := fun hj => sI_w (SC_k73 s0) (by rw [SC_l73 s0]; exact hj) (by omega)
theorem SC_n73 {β : Type} {G : Nat → Nat → Int32} (s0 : SC c h) : ∀ {q : Int32 → Option β}, aL (wi h G) (some (c + 73)) 12 q = q (nI 16) := (aL_w (SC_k73 s0)).trans (by rw [SC_l73 s0])
theorem SC_a75 {β : Type} {G : Nat → Nat → Int32} {j : Nat} (s0 : SC c h) : ∀ {q : Int32 → Option β}, j < 60 → aI (wi h G) (some (c + 75)) 12 (nI j) q = q (G (c + 75) j) := fun hj => aI_w (SC_k75 s0) (by rw [SC_l75 s0]; exact hj) (by omega)
theorem SC_s75 {β : Type} {G : Nat → Nat → Int32} {j : Nat} {v : Int32} (s0 : SC c h) : ∀ {q : AH → Option β}, j < 60 → sI (wi h G) (some (c + 75)) 12 (nI j) v q = q (wi h (ug G (c + 75) j v)) := fun hj => sI_w (SC_k75 s0) (by rw [SC_l75 s0]; exact hj) (by omega)
theorem SC_n75 {β : Type} {G : Nat → Nat → Int32} (s0 : SC c h) : ∀ {q : Int32 → Option β}, aL (wi h G) (some (c + 75)) 12 q = q (nI 60) := (aL_w (SC_k75 s0)).trans (by rw [SC_l75 s0])
theorem SC_a76 {β : Type} {G : Nat → Nat → Int32} {j : Nat} (s0 : SC c h) : ∀ {q : Int32 → Option β}, j < 60 → aI (wi h G) (some (c + 76)) 12 (nI j) q = q (G (c + 76) j) := fun hj => aI_w (SC_k76 s0) (by rw [SC_l76 s0]; exact hj) (by omega)
theorem SC_s76 {β : Type} {G : Nat → Nat → Int32} {j : Nat} {v : Int32} (s0 : SC c h) : ∀ {q : AH → Option β}, j < 60 → sI (wi h G) (some (c + 76)) 12 (nI j) v q = q (wi h (ug G (c + 76) j v)) := fun hj => sI_w (SC_k76 s0) (by rw [SC_l76 s0]; exact hj) (by omega)
theorem SC_n76 {β : Type} {G : Nat → Nat → Int32} (s0 : SC c h) : ∀ {q : Int32 → Option β}, aL (wi h G) (some (c + 76)) 12 q = q (nI 60) := (aL_w (SC_k76 s0)).trans (by rw [SC_l76 s0])
theorem SC_a77 {β : Type} {G : Nat → Nat → Int32} {j : Nat} (s0 : SC c h) : ∀ {q : Int32 → Option β}, j < 61 → aI (wi h G) (some (c + 77)) 12 (nI j) q = q (G (c + 77) j) := fun hj => aI_w (SC_k77 s0) (by rw [SC_l77 s0]; exact hj) (by omega)
theorem SC_s77 {β : Type} {G : Nat → Nat → Int32} {j : Nat} {v : Int32} (s0 : SC c h) : ∀ {q : AH → Option β}, j < 61 → sI (wi h G) (some (c + 77)) 12 (nI j) v q = q (wi h (ug G (c + 77) j v)) := fun hj => sI_w (SC_k77 s0) (by rw [SC_l77 s0]; exact hj) (by omega)
theorem SC_n77 {β : Type} {G : Nat → Nat → Int32} (s0 : SC c h) : ∀ {q : Int32 → Option β}, aL (wi h G) (some (c + 77)) 12 q = q (nI 61) := (aL_w (SC_k77 s0)).trans (by rw [SC_l77 s0])
theorem SC_a78 {β : Type} {G : Nat → Nat → Int32} {j : Nat} (s0 : SC c h) : ∀ {q : Int32 → Option β}, j < 60 → aI (wi h G) (some (c + 78)) 12 (nI j) q = q (G (c + 78) j) := fun hj => aI_w (SC_k78 s0) (by rw [SC_l78 s0]; exact hj) (by omega)
theorem SC_s78 {β : Type} {G : Nat → Nat → Int32} {j : Nat} {v : Int32} (s0 : SC c h) : ∀ {q : AH → Option β}, j < 60 → sI (wi h G) (some (c + 78)) 12 (nI j) v q = q (wi h (ug G (c + 78) j v)) := fun hj => sI_w (SC_k78 s0) (by rw [SC_l78 s0]; exact hj) (by omega)
theorem SC_n78 {β : Type} {G : Nat → Nat → Int32} (s0 : SC c h) : ∀ {q : Int32 → Option β}, aL (wi h G) (some (c + 78)) 12 q = q (nI 60) := (aL_w (SC_k78 s0)).trans (by rw [SC_l78 s0])
theorem SC_a79 {β : Type} {G : Nat → Nat → Int32} {j : Nat} (s0 : SC c h) : ∀ {q : Int32 → Option β}, j < 60 → aI (wi h G) (some (c + 79)) 12 (nI j) q = q (G (c + 79) j) := fun hj => aI_w (SC_k79 s0) (by rw [SC_l79 s0]; exact hj) (by omega)
theorem SC_s79 {β : Type} {G : Nat → Nat → Int32} {j : Nat} {v : Int32} (s0 : SC c h) : ∀ {q : AH → Option β}, j < 60 → sI (wi h G) (some (c + 79)) 12 (nI j) v q = q (wi h (ug G (c + 79) j v)) := fun hj => sI_w (SC_k79 s0) (by rw [SC_l79 s0]; exact hj) (by omega)
theorem SC_n79 {β : Type} {G : Nat → Nat → Int32} (s0 : SC c h) : ∀ {q : Int32 → Option β}, aL (wi h G) (some (c + 79)) 12 q = q (nI 60) := (aL_w (SC_k79 s0)).trans (by rw [SC_l79 s0])
theorem SC_a80 {β : Type} {G : Nat → Nat → Int32} {j : Nat} (s0 : SC c h) : ∀ {q : Int32 → Option β}, j < 10 → aI (wi h G) (some (c + 80)) 12 (nI j) q = q (G (c + 80) j) := fun hj => aI_w (SC_k80 s0) (by rw [SC_l80 s0]; exact hj) (by omega)
theorem SC_s80 {β : Type} {G : Nat → Nat → Int32} {j : Nat} {v : Int32} (s0 : SC c h) : ∀ {q : AH → Option β}, j < 10 → sI (wi h G) (some (c + 80)) 12 (nI j) v q = q (wi h (ug G (c + 80) j v)) := fun hj => sI_w (SC_k80 s0) (by rw [SC_l80 s0]; exact hj) (by omega)
theorem SC_n80 {β : Type} {G : Nat → Nat → Int32} (s0 : SC c h) : ∀ {q : Int32 → Option β}, aL (wi h G) (some (c + 80)) 12 q = q (nI 10) := (aL_w (SC_k80 s0)).trans (by rw [SC_l80 s0])
theorem SC_ai {β : Type} {G : Nat → Nat → Int32} {j : Nat} {r : Nat} (s0 : SC c h) (hx : r < 8) : ∀ {q : Int32 → Option β}, j < 60 → aI (wi h G) (some (c + 82 + 2 * r)) 12 (nI j) q = q (G (c + 82 + 2 * r) j) := fun hj => aI_w (SC_ki s0 hx) (by rw [SC_li s0 hx]; exact hj) (by omega)
theorem SC_si {β : Type} {G : Nat → Nat → Int32} {j : Nat} {v : Int32} {r : Nat} (s0 : SC c h) (hx : r < 8) : ∀ {q : AH → Option β}, j < 60 → sI (wi h G) (some (c + 82 + 2 * r)) 12 (nI j) v q = q (wi h (ug G (c + 82 + 2 * r) j v)) := fun hj => sI_w (SC_ki s0 hx) (by rw [SC_li s0 hx]; exact hj) (by omega)
theorem SC_ni {β : Type} {G : Nat → Nat → Int32} {r : Nat} (s0 : SC c h) (hx : r < 8) : ∀ {q : Int32 → Option β}, aL (wi h G) (some (c + 82 + 2 * r)) 12 q = q (nI 60) := (aL_w (SC_ki s0 hx)).trans (by rw [SC_li s0 hx])
theorem SC_ag {β : Type} {G : Nat → Nat → Int32} {j : Nat} {i : Nat} (s0 : SC c h) (hx : i < 61) : ∀ {q : Int32 → Option β}, j < 61 → aI (wi h G) (some (c + 5 + i)) 12 (nI j) q = q (G (c + 5 + i) j) := fun hj => aI_w (SC_kg s0 hx) (by rw [SC_lg s0 hx]; exact hj) (by omega)
theorem SC_sg {β : Type} {G : Nat → Nat → Int32} {j : Nat} {v : Int32} {i : Nat} (s0 : SC c h) (hx : i < 61) : ∀ {q : AH → Option β}, j < 61 → sI (wi h G) (some (c + 5 + i)) 12 (nI j) v q = q (wi h (ug G (c + 5 + i) j v)) := fun hj => sI_w (SC_kg s0 hx) (by rw [SC_lg s0 hx]; exact hj) (by omega)
theorem SC_ng {β : Type} {G : Nat → Nat → Int32} {i : Nat} (s0 : SC c h) (hx : i < 61) : ∀ {q : Int32 → Option β}, aL (wi h G) (some (c + 5 + i)) 12 q = q (nI 61) := (aL_w (SC_kg s0 hx)).trans (by rw [SC_lg s0 hx])
theorem SC_ac0 {β : Type} {G : Nat → Nat → Int32} {j : Nat} {s : Nat} (s0 : SC c h) (hx : s < 36) : ∀ {q : Int32 → Option β}, j < 40 → aI (wi h G) (some (c + 99 + 8 * s)) 12 (nI j) q = q (G (c + 99 + 8 * s) j) := fun hj => aI_w (SC_kc0 s0 hx) (by rw [SC_lc0 s0 hx]; exact hj) (by omega)
theorem SC_sc0 {β : Type} {G : Nat → Nat → Int32} {j : Nat} {v : Int32} {s : Nat} (s0 : SC c h) (hx : s < 36) : ∀ {q : AH → Option β}, j < 40 → sI (wi h G) (some (c + 99 + 8 * s)) 12 (nI j) v q = q (wi h (ug G (c + 99 + 8 * s) j v)) := fun hj => sI_w (SC_kc0 s0 hx) (by rw [SC_lc0 s0 hx]; exact hj) (by omega)
theorem SC_nc0 {β : Type} {G : Nat → Nat → Int32} {s : Nat} (s0 : SC c h) (hx : s < 36) : ∀ {q : Int32 → Option β}, aL (wi h G) (some (c + 99 + 8 * s)) 12 q = q (nI 40) := (aL_w (SC_kc0 s0 hx)).trans (by rw [SC_lc0 s0 hx])
theorem SC_ac1 {β : Type} {G : Nat → Nat → Int32} {j : Nat} {s : Nat} (s0 : SC c h) (hx : s < 36) : ∀ {q : Int32 → Option β}, j < 40 → aI (wi h G) (some (c + 100 + 8 * s)) 12 (nI j) q = q (G (c + 100 + 8 * s) j) := fun hj => aI_w (SC_kc1 s0 hx) (by rw [SC_lc1 s0 hx]; exact hj) (by omega)
theorem SC_sc1 {β : Type} {G : Nat → Nat → Int32} {j : Nat} {v : Int32} {s : Nat} (s0 : SC c h) (hx : s < 36) : ∀ {q : AH → Option β}, j < 40 → sI (wi h G) (some (c + 100 + 8 * s)) 12 (nI j) v q = q (wi h (ug G (c + 100 + 8 * s) j v)) := fun hj => sI_w (SC_kc1 s0 hx) (by rw [SC_lc1 s0 hx]; exact hj) (by omega)
theorem SC_nc1 {β : Type} {G : Nat → Nat → Int32} {s : Nat} (s0 : SC c h) (hx : s < 36) : ∀ {q : Int32 → Option β}, aL (wi h G) (some (c + 100 + 8 * s)) 12 q = q (nI 40) := (aL_w (SC_kc1 s0 hx)).trans (by rw [SC_lc1 s0 hx])
theorem SC_ac2 {β : Type} {G : Nat → Nat → Int32} {j : Nat} {s : Nat} (s0 : SC c h) (hx : s < 36) : ∀ {q : Int32 → Option β}, j < 40 → aI (wi h G) (some (c + 101 + 8 * s)) 12 (nI j) q = q (G (c + 101 + 8 * s) j) := fun hj => aI_w (SC_kc2 s0 hx) (by rw [SC_lc2 s0 hx]; exact hj) (by omega)
theorem SC_sc2 {β : Type} {G : Nat → Nat → Int32} {j : Nat} {v : Int32} {s : Nat} (s0 : SC c h) (hx : s < 36) : ∀ {q : AH → Option β}, j < 40 → sI (wi h G) (some (c + 101 + 8 * s)) 12 (nI j) v q = q (wi h (ug G (c + 101 + 8 * s) j v)) := fun hj => sI_w (SC_kc2 s0 hx) (by rw [SC_lc2 s0 hx]; exact hj) (by omega)
theorem SC_nc2 {β : Type} {G : Nat → Nat → Int32} {s : Nat} (s0 : SC c h) (hx : s < 36) : ∀ {q : Int32 → Option β}, aL (wi h G) (some (c + 101 + 8 * s)) 12 q = q (nI 40) := (aL_w (SC_kc2 s0 hx)).trans (by rw [SC_lc2 s0 hx])
theorem SC_ac3 {β : Type} {G : Nat → Nat → Int32} {j : Nat} {s : Nat} (s0 : SC c h) (hx : s < 36) : ∀ {q : Int32 → Option β}, j < 40 → aI (wi h G) (some (c + 102 + 8 * s)) 12 (nI j) q = q (G (c + 102 + 8 * s) j) := fun hj => aI_w (SC_kc3 s0 hx) (by rw [SC_lc3 s0 hx]; exact hj) (by omega)
theorem SC_sc3 {β : Type} {G : Nat → Nat → Int32} {j : Nat} {v : Int32} {s : Nat} (s0 : SC c h) (hx : s < 36) : ∀ {q : AH → Option β}, j < 40 → sI (wi h G) (some (c + 102 + 8 * s)) 12 (nI j) v q = q (wi h (ug G (c + 102 + 8 * s) j v)) := fun hj => sI_w (SC_kc3 s0 hx) (by rw [SC_lc3 s0 hx]; exact hj) (by omega)
theorem SC_nc3 {β : Type} {G : Nat → Nat → Int32} {s : Nat} (s0 : SC c h) (hx : s < 36) : ∀ {q : Int32 → Option β}, aL (wi h G) (some (c + 102 + 8 * s)) 12 q = q (nI 40) := (aL_w (SC_kc3 s0 hx)).trans (by rw [SC_lc3 s0 hx])
theorem SC_ac4 {β : Type} {G : Nat → Nat → Int32} {j : Nat} {s : Nat} (s0 : SC c h) (hx : s < 36) : ∀ {q : Int32 → Option β}, j < 40 → aI (wi h G) (some (c + 103 + 8 * s)) 12 (nI j) q = q (G (c + 103 + 8 * s) j) := fun hj => aI_w (SC_kc4 s0 hx) (by rw [SC_lc4 s0 hx]; exact hj) (by omega)
theorem SC_sc4 {β : Type} {G : Nat → Nat → Int32} {j : Nat} {v : Int32} {s : Nat} (s0 : SC c h) (hx : s < 36) : ∀ {q : AH → Option β}, j < 40 → sI (wi h G) (some (c + 103 + 8 * s)) 12 (nI j) v q = q (wi h (ug G (c + 103 + 8 * s) j v)) := fun hj => sI_w (SC_kc4 s0 hx) (by rw [SC_lc4 s0 hx]; exact hj) (by omega)
theorem SC_nc4 {β : Type} {G : Nat → Nat → Int32} {s : Nat} (s0 : SC c h) (hx : s < 36) : ∀ {q : Int32 → Option β}, aL (wi h G) (some (c + 103 + 8 * s)) 12 q = q (nI 40) := (aL_w (SC_kc4 s0 hx)).trans (by rw [SC_lc4 s0 hx])
theorem SC_wi {G : Nat → Nat → Int32} (s : SC c h) : SC c (wi h G) := s
end PSHAPE
