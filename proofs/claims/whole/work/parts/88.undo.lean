section PUNDO
variable {c m t r s : Nat} {hC hM h h' : AH} {own own' : Nat → Nat} {G G' : Nat → Nat → Int32}
variable {ru fd fd' : Int32} {rw rw' : Nat → Option Rw} {kp gv : Nat → Option An} {lk : Nat → List Nat} {bk bk' : Nat × (Nat → En)} {tr tr' : Nat × (Nat → Int32)}
/-- the places that the book and what it holds take -/
def sB (own : Nat → Nat) (c a j : Nat) : Prop := (c + 385 ≤ a ∧ 100 ≤ own a) ∨ (a = c ∧ j = 8) ∨ a = c + 72
theorem RCC_book (p : RCC own c h (ru, rw, kp, gv, lk, bk, tr, fd)) (F : Fr h h' (sB own c)) (hS : SC c h') (ho : Sown own own' h) (hb : bookC h' own' c bk'.1 bk'.2) : RCC own' c h' (ru, rw, kp, gv, lk, bk', tr, fd) := by
  obtain ⟨⟨p1, p2, p3, p4, p5, p6, p7, p8, p9⟩, p10⟩ := p
  have hn := SC_nx p1
  have h0 : Ok0 (sB own c) own c h := fun a j h1 h2 h3 => by unfold sB; omega
  refine ⟨⟨hS, nmC_fr p2 ?_, ?_, rowsC_fr p4 ?_, anssC_fr p5 F hn ?_ ?_ h0 ho, looksC_fr p6 F hn ?_ ?_ ho, hb, trC_fr p8 ?_ ?_, ?_⟩, CC_fr p10 ?_ ?_ ?_ ?_⟩
  · exact fun s' hs' => ⟨F.gi (by omega) (by unfold sB; omega), F.gi (by omega) (by unfold sB; omega)⟩
  · exact (F.gi (by omega) (by unfold sB; omega)).trans p3
  · exact fun a j z1 z2 => F.gi (by omega) (by unfold sB; omega)
  · exact fun s' hs' => by unfold sB; omega
  · exact fun s' hs' => by unfold sB; omega
  · exact fun s' hs' => ⟨by unfold sB; omega, by unfold sB; omega⟩
  · intro s' hs' a j z1 z2 z3; unfold sB; omega
  · exact F.gi (by omega) (by unfold sB; omega)
  · exact fun j => F.gi (by omega) (by unfold sB; omega)
  · exact (F.gi (by omega) (by unfold sB; omega)).trans p9
  · exact F.gi (by omega) (by unfold sB; omega)
  · exact fun a j z1 z2 => F.gi (by omega) (by unfold sB; omega)
  · exact fun s' hs' => F.gi (by omega) (by unfold sB; omega)
  · exact fun s' a j hs' z1 z2 => F.gi (by omega) (by unfold sB; omega)
theorem RM_book (p : RM m h (ru, rw, kp, gv, lk, bk, tr, fd)) (e : ∀ a j, ¬ scrM m a j → ¬ (a = m ∧ j = 37) → ¬ (m + 31 ≤ a ∧ a ≤ m + 41) → G' a j = a_gi h a j) (hb : bookM G' m bk'.1 bk'.2) : RM m (wi h G') (ru, rw, kp, gv, lk, bk', tr, fd) := by
  obtain ⟨p1, p2, p3, p4, p5, p6, p7, p8⟩ := p
  refine ⟨SM_wi p1, ?_, rowsM_fr p3 ?_, anssM_fr p4 ?_, looksM_fr p5 ?_, hb, trM_fr p7 ?_ ?_, ?_⟩
  · exact (e _ _ (by unfold scrM; omega) (by omega) (by omega)).trans p2
  · exact fun a j h1 h2 => e _ _ (by unfold scrM; omega) (by omega) (by omega)
  · exact fun a j h1 h2 => e _ _ (by unfold scrM; omega) (by omega) (by omega)
  · exact fun a j h1 h2 => e _ _ (by unfold scrM; omega) (by omega) (by omega)
  · exact e _ _ (by unfold scrM; omega) (by omega) (by omega)
  · exact fun j => e _ _ (by unfold scrM; omega) (by omega) (by omega)
  · exact (e _ _ (by unfold scrM; omega) (by omega) (by omega)).trans p8
theorem bookC_fr2 {S : Nat → Nat → Prop} {nb : Nat} {be : Nat → En} (p : bookC h own c nb be) (F : Fr h h' S) (hn : c + 385 ≤ a_nx h) (h8 : a_gi h' c 8 = a_gi h c 8) (h72 : ∀ e, e < nb → ¬ S (c + 72) e) (hS : Ok0 S own c h) (hE : ∀ e, e < nb → ∀ a j, c + 385 ≤ a → a < a_nx h → own a = 100 + e → ¬ S a j) (ho : Sown own own' h) : bookC h' own' c nb be := by
  refine ⟨h8.trans p.1, fun e he => ?_⟩
  obtain ⟨a, p1, p2⟩ := p.2 e he
  exact ⟨a, (F.gr (by omega) (h72 e he)).trans p1, enC_fr p2 F hS (hE e he) ho⟩
/-- the last entry below k that isn't undone -/
def lst (be : Nat → En) : Nat → Option Nat
  | 0 => none
  | k + 1 => if (be k).2.2.2.2.1 = 0 then some k else lst be k
theorem lst_t {be : Nat → En} {k : Nat} (h : (be k).2.2.2.2.1 = 0) : lst be (k + 1) = some k := if_pos h
theorem lst_f {be : Nat → En} {k : Nat} (h : ¬ (be k).2.2.2.2.1 = 0) : lst be (k + 1) = lst be k := if_neg h
theorem lst_lt {be : Nat → En} : ∀ {k e : Nat}, lst be k = some e → e < k
  | 0, e, h => by cases h
  | k + 1, e, h => by
    by_cases z : (be k).2.2.2.2.1 = 0
    · rw [lst_t z] at h; cases h; omega
    · rw [lst_f z] at h; have := lst_lt h; omega
def lstI : Option Nat → Int32
  | none => -nI 1
  | some e => nI e
theorem sub_jm (k : Nat) : nI k - nI 1 = jm k := by
  cases k with
  | zero => decide
  | succ k => rw [jm_s, n_sub (by omega), Nat.add_sub_cancel]
theorem C_undo_L7 (s0 : SC c h) (K : Nat → Int32 → AH → RX Int32) {nb : Nat} {be : Nat → En} (hn : nb ≤ 100) (p : bookC h own c nb be) (ok : ∀ e, e < nb → okE (be e)) : ∀ k fu, k ≤ nb → k < fu → f_X10_undo_L7 K fu c (jm k) (wi h (a_gi h)) = K c (lstI (lst be k)) (wi h (a_gi h)) := by
  obtain ⟨p1, p2⟩ := p
  intro k
  induction k with
  | zero =>
    intro fu hk hfu
    obtain ⟨fu, rfl⟩ : ∃ k, fu = k + 1 := ⟨fu - 1, by omega⟩
    rw [jm_0]
    show _ = K c (-nI 1) _
    simp (disch := omega) only [f_X10_undo_L7, ↓SC_g1 s0, ↓SC_g2 s0, ↓SC_g74 s0, ↓SC_g3 s0, ↓SC_g66 s0, ↓SC_g68 s0, ↓SC_g72 s0, ↓SC_g73 s0, ↓SC_g4 s0, ↓SC_g67 s0, ↓SC_g69 s0, ↓SC_g70 s0, ↓SC_g71 s0, ↓SC_g75 s0, ↓SC_g76 s0, ↓SC_g77 s0, ↓SC_g78 s0, ↓SC_g79 s0, ↓SC_g80 s0, ↓SC_gri s0, ↓SC_grc s0, ↓SC_grc0 s0, ↓SC_grc1 s0, ↓SC_grc2 s0, ↓SC_grc3 s0, ↓SC_grc4 s0, ↓SC_grr s0, ↓SC_grs s0, ↓SC_grg s0, ↓SC_b72 s0, ↓SC_oI0 s0, ↓SC_oP0 s0, ↓SC_oZ0 s0, ↓SC_oY0 s0, ↓SC_oz0 s0, ↓SC_oy0 s0, ↓SC_oV0 s0, ↓SC_oI3 s0, ↓SC_oP3 s0, ↓SC_oZ3 s0, ↓SC_oY3 s0, ↓SC_oz3 s0, ↓SC_oy3 s0, ↓SC_oV3 s0, ↓SC_oI66 s0, ↓SC_oP66 s0, ↓SC_oZ66 s0, ↓SC_oY66 s0, ↓SC_oz66 s0, ↓SC_oy66 s0, ↓SC_oV66 s0, ↓SC_oI68 s0, ↓SC_oP68 s0, ↓SC_oZ68 s0, ↓SC_oY68 s0, ↓SC_oz68 s0, ↓SC_oy68 s0, ↓SC_oV68 s0, ↓SC_oI74 s0, ↓SC_oP74 s0, ↓SC_oZ74 s0, ↓SC_oY74 s0, ↓SC_oz74 s0, ↓SC_oy74 s0, ↓SC_oV74 s0, ↓SC_oIr s0, ↓SC_oPr s0, ↓SC_oZr s0, ↓SC_oYr s0, ↓SC_ozr s0, ↓SC_oyr s0, ↓SC_oVr s0, ↓SC_oIw s0, ↓SC_oPw s0, ↓SC_oZw s0, ↓SC_oYw s0, ↓SC_ozw s0, ↓SC_oyw s0, ↓SC_oVw s0, ↓SC_oIh s0, ↓SC_oPh s0, ↓SC_oZh s0, ↓SC_oYh s0, ↓SC_ozh s0, ↓SC_oyh s0, ↓SC_oVh s0, ↓SC_a67 s0, ↓SC_s67 s0, ↓SC_n67 s0, ↓SC_a69 s0, ↓SC_s69 s0, ↓SC_n69 s0, ↓SC_a70 s0, ↓SC_s70 s0, ↓SC_n70 s0, ↓SC_a71 s0, ↓SC_s71 s0, ↓SC_n71 s0, ↓SC_a73 s0, ↓SC_s73 s0, ↓SC_n73 s0, ↓SC_a75 s0, ↓SC_s75 s0, ↓SC_n75 s0, ↓SC_a76 s0, ↓SC_s76 s0, ↓SC_n76 s0, ↓SC_a77 s0, ↓SC_s77 s0, ↓SC_n77 s0, ↓SC_a78 s0, ↓SC_s78 s0, ↓SC_n78 s0, ↓SC_a79 s0, ↓SC_s79 s0, ↓SC_n79 s0, ↓SC_a80 s0, ↓SC_s80 s0, ↓SC_n80 s0, ↓SC_ai s0, ↓SC_si s0, ↓SC_ni s0, ↓SC_ag s0, ↓SC_sg s0, ↓SC_ng s0, ↓SC_ac0 s0, ↓SC_sc0 s0, ↓SC_nc0 s0, ↓SC_ac1 s0, ↓SC_sc1 s0, ↓SC_nc1 s0, ↓SC_ac2 s0, ↓SC_sc2 s0, ↓SC_nc2 s0, ↓SC_ac3 s0, ↓SC_sc3 s0, ↓SC_nc3 s0, ↓SC_ac4 s0, ↓SC_sc4 s0, ↓SC_nc4 s0, SC_b72 s0, SC_oI0 s0, SC_oP0 s0, SC_oZ0 s0, SC_oY0 s0, SC_oz0 s0, SC_oy0 s0, SC_oV0 s0, SC_oI3 s0, SC_oP3 s0, SC_oZ3 s0, SC_oY3 s0, SC_oz3 s0, SC_oy3 s0, SC_oV3 s0, SC_oI66 s0, SC_oP66 s0, SC_oZ66 s0, SC_oY66 s0, SC_oz66 s0, SC_oy66 s0, SC_oV66 s0, SC_oI68 s0, SC_oP68 s0, SC_oZ68 s0, SC_oY68 s0, SC_oz68 s0, SC_oy68 s0, SC_oV68 s0, SC_oI74 s0, SC_oP74 s0, SC_oZ74 s0, SC_oY74 s0, SC_oz74 s0, SC_oy74 s0, SC_oV74 s0, SC_oIr s0, SC_oPr s0, SC_oZr s0, SC_oYr s0, SC_ozr s0, SC_oyr s0, SC_oVr s0, SC_oIw s0, SC_oPw s0, SC_oZw s0, SC_oYw s0, SC_ozw s0, SC_oyw s0, SC_oVw s0, SC_oIh s0, SC_oPh s0, SC_oZh s0, SC_oYh s0, SC_ozh s0, SC_oyh s0, SC_oVh s0, SC_a67 s0, SC_s67 s0, SC_n67 s0, SC_a69 s0, SC_s69 s0, SC_n69 s0, SC_a70 s0, SC_s70 s0, SC_n70 s0, SC_a71 s0, SC_s71 s0, SC_n71 s0, SC_a73 s0, SC_s73 s0, SC_n73 s0, SC_a75 s0, SC_s75 s0, SC_n75 s0, SC_a76 s0, SC_s76 s0, SC_n76 s0, SC_a77 s0, SC_s77 s0, SC_n77 s0, SC_a78 s0, SC_s78 s0, SC_n78 s0, SC_a79 s0, SC_s79 s0, SC_n79 s0, SC_a80 s0, SC_s80 s0, SC_n80 s0, SC_ai s0, SC_si s0, SC_ni s0, SC_ag s0, SC_sg s0, SC_ng s0, SC_ac0 s0, SC_sc0 s0, SC_nc0 s0, SC_ac1 s0, SC_sc1 s0, SC_nc1 s0, SC_ac2 s0, SC_sc2 s0, SC_nc2 s0, SC_ac3 s0, SC_sc3 s0, SC_nc3 s0, SC_ac4 s0, SC_sc4 s0, SC_nc4 s0, SC_g1 s0, SC_g2 s0, SC_g74 s0, SC_g3 s0, SC_g66 s0, SC_g68 s0, SC_g72 s0, SC_g73 s0, SC_g4 s0, SC_g67 s0, SC_g69 s0, SC_g70 s0, SC_g71 s0, SC_g75 s0, SC_g76 s0, SC_g77 s0, SC_g78 s0, SC_g79 s0, SC_g80 s0, SC_gri s0, SC_grc s0, SC_grc0 s0, SC_grc1 s0, SC_grc2 s0, SC_grc3 s0, SC_grc4 s0, SC_grr s0, SC_grs s0, SC_grg s0, ↓nn_s, ↓nn_n, ↓bnd_s, nn_s, nn_n, bnd_s, rI, rZ, rV, rR, wA00, n_sub, nI_add, pk_mul, n_m1, n_leI, n_ltI, n_eqI, n_eqm1, n_0m1, n_m10, n_cl, n_div, n_rem, li_0, li_1, li_2, li_3, li_4, li_5, li_6, li_7, li_8, li_9, li_10, li_11, li_12, li_13, li_16, li_20, li_21, li_22, li_36, li_40, li_59, li_60, li_61, li_99, li_100, li_109, li_110, li_119, li_120, li_121, li_512, li_3721, li_1000000, li_1000001, li_1000002, li_1000003, li_1000010, t_lt, t_le, f_lt, f_le, t_eq, f_eq, if_true, if_false, true_and, and_true, or_true, true_or, or_false, false_or, and_false, false_and, not_true_eq_false, not_false_eq_true, Nat.zero_add, Nat.add_zero, Nat.mul_zero]
  | succ k ih =>
    intro fu hk hfu
    obtain ⟨fu, rfl⟩ : ∃ k, fu = k + 1 := ⟨fu - 1, by omega⟩
    obtain ⟨a, ha, hk5, _, _, _, _, _, _, _, q4, _⟩ := p2 k (by omega)
    rw [jm_s]
    rcases (ok k (by omega)).1 with z | z
    · rw [lst_t z]
      rw [z] at q4
      show _ = K c (nI k) _
      simp (disch := omega) only [f_X10_undo_L7, ha, gI_w hk5, q4, ↓SC_g1 s0, ↓SC_g2 s0, ↓SC_g74 s0, ↓SC_g3 s0, ↓SC_g66 s0, ↓SC_g68 s0, ↓SC_g72 s0, ↓SC_g73 s0, ↓SC_g4 s0, ↓SC_g67 s0, ↓SC_g69 s0, ↓SC_g70 s0, ↓SC_g71 s0, ↓SC_g75 s0, ↓SC_g76 s0, ↓SC_g77 s0, ↓SC_g78 s0, ↓SC_g79 s0, ↓SC_g80 s0, ↓SC_gri s0, ↓SC_grc s0, ↓SC_grc0 s0, ↓SC_grc1 s0, ↓SC_grc2 s0, ↓SC_grc3 s0, ↓SC_grc4 s0, ↓SC_grr s0, ↓SC_grs s0, ↓SC_grg s0, ↓SC_b72 s0, ↓SC_oI0 s0, ↓SC_oP0 s0, ↓SC_oZ0 s0, ↓SC_oY0 s0, ↓SC_oz0 s0, ↓SC_oy0 s0, ↓SC_oV0 s0, ↓SC_oI3 s0, ↓SC_oP3 s0, ↓SC_oZ3 s0, ↓SC_oY3 s0, ↓SC_oz3 s0, ↓SC_oy3 s0, ↓SC_oV3 s0, ↓SC_oI66 s0, ↓SC_oP66 s0, ↓SC_oZ66 s0, ↓SC_oY66 s0, ↓SC_oz66 s0, ↓SC_oy66 s0, ↓SC_oV66 s0, ↓SC_oI68 s0, ↓SC_oP68 s0, ↓SC_oZ68 s0, ↓SC_oY68 s0, ↓SC_oz68 s0, ↓SC_oy68 s0, ↓SC_oV68 s0, ↓SC_oI74 s0, ↓SC_oP74 s0, ↓SC_oZ74 s0, ↓SC_oY74 s0, ↓SC_oz74 s0, ↓SC_oy74 s0, ↓SC_oV74 s0, ↓SC_oIr s0, ↓SC_oPr s0, ↓SC_oZr s0, ↓SC_oYr s0, ↓SC_ozr s0, ↓SC_oyr s0, ↓SC_oVr s0, ↓SC_oIw s0, ↓SC_oPw s0, ↓SC_oZw s0, ↓SC_oYw s0, ↓SC_ozw s0, ↓SC_oyw s0, ↓SC_oVw s0, ↓SC_oIh s0, ↓SC_oPh s0, ↓SC_oZh s0, ↓SC_oYh s0, ↓SC_ozh s0, ↓SC_oyh s0, ↓SC_oVh s0, ↓SC_a67 s0, ↓SC_s67 s0, ↓SC_n67 s0, ↓SC_a69 s0, ↓SC_s69 s0, ↓SC_n69 s0, ↓SC_a70 s0, ↓SC_s70 s0, ↓SC_n70 s0, ↓SC_a71 s0, ↓SC_s71 s0, ↓SC_n71 s0, ↓SC_a73 s0, ↓SC_s73 s0, ↓SC_n73 s0, ↓SC_a75 s0, ↓SC_s75 s0, ↓SC_n75 s0, ↓SC_a76 s0, ↓SC_s76 s0, ↓SC_n76 s0, ↓SC_a77 s0, ↓SC_s77 s0, ↓SC_n77 s0, ↓SC_a78 s0, ↓SC_s78 s0, ↓SC_n78 s0, ↓SC_a79 s0, ↓SC_s79 s0, ↓SC_n79 s0, ↓SC_a80 s0, ↓SC_s80 s0, ↓SC_n80 s0, ↓SC_ai s0, ↓SC_si s0, ↓SC_ni s0, ↓SC_ag s0, ↓SC_sg s0, ↓SC_ng s0, ↓SC_ac0 s0, ↓SC_sc0 s0, ↓SC_nc0 s0, ↓SC_ac1 s0, ↓SC_sc1 s0, ↓SC_nc1 s0, ↓SC_ac2 s0, ↓SC_sc2 s0, ↓SC_nc2 s0, ↓SC_ac3 s0, ↓SC_sc3 s0, ↓SC_nc3 s0, ↓SC_ac4 s0, ↓SC_sc4 s0, ↓SC_nc4 s0, SC_b72 s0, SC_oI0 s0, SC_oP0 s0, SC_oZ0 s0, SC_oY0 s0, SC_oz0 s0, SC_oy0 s0, SC_oV0 s0, SC_oI3 s0, SC_oP3 s0, SC_oZ3 s0, SC_oY3 s0, SC_oz3 s0, SC_oy3 s0, SC_oV3 s0, SC_oI66 s0, SC_oP66 s0, SC_oZ66 s0, SC_oY66 s0, SC_oz66 s0, SC_oy66 s0, SC_oV66 s0, SC_oI68 s0, SC_oP68 s0, SC_oZ68 s0, SC_oY68 s0, SC_oz68 s0, SC_oy68 s0, SC_oV68 s0, SC_oI74 s0, SC_oP74 s0, SC_oZ74 s0, SC_oY74 s0, SC_oz74 s0, SC_oy74 s0, SC_oV74 s0, SC_oIr s0, SC_oPr s0, SC_oZr s0, SC_oYr s0, SC_ozr s0, SC_oyr s0, SC_oVr s0, SC_oIw s0, SC_oPw s0, SC_oZw s0, SC_oYw s0, SC_ozw s0, SC_oyw s0, SC_oVw s0, SC_oIh s0, SC_oPh s0, SC_oZh s0, SC_oYh s0, SC_ozh s0, SC_oyh s0, SC_oVh s0, SC_a67 s0, SC_s67 s0, SC_n67 s0, SC_a69 s0, SC_s69 s0, SC_n69 s0, SC_a70 s0, SC_s70 s0, SC_n70 s0, SC_a71 s0, SC_s71 s0, SC_n71 s0, SC_a73 s0, SC_s73 s0, SC_n73 s0, SC_a75 s0, SC_s75 s0, SC_n75 s0, SC_a76 s0, SC_s76 s0, SC_n76 s0, SC_a77 s0, SC_s77 s0, SC_n77 s0, SC_a78 s0, SC_s78 s0, SC_n78 s0, SC_a79 s0, SC_s79 s0, SC_n79 s0, SC_a80 s0, SC_s80 s0, SC_n80 s0, SC_ai s0, SC_si s0, SC_ni s0, SC_ag s0, SC_sg s0, SC_ng s0, SC_ac0 s0, SC_sc0 s0, SC_nc0 s0, SC_ac1 s0, SC_sc1 s0, SC_nc1 s0, SC_ac2 s0, SC_sc2 s0, SC_nc2 s0, SC_ac3 s0, SC_sc3 s0, SC_nc3 s0, SC_ac4 s0, SC_sc4 s0, SC_nc4 s0, SC_g1 s0, SC_g2 s0, SC_g74 s0, SC_g3 s0, SC_g66 s0, SC_g68 s0, SC_g72 s0, SC_g73 s0, SC_g4 s0, SC_g67 s0, SC_g69 s0, SC_g70 s0, SC_g71 s0, SC_g75 s0, SC_g76 s0, SC_g77 s0, SC_g78 s0, SC_g79 s0, SC_g80 s0, SC_gri s0, SC_grc s0, SC_grc0 s0, SC_grc1 s0, SC_grc2 s0, SC_grc3 s0, SC_grc4 s0, SC_grr s0, SC_grs s0, SC_grg s0, ↓nn_s, ↓nn_n, ↓bnd_s, nn_s, nn_n, bnd_s, rI, rZ, rV, rR, wA00, n_sub, nI_add, pk_mul, n_m1, n_leI, n_ltI, n_eqI, n_eqm1, n_0m1, n_m10, n_cl, n_div, n_rem, li_0, li_1, li_2, li_3, li_4, li_5, li_6, li_7, li_8, li_9, li_10, li_11, li_12, li_13, li_16, li_20, li_21, li_22, li_36, li_40, li_59, li_60, li_61, li_99, li_100, li_109, li_110, li_119, li_120, li_121, li_512, li_3721, li_1000000, li_1000001, li_1000002, li_1000003, li_1000010, t_lt, t_le, f_lt, f_le, t_eq, f_eq, if_true, if_false, true_and, and_true, or_true, true_or, or_false, false_or, and_false, false_and, not_true_eq_false, not_false_eq_true, Nat.zero_add, Nat.add_zero, Nat.mul_zero]
    · rw [lst_f (by rw [z]; decide)]
      rw [z] at q4
      refine Eq.trans ?_ (ih fu (by omega) (by omega))
      have e : nI k + (-nI 1) = jm k := rfl
      simp (disch := omega) only [f_X10_undo_L7, ha, gI_w hk5, q4, e, SC_g72 s0, SC_b72 s0, li_0, li_1, n10, n_ltI, f_lt, if_false]
theorem M_undo_L12 (s0 : SM m h) (K : Nat → Int32 → AH → RX Int32) {nb : Nat} {be : Nat → En} (hn : nb ≤ 100) (p : bookM G m nb be) (ok : ∀ e, e < nb → okE (be e)) : ∀ k fu, k ≤ nb → k < fu → f_X11_undo_L12 K fu m (jm k) (wi h G) = K m (lstI (lst be k)) (wi h G) := by
  obtain ⟨p1, p2⟩ := p
  intro k
  induction k with
  | zero =>
    intro fu hk hfu
    obtain ⟨fu, rfl⟩ : ∃ k, fu = k + 1 := ⟨fu - 1, by omega⟩
    rw [jm_0]
    show _ = K m (-nI 1) _
    simp (disch := omega) only [f_X11_undo_L12, ↓SM_g1 s0, ↓SM_g2 s0, ↓SM_g3 s0, ↓SM_g4 s0, ↓SM_g5 s0, ↓SM_g6 s0, ↓SM_g7 s0, ↓SM_g8 s0, ↓SM_g9 s0, ↓SM_g10 s0, ↓SM_g11 s0, ↓SM_g12 s0, ↓SM_g13 s0, ↓SM_g14 s0, ↓SM_g15 s0, ↓SM_g16 s0, ↓SM_g17 s0, ↓SM_g18 s0, ↓SM_g19 s0, ↓SM_g20 s0, ↓SM_g21 s0, ↓SM_g22 s0, ↓SM_g23 s0, ↓SM_g24 s0, ↓SM_g25 s0, ↓SM_g26 s0, ↓SM_g27 s0, ↓SM_g28 s0, ↓SM_g29 s0, ↓SM_g30 s0, ↓SM_g31 s0, ↓SM_g32 s0, ↓SM_g33 s0, ↓SM_g34 s0, ↓SM_g35 s0, ↓SM_g36 s0, ↓SM_g37 s0, ↓SM_g38 s0, ↓SM_g39 s0, ↓SM_g40 s0, ↓SM_g41 s0, ↓SM_g42 s0, ↓SM_oI s0, ↓SM_oP s0, ↓SM_oV s0, ↓SM_a1 s0, ↓SM_s1 s0, ↓SM_a2 s0, ↓SM_s2 s0, ↓SM_a3 s0, ↓SM_s3 s0, ↓SM_a4 s0, ↓SM_s4 s0, ↓SM_a5 s0, ↓SM_s5 s0, ↓SM_a6 s0, ↓SM_s6 s0, ↓SM_a7 s0, ↓SM_s7 s0, ↓SM_a8 s0, ↓SM_s8 s0, ↓SM_a9 s0, ↓SM_s9 s0, ↓SM_a10 s0, ↓SM_s10 s0, ↓SM_a11 s0, ↓SM_s11 s0, ↓SM_a12 s0, ↓SM_s12 s0, ↓SM_a13 s0, ↓SM_s13 s0, ↓SM_a14 s0, ↓SM_s14 s0, ↓SM_a15 s0, ↓SM_s15 s0, ↓SM_a16 s0, ↓SM_s16 s0, ↓SM_a17 s0, ↓SM_s17 s0, ↓SM_a18 s0, ↓SM_s18 s0, ↓SM_a19 s0, ↓SM_s19 s0, ↓SM_a20 s0, ↓SM_s20 s0, ↓SM_a21 s0, ↓SM_s21 s0, ↓SM_a22 s0, ↓SM_s22 s0, ↓SM_a23 s0, ↓SM_s23 s0, ↓SM_a24 s0, ↓SM_s24 s0, ↓SM_a25 s0, ↓SM_s25 s0, ↓SM_a26 s0, ↓SM_s26 s0, ↓SM_a27 s0, ↓SM_s27 s0, ↓SM_a28 s0, ↓SM_s28 s0, ↓SM_a29 s0, ↓SM_s29 s0, ↓SM_a30 s0, ↓SM_s30 s0, ↓SM_a31 s0, ↓SM_s31 s0, ↓SM_a32 s0, ↓SM_s32 s0, ↓SM_a33 s0, ↓SM_s33 s0, ↓SM_a34 s0, ↓SM_s34 s0, ↓SM_a35 s0, ↓SM_s35 s0, ↓SM_a36 s0, ↓SM_s36 s0, ↓SM_a37 s0, ↓SM_s37 s0, ↓SM_a38 s0, ↓SM_s38 s0, ↓SM_a39 s0, ↓SM_s39 s0, ↓SM_a40 s0, ↓SM_s40 s0, ↓SM_a41 s0, ↓SM_s41 s0, ↓SM_a42 s0, ↓SM_s42 s0, SM_oI s0, SM_oP s0, SM_oV s0, SM_a1 s0, SM_s1 s0, SM_a2 s0, SM_s2 s0, SM_a3 s0, SM_s3 s0, SM_a4 s0, SM_s4 s0, SM_a5 s0, SM_s5 s0, SM_a6 s0, SM_s6 s0, SM_a7 s0, SM_s7 s0, SM_a8 s0, SM_s8 s0, SM_a9 s0, SM_s9 s0, SM_a10 s0, SM_s10 s0, SM_a11 s0, SM_s11 s0, SM_a12 s0, SM_s12 s0, SM_a13 s0, SM_s13 s0, SM_a14 s0, SM_s14 s0, SM_a15 s0, SM_s15 s0, SM_a16 s0, SM_s16 s0, SM_a17 s0, SM_s17 s0, SM_a18 s0, SM_s18 s0, SM_a19 s0, SM_s19 s0, SM_a20 s0, SM_s20 s0, SM_a21 s0, SM_s21 s0, SM_a22 s0, SM_s22 s0, SM_a23 s0, SM_s23 s0, SM_a24 s0, SM_s24 s0, SM_a25 s0, SM_s25 s0, SM_a26 s0, SM_s26 s0, SM_a27 s0, SM_s27 s0, SM_a28 s0, SM_s28 s0, SM_a29 s0, SM_s29 s0, SM_a30 s0, SM_s30 s0, SM_a31 s0, SM_s31 s0, SM_a32 s0, SM_s32 s0, SM_a33 s0, SM_s33 s0, SM_a34 s0, SM_s34 s0, SM_a35 s0, SM_s35 s0, SM_a36 s0, SM_s36 s0, SM_a37 s0, SM_s37 s0, SM_a38 s0, SM_s38 s0, SM_a39 s0, SM_s39 s0, SM_a40 s0, SM_s40 s0, SM_a41 s0, SM_s41 s0, SM_a42 s0, SM_s42 s0, ↓nn_s, ↓nn_n, ↓bnd_s, nn_s, nn_n, bnd_s, rI, rZ, rV, rR, wA00, n_sub, nI_add, pk_mul, n_m1, n_leI, n_ltI, n_eqI, n_eqm1, n_0m1, n_m10, n_cl, n_div, n_rem, li_0, li_1, li_2, li_3, li_4, li_5, li_6, li_7, li_8, li_9, li_10, li_11, li_12, li_13, li_16, li_20, li_21, li_22, li_36, li_40, li_59, li_60, li_61, li_99, li_100, li_109, li_110, li_119, li_120, li_121, li_512, li_3721, li_1000000, li_1000001, li_1000002, li_1000003, li_1000010, t_lt, t_le, f_lt, f_le, t_eq, f_eq, if_true, if_false, true_and, and_true, or_true, true_or, or_false, false_or, and_false, false_and, not_true_eq_false, not_false_eq_true, Nat.zero_add, Nat.add_zero, Nat.mul_zero]
  | succ k ih =>
    intro fu hk hfu
    obtain ⟨fu, rfl⟩ : ∃ k, fu = k + 1 := ⟨fu - 1, by omega⟩
    obtain ⟨_, _, _, _, q4, _⟩ := p2 k (by omega)
    rw [jm_s]
    rcases (ok k (by omega)).1 with z | z
    · rw [lst_t z]
      rw [z] at q4
      show _ = K m (nI k) _
      simp (disch := omega) only [f_X11_undo_L12, q4, ↓SM_g1 s0, ↓SM_g2 s0, ↓SM_g3 s0, ↓SM_g4 s0, ↓SM_g5 s0, ↓SM_g6 s0, ↓SM_g7 s0, ↓SM_g8 s0, ↓SM_g9 s0, ↓SM_g10 s0, ↓SM_g11 s0, ↓SM_g12 s0, ↓SM_g13 s0, ↓SM_g14 s0, ↓SM_g15 s0, ↓SM_g16 s0, ↓SM_g17 s0, ↓SM_g18 s0, ↓SM_g19 s0, ↓SM_g20 s0, ↓SM_g21 s0, ↓SM_g22 s0, ↓SM_g23 s0, ↓SM_g24 s0, ↓SM_g25 s0, ↓SM_g26 s0, ↓SM_g27 s0, ↓SM_g28 s0, ↓SM_g29 s0, ↓SM_g30 s0, ↓SM_g31 s0, ↓SM_g32 s0, ↓SM_g33 s0, ↓SM_g34 s0, ↓SM_g35 s0, ↓SM_g36 s0, ↓SM_g37 s0, ↓SM_g38 s0, ↓SM_g39 s0, ↓SM_g40 s0, ↓SM_g41 s0, ↓SM_g42 s0, ↓SM_oI s0, ↓SM_oP s0, ↓SM_oV s0, ↓SM_a1 s0, ↓SM_s1 s0, ↓SM_a2 s0, ↓SM_s2 s0, ↓SM_a3 s0, ↓SM_s3 s0, ↓SM_a4 s0, ↓SM_s4 s0, ↓SM_a5 s0, ↓SM_s5 s0, ↓SM_a6 s0, ↓SM_s6 s0, ↓SM_a7 s0, ↓SM_s7 s0, ↓SM_a8 s0, ↓SM_s8 s0, ↓SM_a9 s0, ↓SM_s9 s0, ↓SM_a10 s0, ↓SM_s10 s0, ↓SM_a11 s0, ↓SM_s11 s0, ↓SM_a12 s0, ↓SM_s12 s0, ↓SM_a13 s0, ↓SM_s13 s0, ↓SM_a14 s0, ↓SM_s14 s0, ↓SM_a15 s0, ↓SM_s15 s0, ↓SM_a16 s0, ↓SM_s16 s0, ↓SM_a17 s0, ↓SM_s17 s0, ↓SM_a18 s0, ↓SM_s18 s0, ↓SM_a19 s0, ↓SM_s19 s0, ↓SM_a20 s0, ↓SM_s20 s0, ↓SM_a21 s0, ↓SM_s21 s0, ↓SM_a22 s0, ↓SM_s22 s0, ↓SM_a23 s0, ↓SM_s23 s0, ↓SM_a24 s0, ↓SM_s24 s0, ↓SM_a25 s0, ↓SM_s25 s0, ↓SM_a26 s0, ↓SM_s26 s0, ↓SM_a27 s0, ↓SM_s27 s0, ↓SM_a28 s0, ↓SM_s28 s0, ↓SM_a29 s0, ↓SM_s29 s0, ↓SM_a30 s0, ↓SM_s30 s0, ↓SM_a31 s0, ↓SM_s31 s0, ↓SM_a32 s0, ↓SM_s32 s0, ↓SM_a33 s0, ↓SM_s33 s0, ↓SM_a34 s0, ↓SM_s34 s0, ↓SM_a35 s0, ↓SM_s35 s0, ↓SM_a36 s0, ↓SM_s36 s0, ↓SM_a37 s0, ↓SM_s37 s0, ↓SM_a38 s0, ↓SM_s38 s0, ↓SM_a39 s0, ↓SM_s39 s0, ↓SM_a40 s0, ↓SM_s40 s0, ↓SM_a41 s0, ↓SM_s41 s0, ↓SM_a42 s0, ↓SM_s42 s0, SM_oI s0, SM_oP s0, SM_oV s0, SM_a1 s0, SM_s1 s0, SM_a2 s0, SM_s2 s0, SM_a3 s0, SM_s3 s0, SM_a4 s0, SM_s4 s0, SM_a5 s0, SM_s5 s0, SM_a6 s0, SM_s6 s0, SM_a7 s0, SM_s7 s0, SM_a8 s0, SM_s8 s0, SM_a9 s0, SM_s9 s0, SM_a10 s0, SM_s10 s0, SM_a11 s0, SM_s11 s0, SM_a12 s0, SM_s12 s0, SM_a13 s0, SM_s13 s0, SM_a14 s0, SM_s14 s0, SM_a15 s0, SM_s15 s0, SM_a16 s0, SM_s16 s0, SM_a17 s0, SM_s17 s0, SM_a18 s0, SM_s18 s0, SM_a19 s0, SM_s19 s0, SM_a20 s0, SM_s20 s0, SM_a21 s0, SM_s21 s0, SM_a22 s0, SM_s22 s0, SM_a23 s0, SM_s23 s0, SM_a24 s0, SM_s24 s0, SM_a25 s0, SM_s25 s0, SM_a26 s0, SM_s26 s0, SM_a27 s0, SM_s27 s0, SM_a28 s0, SM_s28 s0, SM_a29 s0, SM_s29 s0, SM_a30 s0, SM_s30 s0, SM_a31 s0, SM_s31 s0, SM_a32 s0, SM_s32 s0, SM_a33 s0, SM_s33 s0, SM_a34 s0, SM_s34 s0, SM_a35 s0, SM_s35 s0, SM_a36 s0, SM_s36 s0, SM_a37 s0, SM_s37 s0, SM_a38 s0, SM_s38 s0, SM_a39 s0, SM_s39 s0, SM_a40 s0, SM_s40 s0, SM_a41 s0, SM_s41 s0, SM_a42 s0, SM_s42 s0, ↓nn_s, ↓nn_n, ↓bnd_s, nn_s, nn_n, bnd_s, rI, rZ, rV, rR, wA00, n_sub, nI_add, pk_mul, n_m1, n_leI, n_ltI, n_eqI, n_eqm1, n_0m1, n_m10, n_cl, n_div, n_rem, li_0, li_1, li_2, li_3, li_4, li_5, li_6, li_7, li_8, li_9, li_10, li_11, li_12, li_13, li_16, li_20, li_21, li_22, li_36, li_40, li_59, li_60, li_61, li_99, li_100, li_109, li_110, li_119, li_120, li_121, li_512, li_3721, li_1000000, li_1000001, li_1000002, li_1000003, li_1000010, t_lt, t_le, f_lt, f_le, t_eq, f_eq, if_true, if_false, true_and, and_true, or_true, true_or, or_false, false_or, and_false, false_and, not_true_eq_false, not_false_eq_true, Nat.zero_add, Nat.add_zero, Nat.mul_zero]
    · rw [lst_f (by rw [z]; decide)]
      rw [z] at q4
      refine Eq.trans ?_ (ih fu (by omega) (by omega))
      have e : nI k + (-nI 1) = jm k := rfl
      simp (disch := omega) only [f_X11_undo_L12, q4, e, SM_g35 s0, SM_a35 s0, li_0, li_1, n10, n_ltI, f_lt, if_false]
end PUNDO
