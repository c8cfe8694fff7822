section PUNDOOP
variable {c m t r s : Nat} {hC hM h h' : AH} {own own' : Nat → Nat} {G G' : Nat → Nat → Int32}
variable {ru fd fd' : Int32} {rw rw' : Nat → Option Rw} {kp gv : Nat → Option An} {lk : Nat → List Nat} {bk bk' : Nat × (Nat → En)} {tr tr' : Nat × (Nat → Int32)}
def unE (X : En) : En := (X.1, X.2.1, X.2.2.1, X.2.2.2.1, 1, X.2.2.2.2.2)
theorem okE_unE {X : En} (h : okE X) : okE (unE X) := ⟨.inr rfl, h.2⟩
theorem VS_unE {nb e : Nat} {be : Nat → En} (w : VS (ru, rw, kp, gv, lk, (nb, be), tr, fd) t) (he : e < nb) : VS (ru, rw, kp, gv, lk, (nb, va_up be e (unE (be e))), tr, fd) t := by
  refine ⟨w.1, w.2.1, w.2.2.1, w.2.2.2.1, w.2.2.2.2.1, fun k hk => ?_, w.2.2.2.2.2.2⟩
  show okE (va_up be e (unE (be e)) k)
  by_cases z : k = e
  · subst z; rw [va_up_at]; exact okE_unE (w.2.2.2.2.2.1 k hk)
  · rw [va_up_off _ _ z]; exact w.2.2.2.2.2.1 k hk
theorem C_unE {nb e a : Nat} {be : Nat → En} (p : RCC own c h (ru, rw, kp, gv, lk, (nb, be), tr, fd)) (he : e < nb) (ha : a_gr h (c + 72) e = some a) : RCC own c (wi h (ug (a_gi h) a 4 (nI 1))) (ru, rw, kp, gv, lk, (nb, va_up be e (unE (be e))), tr, fd) := by
  have sC := p.1.1
  have hx := SC_nx sC
  have bp : bookC h own c nb be := p.1.2.2.2.2.2.2.1
  obtain ⟨a', ha', E⟩ := bp.2 e he
  obtain rfl : a' = a := Option.some.inj (ha'.symm.trans ha)
  have E0 := E
  obtain ⟨p1, p2, p3, p4, q0, q1, q2, q3, q4, q5, b1, b2, r1, r2, r3, r4, r5, r6, r7, r8, r9, r10⟩ := E0
  have F : Fr h (wi h (ug (a_gi h) a' 4 (nI 1))) (fun x j => x = a' ∧ j = 4) := Fr_wi (fun x j hj => by rw [ug_r, if_neg hj])
  have ho : Sown own own h := fun _ _ => rfl
  have h0 : Ok0 (fun x j => x = a' ∧ j = 4) own c h := fun x j h1 h2 h3 => by rintro ⟨rfl, _⟩; omega
  refine RCC_book p (F.mono (fun x j ⟨z1, _⟩ => .inl (by rw [z1, p4]; exact ⟨p2, by omega⟩))) (SC_wi sC) ho ⟨?_, fun k hk => ?_⟩
  · rw [a_gi_wi, ug_2 (by omega)]; exact bp.1
  · show ∃ a, _ ∧ enC _ own c a k (va_up be e (unE (be e)) k)
    by_cases z : k = e
    · subst z
      rw [va_up_at]
      have z1 : b1 ≠ a' := fun w => by have := r3.1; rw [w, p1] at this; cases this
      have z2 : b2 ≠ a' := fun w => by rw [w, p1] at r5; cases r5
      refine ⟨a', ha', p1, p2, p3, p4, ?_, ?_, ?_, ?_, ?_, ?_, b1, b2, r1, r2, ⟨r3.1, rfl, r3.2.2.1, r3.2.2.2.1, r3.2.2.2.2.1, fun _ _ => rfl⟩, r4, r5, r6, r7, r8, r9, fun j hj => ?_⟩
      · rw [a_gi_wi, ug_3 (by omega)]; exact q0
      · rw [a_gi_wi, ug_3 (by omega)]; exact q1
      · rw [a_gi_wi, ug_3 (by omega)]; exact q2
      · rw [a_gi_wi, ug_3 (by omega)]; exact q3
      · rw [a_gi_wi, ug_1 rfl rfl]; rfl
      · rw [a_gi_wi, ug_3 (by omega)]; exact q5
      · obtain ⟨y1, q, y2, y3⟩ := r10 j hj
        exact ⟨by rw [a_gi_wi, ug_2 z1]; exact y1, q, y2, isAn_fr y3 F h0 ho⟩
    · rw [va_up_off _ _ z]
      obtain ⟨a2, g1, g2⟩ := bp.2 k hk
      exact ⟨a2, g1, enC_fr g2 F h0 (fun x j h1 h2 h3 => by rintro ⟨rfl, _⟩; omega) ho⟩
theorem M_unE {nb e : Nat} {be : Nat → En} (p : RM m h (ru, rw, kp, gv, lk, (nb, be), tr, fd)) : RM m (wi h (ug (ug (a_gi h) m 0 (nI 0)) (m + 35) e (nI 1))) (ru, rw, kp, gv, lk, (nb, va_up be e (unE (be e))), tr, fd) := by
  have bp : bookM (a_gi h) m nb be := p.2.2.2.2.2.1
  refine RM_book p (fun a j z1 z2 z3 => by unfold scrM at z1; rw [ug_2 (by omega), ug_r, if_neg (by omega)]) ⟨?_, fun k hk => ?_⟩
  · rw [ug_2 (by omega), ug_3 (by omega)]; exact bp.1
  · show enM _ m k (va_up be e (unE (be e)) k)
    obtain ⟨p1, p2, p3, p4, p5, p6, p7⟩ := bp.2 k hk
    have hd : ∀ q pl x, hadM (a_gi h) m q pl x → hadM (ug (ug (a_gi h) m 0 (nI 0)) (m + 35) e (nI 1)) m q pl x := fun q pl x ⟨y1, y2, y3, y4⟩ => ⟨by rw [ug_2 (by omega), ug_2 (by omega)]; exact y1, by rw [ug_2 (by omega), ug_2 (by omega)]; exact y2, by rw [ug_2 (by omega), ug_2 (by omega)]; exact y3, fun j hj => by rw [ug_2 (by omega), ug_2 (by omega), ug_2 (by omega), ug_2 (by omega)]; exact y4 j hj⟩
    by_cases z : k = e
    · subst z
      rw [va_up_at]
      refine ⟨?_, ?_, ?_, ?_, ?_, ?_, fun j hj => hd _ _ _ (p7 j hj)⟩
      · rw [ug_2 (by omega), ug_2 (by omega)]; exact p1
      · rw [ug_2 (by omega), ug_2 (by omega)]; exact p2
      · rw [ug_2 (by omega), ug_2 (by omega)]; exact p3
      · rw [ug_2 (by omega), ug_2 (by omega)]; exact p4
      · rw [ug_1 rfl rfl]; rfl
      · rw [ug_2 (by omega), ug_2 (by omega)]; exact p6
    · rw [va_up_off _ _ z]
      refine ⟨?_, ?_, ?_, ?_, ?_, ?_, fun j hj => hd _ _ _ (p7 j hj)⟩
      · rw [ug_2 (by omega), ug_2 (by omega)]; exact p1
      · rw [ug_2 (by omega), ug_2 (by omega)]; exact p2
      · rw [ug_2 (by omega), ug_2 (by omega)]; exact p3
      · rw [ug_2 (by omega), ug_2 (by omega)]; exact p4
      · rw [ug_3 z, ug_2 (by omega)]; exact p5
      · rw [ug_2 (by omega), ug_2 (by omega)]; exact p6
theorem op_undo (R : RR c m hC hM t) : OP2 c m hC hM t (fun h => f_X10_undo h c) (fun h => f_X11_undo h m) := by
  have R0 := R
  obtain ⟨en, own, ⟨ru, rw, kp, gv, lk, ⟨nb, be⟩, tr, fd⟩, rc, rm, v, cc⟩ := R
  have sC := rc.1
  have sM := rm.1
  have ok : ∀ s, s < 36 → okA (kp s) ∧ okA (gv s) := v.2.2.1
  have hnb : nb ≤ 100 := v.2.2.2.2.1
  have okB : ∀ e, e < nb → okE (be e) := v.2.2.2.2.2.1
  have bC : bookC hC own c nb be := rc.2.2.2.2.2.2.1
  have g8 : a_gi hC c 8 = nI nb := bC.1
  have cL := C_undo_L7 sC f_X10_undo_J29 hnb bC okB nb FU (Nat.le_refl _) (by unfold FU; omega)
  have mL : ∀ hM, RM m hM (ru, rw, kp, gv, lk, (nb, be), tr, fd) → ug (a_gi hM) m 0 (nI 0) m 37 = nI nb ∧ f_X11_undo_L12 f_X11_undo_J31 FU m (jm nb) (wi hM (ug (a_gi hM) m 0 (nI 0))) = f_X11_undo_J31 m (lstI (lst be nb)) (wi hM (ug (a_gi hM) m 0 (nI 0))) := fun hM rm => by
    have bM : bookM (ug (a_gi hM) m 0 (nI 0)) m nb be := bookM_fr rm.2.2.2.2.2.1 (ug_3 (by omega)) (fun a j h1 h2 => ug_2 (by omega))
    exact ⟨bM.1, M_undo_L12 rm.1 f_X11_undo_J31 hnb bM okB nb FU (Nat.le_refl _) (by unfold FU; omega)⟩
  cases hl : lst be nb with
  | none =>
    rw [hl] at cL
    obtain ⟨m1, m2⟩ := mL hM rm
    rw [hl] at m2
    have cJ : f_X10_undo_J29 c (lstI none) (wi hC (a_gi hC)) = some (-nI 1000000, wi hC (a_gi hC), 0, 0) := by
      show f_X10_undo_J29 c (-nI 1) _ = _
      simp only [f_X10_undo_J29, li_0, n_0m1, if_false, rI, li_1000000]
    have mJ : ∀ G, f_X11_undo_J31 m (lstI none) (wi hM G) = some (-nI 1000000, wi hM G, 0, 0) := fun G => by
      show f_X11_undo_J31 m (-nI 1) _ = _
      simp only [f_X11_undo_J31, li_0, n_0m1, if_false, rI, li_1000000]
    exact OPB R0 (by simp only [f_X10_undo, SC_oI0 sC, g8, li_1, sub_jm, cL, cJ] <;> rfl) (by simp only [f_X11_undo, SM_oP sM, SM_oI sM, li_0, m1, li_1, sub_jm, m2, mJ] <;> rfl)
  | some e =>
    have he := lst_lt hl
    rw [hl] at cL
    obtain ⟨a, ha, E⟩ := bC.2 e he
    have p2 := C_unE (e := e) (a := a) ⟨rc, cc⟩ he ha
    have X1 : (va_up be e (unE (be e))) e = unE (be e) := va_up_at _ _ _
    obtain ⟨H, u1, u2⟩ := C_undo_L50 (e := e) (a := a) he (by rw [X1]; exact okE_unE (okB e he)) (be e).2.2.2.2.2.1 0 kp _ FU (by rw [X1]; exact Nat.zero_add _) (by have := (okB e he).2.1; unfold FU; omega) p2 ha
    rw [X1] at u2
    refine OPG (σ0 := (ru, rw, kp, gv, lk, (nb, be), tr, fd)) (h' := H) (k := 0) (n := 0) (v := nI e) ?_ u2 (by omega) (by omega) rm (fun hM rm => ?_) (VS_mono (VS_unK (X := unE (be e)) (okE_unE (okB e he)) (be e).2.2.2.2.2.1 0 kp (Nat.zero_add _) (VS_unE v he)) (Nat.le_succ _))
    · show f_X10_undo (wi hC (a_gi hC)) c = _
      have cJ : f_X10_undo_J29 c (lstI (some e)) (wi hC (a_gi hC)) = some (nI e, H, 0, 0) := by
        refine Eq.trans ?_ u1
        show f_X10_undo_J29 c (nI e) _ = _
        have hk5 := E.1
        have pz : ∀ q : AH → RX Int32, pZ (wi hC (a_gi hC)) (some a) 5 4 (nI 1) q = q (wi hC (ug (a_gi hC) a 4 (nI 1))) := fun q => pZ_w1 hk5
        simp (disch := omega) only [f_X10_undo_J29, ha, pz, ↓SC_g1 sC, ↓SC_g2 sC, ↓SC_g74 sC, ↓SC_g3 sC, ↓SC_g66 sC, ↓SC_g68 sC, ↓SC_g72 sC, ↓SC_g73 sC, ↓SC_g4 sC, ↓SC_g67 sC, ↓SC_g69 sC, ↓SC_g70 sC, ↓SC_g71 sC, ↓SC_g75 sC, ↓SC_g76 sC, ↓SC_g77 sC, ↓SC_g78 sC, ↓SC_g79 sC, ↓SC_g80 sC, ↓SC_gri sC, ↓SC_grc sC, ↓SC_grc0 sC, ↓SC_grc1 sC, ↓SC_grc2 sC, ↓SC_grc3 sC, ↓SC_grc4 sC, ↓SC_grr sC, ↓SC_grs sC, ↓SC_grg sC, ↓SC_b72 sC, ↓SC_oI0 sC, ↓SC_oP0 sC, ↓SC_oZ0 sC, ↓SC_oY0 sC, ↓SC_oz0 sC, ↓SC_oy0 sC, ↓SC_oV0 sC, ↓SC_oI3 sC, ↓SC_oP3 sC, ↓SC_oZ3 sC, ↓SC_oY3 sC, ↓SC_oz3 sC, ↓SC_oy3 sC, ↓SC_oV3 sC, ↓SC_oI66 sC, ↓SC_oP66 sC, ↓SC_oZ66 sC, ↓SC_oY66 sC, ↓SC_oz66 sC, ↓SC_oy66 sC, ↓SC_oV66 sC, ↓SC_oI68 sC, ↓SC_oP68 sC, ↓SC_oZ68 sC, ↓SC_oY68 sC, ↓SC_oz68 sC, ↓SC_oy68 sC, ↓SC_oV68 sC, ↓SC_oI74 sC, ↓SC_oP74 sC, ↓SC_oZ74 sC, ↓SC_oY74 sC, ↓SC_oz74 sC, ↓SC_oy74 sC, ↓SC_oV74 sC, ↓SC_oIr sC, ↓SC_oPr sC, ↓SC_oZr sC, ↓SC_oYr sC, ↓SC_ozr sC, ↓SC_oyr sC, ↓SC_oVr sC, ↓SC_oIw sC, ↓SC_oPw sC, ↓SC_oZw sC, ↓SC_oYw sC, ↓SC_ozw sC, ↓SC_oyw sC, ↓SC_oVw sC, ↓SC_oIh sC, ↓SC_oPh sC, ↓SC_oZh sC, ↓SC_oYh sC, ↓SC_ozh sC, ↓SC_oyh sC, ↓SC_oVh sC, ↓SC_a67 sC, ↓SC_s67 sC, ↓SC_n67 sC, ↓SC_a69 sC, ↓SC_s69 sC, ↓SC_n69 sC, ↓SC_a70 sC, ↓SC_s70 sC, ↓SC_n70 sC, ↓SC_a71 sC, ↓SC_s71 sC, ↓SC_n71 sC, ↓SC_a73 sC, ↓SC_s73 sC, ↓SC_n73 sC, ↓SC_a75 sC, ↓SC_s75 sC, ↓SC_n75 sC, ↓SC_a76 sC, ↓SC_s76 sC, ↓SC_n76 sC, ↓SC_a77 sC, ↓SC_s77 sC, ↓SC_n77 sC, ↓SC_a78 sC, ↓SC_s78 sC, ↓SC_n78 sC, ↓SC_a79 sC, ↓SC_s79 sC, ↓SC_n79 sC, ↓SC_a80 sC, ↓SC_s80 sC, ↓SC_n80 sC, ↓SC_ai sC, ↓SC_si sC, ↓SC_ni sC, ↓SC_ag sC, ↓SC_sg sC, ↓SC_ng sC, ↓SC_ac0 sC, ↓SC_sc0 sC, ↓SC_nc0 sC, ↓SC_ac1 sC, ↓SC_sc1 sC, ↓SC_nc1 sC, ↓SC_ac2 sC, ↓SC_sc2 sC, ↓SC_nc2 sC, ↓SC_ac3 sC, ↓SC_sc3 sC, ↓SC_nc3 sC, ↓SC_ac4 sC, ↓SC_sc4 sC, ↓SC_nc4 sC, SC_b72 sC, SC_oI0 sC, SC_oP0 sC, SC_oZ0 sC, SC_oY0 sC, SC_oz0 sC, SC_oy0 sC, SC_oV0 sC, SC_oI3 sC, SC_oP3 sC, SC_oZ3 sC, SC_oY3 sC, SC_oz3 sC, SC_oy3 sC, SC_oV3 sC, SC_oI66 sC, SC_oP66 sC, SC_oZ66 sC, SC_oY66 sC, SC_oz66 sC, SC_oy66 sC, SC_oV66 sC, SC_oI68 sC, SC_oP68 sC, SC_oZ68 sC, SC_oY68 sC, SC_oz68 sC, SC_oy68 sC, SC_oV68 sC, SC_oI74 sC, SC_oP74 sC, SC_oZ74 sC, SC_oY74 sC, SC_oz74 sC, SC_oy74 sC, SC_oV74 sC, SC_oIr sC, SC_oPr sC, SC_oZr sC, SC_oYr sC, SC_ozr sC, SC_oyr sC, SC_oVr sC, SC_oIw sC, SC_oPw sC, SC_oZw sC, SC_oYw sC, SC_ozw sC, SC_oyw sC, SC_oVw sC, SC_oIh sC, SC_oPh sC, SC_oZh sC, SC_oYh sC, SC_ozh sC, SC_oyh sC, SC_oVh sC, SC_a67 sC, SC_s67 sC, SC_n67 sC, SC_a69 sC, SC_s69 sC, SC_n69 sC, SC_a70 sC, SC_s70 sC, SC_n70 sC, SC_a71 sC, SC_s71 sC, SC_n71 sC, SC_a73 sC, SC_s73 sC, SC_n73 sC, SC_a75 sC, SC_s75 sC, SC_n75 sC, SC_a76 sC, SC_s76 sC, SC_n76 sC, SC_a77 sC, SC_s77 sC, SC_n77 sC, SC_a78 sC, SC_s78 sC, SC_n78 sC, SC_a79 sC, SC_s79 sC, SC_n79 sC, SC_a80 sC, SC_s80 sC, SC_n80 sC, SC_ai sC, SC_si sC, SC_ni sC, SC_ag sC, SC_sg sC, SC_ng sC, SC_ac0 sC, SC_sc0 sC, SC_nc0 sC, SC_ac1 sC, SC_sc1 sC, SC_nc1 sC, SC_ac2 sC, SC_sc2 sC, SC_nc2 sC, SC_ac3 sC, SC_sc3 sC, SC_nc3 sC, SC_ac4 sC, SC_sc4 sC, SC_nc4 sC, SC_g1 sC, SC_g2 sC, SC_g74 sC, SC_g3 sC, SC_g66 sC, SC_g68 sC, SC_g72 sC, SC_g73 sC, SC_g4 sC, SC_g67 sC, SC_g69 sC, SC_g70 sC, SC_g71 sC, SC_g75 sC, SC_g76 sC, SC_g77 sC, SC_g78 sC, SC_g79 sC, SC_g80 sC, SC_gri sC, SC_grc sC, SC_grc0 sC, SC_grc1 sC, SC_grc2 sC, SC_grc3 sC, SC_grc4 sC, SC_grr sC, SC_grs sC, SC_grg sC, ↓nn_s, ↓nn_n, ↓bnd_s, nn_s, nn_n, bnd_s, rI, rZ, rV, rR, wA00, n_sub, nI_add, pk_mul, n_m1, n_leI, n_ltI, n_eqI, n_eqm1, n_0m1, n_m10, n_cl, n_div, n_rem, li_0, li_1, li_2, li_3, li_4, li_5, li_6, li_7, li_8, li_9, li_10, li_11, li_12, li_13, li_16, li_20, li_21, li_22, li_36, li_40, li_59, li_60, li_61, li_99, li_100, li_109, li_110, li_119, li_120, li_121, li_512, li_3721, li_1000000, li_1000001, li_1000002, li_1000003, li_1000010, t_lt, t_le, f_lt, f_le, t_eq, f_eq, if_true, if_false, true_and, and_true, or_true, true_or, or_false, false_or, and_false, false_and, not_true_eq_false, not_false_eq_true, Nat.zero_add, Nat.add_zero, Nat.mul_zero]
      simp only [f_X10_undo, SC_oI0 sC, g8, li_1, sub_jm, cL, cJ]
    · have sM := rm.1
      obtain ⟨m1, m2⟩ := mL hM rm
      rw [hl] at m2
      have q2 := M_unE (e := e) rm
      obtain ⟨G3, w1, w2⟩ := M_undo_L47 (h := hM) (e := e) hnb he (by rw [X1]; exact okE_unE (okB e he)) (fun s hs => (ok s hs).2) (be e).2.2.2.2.2.1 0 kp FU _ (by rw [X1]; exact Nat.zero_add _) (by have := (okB e he).2.1; unfold FU; omega) (fun s hs => (ok s hs).1) q2
      rw [X1] at w2
      refine ⟨G3, ?_, w2⟩
      have mJ : f_X11_undo_J31 m (lstI (some e)) (wi hM (ug (a_gi hM) m 0 (nI 0))) = some (nI e, wi hM G3, 0, 0) := by
        refine Eq.trans ?_ w1
        show f_X11_undo_J31 m (nI e) _ = _
        simp (disch := omega) only [f_X11_undo_J31, nar1, ↓SM_g1 sM, ↓SM_g2 sM, ↓SM_g3 sM, ↓SM_g4 sM, ↓SM_g5 sM, ↓SM_g6 sM, ↓SM_g7 sM, ↓SM_g8 sM, ↓SM_g9 sM, ↓SM_g10 sM, ↓SM_g11 sM, ↓SM_g12 sM, ↓SM_g13 sM, ↓SM_g14 sM, ↓SM_g15 sM, ↓SM_g16 sM, ↓SM_g17 sM, ↓SM_g18 sM, ↓SM_g19 sM, ↓SM_g20 sM, ↓SM_g21 sM, ↓SM_g22 sM, ↓SM_g23 sM, ↓SM_g24 sM, ↓SM_g25 sM, ↓SM_g26 sM, ↓SM_g27 sM, ↓SM_g28 sM, ↓SM_g29 sM, ↓SM_g30 sM, ↓SM_g31 sM, ↓SM_g32 sM, ↓SM_g33 sM, ↓SM_g34 sM, ↓SM_g35 sM, ↓SM_g36 sM, ↓SM_g37 sM, ↓SM_g38 sM, ↓SM_g39 sM, ↓SM_g40 sM, ↓SM_g41 sM, ↓SM_g42 sM, ↓SM_oI sM, ↓SM_oP sM, ↓SM_oV sM, ↓SM_a1 sM, ↓SM_s1 sM, ↓SM_a2 sM, ↓SM_s2 sM, ↓SM_a3 sM, ↓SM_s3 sM, ↓SM_a4 sM, ↓SM_s4 sM, ↓SM_a5 sM, ↓SM_s5 sM, ↓SM_a6 sM, ↓SM_s6 sM, ↓SM_a7 sM, ↓SM_s7 sM, ↓SM_a8 sM, ↓SM_s8 sM, ↓SM_a9 sM, ↓SM_s9 sM, ↓SM_a10 sM, ↓SM_s10 sM, ↓SM_a11 sM, ↓SM_s11 sM, ↓SM_a12 sM, ↓SM_s12 sM, ↓SM_a13 sM, ↓SM_s13 sM, ↓SM_a14 sM, ↓SM_s14 sM, ↓SM_a15 sM, ↓SM_s15 sM, ↓SM_a16 sM, ↓SM_s16 sM, ↓SM_a17 sM, ↓SM_s17 sM, ↓SM_a18 sM, ↓SM_s18 sM, ↓SM_a19 sM, ↓SM_s19 sM, ↓SM_a20 sM, ↓SM_s20 sM, ↓SM_a21 sM, ↓SM_s21 sM, ↓SM_a22 sM, ↓SM_s22 sM, ↓SM_a23 sM, ↓SM_s23 sM, ↓SM_a24 sM, ↓SM_s24 sM, ↓SM_a25 sM, ↓SM_s25 sM, ↓SM_a26 sM, ↓SM_s26 sM, ↓SM_a27 sM, ↓SM_s27 sM, ↓SM_a28 sM, ↓SM_s28 sM, ↓SM_a29 sM, ↓SM_s29 sM, ↓SM_a30 sM, ↓SM_s30 sM, ↓SM_a31 sM, ↓SM_s31 sM, ↓SM_a32 sM, ↓SM_s32 sM, ↓SM_a33 sM, ↓SM_s33 sM, ↓SM_a34 sM, ↓SM_s34 sM, ↓SM_a35 sM, ↓SM_s35 sM, ↓SM_a36 sM, ↓SM_s36 sM, ↓SM_a37 sM, ↓SM_s37 sM, ↓SM_a38 sM, ↓SM_s38 sM, ↓SM_a39 sM, ↓SM_s39 sM, ↓SM_a40 sM, ↓SM_s40 sM, ↓SM_a41 sM, ↓SM_s41 sM, ↓SM_a42 sM, ↓SM_s42 sM, SM_oI sM, SM_oP sM, SM_oV sM, SM_a1 sM, SM_s1 sM, SM_a2 sM, SM_s2 sM, SM_a3 sM, SM_s3 sM, SM_a4 sM, SM_s4 sM, SM_a5 sM, SM_s5 sM, SM_a6 sM, SM_s6 sM, SM_a7 sM, SM_s7 sM, SM_a8 sM, SM_s8 sM, SM_a9 sM, SM_s9 sM, SM_a10 sM, SM_s10 sM, SM_a11 sM, SM_s11 sM, SM_a12 sM, SM_s12 sM, SM_a13 sM, SM_s13 sM, SM_a14 sM, SM_s14 sM, SM_a15 sM, SM_s15 sM, SM_a16 sM, SM_s16 sM, SM_a17 sM, SM_s17 sM, SM_a18 sM, SM_s18 sM, SM_a19 sM, SM_s19 sM, SM_a20 sM, SM_s20 sM, SM_a21 sM, SM_s21 sM, SM_a22 sM, SM_s22 sM, SM_a23 sM, SM_s23 sM, SM_a24 sM, SM_s24 sM, SM_a25 sM, SM_s25 sM, SM_a26 sM, SM_s26 sM, SM_a27 sM, SM_s27 sM, SM_a28 sM, SM_s28 sM, SM_a29 sM, SM_s29 sM, SM_a30 sM, SM_s30 sM, SM_a31 sM, SM_s31 sM, SM_a32 sM, SM_s32 sM, SM_a33 sM, SM_s33 sM, SM_a34 sM, SM_s34 sM, SM_a35 sM, SM_s35 sM, SM_a36 sM, SM_s36 sM, SM_a37 sM, SM_s37 sM, SM_a38 sM, SM_s38 sM, SM_a39 sM, SM_s39 sM, SM_a40 sM, SM_s40 sM, SM_a41 sM, SM_s41 sM, SM_a42 sM, SM_s42 sM, ↓nn_s, ↓nn_n, ↓bnd_s, nn_s, nn_n, bnd_s, rI, rZ, rV, rR, wA00, n_sub, nI_add, pk_mul, n_m1, n_leI, n_ltI, n_eqI, n_eqm1, n_0m1, n_m10, n_cl, n_div, n_rem, li_0, li_1, li_2, li_3, li_4, li_5, li_6, li_7, li_8, li_9, li_10, li_11, li_12, li_13, li_16, li_20, li_21, li_22, li_36, li_40, li_59, li_60, li_61, li_99, li_100, li_109, li_110, li_119, li_120, li_121, li_512, li_3721, li_1000000, li_1000001, li_1000002, li_1000003, li_1000010, t_lt, t_le, f_lt, f_le, t_eq, f_eq, if_true, if_false, true_and, and_true, or_true, true_or, or_false, false_or, and_false, false_and, not_true_eq_false, not_false_eq_true, Nat.zero_add, Nat.add_zero, Nat.mul_zero]
      show f_X11_undo (wi hM (a_gi hM)) m = _
      simp only [f_X11_undo, SM_oP sM, SM_oI sM, li_0, m1, li_1, sub_jm, m2, mJ]
end PUNDOOP
