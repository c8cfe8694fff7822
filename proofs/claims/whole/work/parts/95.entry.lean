section PENTRY2
variable {c m t r s : Nat} {hC hM h h' : AH} {own own' : Nat → Nat} {G G' : Nat → Nat → Int32}
variable {ru fd fd' : Int32} {rw rw' : Nat → Option Rw} {kp gv : Nat → Option An} {lk : Nat → List Nat} {bk bk' : Nat × (Nat → En)} {tr tr' : Nat × (Nat → Int32)}
theorem nA_w {ρ : Type} {k n : Nat} {q : Nat → AH → RX ρ} (hn : n ≤ 1000000) : nA h k (nI n) q = wA 1 n (q (a_nx h) (wi (a_mk h k n) (a_gi (a_mk h k n)))) := by
  have e : (nI n).toNatClampNeg = n := nI_clamp (by omega)
  unfold nA
  rw [e, if_pos ⟨nI_pos' (by omega), hn⟩]; rfl
def en0 (hd du : Nat) : En := (nI hd, nI du, nI 0, nI 0, nI 0, 0, (fun _ => 0), fun _ => (0, (fun _ => 0), fun _ => 0))
theorem C_newE {nb hd du cap : Nat} {be : Nat → En} (p : RCC own c h (ru, rw, kp, gv, lk, (nb, be), tr, fd)) (hcap : cap ≤ 36) : ∃ own' h', f_X4_init (wi (a_mk h 5 0) (a_gi (a_mk h 5 0))) (a_nx h) (nI hd) (nI du) (nI cap) = some ((), wi h' (a_gi h'), 2, cap + cap) ∧ RCC own' c h' (ru, rw, kp, gv, lk, (nb, be), tr, fd) ∧ enW h' own' c (a_nx h) nb (en0 hd du) cap ∧ Fr h h' (fun _ _ => False) := by
  have sC := p.1.1
  have hx := SC_nx sC
  have N1 := Nw1_mk h 5 0
  have k1 := a_kd_mk h 5 0
  generalize a_mk h 5 0 = H1 at N1 k1 ⊢
  obtain ⟨nx, enx⟩ : ∃ nx, a_nx h = nx := ⟨_, rfl⟩
  rw [enx] at k1 hx ⊢
  have s1 := SC_nw sC N1
  have x1 : a_nx H1 = nx + 1 := by rw [N1.1, enx]
  obtain ⟨G1, eG1⟩ : ∃ G1, ug (ug (ug (ug (ug (ug (a_gi H1) nx 2 (nI 0)) nx 3 (nI 0)) nx 4 (nI 0)) nx 5 (nI 0)) nx 0 (nI hd)) nx 1 (nI du) = G1 := ⟨_, rfl⟩
  have N2 := Nw1_mk (wi H1 G1) 12 cap
  have k2 := a_kd_mk (wi H1 G1) 12 cap
  have l2 := a_ln_mk (wi H1 G1) 12 cap
  generalize eH2 : a_mk (wi H1 G1) 12 cap = H2 at N2 k2 l2
  have x1' : a_nx (wi H1 G1) = nx + 1 := x1
  rw [x1'] at k2 l2
  have s2 : SC c H2 := SC_nw (SC_wi s1) N2
  have x2 : a_nx H2 = nx + 2 := by rw [N2.1, x1']
  have N3 := Nw1_mk (wi (a_pr H2 nx 6 (some (nx + 1))) (a_gi H2)) 14 cap
  have k3 := a_kd_mk (wi (a_pr H2 nx 6 (some (nx + 1))) (a_gi H2)) 14 cap
  have l3 := a_ln_mk (wi (a_pr H2 nx 6 (some (nx + 1))) (a_gi H2)) 14 cap
  generalize eH3 : a_mk (wi (a_pr H2 nx 6 (some (nx + 1))) (a_gi H2)) 14 cap = H3 at N3 k3 l3
  have x2' : a_nx (wi (a_pr H2 nx 6 (some (nx + 1))) (a_gi H2)) = nx + 2 := x2
  rw [x2'] at k3 l3
  have x3 : a_nx H3 = nx + 3 := by rw [N3.1, x2']
  have kn2 : a_kd H2 nx = 5 := by rw [(N2.2 nx (by rw [x1']; omega)).1]; exact k1
  have kn3 : a_kd H3 nx = 5 := by rw [(N3.2 nx (by rw [x2']; omega)).1]; exact kn2
  have e3 : ∀ a, a ≠ nx + 2 → a_kd H3 a = a_kd H2 a ∧ a_ln H3 a = a_ln H2 a ∧ a_gi H3 a = a_gi H2 a ∧ ∀ j, a_gr H3 a j = if a = nx ∧ j = 6 then some (nx + 1) else a_gr H2 a j := fun a ha => by
    obtain ⟨y1, y2, y3, y4⟩ := N3.2 a (by rw [x2']; exact ha)
    exact ⟨y1, y2, y3, fun j => by rw [y4, a_gr_wi, a_gr_pr]⟩
  have e2 : ∀ a, a ≠ nx + 1 → a_kd H2 a = a_kd H1 a ∧ a_ln H2 a = a_ln H1 a ∧ a_gi H2 a = G1 a ∧ a_gr H2 a = a_gr H1 a := fun a ha => N2.2 a (by rw [x1']; exact ha)
  have e1 : ∀ a, a < nx → a_kd H1 a = a_kd h a ∧ a_ln H1 a = a_ln h a ∧ a_gi H1 a = a_gi h a ∧ a_gr H1 a = a_gr h a := fun a ha => N1.2 a (by omega)
  have s3 : SC c (a_pr H3 nx 7 (some (nx + 2))) := by
    refine SC_of s2 (by show c + 385 ≤ a_nx H3; omega) (fun a ha => ⟨(e3 a (by omega)).1, (e3 a (by omega)).2.1⟩) (fun a k z1 z2 => ?_) (fun s' hs' => ?_) (fun s' k hs' => ?_)
    · rw [a_gr_pr, if_neg (by omega), (e3 a (by omega)).2.2.2, if_neg (by omega)]
    · rw [a_gr_pr, if_neg (by omega), (e3 _ (by omega)).2.2.2, if_neg (by omega)]
    · rw [a_gr_pr, if_neg (by omega), (e3 _ (by omega)).2.2.2, if_neg (by omega)]
  have F : Fr h (a_pr H3 nx 7 (some (nx + 2))) (fun _ _ => False) := by
    refine ⟨by show a_nx h ≤ a_nx H3; omega, fun a ha => ?_⟩
    rw [enx] at ha
    obtain ⟨y1, y2, y3, y4⟩ := e3 a (by omega)
    obtain ⟨w1, w2, w3, w4⟩ := e2 a (by omega)
    obtain ⟨v1, v2, v3, v4⟩ := e1 a ha
    refine ⟨y1.trans (w1.trans v1), y2.trans (w2.trans v2), fun j _ => ⟨?_, ?_⟩⟩
    · show a_gi H3 a j = _
      rw [y3, w3, ← eG1, ug_2 (by omega), ug_2 (by omega), ug_2 (by omega), ug_2 (by omega), ug_2 (by omega), ug_2 (by omega), v3]
    · rw [a_gr_pr, if_neg (by omega), y4, if_neg (by omega), w4, v4]
  have ho : Sown own (fun a => if a < nx then own a else 100 + nb) h := fun a ha => if_pos (by omega)
  refine ⟨fun a => if a < nx then own a else 100 + nb, a_pr H3 nx 7 (some (nx + 2)), ?_, RCC_new p F s3 ho, ?_, F⟩
  · have np : (nI cap < nI 0) = False := by rw [n_ltI (by omega) (by decide)]; exact eq_false (by omega)
    have pi : ∀ G j v (q : AH → RX Unit), pI (wi H1 G) (some nx) 5 j v q = q (wi H1 (ug G nx j v)) := fun G j v q => pI_w k1
    have pz : ∀ G j (q : AH → RX Unit), pZ (wi H1 G) (some nx) 5 j (nI 0) q = q (wi H1 (ug G nx j (nI 0))) := fun G j q => pZ_w0 k1
    have n2 : ∀ q : Nat → AH → RX Unit, nA (wi H1 G1) 12 (nI cap) q = wA 1 cap (q (nx + 1) (wi H2 (a_gi H2))) := fun q => by rw [nA_w (by omega), x1', eH2]
    have n3 : ∀ q : Nat → AH → RX Unit, nA (wi (a_pr H2 nx 6 (some (nx + 1))) (a_gi H2)) 14 (nI cap) q = wA 1 cap (q (nx + 2) (wi H3 (a_gi H3))) := fun q => by rw [nA_w (by omega), x2', eH3]
    have r2 : ∀ q : AH → RX Unit, pR (wi H2 (a_gi H2)) (some nx) 5 6 (some (nx + 1)) q = q (wi (a_pr H2 nx 6 (some (nx + 1))) (a_gi H2)) := fun q => pR_w kn2
    have r3 : ∀ q : AH → RX Unit, pR (wi H3 (a_gi H3)) (some nx) 5 7 (some (nx + 2)) q = q (wi (a_pr H3 nx 7 (some (nx + 2))) (a_gi H3)) := fun q => pR_w kn3
    simp only [f_X4_init, nn_s, li_0, pi, pz, np, if_false, eG1, n2, r2, n3, r3, rV, wA_s]
    rfl
  · have g : ∀ j, a_gi H3 nx j = G1 nx j := fun j => by rw [(e3 nx (by omega)).2.2.1, (e2 nx (by omega)).2.2.1]
    refine ⟨kn3, hx, (by omega : nx < a_nx H3), if_neg (by omega), ?_, ?_, ?_, ?_, ?_, ?_, nx + 1, nx + 2, ?_, ?_, ⟨?_, ?_, by omega, (by omega : nx + 1 < a_nx H3), if_neg (by omega)⟩, ⟨k3, l3, by omega, (by omega : nx + 2 < a_nx H3), if_neg (by omega)⟩, fun k hk => absurd hk (Nat.not_lt_zero _)⟩
    · show a_gi H3 nx 0 = nI hd
      rw [g, ← eG1, ug_3 (by omega), ug_1 rfl rfl]
    · show a_gi H3 nx 1 = nI du
      rw [g, ← eG1, ug_1 rfl rfl]
    · show a_gi H3 nx 2 = nI 0
      rw [g, ← eG1, ug_3 (by omega), ug_3 (by omega), ug_3 (by omega), ug_3 (by omega), ug_3 (by omega), ug_1 rfl rfl]
    · show a_gi H3 nx 3 = nI 0
      rw [g, ← eG1, ug_3 (by omega), ug_3 (by omega), ug_3 (by omega), ug_3 (by omega), ug_1 rfl rfl]
    · show a_gi H3 nx 4 = nI 0
      rw [g, ← eG1, ug_3 (by omega), ug_3 (by omega), ug_3 (by omega), ug_1 rfl rfl]
    · show a_gi H3 nx 5 = nI 0
      rw [g, ← eG1, ug_3 (by omega), ug_3 (by omega), ug_1 rfl rfl]
    · rw [a_gr_pr, if_neg (by omega), (e3 nx (by omega)).2.2.2, if_pos ⟨rfl, rfl⟩]
    · rw [a_gr_pr, if_pos ⟨rfl, rfl⟩]
    · show a_kd H3 (nx + 1) = 12
      rw [(e3 _ (by omega)).1]; exact k2
    · show a_ln H3 (nx + 1) = cap
      rw [(e3 _ (by omega)).2.1]; exact l2
theorem C_addB {nb ea cap : Nat} {be : Nat → En} {X : En} (p : RCC own c h (ru, rw, kp, gv, lk, (nb, be), tr, fd)) (hnb : nb < 100) (W : enW h own c ea nb X cap) (hc : X.2.2.2.2.2.1 ≤ cap) : ∃ h', f_X10_addToBook (wi h (a_gi h)) c (some ea) = some (nI nb, h', 0, 0) ∧ RCC own c h' (ru, rw, kp, gv, lk, (nb + 1, va_up be nb X), tr, fd) := by
  have sC := p.1.1
  have hx := SC_nx sC
  have bp : bookC h own c nb be := p.1.2.2.2.2.2.2.1
  have g8 : a_gi h c 8 = nI nb := bp.1
  have s2 : SC c (a_pr h (c + 72) nb (some ea)) := by
    refine SC_of sC (by exact hx) (fun a ha => ⟨rfl, rfl⟩) (fun a k z1 z2 => ?_) (fun s' hs' => ?_) (fun s' k hs' => ?_)
    · rw [a_gr_pr, if_neg (by omega)]
    · rw [a_gr_pr, if_neg (by omega)]
    · rw [a_gr_pr, if_neg (by omega)]
  have F : Fr h (wi (a_pr h (c + 72) nb (some ea)) (ug (a_gi h) c 8 (nI (nb + 1)))) (fun a j => (a = c ∧ j = 8) ∨ (a = c + 72 ∧ j = nb)) := by
    refine ⟨Nat.le_refl _, fun a ha => ⟨rfl, rfl, fun j hj => ⟨?_, ?_⟩⟩⟩
    · rw [a_gi_wi, ug_r, if_neg (fun w => hj (.inl w))]
    · rw [a_gr_wi, a_gr_pr, if_neg (fun w => hj (.inr w))]
  have ho : Sown own own h := fun _ _ => rfl
  have h0 : Ok0 (fun a j => (a = c ∧ j = 8) ∨ (a = c + 72 ∧ j = nb)) own c h := fun a j z1 z2 z3 => by omega
  refine ⟨wi (a_pr h (c + 72) nb (some ea)) (ug (a_gi h) c 8 (nI (nb + 1))), ?_, RCC_book p (F.mono (fun a j z => z.elim (fun w => .inr (.inl w)) (fun w => .inr (.inr w.1)))) (SC_wi s2) ho ⟨?_, fun e he => ?_⟩⟩
  · have sr : ∀ q : AH → RX Int32, sR (wi h (a_gi h)) (some (c + 72)) 15 5 (nI nb) (some ea) q = q (wi (a_pr h (c + 72) nb (some ea)) (a_gi h)) := fun q => sR_w (SC_k72 sC) (by rw [SC_l72 sC]; exact hnb) (by omega) W.1
    simp (disch := omega) only [f_X10_addToBook, g8, sr, ug_1, Nat.add_sub_cancel, ↓SC_g1 sC, ↓SC_g2 sC, ↓SC_g74 sC, ↓SC_g3 sC, ↓SC_g66 sC, ↓SC_g68 sC, ↓SC_g72 sC, ↓SC_g73 sC, ↓SC_g4 sC, ↓SC_g67 sC, ↓SC_g69 sC, ↓SC_g70 sC, ↓SC_g71 sC, ↓SC_g75 sC, ↓SC_g76 sC, ↓SC_g77 sC, ↓SC_g78 sC, ↓SC_g79 sC, ↓SC_g80 sC, ↓SC_gri sC, ↓SC_grc sC, ↓SC_grc0 sC, ↓SC_grc1 sC, ↓SC_grc2 sC, ↓SC_grc3 sC, ↓SC_grc4 sC, ↓SC_grr sC, ↓SC_grs sC, ↓SC_grg sC, ↓SC_b72 sC, ↓SC_oI0 sC, ↓SC_oP0 sC, ↓SC_oZ0 sC, ↓SC_oY0 sC, ↓SC_oz0 sC, ↓SC_oy0 sC, ↓SC_oV0 sC, ↓SC_oI3 sC, ↓SC_oP3 sC, ↓SC_oZ3 sC, ↓SC_oY3 sC, ↓SC_oz3 sC, ↓SC_oy3 sC, ↓SC_oV3 sC, ↓SC_oI66 sC, ↓SC_oP66 sC, ↓SC_oZ66 sC, ↓SC_oY66 sC, ↓SC_oz66 sC, ↓SC_oy66 sC, ↓SC_oV66 sC, ↓SC_oI68 sC, ↓SC_oP68 sC, ↓SC_oZ68 sC, ↓SC_oY68 sC, ↓SC_oz68 sC, ↓SC_oy68 sC, ↓SC_oV68 sC, ↓SC_oI74 sC, ↓SC_oP74 sC, ↓SC_oZ74 sC, ↓SC_oY74 sC, ↓SC_oz74 sC, ↓SC_oy74 sC, ↓SC_oV74 sC, ↓SC_oIr sC, ↓SC_oPr sC, ↓SC_oZr sC, ↓SC_oYr sC, ↓SC_ozr sC, ↓SC_oyr sC, ↓SC_oVr sC, ↓SC_oIw sC, ↓SC_oPw sC, ↓SC_oZw sC, ↓SC_oYw sC, ↓SC_ozw sC, ↓SC_oyw sC, ↓SC_oVw sC, ↓SC_oIh sC, ↓SC_oPh sC, ↓SC_oZh sC, ↓SC_oYh sC, ↓SC_ozh sC, ↓SC_oyh sC, ↓SC_oVh sC, ↓SC_a67 sC, ↓SC_s67 sC, ↓SC_n67 sC, ↓SC_a69 sC, ↓SC_s69 sC, ↓SC_n69 sC, ↓SC_a70 sC, ↓SC_s70 sC, ↓SC_n70 sC, ↓SC_a71 sC, ↓SC_s71 sC, ↓SC_n71 sC, ↓SC_a73 sC, ↓SC_s73 sC, ↓SC_n73 sC, ↓SC_a75 sC, ↓SC_s75 sC, ↓SC_n75 sC, ↓SC_a76 sC, ↓SC_s76 sC, ↓SC_n76 sC, ↓SC_a77 sC, ↓SC_s77 sC, ↓SC_n77 sC, ↓SC_a78 sC, ↓SC_s78 sC, ↓SC_n78 sC, ↓SC_a79 sC, ↓SC_s79 sC, ↓SC_n79 sC, ↓SC_a80 sC, ↓SC_s80 sC, ↓SC_n80 sC, ↓SC_ai sC, ↓SC_si sC, ↓SC_ni sC, ↓SC_ag sC, ↓SC_sg sC, ↓SC_ng sC, ↓SC_ac0 sC, ↓SC_sc0 sC, ↓SC_nc0 sC, ↓SC_ac1 sC, ↓SC_sc1 sC, ↓SC_nc1 sC, ↓SC_ac2 sC, ↓SC_sc2 sC, ↓SC_nc2 sC, ↓SC_ac3 sC, ↓SC_sc3 sC, ↓SC_nc3 sC, ↓SC_ac4 sC, ↓SC_sc4 sC, ↓SC_nc4 sC, SC_b72 sC, SC_oI0 sC, SC_oP0 sC, SC_oZ0 sC, SC_oY0 sC, SC_oz0 sC, SC_oy0 sC, SC_oV0 sC, SC_oI3 sC, SC_oP3 sC, SC_oZ3 sC, SC_oY3 sC, SC_oz3 sC, SC_oy3 sC, SC_oV3 sC, SC_oI66 sC, SC_oP66 sC, SC_oZ66 sC, SC_oY66 sC, SC_oz66 sC, SC_oy66 sC, SC_oV66 sC, SC_oI68 sC, SC_oP68 sC, SC_oZ68 sC, SC_oY68 sC, SC_oz68 sC, SC_oy68 sC, SC_oV68 sC, SC_oI74 sC, SC_oP74 sC, SC_oZ74 sC, SC_oY74 sC, SC_oz74 sC, SC_oy74 sC, SC_oV74 sC, SC_oIr sC, SC_oPr sC, SC_oZr sC, SC_oYr sC, SC_ozr sC, SC_oyr sC, SC_oVr sC, SC_oIw sC, SC_oPw sC, SC_oZw sC, SC_oYw sC, SC_ozw sC, SC_oyw sC, SC_oVw sC, SC_oIh sC, SC_oPh sC, SC_oZh sC, SC_oYh sC, SC_ozh sC, SC_oyh sC, SC_oVh sC, SC_a67 sC, SC_s67 sC, SC_n67 sC, SC_a69 sC, SC_s69 sC, SC_n69 sC, SC_a70 sC, SC_s70 sC, SC_n70 sC, SC_a71 sC, SC_s71 sC, SC_n71 sC, SC_a73 sC, SC_s73 sC, SC_n73 sC, SC_a75 sC, SC_s75 sC, SC_n75 sC, SC_a76 sC, SC_s76 sC, SC_n76 sC, SC_a77 sC, SC_s77 sC, SC_n77 sC, SC_a78 sC, SC_s78 sC, SC_n78 sC, SC_a79 sC, SC_s79 sC, SC_n79 sC, SC_a80 sC, SC_s80 sC, SC_n80 sC, SC_ai sC, SC_si sC, SC_ni sC, SC_ag sC, SC_sg sC, SC_ng sC, SC_ac0 sC, SC_sc0 sC, SC_nc0 sC, SC_ac1 sC, SC_sc1 sC, SC_nc1 sC, SC_ac2 sC, SC_sc2 sC, SC_nc2 sC, SC_ac3 sC, SC_sc3 sC, SC_nc3 sC, SC_ac4 sC, SC_sc4 sC, SC_nc4 sC, SC_g1 sC, SC_g2 sC, SC_g74 sC, SC_g3 sC, SC_g66 sC, SC_g68 sC, SC_g72 sC, SC_g73 sC, SC_g4 sC, SC_g67 sC, SC_g69 sC, SC_g70 sC, SC_g71 sC, SC_g75 sC, SC_g76 sC, SC_g77 sC, SC_g78 sC, SC_g79 sC, SC_g80 sC, SC_gri sC, SC_grc sC, SC_grc0 sC, SC_grc1 sC, SC_grc2 sC, SC_grc3 sC, SC_grc4 sC, SC_grr sC, SC_grs sC, SC_grg sC, ↓SC_g1 s2, ↓SC_g2 s2, ↓SC_g74 s2, ↓SC_g3 s2, ↓SC_g66 s2, ↓SC_g68 s2, ↓SC_g72 s2, ↓SC_g73 s2, ↓SC_g4 s2, ↓SC_g67 s2, ↓SC_g69 s2, ↓SC_g70 s2, ↓SC_g71 s2, ↓SC_g75 s2, ↓SC_g76 s2, ↓SC_g77 s2, ↓SC_g78 s2, ↓SC_g79 s2, ↓SC_g80 s2, ↓SC_gri s2, ↓SC_grc s2, ↓SC_grc0 s2, ↓SC_grc1 s2, ↓SC_grc2 s2, ↓SC_grc3 s2, ↓SC_grc4 s2, ↓SC_grr s2, ↓SC_grs s2, ↓SC_grg s2, ↓SC_b72 s2, ↓SC_oI0 s2, ↓SC_oP0 s2, ↓SC_oZ0 s2, ↓SC_oY0 s2, ↓SC_oz0 s2, ↓SC_oy0 s2, ↓SC_oV0 s2, ↓SC_oI3 s2, ↓SC_oP3 s2, ↓SC_oZ3 s2, ↓SC_oY3 s2, ↓SC_oz3 s2, ↓SC_oy3 s2, ↓SC_oV3 s2, ↓SC_oI66 s2, ↓SC_oP66 s2, ↓SC_oZ66 s2, ↓SC_oY66 s2, ↓SC_oz66 s2, ↓SC_oy66 s2, ↓SC_oV66 s2, ↓SC_oI68 s2, ↓SC_oP68 s2, ↓SC_oZ68 s2, ↓SC_oY68 s2, ↓SC_oz68 s2, ↓SC_oy68 s2, ↓SC_oV68 s2, ↓SC_oI74 s2, ↓SC_oP74 s2, ↓SC_oZ74 s2, ↓SC_oY74 s2, ↓SC_oz74 s2, ↓SC_oy74 s2, ↓SC_oV74 s2, ↓SC_oIr s2, ↓SC_oPr s2, ↓SC_oZr s2, ↓SC_oYr s2, ↓SC_ozr s2, ↓SC_oyr s2, ↓SC_oVr s2, ↓SC_oIw s2, ↓SC_oPw s2, ↓SC_oZw s2, ↓SC_oYw s2, ↓SC_ozw s2, ↓SC_oyw s2, ↓SC_oVw s2, ↓SC_oIh s2, ↓SC_oPh s2, ↓SC_oZh s2, ↓SC_oYh s2, ↓SC_ozh s2, ↓SC_oyh s2, ↓SC_oVh s2, ↓SC_a67 s2, ↓SC_s67 s2, ↓SC_n67 s2, ↓SC_a69 s2, ↓SC_s69 s2, ↓SC_n69 s2, ↓SC_a70 s2, ↓SC_s70 s2, ↓SC_n70 s2, ↓SC_a71 s2, ↓SC_s71 s2, ↓SC_n71 s2, ↓SC_a73 s2, ↓SC_s73 s2, ↓SC_n73 s2, ↓SC_a75 s2, ↓SC_s75 s2, ↓SC_n75 s2, ↓SC_a76 s2, ↓SC_s76 s2, ↓SC_n76 s2, ↓SC_a77 s2, ↓SC_s77 s2, ↓SC_n77 s2, ↓SC_a78 s2, ↓SC_s78 s2, ↓SC_n78 s2, ↓SC_a79 s2, ↓SC_s79 s2, ↓SC_n79 s2, ↓SC_a80 s2, ↓SC_s80 s2, ↓SC_n80 s2, ↓SC_ai s2, ↓SC_si s2, ↓SC_ni s2, ↓SC_ag s2, ↓SC_sg s2, ↓SC_ng s2, ↓SC_ac0 s2, ↓SC_sc0 s2, ↓SC_nc0 s2, ↓SC_ac1 s2, ↓SC_sc1 s2, ↓SC_nc1 s2, ↓SC_ac2 s2, ↓SC_sc2 s2, ↓SC_nc2 s2, ↓SC_ac3 s2, ↓SC_sc3 s2, ↓SC_nc3 s2, ↓SC_ac4 s2, ↓SC_sc4 s2, ↓SC_nc4 s2, SC_b72 s2, SC_oI0 s2, SC_oP0 s2, SC_oZ0 s2, SC_oY0 s2, SC_oz0 s2, SC_oy0 s2, SC_oV0 s2, SC_oI3 s2, SC_oP3 s2, SC_oZ3 s2, SC_oY3 s2, SC_oz3 s2, SC_oy3 s2, SC_oV3 s2, SC_oI66 s2, SC_oP66 s2, SC_oZ66 s2, SC_oY66 s2, SC_oz66 s2, SC_oy66 s2, SC_oV66 s2, SC_oI68 s2, SC_oP68 s2, SC_oZ68 s2, SC_oY68 s2, SC_oz68 s2, SC_oy68 s2, SC_oV68 s2, SC_oI74 s2, SC_oP74 s2, SC_oZ74 s2, SC_oY74 s2, SC_oz74 s2, SC_oy74 s2, SC_oV74 s2, SC_oIr s2, SC_oPr s2, SC_oZr s2, SC_oYr s2, SC_ozr s2, SC_oyr s2, SC_oVr s2, SC_oIw s2, SC_oPw s2, SC_oZw s2, SC_oYw s2, SC_ozw s2, SC_oyw s2, SC_oVw s2, SC_oIh s2, SC_oPh s2, SC_oZh s2, SC_oYh s2, SC_ozh s2, SC_oyh s2, SC_oVh s2, SC_a67 s2, SC_s67 s2, SC_n67 s2, SC_a69 s2, SC_s69 s2, SC_n69 s2, SC_a70 s2, SC_s70 s2, SC_n70 s2, SC_a71 s2, SC_s71 s2, SC_n71 s2, SC_a73 s2, SC_s73 s2, SC_n73 s2, SC_a75 s2, SC_s75 s2, SC_n75 s2, SC_a76 s2, SC_s76 s2, SC_n76 s2, SC_a77 s2, SC_s77 s2, SC_n77 s2, SC_a78 s2, SC_s78 s2, SC_n78 s2, SC_a79 s2, SC_s79 s2, SC_n79 s2, SC_a80 s2, SC_s80 s2, SC_n80 s2, SC_ai s2, SC_si s2, SC_ni s2, SC_ag s2, SC_sg s2, SC_ng s2, SC_ac0 s2, SC_sc0 s2, SC_nc0 s2, SC_ac1 s2, SC_sc1 s2, SC_nc1 s2, SC_ac2 s2, SC_sc2 s2, SC_nc2 s2, SC_ac3 s2, SC_sc3 s2, SC_nc3 s2, SC_ac4 s2, SC_sc4 s2, SC_nc4 s2, SC_g1 s2, SC_g2 s2, SC_g74 s2, SC_g3 s2, SC_g66 s2, SC_g68 s2, SC_g72 s2, SC_g73 s2, SC_g4 s2, SC_g67 s2, SC_g69 s2, SC_g70 s2, SC_g71 s2, SC_g75 s2, SC_g76 s2, SC_g77 s2, SC_g78 s2, SC_g79 s2, SC_g80 s2, SC_gri s2, SC_grc s2, SC_grc0 s2, SC_grc1 s2, SC_grc2 s2, SC_grc3 s2, SC_grc4 s2, SC_grr s2, SC_grs s2, SC_grg s2, ↓nn_s, ↓nn_n, ↓bnd_s, nn_s, nn_n, bnd_s, rI, rZ, rV, rR, wA00, n_sub, nI_add, pk_mul, n_m1, n_leI, n_ltI, n_eqI, n_eqm1, n_0m1, n_m10, n_cl, n_div, n_rem, li_0, li_1, li_2, li_3, li_4, li_5, li_6, li_7, li_8, li_9, li_10, li_11, li_12, li_13, li_16, li_20, li_21, li_22, li_36, li_40, li_59, li_60, li_61, li_99, li_100, li_109, li_110, li_119, li_120, li_121, li_512, li_3721, li_1000000, li_1000001, li_1000002, li_1000003, li_1000010, t_lt, t_le, f_lt, f_le, t_eq, f_eq, if_true, if_false, true_and, and_true, or_true, true_or, or_false, false_or, and_false, false_and, not_true_eq_false, not_false_eq_true, Nat.zero_add, Nat.add_zero, Nat.mul_zero]
  · rw [a_gi_wi, ug_1 rfl rfl]
  · show ∃ a, a_gr (a_pr h (c + 72) nb (some ea)) (c + 72) e = some a ∧ enC _ own c a e (va_up be nb X e)
    by_cases z : e = nb
    · subst z
      rw [va_up_at]
      exact ⟨ea, by rw [a_gr_pr, if_pos ⟨rfl, rfl⟩], enC_fr (enW_enC W hc) F h0 (fun a j z1 z2 z3 => by omega) ho⟩
    · rw [va_up_off _ _ z]
      obtain ⟨a, g1, g2⟩ := bp.2 e (by have he : e < nb + 1 := he; omega)
      exact ⟨a, by rw [a_gr_pr, if_neg (fun w => z w.2)]; exact g1, enC_fr g2 F h0 (fun a j z1 z2 z3 => by omega) ho⟩
end PENTRY2
