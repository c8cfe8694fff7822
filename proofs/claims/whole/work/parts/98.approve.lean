section PAPPROVE
variable {c m t r s : Nat} {hC hM h h' : AH} {own own' : Nat → Nat} {G G' : Nat → Nat → Int32}
variable {ru fd fd' : Int32} {rw rw' : Nat → Option Rw} {kp gv : Nat → Option An} {lk : Nat → List Nat} {bk bk' : Nat × (Nat → En)} {tr tr' : Nat × (Nat → Int32)}
theorem VS_add {nb : Nat} {be : Nat → En} {X : En} (w : VS (ru, rw, kp, gv, lk, (nb, be), tr, fd) t) (hn : nb < 100) (hX : okE X) : VS (ru, rw, kp, gv, lk, (nb + 1, va_up be nb X), tr, fd) t := by
  refine ⟨w.1, w.2.1, w.2.2.1, w.2.2.2.1, hn, fun k hk => ?_, w.2.2.2.2.2.2⟩
  show okE (va_up be nb X k)
  by_cases z : k = nb
  · subst z; rw [va_up_at]; exact hX
  · rw [va_up_off _ _ z]; exact w.2.2.2.2.2.1 k (show k < nb by have hk : k < nb + 1 := hk; omega)
theorem M_fin {nb : Nat} {be : Nat → En} {X : En} (p : RM m (wi h G) (ru, rw, kp, gv, lk, (nb, be), tr, fd)) (E : enM G m nb X) : RM m (wi h (ug G m 37 (nI (nb + 1)))) (ru, rw, kp, gv, lk, (nb + 1, va_up be nb X), tr, fd) := by
  have bp : bookM G m nb be := p.2.2.2.2.2.1
  have := RM_book (bk' := (nb + 1, va_up be nb X)) (G' := ug G m 37 (nI (nb + 1))) p (fun a j z1 z2 z3 => by rw [ug_r, if_neg z2]; rfl) ⟨ug_1 rfl rfl, fun e he => ?_⟩
  · exact this
  · show enM _ m e (va_up be nb X e)
    by_cases z : e = nb
    · subst z; rw [va_up_at]; exact enM_fr E (fun a j z1 z2 => ug_2 (by omega))
    · rw [va_up_off _ _ z]; exact enM_fr (bp.2 e (by have he : e < nb + 1 := he; omega)) (fun a j z1 z2 => ug_2 (by omega))
theorem M_ent {nb : Nat} {be : Nat → En} {X : En} {x : An} {l : List Int32} (p : RM m (wi h G) (ru, rw, kp, gv, lk, (nb, be), tr, fd)) (okb : ∀ e, e < nb → okE (be e)) (ok : ∀ s, s < 36 → okA (kp s) ∧ okA (gv s)) (hs : s < 36) (hn : nb < 100) (hkx : kp s = some x) (E : enM G m nb X) (hX : X.2.2.2.2.2.1 < 36) (hX2 : ∀ k, k < X.2.2.2.2.2.1 → (X.2.2.2.2.2.2.2 k).1 ≤ 60) (hl : l.length ≤ 60) (pd : drM G m l) : ∃ G', f_X11_becomes (wi h G) m (nI s) = some ((), wi h G', 0, 0) ∧ RM m (wi h G') (ru, rw, va_up kp s (some (anL l)), gv, lk, (nb, be), tr, fd) ∧ enM G' m nb (enA X s x X.2.2.1 X.2.2.2.1) ∧ (∀ a j, ¬ zE m nb a j → ¬ (a = m + 13 ∧ j = s) → ¬ ((a = m + 11 ∨ a = m + 12) ∧ 60 * s ≤ j ∧ j < 60 * s + 60) → G' a j = G a j) := by
  have sM : SM m h := p.1
  obtain ⟨E1, E2, E3, E4, E5, E6, E7⟩ := E
  have pk : ansM G m s (kp s) := (p.2.2.2.1 s hs).1
  rw [hkx] at pk
  have hx := (ok s hs).1 x hkx
  have e37 : G m 37 = nI nb := p.2.2.2.2.2.1.1
  obtain ⟨G', g1, g2, g3, g4, g5⟩ := M_becomes sM hs hn hX hx hl e37 E6 pk pd
  have fr : ∀ a j, ¬ zE m nb a j → ¬ (a = m + 13 ∧ j = s) → ¬ ((a = m + 11 ∨ a = m + 12) ∧ 60 * s ≤ j ∧ j < 60 * s + 60) → G' a j = G a j := fun a j z1 z2 z3 => g2 a j (by unfold zE at z1; omega) (by unfold zE at z1; omega) (by unfold zE at z1; omega) z2 z3
  refine ⟨G', g1, RM_kpE (h := wi h G) p okb ok hs (fun a j z1 z2 z3 z4 => fr a j z2 z3 z4) g5, ⟨?_, ?_, ?_, ?_, ?_, g3, fun k hk => ?_⟩, fr⟩
  · rw [g2 _ _ (by omega) (by omega) (by omega) (by omega) (by omega)]; exact E1
  · rw [g2 _ _ (by omega) (by omega) (by omega) (by omega) (by omega)]; exact E2
  · rw [g2 _ _ (by omega) (by omega) (by omega) (by omega) (by omega)]; exact E3
  · rw [g2 _ _ (by omega) (by omega) (by omega) (by omega) (by omega)]; exact E4
  · rw [g2 _ _ (by omega) (by omega) (by omega) (by omega) (by omega)]; exact E5
  · show hadM G' m (36 * nb + k) (va_up X.2.2.2.2.2.2.1 X.2.2.2.2.2.1 s k) (va_up X.2.2.2.2.2.2.2 X.2.2.2.2.2.1 x k)
    have hk : k < X.2.2.2.2.2.1 + 1 := hk
    by_cases z : k = X.2.2.2.2.2.1
    · rw [z, va_up_at, va_up_at]; exact g4
    · rw [va_up_off _ _ z, va_up_off _ _ z]
      obtain ⟨y1, y2, y3, y4⟩ := E7 k (by omega)
      have y5 := hX2 k (by omega)
      refine ⟨?_, ?_, ?_, fun j hj => ?_⟩
      · rw [g2 _ _ (by omega) (by omega) (by omega) (by omega) (by omega)]; exact y1
      · rw [g2 _ _ (by omega) (by omega) (by omega) (by omega) (by omega)]; exact y2
      · rw [g2 _ _ (by omega) (by omega) (by omega) (by omega) (by omega)]; exact y3
      · rw [g2 _ _ (by omega) (by omega) (by omega) (by omega) (by omega), g2 _ _ (by omega) (by omega) (by omega) (by omega) (by omega)]; exact y4 j hj
theorem cn_one {i : Nat} : ∀ d k, k ≤ i → i < k + d → cn (fun q => decide (q = i) = true) d k = 1
  | 0, k, h1, h2 => by omega
  | d + 1, k, h1, h2 => by
    by_cases z : k = i
    · rw [cn_t (P := fun q => decide (q = i) = true) (decide_eq_true z), cn_0 _ _ (fun j h3 h4 => by rw [decide_eq_false (by omega)]; exact Bool.false_ne_true)]
    · rw [cn_f (P := fun q => decide (q = i) = true) (by rw [decide_eq_false z]; exact Bool.false_ne_true)]
      exact cn_one d (k + 1) (by omega) (by omega)
end PAPPROVE
