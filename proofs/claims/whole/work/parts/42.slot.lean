section PSLOT
variable {c m t r s : Nat} {hC hM h h' : AH} {own own' : Nat → Nat} {G G' : Nat → Nat → Int32}
variable {ru fd fd' : Int32} {rw rw' : Nat → Option Rw} {kp gv : Nat → Option An} {lk : Nat → List Nat} {bk : Nat × (Nat → En)} {tr tr' : Nat × (Nat → Int32)}
theorem a_pr_wi (h : AH) (G : Nat → Nat → Int32) (a j : Nat) (v : Option Nat) : a_pr (wi h G) a j v = wi (a_pr h a j v) G := rfl
theorem pR_w {β : Type} {a k j : Nat} {v : Option Nat} {q : AH → Option β} (hk : a_kd h a = k) : pR (wi h G) (some a) k j v q = q (wi (a_pr h a j v) G) := if_pos hk
theorem a_gr_pr (h : AH) (a j : Nat) (v : Option Nat) (b k : Nat) : a_gr (a_pr h a j v) b k = if b = a ∧ k = j then v else a_gr h b k := by
  show va_up h.2.2.2.2 a (va_up (a_gr h a) j v) b k = _
  by_cases h1 : b = a
  · subst h1
    rw [va_up_at]
    by_cases h2 : k = j
    · subst h2; rw [va_up_at, if_pos ⟨rfl, rfl⟩]
    · rw [va_up_off _ _ h2, if_neg (fun x => h2 x.2)]
  · rw [va_up_off _ _ h1, if_neg (fun x => h1 x.1)]; rfl
theorem a_gi_pr (h : AH) (a j : Nat) (v : Option Nat) : a_gi (a_pr h a j v) = a_gi h := rfl
/-- what stands at the places that the picture rests on -/
theorem SC_of (p : SC c h) (hn : c + 385 ≤ a_nx h') (e1 : ∀ a, a < c + 385 → a_kd h' a = a_kd h a ∧ a_ln h' a = a_ln h a) (e2 : ∀ a j, a < c + 97 → a ≠ c + 72 → a_gr h' a j = a_gr h a j) (e3 : ∀ s, s < 36 → a_gr h' (c + 97 + 8 * s) 4 = a_gr h (c + 97 + 8 * s) 4) (e4 : ∀ s j, s < 36 → a_gr h' (c + 98 + 8 * s) j = a_gr h (c + 98 + 8 * s) j) : SC c h' := by
  have hk := fun a ha => (e1 a ha).1
  have hl := fun a ha => (e1 a ha).2
  exact ⟨hn, (hk _ (by omega)).trans (SC_k0 p), (hk _ (by omega)).trans (SC_k1 p), (hl _ (by omega)).trans (SC_l1 p), (hk _ (by omega)).trans (SC_k2 p), (hl _ (by omega)).trans (SC_l2 p), (hk _ (by omega)).trans (SC_k3 p), (hk _ (by omega)).trans (SC_k4 p), (hl _ (by omega)).trans (SC_l4 p), (hk _ (by omega)).trans (SC_k66 p), (hk _ (by omega)).trans (SC_k67 p), (hl _ (by omega)).trans (SC_l67 p), (hk _ (by omega)).trans (SC_k68 p), (hk _ (by omega)).trans (SC_k69 p), (hl _ (by omega)).trans (SC_l69 p), (hk _ (by omega)).trans (SC_k70 p), (hl _ (by omega)).trans (SC_l70 p), (hk _ (by omega)).trans (SC_k71 p), (hl _ (by omega)).trans (SC_l71 p), (hk _ (by omega)).trans (SC_k72 p), (hl _ (by omega)).trans (SC_l72 p), (hk _ (by omega)).trans (SC_k73 p), (hl _ (by omega)).trans (SC_l73 p), (hk _ (by omega)).trans (SC_k74 p), (hk _ (by omega)).trans (SC_k75 p), (hl _ (by omega)).trans (SC_l75 p), (hk _ (by omega)).trans (SC_k76 p), (hl _ (by omega)).trans (SC_l76 p), (hk _ (by omega)).trans (SC_k77 p), (hl _ (by omega)).trans (SC_l77 p), (hk _ (by omega)).trans (SC_k78 p), (hl _ (by omega)).trans (SC_l78 p), (hk _ (by omega)).trans (SC_k79 p), (hl _ (by omega)).trans (SC_l79 p), (hk _ (by omega)).trans (SC_k80 p), (hl _ (by omega)).trans (SC_l80 p), (e2 _ _ (by omega) (by omega)).trans (SC_r1 p), (e2 _ _ (by omega) (by omega)).trans (SC_r2 p), (e2 _ _ (by omega) (by omega)).trans (SC_r74 p), (e2 _ _ (by omega) (by omega)).trans (SC_r3 p), (e2 _ _ (by omega) (by omega)).trans (SC_r66 p), (e2 _ _ (by omega) (by omega)).trans (SC_r68 p), (e2 _ _ (by omega) (by omega)).trans (SC_r72 p), (e2 _ _ (by omega) (by omega)).trans (SC_r73 p), (e2 _ _ (by omega) (by omega)).trans (SC_r4 p), (e2 _ _ (by omega) (by omega)).trans (SC_r67 p), (e2 _ _ (by omega) (by omega)).trans (SC_r69 p), (e2 _ _ (by omega) (by omega)).trans (SC_r70 p), (e2 _ _ (by omega) (by omega)).trans (SC_r71 p), (e2 _ _ (by omega) (by omega)).trans (SC_r75 p), (e2 _ _ (by omega) (by omega)).trans (SC_r76 p), (e2 _ _ (by omega) (by omega)).trans (SC_r77 p), (e2 _ _ (by omega) (by omega)).trans (SC_r78 p), (e2 _ _ (by omega) (by omega)).trans (SC_r79 p), (e2 _ _ (by omega) (by omega)).trans (SC_r80 p), fun i hx => (hk _ (by omega)).trans (SC_kg p hx), fun i hx => (hl _ (by omega)).trans (SC_lg p hx), fun i hx => (e2 _ _ (by omega) (by omega)).trans (SC_rg p hx), fun r hx => (e2 _ _ (by omega) (by omega)).trans (SC_rr p hx), fun r hx => (hk _ (by omega)).trans (SC_kr p hx), fun r hx => (e2 _ _ (by omega) (by omega)).trans (SC_ri p hx), fun r hx => (hk _ (by omega)).trans (SC_ki p hx), fun r hx => (hl _ (by omega)).trans (SC_li p hx), fun s hx => (e2 _ _ (by omega) (by omega)).trans (SC_rs p hx), fun s hx => (hk _ (by omega)).trans (SC_ks p hx), fun s hx => (e3 _ hx).trans (SC_rc p hx), fun s hx => (hk _ (by omega)).trans (SC_kc p hx), fun s hx => (e4 _ _ hx).trans (SC_rc0 p hx), fun s hx => (hk _ (by omega)).trans (SC_kc0 p hx), fun s hx => (hl _ (by omega)).trans (SC_lc0 p hx), fun s hx => (e4 _ _ hx).trans (SC_rc1 p hx), fun s hx => (hk _ (by omega)).trans (SC_kc1 p hx), fun s hx => (hl _ (by omega)).trans (SC_lc1 p hx), fun s hx => (e4 _ _ hx).trans (SC_rc2 p hx), fun s hx => (hk _ (by omega)).trans (SC_kc2 p hx), fun s hx => (hl _ (by omega)).trans (SC_lc2 p hx), fun s hx => (e4 _ _ hx).trans (SC_rc3 p hx), fun s hx => (hk _ (by omega)).trans (SC_kc3 p hx), fun s hx => (hl _ (by omega)).trans (SC_lc3 p hx), fun s hx => (e4 _ _ hx).trans (SC_rc4 p hx), fun s hx => (hk _ (by omega)).trans (SC_kc4 p hx), fun s hx => (hl _ (by omega)).trans (SC_lc4 p hx)⟩
theorem SC_pr (p : SC c h) (hs : s < 36) {j : Nat} {v : Option Nat} (hj : j = 2 ∨ j = 3 ∨ j = 6) : SC c (a_pr h (c + 97 + 8 * s) j v) := by
  refine SC_of p (by exact (SC_nx p : c + 385 ≤ a_nx h)) (fun a ha => ⟨rfl, rfl⟩) (fun a k h1 h2 => ?_) (fun s' hs' => ?_) (fun s' k hs' => ?_)
  · rw [a_gr_pr, if_neg (by omega)]
  · rw [a_gr_pr, if_neg (by omega)]
  · rw [a_gr_pr, if_neg (by omega)]
/-- the places that a change of slot s may touch -/
def sS (c s a j : Nat) : Prop := (a = c + 97 + 8 * s ∧ (j = 2 ∨ j = 3 ∨ j = 5 ∨ j = 7)) ∨ (a = c ∧ (j = 6 ∨ j = 11)) ∨ (c + 5 ≤ a ∧ a ≤ c + 67) ∨ (c + 75 ≤ a ∧ a ≤ c + 80)
theorem RCC_slot {x y : Option An} {l : List Nat} (p : RCC own c h (ru, rw, kp, gv, lk, bk, tr, fd)) (hs : s < 36) (F : Fr h h' (sS c s)) (hS : SC c h') (ho : Sown own own' h) (hk : ansC h' own' c (a_gr h' (c + 97 + 8 * s) 2) x) (hg : ansC h' own' c (a_gr h' (c + 97 + 8 * s) 3) y) (h5 : a_gi h' (c + 97 + 8 * s) 5 = 0) (h6 : a_gi h' c 6 = 0) (hl : lookC h' own' c s l) (h11 : a_gi h' c 11 = fd') : RCC own' c h' (ru, rw, va_up kp s x, va_up gv s y, va_up lk s l, bk, tr, fd') := by
  obtain ⟨⟨p1, p2, p3, p4, p5, p6, p7, p8, p9⟩, p10⟩ := p
  have hn := SC_nx p1
  have h0 : Ok0 (sS c s) own c h := fun a j h1 h2 h3 => by unfold sS; omega
  refine ⟨⟨hS, nmC_fr p2 ?_, ?_, rowsC_fr p4 ?_, ?_, ?_, bookC_fr p7 F hn ?_ ?_ h0 ?_ ho, trC_fr p8 ?_ ?_, h11⟩, ?_, .inl h6⟩
  · exact fun s' hs' => ⟨F.gi (by omega) (by unfold sS; omega), F.gi (by omega) (by unfold sS; omega)⟩
  · exact (F.gi (by omega) (by unfold sS; omega)).trans p3
  · exact fun a j z1 z2 => F.gi (by omega) (by unfold sS; omega)
  · intro s' hs'
    by_cases e : s' = s
    · subst e
      show ansC _ _ _ _ (va_up kp s' x s') ∧ ansC _ _ _ _ (va_up gv s' y s')
      rw [va_up_at, va_up_at]; exact ⟨hk, hg⟩
    · show ansC _ _ _ _ (va_up kp s x s') ∧ ansC _ _ _ _ (va_up gv s y s')
      rw [va_up_off _ _ e, va_up_off _ _ e, F.gr (by omega) (by unfold sS; omega), F.gr (by omega) (by unfold sS; omega)]
      exact ⟨ansC_fr (p5 s' hs').1 F h0 ho, ansC_fr (p5 s' hs').2 F h0 ho⟩
  · intro s' hs'
    by_cases e : s' = s
    · subst e
      show lookC _ _ _ _ (va_up lk s' l s')
      rw [va_up_at]; exact hl
    · show lookC _ _ _ _ (va_up lk s l s')
      rw [va_up_off _ _ e]
      exact lookC_fr (p6 s' hs') F hn hs' (by unfold sS; omega) (by unfold sS; omega) (fun a j z1 z2 z3 => by unfold sS; omega) ho
  · unfold sS; omega
  · intro j; unfold sS; omega
  · intro a j z1 z2 z3; unfold sS; omega
  · exact F.gi (by omega) (by unfold sS; omega)
  · exact fun j => F.gi (by omega) (by unfold sS; omega)
  · intro s' hs'
    by_cases e : s' = s
    · subst e; exact .inl h5
    · show _ ∨ _ ∧ chC _ _ _ (chs (va_up kp s x s') (va_up gv s y s')) (cst (va_up kp s x s') (va_up gv s y s'))
      rw [va_up_off _ _ e, va_up_off _ _ e, F.gi (by omega) (by unfold sS; omega)]
      exact (p10.1 s' hs').imp id (fun q => ⟨q.1, chC_fr q.2 (fun a j z1 z2 => F.gi (by omega) (by unfold sS; omega))⟩)
theorem va_self {α : Type} (f : Nat → α) (k : Nat) : va_up f k (f k) = f := by
  funext j; by_cases h : j = k
  · subst h; rw [va_up_at]
  · rw [va_up_off _ _ h]
noncomputable def cn (P : Nat → Prop) : Nat → Nat → Nat
  | 0, _ => 0
  | d + 1, i => (haveI := Classical.propDecidable (P i); if P i then 1 else 0) + cn P d (i + 1)
theorem cn_t {P : Nat → Prop} {d i : Nat} (h : P i) : cn P (d + 1) i = 1 + cn P d (i + 1) := by simp only [cn, if_pos h]
theorem cn_f {P : Nat → Prop} {d i : Nat} (h : ¬ P i) : cn P (d + 1) i = cn P d (i + 1) := by simp only [cn, if_neg h]; omega
theorem cn_le (P : Nat → Prop) : ∀ d i, cn P d i ≤ d
  | 0, _ => Nat.le_refl _
  | d + 1, i => by
    have := cn_le P d (i + 1)
    by_cases h : P i
    · rw [cn_t h]; omega
    · rw [cn_f h]; omega
end PSLOT
