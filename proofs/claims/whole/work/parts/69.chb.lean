section PCHB
variable {n z : Nat} {fa fb : Nat → Int32}
/-- what holds of the changes on the way -/
def wI (i j : Nat) (op : Bool) (k : Nat) (F : Nat → Ch) : Prop := (∀ q, q < k → (F q).1 + (F q).2.1 ≤ i ∧ (F q).2.2.1 + (F q).2.2.2 ≤ j) ∧ (∀ q, q + 1 < k → (F q).1 + (F q).2.1 ≤ (F (q + 1)).1 ∧ (F q).2.2.1 + (F q).2.2.2 ≤ (F (q + 1)).2.2.1) ∧ (op = true → 1 ≤ k ∧ (F (k - 1)).1 + (F (k - 1)).2.1 = i ∧ (F (k - 1)).2.2.1 + (F (k - 1)).2.2.2 = j ∧ 3 * k ≤ i + j + 2) ∧ (op = false → 3 * k ≤ i + j)
theorem wI_open {i j k : Nat} {F : Nat → Ch} (p : wI i j false k F) : (∀ q, q < k + 1 → (va_up F k (i, 0, j, 0) q).1 + (va_up F k (i, 0, j, 0) q).2.1 ≤ i ∧ (va_up F k (i, 0, j, 0) q).2.2.1 + (va_up F k (i, 0, j, 0) q).2.2.2 ≤ j) ∧ (∀ q, q + 1 < k + 1 → (va_up F k (i, 0, j, 0) q).1 + (va_up F k (i, 0, j, 0) q).2.1 ≤ (va_up F k (i, 0, j, 0) (q + 1)).1 ∧ (va_up F k (i, 0, j, 0) q).2.2.1 + (va_up F k (i, 0, j, 0) q).2.2.2 ≤ (va_up F k (i, 0, j, 0) (q + 1)).2.2.1) ∧ (va_up F k (i, 0, j, 0) k).1 + (va_up F k (i, 0, j, 0) k).2.1 = i ∧ (va_up F k (i, 0, j, 0) k).2.2.1 + (va_up F k (i, 0, j, 0) k).2.2.2 = j := by
  obtain ⟨p1, p2, p3, p4⟩ := p
  refine ⟨fun q hq => ?_, fun q hq => ?_, ?_, ?_⟩
  · by_cases e : q = k
    · subst e; rw [va_up_at]; exact ⟨Nat.le_refl _, Nat.le_refl _⟩
    · rw [va_up_off _ _ e]; exact p1 q (by omega)
  · rw [va_up_off F (j := q) _ (by omega : q ≠ k)]
    by_cases e : q + 1 = k
    · rw [e, va_up_at]; exact p1 q (by omega)
    · rw [va_up_off _ _ e]; exact p2 q (by omega)
  · rw [va_up_at]; rfl
  · rw [va_up_at]; rfl
theorem wk_inv : ∀ d i j (op : Bool) k F, i ≤ n → j ≤ z → wI i j op k F → ∃ i' j' op', i' ≤ n ∧ j' ≤ z ∧ wI i' j' op' (wk n z fa fb d i j op k F).1 (wk n z fa fb d i j op k F).2
  | 0, i, j, op, k, F, hi, hj, p => ⟨i, j, op, hi, hj, p⟩
  | d + 1, i, j, op, k, F, hi, hj, p => by
    unfold wk
    by_cases h0 : i < n ∨ j < z
    case neg => rw [if_neg h0]; exact ⟨i, j, op, hi, hj, p⟩
    rw [if_pos h0]
    by_cases h1 : i < n ∧ j < z ∧ fa i = fb j
    · rw [if_pos h1]
      refine wk_inv d (i + 1) (j + 1) false k F (by omega) (by omega) ⟨fun q hq => ?_, p.2.1, fun e => (by cases e), fun _ => ?_⟩
      · have := p.1 q hq; omega
      · cases op with
        | true => have := (p.2.2.1 rfl).2.2.2; omega
        | false => have := p.2.2.2 rfl; omega
    rw [if_neg h1]
    have op1 : ∃ k1 F1, k1 = (if op then k else k + 1) ∧ F1 = (if op then F else va_up F k (i, 0, j, 0)) ∧ k1 - 1 = (if op then k - 1 else k) ∧ 1 ≤ k1 ∧ 3 * k1 ≤ i + j + 3 ∧ (∀ q, q < k1 → (F1 q).1 + (F1 q).2.1 ≤ i ∧ (F1 q).2.2.1 + (F1 q).2.2.2 ≤ j) ∧ (∀ q, q + 1 < k1 → (F1 q).1 + (F1 q).2.1 ≤ (F1 (q + 1)).1 ∧ (F1 q).2.2.1 + (F1 q).2.2.2 ≤ (F1 (q + 1)).2.2.1) ∧ (F1 (k1 - 1)).1 + (F1 (k1 - 1)).2.1 = i ∧ (F1 (k1 - 1)).2.2.1 + (F1 (k1 - 1)).2.2.2 = j := by
      cases op with
      | true =>
        obtain ⟨a1, a2, a3, a4⟩ := p.2.2.1 rfl
        exact ⟨k, F, rfl, rfl, rfl, a1, by omega, p.1, p.2.1, a2, a3⟩
      | false =>
        obtain ⟨a1, a2, a3, a4⟩ := wI_open p
        have := p.2.2.2 rfl
        exact ⟨k + 1, va_up F k (i, 0, j, 0), rfl, rfl, by simp, by omega, by omega, a1, a2, a3, a4⟩
    obtain ⟨k1, F1, o1, o2, o3, o4, o5, o6, o7, o8, o9⟩ := op1
    rw [← o1, ← o2, ← o3]
    by_cases hgo : i < n ∧ (z ≤ j ∨ sT n z fa fb (i + 1) j = sT n z fa fb i j)
    · rw [if_pos hgo]
      refine wk_inv d (i + 1) j true k1 _ (by omega) hj ⟨fun q hq => ?_, fun q hq => ?_, fun _ => ⟨o4, ?_, ?_, by omega⟩, fun e => by cases e⟩
      · unfold goesUp
        by_cases e : q = k1 - 1
        · rw [e, va_up_at]; dsimp only; omega
        · rw [va_up_off _ _ e]; have := o6 q hq; omega
      · unfold goesUp
        rw [va_up_off F1 (j := q) _ (by omega : q ≠ k1 - 1)]
        by_cases e : q + 1 = k1 - 1
        · rw [e, va_up_at]; have := o7 q hq; rw [e] at this; exact this
        · rw [va_up_off _ _ e]; exact o7 q hq
      · unfold goesUp; rw [va_up_at]; dsimp only; omega
      · unfold goesUp; rw [va_up_at]; dsimp only; omega
    · rw [if_neg hgo]
      have hjz : j < z := by
        by_cases z2 : j < z
        · exact z2
        · exact absurd ⟨by omega, .inl (by omega)⟩ hgo
      refine wk_inv d i (j + 1) true k1 _ hi (by omega) ⟨fun q hq => ?_, fun q hq => ?_, fun _ => ⟨o4, ?_, ?_, by omega⟩, fun e => by cases e⟩
      · unfold comesUp
        by_cases e : q = k1 - 1
        · rw [e, va_up_at]; dsimp only; omega
        · rw [va_up_off _ _ e]; have := o6 q hq; omega
      · unfold comesUp
        rw [va_up_off F1 (j := q) _ (by omega : q ≠ k1 - 1)]
        by_cases e : q + 1 = k1 - 1
        · rw [e, va_up_at]; have := o7 q hq; rw [e] at this; exact this
        · rw [va_up_off _ _ e]; exact o7 q hq
      · unfold comesUp; rw [va_up_at]; dsimp only; omega
      · unfold comesUp; rw [va_up_at]; dsimp only; omega
def lnA (x : Option An) : Nat := match x with | some x => x.1 | none => 0
/-- the changes of one slot: how many, within the rows, one behind the other -/
theorem chB {x y : Option An} (hx : okA x) (hy : okA y) : (chs x y).1 ≤ 40 ∧ (∀ q, q < (chs x y).1 → ((chs x y).2 q).1 + ((chs x y).2 q).2.1 ≤ lnA x ∧ ((chs x y).2 q).2.2.1 + ((chs x y).2 q).2.2.2 ≤ lnA y) ∧ (∀ q, q + 1 < (chs x y).1 → ((chs x y).2 q).1 + ((chs x y).2 q).2.1 ≤ ((chs x y).2 (q + 1)).1 ∧ ((chs x y).2 q).2.2.1 + ((chs x y).2 q).2.2.2 ≤ ((chs x y).2 (q + 1)).2.2.1) ∧ (0 < (chs x y).1 → ∃ u w, x = some u ∧ y = some w) := by
  cases x with
  | none => exact ⟨Nat.zero_le _, fun q hq => absurd hq (Nat.not_lt_zero _), fun q hq => absurd hq (Nat.not_lt_zero _), fun h => absurd h (Nat.not_lt_zero _)⟩
  | some x =>
    cases y with
    | none => exact ⟨Nat.zero_le _, fun q hq => absurd hq (Nat.not_lt_zero _), fun q hq => absurd hq (Nat.not_lt_zero _), fun h => absurd h (Nat.not_lt_zero _)⟩
    | some y =>
      have nx := hx x rfl
      have ny := hy y rfl
      obtain ⟨i', j', op', h1, h2, w1, w2, w3, w4⟩ := wk_inv (n := x.1) (z := y.1) (fa := x.2.2) (fb := y.2.2) (x.1 + y.1) 0 0 false 0 (fun _ => (0, 0, 0, 0)) (Nat.zero_le _) (Nat.zero_le _) ⟨fun q hq => absurd hq (Nat.not_lt_zero _), fun q hq => absurd hq (Nat.not_lt_zero _), fun e => (by cases e), fun _ => by omega⟩
      refine ⟨?_, fun q hq => ?_, w2, fun _ => ⟨x, y, rfl, rfl⟩⟩
      · show (wk x.1 y.1 x.2.2 y.2.2 (x.1 + y.1) 0 0 false 0 (fun _ => (0, 0, 0, 0))).1 ≤ 40
        cases op' with
        | true => have := (w3 rfl).2.2.2; omega
        | false => have := w4 rfl; omega
      · have := w1 q hq
        exact ⟨Nat.le_trans this.1 h1, Nat.le_trans this.2 h2⟩
end PCHB
