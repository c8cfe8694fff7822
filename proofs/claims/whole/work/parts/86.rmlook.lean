section PRMLOOK
variable {c m t r s : Nat} {h : AH} {G G' : Nat → Nat → Int32}
variable {ru fd fd' : Int32} {rw rw' : Nat → Option Rw} {kp gv : Nat → Option An} {lk : Nat → List Nat} {bk : Nat × (Nat → En)} {tr tr' : Nat × (Nat → Int32)}
theorem RM_look {l : List Nat} {hd : Nat} (p : RM m h (ru, rw, kp, gv, lk, bk, tr, fd)) (w : ∀ s, s < 36 → (lk s).length ≤ 512) (hs : s < 36) (hh : hd < 4) (e : ∀ a j, ¬ scrM m a j → ¬ (a = m + 14 ∧ j = 36 * hd + s) → ¬ (a = m + 15 ∧ 512 * (36 * hd + s) ≤ j ∧ j < 512 * (36 * hd + s) + 512) → G' a j = a_gi h a j) (hl : lookM G' m s l) : RM m (wi h G') (ru, rw, kp, gv, va_up lk s l, bk, tr, fd) := by
  obtain ⟨p1, p2, p3, p4, p5, p6, p7, p8⟩ := p
  refine ⟨SM_wi p1, ?_, rowsM_fr p3 ?_, anssM_fr p4 ?_, ?_, bookM_fr p6 ?_ ?_, trM_fr p7 ?_ ?_, ?_⟩
  · exact (e _ _ (by unfold scrM; omega) (by omega) (by omega)).trans p2
  · exact fun a j h1 h2 => e _ _ (by unfold scrM; omega) (by omega) (by omega)
  · exact fun a j h1 h2 => e _ _ (by unfold scrM; omega) (by omega) (by omega)
  · intro s' hs'
    show lookM G' m s' (va_up lk s l s')
    by_cases z : s' = s
    · subst z; rw [va_up_at]; exact hl
    · rw [va_up_off _ _ z]
      intro hd' hh'
      have b : (hnd hd' (lk s')).length ≤ 512 := Nat.le_trans (List.length_filter_le _ _) (w s' hs')
      exact ⟨(e _ _ (by unfold scrM; omega) (by omega) (by omega)).trans (p5 s' hs' hd' hh').1, fun k hk => (e _ _ (by unfold scrM; omega) (by omega) (by have hk : k < (hnd hd' (lk s')).length := hk; omega)).trans ((p5 s' hs' hd' hh').2 k hk)⟩
  · exact e _ _ (by unfold scrM; omega) (by omega) (by omega)
  · exact fun a j h1 h2 => e _ _ (by unfold scrM; omega) (by omega) (by omega)
  · exact e _ _ (by unfold scrM; omega) (by omega) (by omega)
  · exact fun j => e _ _ (by unfold scrM; omega) (by omega) (by omega)
  · exact (e _ _ (by unfold scrM; omega) (by omega) (by omega)).trans p8
end PRMLOOK
