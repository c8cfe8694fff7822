section PLOOK2
variable {c m t r s : Nat} {hC hM h h' : AH} {own own' : Nat → Nat} {G G' : Nat → Nat → Int32}
variable {ru fd fd' : Int32} {rw rw' : Nat → Option Rw} {kp gv : Nat → Option An} {lk : Nat → List Nat} {bk : Nat × (Nat → En)} {tr tr' : Nat × (Nat → Int32)}
/-- the places that a look at slot s may touch -/
def sL (own : Nat → Nat) (c s a j : Nat) : Prop := (a = c + 97 + 8 * s ∧ (j = 6 ∨ j = 7)) ∨ (own a = s + 1 ∧ (a = c + 104 + 8 * s ∨ c + 385 ≤ a))
theorem RCC_look {l : List Nat} (p : RCC own c h (ru, rw, kp, gv, lk, bk, tr, fd)) (hs : s < 36) (F : Fr h h' (sL own c s)) (hS : SC c h') (ho : Sown own own' h) (hl : lookC h' own' c s l) : RCC own' c h' (ru, rw, kp, gv, va_up lk s l, bk, tr, fd) := by
  obtain ⟨⟨p1, p2, p3, p4, p5, p6, p7, p8, p9⟩, p10⟩ := p
  have hn := SC_nx p1
  have h0 : Ok0 (sL own c s) own c h := fun a j h1 h2 h3 => by unfold sL; omega
  refine ⟨⟨hS, nmC_fr p2 ?_, ?_, rowsC_fr p4 ?_, anssC_fr p5 F hn ?_ ?_ h0 ho, ?_, bookC_fr p7 F hn ?_ ?_ h0 ?_ ho, trC_fr p8 ?_ ?_, ?_⟩, CC_fr p10 ?_ ?_ ?_ ?_⟩
  · exact fun s' hs' => ⟨F.gi (by omega) (by unfold sL; omega), F.gi (by omega) (by unfold sL; omega)⟩
  · exact (F.gi (by omega) (by unfold sL; omega)).trans p3
  · exact fun a j z1 z2 => F.gi (by omega) (by unfold sL; omega)
  · exact fun s' hs' => by unfold sL; omega
  · exact fun s' hs' => by unfold sL; omega
  · intro s' hs'
    by_cases e : s' = s
    · subst e
      show lookC _ _ _ _ (va_up lk s' l s')
      rw [va_up_at]; exact hl
    · show lookC _ _ _ _ (va_up lk s l s')
      rw [va_up_off _ _ e]
      exact lookC_fr (p6 s' hs') F hn hs' (by unfold sL; omega) (by unfold sL; omega) (fun a j z1 z2 z3 => by unfold sL; omega) ho
  · unfold sL; omega
  · intro j; unfold sL; omega
  · intro a j z1 z2 z3; unfold sL; omega
  · exact F.gi (by omega) (by unfold sL; omega)
  · exact fun j => F.gi (by omega) (by unfold sL; omega)
  · exact (F.gi (by omega) (by unfold sL; omega)).trans p9
  · exact F.gi (by omega) (by unfold sL; omega)
  · exact fun a j z1 z2 => F.gi (by omega) (by unfold sL; omega)
  · exact fun s' hs' => F.gi (by omega) (by unfold sL; omega)
  · exact fun s' a j hs' z1 z2 => F.gi (by omega) (by unfold sL; omega)
end PLOOK2
