section PINITM
variable {h h' h'' : AH} {m : Nat}
theorem sI_h {β : Type} {a k i : Nat} {v : Int32} {q : AH → Option β} (hk : a_kd h a = k) (hi : i < a_ln h a) (hb : i < 2147483648) : sI h (some a) k (nI i) v q = q (a_pi h a i v) := by
  have := sI_w (h := h) (G := a_gi h) (v := v) (q := q) hk hi hb
  rw [← a_pi_h] at this
  exact this
theorem fM_sum : ((fM.drop 1).map (fun q : Nat × Nat × Nat => q.2.2)).sum = 551576 := by simp [fM]
set_option maxRecDepth 100000 in
theorem i_X11 {v : Int32} (N : Nat) : ∃ h', f_X11_init (a_mk (e_AH N) 11 0) N v = some ((), h', 42, 551584) ∧ a_nx h' = N + 43 ∧ SM N h' ∧ a_gi h' N 2 = (v &&& 7) ∧ (∀ j, j ≠ 2 → a_gi h' N j = 0) ∧ (∀ j, j < 8 → a_gi h' (N + 1) j = -1) ∧ ∀ a j, N + 2 ≤ a → a ≤ N + 42 → a_gi h' a j = 0 := by
  have x0 : a_nx (a_mk (e_AH N) 11 0) = N + 1 := rfl
  have c0 : cel (a_mk (e_AH N) 11 0) N 11 0 := cel_mk (e_AH N) 11 0
  generalize a_mk (e_AH N) 11 0 = h0 at x0 c0 ⊢
  have c1 := cel_mk h0 12 8
  have s1 : sm N h0 (a_mk h0 12 8) := sm_mk (by omega)
  have x1 : a_nx (a_mk h0 12 8) = N + 2 := by show a_nx h0 + 1 = _; omega
  rw [x0] at c1
  generalize eh1 : a_mk h0 12 8 = h1 at c1 s1 x1
  obtain ⟨h10, eh10⟩ : ∃ h10, a_pi (a_pi (a_pi (a_pi (a_pi (a_pi (a_pi (a_pi h1 (N + 1) 0 (-1)) (N + 1) 1 (-1)) (N + 1) 2 (-1)) (N + 1) 3 (-1)) (N + 1) 4 (-1)) (N + 1) 5 (-1)) (N + 1) 6 (-1)) (N + 1) 7 (-1) = h10 := ⟨_, rfl⟩
  have s10 : sm N h1 h10 := by rw [← eh10]; exact sm_t (sm_t (sm_t (sm_t (sm_t (sm_t (sm_t (sm_pi (by omega)) (sm_pi (by omega))) (sm_pi (by omega))) (sm_pi (by omega))) (sm_pi (by omega))) (sm_pi (by omega))) (sm_pi (by omega))) (sm_pi (by omega))
  have k10 : a_kd h10 N = 11 := (sm_t s1 s10).1.trans c0.1
  have g10 : ∀ j, j < 8 → a_gi h10 (N + 1) j = -1 := fun j hj => by
    rw [← eh10]
    rcases (by omega : j = 0 ∨ j = 1 ∨ j = 2 ∨ j = 3 ∨ j = 4 ∨ j = 5 ∨ j = 6 ∨ j = 7) with rfl | rfl | rfl | rfl | rfl | rfl | rfl | rfl <;> simp [a_gi_pi]
  have kk : a_kd h10 (N + 1) = 12 ∧ a_ln h10 (N + 1) = 8 := by rw [← eh10]; exact ⟨c1.1, c1.2.1⟩
  have x10 : a_nx h10 = N + 2 := by rw [← eh10]; exact x1
  obtain ⟨hF, r1, r2, r3, r4, r5, r6, r7⟩ := run_ok (K := 11) (a0 := N) (k := fun h => pI h (some N) 11 2 (v &&& 7) (fun h => rV h)) (fM.drop 1) (a_pr h10 N 3 (some (N + 1))) k10 (by show N < a_nx h10; omega) (by decide) (by decide)
  have xw : a_nx (a_pr h10 N 3 (some (N + 1))) = N + 2 := x10
  rw [xw] at r2 r3 r7
  have S : sm (N + 1) h10 hF := sm_t (sm_pr (by omega)) (r3 (N + 1) (by omega) (by omega))
  have gN : ∀ j, a_gi hF N j = 0 := fun j => by
    rw [r5]
    show a_gi h10 N j = 0
    rw [(sm_t s1 s10).2.2.1, c0.2.2.1]
  refine ⟨a_pi hF N 2 (v &&& 7), ?_, ?_, ⟨r4, fun i q e => ?_⟩, by rw [a_gi_pi, if_pos ⟨rfl, rfl⟩], fun j hj => by rw [a_gi_pi, if_neg (fun w => hj w.2)]; exact gN j, fun j hj => ?_, fun a j h1' h2' => ?_⟩
  · have st : ∀ K : AH → RX Unit, nA h0 12 (nI 8) (fun a1 h2 => sI h2 (some a1) 12 (nI 0) (-1) (fun h3 => sI h3 (some a1) 12 (nI 1) (-1) (fun h4 => sI h4 (some a1) 12 (nI 2) (-1) (fun h5 => sI h5 (some a1) 12 (nI 3) (-1) (fun h6 => sI h6 (some a1) 12 (nI 4) (-1) (fun h7 => sI h7 (some a1) 12 (nI 5) (-1) (fun h8 => sI h8 (some a1) 12 (nI 6) (-1) (fun h9 => sI h9 (some a1) 12 (nI 7) (-1) (fun h10 => pR h10 (some N) 11 3 (some a1) K))))))))) = wA 1 8 (K (a_pr h10 N 3 (some (N + 1)))) := by
      intro K
      have l1 : a_ln h1 (N + 1) = 8 := c1.2.1
      have k1 : a_kd h1 (N + 1) = 12 := c1.1
      rw [nA_h (by omega), x0, eh1, sI_h k1 (by omega) (by omega), sI_h (h := a_pi h1 (N + 1) 0 (-1)) k1 (by show 1 < a_ln h1 (N + 1); omega) (by omega), sI_h (h := a_pi (a_pi h1 (N + 1) 0 (-1)) (N + 1) 1 (-1)) k1 (by show 2 < a_ln h1 (N + 1); omega) (by omega), sI_h (h := a_pi (a_pi (a_pi h1 (N + 1) 0 (-1)) (N + 1) 1 (-1)) (N + 1) 2 (-1)) k1 (by show 3 < a_ln h1 (N + 1); omega) (by omega), sI_h (h := a_pi (a_pi (a_pi (a_pi h1 (N + 1) 0 (-1)) (N + 1) 1 (-1)) (N + 1) 2 (-1)) (N + 1) 3 (-1)) k1 (by show 4 < a_ln h1 (N + 1); omega) (by omega), sI_h (h := a_pi (a_pi (a_pi (a_pi (a_pi h1 (N + 1) 0 (-1)) (N + 1) 1 (-1)) (N + 1) 2 (-1)) (N + 1) 3 (-1)) (N + 1) 4 (-1)) k1 (by show 5 < a_ln h1 (N + 1); omega) (by omega), sI_h (h := a_pi (a_pi (a_pi (a_pi (a_pi (a_pi h1 (N + 1) 0 (-1)) (N + 1) 1 (-1)) (N + 1) 2 (-1)) (N + 1) 3 (-1)) (N + 1) 4 (-1)) (N + 1) 5 (-1)) k1 (by show 6 < a_ln h1 (N + 1); omega) (by omega), sI_h (h := a_pi (a_pi (a_pi (a_pi (a_pi (a_pi (a_pi h1 (N + 1) 0 (-1)) (N + 1) 1 (-1)) (N + 1) 2 (-1)) (N + 1) 3 (-1)) (N + 1) 4 (-1)) (N + 1) 5 (-1)) (N + 1) 6 (-1)) k1 (by show 7 < a_ln h1 (N + 1); omega) (by omega), eh10, pR_h k10]
    refine Eq.trans (st (fun h11 => run 11 N (fM.drop 1) h11 (fun h => pI h (some N) 11 2 (v &&& 7) (fun h => rV h)))) ?_
    rw [r1, pI_h r4, fM_sum, show (fM.drop 1).length = 41 from rfl]
    show wA 1 8 (wA 41 551576 (some ((), a_pi hF N 2 (v &&& 7), 0, 0))) = _
    rw [wA_s, wA_s]
  · rw [show a_nx (a_pi hF N 2 (v &&& 7)) = a_nx hF from rfl, r2]; rfl
  · cases i with
    | zero =>
      obtain rfl : (3, 12, 8) = q := by simpa [fM] using e
      refine ⟨?_, ?_, ?_⟩
      · show a_gr hF N 3 = some (N + 1)
        rw [r6 3 (by decide), a_gr_pr, if_pos ⟨rfl, rfl⟩]
      · show a_kd hF (N + 1) = 12
        rw [S.1]; exact kk.1
      · show a_ln hF (N + 1) = 8
        rw [S.2.1]; exact kk.2
    | succ i =>
      have e' : (fM.drop 1)[i]? = some q := e
      obtain ⟨y1, y2⟩ := r7 i q e'
      rw [show N + 2 + i = N + 1 + (i + 1) by omega] at y1 y2
      exact ⟨y1, y2.1, y2.2.1⟩
  · rw [a_gi_pi, if_neg (by omega), S.2.2.1]; exact g10 j hj
  · have hlen : (fM.drop 1).length = 41 := rfl
    obtain ⟨i, rfl⟩ : ∃ i, a = N + 2 + i := ⟨a - (N + 2), by omega⟩
    have hi : i < (fM.drop 1).length := by rw [hlen]; omega
    obtain ⟨y1, y2⟩ := r7 i _ (List.getElem?_eq_getElem hi)
    rw [a_gi_pi, if_neg (by omega), y2.2.2.1]
end PINITM
