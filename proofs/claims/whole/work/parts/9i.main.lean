section PMAIN
variable {c n : Nat} {h : AH} {v : Int32}
theorem and7 (v : Int32) : ∃ k, k < 8 ∧ (v &&& 7) = nI k := by
  have h7 : (7 : BitVec 32).toNat = 7 := rfl
  have hlt : (v.toBitVec &&& 7).toNat < 8 := by
    rw [BitVec.toNat_and, h7]
    exact Nat.and_lt_two_pow _ (by decide : 7 < 2 ^ 3)
  refine ⟨(v.toBitVec &&& 7).toNat, hlt, ?_⟩
  apply Int32.toBitVec_inj.mp
  show v.toBitVec &&& 7 = BitVec.ofNat 32 _
  simp
theorem iC_SC (p : iC c v h) (hn : c + 385 ≤ n) : SC c (a_to n h) := by
  obtain ⟨x1, x2, x3, ⟨r0, r1, r2, r3, r4, r5, r7, r9⟩, ⟨a1, a2, a3, a4, a5⟩, ⟨b1, b2, b3, b4⟩, ⟨d1, d2⟩, ⟨e1, e2⟩, ⟨f1, f2⟩, ⟨g1, g2, g3⟩, ⟨i1, i2, i3⟩, ⟨j1, j2, j3⟩⟩ := p
  have d20 := d2 0 (by omega)
  have d21 := d2 1 (by omega)
  have d22 := d2 2 (by omega)
  have g30 := g3 0 _ rfl
  have g31 := g3 1 _ rfl
  have g32 := g3 2 _ rfl
  have g33 := g3 3 _ rfl
  have g34 := g3 4 _ rfl
  have g35 := g3 5 _ rfl
  have q8 : ∀ s q, c + 97 + 8 * s + 2 + q = c + (99 + q) + 8 * s := fun s q => by omega
  exact ⟨hn, x2, i1, i2, j1, j2, a1, a3, a4, b1, b3, b4, d1, d20.2.1, d20.2.2, d21.2.1, d21.2.2, d22.2.1, d22.2.2, e1, e2, f1, f2, g1, g30.2.1, g30.2.2, g31.2.1, g31.2.2, g32.2.1, g32.2.2, g33.2.1, g33.2.2, g34.2.1, g34.2.2, g35.2.1, g35.2.2, r0, r1, r2, r3, r4, r5, r7, r9, a2, b2, d20.1, d21.1, d22.1, g30.1, g31.1, g32.1, g33.1, g34.1, g35.1, fun i hi => (a5 i hi).2.1, fun i hi => (a5 i hi).2.2, fun i hi => (a5 i hi).1, fun r hr => (i3 r hr).1, fun r hr => (i3 r hr).2.1, fun r hr => (i3 r hr).2.2.2.1.trans (congrArg some (by omega)), fun r hr => by rw [show c + 82 + 2 * r = c + 81 + 2 * r + 1 by omega]; exact (i3 r hr).2.2.2.2.1, fun r hr => by rw [show c + 82 + 2 * r = c + 81 + 2 * r + 1 by omega]; exact (i3 r hr).2.2.2.2.2, fun s hs => (j3 s hs).1, fun s hs => (j3 s hs).2.1, fun s hs => (j3 s hs).2.2.2.2.1.trans (congrArg some (by omega)), fun s hs => by rw [show c + 98 + 8 * s = c + 97 + 8 * s + 1 by omega]; exact (j3 s hs).2.2.2.2.2.2.2.2.2.2.1, fun s hs => by rw [show c + 98 + 8 * s = c + 97 + 8 * s + 1 by omega, show c + 99 + 8 * s = c + 97 + 8 * s + 2 + 0 by omega]; exact ((j3 s hs).2.2.2.2.2.2.2.2.2.2.2.1 0 (by omega)).1, fun s hs => by rw [show c + 99 + 8 * s = c + 97 + 8 * s + 2 + 0 by omega]; exact ((j3 s hs).2.2.2.2.2.2.2.2.2.2.2.1 0 (by omega)).2.1, fun s hs => by rw [show c + 99 + 8 * s = c + 97 + 8 * s + 2 + 0 by omega]; exact ((j3 s hs).2.2.2.2.2.2.2.2.2.2.2.1 0 (by omega)).2.2, fun s hs => by rw [show c + 98 + 8 * s = c + 97 + 8 * s + 1 by omega, show c + 100 + 8 * s = c + 97 + 8 * s + 2 + 1 by omega]; exact ((j3 s hs).2.2.2.2.2.2.2.2.2.2.2.1 1 (by omega)).1, fun s hs => by rw [show c + 100 + 8 * s = c + 97 + 8 * s + 2 + 1 by omega]; exact ((j3 s hs).2.2.2.2.2.2.2.2.2.2.2.1 1 (by omega)).2.1, fun s hs => by rw [show c + 100 + 8 * s = c + 97 + 8 * s + 2 + 1 by omega]; exact ((j3 s hs).2.2.2.2.2.2.2.2.2.2.2.1 1 (by omega)).2.2, fun s hs => by rw [show c + 98 + 8 * s = c + 97 + 8 * s + 1 by omega, show c + 101 + 8 * s = c + 97 + 8 * s + 2 + 2 by omega]; exact ((j3 s hs).2.2.2.2.2.2.2.2.2.2.2.1 2 (by omega)).1, fun s hs => by rw [show c + 101 + 8 * s = c + 97 + 8 * s + 2 + 2 by omega]; exact ((j3 s hs).2.2.2.2.2.2.2.2.2.2.2.1 2 (by omega)).2.1, fun s hs => by rw [show c + 101 + 8 * s = c + 97 + 8 * s + 2 + 2 by omega]; exact ((j3 s hs).2.2.2.2.2.2.2.2.2.2.2.1 2 (by omega)).2.2, fun s hs => by rw [show c + 98 + 8 * s = c + 97 + 8 * s + 1 by omega, show c + 102 + 8 * s = c + 97 + 8 * s + 2 + 3 by omega]; exact ((j3 s hs).2.2.2.2.2.2.2.2.2.2.2.1 3 (by omega)).1, fun s hs => by rw [show c + 102 + 8 * s = c + 97 + 8 * s + 2 + 3 by omega]; exact ((j3 s hs).2.2.2.2.2.2.2.2.2.2.2.1 3 (by omega)).2.1, fun s hs => by rw [show c + 102 + 8 * s = c + 97 + 8 * s + 2 + 3 by omega]; exact ((j3 s hs).2.2.2.2.2.2.2.2.2.2.2.1 3 (by omega)).2.2, fun s hs => by rw [show c + 98 + 8 * s = c + 97 + 8 * s + 1 by omega, show c + 103 + 8 * s = c + 97 + 8 * s + 2 + 4 by omega]; exact ((j3 s hs).2.2.2.2.2.2.2.2.2.2.2.1 4 (by omega)).1, fun s hs => by rw [show c + 103 + 8 * s = c + 97 + 8 * s + 2 + 4 by omega]; exact ((j3 s hs).2.2.2.2.2.2.2.2.2.2.2.1 4 (by omega)).2.1, fun s hs => by rw [show c + 103 + 8 * s = c + 97 + 8 * s + 2 + 4 by omega]; exact ((j3 s hs).2.2.2.2.2.2.2.2.2.2.2.1 4 (by omega)).2.2⟩
def s00 (v : Int32) : Sg := (v, (fun _ => none), (fun _ => none), (fun _ => none), (fun _ => []), (0, fun _ => en0 0 0), (0, fun _ => 0), 0)
def own0 (c a : Nat) : Nat := if c + 104 ≤ a ∧ a < c + 385 ∧ (a - c - 104) % 8 = 0 then (a - c - 104) / 8 + 1 else 0
theorem iC_RCC (p : iC c v h) (hn : c + 385 ≤ n) : RCC (own0 c) c (a_to n h) (s00 v) := by
  have sC := iC_SC p hn
  obtain ⟨x1, x2, x3, _, _, _, _, _, _, ⟨g1, g2, g3⟩, ⟨i1, i2, i3⟩, ⟨j1, j2, j3⟩⟩ := p
  refine ⟨⟨sC, fun s hs => ?_, g2, fun r hr => (i3 r hr).2.2.1, fun s hs => ?_, fun s hs => ?_, ⟨x3 8, fun e he => absurd he (Nat.not_lt_zero _)⟩, ⟨x3 10, fun j hj => absurd hj (Nat.not_lt_zero _)⟩, x3 11⟩, fun s hs => .inl ?_, .inl (x3 6)⟩
  · obtain ⟨_, l⟩ := j3 s hs
    exact ⟨l.2.2.2.2.2.1, l.2.2.2.2.2.2.1⟩
  · obtain ⟨_, l⟩ := j3 s hs
    have e2 : a_gr (a_to n h) (c + 97 + 8 * s) 2 = none := l.2.1
    have e3 : a_gr (a_to n h) (c + 97 + 8 * s) 3 = none := l.2.2.1
    rw [e2, e3]; exact ⟨trivial, trivial⟩
  · obtain ⟨_, l⟩ := j3 s hs
    refine ⟨l.2.2.2.2.2.2.2.2.1, c + 97 + 8 * s + 7, l.2.2.2.2.1, l.2.2.2.2.2.2.2.2.2.2.2.1, .inl (by omega), (by show _ < n; omega), ?_, Nat.zero_le _, ?_, fun k hk => absurd hk (Nat.not_lt_zero _)⟩
    · unfold own0
      rw [if_pos (by omega)]; omega
    · rw [show a_ln (a_to n h) (c + 97 + 8 * s + 7) = 4 from l.2.2.2.2.2.2.2.2.2.2.2.2]; omega
  · exact (j3 s hs).2.2.2.2.2.2.2.2.1
theorem start_RR (c : Nat) (v : Int32) : ∃ hC k n hM k2 n2, f_X10_init (a_mk (e_AH c) 10 0) c v = some ((), hC, k, n) ∧ f_X11_init (a_mk (e_AH (a_nx hC)) 11 0) (a_nx hC) v = some ((), hM, k2, n2) ∧ RR c (a_nx hC) (a_to (a_nx hM) hC) hM 0 ∧ k + k2 ≤ 2000 ∧ n + n2 ≤ 700000 := by
  obtain ⟨hC, k, n, c1, c2, c3, c4⟩ := i_X10 (v := v) c
  obtain ⟨hM, m1, m2, m3, m4, m5, m6, m7⟩ := i_X11 (v := v) (a_nx hC)
  have nx := c2.1
  refine ⟨hC, k, n, hM, 42, 551584, c1, m1, ⟨rfl, own0 c, s00 (v &&& 7), (iC_RCC c2 (by omega)).1, ⟨m3, m4, fun r hr => m6 r hr, fun s hs => ⟨m7 _ _ (by omega) (by omega), m7 _ _ (by omega) (by omega)⟩, fun s hs hd hh => ⟨m7 _ _ (by omega) (by omega), fun k hk => absurd hk (Nat.not_lt_zero _)⟩, ⟨m5 37 (by omega), fun e he => absurd he (Nat.not_lt_zero _)⟩, ⟨m5 50 (by omega), fun j hj => absurd hj (Nat.not_lt_zero _)⟩, m5 1 (by omega)⟩, ⟨and7 v, fun r hr q hq => (by cases hq), fun s hs => ⟨okA_n, okA_n⟩, fun s hs => ⟨Nat.le_refl _, fun x hx => absurd hx List.not_mem_nil, fun _ => rfl⟩, Nat.zero_le _, fun e he => absurd he (Nat.not_lt_zero _), Nat.zero_le _⟩, (iC_RCC c2 (by omega)).2⟩, by omega, by omega⟩
theorem RR_mono {c m t : Nat} {hC hM : AH} (R : RR c m hC hM t) : RR c m hC hM (t + 1) := by
  obtain ⟨e, own, σ, r1, r2, v, cc⟩ := R
  exact ⟨e, own, σ, r1, r2, VS_mono v (Nat.le_succ _), cc⟩
theorem step_RR {c m t : Nat} {hC hM : AH} {p1 p2 p3 p4 p5 : Int32} (R : RR c m hC hM t) (ht : t < 512) : ∀ op, op < 29 → ∃ r hC' k n hM', OPC op hC c p1 p2 p3 p4 p5 = some (r, hC', k, n) ∧ OPM op (a_to (a_nx hC') hM) m p1 p2 p3 p4 p5 = some (r, hM', 0, 0) ∧ RR c m hC' hM' (t + 1) ∧ k ≤ 100 ∧ n ≤ 5000
  | 0, _ => op_row R p1 p2 p3
  | 1, _ => op_set R p1 p2 p3
  | 2, _ => op_copy R p1 p2 p3 p4 p5
  | 3, _ => op_drop R p1
  | 4, _ => op_fold R p1 p2
  | 5, _ => op_keep R p1 p2 p3
  | 6, _ => op_give R p1 p2 p3
  | 7, _ => op_begin R 
  | 8, _ => op_forget R p1 p2
  | 9, _ => op_state R p1 p2
  | 10, _ => op_states R p1
  | 11, _ => op_token R p1 p2 p3 p4
  | 12, _ => op_cost R p1 p2
  | 13, _ => op_change R p1 p2 p3 p4
  | 14, _ => op_nearest R p1 p2
  | 15, _ => op_groups R 
  | 16, _ => op_group R p1 p2
  | 17, _ => op_shape R p1 p2 p3
  | 18, _ => op_look R ht p1 p2 p3 p4
  | 19, _ => op_approve R ht p1 p2 p3 p4 p5
  | 20, _ => op_approveAll R ht p1 p2 p3
  | 21, _ => op_undo R 
  | 22, _ => op_entry R p1 p2
  | 23, _ => op_kind R p1 p2
  | 24, _ => op_as R p1 p2 p3
  | 25, _ => op_ask R p1 p2 p3
  | 26, _ => op_trace R p1
  | 27, _ => op_count R p1
  | 28, _ => op_status R 
  | op + 29, h => absurd h (by omega)
theorem mainRR : MainR RR := ⟨fun N rules => start_RR N rules, fun c m hC hM t R => ⟨SC_k0 R.2.choose_spec.choose_spec.1.1, R.2.choose_spec.choose_spec.2.1.1.1, R.1⟩, fun c m hC hM t op p1 p2 p3 p4 p5 R ht ho => step_RR R ht op ho, fun c m hC hM t R => RR_mono R⟩
end PMAIN
