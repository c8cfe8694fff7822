section PINIT
variable {h h' h'' : AH}
/-- a cell is as it was -/
def sm (x : Nat) (h h' : AH) : Prop := a_kd h' x = a_kd h x ∧ a_ln h' x = a_ln h x ∧ a_gi h' x = a_gi h x ∧ a_gr h' x = a_gr h x
theorem sm_r {x : Nat} : sm x h h := ⟨rfl, rfl, rfl, rfl⟩
theorem sm_t {x : Nat} (p : sm x h h') (q : sm x h' h'') : sm x h h'' := ⟨q.1.trans p.1, q.2.1.trans p.2.1, q.2.2.1.trans p.2.2.1, q.2.2.2.trans p.2.2.2⟩
/-- a new cell -/
def cel (h : AH) (x k n : Nat) : Prop := a_kd h x = k ∧ a_ln h x = n ∧ (a_gi h x = fun _ => 0) ∧ (a_gr h x = fun _ => none)
theorem cel_s {x k n : Nat} (p : cel h x k n) (s : sm x h h') : cel h' x k n := ⟨s.1.trans p.1, s.2.1.trans p.2.1, s.2.2.1.trans p.2.2.1, s.2.2.2.trans p.2.2.2⟩
theorem cel_mk (h : AH) (k n : Nat) : cel (a_mk h k n) (a_nx h) k n := ⟨va_up_at _ _ _, va_up_at _ _ _, va_up_at _ _ _, va_up_at _ _ _⟩
theorem sm_mk {x k n : Nat} (hx : x < a_nx h) : sm x h (a_mk h k n) := (Nw1_mk h k n).2 x (by omega)
theorem sm_pr {x a j : Nat} {v : Option Nat} (hx : x ≠ a) : sm x h (a_pr h a j v) := ⟨rfl, rfl, rfl, by funext k; rw [a_gr_pr, if_neg (fun w => hx w.1)]⟩
theorem a_gi_pi (h : AH) (a j : Nat) (v : Int32) (b k : Nat) : a_gi (a_pi h a j v) b k = if b = a ∧ k = j then v else a_gi h b k := by rw [a_pi_h, a_gi_wi, ug_r]
theorem sm_pi {x a j : Nat} {v : Int32} (hx : x ≠ a) : sm x h (a_pi h a j v) := ⟨rfl, rfl, by funext k; rw [a_gi_pi, if_neg (fun w => hx w.1)], rfl⟩
theorem pR_h {β : Type} {a k j : Nat} {v : Option Nat} {q : AH → Option β} (hk : a_kd h a = k) : pR h (some a) k j v q = q (a_pr h a j v) := if_pos hk
theorem pI_h {β : Type} {a k j : Nat} {v : Int32} {q : AH → Option β} (hk : a_kd h a = k) : pI h (some a) k j v q = q (a_pi h a j v) := if_pos hk
theorem pZ_h0 {β : Type} {a k j : Nat} {q : AH → Option β} (hk : a_kd h a = k) : pZ h (some a) k j 0 q = q (a_pi h a j 0) := (if_pos hk).trans (if_pos (.inl rfl))
theorem pZ_h1 {β : Type} {a k j : Nat} {q : AH → Option β} (hk : a_kd h a = k) : pZ h (some a) k j 1 q = q (a_pi h a j 1) := (if_pos hk).trans (if_pos (.inr rfl))
theorem gR_h {β : Type} {a k j : Nat} {q : Option Nat → Option β} (hk : a_kd h a = k) : gR h (some a) k j q = q (a_gr h a j) := if_pos hk
theorem nA_h {ρ : Type} {k n : Nat} {q : Nat → AH → RX ρ} (hn : n ≤ 1000000) : nA h k (nI n) q = wA 1 n (q (a_nx h) (a_mk h k n)) := nA_w hn
theorem sR_h {β : Type} {a b k kv i : Nat} {q : AH → Option β} (hk : a_kd h a = k) (hi : i < a_ln h a) (hb : i < 2147483648) (hv : a_kd h b = kv) : sR h (some a) k kv (nI i) (some b) q = q (a_pr h a i (some b)) := sR_w (G := a_gi h) hk hi hb hv
/-- new arrays, one behind the other, each into a field of an object -/
def run (K a0 : Nat) : List (Nat × Nat × Nat) → AH → (AH → RX Unit) → RX Unit
  | [], h, k => k h
  | q :: l, h, k => nA h q.2.1 (nI q.2.2) (fun a h2 => pR h2 (some a0) K q.1 (some a) (fun h3 => run K a0 l h3 k))
theorem run_ok {K a0 : Nat} {k : AH → RX Unit} : ∀ (l : List (Nat × Nat × Nat)) (h : AH), a_kd h a0 = K → a0 < a_nx h → (∀ q, q ∈ l → q.2.2 ≤ 1000000) → (l.map (·.1)).Nodup → ∃ h', run K a0 l h k = wA l.length (l.map (·.2.2)).sum (k h') ∧ a_nx h' = a_nx h + l.length ∧ (∀ x, x < a_nx h → x ≠ a0 → sm x h h') ∧ a_kd h' a0 = K ∧ a_gi h' a0 = a_gi h a0 ∧ (∀ f, f ∉ l.map (·.1) → a_gr h' a0 f = a_gr h a0 f) ∧ ∀ i q, l[i]? = some q → a_gr h' a0 q.1 = some (a_nx h + i) ∧ cel h' (a_nx h + i) q.2.1 q.2.2
  | [], h, hk, ha, hn, hd => ⟨h, (wA00 _).symm, rfl, fun _ _ _ => sm_r, hk, rfl, fun _ _ => rfl, fun i q e => by simp at e⟩
  | q :: l, h, hk, ha, hn, hd => by
    have hm := sm_mk (h := h) (k := q.2.1) (n := q.2.2) ha
    have hk2 : a_kd (a_mk h q.2.1 q.2.2) a0 = K := hm.1.trans hk
    have cN := cel_mk h q.2.1 q.2.2
    obtain ⟨h', r1, r2, r3, r4, r5, r6, r7⟩ := run_ok (k := k) l (a_pr (a_mk h q.2.1 q.2.2) a0 q.1 (some (a_nx h))) hk2 (show a0 < a_nx h + 1 by omega) (fun z hz => hn z (List.mem_cons_of_mem _ hz)) (List.nodup_cons.mp (by simpa using hd)).2
    have hq1 : q.1 ∉ l.map (·.1) := (List.nodup_cons.mp (by simpa using hd)).1
    have nx2 : a_nx (a_pr (a_mk h q.2.1 q.2.2) a0 q.1 (some (a_nx h))) = a_nx h + 1 := rfl
    rw [nx2] at r2 r3 r7
    refine ⟨h', ?_, by rw [r2, List.length_cons]; omega, fun x hx hx0 => sm_t (sm_t (sm_mk hx) (sm_pr hx0)) (r3 x (by omega) hx0), r4, ?_, fun f hf => ?_, fun i z e => ?_⟩
    · show nA h q.2.1 (nI q.2.2) _ = _
      rw [nA_h (hn q (List.mem_cons_self ..)), pR_h hk2, r1, wA_wA, List.length_cons, List.map_cons, List.sum_cons, Nat.add_comm 1]
    · exact r5.trans hm.2.2.1
    · rw [List.map_cons, List.mem_cons] at hf
      rw [r6 f (fun z => hf (.inr z)), a_gr_pr, if_neg (fun z => hf (.inl z.2))]
      exact congrFun hm.2.2.2 f
    · cases i with
      | zero =>
        obtain rfl : q = z := by simpa using e
        refine ⟨by rw [r6 _ hq1, a_gr_pr, if_pos ⟨rfl, rfl⟩]; rfl, ?_⟩
        exact cel_s (cel_s cN (sm_pr (by omega))) (r3 _ (by omega) (by omega))
      | succ i =>
        have e : l[i]? = some z := by simpa using e
        obtain ⟨y1, y2⟩ := r7 i z e
        rw [show a_nx h + 1 + i = a_nx h + (i + 1) by omega] at y1 y2
        exact ⟨y1, y2⟩
theorem i_X1 {a : Nat} (hk : a_kd h a = 2) (ha : a < a_nx h) : ∃ h', f_X1_init h a = some ((), h', 5, 200) ∧ a_nx h' = a_nx h + 5 ∧ (∀ x, x < a_nx h → x ≠ a → sm x h h') ∧ a_kd h' a = 2 ∧ ∀ q, q < 5 → a_gr h' a (2 + q) = some (a_nx h + q) ∧ cel h' (a_nx h + q) 12 40 := by
  obtain ⟨h', r1, r2, r3, r4, r5, r6, r7⟩ := run_ok (K := 2) (a0 := a) (k := fun h => rV h) [(2, 12, 40), (3, 12, 40), (4, 12, 40), (5, 12, 40), (6, 12, 40)] (a_pi (a_pi h a 0 0) a 1 0) hk ha (by decide) (by decide)
  refine ⟨h', ?_, r2, fun x hx hx0 => sm_t (sm_t (sm_pi hx0) (sm_pi hx0)) (r3 x hx hx0), r4, fun q hq => ?_⟩
  · show pI h (some a) 2 0 0 (fun h1 => pI h1 (some a) 2 1 0 (fun h2 => run 2 a [(2, 12, 40), (3, 12, 40), (4, 12, 40), (5, 12, 40), (6, 12, 40)] h2 (fun h => rV h))) = _
    rw [pI_h hk, pI_h (h := a_pi h a 0 0) hk, r1]; rfl
  · rcases (by omega : q = 0 ∨ q = 1 ∨ q = 2 ∨ q = 3 ∨ q = 4) with rfl | rfl | rfl | rfl | rfl
    · exact r7 0 _ rfl
    · exact r7 1 _ rfl
    · exact r7 2 _ rfl
    · exact r7 3 _ rfl
    · exact r7 4 _ rfl
theorem i_X2 {a : Nat} (hk : a_kd h a = 3) (ha : a < a_nx h) : ∃ h', f_X2_init h a = some ((), h', 62, 3782) ∧ a_nx h' = a_nx h + 62 ∧ (∀ x, x < a_nx h → x ≠ a → sm x h h') ∧ a_kd h' a = 3 ∧ a_gr h' a 0 = some (a_nx h) ∧ a_kd h' (a_nx h) = 18 ∧ a_ln h' (a_nx h) = 61 ∧ ∀ i, i < 61 → a_gr h' (a_nx h) i = some (a_nx h + 1 + i) ∧ a_kd h' (a_nx h + 1 + i) = 12 ∧ a_ln h' (a_nx h + 1 + i) = 61 := by
  have g : ∀ x, x < a_nx h → sm x h (a_grid h 61 61) := fun x hx => by
    have n1 : ¬ x = h.1 := by show ¬ x = a_nx h; omega
    have n2 : ¬ (h.1 < x ∧ x ≤ h.1 + 61) := by show ¬ (a_nx h < x ∧ _); omega
    have n3 : ¬ (h.1 ≤ x ∧ x ≤ h.1 + 61) := by show ¬ (a_nx h ≤ x ∧ _); omega
    refine ⟨?_, ?_, ?_, ?_⟩
    · show (if x = h.1 then 18 else if h.1 < x ∧ x ≤ h.1 + 61 then 12 else h.2.1 x) = _
      rw [if_neg n1, if_neg n2]; rfl
    · show (if x = h.1 then 61 else if h.1 < x ∧ x ≤ h.1 + 61 then 61 else h.2.2.1 x) = _
      rw [if_neg n1, if_neg n2]; rfl
    · show (if h.1 ≤ x ∧ x ≤ h.1 + 61 then (fun _ => 0) else h.2.2.2.1 x) = _
      rw [if_neg n3]; rfl
    · show (if x = h.1 then (fun j => if j < 61 then some (h.1 + 1 + j) else none) else if h.1 < x ∧ x ≤ h.1 + 61 then (fun _ => none) else h.2.2.2.2 x) = _
      rw [if_neg n1, if_neg n2]; rfl
  have hk2 : a_kd (a_grid h 61 61) a = 3 := (g a ha).1.trans hk
  refine ⟨a_pr (a_grid h 61 61) a 0 (some (a_nx h)), ?_, (by show a_nx h + 1 + 61 = a_nx h + 62; omega), fun x hx hx0 => sm_t (g x hx) (sm_pr hx0), hk2, by rw [a_gr_pr, if_pos ⟨rfl, rfl⟩], ?_, ?_, fun i hi => ⟨?_, ?_, ?_⟩⟩
  · show nM h (nI 61) (nI 61) (fun a1 h2 => pR h2 (some a) 3 0 (some a1) (fun h3 => rV h3)) = _
    have e : (nI 61).toNatClampNeg = 61 := nI_clamp (by decide)
    unfold nM
    rw [e, if_pos ⟨nI_pos' (by decide), by decide, nI_pos' (by decide), by decide⟩]
    show wA (1 + 61) (61 + 61 * 61) (pR (a_grid h 61 61) (some a) 3 0 (some (a_nx h)) (fun h3 => rV h3)) = _
    rw [pR_h hk2]; rfl
  · show (if a_nx h = h.1 then 18 else _) = 18
    exact if_pos rfl
  · show (if a_nx h = h.1 then 61 else _) = 61
    exact if_pos rfl
  · rw [a_gr_pr, if_neg (by omega)]
    show (if a_nx h = h.1 then (fun j => if j < 61 then some (h.1 + 1 + j) else none) else _) i = _
    rw [if_pos (show a_nx h = h.1 from rfl)]
    exact if_pos hi
  · show (if a_nx h + 1 + i = h.1 then 18 else if h.1 < a_nx h + 1 + i ∧ a_nx h + 1 + i ≤ h.1 + 61 then 12 else _) = 12
    rw [if_neg (by show ¬ a_nx h + 1 + i = a_nx h; omega), if_pos (by show a_nx h < a_nx h + 1 + i ∧ a_nx h + 1 + i ≤ a_nx h + 61; omega)]
  · show (if a_nx h + 1 + i = h.1 then 61 else if h.1 < a_nx h + 1 + i ∧ a_nx h + 1 + i ≤ h.1 + 61 then 61 else _) = 61
    rw [if_neg (by show ¬ a_nx h + 1 + i = a_nx h; omega), if_pos (by show a_nx h < a_nx h + 1 + i ∧ a_nx h + 1 + i ≤ a_nx h + 61; omega)]
theorem i_X3 {a : Nat} (hk : a_kd h a = 4) (ha : a < a_nx h) : ∃ h', f_X3_init h a = some ((), h', 1, 120) ∧ a_nx h' = a_nx h + 1 ∧ (∀ x, x < a_nx h → x ≠ a → sm x h h') ∧ a_kd h' a = 4 ∧ a_gr h' a 0 = some (a_nx h) ∧ cel h' (a_nx h) 12 120 := by
  obtain ⟨h', r1, r2, r3, r4, r5, r6, r7⟩ := run_ok (K := 4) (a0 := a) (k := fun h => pI h (some a) 4 1 0 (fun h => rV h)) [(0, 12, 120)] h hk ha (by decide) (by decide)
  obtain ⟨y1, y2⟩ := r7 0 _ rfl
  refine ⟨a_pi h' a 1 0, ?_, r2, fun x hx hx0 => sm_t (r3 x hx hx0) (sm_pi hx0), r4, y1, cel_s y2 (sm_pi (by omega))⟩
  show run 4 a [(0, 12, 120)] h (fun h => pI h (some a) 4 1 0 (fun h => rV h)) = _
  rw [r1, pI_h r4]; rfl
theorem i_X5 {a : Nat} {v : Int32} (hk : a_kd h a = 6) (ha : a < a_nx h) : ∃ h', f_X5_init h a v = some ((), h', 6, 311) ∧ a_nx h' = a_nx h + 6 ∧ (∀ x, x < a_nx h → x ≠ a → sm x h h') ∧ a_kd h' a = 6 ∧ a_gi h' a 0 = v ∧ ∀ i q, ([(1, 12, 60), (2, 12, 60), (3, 12, 61), (4, 12, 60), (5, 12, 60), (6, 12, 10)] : List (Nat × Nat × Nat))[i]? = some q → a_gr h' a q.1 = some (a_nx h + i) ∧ cel h' (a_nx h + i) q.2.1 q.2.2 := by
  obtain ⟨h', r1, r2, r3, r4, r5, r6, r7⟩ := run_ok (K := 6) (a0 := a) (k := fun h => pI h (some a) 6 0 v (fun h => rV h)) [(1, 12, 60), (2, 12, 60), (3, 12, 61), (4, 12, 60), (5, 12, 60), (6, 12, 10)] h hk ha (by decide) (by decide)
  refine ⟨a_pi h' a 0 v, ?_, r2, fun x hx hx0 => sm_t (r3 x hx hx0) (sm_pi hx0), r4, by rw [a_gi_pi, if_pos ⟨rfl, rfl⟩], fun i q e => ?_⟩
  · show run 6 a [(1, 12, 60), (2, 12, 60), (3, 12, 61), (4, 12, 60), (5, 12, 60), (6, 12, 10)] h (fun h => pI h (some a) 6 0 v (fun h => rV h)) = _
    rw [r1, pI_h r4]; rfl
  · obtain ⟨y1, y2⟩ := r7 i q e
    exact ⟨y1, cel_s y2 (sm_pi (by omega))⟩
theorem i_X6 {a : Nat} (hk : a_kd h a = 7) (ha : a < a_nx h) : ∃ h', f_X6_init h a = some ((), h', 3, 4320) ∧ a_nx h' = a_nx h + 3 ∧ (∀ x, x < a_nx h → x ≠ a → sm x h h') ∧ a_kd h' a = 7 ∧ ∀ q, q < 3 → a_gr h' a (1 + q) = some (a_nx h + q) ∧ cel h' (a_nx h + q) 12 1440 := by
  obtain ⟨h', r1, r2, r3, r4, r5, r6, r7⟩ := run_ok (K := 7) (a0 := a) (k := fun h => rV h) [(1, 12, 1440), (2, 12, 1440), (3, 12, 1440)] (a_pi h a 0 0) hk ha (by decide) (by decide)
  refine ⟨h', ?_, r2, fun x hx hx0 => sm_t (sm_pi hx0) (r3 x hx hx0), r4, fun q hq => ?_⟩
  · show pI h (some a) 7 0 0 (fun h1 => run 7 a [(1, 12, 1440), (2, 12, 1440), (3, 12, 1440)] h1 (fun h => rV h)) = _
    rw [pI_h hk, r1]; rfl
  · rcases (by omega : q = 0 ∨ q = 1 ∨ q = 2) with rfl | rfl | rfl
    · exact r7 0 _ rfl
    · exact r7 1 _ rfl
    · exact r7 2 _ rfl
theorem i_X7 {a : Nat} (hk : a_kd h a = 8) (ha : a < a_nx h) : ∃ h', f_X7_init h a = some ((), h', 1, 60) ∧ a_nx h' = a_nx h + 1 ∧ (∀ x, x < a_nx h → x ≠ a → sm x h h') ∧ a_kd h' a = 8 ∧ a_gi h' a 0 = 1 ∧ a_gr h' a 3 = some (a_nx h) ∧ cel h' (a_nx h) 12 60 := by
  obtain ⟨h', r1, r2, r3, r4, r5, r6, r7⟩ := run_ok (K := 8) (a0 := a) (k := fun h => rV h) [(3, 12, 60)] (a_pi (a_pi (a_pi h a 0 1) a 1 0) a 2 0) hk ha (by decide) (by decide)
  obtain ⟨y1, y2⟩ := r7 0 _ rfl
  refine ⟨h', ?_, r2, fun x hx hx0 => sm_t (sm_t (sm_t (sm_pi hx0) (sm_pi hx0)) (sm_pi hx0)) (r3 x hx hx0), r4, ?_, y1, y2⟩
  · show pZ h (some a) 8 0 1 (fun h1 => pI h1 (some a) 8 1 0 (fun h2 => pI h2 (some a) 8 2 0 (fun h3 => run 8 a [(3, 12, 60)] h3 (fun h => rV h)))) = _
    rw [pZ_h1 hk, pI_h (h := a_pi h a 0 1) hk, pI_h (h := a_pi (a_pi h a 0 1) a 1 0) hk, r1]; rfl
  · rw [r5, a_gi_pi, if_neg (by omega), a_gi_pi, if_neg (by omega), a_gi_pi, if_pos ⟨rfl, rfl⟩]
end PINIT
