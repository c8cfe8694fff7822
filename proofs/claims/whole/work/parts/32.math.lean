section PMATH
abbrev Ch : Type := Nat × Nat × Nat × Nat
def sT (n m : Nat) (a b : Nat → Int32) (i j : Nat) : Nat :=
  if i < n ∧ j < m then (if a i = b j then sT n m a b (i + 1) (j + 1) + 1 else (if sT n m a b i (j + 1) < sT n m a b (i + 1) j then sT n m a b (i + 1) j else sT n m a b i (j + 1))) else 0
termination_by (n - i) + (m - j)
decreasing_by all_goals omega
def aT (n m : Nat) (a b : Nat → Int32) (i j : Nat) : Nat :=
  if i < n ∧ j < m then (if a i = b j then aT n m a b (i + 1) (j + 1) else 1 + (if aT n m a b i (j + 1) < aT n m a b (i + 1) j then aT n m a b i (j + 1) else aT n m a b (i + 1) j)) else (n - i) + (m - j)
termination_by (n - i) + (m - j)
decreasing_by all_goals omega
def goesUp (F : Nat → Ch) (k : Nat) : Nat → Ch := va_up F k ((F k).1, (F k).2.1 + 1, (F k).2.2.1, (F k).2.2.2)
def comesUp (F : Nat → Ch) (k : Nat) : Nat → Ch := va_up F k ((F k).1, (F k).2.1, (F k).2.2.1, (F k).2.2.2 + 1)
def wk (n m : Nat) (a b : Nat → Int32) : Nat → Nat → Nat → Bool → Nat → (Nat → Ch) → Nat × (Nat → Ch)
  | 0, _, _, _, k, F => (k, F)
  | d + 1, i, j, op, k, F =>
    if i < n ∨ j < m then
      if i < n ∧ j < m ∧ a i = b j then wk n m a b d (i + 1) (j + 1) false k F
      else if i < n ∧ (m ≤ j ∨ sT n m a b (i + 1) j = sT n m a b i j) then
        wk n m a b d (i + 1) j true (if op then k else k + 1) (goesUp (if op then F else va_up F k (i, 0, j, 0)) (if op then k - 1 else k))
      else wk n m a b d i (j + 1) true (if op then k else k + 1) (comesUp (if op then F else va_up F k (i, 0, j, 0)) (if op then k - 1 else k))
    else (k, F)
def chs : Option An → Option An → Nat × (Nat → Ch)
  | some x, some y => wk x.1 y.1 x.2.2 y.2.2 (x.1 + y.1) 0 0 false 0 (fun _ => (0, 0, 0, 0))
  | _, _ => (0, fun _ => (0, 0, 0, 0))
def cst : Option An → Option An → Nat
  | some x, some y => aT x.1 y.1 x.2.2 y.2.2 0 0
  | _, _ => 0
def fdA (x : Option An) : Nat → Int32 := match x with | some x => x.2.2 | none => fun _ => 0
/-- two changes, of slots s and t, have one shape -/
def shq (kp gv : Nat → Option An) (p q : Nat × Nat) : Prop :=
  ((chs (kp p.1) (gv p.1)).2 p.2).2.1 = ((chs (kp q.1) (gv q.1)).2 q.2).2.1 ∧ ((chs (kp p.1) (gv p.1)).2 p.2).2.2.2 = ((chs (kp q.1) (gv q.1)).2 q.2).2.2.2
  ∧ (∀ t, t < ((chs (kp p.1) (gv p.1)).2 p.2).2.1 → fdA (kp p.1) (((chs (kp p.1) (gv p.1)).2 p.2).1 + t) = fdA (kp q.1) (((chs (kp q.1) (gv q.1)).2 q.2).1 + t))
  ∧ (∀ t, t < ((chs (kp p.1) (gv p.1)).2 p.2).2.2.2 → fdA (gv p.1) (((chs (kp p.1) (gv p.1)).2 p.2).2.2.1 + t) = fdA (gv q.1) (((chs (kp q.1) (gv q.1)).2 q.2).2.2.1 + t))
noncomputable def fnd (P : Nat → Prop) : Nat → Nat → Nat
  | 0, g => g
  | d + 1, g => haveI := Classical.propDecidable (P g); if P g then g else fnd P d (g + 1)
abbrev Gs : Type := Nat × (Nat → Nat × Nat) × (Nat → Nat) × (Nat → Nat → Nat)
noncomputable def gth (kp gv : Nat → Option An) (x : Gs) (s k : Nat) : Gs :=
  let g := fnd (fun g => shq kp gv (x.2.1 g) (s, k)) x.1 0
  (if g = x.1 then x.1 + 1 else x.1, if g = x.1 then va_up x.2.1 g (s, k) else x.2.1, va_up x.2.2.1 g (if g = x.1 then 1 else x.2.2.1 g + 1), fun s' k' => if s' = s ∧ k' = k then g else x.2.2.2 s' k')
/-- d more changes of slot s, from k on -/
noncomputable def gtL (kp gv : Nat → Option An) (s : Nat) : Nat → Nat → Gs → Gs
  | 0, _, x => x
  | d + 1, k, x => gtL kp gv s d (k + 1) (gth kp gv x s k)
/-- d more slots, from s on -/
noncomputable def gtS (kp gv : Nat → Option An) : Nat → Nat → Gs → Gs
  | 0, _, x => x
  | d + 1, s, x => gtS kp gv d (s + 1) (gtL kp gv s (chs (kp s) (gv s)).1 0 x)
noncomputable def grp (kp gv : Nat → Option An) : Gs := gtS kp gv 36 0 (0, (fun _ => (0, 0)), (fun _ => 0), fun _ _ => 0)
def chC (G : Nat → Nat → Int32) (c s : Nat) (x : Nat × (Nat → Ch)) (st : Nat) : Prop := G (c + 98 + 8 * s) 0 = nI x.1 ∧ G (c + 98 + 8 * s) 1 = nI st ∧ ∀ k, k < x.1 → G (c + 99 + 8 * s) k = nI (x.2 k).1 ∧ G (c + 100 + 8 * s) k = nI (x.2 k).2.1 ∧ G (c + 101 + 8 * s) k = nI (x.2 k).2.2.1 ∧ G (c + 102 + 8 * s) k = nI (x.2 k).2.2.2
def grC (G : Nat → Nat → Int32) (c : Nat) (kp gv : Nat → Option An) (x : Gs) : Prop := G (c + 68) 0 = nI x.1 ∧ (∀ g, g < x.1 → G (c + 69) g = nI (x.2.1 g).1 ∧ G (c + 70) g = nI (x.2.1 g).2 ∧ G (c + 71) g = nI (x.2.2.1 g)) ∧ ∀ s, s < 36 → ∀ k, k < (chs (kp s) (gv s)).1 → G (c + 103 + 8 * s) k = nI (x.2.2.2 s k)
def CC (G : Nat → Nat → Int32) (c : Nat) (kp gv : Nat → Option An) : Prop := (∀ s, s < 36 → G (c + 97 + 8 * s) 5 = 0 ∨ (G (c + 97 + 8 * s) 5 = 1 ∧ chC G c s (chs (kp s) (gv s)) (cst (kp s) (gv s)))) ∧ (G c 6 = 0 ∨ (G c 6 = 1 ∧ (∀ s, s < 36 → G (c + 97 + 8 * s) 5 = 1) ∧ grC G c kp gv (grp kp gv)))
theorem chC_fr {G G' : Nat → Nat → Int32} {c s : Nat} {x : Nat × (Nat → Ch)} {st : Nat} (p : chC G c s x st) (e : ∀ a j, c + 98 + 8 * s ≤ a → a ≤ c + 102 + 8 * s → G' a j = G a j) : chC G' c s x st := by
  obtain ⟨p1, p2, p3⟩ := p
  refine ⟨by rw [e _ _ (by omega) (by omega)]; exact p1, by rw [e _ _ (by omega) (by omega)]; exact p2, fun k hk => ?_⟩
  rw [e _ _ (by omega) (by omega), e _ _ (by omega) (by omega), e _ _ (by omega) (by omega), e _ _ (by omega) (by omega)]
  exact p3 k hk
theorem CC_fr {G G' : Nat → Nat → Int32} {c : Nat} {kp gv : Nat → Option An} (p : CC G c kp gv) (e0 : G' c 6 = G c 6) (e1 : ∀ a j, c + 68 ≤ a → a ≤ c + 71 → G' a j = G a j) (e2 : ∀ s, s < 36 → G' (c + 97 + 8 * s) 5 = G (c + 97 + 8 * s) 5) (e3 : ∀ s a j, s < 36 → c + 98 + 8 * s ≤ a → a ≤ c + 103 + 8 * s → G' a j = G a j) : CC G' c kp gv := by
  refine ⟨fun s hs => ?_, ?_⟩
  · rw [e2 s hs]
    exact (p.1 s hs).imp id (fun q => ⟨q.1, chC_fr q.2 (fun a j h1 h2 => e3 s a j hs h1 (by omega))⟩)
  · rw [e0]
    refine p.2.imp id (fun q => ⟨q.1, fun s hs => by rw [e2 s hs]; exact q.2.1 s hs, ?_⟩)
    obtain ⟨q1, q2, q3⟩ := q.2.2
    refine ⟨by rw [e1 _ _ (by omega) (by omega)]; exact q1, fun g hg => ?_, fun s hs k hk => by rw [e3 s _ _ hs (by omega) (by omega)]; exact q3 s hs k hk⟩
    rw [e1 _ _ (by omega) (by omega), e1 _ _ (by omega) (by omega), e1 _ _ (by omega) (by omega)]
    exact q2 g hg
def okA (x : Option An) : Prop := ∀ y, x = some y → y.1 ≤ 60
def okE (x : En) : Prop := (x.2.2.2.2.1 = 0 ∨ x.2.2.2.2.1 = 1) ∧ x.2.2.2.2.2.1 ≤ 36 ∧ ∀ k, k < x.2.2.2.2.2.1 → x.2.2.2.2.2.2.1 k < 36 ∧ (x.2.2.2.2.2.2.2 k).1 ≤ 60
def VS (σ : Sg) (t : Nat) : Prop := (∃ k, k < 8 ∧ σ.1 = nI k) ∧ (∀ r, r < 8 → ∀ q, σ.2.1 r = some q → (q.1 = 0 ∨ q.1 = 1 ∨ q.1 = 2) ∧ q.2.1 ≤ 60) ∧ (∀ s, s < 36 → okA (σ.2.2.1 s) ∧ okA (σ.2.2.2.1 s)) ∧ (∀ s, s < 36 → (σ.2.2.2.2.1 s).length ≤ t ∧ (∀ x, x ∈ σ.2.2.2.2.1 s → x < 14884) ∧ (σ.2.2.2.1 s = none → σ.2.2.2.2.1 s = [])) ∧ σ.2.2.2.2.2.1.1 ≤ 100 ∧ (∀ e, e < σ.2.2.2.2.2.1.1 → okE (σ.2.2.2.2.2.1.2 e)) ∧ σ.2.2.2.2.2.2.1.1 ≤ 16
theorem VS_mono {σ : Sg} {t t' : Nat} (p : VS σ t) (h : t ≤ t') : VS σ t' := ⟨p.1, p.2.1, p.2.2.1, fun s hs => ⟨Nat.le_trans (p.2.2.2.1 s hs).1 h, (p.2.2.2.1 s hs).2⟩, p.2.2.2.2⟩
def RR (c m : Nat) (hC hM : AH) (t : Nat) : Prop := a_nx hC = a_nx hM ∧ ∃ own σ, RC own c hC σ ∧ RM m hM σ ∧ VS σ t ∧ CC (a_gi hC) c σ.2.2.1 σ.2.2.2.1
/-- what a pair of calls owes -/
def OPR (c m : Nat) (hC hM : AH) (t : Nat) (x : RX Int32) (y : AH → RX Int32) : Prop := ∃ r hC' k n hM', x = some (r, hC', k, n) ∧ y (a_to (a_nx hC') hM) = some (r, hM', 0, 0) ∧ RR c m hC' hM' (t + 1) ∧ k ≤ 100 ∧ n ≤ 5000
end PMATH
