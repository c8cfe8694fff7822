section PFOLD
variable {T T' X : Nat → Int32} {S o : Nat → Nat}
def nd (T : Nat → Int32) (i dep : Nat) : Nat := if T i = nI 120 then dep + 1 else if T i = nI 121 then dep - 1 else dep
/-- d tokens from i on, begun dep deep, end at depth 0 and never go below -/
def bl (T : Nat → Int32) : Nat → Nat → Nat → Prop
  | 0, _, dep => dep = 0
  | d + 1, i, dep => (T i = nI 121 → 1 ≤ dep) ∧ bl T d (i + 1) (nd T i dep)
theorem nd_e (i dep e : Nat) (h : T i = nI 121 → 1 ≤ dep) : nd T i (dep + e) = nd T i dep + e := by
  unfold nd
  by_cases h1 : T i = nI 120
  · rw [if_pos h1, if_pos h1]; omega
  · rw [if_neg h1, if_neg h1]
    by_cases h2 : T i = nI 121
    · rw [if_pos h2, if_pos h2]; have := h h2; omega
    · rw [if_neg h2, if_neg h2]
theorem bl_app : ∀ d1 i dep d2 e, bl T d1 i dep → bl T d2 (i + d1) e → bl T (d1 + d2) i (dep + e)
  | 0, i, dep, d2, e, h1, h2 => by
    have h1 : dep = 0 := h1
    subst h1
    simpa using h2
  | d1 + 1, i, dep, d2, e, h1, h2 => by
    have := bl_app d1 (i + 1) (nd T i dep) d2 e h1.2 (by rw [show i + 1 + d1 = i + (d1 + 1) by omega]; exact h2)
    rw [show d1 + 1 + d2 = (d1 + d2) + 1 by omega]
    refine ⟨fun h => by have := h1.1 h; omega, ?_⟩
    rw [nd_e i dep e h1.1]; exact this
theorem bl_c : ∀ d i i' dep, (∀ k, k < d → T' (i' + k) = T (i + k)) → bl T d i dep → bl T' d i' dep
  | 0, _, _, _, _, h => h
  | d + 1, i, i', dep, e, h => by
    have e0 : T' i' = T i := e 0 (by omega)
    refine ⟨fun z => h.1 (by rw [← e0]; exact z), ?_⟩
    have : nd T' i' dep = nd T i dep := by unfold nd; rw [e0]
    rw [this]
    refine bl_c d (i + 1) (i' + 1) _ (fun k hk => ?_) h.2
    rw [show i' + 1 + k = i' + (k + 1) by omega, show i + 1 + k = i + (k + 1) by omega]
    exact e (k + 1) (by omega)
/-- just l tokens from i on bring depth dep down to 0 for the first time -/
def ck (T : Nat → Int32) : Nat → Nat → Nat → Prop
  | 0, _, _ => False
  | l + 1, i, dep => (T i = nI 121 → 1 ≤ dep) ∧ ((nd T i dep = 0 ∧ l = 0) ∨ (nd T i dep ≠ 0 ∧ ck T l (i + 1) (nd T i dep)))
theorem ck_bl : ∀ l i dep, ck T l i dep → bl T l i dep
  | l + 1, i, dep, h => by
    refine ⟨h.1, ?_⟩
    rcases h.2 with ⟨h1, h2⟩ | ⟨_, h2⟩
    · subst h2; exact h1
    · exact ck_bl l (i + 1) _ h2
theorem ck_pos {l i dep : Nat} (h : ck T l i dep) : 0 < l := by
  cases l with
  | zero => exact h.elim
  | succ l => omega
def prt (T : Nat → Int32) : Nat → Nat → Nat → Nat → (Nat → Nat) → Nat × (Nat → Nat)
  | 0, i, _, P, S => (P, va_up S P i)
  | d + 1, i, dep, P, S => prt T d (i + 1) (nd T i dep) (if dep = 0 then P + 1 else P) (if dep = 0 then va_up S P i else S)
theorem prt_lo : ∀ d i dep P S j, j < P → (prt T d i dep P S).2 j = S j
  | 0, i, dep, P, S, j, h => va_up_off _ _ (by omega)
  | d + 1, i, dep, P, S, j, h => by
    unfold prt
    by_cases h0 : dep = 0
    · rw [if_pos h0, if_pos h0, prt_lo d (i + 1) _ (P + 1) _ j (by omega), va_up_off _ _ (by omega)]
    · rw [if_neg h0, if_neg h0, prt_lo d (i + 1) _ P _ j h]
theorem prt_ge : ∀ d i dep P S, P ≤ (prt T d i dep P S).1
  | 0, i, dep, P, S => Nat.le_refl _
  | d + 1, i, dep, P, S => by
    unfold prt
    by_cases h0 : dep = 0
    · rw [if_pos h0, if_pos h0]; exact Nat.le_trans (Nat.le_succ _) (prt_ge d (i + 1) _ (P + 1) _)
    · rw [if_neg h0, if_neg h0]; exact prt_ge d (i + 1) _ P _
theorem prt_end : ∀ d i dep P S, (prt T d i dep P S).2 (prt T d i dep P S).1 = i + d
  | 0, i, dep, P, S => va_up_at _ _ _
  | d + 1, i, dep, P, S => by
    have := prt_end d (i + 1) (nd T i dep) (if dep = 0 then P + 1 else P) (if dep = 0 then va_up S P i else S)
    unfold prt
    rw [this]; omega
theorem prt_at : ∀ d i P S, (prt T d i 0 P S).2 P = i
  | 0, i, P, S => va_up_at _ _ _
  | d + 1, i, P, S => by
    unfold prt
    rw [if_pos rfl, if_pos rfl, prt_lo d (i + 1) _ (P + 1) _ P (by omega), va_up_at]
theorem prt_le : ∀ d i dep P S, (prt T d i dep P S).1 ≤ P + d
  | 0, i, dep, P, S => Nat.le_refl _
  | d + 1, i, dep, P, S => by
    unfold prt
    by_cases h0 : dep = 0
    · rw [if_pos h0, if_pos h0]; have := prt_le d (i + 1) (nd T i dep) (P + 1) (va_up S P i); omega
    · rw [if_neg h0, if_neg h0]; have := prt_le d (i + 1) (nd T i dep) P S; omega
/-- begun inside a part, it ends where the next one begins; and so do all that follow -/
theorem prt_ck : ∀ d i dep P S, bl T d i dep → (dep ≠ 0 → ∃ l, ck T l i dep ∧ (prt T d i dep P S).2 P = i + l) ∧ ∀ p, P ≤ p → p < (prt T d i dep P S).1 → ∃ l, ck T l ((prt T d i dep P S).2 p) 0 ∧ (prt T d i dep P S).2 (p + 1) = (prt T d i dep P S).2 p + l
  | 0, i, dep, P, S, h => by
    have h : dep = 0 := h
    exact ⟨fun x => absurd h x, fun p h1 h2 => by have h2 : p < P := h2; omega⟩
  | d + 1, i, dep, P, S, h => by
    obtain ⟨h1, h2⟩ := h
    by_cases h0 : dep = 0
    · subst h0
      obtain ⟨ih1, ih2⟩ := prt_ck d (i + 1) (nd T i 0) (P + 1) (va_up S P i) h2
      have e : prt T (d + 1) i 0 P S = prt T d (i + 1) (nd T i 0) (P + 1) (va_up S P i) := by simp only [prt, if_true]
      rw [e]
      refine ⟨fun x => absurd rfl x, fun p hp1 hp2 => ?_⟩
      by_cases hpP : p = P
      · subst hpP
        have eP : (prt T d (i + 1) (nd T i 0) (p + 1) (va_up S p i)).2 p = i := by rw [prt_lo _ _ _ _ _ _ (by omega), va_up_at]
        rw [eP]
        by_cases hn : nd T i 0 = 0
        · refine ⟨1, ⟨h1, .inl ⟨hn, rfl⟩⟩, ?_⟩
          rw [hn]; exact prt_at d (i + 1) (p + 1) _
        · obtain ⟨l, hl1, hl2⟩ := ih1 hn
          exact ⟨l + 1, ⟨h1, .inr ⟨hn, hl1⟩⟩, by rw [hl2]; omega⟩
      · exact ih2 p (by omega) hp2
    · obtain ⟨ih1, ih2⟩ := prt_ck d (i + 1) (nd T i dep) P S h2
      have e : prt T (d + 1) i dep P S = prt T d (i + 1) (nd T i dep) P S := by simp only [prt, if_neg h0]
      rw [e]
      refine ⟨fun _ => ?_, ih2⟩
      by_cases hn : nd T i dep = 0
      · refine ⟨1, ⟨h1, .inl ⟨hn, rfl⟩⟩, ?_⟩
        rw [hn]; exact prt_at d (i + 1) P _
      · obtain ⟨l, hl1, hl2⟩ := ih1 hn
        exact ⟨l + 1, ⟨h1, .inr ⟨hn, hl1⟩⟩, by rw [hl2]; omega⟩
def kyR (t : Int32) : Int32 := if t ≤ nI 109 then t else if nI 119 < t then t else nI 110
/-- from k on, d more to compare: the part at a, n long, is ahead of the part at b, m long -/
def lxF (T : Nat → Int32) (a b n m : Nat) : Nat → Nat → Prop
  | 0, _ => n < m
  | d + 1, k => (kyR (T (a + k)) = kyR (T (b + k)) ∧ lxF T a b n m d (k + 1)) ∨ (¬ kyR (T (a + k)) = kyR (T (b + k)) ∧ kyR (T (a + k)) < kyR (T (b + k)))
def lx (T : Nat → Int32) (a n b m : Nat) : Prop := lxF T a b n m (min n m) 0
noncomputable def shf (Q : Nat → Prop) : Nat → (Nat → Nat) → Nat × (Nat → Nat)
  | 0, o => (0, o)
  | k + 1, o => haveI := Classical.propDecidable (Q (o k)); if Q (o k) then shf Q k (va_up o (k + 1) (o k)) else (k + 1, o)
theorem shf_t {Q : Nat → Prop} {k : Nat} (h : Q (o k)) : shf Q (k + 1) o = shf Q k (va_up o (k + 1) (o k)) := by simp only [shf, if_pos h]
theorem shf_f {Q : Nat → Prop} {k : Nat} (h : ¬ Q (o k)) : shf Q (k + 1) o = (k + 1, o) := by simp only [shf, if_neg h]
theorem shf_le {Q : Nat → Prop} : ∀ k o, (shf Q k o).1 ≤ k
  | 0, o => Nat.le_refl _
  | k + 1, o => by
    by_cases h : Q (o k)
    · rw [shf_t h]; exact Nat.le_succ_of_le (shf_le k _)
    · rw [shf_f h]; exact Nat.le_refl _
theorem shf_hi {Q : Nat → Prop} : ∀ k o j, k < j → (shf Q k o).2 j = o j
  | 0, o, j, _ => rfl
  | k + 1, o, j, hj => by
    by_cases h : Q (o k)
    · rw [shf_t h, shf_hi k _ j (by omega), va_up_off _ _ (by omega)]
    · rw [shf_f h]
def smF (f : Nat → Nat) (o : Nat → Nat) : Nat → Nat
  | 0 => 0
  | n + 1 => smF f o n + f (o n)
theorem smF_c {f : Nat → Nat} {o' : Nat → Nat} : ∀ n, (∀ j, j < n → o' j = o j) → smF f o' n = smF f o n
  | 0, _ => rfl
  | n + 1, h => by unfold smF; rw [smF_c n (fun j hj => h j (by omega)), h n (by omega)]
theorem shf_sm {Q : Nat → Prop} {f : Nat → Nat} {p : Nat} : ∀ k o, smF f (va_up (shf Q k o).2 (shf Q k o).1 p) (k + 1) = smF f o k + f p
  | 0, o => by show 0 + f (va_up o 0 p 0) = 0 + f p; rw [va_up_at]
  | k + 1, o => by
    by_cases h : Q (o k)
    · rw [shf_t h]
      have ih := shf_sm (Q := Q) (f := f) (p := p) k (va_up o (k + 1) (o k))
      have l1 := shf_le (Q := Q) k (va_up o (k + 1) (o k))
      show smF f _ (k + 1) + f (va_up _ _ p (k + 1)) = _
      rw [ih, va_up_off _ _ (by omega), shf_hi _ _ _ (by omega), va_up_at, smF_c (o := o) k (fun j hj => va_up_off _ _ (by omega))]
      show _ = smF f o k + f (o k) + f p
      omega
    · rw [shf_f h]
      show smF f (va_up o (k + 1) p) (k + 1) + f (va_up o (k + 1) p (k + 1)) = _
      rw [va_up_at, smF_c (o := o) (k + 1) (fun j hj => va_up_off _ _ (by omega))]
theorem shf_bd {Q : Nat → Prop} {p B : Nat} (hp : p < B) : ∀ k o, (∀ j, j < k → o j < B) → ∀ j, j < k + 1 → va_up (shf Q k o).2 (shf Q k o).1 p j < B
  | 0, o, _, j, hj => by
    have : j = 0 := by omega
    subst this
    show va_up o 0 p 0 < B
    rw [va_up_at]; exact hp
  | k + 1, o, ho, j, hj => by
    by_cases h : Q (o k)
    · rw [shf_t h]
      have ih := shf_bd (Q := Q) hp k (va_up o (k + 1) (o k)) (fun j hj => by rw [va_up_off _ _ (by omega)]; exact ho j (by omega))
      by_cases hj2 : j = k + 1
      · subst hj2
        have l1 := shf_le (Q := Q) k (va_up o (k + 1) (o k))
        rw [va_up_off _ _ (by omega), shf_hi _ _ _ (by omega), va_up_at]; exact ho k (by omega)
      · exact ih j (by omega)
    · rw [shf_f h]
      show va_up o (k + 1) p j < B
      by_cases hj2 : j = k + 1
      · subst hj2; rw [va_up_at]; exact hp
      · rw [va_up_off _ _ hj2]; exact ho j (by omega)
def ln (S : Nat → Nat) (p : Nat) : Nat := S (p + 1) - S p
def aheadP (T : Nat → Int32) (S : Nat → Nat) (p : Nat) (e : Nat) : Prop := lx T (S p) (ln S p) (S e) (ln S e)
noncomputable def insO (T : Nat → Int32) (S : Nat → Nat) (p : Nat) (o : Nat → Nat) : Nat → Nat := va_up (shf (aheadP T S p) p o).2 (shf (aheadP T S p) p o).1 p
noncomputable def ordO (T : Nat → Int32) (S : Nat → Nat) : Nat → Nat → (Nat → Nat) → Nat → Nat
  | 0, _, o => o
  | d + 1, p, o => ordO T S d (p + 1) (insO T S p o)
theorem ordO_p : ∀ d p o, (∀ j, j < p → o j < p) → smF (ln S) o p = smF (ln S) (fun j => j) p → (∀ j, j < p + d → ordO T S d p o j < p + d) ∧ smF (ln S) (ordO T S d p o) (p + d) = smF (ln S) (fun j => j) (p + d)
  | 0, p, o, h1, h2 => ⟨h1, h2⟩
  | d + 1, p, o, h1, h2 => by
    have a1 : ∀ j, j < p + 1 → insO T S p o j < p + 1 := shf_bd (by omega) p o (fun j hj => by have := h1 j hj; omega)
    have a2 : smF (ln S) (insO T S p o) (p + 1) = smF (ln S) (fun j => j) (p + 1) := by
      show smF (ln S) (va_up _ _ p) (p + 1) = smF (ln S) (fun j => j) p + ln S p
      rw [shf_sm, h2]
    have := ordO_p d (p + 1) (insO T S p o) a1 a2
    rw [show p + (d + 1) = p + 1 + d by omega]
    exact this
theorem sm_id {P : Nat} (h : ∀ p, p < P → S p ≤ S (p + 1)) : ∀ n, n ≤ P → smF (ln S) (fun j => j) n + S 0 = S n
  | 0, _ => by show 0 + S 0 = S 0; omega
  | n + 1, hn => by
    have ih := sm_id h n (by omega)
    have := h n (by omega)
    show smF (ln S) (fun j => j) n + (S (n + 1) - S n) + S 0 = S (n + 1)
    omega
/-- the parts q .. q + d, one behind the other, into X from e on -/
def cat (T : Nat → Int32) (S o : Nat → Nat) : Nat → Nat → Nat → (Nat → Int32) → Nat × (Nat → Int32)
  | 0, _, e, X => (e, X)
  | d + 1, q, e, X => cat T S o d (q + 1) (e + ln S (o q)) (va_cpy T X (S (o q)) e (ln S (o q)))
theorem cat_e : ∀ d q e X, (cat T S o d q e X).1 + smF (ln S) o q = e + smF (ln S) o (q + d)
  | 0, q, e, X => rfl
  | d + 1, q, e, X => by
    have := cat_e d (q + 1) (e + ln S (o q)) (va_cpy T X (S (o q)) e (ln S (o q)))
    unfold cat
    rw [show q + (d + 1) = q + 1 + d by omega]
    have e2 : smF (ln S) o (q + 1) = smF (ln S) o q + ln S (o q) := rfl
    omega
theorem cat_bl {P : Nat} (hb : ∀ p, p < P → bl T (ln S p) (S p) 0) (ho : ∀ j, j < P → o j < P) (f : Nat) : ∀ d q e X, q + d = P → f ≤ e → bl X (e - f) f 0 → bl (cat T S o d q e X).2 ((cat T S o d q e X).1 - f) f 0
  | 0, q, e, X, _, _, h => h
  | d + 1, q, e, X, hq, hf, h => by
    unfold cat
    refine cat_bl hb ho f d (q + 1) _ _ (by omega) (by omega) ?_
    rw [show e + ln S (o q) - f = (e - f) + ln S (o q) by omega]
    refine bl_app (e - f) f 0 (ln S (o q)) 0 (bl_c _ f f 0 (fun k hk => ?_) h) (bl_c _ (S (o q)) (f + (e - f)) 0 (fun k hk => ?_) (hb (o q) (ho q (by omega))))
    · rw [va_cpy_r, if_neg (by omega)]
    · rw [va_cpy_r, if_pos (by omega)]; congr 1; omega
/-- the tokens with the parts of [f, f + n) in order -/
noncomputable def sg1 (T : Nat → Int32) (f n : Nat) : Nat → Int32 :=
  let pr := prt T n f 0 0 (fun _ => 0)
  let r := cat T pr.2 (ordO T pr.2 pr.1 0 (fun _ => 0)) pr.1 0 f (fun _ => 0)
  va_cpy r.2 T f f (r.1 - f)
end PFOLD
