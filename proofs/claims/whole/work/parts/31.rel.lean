section PREL
abbrev An : Type := Nat × (Nat → Int32) × (Nat → Int32)
abbrev Rw : Type := Int32 × Nat × (Nat → Int32)
abbrev En : Type := Int32 × Int32 × Int32 × Int32 × Int32 × Nat × (Nat → Nat) × (Nat → An)
def Fr (h h' : AH) (S : Nat → Nat → Prop) : Prop := a_nx h ≤ a_nx h' ∧ ∀ a, a < a_nx h → a_kd h' a = a_kd h a ∧ a_ln h' a = a_ln h a ∧ ∀ j, ¬ S a j → a_gi h' a j = a_gi h a j ∧ a_gr h' a j = a_gr h a j
variable {h h' h'' : AH} {S S' : Nat → Nat → Prop} {c m : Nat} {own own' : Nat → Nat} {G G' : Nat → Nat → Int32}
theorem Fr.refl : Fr h h S := ⟨Nat.le_refl _, fun _ _ => ⟨rfl, rfl, fun _ _ => ⟨rfl, rfl⟩⟩⟩
theorem Fr.mono (F : Fr h h' S) (hS : ∀ a j, S a j → S' a j) : Fr h h' S' := ⟨F.1, fun a ha => ⟨(F.2 a ha).1, (F.2 a ha).2.1, fun j hj => (F.2 a ha).2.2 j (fun x => hj (hS a j x))⟩⟩
theorem Fr.trans (F : Fr h h' S) (F' : Fr h' h'' S) : Fr h h'' S := ⟨Nat.le_trans F.1 F'.1, fun a ha => by
  obtain ⟨e1, e2, e3⟩ := F.2 a ha
  obtain ⟨g1, g2, g3⟩ := F'.2 a (Nat.lt_of_lt_of_le ha F.1)
  exact ⟨g1.trans e1, g2.trans e2, fun j hj => ⟨(g3 j hj).1.trans (e3 j hj).1, (g3 j hj).2.trans (e3 j hj).2⟩⟩⟩
theorem Fr_wi (hG : ∀ a j, ¬ S a j → G' a j = a_gi h a j) : Fr h (wi h G') S := ⟨Nat.le_refl _, fun _ _ => ⟨rfl, rfl, fun j hj => ⟨hG _ j hj, rfl⟩⟩⟩
theorem Fr_wi2 (hG : ∀ a j, ¬ S a j → G' a j = G a j) : Fr (wi h G) (wi h G') S := ⟨Nat.le_refl _, fun _ _ => ⟨rfl, rfl, fun j hj => ⟨hG _ j hj, rfl⟩⟩⟩
theorem Fr.gi (F : Fr h h' S) {a j : Nat} (ha : a < a_nx h) (hj : ¬ S a j) : a_gi h' a j = a_gi h a j := ((F.2 a ha).2.2 j hj).1
theorem Fr.gr (F : Fr h h' S) {a j : Nat} (ha : a < a_nx h) (hj : ¬ S a j) : a_gr h' a j = a_gr h a j := ((F.2 a ha).2.2 j hj).2
theorem Fr.kd (F : Fr h h' S) {a : Nat} (ha : a < a_nx h) : a_kd h' a = a_kd h a := (F.2 a ha).1
theorem Fr.ln (F : Fr h h' S) {a : Nat} (ha : a < a_nx h) : a_ln h' a = a_ln h a := (F.2 a ha).2.1
/-- the reference's picture -/
def rowM (G : Nat → Nat → Int32) (m r : Nat) : Option Rw → Prop
  | none => G (m + 1) r = -1
  | some q => G (m + 1) r = q.1 ∧ G (m + 2) r = nI q.2.1 ∧ ∀ j, j < q.2.1 → G (m + 3) (60 * r + j) = q.2.2 j
def ansM (G : Nat → Nat → Int32) (m q : Nat) : Option An → Prop
  | none => G (m + 10) q = 0
  | some x => G (m + 10) q = 1 ∧ G (m + 13) q = nI x.1 ∧ ∀ j, j < x.1 → G (m + 11) (60 * q + j) = x.2.1 j ∧ G (m + 12) (60 * q + j) = x.2.2 j
def hnd (hd : Nat) (l : List Nat) : List Nat := l.filter (fun x => x / 3721 == hd)
def lookM (G : Nat → Nat → Int32) (m s : Nat) (l : List Nat) : Prop := ∀ hd, hd < 4 → G (m + 14) (36 * hd + s) = nI (hnd hd l).length ∧ ∀ k, k < (hnd hd l).length → G (m + 15) (512 * (36 * hd + s) + k) = nI ((hnd hd l).getD k 0 % 3721)
def hadM (G : Nat → Nat → Int32) (m k pl : Nat) (x : An) : Prop := G (m + 37) k = nI pl ∧ G (m + 38) k = 1 ∧ G (m + 39) k = nI x.1 ∧ ∀ j, j < x.1 → G (m + 40) (60 * k + j) = x.2.1 j ∧ G (m + 41) (60 * k + j) = x.2.2 j
def enM (G : Nat → Nat → Int32) (m e : Nat) (x : En) : Prop := G (m + 31) e = x.1 ∧ G (m + 32) e = x.2.1 ∧ G (m + 33) e = x.2.2.1 ∧ G (m + 34) e = x.2.2.2.1 ∧ G (m + 35) e = x.2.2.2.2.1 ∧ G (m + 36) e = nI x.2.2.2.2.2.1 ∧ ∀ k, k < x.2.2.2.2.2.1 → hadM G m (36 * e + k) (x.2.2.2.2.2.2.1 k) (x.2.2.2.2.2.2.2 k)
def rowsM (G : Nat → Nat → Int32) (m : Nat) (rw : Nat → Option Rw) : Prop := ∀ r, r < 8 → rowM G m r (rw r)
def anssM (G : Nat → Nat → Int32) (m : Nat) (kp gv : Nat → Option An) : Prop := ∀ s, s < 36 → ansM G m s (kp s) ∧ ansM G m (36 + s) (gv s)
def looksM (G : Nat → Nat → Int32) (m : Nat) (lk : Nat → List Nat) : Prop := ∀ s, s < 36 → lookM G m s (lk s)
def bookM (G : Nat → Nat → Int32) (m nb : Nat) (be : Nat → En) : Prop := G m 37 = nI nb ∧ ∀ e, e < nb → enM G m e (be e)
def trM (G : Nat → Nat → Int32) (m nt : Nat) (tf : Nat → Int32) : Prop := G m 50 = nI nt ∧ ∀ j, j < nt → G (m + 42) j = tf j
abbrev Sg : Type := Int32 × (Nat → Option Rw) × (Nat → Option An) × (Nat → Option An) × (Nat → List Nat) × (Nat × (Nat → En)) × (Nat × (Nat → Int32)) × Int32
def RM (m : Nat) (h : AH) (σ : Sg) : Prop := SM m h ∧ a_gi h m 2 = σ.1 ∧ rowsM (a_gi h) m σ.2.1 ∧ anssM (a_gi h) m σ.2.2.1 σ.2.2.2.1 ∧ looksM (a_gi h) m σ.2.2.2.2.1 ∧ bookM (a_gi h) m σ.2.2.2.2.2.1.1 σ.2.2.2.2.2.1.2 ∧ trM (a_gi h) m σ.2.2.2.2.2.2.1.1 σ.2.2.2.2.2.2.1.2 ∧ a_gi h m 1 = σ.2.2.2.2.2.2.2
/-- the class's picture -/
def rowC (G : Nat → Nat → Int32) (c r : Nat) : Option Rw → Prop
  | none => G (c + 81 + 2 * r) 0 = 1
  | some q => G (c + 81 + 2 * r) 0 = 0 ∧ G (c + 81 + 2 * r) 1 = q.1 ∧ G (c + 81 + 2 * r) 2 = nI q.2.1 ∧ ∀ j, j < q.2.1 → G (c + 82 + 2 * r) j = q.2.2 j
def rowsC (G : Nat → Nat → Int32) (c : Nat) (rw : Nat → Option Rw) : Prop := ∀ r, r < 8 → rowC G c r (rw r)
def isAr (h : AH) (own : Nat → Nat) (c b o n : Nat) (f : Nat → Int32) : Prop := a_kd h b = 12 ∧ a_ln h b = n ∧ c + 385 ≤ b ∧ b < a_nx h ∧ own b = o ∧ ∀ j, j < n → a_gi h b j = f j
def isAn (h : AH) (own : Nat → Nat) (c a : Nat) (x : An) : Prop := a_kd h a = 1 ∧ c + 385 ≤ a ∧ a < a_nx h ∧ own a = 0 ∧ ∃ b1 b2, a_gr h a 0 = some b1 ∧ a_gr h a 1 = some b2 ∧ isAr h own c b1 0 x.1 x.2.1 ∧ isAr h own c b2 0 x.1 x.2.2
def ansC (h : AH) (own : Nat → Nat) (c : Nat) : Option Nat → Option An → Prop
  | none, none => True
  | some a, some x => isAn h own c a x
  | _, _ => False
def anssC (h : AH) (own : Nat → Nat) (c : Nat) (kp gv : Nat → Option An) : Prop := ∀ s, s < 36 → ansC h own c (a_gr h (c + 97 + 8 * s) 2) (kp s) ∧ ansC h own c (a_gr h (c + 97 + 8 * s) 3) (gv s)
def lookC (h : AH) (own : Nat → Nat) (c s : Nat) (l : List Nat) : Prop := a_gi h (c + 97 + 8 * s) 7 = nI l.length ∧ ∃ b, a_gr h (c + 97 + 8 * s) 6 = some b ∧ a_kd h b = 12 ∧ (b = c + 104 + 8 * s ∨ c + 385 ≤ b) ∧ b < a_nx h ∧ own b = s + 1 ∧ l.length ≤ a_ln h b ∧ a_ln h b ≤ 2000 ∧ ∀ k, k < l.length → a_gi h b k = nI (l.getD k 0)
def looksC (h : AH) (own : Nat → Nat) (c : Nat) (lk : Nat → List Nat) : Prop := ∀ s, s < 36 → lookC h own c s (lk s)
def enC (h : AH) (own : Nat → Nat) (c a e : Nat) (x : En) : Prop := a_kd h a = 5 ∧ c + 385 ≤ a ∧ a < a_nx h ∧ own a = 100 + e ∧ a_gi h a 0 = x.1 ∧ a_gi h a 1 = x.2.1 ∧ a_gi h a 2 = x.2.2.1 ∧ a_gi h a 3 = x.2.2.2.1 ∧ a_gi h a 4 = x.2.2.2.2.1 ∧ a_gi h a 5 = nI x.2.2.2.2.2.1 ∧ ∃ b1 b2, a_gr h a 6 = some b1 ∧ a_gr h a 7 = some b2 ∧ isAr h own c b1 (100 + e) (a_ln h b1) (a_gi h b1) ∧ x.2.2.2.2.2.1 ≤ a_ln h b1 ∧ a_kd h b2 = 14 ∧ c + 385 ≤ b2 ∧ b2 < a_nx h ∧ own b2 = 100 + e ∧ x.2.2.2.2.2.1 ≤ a_ln h b2 ∧ ∀ k, k < x.2.2.2.2.2.1 → a_gi h b1 k = nI (x.2.2.2.2.2.2.1 k) ∧ ∃ q, a_gr h b2 k = some q ∧ isAn h own c q (x.2.2.2.2.2.2.2 k)
def bookC (h : AH) (own : Nat → Nat) (c nb : Nat) (be : Nat → En) : Prop := a_gi h c 8 = nI nb ∧ ∀ e, e < nb → ∃ a, a_gr h (c + 72) e = some a ∧ enC h own c a e (be e)
def trC (G : Nat → Nat → Int32) (c nt : Nat) (tf : Nat → Int32) : Prop := G c 10 = nI nt ∧ ∀ j, j < nt → G (c + 73) j = tf j
def nmC (G : Nat → Nat → Int32) (c : Nat) : Prop := ∀ s, s < 36 → G (c + 97 + 8 * s) 0 = nI (s / 3) ∧ G (c + 97 + 8 * s) 1 = nI (s % 3)
end PREL
section PFRM
variable {G G' : Nat → Nat → Int32} {m : Nat}
theorem rowsM_fr {rw : Nat → Option Rw} (p : rowsM G m rw) (e : ∀ a j, m + 1 ≤ a → a ≤ m + 3 → G' a j = G a j) : rowsM G' m rw := fun r hr => by
  have p := p r hr
  revert p
  cases rw r with
  | none => simp only [rowM]; intro p; rw [e _ _ (by omega) (by omega)]; exact p
  | some q => simp only [rowM]; intro p; exact ⟨by rw [e _ _ (by omega) (by omega)]; exact p.1, by rw [e _ _ (by omega) (by omega)]; exact p.2.1, fun j hj => by rw [e _ _ (by omega) (by omega)]; exact p.2.2 j hj⟩
theorem ansM_fr {q : Nat} {x : Option An} (p : ansM G m q x) (e : ∀ a j, m + 10 ≤ a → a ≤ m + 13 → G' a j = G a j) : ansM G' m q x := by
  revert p
  cases x with
  | none => simp only [ansM]; intro p; rw [e _ _ (by omega) (by omega)]; exact p
  | some x => simp only [ansM]; intro p; exact ⟨by rw [e _ _ (by omega) (by omega)]; exact p.1, by rw [e _ _ (by omega) (by omega)]; exact p.2.1, fun j hj => by rw [e _ _ (by omega) (by omega), e _ _ (by omega) (by omega)]; exact p.2.2 j hj⟩
theorem anssM_fr {kp gv : Nat → Option An} (p : anssM G m kp gv) (e : ∀ a j, m + 10 ≤ a → a ≤ m + 13 → G' a j = G a j) : anssM G' m kp gv := fun s hs => ⟨ansM_fr (p s hs).1 e, ansM_fr (p s hs).2 e⟩
theorem looksM_fr {lk : Nat → List Nat} (p : looksM G m lk) (e : ∀ a j, m + 14 ≤ a → a ≤ m + 15 → G' a j = G a j) : looksM G' m lk := fun s hs hd hh => ⟨by rw [e _ _ (by omega) (by omega)]; exact (p s hs hd hh).1, fun k hk => by rw [e _ _ (by omega) (by omega)]; exact (p s hs hd hh).2 k hk⟩
theorem hadM_fr {k pl : Nat} {x : An} (p : hadM G m k pl x) (e : ∀ a j, m + 31 ≤ a → a ≤ m + 41 → G' a j = G a j) : hadM G' m k pl x := by
  obtain ⟨p1, p2, p3, p4⟩ := p
  exact ⟨by rw [e _ _ (by omega) (by omega)]; exact p1, by rw [e _ _ (by omega) (by omega)]; exact p2, by rw [e _ _ (by omega) (by omega)]; exact p3, fun j hj => by rw [e _ _ (by omega) (by omega), e _ _ (by omega) (by omega)]; exact p4 j hj⟩
theorem enM_fr {k : Nat} {x : En} (p : enM G m k x) (e : ∀ a j, m + 31 ≤ a → a ≤ m + 41 → G' a j = G a j) : enM G' m k x := by
  obtain ⟨p1, p2, p3, p4, p5, p6, p7⟩ := p
  exact ⟨by rw [e _ _ (by omega) (by omega)]; exact p1, by rw [e _ _ (by omega) (by omega)]; exact p2, by rw [e _ _ (by omega) (by omega)]; exact p3, by rw [e _ _ (by omega) (by omega)]; exact p4, by rw [e _ _ (by omega) (by omega)]; exact p5, by rw [e _ _ (by omega) (by omega)]; exact p6, fun j hj => hadM_fr (p7 j hj) e⟩
theorem bookM_fr {nb : Nat} {be : Nat → En} (p : bookM G m nb be) (e0 : G' m 37 = G m 37) (e : ∀ a j, m + 31 ≤ a → a ≤ m + 41 → G' a j = G a j) : bookM G' m nb be := ⟨e0.trans p.1, fun k hk => enM_fr (p.2 k hk) e⟩
theorem trM_fr {nt : Nat} {tf : Nat → Int32} (p : trM G m nt tf) (e0 : G' m 50 = G m 50) (e : ∀ j, G' (m + 42) j = G (m + 42) j) : trM G' m nt tf := ⟨e0.trans p.1, fun j hj => (e j).trans (p.2 j hj)⟩
def scrM (m a j : Nat) : Prop := (a = m ∧ (j = 0 ∨ j = 19 ∨ j = 24 ∨ j = 32 ∨ j = 36)) ∨ (m + 4 ≤ a ∧ a ≤ m + 9) ∨ (m + 16 ≤ a ∧ a ≤ m + 30)
theorem RM_fr {h : AH} {σ : Sg} (p : RM m h σ) (e : ∀ a j, ¬ scrM m a j → G' a j = a_gi h a j) : RM m (wi h G') σ := by
  obtain ⟨p1, p2, p3, p4, p5, p6, p7, p8⟩ := p
  refine ⟨SM_wi p1, ?_, rowsM_fr p3 ?_, anssM_fr p4 ?_, looksM_fr p5 ?_, bookM_fr p6 ?_ ?_, trM_fr p7 ?_ ?_, ?_⟩
  · exact (e _ _ (by unfold scrM; omega)).trans p2
  · exact fun a j h1 h2 => e _ _ (by unfold scrM; omega)
  · exact fun a j h1 h2 => e _ _ (by unfold scrM; omega)
  · exact fun a j h1 h2 => e _ _ (by unfold scrM; omega)
  · exact e _ _ (by unfold scrM; omega)
  · exact fun a j h1 h2 => e _ _ (by unfold scrM; omega)
  · exact e _ _ (by unfold scrM; omega)
  · exact fun j => e _ _ (by unfold scrM; omega)
  · exact (e _ _ (by unfold scrM; omega)).trans p8
end PFRM
section PFRC
variable {h h' : AH} {S : Nat → Nat → Prop} {c : Nat} {own own' : Nat → Nat} {G G' : Nat → Nat → Int32}
def Ok0 (S : Nat → Nat → Prop) (own : Nat → Nat) (c : Nat) (h : AH) : Prop := ∀ a j, c + 385 ≤ a → a < a_nx h → own a = 0 → ¬ S a j
def Sown (own own' : Nat → Nat) (h : AH) : Prop := ∀ a, a < a_nx h → own' a = own a
theorem isAr_fr {b o n : Nat} {f : Nat → Int32} (p : isAr h own c b o n f) (F : Fr h h' S) (hS : ∀ j, ¬ S b j) (ho : Sown own own' h) : isAr h' own' c b o n f := by
  obtain ⟨p1, p2, p3, p4, p5, p6⟩ := p
  exact ⟨(F.kd p4).trans p1, (F.ln p4).trans p2, p3, Nat.lt_of_lt_of_le p4 F.1, (ho b p4).trans p5, fun j hj => (F.gi p4 (hS j)).trans (p6 j hj)⟩
theorem isAn_fr {a : Nat} {x : An} (p : isAn h own c a x) (F : Fr h h' S) (hS : Ok0 S own c h) (ho : Sown own own' h) : isAn h' own' c a x := by
  obtain ⟨p1, p2, p3, p4, b1, b2, p5, p6, p7, p8⟩ := p
  exact ⟨(F.kd p3).trans p1, p2, Nat.lt_of_lt_of_le p3 F.1, (ho a p3).trans p4, b1, b2, (F.gr p3 (hS a 0 p2 p3 p4)).trans p5, (F.gr p3 (hS a 1 p2 p3 p4)).trans p6, isAr_fr p7 F (fun j => hS b1 j p7.2.2.1 p7.2.2.2.1 p7.2.2.2.2.1) ho, isAr_fr p8 F (fun j => hS b2 j p8.2.2.1 p8.2.2.2.1 p8.2.2.2.2.1) ho⟩
theorem ansC_fr {q : Option Nat} {x : Option An} (p : ansC h own c q x) (F : Fr h h' S) (hS : Ok0 S own c h) (ho : Sown own own' h) : ansC h' own' c q x := by
  revert p
  cases q <;> cases x <;> simp only [ansC] <;> first | exact id | exact fun p => isAn_fr p F hS ho
theorem lookC_fr {s : Nat} {l : List Nat} (p : lookC h own c s l) (F : Fr h h' S) (hn : c + 385 ≤ a_nx h) (hs : s < 36) (h1 : ¬ S (c + 97 + 8 * s) 6) (h2 : ¬ S (c + 97 + 8 * s) 7) (hS : ∀ a j, (a = c + 104 + 8 * s ∨ c + 385 ≤ a) → a < a_nx h → own a = s + 1 → ¬ S a j) (ho : Sown own own' h) : lookC h' own' c s l := by
  obtain ⟨p1, b, p2, p3, p4, p5, p6, p7, p8, p9⟩ := p
  exact ⟨(F.gi (by omega) h2).trans p1, b, (F.gr (by omega) h1).trans p2, (F.kd p5).trans p3, p4, Nat.lt_of_lt_of_le p5 F.1, (ho b p5).trans p6, by rw [F.ln p5]; exact p7, by rw [F.ln p5]; exact p8, fun k hk => (F.gi p5 (hS b k p4 p5 p6)).trans (p9 k hk)⟩
theorem enC_fr {a e : Nat} {x : En} (p : enC h own c a e x) (F : Fr h h' S) (hS : Ok0 S own c h) (hE : ∀ a j, c + 385 ≤ a → a < a_nx h → own a = 100 + e → ¬ S a j) (ho : Sown own own' h) : enC h' own' c a e x := by
  obtain ⟨p1, p2, p3, p4, q0, q1, q2, q3, q4, q5, b1, b2, r1, r2, r3, r4, r5, r6, r7, r8, r9, r10⟩ := p
  have z := fun j => hE a j p2 p3 p4
  have z1 := fun j => hE b1 j r3.2.2.1 r3.2.2.2.1 r3.2.2.2.2.1
  have z2 := fun j => hE b2 j r6 r7 r8
  refine ⟨(F.kd p3).trans p1, p2, Nat.lt_of_lt_of_le p3 F.1, (ho a p3).trans p4, (F.gi p3 (z 0)).trans q0, (F.gi p3 (z 1)).trans q1, (F.gi p3 (z 2)).trans q2, (F.gi p3 (z 3)).trans q3, (F.gi p3 (z 4)).trans q4, (F.gi p3 (z 5)).trans q5, b1, b2, (F.gr p3 (z 6)).trans r1, (F.gr p3 (z 7)).trans r2, ?_, ?_, (F.kd r7).trans r5, r6, Nat.lt_of_lt_of_le r7 F.1, (ho b2 r7).trans r8, ?_, ?_⟩
  · have := isAr_fr r3 F z1 ho
    exact ⟨this.1, rfl, this.2.2.1, this.2.2.2.1, this.2.2.2.2.1, fun _ _ => rfl⟩
  · rw [F.ln r3.2.2.2.1]; exact r4
  · rw [F.ln r7]; exact r9
  · intro k hk
    obtain ⟨y1, q, y2, y3⟩ := r10 k hk
    exact ⟨(F.gi r3.2.2.2.1 (z1 k)).trans y1, q, (F.gr r7 (z2 k)).trans y2, isAn_fr y3 F hS ho⟩
theorem bookC_fr {nb : Nat} {be : Nat → En} (p : bookC h own c nb be) (F : Fr h h' S) (hn : c + 385 ≤ a_nx h) (h8 : ¬ S c 8) (h72 : ∀ j, ¬ S (c + 72) j) (hS : Ok0 S own c h) (hE : ∀ a j, c + 385 ≤ a → a < a_nx h → 100 ≤ own a → ¬ S a j) (ho : Sown own own' h) : bookC h' own' c nb be := by
  refine ⟨(F.gi (by omega) h8).trans p.1, fun e he => ?_⟩
  obtain ⟨a, p1, p2⟩ := p.2 e he
  exact ⟨a, (F.gr (by omega) (h72 e)).trans p1, enC_fr p2 F hS (fun a j x1 x2 x3 => hE a j x1 x2 (by omega)) ho⟩
theorem anssC_fr {kp gv : Nat → Option An} (p : anssC h own c kp gv) (F : Fr h h' S) (hn : c + 385 ≤ a_nx h) (h2 : ∀ s, s < 36 → ¬ S (c + 97 + 8 * s) 2) (h3 : ∀ s, s < 36 → ¬ S (c + 97 + 8 * s) 3) (hS : Ok0 S own c h) (ho : Sown own own' h) : anssC h' own' c kp gv := fun s hs => by
  rw [F.gr (by omega) (h2 s hs), F.gr (by omega) (h3 s hs)]
  exact ⟨ansC_fr (p s hs).1 F hS ho, ansC_fr (p s hs).2 F hS ho⟩
theorem looksC_fr {lk : Nat → List Nat} (p : looksC h own c lk) (F : Fr h h' S) (hn : c + 385 ≤ a_nx h) (h1 : ∀ s, s < 36 → ¬ S (c + 97 + 8 * s) 6 ∧ ¬ S (c + 97 + 8 * s) 7) (hS : ∀ s, s < 36 → ∀ a j, (a = c + 104 + 8 * s ∨ c + 385 ≤ a) → a < a_nx h → own a = s + 1 → ¬ S a j) (ho : Sown own own' h) : looksC h' own' c lk := fun s hs => lookC_fr (p s hs) F hn hs (h1 s hs).1 (h1 s hs).2 (hS s hs) ho
theorem rowsC_fr {rw : Nat → Option Rw} (p : rowsC G c rw) (e : ∀ a j, c + 81 ≤ a → a ≤ c + 96 → G' a j = G a j) : rowsC G' c rw := fun r hr => by
  have p := p r hr
  revert p
  cases rw r with
  | none => simp only [rowC]; intro p; rw [e _ _ (by omega) (by omega)]; exact p
  | some q => simp only [rowC]; intro p; exact ⟨by rw [e _ _ (by omega) (by omega)]; exact p.1, by rw [e _ _ (by omega) (by omega)]; exact p.2.1, by rw [e _ _ (by omega) (by omega)]; exact p.2.2.1, fun j hj => by rw [e _ _ (by omega) (by omega)]; exact p.2.2.2 j hj⟩
theorem trC_fr {nt : Nat} {tf : Nat → Int32} (p : trC G c nt tf) (e0 : G' c 10 = G c 10) (e : ∀ j, G' (c + 73) j = G (c + 73) j) : trC G' c nt tf := ⟨e0.trans p.1, fun j hj => (e j).trans (p.2 j hj)⟩
theorem nmC_fr (p : nmC G c) (e : ∀ s, s < 36 → G' (c + 97 + 8 * s) 0 = G (c + 97 + 8 * s) 0 ∧ G' (c + 97 + 8 * s) 1 = G (c + 97 + 8 * s) 1) : nmC G' c := fun s hs => ⟨(e s hs).1.trans (p s hs).1, (e s hs).2.trans (p s hs).2⟩
def RC (own : Nat → Nat) (c : Nat) (h : AH) (σ : Sg) : Prop := SC c h ∧ nmC (a_gi h) c ∧ a_gi h (c + 74) 0 = σ.1 ∧ rowsC (a_gi h) c σ.2.1 ∧ anssC h own c σ.2.2.1 σ.2.2.2.1 ∧ looksC h own c σ.2.2.2.2.1 ∧ bookC h own c σ.2.2.2.2.2.1.1 σ.2.2.2.2.2.1.2 ∧ trC (a_gi h) c σ.2.2.2.2.2.2.1.1 σ.2.2.2.2.2.2.1.2 ∧ a_gi h c 11 = σ.2.2.2.2.2.2.2
/-- scratch and what is found out again when it is wanted -/
def scrC (c a j : Nat) : Prop := (a = c ∧ j = 6) ∨ (c + 5 ≤ a ∧ a ≤ c + 71) ∨ (c + 75 ≤ a ∧ a ≤ c + 80) ∨ (c + 97 ≤ a ∧ a < c + 385 ∧ ((a - c - 97) % 8 = 0 ∧ j = 5 ∨ 1 ≤ (a - c - 97) % 8 ∧ (a - c - 97) % 8 ≤ 6))
theorem RC_fr {σ : Sg} (p : RC own c h σ) (e : ∀ a j, ¬ scrC c a j → G' a j = a_gi h a j) : RC own c (wi h G') σ := by
  obtain ⟨p1, p2, p3, p4, p5, p6, p7, p8, p9⟩ := p
  have hn := SC_nx p1
  have F : Fr h (wi h G') (scrC c) := Fr_wi e
  have ho : Sown own own h := fun _ _ => rfl
  have h0 : Ok0 (scrC c) own c h := fun a j h1 h2 h3 => by unfold scrC; omega
  refine ⟨SC_wi p1, nmC_fr p2 ?_, ?_, rowsC_fr p4 ?_, anssC_fr p5 F hn ?_ ?_ h0 ho, looksC_fr p6 F hn ?_ ?_ ho, bookC_fr p7 F hn ?_ ?_ h0 ?_ ho, trC_fr p8 ?_ ?_, ?_⟩
  · exact fun s hs => ⟨e _ _ (by unfold scrC; omega), e _ _ (by unfold scrC; omega)⟩
  · exact (e _ _ (by unfold scrC; omega)).trans p3
  · exact fun a j h1 h2 => e _ _ (by unfold scrC; omega)
  · exact fun s hs => by unfold scrC; omega
  · exact fun s hs => by unfold scrC; omega
  · exact fun s hs => ⟨by unfold scrC; omega, by unfold scrC; omega⟩
  · exact fun s hs a j h1 h2 h3 => by unfold scrC; omega
  · unfold scrC; omega
  · exact fun j => by unfold scrC; omega
  · exact fun a j h1 h2 h3 => by unfold scrC; omega
  · exact e _ _ (by unfold scrC; omega)
  · exact fun j => e _ _ (by unfold scrC; omega)
  · exact (e _ _ (by unfold scrC; omega)).trans p9
end PFRC
