/-! MY LAYER: one abstract heap (AH); a machine heap holds it (HB); a frame at a pc with the rest of the method's meaning x (WX). -/
abbrev AH : Type := Nat × (Nat → Nat) × (Nat → Nat) × (Nat → Nat → Int32) × (Nat → Nat → Option Nat)
def a_nx (h : AH) : Nat := h.1
def a_kd (h : AH) (a : Nat) : Nat := h.2.1 a
def a_ln (h : AH) (a : Nat) : Nat := h.2.2.1 a
def a_gi (h : AH) (a j : Nat) : Int32 := h.2.2.2.1 a j
def a_gr (h : AH) (a j : Nat) : Option Nat := h.2.2.2.2 a j
def a_si (h : AH) (a : Nat) (f : Nat → Int32) : AH := (h.1, h.2.1, h.2.2.1, va_up h.2.2.2.1 a f, h.2.2.2.2)
def a_sr (h : AH) (a : Nat) (f : Nat → Option Nat) : AH := (h.1, h.2.1, h.2.2.1, h.2.2.2.1, va_up h.2.2.2.2 a f)
def a_pi (h : AH) (a j : Nat) (v : Int32) : AH := a_si h a (upd (a_gi h a) j v)
def a_pr (h : AH) (a j : Nat) (v : Option Nat) : AH := a_sr h a (va_up (a_gr h a) j v)
/-- a new cell of kind k, n places, all 0 and null -/
def a_mk (h : AH) (k n : Nat) : AH := (h.1 + 1, va_up h.2.1 h.1 k, va_up h.2.2.1 h.1 n, va_up h.2.2.2.1 h.1 (fun _ => 0), va_up h.2.2.2.2 h.1 (fun _ => none))
/-- what a method gives: its answer, the heap behind it, the cells and slots that it took -/
abbrev RX (ρ : Type) : Type := Option (ρ × AH × Nat × Nat)
def wA {ρ : Type} (k n : Nat) (x : RX ρ) : RX ρ := x.map (fun q => (q.1, q.2.1, k + q.2.2.1, n + q.2.2.2))
def bnd {ρ τ : Type} (x : RX τ) (k : τ → AH → RX ρ) : RX ρ := x.bind (fun q => wA q.2.2.1 q.2.2.2 (k q.1 q.2.1))
/-- which fields of an object are references -/
def a_sg : Nat → List Bool
  | 1 => [true, true]
  | 2 => [false, false, true, true, true, true, true]
  | 3 => [true]
  | 4 => [true, false]
  | 5 => [false, false, false, false, false, false, true, true]
  | 6 => [false, true, true, true, true, true, true]
  | 7 => [false, true, true, true]
  | 8 => [false, false, false, true]
  | 9 => [false, false, true, true, true, false, true, false]
  | 10 => [true, true, true, true, true, true, false, true, false, true, false, false]
  | 11 => [false, false, false, true, true, true, true, true, true, true, true, true, true, true, true, true, true, true, true, false, true, true, true, true, false, true, true, true, true, true, true, true, false, true, true, true, false, false, true, true, true, true, true, true, true, true, true, true, true, true, false]
  | _ => []
def a_V (h : AH) (a j : Nat) : Value := bif (a_sg (a_kd h a)).getD j false then va_rf (a_gr h a j) else .int (a_gi h a j)
def a_at (D : va_G) (cy : Nat → ClassId) (h : AH) (a : Nat) (H : Heap) : Prop :=
  if a_kd h a ≤ 11 then t_OB a (D.1 (a_kd h a - 1)) (a_sg (a_kd h a)).length (D.2 (a_kd h a - 1)) H (a_V h a)
  else if a_kd h a ≤ 13 then H[a]? = some (arrV (cy (a_kd h a)) (a_ln h a) (fun j => .int (a_gi h a j)))
  else H[a]? = some (arrV (cy (a_kd h a)) (a_ln h a) (fun j => va_rf (a_gr h a j)))
def HB (D : va_G) (cy : Nat → ClassId) (h : AH) (H : Heap) : Prop := H.size = a_nx h ∧ ∀ a, a_kd h a ≠ 0 → a_at D cy h a H
abbrev tysX (cy : Nat → ClassId) : List (ClassId × FieldType) := [(cy 12, .int), (cy 13, .boolean), (cy 14, .object "GoldenKeeper$Answer"), (cy 15, .object "GoldenKeeper$Entry"), (cy 16, .object "GoldenKeeper$Row"), (cy 17, .object "GoldenKeeper$Slot"), (cy 18, .array .int)]
/-- the array class over int[] stands -/
def AOI (U : State) : Prop := (Cond.arrayOver (.array .int)).before #[] U = true
theorem AOI.moved {u U : State} (hvm : u.vm.Alike U.vm) (h : AOI u) : AOI U := Jvm.Stand.arrayOver_alikeB hvm h
/-- what the tables say that isn't among the words: classes, array classes, nest mates, arrays over -/
def GX (D : va_G) (cy : Nat → ClassId) (U : State) : Prop :=
  va_K D vwCl (tysX cy) U ∧ va_Nw (.methodLinkNest RX10 23 yX2_init RX10) U ∧ va_Nw (.methodLinkNest RX10 30 yX3_init RX10) U ∧ va_Nw (.methodLinkNest RX10 37 yX6_init RX10) U ∧ va_Nw (.methodLinkNest RX10 75 yX7_init RX10) U ∧ va_Nw (.methodLinkNest RX8 20 yX1_init RX10) U ∧ va_Nw (.castable "[I" "java/lang/Cloneable") U ∧ va_AO "GoldenKeeper$Answer" U ∧ va_AO "GoldenKeeper$Entry" U ∧ va_AO "GoldenKeeper$Row" U ∧ va_AO "GoldenKeeper$Slot" U ∧ AOI U
theorem GX.warm {D : va_G} {cy : Nat → ClassId} {s U : State} (hW : s.WarmedH U.vm) (h : GX D cy s) : GX D cy U := by
  obtain ⟨h1, h2, h3, h4, h5, h6, h7, h8, h9, h10, h11, h12⟩ := h
  exact ⟨va_K.moved hW.alike h1, va_Nw.warmM hW h2, va_Nw.warmM hW h3, va_Nw.warmM hW h4, va_Nw.warmM hW h5, va_Nw.warmM hW h6, va_Nw.warmC hW h7, va_AO.moved hW.alike h8, va_AO.moved hW.alike h9, va_AO.moved hW.alike h10, va_AO.moved hW.alike h11, AOI.moved hW.alike h12⟩
theorem GX.same {D : va_G} {cy : Nat → ClassId} {s U : State} (hv : s.vm = U.vm) (h : GX D cy s) : GX D cy U := by
  have ha : s.vm.Alike U.vm := by rw [hv]; exact Vm.Alike.refl _
  obtain ⟨h1, h2, h3, h4, h5, h6, h7, h8, h9, h10, h11, h12⟩ := h
  exact ⟨va_K.moved ha h1, va_Nw.same rfl hv h2, va_Nw.same rfl hv h3, va_Nw.same rfl hv h4, va_Nw.same rfl hv h5, va_Nw.same rfl hv h6, va_Nw.same rfl hv h7, va_AO.moved ha h8, va_AO.moved ha h9, va_AO.moved ha h10, va_AO.moved ha h11, AOI.moved ha h12⟩
def rvI (r : Int32) : Option Value := some (.int r)
def rvV (_ : Unit) : Option Value := none
def rvR (r : Option Nat) : Option Value := some (va_rf r)
def AX (h : AH) : Nat → Prop := fun q => a_kd h q ≠ 0 ∨ a_nx h ≤ q
def QX {ρ : Type} (rv : ρ → Option Value) (D : va_G) (cy : Nat → ClassId) (A : Nat → Prop) (r : ρ) (h : AH) : Array Value → State → Outcome → State → Prop := fun _ st o t => (o = .returned (rv r) ∧ HB D cy h t.heap ∧ ∀ q, a_kd h q ≠ 0 → A q) ∧ va_F A st t
def PX (D : va_G) (cy : Nat → ClassId) (h : AH) (av : List Value) : Array Value → State → Prop := va_Pc av (fun U => HB D cy h U.heap ∧ GX D cy U)
abbrev CT : Type := Program × Launch × Env × Room × State × MethodId × Array Value × List Frame × Method × Code × va_G × (Nat → ClassId) × (Nat → Prop)
def Wc (C : CT) (H : Heap) (locs : List Loc) (cells slots : Nat) (Q : State → Prop) (g : JFrame) : Prop :=
  W C.1 C.2.1 C.2.2.1 C.2.2.2.1 C.2.2.2.2.1 C.2.2.2.2.2.1 C.2.2.2.2.2.2.1 C.2.2.2.2.2.2.2.1 C.2.2.2.2.2.2.2.2.1 C.2.2.2.2.2.2.2.2.2.1 H locs cells slots Q g
abbrev c_R (C : CT) : Room := C.2.2.2.1
abbrev c_s (C : CT) : State := C.2.2.2.2.1
abbrev c_m (C : CT) : MethodId := C.2.2.2.2.2.1
abbrev c_args (C : CT) : Array Value := C.2.2.2.2.2.2.1
abbrev c_below (C : CT) : List Frame := C.2.2.2.2.2.2.2.1
abbrev c_meth (C : CT) : Method := C.2.2.2.2.2.2.2.2.1
abbrev c_c (C : CT) : Code := C.2.2.2.2.2.2.2.2.2.1
abbrev c_D (C : CT) : va_G := C.2.2.2.2.2.2.2.2.2.2.1
abbrev c_cy (C : CT) : Nat → ClassId := C.2.2.2.2.2.2.2.2.2.2.2.1
abbrev c_A (C : CT) : Nat → Prop := C.2.2.2.2.2.2.2.2.2.2.2.2
abbrev c_H (C : CT) : Heap := (c_s C).heap
/-- what is so in the whole body of a method -/
def OKC (C : CT) (y : MethodName) (cc : ByteArray) (nL : Nat) (ret : Option FieldType) (F L : Nat) : Prop :=
  C.1.tables.exec = Jvm.exec ∧ (c_c C).code = cc ∧ (c_c C).maxLocals = nL ∧ (c_s C).vm.findClass y.cls = some (c_m C).cls ∧ (∀ w ∈ LW, w.before (c_args C) (c_s C) = true) ∧ GX (c_D C) (c_cy C) (c_s C) ∧ (c_meth C).locks = false ∧ (∀ q, (c_H C).size ≤ q → c_A C q) ∧ (c_meth C).sig.returnType = ret ∧ (c_meth C).name = y.name ∧ (c_R C).frames = F ∧ (c_R C).locals = L
/-- what a heap, with room, is at a point of the walk -/
def IX (C : CT) (h : AH) (k n : Nat) (H : Heap) (locs : List Loc) (cells slots : Nat) : Prop :=
  HB (c_D C) (c_cy C) h H ∧ va_S (c_A C) (c_H C) H locs ∧ (∀ q, a_kd h q ≠ 0 → c_A C q) ∧ cells + k ≤ (c_R C).cells ∧ slots + n ≤ (c_R C).slots
def WY {ρ : Type} (rv : ρ → Option Value) (C : CT) (g : JFrame) (h : AH) (x : RX ρ) : Prop :=
  ∀ (r : ρ) (h' : AH) (k n : Nat), x = some (r, h', k, n) → ∀ (H : Heap) (locs : List Loc) (cells slots : Nat), IX C h k n H locs cells slots → Wc C H locs cells slots (MQ (c_below C) (QX rv (c_D C) (c_cy C) (c_A C) r h') (c_args C) (c_s C) (c_R C).cells (c_R C).slots (c_A C)) g
def WX {ρ : Type} (rv : ρ → Option Value) (C : CT) (pc : Nat) (lv : List (Nat × Value)) (st : List Value) (h : AH) (x : RX ρ) : Prop :=
  ∀ ls : Array Slot, lv_has ls (c_c C).maxLocals lv → WY rv C (F0 (c_m C) pc ls st) h x
/-- a contract: the method y means x from h -/
def MX {ρ : Type} (rv : ρ → Option Value) (l : Launch) (y : MethodName) (ws : List Cond) (F L : Nat) (D : va_G) (cy : Nat → ClassId) (h : AH) (av : List Value) (x : RX ρ) : Prop :=
  ∀ (r : ρ) (h' : AH) (k n : Nat), x = some (r, h', k, n) → Met l y ws ({ frames := F, cells := k, slots := n, locals := L }) (PX D cy h av) (QX rv D cy (AX h) r h') k n (AX h)
theorem MX.of {ρ : Type} {rv : ρ → Option Value} {l : Launch} {y : MethodName} {cc : ByteArray} {maxL : Nat} {ret : Option FieldType} {F L : Nat} {D : va_G} {cy : Nat → ClassId} {h : AH} {av : List Value} {x : RX ρ}
    (hy : plainName y.cls = true) (hle : (lg_sl av).length ≤ maxL) {lv : List (Nat × Value)} (hlv : lv_args 0 av = lv) (body : ∀ C : CT, OKC C y cc maxL ret F L → C.2.1 = l → WX rv C 0 lv [] h x) : MX rv l y (Cond.code y cc maxL ret :: LW) F L D cy h av x := by
  intro r h' k n hx
  refine Met.ofW (cc := cc) (maxL := maxL) (ret := ret) hy rfl ?_
  intro p e s m args below meth c s₁ B hml hv
  obtain ⟨rfl, hHB, hG⟩ := hv
  have hts : ∀ w ∈ LW, w.before av.toArray s = true := fun w hw => atoms_spec (ws := Cond.code y cc maxL ret :: LW) B.pre w (List.mem_cons_of_mem _ hw)
  have hown : s.vm.findClass y.cls = some m.cls := findClass_of_methodNamed B.named
  have hnm : meth.name = y.name := (name_of_methodNamed B.named B.method).1
  have hA : ∀ q : Nat, s.heap.size ≤ q → AX h q := fun q hq => Or.inr (by rw [← hHB.1]; exact hq)
  have hl := lv_entry av (n := maxL) hle
  rw [hlv] at hl
  rw [lg_entry_eq]
  generalize (lg_sl av ++ List.replicate (maxL - (lg_sl av).length) Slot.unset).toArray = ls at hl ⊢
  have hC : OKC (p, l, e, (headSpec (Cond.code y cc maxL ret :: LW) ({ frames := F, cells := k, slots := n, locals := L } : Room)).room, s, m, av.toArray, below, meth, c, D, cy, AX h) y cc maxL ret F L := ⟨B.exec, B.bytes, hml, hown, hts, hG, B.notSynchronized, hA, B.returns, hnm, rfl, rfl⟩
  have hb := body _ hC rfl ls (by show lv_has ls c.maxLocals _; rw [hml]; exact hl) r h' k n hx s.heap [] 0 0 ⟨hHB, va_S.rf, fun q hq => Or.inl hq, by show 0 + k ≤ k; omega, by show 0 + n ≤ n; omega⟩
  exact hb
theorem LW_good {w : Cond} (h : w ∈ LW) : (w.onTables && w.keeps) = true ∨ ∃ ty, w = .arrayClass ty := good_of_word (List.mem_filter.mp h).2
theorem good_C {y2 : MethodName} {cc2 : ByteArray} {nL2 : Nat} {ret2 : Option FieldType} (g5 : Cond.code y2 cc2 nL2 ret2 ∈ LW) : GoodIn LW (Cond.code y2 cc2 nL2 ret2 :: LW) := fun w hw => by
  have h : w ∈ LW := (List.mem_cons.mp hw).elim (fun q => q ▸ g5) id
  exact ⟨h, LW_good h⟩
theorem good_V {own : String} {index : Nat} {Cn : String} {y2 : MethodName} {cc2 : ByteArray} {nL2 : Nat} {ret2 : Option FieldType} (g1 : Cond.methodLink own index y2 ∈ LW) (g2 : Cond.instanceMethod y2 ∈ LW) (g3 : Cond.selects Cn y2 y2 ∈ LW) (g4 : Cond.initialized Cn ∈ LW) (g5 : Cond.code y2 cc2 nL2 ret2 ∈ LW) : GoodIn LW (wsV own index Cn y2 (Cond.code y2 cc2 nL2 ret2 :: LW)) := fun w hw => by
  have h : w ∈ LW := by
    unfold wsV at hw
    rcases List.mem_append.mp hw with q | q
    · simp only [List.mem_cons, List.not_mem_nil, or_false] at q
      rcases q with q | q | q | q <;> rw [q] <;> assumption
    · exact (List.mem_cons.mp q).elim (fun q => q ▸ g5) id
  exact ⟨h, LW_good h⟩
theorem good_S {own : String} {index : Nat} {y2 : MethodName} {cc2 : ByteArray} {nL2 : Nat} {ret2 : Option FieldType} (g1 : Cond.methodLink own index y2 ∈ LW) (g2 : Cond.static y2 ∈ LW) (g4 : Cond.initialized y2.cls ∈ LW) (g5 : Cond.code y2 cc2 nL2 ret2 ∈ LW) : GoodIn LW (va_wsS own index y2 (Cond.code y2 cc2 nL2 ret2 :: LW)) := fun w hw => by
  have h : w ∈ LW := by
    unfold va_wsS at hw
    rcases List.mem_append.mp hw with q | q
    · simp only [List.mem_cons, List.not_mem_nil, or_false] at q
      rcases q with q | q | q <;> rw [q] <;> assumption
    · exact (List.mem_cons.mp q).elim (fun q => q ▸ g5) id
  exact ⟨h, LW_good h⟩
section XROWS
variable {ρ : Type} {rv : ρ → Option Value} {C : CT} {y : MethodName} {cc : ByteArray} {nL : Nat} {ret : Option FieldType} {F L : Nat} {pc : Nat} {lv : List (Nat × Value)} {st : List Value} {h : AH} {x : RX ρ}
theorem x_none : WX rv C pc lv st h (none : RX ρ) := fun _ _ _ _ _ _ e => by cases e
/-- fewer locals are known -/
theorem x_sub {lv' : List (Nat × Value)} (ks : List Nat) (hl : lv_pick lv ks = lv') (kk : WX rv C pc lv' st h x) : WX rv C pc lv st h x := fun ls h0 => kk ls (lv_sub h0 ks hl)
theorem x_iconst {i : Int} {v : Int32} (hC : OKC C y cc nL ret F L) (hd : decode cc pc = .ok (.iconst i, 1)) (hv : Int32.ofInt i = v) {p' : Nat} (hp : pc + 1 = p') (kk : WX rv C p' lv (.int v :: st) h x) : WX rv C pc lv st h x := by
  subst hp
  exact fun ls hl r h' k n e H locs cells slots hI => lv_iconst hC.1 hC.2.1 hd hv (kk ls hl r h' k n e H locs cells slots hI)
theorem x_bipush {i : Int} {v : Int32} (hC : OKC C y cc nL ret F L) (hd : decode cc pc = .ok (.bipush i, 2)) (hv : (Int8.ofInt i).toInt32 = v) {p' : Nat} (hp : pc + 2 = p') (kk : WX rv C p' lv (.int v :: st) h x) : WX rv C pc lv st h x := by
  subst hp
  exact fun ls hl r h' k n e H locs cells slots hI => lv_bipush hC.1 hC.2.1 hd hv (kk ls hl r h' k n e H locs cells slots hI)
theorem x_sipush {i : Int} {v : Int32} (hC : OKC C y cc nL ret F L) (hd : decode cc pc = .ok (.sipush i, 3)) (hv : (Int16.ofInt i).toInt32 = v) {p' : Nat} (hp : pc + 3 = p') (kk : WX rv C p' lv (.int v :: st) h x) : WX rv C pc lv st h x := by
  subst hp
  exact fun ls hl r h' k n e H locs cells slots hI => lv_sipush hC.1 hC.2.1 hd hv (kk ls hl r h' k n e H locs cells slots hI)
theorem x_lconst {i : Fin 2} {v : Int64} (hC : OKC C y cc nL ret F L) (hd : decode cc pc = .ok (.lconst i, 1)) (hv : Int64.ofNat (i : Nat) = v) {p' : Nat} (hp : pc + 1 = p') (kk : WX rv C p' lv (.long v :: st) h x) : WX rv C pc lv st h x := by
  subst hp
  exact fun ls hl r h' k n e H locs cells slots hI => lv_lconst hC.1 hC.2.1 hd hv (kk ls hl r h' k n e H locs cells slots hI)
theorem x_ldc {i : Nat} {v : Int32} (hC : OKC C y cc nL ret F L) (hd : decode cc pc = .ok (.ldc i, 2)) (hw : Cond.constant y.cls i v ∈ LW) {p' : Nat} (hp : pc + 2 = p') (kk : WX rv C p' lv (.int v :: st) h x) : WX rv C pc lv st h x := by
  subst hp
  exact fun ls hl r h' k n e H locs cells slots hI => lv_ldc hC.1 hC.2.1 hC.2.2.2.1 (hC.2.2.2.2.1 _ hw) hd (kk ls hl r h' k n e H locs cells slots hI)
theorem x_ldc_w {i : Nat} {v : Int32} (hC : OKC C y cc nL ret F L) (hd : decode cc pc = .ok (.ldc_w i, 3)) (hw : Cond.constant y.cls i v ∈ LW) {p' : Nat} (hp : pc + 3 = p') (kk : WX rv C p' lv (.int v :: st) h x) : WX rv C pc lv st h x := by
  subst hp
  exact fun ls hl r h' k n e H locs cells slots hI => lv_ldcw hC.1 hC.2.1 hC.2.2.2.1 (hC.2.2.2.2.1 _ hw) hd (kk ls hl r h' k n e H locs cells slots hI)
theorem x_ldc2_w {i : Nat} {v : Int64} (hC : OKC C y cc nL ret F L) (hd : decode cc pc = .ok (.ldc2_w i, 3)) (hw : Cond.constantLong y.cls i v ∈ LW) {p' : Nat} (hp : pc + 3 = p') (kk : WX rv C p' lv (.long v :: st) h x) : WX rv C pc lv st h x := by
  subst hp
  exact fun ls hl r h' k n e H locs cells slots hI => lv_ldc2 hC.1 hC.2.1 hC.2.2.2.1 (hC.2.2.2.2.1 _ hw) hd (kk ls hl r h' k n e H locs cells slots hI)
theorem x_aconst_null (hC : OKC C y cc nL ret F L) (hd : decode cc pc = .ok (.aconst_null, 1)) {p' : Nat} (hp : pc + 1 = p') (kk : WX rv C p' lv (va_rf none :: st) h x) : WX rv C pc lv st h x := by
  subst hp
  exact fun ls hl r h' k n e H locs cells slots hI => lv_null hC.1 hC.2.1 hd (kk ls hl r h' k n e H locs cells slots hI)
theorem x_iload_n {i : Fin 4} {j : Nat} {v : Int32} (hC : OKC C y cc nL ret F L) (q : Nat) (hd : decode cc pc = .ok (.iload_n i, 1)) (hi : (i : Nat) = j) (hq : lv[q]? = some (j, .int v)) {p' : Nat} (hp : pc + 1 = p') (kk : WX rv C p' lv (.int v :: st) h x) : WX rv C pc lv st h x := by
  subst hp
  exact fun ls hl r h' k n e H locs cells slots hI => lv_iload_n hC.1 hC.2.1 hd hi (lv_at hl q hq) (kk ls hl r h' k n e H locs cells slots hI)
theorem x_iload {i : Nat} {v : Int32} (hC : OKC C y cc nL ret F L) (q : Nat) (hd : decode cc pc = .ok (.iload i, 2)) (hq : lv[q]? = some (i, .int v)) {p' : Nat} (hp : pc + 2 = p') (kk : WX rv C p' lv (.int v :: st) h x) : WX rv C pc lv st h x := by
  subst hp
  exact fun ls hl r h' k n e H locs cells slots hI => lv_iload hC.1 hC.2.1 hd (lv_at hl q hq) (kk ls hl r h' k n e H locs cells slots hI)
theorem x_lload_n {i : Fin 4} {j : Nat} {v : Int64} (hC : OKC C y cc nL ret F L) (q : Nat) (hd : decode cc pc = .ok (.lload_n i, 1)) (hi : (i : Nat) = j) (hq : lv[q]? = some (j, .long v)) {p' : Nat} (hp : pc + 1 = p') (kk : WX rv C p' lv (.long v :: st) h x) : WX rv C pc lv st h x := by
  subst hp
  exact fun ls hl r h' k n e H locs cells slots hI => lv_lload_n hC.1 hC.2.1 hd hi (lv_at hl q hq) (kk ls hl r h' k n e H locs cells slots hI)
theorem x_lload {i : Nat} {v : Int64} (hC : OKC C y cc nL ret F L) (q : Nat) (hd : decode cc pc = .ok (.lload i, 2)) (hq : lv[q]? = some (i, .long v)) {p' : Nat} (hp : pc + 2 = p') (kk : WX rv C p' lv (.long v :: st) h x) : WX rv C pc lv st h x := by
  subst hp
  exact fun ls hl r h' k n e H locs cells slots hI => lv_lload hC.1 hC.2.1 hd (lv_at hl q hq) (kk ls hl r h' k n e H locs cells slots hI)
theorem x_aload_n {i : Fin 4} {j : Nat} {v : Option Nat} (hC : OKC C y cc nL ret F L) (q : Nat) (hd : decode cc pc = .ok (.aload_n i, 1)) (hi : (i : Nat) = j) (hq : lv[q]? = some (j, va_rf v)) {p' : Nat} (hp : pc + 1 = p') (kk : WX rv C p' lv (va_rf v :: st) h x) : WX rv C pc lv st h x := by
  subst hp
  cases v with
  | none => exact fun ls hl r h' k n e H locs cells slots hI => lv_aload_nN hC.1 hC.2.1 hd hi (lv_at hl q hq) (kk ls hl r h' k n e H locs cells slots hI)
  | some a => exact fun ls hl r h' k n e H locs cells slots hI => lv_aload_n hC.1 hC.2.1 hd hi (lv_at hl q hq) (kk ls hl r h' k n e H locs cells slots hI)
theorem x_aload {i : Nat} {v : Option Nat} (hC : OKC C y cc nL ret F L) (q : Nat) (hd : decode cc pc = .ok (.aload i, 2)) (hq : lv[q]? = some (i, va_rf v)) {p' : Nat} (hp : pc + 2 = p') (kk : WX rv C p' lv (va_rf v :: st) h x) : WX rv C pc lv st h x := by
  subst hp
  cases v with
  | none => exact fun ls hl r h' k n e H locs cells slots hI => lv_aloadN hC.1 hC.2.1 hd (lv_at hl q hq) (kk ls hl r h' k n e H locs cells slots hI)
  | some a => exact fun ls hl r h' k n e H locs cells slots hI => lv_aload hC.1 hC.2.1 hd (lv_at hl q hq) (kk ls hl r h' k n e H locs cells slots hI)
theorem x_istore_n {i : Fin 4} {j : Nat} {v : Int32} {lv' : List (Nat × Value)} (hC : OKC C y cc nL ret F L) (hd : decode cc pc = .ok (.istore_n i, 1)) (hi : (i : Nat) = j) (hn : j < nL) (hl0 : (j, Value.int v) :: lv.filter (fun q => !(q.1 == j) && !(q.1 + 1 == j && q.2.category == 2)) = lv') {p' : Nat} (hp : pc + 1 = p') (kk : WX rv C p' lv' st h x) : WX rv C pc lv (.int v :: st) h x := by
  subst hp
  exact fun ls hl r h' k n e H locs cells slots hI => lv_istore_n hC.1 hC.2.1 hd hi (by rw [← hC.2.2.1]; exact hl) hn hl0 (fun ls' hl' => kk ls' (by rw [hC.2.2.1]; exact hl') r h' k n e H locs cells slots hI)
theorem x_istore {i : Nat} {v : Int32} {lv' : List (Nat × Value)} (hC : OKC C y cc nL ret F L) (hd : decode cc pc = .ok (.istore i, 2)) (hn : i < nL) (hl0 : (i, Value.int v) :: lv.filter (fun q => !(q.1 == i) && !(q.1 + 1 == i && q.2.category == 2)) = lv') {p' : Nat} (hp : pc + 2 = p') (kk : WX rv C p' lv' st h x) : WX rv C pc lv (.int v :: st) h x := by
  subst hp
  exact fun ls hl r h' k n e H locs cells slots hI => lv_istore hC.1 hC.2.1 hd (by rw [← hC.2.2.1]; exact hl) hn hl0 (fun ls' hl' => kk ls' (by rw [hC.2.2.1]; exact hl') r h' k n e H locs cells slots hI)
theorem x_astore_n {i : Fin 4} {j : Nat} {v : Option Nat} {lv' : List (Nat × Value)} (hC : OKC C y cc nL ret F L) (hd : decode cc pc = .ok (.astore_n i, 1)) (hi : (i : Nat) = j) (hn : j < nL) (hl0 : (j, va_rf v) :: lv.filter (fun q => !(q.1 == j) && !(q.1 + 1 == j && q.2.category == 2)) = lv') {p' : Nat} (hp : pc + 1 = p') (kk : WX rv C p' lv' st h x) : WX rv C pc lv (va_rf v :: st) h x := by
  subst hp
  cases v with
  | none => exact fun ls hl r h' k n e H locs cells slots hI => lv_astore_nN hC.1 hC.2.1 hd hi (by rw [← hC.2.2.1]; exact hl) hn hl0 (fun ls' hl' => kk ls' (by rw [hC.2.2.1]; exact hl') r h' k n e H locs cells slots hI)
  | some a => exact fun ls hl r h' k n e H locs cells slots hI => lv_astore_n hC.1 hC.2.1 hd hi (by rw [← hC.2.2.1]; exact hl) hn hl0 (fun ls' hl' => kk ls' (by rw [hC.2.2.1]; exact hl') r h' k n e H locs cells slots hI)
theorem x_astore {i : Nat} {v : Option Nat} {lv' : List (Nat × Value)} (hC : OKC C y cc nL ret F L) (hd : decode cc pc = .ok (.astore i, 2)) (hn : i < nL) (hl0 : (i, va_rf v) :: lv.filter (fun q => !(q.1 == i) && !(q.1 + 1 == i && q.2.category == 2)) = lv') {p' : Nat} (hp : pc + 2 = p') (kk : WX rv C p' lv' st h x) : WX rv C pc lv (va_rf v :: st) h x := by
  subst hp
  cases v with
  | none => exact fun ls hl r h' k n e H locs cells slots hI => lv_astoreN hC.1 hC.2.1 hd (by rw [← hC.2.2.1]; exact hl) hn hl0 (fun ls' hl' => kk ls' (by rw [hC.2.2.1]; exact hl') r h' k n e H locs cells slots hI)
  | some a => exact fun ls hl r h' k n e H locs cells slots hI => lv_astore hC.1 hC.2.1 hd (by rw [← hC.2.2.1]; exact hl) hn hl0 (fun ls' hl' => kk ls' (by rw [hC.2.2.1]; exact hl') r h' k n e H locs cells slots hI)
theorem x_iinc {i : Nat} {d : Int} {v w : Int32} {lv' : List (Nat × Value)} (hC : OKC C y cc nL ret F L) (q : Nat) (hd : decode cc pc = .ok (.iinc i d, 3)) (hq : lv[q]? = some (i, .int v)) (hv : v + Int32.ofInt d = w) (hn : i < nL) (hl0 : (i, Value.int w) :: lv.filter (fun q => !(q.1 == i) && !(q.1 + 1 == i && q.2.category == 2)) = lv') {p' : Nat} (hp : pc + 3 = p') (kk : WX rv C p' lv' st h x) : WX rv C pc lv st h x := by
  subst hp
  exact fun ls hl r h' k n e H locs cells slots hI => lv_iinc hC.1 hC.2.1 hd (by rw [← hC.2.2.1]; exact hl) hq hv hn hl0 (fun ls' hl' => kk ls' (by rw [hC.2.2.1]; exact hl') r h' k n e H locs cells slots hI)
theorem x_iadd {a b : Int32} (hC : OKC C y cc nL ret F L) (hd : decode cc pc = .ok (.iadd, 1)) {p' : Nat} (hp : pc + 1 = p') (kk : WX rv C p' lv (.int (a + b) :: st) h x) : WX rv C pc lv (.int b :: .int a :: st) h x := by
  subst hp
  exact fun ls hl r h' k n e H locs cells slots hI => lv_iadd hC.1 hC.2.1 hd (kk ls hl r h' k n e H locs cells slots hI)
theorem x_isub {a b : Int32} (hC : OKC C y cc nL ret F L) (hd : decode cc pc = .ok (.isub, 1)) {p' : Nat} (hp : pc + 1 = p') (kk : WX rv C p' lv (.int (a - b) :: st) h x) : WX rv C pc lv (.int b :: .int a :: st) h x := by
  subst hp
  exact fun ls hl r h' k n e H locs cells slots hI => lv_isub hC.1 hC.2.1 hd (kk ls hl r h' k n e H locs cells slots hI)
theorem x_imul {a b : Int32} (hC : OKC C y cc nL ret F L) (hd : decode cc pc = .ok (.imul, 1)) {p' : Nat} (hp : pc + 1 = p') (kk : WX rv C p' lv (.int (a * b) :: st) h x) : WX rv C pc lv (.int b :: .int a :: st) h x := by
  subst hp
  exact fun ls hl r h' k n e H locs cells slots hI => lv_imul hC.1 hC.2.1 hd (kk ls hl r h' k n e H locs cells slots hI)
theorem x_iand {a b : Int32} (hC : OKC C y cc nL ret F L) (hd : decode cc pc = .ok (.iand, 1)) {p' : Nat} (hp : pc + 1 = p') (kk : WX rv C p' lv (.int (a &&& b) :: st) h x) : WX rv C pc lv (.int b :: .int a :: st) h x := by
  subst hp
  exact fun ls hl r h' k n e H locs cells slots hI => lv_iand hC.1 hC.2.1 hd (kk ls hl r h' k n e H locs cells slots hI)
theorem x_ladd {a b : Int64} (hC : OKC C y cc nL ret F L) (hd : decode cc pc = .ok (.ladd, 1)) {p' : Nat} (hp : pc + 1 = p') (kk : WX rv C p' lv (.long (a + b) :: st) h x) : WX rv C pc lv (.long b :: .long a :: st) h x := by
  subst hp
  exact fun ls hl r h' k n e H locs cells slots hI => lv_ladd hC.1 hC.2.1 hd (kk ls hl r h' k n e H locs cells slots hI)
theorem x_lcmp {a b : Int64} (hC : OKC C y cc nL ret F L) (hd : decode cc pc = .ok (.lcmp, 1)) {p' : Nat} (hp : pc + 1 = p') (kk : WX rv C p' lv (.int (lg_cmp a b) :: st) h x) : WX rv C pc lv (.long b :: .long a :: st) h x := by
  subst hp
  exact fun ls hl r h' k n e H locs cells slots hI => W.lcmp hC.1 hC.2.1 hd (kk ls hl r h' k n e H locs cells slots hI)
theorem x_idiv {a b : Int32} (hC : OKC C y cc nL ret F L) (hd : decode cc pc = .ok (.idiv, 1)) {p' : Nat} (hp : pc + 1 = p') (kk : WX rv C p' lv (.int (a / b) :: st) h x) : WX rv C pc lv (.int b :: .int a :: st) h (if b = 0 then none else x) := by
  subst hp
  intro ls hl r h' k n e
  by_cases hb : b = 0
  · rw [if_pos hb] at e; cases e
  · rw [if_neg hb] at e
    exact fun H locs cells slots hI => lv_idiv hC.1 hC.2.1 hd hb (kk ls hl r h' k n e H locs cells slots hI)
theorem x_irem {a b : Int32} (hC : OKC C y cc nL ret F L) (hd : decode cc pc = .ok (.irem, 1)) {p' : Nat} (hp : pc + 1 = p') (kk : WX rv C p' lv (.int (a - a / b * b) :: st) h x) : WX rv C pc lv (.int b :: .int a :: st) h (if b = 0 then none else x) := by
  subst hp
  intro ls hl r h' k n e
  by_cases hb : b = 0
  · rw [if_pos hb] at e; cases e
  · rw [if_neg hb] at e
    exact fun H locs cells slots hI => lv_irem hC.1 hC.2.1 hd hb (kk ls hl r h' k n e H locs cells slots hI)
theorem x_i2l {a : Int32} (hC : OKC C y cc nL ret F L) (hd : decode cc pc = .ok (.i2l, 1)) {p' : Nat} (hp : pc + 1 = p') (kk : WX rv C p' lv (.long a.toInt64 :: st) h x) : WX rv C pc lv (.int a :: st) h x := by
  subst hp
  exact fun ls hl r h' k n e H locs cells slots hI => lv_i2l hC.1 hC.2.1 hd rfl (kk ls hl r h' k n e H locs cells slots hI)
theorem x_i2b {a : Int32} (hC : OKC C y cc nL ret F L) (hd : decode cc pc = .ok (.i2b, 1)) {p' : Nat} (hp : pc + 1 = p') (kk : WX rv C p' lv (.int a.toInt8.toInt32 :: st) h x) : WX rv C pc lv (.int a :: st) h x := by
  subst hp
  exact fun ls hl r h' k n e H locs cells slots hI => lv_i2b hC.1 hC.2.1 hd rfl (kk ls hl r h' k n e H locs cells slots hI)
theorem x_i2s {a : Int32} (hC : OKC C y cc nL ret F L) (hd : decode cc pc = .ok (.i2s, 1)) {p' : Nat} (hp : pc + 1 = p') (kk : WX rv C p' lv (.int a.toInt16.toInt32 :: st) h x) : WX rv C pc lv (.int a :: st) h x := by
  subst hp
  exact fun ls hl r h' k n e H locs cells slots hI => lv_i2s hC.1 hC.2.1 hd rfl (kk ls hl r h' k n e H locs cells slots hI)
theorem x_cat (r : Option Nat) : (va_rf r).category = 1 := by cases r <;> rfl
theorem x_dup {v : Value} (hC : OKC C y cc nL ret F L) (hd : decode cc pc = .ok (.dup, 1)) (hv : v.category = 1) {p' : Nat} (hp : pc + 1 = p') (kk : WX rv C p' lv (v :: v :: st) h x) : WX rv C pc lv (v :: st) h x := by
  subst hp
  exact fun ls hl r h' k n e H locs cells slots hI => lv_dup hC.1 hC.2.1 hd hv (kk ls hl r h' k n e H locs cells slots hI)
theorem x_dup2 {v w : Value} (hC : OKC C y cc nL ret F L) (hd : decode cc pc = .ok (.dup2, 1)) (hv : v.category = 1) (hw : w.category = 1) {p' : Nat} (hp : pc + 1 = p') (kk : WX rv C p' lv (v :: w :: v :: w :: st) h x) : WX rv C pc lv (v :: w :: st) h x := by
  subst hp
  exact fun ls hl r h' k n e H locs cells slots hI => lv_dup2_11 hC.1 hC.2.1 hd hv hw (kk ls hl r h' k n e H locs cells slots hI)
theorem x_pop {v : Value} (hC : OKC C y cc nL ret F L) (hd : decode cc pc = .ok (.pop, 1)) (hv : v.category = 1) {p' : Nat} (hp : pc + 1 = p') (kk : WX rv C p' lv st h x) : WX rv C pc lv (v :: st) h x := by
  subst hp
  exact fun ls hl r h' k n e H locs cells slots hI => lv_pop hC.1 hC.2.1 hd hv (kk ls hl r h' k n e H locs cells slots hI)
theorem x_if_eq {a : Int32} {off : Int} {tgt : Nat} {x1 x2 : RX ρ} (hC : OKC C y cc nL ret F L) (hd : decode cc pc = .ok (.ifCond .eq off, 3)) (ht : (pc : Int) + off = (tgt : Int)) {p' : Nat} (hp : pc + 3 = p') (k1 : WX rv C tgt lv st h x1) (k2 : WX rv C p' lv st h x2) : WX rv C pc lv (.int a :: st) h (if a = 0 then x1 else x2) := by
  subst hp
  exact fun ls hl r h' k n e H locs cells slots hI => lv_if_eq hC.1 hC.2.1 hd ht (fun q => k1 ls hl r h' k n (by rw [if_pos q] at e; exact e) H locs cells slots hI) (fun q => k2 ls hl r h' k n (by rw [if_neg q] at e; exact e) H locs cells slots hI)
theorem x_if_ne {a : Int32} {off : Int} {tgt : Nat} {x1 x2 : RX ρ} (hC : OKC C y cc nL ret F L) (hd : decode cc pc = .ok (.ifCond .ne off, 3)) (ht : (pc : Int) + off = (tgt : Int)) {p' : Nat} (hp : pc + 3 = p') (k1 : WX rv C tgt lv st h x1) (k2 : WX rv C p' lv st h x2) : WX rv C pc lv (.int a :: st) h (if a = 0 then x2 else x1) := by
  subst hp
  exact fun ls hl r h' k n e H locs cells slots hI => lv_if_ne hC.1 hC.2.1 hd ht (fun q => k1 ls hl r h' k n (by rw [if_neg q] at e; exact e) H locs cells slots hI) (fun q => k2 ls hl r h' k n (by rw [if_pos q] at e; exact e) H locs cells slots hI)
theorem x_if_lt {a : Int32} {off : Int} {tgt : Nat} {x1 x2 : RX ρ} (hC : OKC C y cc nL ret F L) (hd : decode cc pc = .ok (.ifCond .lt off, 3)) (ht : (pc : Int) + off = (tgt : Int)) {p' : Nat} (hp : pc + 3 = p') (k1 : WX rv C tgt lv st h x1) (k2 : WX rv C p' lv st h x2) : WX rv C pc lv (.int a :: st) h (if a < 0 then x1 else x2) := by
  subst hp
  exact fun ls hl r h' k n e H locs cells slots hI => lv_if_lt hC.1 hC.2.1 hd ht (fun q => k1 ls hl r h' k n (by rw [if_pos q] at e; exact e) H locs cells slots hI) (fun q => k2 ls hl r h' k n (by rw [if_neg q] at e; exact e) H locs cells slots hI)
theorem x_if_ge {a : Int32} {off : Int} {tgt : Nat} {x1 x2 : RX ρ} (hC : OKC C y cc nL ret F L) (hd : decode cc pc = .ok (.ifCond .ge off, 3)) (ht : (pc : Int) + off = (tgt : Int)) {p' : Nat} (hp : pc + 3 = p') (k1 : WX rv C tgt lv st h x1) (k2 : WX rv C p' lv st h x2) : WX rv C pc lv (.int a :: st) h (if 0 ≤ a then x1 else x2) := by
  subst hp
  exact fun ls hl r h' k n e H locs cells slots hI => lv_if_ge hC.1 hC.2.1 hd ht (fun q => k1 ls hl r h' k n (by rw [if_pos q] at e; exact e) H locs cells slots hI) (fun q => k2 ls hl r h' k n (by rw [if_neg q] at e; exact e) H locs cells slots hI)
theorem x_if_gt {a : Int32} {off : Int} {tgt : Nat} {x1 x2 : RX ρ} (hC : OKC C y cc nL ret F L) (hd : decode cc pc = .ok (.ifCond .gt off, 3)) (ht : (pc : Int) + off = (tgt : Int)) {p' : Nat} (hp : pc + 3 = p') (k1 : WX rv C tgt lv st h x1) (k2 : WX rv C p' lv st h x2) : WX rv C pc lv (.int a :: st) h (if 0 < a then x1 else x2) := by
  subst hp
  exact fun ls hl r h' k n e H locs cells slots hI => lv_if_gt hC.1 hC.2.1 hd ht (fun q => k1 ls hl r h' k n (by rw [if_pos q] at e; exact e) H locs cells slots hI) (fun q => k2 ls hl r h' k n (by rw [if_neg q] at e; exact e) H locs cells slots hI)
theorem x_if_le {a : Int32} {off : Int} {tgt : Nat} {x1 x2 : RX ρ} (hC : OKC C y cc nL ret F L) (hd : decode cc pc = .ok (.ifCond .le off, 3)) (ht : (pc : Int) + off = (tgt : Int)) {p' : Nat} (hp : pc + 3 = p') (k1 : WX rv C tgt lv st h x1) (k2 : WX rv C p' lv st h x2) : WX rv C pc lv (.int a :: st) h (if a ≤ 0 then x1 else x2) := by
  subst hp
  exact fun ls hl r h' k n e H locs cells slots hI => lv_if_le hC.1 hC.2.1 hd ht (fun q => k1 ls hl r h' k n (by rw [if_pos q] at e; exact e) H locs cells slots hI) (fun q => k2 ls hl r h' k n (by rw [if_neg q] at e; exact e) H locs cells slots hI)
theorem x_icmp_eq {a b : Int32} {off : Int} {tgt : Nat} {x1 x2 : RX ρ} (hC : OKC C y cc nL ret F L) (hd : decode cc pc = .ok (.if_icmp .eq off, 3)) (ht : (pc : Int) + off = (tgt : Int)) {p' : Nat} (hp : pc + 3 = p') (k1 : WX rv C tgt lv st h x1) (k2 : WX rv C p' lv st h x2) : WX rv C pc lv (.int b :: .int a :: st) h (if a = b then x1 else x2) := by
  subst hp
  exact fun ls hl r h' k n e H locs cells slots hI => lv_icmp_eq hC.1 hC.2.1 hd ht (fun q => k1 ls hl r h' k n (by rw [if_pos q] at e; exact e) H locs cells slots hI) (fun q => k2 ls hl r h' k n (by rw [if_neg q] at e; exact e) H locs cells slots hI)
theorem x_icmp_ne {a b : Int32} {off : Int} {tgt : Nat} {x1 x2 : RX ρ} (hC : OKC C y cc nL ret F L) (hd : decode cc pc = .ok (.if_icmp .ne off, 3)) (ht : (pc : Int) + off = (tgt : Int)) {p' : Nat} (hp : pc + 3 = p') (k1 : WX rv C tgt lv st h x1) (k2 : WX rv C p' lv st h x2) : WX rv C pc lv (.int b :: .int a :: st) h (if a = b then x2 else x1) := by
  subst hp
  exact fun ls hl r h' k n e H locs cells slots hI => lv_icmp_ne hC.1 hC.2.1 hd ht (fun q => k1 ls hl r h' k n (by rw [if_neg q] at e; exact e) H locs cells slots hI) (fun q => k2 ls hl r h' k n (by rw [if_pos q] at e; exact e) H locs cells slots hI)
theorem x_icmp_lt {a b : Int32} {off : Int} {tgt : Nat} {x1 x2 : RX ρ} (hC : OKC C y cc nL ret F L) (hd : decode cc pc = .ok (.if_icmp .lt off, 3)) (ht : (pc : Int) + off = (tgt : Int)) {p' : Nat} (hp : pc + 3 = p') (k1 : WX rv C tgt lv st h x1) (k2 : WX rv C p' lv st h x2) : WX rv C pc lv (.int b :: .int a :: st) h (if a < b then x1 else x2) := by
  subst hp
  exact fun ls hl r h' k n e H locs cells slots hI => lv_icmp_lt hC.1 hC.2.1 hd ht (fun q => k1 ls hl r h' k n (by rw [if_pos q] at e; exact e) H locs cells slots hI) (fun q => k2 ls hl r h' k n (by rw [if_neg q] at e; exact e) H locs cells slots hI)
theorem x_icmp_ge {a b : Int32} {off : Int} {tgt : Nat} {x1 x2 : RX ρ} (hC : OKC C y cc nL ret F L) (hd : decode cc pc = .ok (.if_icmp .ge off, 3)) (ht : (pc : Int) + off = (tgt : Int)) {p' : Nat} (hp : pc + 3 = p') (k1 : WX rv C tgt lv st h x1) (k2 : WX rv C p' lv st h x2) : WX rv C pc lv (.int b :: .int a :: st) h (if b ≤ a then x1 else x2) := by
  subst hp
  exact fun ls hl r h' k n e H locs cells slots hI => lv_icmp_ge hC.1 hC.2.1 hd ht (fun q => k1 ls hl r h' k n (by rw [if_pos q] at e; exact e) H locs cells slots hI) (fun q => k2 ls hl r h' k n (by rw [if_neg q] at e; exact e) H locs cells slots hI)
theorem x_icmp_gt {a b : Int32} {off : Int} {tgt : Nat} {x1 x2 : RX ρ} (hC : OKC C y cc nL ret F L) (hd : decode cc pc = .ok (.if_icmp .gt off, 3)) (ht : (pc : Int) + off = (tgt : Int)) {p' : Nat} (hp : pc + 3 = p') (k1 : WX rv C tgt lv st h x1) (k2 : WX rv C p' lv st h x2) : WX rv C pc lv (.int b :: .int a :: st) h (if b < a then x1 else x2) := by
  subst hp
  exact fun ls hl r h' k n e H locs cells slots hI => lv_icmp_gt hC.1 hC.2.1 hd ht (fun q => k1 ls hl r h' k n (by rw [if_pos q] at e; exact e) H locs cells slots hI) (fun q => k2 ls hl r h' k n (by rw [if_neg q] at e; exact e) H locs cells slots hI)
theorem x_icmp_le {a b : Int32} {off : Int} {tgt : Nat} {x1 x2 : RX ρ} (hC : OKC C y cc nL ret F L) (hd : decode cc pc = .ok (.if_icmp .le off, 3)) (ht : (pc : Int) + off = (tgt : Int)) {p' : Nat} (hp : pc + 3 = p') (k1 : WX rv C tgt lv st h x1) (k2 : WX rv C p' lv st h x2) : WX rv C pc lv (.int b :: .int a :: st) h (if a ≤ b then x1 else x2) := by
  subst hp
  exact fun ls hl r h' k n e H locs cells slots hI => lv_icmp_le hC.1 hC.2.1 hd ht (fun q => k1 ls hl r h' k n (by rw [if_pos q] at e; exact e) H locs cells slots hI) (fun q => k2 ls hl r h' k n (by rw [if_neg q] at e; exact e) H locs cells slots hI)
theorem x_goto {off : Int} {tgt : Nat} (hC : OKC C y cc nL ret F L) (hd : decode cc pc = .ok (.goto off, 3)) (ht : (pc : Int) + off = (tgt : Int)) (kk : WX rv C tgt lv st h x) : WX rv C pc lv st h x := fun ls hl r h' k n e H locs cells slots hI => lv_goto hC.1 hC.2.1 hd ht (kk ls hl r h' k n e H locs cells slots hI)
def nn {α β : Type} (r : Option α) (z : Option β) (f : α → Option β) : Option β := match r with | none => z | some a => f a
theorem x_ifnull {v : Option Nat} {off : Int} {tgt : Nat} {x1 : RX ρ} {f : Nat → RX ρ} (hC : OKC C y cc nL ret F L) (hd : decode cc pc = .ok (.ifnull off, 3)) (ht : (pc : Int) + off = (tgt : Int)) {p' : Nat} (hp : pc + 3 = p') (k1 : v = none → WX rv C tgt lv st h x1) (k2 : ∀ a, v = some a → WX rv C p' lv st h (f a)) : WX rv C pc lv (va_rf v :: st) h (nn v x1 f) := by
  subst hp
  cases v with
  | none => exact fun ls hl r h' k n e H locs cells slots hI => lv_ifnullN hC.1 hC.2.1 hd ht (k1 rfl ls hl r h' k n e H locs cells slots hI)
  | some a => exact fun ls hl r h' k n e H locs cells slots hI => lv_ifnull hC.1 hC.2.1 hd (k2 a rfl ls hl r h' k n e H locs cells slots hI)
theorem x_ifnonnull {v : Option Nat} {off : Int} {tgt : Nat} {x1 : RX ρ} {f : Nat → RX ρ} (hC : OKC C y cc nL ret F L) (hd : decode cc pc = .ok (.ifnonnull off, 3)) (ht : (pc : Int) + off = (tgt : Int)) {p' : Nat} (hp : pc + 3 = p') (k2 : ∀ a, v = some a → WX rv C tgt lv st h (f a)) (k1 : v = none → WX rv C p' lv st h x1) : WX rv C pc lv (va_rf v :: st) h (nn v x1 f) := by
  subst hp
  cases v with
  | none => exact fun ls hl r h' k n e H locs cells slots hI => lv_ifnonnullN hC.1 hC.2.1 hd (k1 rfl ls hl r h' k n e H locs cells slots hI)
  | some a => exact fun ls hl r h' k n e H locs cells slots hI => lv_ifnonnull hC.1 hC.2.1 hd ht (k2 a rfl ls hl r h' k n e H locs cells slots hI)
theorem x_switch_out {dflt lo hi : Int} {offs : Array Int} {len : Nat} {a : Int32} {tgt : Nat} (hC : OKC C y cc nL ret F L) (hd : decode cc pc = .ok (.tableswitch dflt lo hi offs, len)) (hq : a.toInt < lo ∨ hi < a.toInt) (ht : (pc : Int) + dflt = (tgt : Int)) (kk : WX rv C tgt lv st h x) : WX rv C pc lv (.int a :: st) h x := fun ls hl r h' k n e H locs cells slots hI => lv_tableOut hC.1 hC.2.1 hd hq ht (kk ls hl r h' k n e H locs cells slots hI)
theorem x_switch_in {dflt lo hi : Int} {offs : Array Int} {len : Nat} {a : Int32} {off : Int} {tgt : Nat} (hC : OKC C y cc nL ret F L) (hd : decode cc pc = .ok (.tableswitch dflt lo hi offs, len)) (h1 : ¬ a.toInt < lo) (h2 : ¬ hi < a.toInt) (ho : offs[(a.toInt - lo).toNat]? = some off) (ht : (pc : Int) + off = (tgt : Int)) (kk : WX rv C tgt lv st h x) : WX rv C pc lv (.int a :: st) h x := fun ls hl r h' k n e H locs cells slots hI => lv_tableIn hC.1 hC.2.1 hd h1 h2 ho ht (kk ls hl r h' k n e H locs cells slots hI)
theorem x_case {a : Int32} {x1 x2 : RX ρ} (c : Int32) (k1 : a = c → WX rv C pc lv st h x1) (k2 : ¬ a = c → WX rv C pc lv st h x2) : WX rv C pc lv st h (if a = c then x1 else x2) := by
  by_cases q : a = c
  · rw [if_pos q]; exact k1 q
  · rw [if_neg q]; exact k2 q
-- the heap
theorem a_at.kept {D : va_G} {cy : Nat → ClassId} {h h2 : AH} {a : Nat} {H H1 : Heap} (g : a_at D cy h a H) (hq : H1[a]? = H[a]?) (e1 : a_kd h2 a = a_kd h a) (e2 : a_ln h2 a = a_ln h a) (e3 : a_gi h2 a = a_gi h a) (e4 : a_gr h2 a = a_gr h a) : a_at D cy h2 a H1 := by
  unfold a_at at g ⊢
  have eV : a_V h2 a = a_V h a := by funext j; simp [a_V, e1, e3, e4]
  rw [e1, e2, e3, e4, eV]
  split
  · rename_i h1
    rw [if_pos h1] at g
    exact g.kept hq
  · rename_i h1
    rw [if_neg h1] at g
    split
    · rename_i h2
      rw [if_pos h2] at g
      rw [hq]; exact g
    · rename_i h2
      rw [if_neg h2] at g
      rw [hq]; exact g
theorem a_at.lt {D : va_G} {cy : Nat → ClassId} {h : AH} {a : Nat} {H : Heap} (g : a_at D cy h a H) : a < H.size := by
  unfold a_at at g
  split at g
  · obtain ⟨cell, h2, -⟩ := g
    exact (Array.getElem?_eq_some_iff.mp h2).1
  · split at g
    · exact (Array.getElem?_eq_some_iff.mp g).1
    · exact (Array.getElem?_eq_some_iff.mp g).1
theorem a_at.obj {D : va_G} {cy : Nat → ClassId} {h : AH} {a ci : Nat} {H : Heap} (g : a_at D cy h a H) (hk : a_kd h a = ci + 1) (h11 : ci + 1 ≤ 11) : t_OB a (D.1 ci) (a_sg (ci + 1)).length (D.2 ci) H (a_V h a) := by
  unfold a_at at g
  rw [hk, if_pos h11] at g
  exact g
theorem a_at.int {D : va_G} {cy : Nat → ClassId} {h : AH} {a k : Nat} {H : Heap} (g : a_at D cy h a H) (hk : a_kd h a = k) (h11 : ¬ k ≤ 11) (h13 : k ≤ 13) : H[a]? = some (arrV (cy k) (a_ln h a) (fun j => .int (a_gi h a j))) := by
  unfold a_at at g
  rw [hk, if_neg h11, if_pos h13] at g
  exact g
theorem a_at.ref {D : va_G} {cy : Nat → ClassId} {h : AH} {a k : Nat} {H : Heap} (g : a_at D cy h a H) (hk : a_kd h a = k) (h13 : ¬ k ≤ 13) : H[a]? = some (arrV (cy k) (a_ln h a) (fun j => va_rf (a_gr h a j))) := by
  unfold a_at at g
  rw [hk, if_neg (by omega), if_neg h13] at g
  exact g
theorem va_up_at {α : Type} (f : Nat → α) (k : Nat) (v : α) : va_up f k v k = v := by simp [va_up]
theorem va_up_off {α : Type} (f : Nat → α) {k j : Nat} (v : α) (hj : j ≠ k) : va_up f k v j = f j := by simp [va_up, hj]
theorem hb_si {D : va_G} {cy : Nat → ClassId} {h : AH} {H H1 : Heap} {a : Nat} {f : Nat → Int32} (hB : HB D cy h H) (hz : H1.size = H.size) (ho : ∀ q, q ≠ a → H1[q]? = H[q]?) (ha : a_kd h a ≠ 0 → a_at D cy (a_si h a f) a H1) : HB D cy (a_si h a f) H1 := by
  refine ⟨hz.trans hB.1, fun b hb => ?_⟩
  by_cases q : b = a
  · subst q; exact ha hb
  · exact (hB.2 b hb).kept (ho b q) rfl rfl (va_up_off _ _ q) rfl
theorem hb_sr {D : va_G} {cy : Nat → ClassId} {h : AH} {H H1 : Heap} {a : Nat} {f : Nat → Option Nat} (hB : HB D cy h H) (hz : H1.size = H.size) (ho : ∀ q, q ≠ a → H1[q]? = H[q]?) (ha : a_kd h a ≠ 0 → a_at D cy (a_sr h a f) a H1) : HB D cy (a_sr h a f) H1 := by
  refine ⟨hz.trans hB.1, fun b hb => ?_⟩
  by_cases q : b = a
  · subst q; exact ha hb
  · exact (hB.2 b hb).kept (ho b q) rfl rfl rfl (va_up_off _ _ q)
theorem hb_mk {D : va_G} {cy : Nat → ClassId} {h : AH} {H H1 : Heap} {k n : Nat} (hB : HB D cy h H) (hz : H1.size = H.size + 1) (ho : ∀ q, q < H.size → H1[q]? = H[q]?) (ha : a_at D cy (a_mk h k n) (a_nx h) H1) : HB D cy (a_mk h k n) H1 := by
  refine ⟨by rw [hz, hB.1]; rfl, fun b hb => ?_⟩
  by_cases q : b = a_nx h
  · subst q; exact ha
  · have hb' : a_kd h b ≠ 0 := by
      intro z; apply hb
      exact (va_up_off _ _ q).trans z
    have hlt := (hB.2 b hb').lt
    exact (hB.2 b hb').kept (ho b hlt) (va_up_off _ _ q) (va_up_off _ _ q) (va_up_off _ _ q) (va_up_off _ _ q)
-- getfield
def gI {β : Type} (h : AH) (r : Option Nat) (k j : Nat) (f : Int32 → Option β) : Option β := match r with | none => none | some a => if a_kd h a = k then f (a_gi h a j) else none
def gR {β : Type} (h : AH) (r : Option Nat) (k j : Nat) (f : Option Nat → Option β) : Option β := match r with | none => none | some a => if a_kd h a = k then f (a_gr h a j) else none
def pI {β : Type} (h : AH) (r : Option Nat) (k j : Nat) (v : Int32) (f : AH → Option β) : Option β := match r with | none => none | some a => if a_kd h a = k then f (a_pi h a j v) else none
def pZ {β : Type} (h : AH) (r : Option Nat) (k j : Nat) (v : Int32) (f : AH → Option β) : Option β := match r with | none => none | some a => if a_kd h a = k then (if v = 0 ∨ v = 1 then f (a_pi h a j v) else none) else none
def pR {β : Type} (h : AH) (r : Option Nat) (k j : Nat) (v : Option Nat) (f : AH → Option β) : Option β := match r with | none => none | some a => if a_kd h a = k then f (a_pr h a j v) else none
/-- the words and the place of a field of a class -/
def FK (own : String) (ci : Nat) (Cn : String) (T : u_T) (N fk index : Nat) : Prop := (∀ w ∈ u_ws Cn T N, w ∈ LW) ∧ vwCl[ci]? = some (Cn, T, N) ∧ fk < N ∧ (a_sg (ci + 1)).length = N ∧ ci + 1 ≤ 11 ∧ Cond.fieldLink own index (T fk).1 (T fk).2.1 (T fk).2.2.1 ∈ LW
theorem x_getv {ci fk index N : Nat} {Cn : String} {T : u_T} {a : Nat} {v : Value} (hC : OKC C y cc nL ret F L) (hF : FK y.cls ci Cn T N fk index) (hd : decode cc pc = .ok (.getfield index, 3)) (hk : a_kd h a = ci + 1) (hv : a_V h a fk = v) (kk : WX rv C (pc + 3) lv (v :: st) h x) : WX rv C pc lv (.ref a :: st) h x := by
  obtain ⟨hin, hc, hfk, hN, h11, hw⟩ := hF
  intro ls hl r h' k n e H locs cells slots hI
  have hat := (hI.1.2 a (by rw [hk]; omega)).obj hk h11
  have hP : va_P (c_D C) vwCl [(a, .inr (ci, (List.range N).map (a_V h a)))] H := by
    intro k0 q hq
    have h0 : k0 < 1 := (List.getElem?_eq_some_iff.mp hq).1
    rw [show k0 = 0 by omega] at hq
    cases hq
    refine ⟨_, hc, ?_⟩
    rw [hN] at hat
    exact hat.to (fun j hj => by simp [vp_V, hj])
  exact va_get (D := c_D C) (ci := ci) (v := v) (C := Cn) (T := T) (N := N) hC.1 hC.2.1 hC.2.2.2.2.1 hin hC.2.2.2.1 hC.2.2.2.2.2.1.1 hP 0 rfl hc fk hfk (hC.2.2.2.2.1 _ hw) (fun _ h9 => h9) (by simp [hfk, hv]) hd (kk ls hl r h' k n e H locs cells slots hI)
theorem x_getI {ci fk index N : Nat} {Cn : String} {T : u_T} {q : Option Nat} {f : Int32 → RX ρ} (hC : OKC C y cc nL ret F L) (hF : FK y.cls ci Cn T N fk index) (hs : (a_sg (ci + 1)).getD fk false = false) (hd : decode cc pc = .ok (.getfield index, 3)) {p' : Nat} (hp : pc + 3 = p') (kk : ∀ v, WX rv C p' lv (.int v :: st) h (f v)) : WX rv C pc lv (va_rf q :: st) h (gI h q (ci + 1) fk f) := by
  subst hp
  cases q with
  | none => exact x_none
  | some a =>
    show WX rv C pc lv _ h (if a_kd h a = ci + 1 then f (a_gi h a fk) else none)
    by_cases hk : a_kd h a = ci + 1
    · rw [if_pos hk]
      exact x_getv hC hF hd hk (v := .int (a_gi h a fk)) (by unfold a_V; rw [hk, hs]; rfl) (kk _)
    · rw [if_neg hk]; exact x_none
theorem x_getR {ci fk index N : Nat} {Cn : String} {T : u_T} {q : Option Nat} {f : Option Nat → RX ρ} (hC : OKC C y cc nL ret F L) (hF : FK y.cls ci Cn T N fk index) (hs : (a_sg (ci + 1)).getD fk false = true) (hd : decode cc pc = .ok (.getfield index, 3)) {p' : Nat} (hp : pc + 3 = p') (kk : ∀ v, WX rv C p' lv (va_rf v :: st) h (f v)) : WX rv C pc lv (va_rf q :: st) h (gR h q (ci + 1) fk f) := by
  subst hp
  cases q with
  | none => exact x_none
  | some a =>
    show WX rv C pc lv _ h (if a_kd h a = ci + 1 then f (a_gr h a fk) else none)
    by_cases hk : a_kd h a = ci + 1
    · rw [if_pos hk]
      exact x_getv hC hF hd hk (v := va_rf (a_gr h a fk)) (by unfold a_V; rw [hk, hs]; rfl) (kk _)
    · rw [if_neg hk]; exact x_none
-- putfield
theorem x_putv {ci fk index N : Nat} {Cn : String} {T : u_T} {a : Nat} {v : Value} {h2 : AH} (hC : OKC C y cc nL ret F L) (hF : FK y.cls ci Cn T N fk index) (ty0 : Nat → FieldType) (hty : ∀ k, k < N → parseFieldDescriptor (T k).2.2.1 = some (ty0 k)) (hnm : ∀ a, a < N → ∀ b, b < N → a ≠ b → (T a).2.1 ≠ (T b).2.1) (hfin : (T fk).2.2.2 = false ∨ ((T fk).2.2.2 = true ∧ y.name = "<init>" ∧ (T fk).1 = y.cls)) (hn : narrow (ty0 fk) v = v) (hfit : fits (ty0 fk) v = true) (hd : decode cc pc = .ok (.putfield index, 3)) (hk : a_kd h a = ci + 1)
    (e1 : a_nx h2 = a_nx h) (e2 : ∀ b, a_kd h2 b = a_kd h b) (e3 : ∀ b, a_ln h2 b = a_ln h b) (e4 : ∀ b, b ≠ a → a_gi h2 b = a_gi h b ∧ a_gr h2 b = a_gr h b) (e5 : a_V h2 a = updV (a_V h a) fk v) (kk : WX rv C (pc + 3) lv st h2 x) : WX rv C pc lv (v :: .ref a :: st) h x := by
  obtain ⟨hin, hc, hfk, hN, h11, hw⟩ := hF
  intro ls hl r h' k n e H locs cells slots hI
  have hK := hC.2.2.2.2.2.1.1
  have hts := hC.2.2.2.2.1
  have hA : c_A C a := hI.2.2.1 a (by rw [hk]; omega)
  have hap := va_apart (own := y.cls) hts hin ty0 hty hnm hK hc
  have hat := (hI.1.2 a (by rw [hk]; omega)).obj hk h11
  rw [hN] at hat
  obtain ⟨cell, q1, q2, q3, q4⟩ := hat
  obtain ⟨hS, hfc, kC, hkC, hkind⟩ := hK.1 ci _ hc
  obtain ⟨cf, kf, fi, f, hi, hsl⟩ := hS fk hfk
  have hst := (u_facts hfc hkC (u_lays hts hin hfk) hi).1
  have fin : ∀ H' : Heap, H'[a]? = some (cell.setSlot f.slot v) → H'.size = H.size → (∀ q, q ≠ a → H'[q]? = H[q]?) → Wc C H' (locs ++ [⟨a, f.slot⟩]) cells slots (MQ (c_below C) (QX rv (c_D C) (c_cy C) (c_A C) r h') (c_args C) (c_s C) (c_R C).cells (c_R C).slots (c_A C)) (F0 (c_m C) (pc + 3) ls st) := by
    intro H' g1 g2 g3
    refine kk ls hl r h' k n e H' _ cells slots ⟨⟨?_, fun b hb => ?_⟩, hI.2.1.put g2 g3 hA, fun q hq => hI.2.2.1 q (by rw [← e2]; exact hq), hI.2.2.2.1, hI.2.2.2.2⟩
    · rw [g2, hI.1.1, e1]
    · by_cases hq : b = a
      · subst hq
        unfold a_at
        rw [e2, hk, if_pos h11, hN, e5]
        rw [hsl] at g1
        exact ⟨_, g1, q2, q3, t_set q4 hap hfk v⟩
      · exact (hI.1.2 b (by rw [← e2]; exact hb)).kept (g3 b hq) (e2 b) (e3 b) (e4 b hq).1 (e4 b hq).2
  rcases hfin with hfin | ⟨hfin, hy, hcl⟩
  · have hlay := hts _ (hin _ (u_in_lay hfk))
    unfold u_lay at hlay
    rw [if_neg (by rw [hfin]; decide)] at hlay
    have h6 := u_store hfc hkC hkind hlay hi (hty fk hfk) hn hfit
    exact W.putK hC.1 hC.2.1 (f := f) ⟨hC.2.2.2.1, hts _ hw, ⟨_, _, _, hi⟩, hst⟩ (by rw [q2]; exact h6) q1 q3 (by rw [hsl]; exact k2_hasslot (q4 fk hfk)) rfl rfl hd fin
  · have hlay := hts _ (hin _ (u_in_lay hfk))
    unfold u_lay at hlay
    rw [if_pos hfin] at hlay
    have hcf : (c_m C).cls = cf := by
      obtain ⟨_, _, c', _, _, _, -, -, hf', -, -, -, hown2, -⟩ := Cond.laysFinal_spec hlay
      have z1 : c' = cf := by have := hi.symm.trans hf'; simp at this; exact this.1.symm
      rw [hcl] at hown2
      rw [← z1]; exact Option.some.inj (hC.2.2.2.1.symm.trans hown2)
    have h6 := u_fits hfc hkC hkind (Or.inr hlay) hi (hty fk hfk) hn hfit
    exact W.putFinK hC.1 hC.2.1 hC.2.2.2.1 (hts _ hw) hi hst hcf (hC.2.2.2.2.2.2.2.2.2.1.trans hy) (by rw [q2]; exact h6) q1 q3 (by rw [hsl]; exact k2_hasslot (q4 fk hfk)) rfl rfl hd fin
theorem a_V_pi {h : AH} {a fk ci : Nat} {v : Int32} (hk : a_kd h a = ci + 1) (hs : (a_sg (ci + 1)).getD fk false = false) : a_V (a_pi h a fk v) a = updV (a_V h a) fk (.int v) := by
  funext j
  have hk2 : a_kd (a_pi h a fk v) a = ci + 1 := hk
  have hg : a_gi (a_pi h a fk v) a = upd (a_gi h a) fk v := va_up_at _ _ _
  have hr : a_gr (a_pi h a fk v) a = a_gr h a := rfl
  unfold a_V updV
  rw [hk2, hk, hg, hr]
  by_cases q : j = fk
  · subst q; rw [hs, if_pos rfl]; simp [upd]
  · rw [if_neg q]; simp [upd, q]
theorem a_V_pr {h : AH} {a fk ci : Nat} {v : Option Nat} (hk : a_kd h a = ci + 1) (hs : (a_sg (ci + 1)).getD fk false = true) : a_V (a_pr h a fk v) a = updV (a_V h a) fk (va_rf v) := by
  funext j
  have hk2 : a_kd (a_pr h a fk v) a = ci + 1 := hk
  have hg : a_gr (a_pr h a fk v) a = va_up (a_gr h a) fk v := va_up_at _ _ _
  have hr : a_gi (a_pr h a fk v) a = a_gi h a := rfl
  unfold a_V updV
  rw [hk2, hk, hg, hr]
  by_cases q : j = fk
  · subst q; rw [hs, if_pos rfl]; simp [va_up]
  · rw [if_neg q]; simp [va_up, q]
/-- the tables of a class, for its stores -/
def TK (T : u_T) (N : Nat) (ty0 : Nat → FieldType) : Prop := (∀ k, k < N → parseFieldDescriptor (T k).2.2.1 = some (ty0 k)) ∧ (∀ a, a < N → ∀ b, b < N → a ≠ b → (T a).2.1 ≠ (T b).2.1)
theorem x_putI {ci fk index N : Nat} {Cn : String} {T : u_T} {q : Option Nat} {v : Int32} {f : AH → RX ρ} {ty0 : Nat → FieldType} (hC : OKC C y cc nL ret F L) (hF : FK y.cls ci Cn T N fk index) (hT : TK T N ty0) (hs : (a_sg (ci + 1)).getD fk false = false) (hi : ty0 fk = .int) (hfin : (T fk).2.2.2 = false ∨ ((T fk).2.2.2 = true ∧ y.name = "<init>" ∧ (T fk).1 = y.cls)) (hd : decode cc pc = .ok (.putfield index, 3)) {p' : Nat} (hp : pc + 3 = p') (kk : ∀ h2, WX rv C p' lv st h2 (f h2)) : WX rv C pc lv (.int v :: va_rf q :: st) h (pI h q (ci + 1) fk v f) := by
  subst hp
  cases q with
  | none => exact x_none
  | some a =>
    show WX rv C pc lv _ h (if a_kd h a = ci + 1 then f (a_pi h a fk v) else none)
    by_cases hk : a_kd h a = ci + 1
    · rw [if_pos hk]
      exact x_putv (h2 := a_pi h a fk v) hC hF ty0 hT.1 hT.2 hfin (by rw [hi]; rfl) (by rw [hi]; rfl) hd hk rfl (fun _ => rfl) (fun _ => rfl) (fun b hb => ⟨va_up_off _ _ hb, rfl⟩) (a_V_pi hk hs) (kk _)
    · rw [if_neg hk]; exact x_none
theorem x_putZ {ci fk index N : Nat} {Cn : String} {T : u_T} {q : Option Nat} {v : Int32} {f : AH → RX ρ} {ty0 : Nat → FieldType} (hC : OKC C y cc nL ret F L) (hF : FK y.cls ci Cn T N fk index) (hT : TK T N ty0) (hs : (a_sg (ci + 1)).getD fk false = false) (hi : ty0 fk = .boolean) (hfin : (T fk).2.2.2 = false ∨ ((T fk).2.2.2 = true ∧ y.name = "<init>" ∧ (T fk).1 = y.cls)) (hd : decode cc pc = .ok (.putfield index, 3)) {p' : Nat} (hp : pc + 3 = p') (kk : ∀ h2, WX rv C p' lv st h2 (f h2)) : WX rv C pc lv (.int v :: va_rf q :: st) h (pZ h q (ci + 1) fk v f) := by
  subst hp
  cases q with
  | none => exact x_none
  | some a =>
    show WX rv C pc lv _ h (if a_kd h a = ci + 1 then (if v = 0 ∨ v = 1 then f (a_pi h a fk v) else none) else none)
    by_cases hk : a_kd h a = ci + 1
    · rw [if_pos hk]
      by_cases hv : v = 0 ∨ v = 1
      · rw [if_pos hv]
        exact x_putv (h2 := a_pi h a fk v) hC hF ty0 hT.1 hT.2 hfin (by rw [hi]; rcases hv with rfl | rfl <;> rfl) (by rw [hi]; rcases hv with rfl | rfl <;> rfl) hd hk rfl (fun _ => rfl) (fun _ => rfl) (fun b hb => ⟨va_up_off _ _ hb, rfl⟩) (a_V_pi hk hs) (kk _)
      · rw [if_neg hv]; exact x_none
    · rw [if_neg hk]; exact x_none
theorem x_putR {ci fk index N : Nat} {Cn : String} {T : u_T} {q v : Option Nat} {f : AH → RX ρ} {ty0 : Nat → FieldType} (hC : OKC C y cc nL ret F L) (hF : FK y.cls ci Cn T N fk index) (hT : TK T N ty0) (hs : (a_sg (ci + 1)).getD fk false = true) (hi : (∃ t, ty0 fk = .object t) ∨ ∃ t, ty0 fk = .array t) (hfin : (T fk).2.2.2 = false ∨ ((T fk).2.2.2 = true ∧ y.name = "<init>" ∧ (T fk).1 = y.cls)) (hd : decode cc pc = .ok (.putfield index, 3)) {p' : Nat} (hp : pc + 3 = p') (kk : ∀ h2, WX rv C p' lv st h2 (f h2)) : WX rv C pc lv (va_rf v :: va_rf q :: st) h (pR h q (ci + 1) fk v f) := by
  subst hp
  cases q with
  | none => exact x_none
  | some a =>
    show WX rv C pc lv _ h (if a_kd h a = ci + 1 then f (a_pr h a fk v) else none)
    by_cases hk : a_kd h a = ci + 1
    · rw [if_pos hk]
      have n1 : narrow (ty0 fk) (va_rf v) = va_rf v := by rcases hi with ⟨t, z⟩ | ⟨t, z⟩ <;> rw [z] <;> cases v <;> rfl
      have n2 : fits (ty0 fk) (va_rf v) = true := by rcases hi with ⟨t, z⟩ | ⟨t, z⟩ <;> rw [z] <;> cases v <;> rfl
      exact x_putv (h2 := a_pr h a fk v) hC hF ty0 hT.1 hT.2 hfin n1 n2 hd hk rfl (fun _ => rfl) (fun _ => rfl) (fun b hb => ⟨rfl, va_up_off _ _ hb⟩) (a_V_pr hk hs) (kk _)
    · rw [if_neg hk]; exact x_none
-- arrays
def aI {β : Type} (h : AH) (r : Option Nat) (k : Nat) (i : Int32) (f : Int32 → Option β) : Option β := match r with | none => none | some a => if a_kd h a = k ∧ 0 ≤ i ∧ i.toNatClampNeg < a_ln h a then f (a_gi h a i.toNatClampNeg) else none
def aR {β : Type} (h : AH) (r : Option Nat) (k : Nat) (i : Int32) (f : Option Nat → Option β) : Option β := match r with | none => none | some a => if a_kd h a = k ∧ 0 ≤ i ∧ i.toNatClampNeg < a_ln h a then f (a_gr h a i.toNatClampNeg) else none
def aL {β : Type} (h : AH) (r : Option Nat) (k : Nat) (f : Int32 → Option β) : Option β := match r with | none => none | some a => if a_kd h a = k then f (Int32.ofNat (a_ln h a)) else none
def sI {β : Type} (h : AH) (r : Option Nat) (k : Nat) (i v : Int32) (f : AH → Option β) : Option β := match r with | none => none | some a => if a_kd h a = k ∧ 0 ≤ i ∧ i.toNatClampNeg < a_ln h a then f (a_pi h a i.toNatClampNeg v) else none
def sR {β : Type} (h : AH) (r : Option Nat) (k kv : Nat) (i : Int32) (v : Option Nat) (f : AH → Option β) : Option β := match r with | none => none | some a => if a_kd h a = k ∧ 0 ≤ i ∧ i.toNatClampNeg < a_ln h a ∧ (∀ b, v = some b → a_kd h b = kv) then f (a_pr h a i.toNatClampNeg v) else none
theorem x_in {i : Int32} {n : Nat} (h1 : 0 ≤ i) (h2 : i.toNatClampNeg < n) : ¬ (i < 0 ∨ n ≤ i.toNatClampNeg) := by
  rintro (q | q)
  · rw [Int32.le_iff_toInt_le] at h1
    rw [Int32.lt_iff_toInt_lt] at q
    omega
  · omega
theorem OKC.arr {C : CT} {y : MethodName} {cc : ByteArray} {nL : Nat} {ret : Option FieldType} {F L : Nat} (hC : OKC C y cc nL ret F L) (t0 : Nat) {q : ClassId × FieldType} (ht : (tysX (c_cy C))[t0]? = some q) : ArrOfT (c_s C) q.1 q.2 ∧ va_RA (c_s C) q.1 q.2 := hC.2.2.2.2.2.1.1.2 t0 q ht
theorem x_iaload {q : Option Nat} {i : Int32} {f : Int32 → RX ρ} (hC : OKC C y cc nL ret F L) (hd : decode cc pc = .ok (.iaload, 1)) {p' : Nat} (hp : pc + 1 = p') (kk : ∀ v, WX rv C p' lv (.int v :: st) h (f v)) : WX rv C pc lv (.int i :: va_rf q :: st) h (aI h q 12 i f) := by
  subst hp
  cases q with
  | none => exact x_none
  | some a =>
    show WX rv C pc lv _ h (if a_kd h a = 12 ∧ 0 ≤ i ∧ i.toNatClampNeg < a_ln h a then f (a_gi h a i.toNatClampNeg) else none)
    by_cases hk : a_kd h a = 12 ∧ 0 ≤ i ∧ i.toNatClampNeg < a_ln h a
    · rw [if_pos hk]
      intro ls hl r h' k n e H locs cells slots hI
      have hat := (hI.1.2 a (by rw [hk.1]; omega)).int hk.1 (by omega) (by omega)
      exact W.iald (v := .int (a_gi h a i.toNatClampNeg)) hC.1 hC.2.1 hat ((hC.arr 0 rfl).1 _ _) (fun z => by cases z) (by rw [arrV_size]; exact x_in hk.2.1 hk.2.2) (by rw [arrV_read _ _ hk.2.2]) rfl rfl hd (kk _ ls hl r h' k n e H locs cells slots hI)
    · rw [if_neg hk]; exact x_none
theorem x_baload {q : Option Nat} {i : Int32} {f : Int32 → RX ρ} (hC : OKC C y cc nL ret F L) (hd : decode cc pc = .ok (.baload, 1)) {p' : Nat} (hp : pc + 1 = p') (kk : ∀ v, WX rv C p' lv (.int v :: st) h (f v)) : WX rv C pc lv (.int i :: va_rf q :: st) h (aI h q 13 i f) := by
  subst hp
  cases q with
  | none => exact x_none
  | some a =>
    show WX rv C pc lv _ h (if a_kd h a = 13 ∧ 0 ≤ i ∧ i.toNatClampNeg < a_ln h a then f (a_gi h a i.toNatClampNeg) else none)
    by_cases hk : a_kd h a = 13 ∧ 0 ≤ i ∧ i.toNatClampNeg < a_ln h a
    · rw [if_pos hk]
      intro ls hl r h' k n e H locs cells slots hI
      have hat := (hI.1.2 a (by rw [hk.1]; omega)).int hk.1 (by omega) (by omega)
      exact W.zald (v := .int (a_gi h a i.toNatClampNeg)) hC.1 hC.2.1 hat ((hC.arr 1 rfl).1 _ _) (fun z => by cases z) (by rw [arrV_size]; exact x_in hk.2.1 hk.2.2) (by rw [arrV_read _ _ hk.2.2]) rfl rfl hd (kk _ ls hl r h' k n e H locs cells slots hI)
    · rw [if_neg hk]; exact x_none
theorem x_aaload {q : Option Nat} {i : Int32} {f : Option Nat → RX ρ} (ak t0 : Nat) {ty : FieldType} (hC : OKC C y cc nL ret F L) (ht : (tysX (c_cy C))[t0]? = some (c_cy C ak, ty)) (h13 : ¬ ak ≤ 13) (hr : ty.isReference = true) (hd : decode cc pc = .ok (.aaload, 1)) {p' : Nat} (hp : pc + 1 = p') (kk : ∀ v, WX rv C p' lv (va_rf v :: st) h (f v)) : WX rv C pc lv (.int i :: va_rf q :: st) h (aR h q ak i f) := by
  subst hp
  cases q with
  | none => exact x_none
  | some a =>
    show WX rv C pc lv _ h (if a_kd h a = ak ∧ 0 ≤ i ∧ i.toNatClampNeg < a_ln h a then f (a_gr h a i.toNatClampNeg) else none)
    by_cases hk : a_kd h a = ak ∧ 0 ≤ i ∧ i.toNatClampNeg < a_ln h a
    · rw [if_pos hk]
      intro ls hl r h' k n e H locs cells slots hI
      have hat := (hI.1.2 a (by rw [hk.1]; omega)).ref hk.1 h13
      exact W.aald (v := va_rf (a_gr h a i.toNatClampNeg)) (ty := ty) hC.1 hC.2.1 hat ((hC.arr t0 ht).1 _ _) hr (fun z => by cases z) (by rw [arrV_size]; exact x_in hk.2.1 hk.2.2) (by rw [arrV_read _ _ hk.2.2]) rfl rfl hd (kk _ ls hl r h' k n e H locs cells slots hI)
    · rw [if_neg hk]; exact x_none
theorem x_arraylength {q : Option Nat} {f : Int32 → RX ρ} (ak t0 : Nat) {ty : FieldType} (hC : OKC C y cc nL ret F L) (ht : (tysX (c_cy C))[t0]? = some (c_cy C ak, ty)) (h11 : ¬ ak ≤ 11) (hd : decode cc pc = .ok (.arraylength, 1)) {p' : Nat} (hp : pc + 1 = p') (kk : ∀ v, WX rv C p' lv (.int v :: st) h (f v)) : WX rv C pc lv (va_rf q :: st) h (aL h q ak f) := by
  subst hp
  cases q with
  | none => exact x_none
  | some a =>
    show WX rv C pc lv _ h (if a_kd h a = ak then f (Int32.ofNat (a_ln h a)) else none)
    by_cases hk : a_kd h a = ak
    · rw [if_pos hk]
      intro ls hl r h' k n e H locs cells slots hI
      by_cases h13 : ak ≤ 13
      · have hat := (hI.1.2 a (by rw [hk]; omega)).int hk h11 h13
        exact W.alen (n := Int32.ofNat (a_ln h a)) hC.1 hC.2.1 hat ((hC.arr t0 ht).1 _ _) (by rw [arrV_size]) rfl rfl hd (kk _ ls hl r h' k n e H locs cells slots hI)
      · have hat := (hI.1.2 a (by rw [hk]; omega)).ref hk h13
        exact W.alen (n := Int32.ofNat (a_ln h a)) hC.1 hC.2.1 hat ((hC.arr t0 ht).1 _ _) (by rw [arrV_size]) rfl rfl hd (kk _ ls hl r h' k n e H locs cells slots hI)
    · rw [if_neg hk]; exact x_none
theorem x_iastore {q : Option Nat} {i v : Int32} {f : AH → RX ρ} (hC : OKC C y cc nL ret F L) (hd : decode cc pc = .ok (.iastore, 1)) {p' : Nat} (hp : pc + 1 = p') (kk : ∀ h2, WX rv C p' lv st h2 (f h2)) : WX rv C pc lv (.int v :: .int i :: va_rf q :: st) h (sI h q 12 i v f) := by
  subst hp
  cases q with
  | none => exact x_none
  | some a =>
    show WX rv C pc lv _ h (if a_kd h a = 12 ∧ 0 ≤ i ∧ i.toNatClampNeg < a_ln h a then f (a_pi h a i.toNatClampNeg v) else none)
    by_cases hk : a_kd h a = 12 ∧ 0 ≤ i ∧ i.toNatClampNeg < a_ln h a
    · rw [if_pos hk]
      intro ls hl r h' k n e H locs cells slots hI
      have hA : c_A C a := hI.2.2.1 a (by rw [hk.1]; omega)
      have hat := (hI.1.2 a (by rw [hk.1]; omega)).int hk.1 (by omega) (by omega)
      refine W.iast hC.1 hC.2.1 hat ((hC.arr 0 rfl).1 _ _) (fun z => by cases z) (by rw [arrV_size]; exact x_in hk.2.1 hk.2.2) rfl rfl hd fun H1 g1 g2 g3 => ?_
      refine kk _ ls hl r h' k n e H1 _ cells slots ⟨hb_si hI.1 g2 g3 (fun _ => ?_), hI.2.1.put g2 g3 hA, hI.2.2.1, hI.2.2.2.1, hI.2.2.2.2⟩
      unfold a_at
      rw [show a_kd (a_si h a (upd (a_gi h a) i.toNatClampNeg v)) a = 12 from hk.1, if_neg (by omega), if_pos (by omega), g1, arrV_store]
      congr 2
      funext j
      show updV _ _ _ j = .int (va_up h.2.2.2.1 a (upd (a_gi h a) i.toNatClampNeg v) a j)
      rw [va_up_at]
      by_cases hj : j = i.toNatClampNeg
      · subst hj; simp [updV, upd]
      · simp [updV, upd, hj]
    · rw [if_neg hk]; exact x_none
theorem x_bastore {q : Option Nat} {i v : Int32} {f : AH → RX ρ} (hC : OKC C y cc nL ret F L) (hd : decode cc pc = .ok (.bastore, 1)) {p' : Nat} (hp : pc + 1 = p') (kk : ∀ h2, WX rv C p' lv st h2 (f h2)) : WX rv C pc lv (.int v :: .int i :: va_rf q :: st) h (sI h q 13 i (vp_nar .boolean v) f) := by
  subst hp
  cases q with
  | none => exact x_none
  | some a =>
    show WX rv C pc lv _ h (if a_kd h a = 13 ∧ 0 ≤ i ∧ i.toNatClampNeg < a_ln h a then f (a_pi h a i.toNatClampNeg (vp_nar .boolean v)) else none)
    by_cases hk : a_kd h a = 13 ∧ 0 ≤ i ∧ i.toNatClampNeg < a_ln h a
    · rw [if_pos hk]
      intro ls hl r h' k n e H locs cells slots hI
      have hA : c_A C a := hI.2.2.1 a (by rw [hk.1]; omega)
      have hat := (hI.1.2 a (by rw [hk.1]; omega)).int hk.1 (by omega) (by omega)
      refine W.zast hC.1 hC.2.1 hat ((hC.arr 1 rfl).1 _ _) (fun z => by cases z) (by rw [arrV_size]; exact x_in hk.2.1 hk.2.2) rfl rfl hd fun H1 g1 g2 g3 => ?_
      refine kk _ ls hl r h' k n e H1 _ cells slots ⟨hb_si hI.1 g2 g3 (fun _ => ?_), hI.2.1.put g2 g3 hA, hI.2.2.1, hI.2.2.2.1, hI.2.2.2.2⟩
      unfold a_at
      rw [show a_kd (a_si h a (upd (a_gi h a) i.toNatClampNeg (vp_nar .boolean v))) a = 13 from hk.1, if_neg (by omega), if_pos (by omega), g1, arrV_store]
      congr 2
      funext j
      show updV _ _ _ j = .int (va_up h.2.2.2.1 a (upd (a_gi h a) i.toNatClampNeg (vp_nar .boolean v)) a j)
      rw [va_up_at]
      by_cases hj : j = i.toNatClampNeg
      · subst hj; simp [updV, upd]; rfl
      · simp [updV, upd, hj]
    · rw [if_neg hk]; exact x_none
theorem x_aastore {q v : Option Nat} {i : Int32} {f : AH → RX ρ} (ak t0 ci : Nat) {w : vw_C} (hC : OKC C y cc nL ret F L) (ht : (tysX (c_cy C))[t0]? = some (c_cy C ak, .object w.1)) (hc : vwCl[ci]? = some w) (h11 : ci + 1 ≤ 11) (h13 : ¬ ak ≤ 13) (hd : decode cc pc = .ok (.aastore, 1)) {p' : Nat} (hp : pc + 1 = p') (kk : ∀ h2, WX rv C p' lv st h2 (f h2)) : WX rv C pc lv (va_rf v :: .int i :: va_rf q :: st) h (sR h q ak (ci + 1) i v f) := by
  subst hp
  cases q with
  | none => exact x_none
  | some a =>
    show WX rv C pc lv _ h (if a_kd h a = ak ∧ 0 ≤ i ∧ i.toNatClampNeg < a_ln h a ∧ (∀ b, v = some b → a_kd h b = ci + 1) then f (a_pr h a i.toNatClampNeg v) else none)
    by_cases hk : a_kd h a = ak ∧ 0 ≤ i ∧ i.toNatClampNeg < a_ln h a ∧ (∀ b, v = some b → a_kd h b = ci + 1)
    · rw [if_pos hk]
      intro ls hl r h' k n e H locs cells slots hI
      have hA : c_A C a := hI.2.2.1 a (by rw [hk.1]; omega)
      have hat := (hI.1.2 a (by rw [hk.1]; omega)).ref hk.1 h13
      have fin : ∀ H1 : Heap, H1[a]? = some ((arrV (c_cy C ak) (a_ln h a) (fun j => va_rf (a_gr h a j))).setSlot i.toNatClampNeg (va_rf v)) → H1.size = H.size → (∀ q, q ≠ a → H1[q]? = H[q]?) → Wc C H1 (locs ++ [⟨a, i.toNatClampNeg⟩]) cells slots (MQ (c_below C) (QX rv (c_D C) (c_cy C) (c_A C) r h') (c_args C) (c_s C) (c_R C).cells (c_R C).slots (c_A C)) (F0 (c_m C) (pc + 1) ls st) := by
        intro H1 g1 g2 g3
        refine kk _ ls hl r h' k n e H1 _ cells slots ⟨hb_sr hI.1 g2 g3 (fun _ => ?_), hI.2.1.put g2 g3 hA, hI.2.2.1, hI.2.2.2.1, hI.2.2.2.2⟩
        unfold a_at
        rw [show a_kd (a_sr h a (va_up (a_gr h a) i.toNatClampNeg v)) a = ak from hk.1, if_neg (by omega), if_neg h13, g1, arrV_store]
        congr 2
        funext j
        show updV _ _ _ j = va_rf (va_up h.2.2.2.2 a (va_up (a_gr h a) i.toNatClampNeg v) a j)
        rw [va_up_at]
        by_cases hj : j = i.toNatClampNeg
        · subst hj; simp [updV, va_up]
        · simp [updV, va_up, hj]
      cases v with
      | none => exact va_WaastN (C := w.1) hC.1 hC.2.1 hat ((hC.arr t0 ht).1 _ _) (fun z => by cases z) (by rw [arrV_size]; exact x_in hk.2.1 hk.2.2.1) rfl rfl hd fin
      | some b =>
        have hb := (hI.1.2 b (by rw [hk.2.2.2 b rfl]; omega)).obj (hk.2.2.2 b rfl) h11
        obtain ⟨cellV, v1, v2, v3, -⟩ := hb
        have hcls := (hC.2.2.2.2.2.1.1.1 ci w hc).2
        obtain ⟨kA, comp, k1, k2, k3, -⟩ := (hC.arr t0 ht).2
        have hcomp : comp = (c_D C).1 ci := Option.some.inj (k3.symm.trans hcls.1)
        subst hcomp
        obtain ⟨kC, hkC, -⟩ := hcls.2
        exact W.aast hC.1 hC.2.1 hat (fun z z2 => by cases z2) (fun z => by cases z) k1 k2 rfl hkC ⟨fun z => (x_in hk.2.1 hk.2.2.1) (Or.inl z), by rw [arrV_size]; exact hk.2.2.1⟩ v1 (fun z z2 => by rw [v3] at z2; cases z2) (by rw [v2]; exact hkC) (by rw [v2]; exact va_assign hcls) rfl rfl hd fin
    · rw [if_neg hk]; exact x_none
-- what is made
theorem wA_some {ρ : Type} {a b : Nat} {x : RX ρ} {r : ρ} {h' : AH} {k n : Nat} (e : wA a b x = some (r, h', k, n)) : ∃ k2 n2, x = some (r, h', k2, n2) ∧ k = a + k2 ∧ n = b + n2 := by
  cases x with
  | none => cases e
  | some q =>
    obtain ⟨r0, h0, k0, n0⟩ := q
    have e2 : some (r0, h0, a + k0, b + n0) = some (r, h', k, n) := e
    cases e2
    exact ⟨k0, n0, rfl, rfl, rfl⟩
theorem bnd_some {ρ τ : Type} {z : RX τ} {f : τ → AH → RX ρ} {r : ρ} {h' : AH} {k n : Nat} (e : bnd z f = some (r, h', k, n)) : ∃ r1 h1 k1 n1 k2 n2, z = some (r1, h1, k1, n1) ∧ f r1 h1 = some (r, h', k2, n2) ∧ k = k1 + k2 ∧ n = n1 + n2 := by
  cases z with
  | none => cases e
  | some q =>
    obtain ⟨r0, h0, k0, n0⟩ := q
    obtain ⟨k2, n2, e1, e2, e3⟩ := wA_some (x := f r0 h0) (a := k0) (b := n0) e
    exact ⟨r0, h0, k0, n0, k2, n2, rfl, e1, e2, e3⟩
def nA {ρ : Type} (h : AH) (k : Nat) (i : Int32) (f : Nat → AH → RX ρ) : RX ρ := if 0 ≤ i ∧ i.toNatClampNeg ≤ 1000000 then wA 1 i.toNatClampNeg (f (a_nx h) (a_mk h k i.toNatClampNeg)) else none
def nO {ρ : Type} (h : AH) (k N : Nat) (f : Nat → AH → RX ρ) : RX ρ := wA 1 N (f (a_nx h) (a_mk h k 0))
theorem x_ik {h : AH} {k n : Nat} {A : Nat → Prop} {H : Heap} {D : va_G} {cy : Nat → ClassId} (hB : HB D cy h H) (h1 : ∀ q, a_kd h q ≠ 0 → A q) (h2 : ∀ q, H.size ≤ q → A q) : ∀ q, a_kd (a_mk h k n) q ≠ 0 → A q := by
  intro q hq
  by_cases z : q = a_nx h
  · exact h2 q (by rw [z, hB.1]; exact Nat.le_refl _)
  · exact h1 q (by
      intro w; apply hq
      exact (va_up_off _ _ z).trans w)
theorem x_iS {A : Nat → Prop} {H0 H H1 : Heap} {locs : List Loc} (h : va_S A H0 H locs) (hz : H1.size = H.size + 1) (ho : ∀ q, q < H.size → H1[q]? = H[q]?) : va_S A H0 H1 locs :=
  ⟨Nat.le_trans h.1 (by omega), fun q h1 h2 => (ho q (Nat.lt_of_lt_of_le h1 h.1)).trans (h.2.1 q h1 h2), h.2.2⟩
theorem x_newarray {at0 : ArrayType} {i : Int32} {f : Nat → AH → RX ρ} (ak t0 : Nat) (hC : OKC C y cc nL ret F L) (hat : (ak = 12 ∧ t0 = 0 ∧ at0 = .int) ∨ (ak = 13 ∧ t0 = 1 ∧ at0 = .boolean)) (hw : Cond.arrayClass (newarray.typeOf at0) ∈ LW) (hd : decode cc pc = .ok (.newarray at0, 2)) {p' : Nat} (hp : pc + 2 = p') (kk : ∀ a h2, WX rv C p' lv (va_rf (some a) :: st) h2 (f a h2)) : WX rv C pc lv (.int i :: st) h (nA h ak i f) := by
  subst hp
  show WX rv C pc lv _ h (if 0 ≤ i ∧ i.toNatClampNeg ≤ 1000000 then wA 1 i.toNatClampNeg (f (a_nx h) (a_mk h ak i.toNatClampNeg)) else none)
  by_cases hk : 0 ≤ i ∧ i.toNatClampNeg ≤ 1000000
  · rw [if_pos hk]
    intro ls hl r h' k n e H locs cells slots hI
    obtain ⟨k2, n2, e1, rfl, rfl⟩ := wA_some e
    have c1 := hI.2.2.2.1
    have c1' : _ ≤ C.2.2.2.1.cells := hI.2.2.2.1
    have c2 := hI.2.2.2.2
    have c2' : _ ≤ C.2.2.2.1.slots := hI.2.2.2.2
    have hb4 : i.toNatClampNeg * componentBytes (newarray.typeOf at0) ≤ 536870912 := by
      rcases hat with ⟨-, -, rfl⟩ | ⟨-, -, rfl⟩
      · show i.toNatClampNeg * 4 ≤ _; omega
      · show i.toNatClampNeg * 1 ≤ _; omega
    refine va_newaK hC.1 hC.2.1 (hC.2.2.2.2.1 _ hw) rfl hd rfl (fun z => x_in hk.1 (Nat.lt_succ_self _) (Or.inl z)) rfl hb4 (by omega) (by omega) hI.1.1 fun H1 cA g1 g2 g3 hAr hNm => ?_
    have g2' : H1.size = H.size + 1 := by rw [g2, hI.1.1]
    have g3' : ∀ q, q < H.size → H1[q]? = H[q]? := fun q hq => g3 q (by rw [← hI.1.1]; exact hq)
    refine kk (a_nx h) _ ls hl r h' k2 n2 e1 H1 locs (cells + 1) (slots + i.toNatClampNeg) ⟨hb_mk hI.1 g2' g3' ?_, x_iS hI.2.1 g2' g3', x_ik hI.1 hI.2.2.1 (fun q hq => hC.2.2.2.2.2.2.2.1 q (Nat.le_trans hI.2.1.1 hq)), by omega, by omega⟩
    unfold a_at
    rw [show a_kd (a_mk h ak i.toNatClampNeg) (a_nx h) = ak from va_up_at _ _ _, show a_ln (a_mk h ak i.toNatClampNeg) (a_nx h) = i.toNatClampNeg from va_up_at _ _ _, show a_gi (a_mk h ak i.toNatClampNeg) (a_nx h) = (fun _ => 0) from va_up_at _ _ _]
    rcases hat with ⟨rfl, rfl, rfl⟩ | ⟨rfl, rfl, rfl⟩
    · have hcy : cA = c_cy C 12 := Option.some.inj (hNm.symm.trans (hC.arr 0 rfl).2)
      rw [if_neg (by omega), if_pos (by omega), g1, hcy]; rfl
    · have hcy : cA = c_cy C 13 := Option.some.inj (hNm.symm.trans (hC.arr 1 rfl).2)
      rw [if_neg (by omega), if_pos (by omega), g1, hcy]; rfl
  · rw [if_neg hk]; exact x_none
theorem x_anewarray {index : Nat} {Cn : String} {i : Int32} {f : Nat → AH → RX ρ} (ak t0 : Nat) (hC : OKC C y cc nL ret F L) (ht : (tysX (c_cy C))[t0]? = some (c_cy C ak, .object Cn)) (h13 : ¬ ak ≤ 13) (hao : va_AO Cn (c_s C)) (hw : Cond.classLink y.cls index Cn ∈ LW) (hd : decode cc pc = .ok (.anewarray index, 3)) {p' : Nat} (hp : pc + 3 = p') (kk : ∀ a h2, WX rv C p' lv (va_rf (some a) :: st) h2 (f a h2)) : WX rv C pc lv (.int i :: st) h (nA h ak i f) := by
  subst hp
  show WX rv C pc lv _ h (if 0 ≤ i ∧ i.toNatClampNeg ≤ 1000000 then wA 1 i.toNatClampNeg (f (a_nx h) (a_mk h ak i.toNatClampNeg)) else none)
  by_cases hk : 0 ≤ i ∧ i.toNatClampNeg ≤ 1000000
  · rw [if_pos hk]
    intro ls hl r h' k n e H locs cells slots hI
    obtain ⟨k2, n2, e1, rfl, rfl⟩ := wA_some e
    have c1 := hI.2.2.2.1
    have c1' : _ ≤ C.2.2.2.1.cells := hI.2.2.2.1
    have c2 := hI.2.2.2.2
    have c2' : _ ≤ C.2.2.2.1.slots := hI.2.2.2.2
    refine W.anew hC.1 hC.2.1 hC.2.2.2.1 (hC.2.2.2.2.1 _ hw) (va_AO.use hao) rfl hd rfl (fun z => x_in hk.1 (Nat.lt_succ_self _) (Or.inl z)) (by omega) (by omega) (by omega) fun cA kA comp f1 f2 f3 f4 => ?_
    generalize hH1 : H.push ({ cls := cA, slots := Array.replicate i.toNatClampNeg .null, vm := .none } : Cell) = H1
    have g2 : H1.size = H.size + 1 := by rw [← hH1, Array.size_push]
    have g1 : H1[H.size]? = some (arrV cA i.toNatClampNeg (fun _ => .null)) := by rw [← hH1, Array.getElem?_push_size, ← arrV_new]
    have g3 : ∀ q : Nat, q < H.size → H1[q]? = H[q]? := fun q hq => by rw [← hH1, Array.getElem?_push, if_neg (Nat.ne_of_lt hq)]
    rw [show H.size = a_nx h from hI.1.1]
    refine kk (a_nx h) _ ls hl r h' k2 n2 e1 H1 locs (cells + 1) (slots + i.toNatClampNeg) ⟨hb_mk hI.1 g2 g3 ?_, x_iS hI.2.1 g2 g3, x_ik hI.1 hI.2.2.1 (fun q hq => hC.2.2.2.2.2.2.2.1 q (Nat.le_trans hI.2.1.1 hq)), by omega, by omega⟩
    unfold a_at
    rw [show a_kd (a_mk h ak i.toNatClampNeg) (a_nx h) = ak from va_up_at _ _ _, show a_ln (a_mk h ak i.toNatClampNeg) (a_nx h) = i.toNatClampNeg from va_up_at _ _ _, show a_gr (a_mk h ak i.toNatClampNeg) (a_nx h) = (fun _ => none) from va_up_at _ _ _]
    obtain ⟨kA2, comp2, -, -, -, k4⟩ := (hC.arr t0 ht).2
    have hcy : cA = c_cy C ak := Option.some.inj (f1.symm.trans k4)
    rw [if_neg (by omega), if_neg h13, ← hI.1.1, g1, hcy]; rfl
  · rw [if_neg hk]; exact x_none
theorem x_new {ci index N : Nat} {Cn : String} {T : u_T} {ty0 : Nat → FieldType} {f : Nat → AH → RX ρ} (hC : OKC C y cc nL ret F L) (hin : ∀ w ∈ u_ws Cn T N, w ∈ LW) (hc : vwCl[ci]? = some (Cn, T, N)) (hN : (a_sg (ci + 1)).length = N) (h11 : ci + 1 ≤ 11) (hT : TK T N ty0) (hdf : ∀ j, j < N → defaultValue (ty0 j) = bif (a_sg (ci + 1)).getD j false then .null else .int 0) (hw1 : Cond.classLink y.cls index Cn ∈ LW) (hw2 : Cond.instantiable Cn N ∈ LW) (hw3 : Cond.initialized Cn ∈ LW) (hd : decode cc pc = .ok (.new index, 3)) {p' : Nat} (hp : pc + 3 = p') (kk : ∀ a h2, WX rv C p' lv (va_rf (some a) :: st) h2 (f a h2)) : WX rv C pc lv st h (nO h (ci + 1) N f) := by
  subst hp
  intro ls hl r h' k n e H locs cells slots hI
  obtain ⟨k2, n2, e1, rfl, rfl⟩ := wA_some (x := f (a_nx h) (a_mk h (ci + 1) 0)) e
  have c1 := hI.2.2.2.1
  have c1' : _ ≤ C.2.2.2.1.cells := hI.2.2.2.1
  have c2 := hI.2.2.2.2
  have c2' : _ ≤ C.2.2.2.1.slots := hI.2.2.2.2
  have hts := hC.2.2.2.2.1
  have hKn := hC.2.2.2.2.2.1.1.1 ci _ hc
  refine W.newcK hC.1 hC.2.1 hC.2.2.2.1 (hts _ hw1) (hts _ hw2) (hts _ hw3) rfl hd (by omega) (by omega) hKn.2.1 hI.1.1 fun H1 kC hkC g1 g2 g3 => ?_
  have g2' : H1.size = H.size + 1 := by rw [g2, hI.1.1]
  have g3' : ∀ q, q < H.size → H1[q]? = H[q]? := fun q hq => g3 q (by rw [← hI.1.1]; exact hq)
  refine kk (a_nx h) _ ls hl r h' k2 n2 e1 H1 locs (cells + 1) (slots + N) ⟨hb_mk hI.1 g2' g3' ?_, x_iS hI.2.1 g2' g3', x_ik hI.1 hI.2.2.1 (fun q hq => hC.2.2.2.2.2.2.2.1 q (Nat.le_trans hI.2.1.1 hq)), by omega, by omega⟩
  have ek : a_kd (a_mk h (ci + 1) 0) (a_nx h) = ci + 1 := va_up_at _ _ _
  unfold a_at
  rw [ek, if_pos h11, hN]
  refine (u_born ty0 hts hin hKn hkC g1 hT.1).to (fun j hj => ?_)
  unfold a_V
  rw [ek, hdf j hj, show a_gi (a_mk h (ci + 1) 0) (a_nx h) = (fun _ => 0) from va_up_at _ _ _, show a_gr (a_mk h (ci + 1) 0) (a_nx h) = (fun _ => none) from va_up_at _ _ _]
  rfl
-- answers
def rI (v : Int32) (h : AH) : RX Int32 := some (v, h, 0, 0)
def rZ (v : Int32) (h : AH) : RX Int32 := if v = 0 ∨ v = 1 then some (v, h, 0, 0) else none
def rV (h : AH) : RX Unit := some ((), h, 0, 0)
def rR (v : Option Nat) (h : AH) : RX (Option Nat) := some (v, h, 0, 0)
theorem x_qx {ρ : Type} {rv : ρ → Option Value} {C : CT} {h : AH} {H : Heap} {locs : List Loc} {cells slots : Nat} {v : ρ} (hI : IX C h 0 0 H locs cells slots) : ∀ t : State, t.heap = H → (c_s C).WarmedH t.vm → QX rv (c_D C) (c_cy C) (c_A C) v h (c_args C) (c_s C) (.returned (rv v)) t := fun t ht _ => ⟨⟨rfl, by rw [ht]; exact hI.1, hI.2.2.1⟩, hI.2.1.F ht⟩
theorem x_ireturn {v : Int32} (hC : OKC C y cc nL (some .int) F L) (hd : decode cc pc = .ok (.ireturn, 1)) : WX rvI C pc lv [.int v] h (rI v h) := by
  intro ls hl r h' k n e H locs cells slots hI
  cases e
  have c1 := hI.2.2.2.1
  have c1' : _ ≤ C.2.2.2.1.cells := hI.2.2.2.1
  have c2 := hI.2.2.2.2
  have c2' : _ ≤ C.2.2.2.1.slots := hI.2.2.2.2
  refine W.widen (k := (c_R C).cells) (n := (c_R C).slots) (by omega) (by omega) ?_
  exact W.iret (v := v) hC.1 hC.2.1 hC.2.2.2.2.2.2.2.2.1 (x_qx (rv := rvI) hI) hI.2.1.2.2 hd hC.2.2.2.2.2.2.1
theorem x_zreturn {v : Int32} (hC : OKC C y cc nL (some .boolean) F L) (hd : decode cc pc = .ok (.ireturn, 1)) : WX rvI C pc lv [.int v] h (rZ v h) := by
  show WX rvI C pc lv [.int v] h (if v = 0 ∨ v = 1 then some (v, h, 0, 0) else none)
  by_cases hv : v = 0 ∨ v = 1
  · rw [if_pos hv]
    intro ls hl r h' k n e H locs cells slots hI
    cases e
    have c1 := hI.2.2.2.1
    have c1' : _ ≤ C.2.2.2.1.cells := hI.2.2.2.1
    have c2 := hI.2.2.2.2
    have c2' : _ ≤ C.2.2.2.1.slots := hI.2.2.2.2
    refine W.widen (k := (c_R C).cells) (n := (c_R C).slots) (by omega) (by omega) ?_
    exact W.zret (v := v) (ty := .boolean) hC.1 hC.2.1 hC.2.2.2.2.2.2.2.2.1 (by rcases hv with rfl | rfl <;> rfl) (x_qx (rv := rvI) hI) hI.2.1.2.2 hd hC.2.2.2.2.2.2.1
  · rw [if_neg hv]; exact x_none
theorem x_return (hC : OKC C y cc nL none F L) (hd : decode cc pc = .ok (.return_, 1)) : WX rvV C pc lv [] h (rV h) := by
  intro ls hl r h' k n e H locs cells slots hI
  cases e
  have c1 := hI.2.2.2.1
  have c1' : _ ≤ C.2.2.2.1.cells := hI.2.2.2.1
  have c2 := hI.2.2.2.2
  have c2' : _ ≤ C.2.2.2.1.slots := hI.2.2.2.2
  refine W.widen (k := (c_R C).cells) (n := (c_R C).slots) (by omega) (by omega) ?_
  exact W.vret hC.1 hC.2.1 hC.2.2.2.2.2.2.2.2.1 (x_qx (rv := rvV) hI) hI.2.1.2.2 hd hC.2.2.2.2.2.2.1
theorem x_areturn {v : Option Nat} {ty : FieldType} (hC : OKC C y cc nL (some ty) F L) (hty : (∃ n, ty = .object n) ∨ ∃ t, ty = .array t) (hd : decode cc pc = .ok (.areturn, 1)) : WX rvR C pc lv [va_rf v] h (rR v h) := by
  intro ls hl r h' k n e H locs cells slots hI
  cases e
  have c1 := hI.2.2.2.1
  have c1' : _ ≤ C.2.2.2.1.cells := hI.2.2.2.1
  have c2 := hI.2.2.2.2
  have c2' : _ ≤ C.2.2.2.1.slots := hI.2.2.2.2
  refine W.widen (k := (c_R C).cells) (n := (c_R C).slots) (by omega) (by omega) ?_
  exact W.aret (v := va_rf v) hC.1 hC.2.1 hC.2.2.2.2.2.2.2.2.1 hty (va_rf_or v) (x_qx (rv := rvR) hI) hI.2.1.2.2 hd hC.2.2.2.2.2.2.1
-- calls
theorem x_run {ρ2 : Type} {rv2 : ρ2 → Option Value} {ls : Array Slot} {H : Heap} {locs : List Loc} {cells slots k1 n1 : Nat} {rest st0 : List Value} {a : Array Value} {r1 : ρ2} {h1 : AH} {Q : State → Prop} {A1 : Nat → Prop} (hr : va_Run C.1 C.2.1 C.2.2.1 (c_R C) (c_s C) (c_m C) (c_args C) (c_below C) (c_meth C) (c_c C) H locs cells slots k1 n1 (F0 (c_m C) pc ls st0) rest (QX rv2 (c_D C) (c_cy C) A1 r1 h1 a) A1) (hS : va_S (c_A C) (c_H C) H locs) (hA : ∀ q, A1 q → c_A C q)
    (kk : ∀ (H1 : Heap) (locs1 : List Loc), HB (c_D C) (c_cy C) h1 H1 → (∀ q, a_kd h1 q ≠ 0 → A1 q) → va_S (c_A C) (c_H C) H1 locs1 → Wc C H1 locs1 (cells + k1) (slots + n1) Q (F0 (c_m C) (pc + 3) ls ((rv2 r1).toList ++ rest))) : Wc C H locs cells slots Q (F0 (c_m C) pc ls st0) := by
  intro T hT X
  obtain ⟨v, st₀, t, T', Lo, h0, X', hL, e1, e2, ⟨⟨hv, hB, hq⟩, hz, hk⟩, st⟩ := hr T hT X
  cases hv
  rw [h0] at hz hk
  obtain ⟨t2, a1, b1⟩ := kk T'.heap (locs ++ Lo) (by rw [e1]; exact hB) hq
    ⟨Nat.le_trans hS.1 (by rw [e1]; exact hz), fun q g1 g2 => by rw [e1, hk q (Nat.lt_of_lt_of_le g1 hS.1) (fun z => g2 (hA q z))]; exact hS.2.1 q g1 g2, fun q hq => by
      rcases List.mem_append.mp hq with g | g
      · exact hS.2.2 q g
      · exact hA _ (hL q g)⟩ T' rfl X'
  exact ⟨t2, st t2 a1, b1⟩
theorem PX.blind {D : va_G} {cy : Nat → ClassId} {h : AH} {av : List Value} : FrameBlind (PX D cy h av) := fun _ U g mk q => ⟨q.1, q.2.1, GX.same (s := U) rfl q.2.2⟩
theorem x_aft {C : CT} {h h1 : AH} {H H1 : Heap} {locs locs1 : List Loc} {cells slots k1 n1 k2 n2 : Nat} (hI : IX C h (k1 + k2) (n1 + n2) H locs cells slots) (hA : ∀ q, AX h q → c_A C q) (hB : HB (c_D C) (c_cy C) h1 H1) (hq : ∀ q, a_kd h1 q ≠ 0 → AX h q) (hS : va_S (c_A C) (c_H C) H1 locs1) : IX C h1 k2 n2 H1 locs1 (cells + k1) (slots + n1) := by
  have c1 := hI.2.2.2.1
  have c1' : _ ≤ C.2.2.2.1.cells := hI.2.2.2.1
  have c2 := hI.2.2.2.2
  have c2' : _ ≤ C.2.2.2.1.slots := hI.2.2.2.2
  exact ⟨hB, hS, fun q g => hA q (hq q g), by omega, by omega⟩
theorem x_hA {C : CT} {y : MethodName} {cc : ByteArray} {nL : Nat} {ret : Option FieldType} {F L : Nat} {h : AH} {k n : Nat} {H : Heap} {locs : List Loc} {cells slots : Nat} (hC : OKC C y cc nL ret F L) (hI : IX C h k n H locs cells slots) : ∀ q, AX h q → c_A C q := fun q hq => by
  rcases hq with g | g
  · exact hI.2.2.1 q g
  · exact hC.2.2.2.2.2.2.2.1 q (Nat.le_trans hI.2.1.1 (by rw [hI.1.1]; exact g))
def cV {β : Type} (h : AH) (r : Option Nat) (k : Nat) (f : Nat → Option β) : Option β := match r with | none => none | some a => if a_kd h a = k then f a else none
theorem x_callV {ρ2 : Type} {rv2 : ρ2 → Option Value} {y2 : MethodName} {cc2 : ByteArray} {nL2 F2 L2 index n2 ci : Nat} {ret2 : Option FieldType} {Cn : String} {w : vw_C} {As : List Value} {q : Option Nat} {z : Nat → RX ρ2} {f : ρ2 → AH → RX ρ} {stk : List Value} (hC : OKC C y cc nL ret F L) (hM : ∀ b, MX rv2 C.2.1 y2 (Cond.code y2 cc2 nL2 ret2 :: LW) F2 L2 (c_D C) (c_cy C) h (va_rf (some b) :: As) (z b)) (g1 : Cond.methodLink y.cls index y2 ∈ LW) (g2 : Cond.instanceMethod y2 ∈ LW) (g3 : Cond.selects Cn y2 y2 ∈ LW) (g4 : Cond.initialized Cn ∈ LW) (g5 : Cond.code y2 cc2 nL2 ret2 ∈ LW)
    (hd2 : y2.cls = Cn ∧ y2.cls ≠ "java/lang/invoke/MethodHandle" ∧ y2.cls ≠ "java/lang/invoke/VarHandle" ∧ (parseMethodDescriptor y2.desc).map (fun d => d.parameters.length) = some n2) (hR : F2 + 1 ≤ F ∧ 8 + (nL2 + 11) + L2 ≤ L) (hc : vwCl[ci]? = some w) (hcn : w.1 = Cn) (h11 : ci + 1 ≤ 11) (hn : As.length = n2) (hrest : (st.map fun v => v.category).sum ≤ 8) (hst : stk = As.reverse ++ va_rf q :: st) (hd : decode cc pc = .ok (.invokevirtual index, 3))
    {p' : Nat} (hp : pc + 3 = p') (kk : ∀ r1 h1, WX rv C p' lv ((rv2 r1).toList ++ st) h1 (f r1 h1)) : WX rv C pc lv stk h (cV h q (ci + 1) (fun b => bnd (z b) f)) := by
  subst hp
  subst hst
  cases q with
  | none => exact x_none
  | some b =>
    show WX rv C pc lv _ h (if a_kd h b = ci + 1 then bnd (z b) f else none)
    by_cases hk : a_kd h b = ci + 1
    · rw [if_pos hk]
      intro ls hl r h' k n e H locs cells slots hI
      obtain ⟨r1, h1, k1, n1, k2, m2, e1, e2, rfl, rfl⟩ := bnd_some e
      have hMet := hM b r1 h1 k1 n1 e1
      have c1 := hI.2.2.2.1
      have c1' : _ ≤ C.2.2.2.1.cells := hI.2.2.2.1
      have c2 := hI.2.2.2.2
      have c2' : _ ≤ C.2.2.2.1.slots := hI.2.2.2.2
      obtain ⟨cell, v1, v2, v3, -⟩ := (hI.1.2 b (by rw [hk]; omega)).obj hk h11
      have hcls := (hC.2.2.2.2.2.1.1.1 ci w hc).2
      refine x_run (k1 := k1) (n1 := n1) (va_runV (As := As) (rest := st) (b := b) (C := Cn) ⟨hC.1, hC.2.1, hC.2.2.1, hC.2.2.2.1, hC.2.2.2.2.1⟩ hMet (cwV n2 hC.2.2.2.2.1 (good_V g1 g2 g3 g4 g5) rfl rfl rfl hd2 ⟨by rw [hC.2.2.2.2.2.2.2.2.2.2.1]; exact hR.1, by rw [hC.2.2.2.2.2.2.2.2.2.2.2]; exact hR.2⟩) ⟨PX.blind, ⟨cell, v1, by rw [v3]; rfl, by rw [v2, ← hcn]; exact hcls.1⟩, fun U hU hW => ⟨rfl, by rw [hU]; exact hI.1, hC.2.2.2.2.2.1.warm hW⟩⟩ rfl hn (by rw [← hC.2.2.1]; exact hl.1) rfl (lv_room hrest) hd ⟨by omega, by omega⟩) hI.2.1 (x_hA hC hI) (fun H1 locs1 hB hq hS => ?_)
      exact kk r1 h1 ls hl r h' k2 m2 e2 H1 locs1 _ _ (x_aft hI (x_hA hC hI) hB hq hS)
    · rw [if_neg hk]; exact x_none
theorem x_callS {ρ2 : Type} {rv2 : ρ2 → Option Value} {y2 : MethodName} {cc2 : ByteArray} {nL2 F2 L2 index n2 : Nat} {ret2 : Option FieldType} {As : List Value} {z : RX ρ2} {f : ρ2 → AH → RX ρ} {stk : List Value} (hC : OKC C y cc nL ret F L) (hM : MX rv2 C.2.1 y2 (Cond.code y2 cc2 nL2 ret2 :: LW) F2 L2 (c_D C) (c_cy C) h As z) (g1 : Cond.methodLink y.cls index y2 ∈ LW) (g2 : Cond.static y2 ∈ LW) (g4 : Cond.initialized y2.cls ∈ LW) (g5 : Cond.code y2 cc2 nL2 ret2 ∈ LW)
    (hd2 : y2.cls ≠ "java/lang/invoke/MethodHandle" ∧ y2.cls ≠ "java/lang/invoke/VarHandle" ∧ (parseMethodDescriptor y2.desc).map (fun d => d.parameters.length) = some n2) (hR : F2 + 1 ≤ F ∧ 8 + (nL2 + 11) + L2 ≤ L) (hn : As.length = n2) (hrest : (st.map fun v => v.category).sum ≤ 8) (hst : stk = As.reverse ++ st) (hd : decode cc pc = .ok (.invokestatic index, 3))
    {p' : Nat} (hp : pc + 3 = p') (kk : ∀ r1 h1, WX rv C p' lv ((rv2 r1).toList ++ st) h1 (f r1 h1)) : WX rv C pc lv stk h (bnd z f) := by
  subst hp
  subst hst
  intro ls hl r h' k n e H locs cells slots hI
  obtain ⟨r1, h1, k1, n1, k2, m2, e1, e2, rfl, rfl⟩ := bnd_some e
  have hMet := hM r1 h1 k1 n1 e1
  have c1 := hI.2.2.2.1
  have c1' : _ ≤ C.2.2.2.1.cells := hI.2.2.2.1
  have c2 := hI.2.2.2.2
  have c2' : _ ≤ C.2.2.2.1.slots := hI.2.2.2.2
  refine x_run (k1 := k1) (n1 := n1) (va_runS (As := As) (rest := st) ⟨hC.1, hC.2.1, hC.2.2.1, hC.2.2.2.1, hC.2.2.2.2.1⟩ hMet (va_cwS n2 hC.2.2.2.2.1 (good_S g1 g2 g4 g5) rfl rfl rfl hd2 ⟨by rw [hC.2.2.2.2.2.2.2.2.2.2.1]; exact hR.1, by rw [hC.2.2.2.2.2.2.2.2.2.2.2]; exact hR.2⟩) ⟨PX.blind, fun U hU hW => ⟨rfl, by rw [hU]; exact hI.1, hC.2.2.2.2.2.1.warm hW⟩⟩ rfl hn (by rw [← hC.2.2.1]; exact hl.1) rfl (lv_room hrest) hd ⟨by omega, by omega⟩) hI.2.1 (x_hA hC hI) (fun H1 locs1 hB hq hS => ?_)
  exact kk r1 h1 ls hl r h' k2 m2 e2 H1 locs1 _ _ (x_aft hI (x_hA hC hI) hB hq hS)
theorem x_callI {ρ2 : Type} {rv2 : ρ2 → Option Value} {y2 : MethodName} {cc2 : ByteArray} {nL2 F2 L2 index n2 : Nat} {As : List Value} {b : Nat} {z : RX ρ2} {f : ρ2 → AH → RX ρ} {stk : List Value} (hC : OKC C y cc nL ret F L) (hM : MX rv2 C.2.1 y2 (Cond.code y2 cc2 nL2 none :: LW) F2 L2 (c_D C) (c_cy C) h (va_rf (some b) :: As) z) (g5 : Cond.code y2 cc2 nL2 none ∈ LW) (w1 : Cond.initialized y2.cls ∈ LW) (w2 : Cond.methodLink y.cls index y2 ∈ LW) (w3 : Cond.instanceMethod y2 ∈ LW) (hy : y2.name = "<init>")
    (hd2 : y2.cls ≠ "java/lang/invoke/MethodHandle" ∧ y2.cls ≠ "java/lang/invoke/VarHandle" ∧ (parseMethodDescriptor y2.desc).map (fun d => d.parameters.length) = some n2) (hR : F2 + 1 ≤ F ∧ 8 + (nL2 + 11) + L2 ≤ L) (hn : As.length = n2) (hrest : (st.map fun v => v.category).sum ≤ 8) (hst : stk = As.reverse ++ va_rf (some b) :: st) (hd : decode cc pc = .ok (.invokespecial index, 3))
    {p' : Nat} (hp : pc + 3 = p') (kk : ∀ r1 h1, WX rv C p' lv ((rv2 r1).toList ++ st) h1 (f r1 h1)) : WX rv C pc lv stk h (bnd z f) := by
  subst hp
  subst hst
  intro ls hl r h' k n e H locs cells slots hI
  obtain ⟨r1, h1, k1, n1, k2, m2, e1, e2, rfl, rfl⟩ := bnd_some e
  have hMet := hM r1 h1 k1 n1 e1
  have hts := hC.2.2.2.2.1
  have c1 := hI.2.2.2.1
  have c1' : _ ≤ C.2.2.2.1.cells := hI.2.2.2.1
  have c2 := hI.2.2.2.2
  have c2' : _ ≤ C.2.2.2.1.slots := hI.2.2.2.2
  refine x_run (k1 := k1) (n1 := n1) (va_runI (As := As) (rest := st) (b := b) ⟨hC.1, hC.2.1, hC.2.2.1, hC.2.2.2.1, hC.2.2.2.2.1⟩ hMet (cwI n2 hC.2.2.2.2.1 (good_C g5) rfl rfl rfl (hts _ w1) (hts _ w2) (hts _ w3) hy hd2 ⟨by rw [hC.2.2.2.2.2.2.2.2.2.2.1]; exact hR.1, by rw [hC.2.2.2.2.2.2.2.2.2.2.2]; exact hR.2⟩) ⟨PX.blind, fun U hU hW => ⟨rfl, by rw [hU]; exact hI.1, hC.2.2.2.2.2.1.warm hW⟩⟩ rfl hn (by rw [← hC.2.2.1]; exact hl.1) rfl (lv_room hrest) hd ⟨by omega, by omega⟩) hI.2.1 (x_hA hC hI) (fun H1 locs1 hB hq hS => ?_)
  exact kk r1 h1 ls hl r h' k2 m2 e2 H1 locs1 _ _ (x_aft hI (x_hA hC hI) hB hq hS)
theorem x_callIN {ρ2 : Type} {rv2 : ρ2 → Option Value} {y2 : MethodName} {cc2 : ByteArray} {nL2 F2 L2 index n2 : Nat} {host : String} {As : List Value} {b : Nat} {z : RX ρ2} {f : ρ2 → AH → RX ρ} {stk : List Value} (hC : OKC C y cc nL ret F L) (hM : MX rv2 C.2.1 y2 (Cond.code y2 cc2 nL2 none :: LW) F2 L2 (c_D C) (c_cy C) h (va_rf (some b) :: As) z) (g5 : Cond.code y2 cc2 nL2 none ∈ LW) (w1 : Cond.initialized y2.cls ∈ LW) (w2 : va_Nw (.methodLinkNest y.cls index y2 host) (c_s C)) (w3 : Cond.instanceMethod y2 ∈ LW) (hy : y2.name = "<init>")
    (hd2 : y2.cls ≠ "java/lang/invoke/MethodHandle" ∧ y2.cls ≠ "java/lang/invoke/VarHandle" ∧ (parseMethodDescriptor y2.desc).map (fun d => d.parameters.length) = some n2) (hR : F2 + 1 ≤ F ∧ 8 + (nL2 + 11) + L2 ≤ L) (hn : As.length = n2) (hrest : (st.map fun v => v.category).sum ≤ 8) (hst : stk = As.reverse ++ va_rf (some b) :: st) (hd : decode cc pc = .ok (.invokespecial index, 3))
    {p' : Nat} (hp : pc + 3 = p') (kk : ∀ r1 h1, WX rv C p' lv ((rv2 r1).toList ++ st) h1 (f r1 h1)) : WX rv C pc lv stk h (bnd z f) := by
  subst hp
  subst hst
  intro ls hl r h' k n e H locs cells slots hI
  obtain ⟨r1, h1, k1, n1, k2, m2, e1, e2, rfl, rfl⟩ := bnd_some e
  have hMet := hM r1 h1 k1 n1 e1
  have hts := hC.2.2.2.2.1
  have c1 := hI.2.2.2.1
  have c1' : _ ≤ C.2.2.2.1.cells := hI.2.2.2.1
  have c2 := hI.2.2.2.2
  have c2' : _ ≤ C.2.2.2.1.slots := hI.2.2.2.2
  refine x_run (k1 := k1) (n1 := n1) (va_runIN (As := As) (rest := st) (b := b) (host := host) ⟨hC.1, hC.2.1, hC.2.2.1, hC.2.2.2.1, hC.2.2.2.2.1⟩ hMet ⟨va_cnB n2 hC.2.2.2.2.1 (good_C g5) rfl rfl rfl w2 (hts _ w1) hd2 ⟨by rw [hC.2.2.2.2.2.2.2.2.2.2.1]; exact hR.1, by rw [hC.2.2.2.2.2.2.2.2.2.2.2]; exact hR.2⟩, hy, hts _ w3⟩ ⟨PX.blind, fun U hU hW => ⟨rfl, by rw [hU]; exact hI.1, hC.2.2.2.2.2.1.warm hW⟩⟩ rfl hn (by rw [← hC.2.2.1]; exact hl.1) rfl (lv_room hrest) hd ⟨by omega, by omega⟩) hI.2.1 (x_hA hC hI) (fun H1 locs1 hB hq hS => ?_)
  exact kk r1 h1 ls hl r h' k2 m2 e2 H1 locs1 _ _ (x_aft hI (x_hA hC hI) hB hq hS)
theorem x_objInit {index : Nat} {q : Option Nat} (hC : OKC C y cc nL ret F L) (w1 : Cond.methodLink y.cls index objectInit ∈ LW) (w2 : Cond.instanceMethod objectInit ∈ LW) (w3 : Cond.code objectInit ⟨#[0xb1]⟩ 1 none ∈ LW) (hR : 1 ≤ F ∧ (st.map fun v => v.category).sum + 12 ≤ L) (hd : decode cc pc = .ok (.invokespecial index, 3)) {p' : Nat} (hp : pc + 3 = p') (kk : WX rv C p' lv st h x) : WX rv C pc lv (va_rf q :: st) h (nn q none (fun _ => x)) := by
  subst hp
  cases q with
  | none => exact x_none
  | some b =>
    intro ls hl r h' k n e H locs cells slots hI
    have hts := hC.2.2.2.2.1
    have c2 : (c_R C).locals = L := hC.2.2.2.2.2.2.2.2.2.2.2
    exact W.objInit hC.1 hC.2.1 hC.2.2.2.1 (hts _ w1) (hts _ w2) (hts _ w3) rfl hl.1 rfl hd (by rw [hC.2.2.2.2.2.2.2.2.2.2.1]; exact hR.1) (by show 2 * 0 + _ + 12 ≤ _; rw [c2]; have := hR.2; omega) (kk ls hl r h' k n e H locs cells slots hI)
theorem x_mathMin {index : Nat} {a b : Int32} (hC : OKC C y cc nL ret F L) (w1 : Cond.methodLink y.cls index Lib.Math.min.name ∈ LW) (w2 : Cond.static Lib.Math.min.name ∈ LW) (w3 : Cond.initialized "java/lang/Math" ∈ LW) (w4 : Cond.code Lib.Math.min.name Lib.Math.min.code 2 (some .int) ∈ LW) (hR : 1 ≤ F ∧ (st.map fun v => v.category).sum + 13 ≤ L) (hd : decode cc pc = .ok (.invokestatic index, 3)) {p' : Nat} (hp : pc + 3 = p') (kk : WX rv C p' lv (.int (if b < a then b else a) :: st) h x) : WX rv C pc lv (.int b :: .int a :: st) h x := by
  subst hp
  intro ls hl r h' k n e H locs cells slots hI
  have hts := hC.2.2.2.2.1
  have c1 := hI.2.2.2.1
  have c1' : _ ≤ C.2.2.2.1.cells := hI.2.2.2.1
  have c2 := hI.2.2.2.2
  have c2' : _ ≤ C.2.2.2.1.slots := hI.2.2.2.2
  exact va_mmin hC.1 hC.2.1 hl.1.symm hC.2.2.2.1 (hts _ w1) (hts _ w2) (hts _ w3) (hts _ w4) (by rw [hC.2.2.2.2.2.2.2.2.2.2.1]; exact hR.1) (by rw [hC.2.2.2.2.2.2.2.2.2.2.2]; exact hR.2) (by omega) (by omega) hd (kk ls hl r h' k n e H locs cells slots hI)
theorem x_mathMax {index : Nat} {a b : Int32} (hC : OKC C y cc nL ret F L) (w1 : Cond.methodLink y.cls index Lib.Math.max.name ∈ LW) (w2 : Cond.static Lib.Math.max.name ∈ LW) (w3 : Cond.initialized "java/lang/Math" ∈ LW) (w4 : Cond.code Lib.Math.max.name Lib.Math.max.code 2 (some .int) ∈ LW) (hR : 1 ≤ F ∧ (st.map fun v => v.category).sum + 13 ≤ L) (hd : decode cc pc = .ok (.invokestatic index, 3)) {p' : Nat} (hp : pc + 3 = p') (kk : WX rv C p' lv (.int (if a < b then b else a) :: st) h x) : WX rv C pc lv (.int b :: .int a :: st) h x := by
  subst hp
  intro ls hl r h' k n e H locs cells slots hI
  have hts := hC.2.2.2.2.1
  have c1 := hI.2.2.2.1
  have c1' : _ ≤ C.2.2.2.1.cells := hI.2.2.2.1
  have c2 := hI.2.2.2.2
  have c2' : _ ≤ C.2.2.2.1.slots := hI.2.2.2.2
  exact va_mmax hC.1 hC.2.1 hl.1.symm hC.2.2.2.1 (hts _ w1) (hts _ w2) (hts _ w3) (hts _ w4) (by rw [hC.2.2.2.2.2.2.2.2.2.2.1]; exact hR.1) (by rw [hC.2.2.2.2.2.2.2.2.2.2.2]; exact hR.2) (by omega) (by omega) hd (kk ls hl r h' k n e H locs cells slots hI)
theorem x_callVI {y2 : MethodName} {cc2 : ByteArray} {nL2 F2 L2 index n2 ci : Nat} {ret2 : Option FieldType} {Cn : String} {w : vw_C} {As : List Value} {q : Option Nat} {z : Nat → RX Int32} {f : Int32 → AH → RX ρ} {stk : List Value} (hC : OKC C y cc nL ret F L) (hM : ∀ b, MX rvI C.2.1 y2 (Cond.code y2 cc2 nL2 ret2 :: LW) F2 L2 (c_D C) (c_cy C) h (va_rf (some b) :: As) (z b)) (g1 : Cond.methodLink y.cls index y2 ∈ LW) (g2 : Cond.instanceMethod y2 ∈ LW) (g3 : Cond.selects Cn y2 y2 ∈ LW) (g4 : Cond.initialized Cn ∈ LW) (g5 : Cond.code y2 cc2 nL2 ret2 ∈ LW)
    (hd2 : y2.cls = Cn ∧ y2.cls ≠ "java/lang/invoke/MethodHandle" ∧ y2.cls ≠ "java/lang/invoke/VarHandle" ∧ (parseMethodDescriptor y2.desc).map (fun d => d.parameters.length) = some n2) (hR : F2 + 1 ≤ F ∧ 8 + (nL2 + 11) + L2 ≤ L) (hc : vwCl[ci]? = some w) (hcn : w.1 = Cn) (h11 : ci + 1 ≤ 11) (hn : As.length = n2) (hrest : (st.map fun v => v.category).sum ≤ 8) (hst : stk = As.reverse ++ va_rf q :: st) (hd : decode cc pc = .ok (.invokevirtual index, 3))
    {p' : Nat} (hp : pc + 3 = p') (kk : ∀ r1 h1, WX rv C p' lv (.int r1 :: st) h1 (f r1 h1)) : WX rv C pc lv stk h (cV h q (ci + 1) (fun b => bnd (z b) f)) := x_callV (rv2 := rvI) hC hM g1 g2 g3 g4 g5 hd2 hR hc hcn h11 hn hrest hst hd hp kk
theorem x_callVV {y2 : MethodName} {cc2 : ByteArray} {nL2 F2 L2 index n2 ci : Nat} {ret2 : Option FieldType} {Cn : String} {w : vw_C} {As : List Value} {q : Option Nat} {z : Nat → RX Unit} {f : Unit → AH → RX ρ} {stk : List Value} (hC : OKC C y cc nL ret F L) (hM : ∀ b, MX rvV C.2.1 y2 (Cond.code y2 cc2 nL2 ret2 :: LW) F2 L2 (c_D C) (c_cy C) h (va_rf (some b) :: As) (z b)) (g1 : Cond.methodLink y.cls index y2 ∈ LW) (g2 : Cond.instanceMethod y2 ∈ LW) (g3 : Cond.selects Cn y2 y2 ∈ LW) (g4 : Cond.initialized Cn ∈ LW) (g5 : Cond.code y2 cc2 nL2 ret2 ∈ LW)
    (hd2 : y2.cls = Cn ∧ y2.cls ≠ "java/lang/invoke/MethodHandle" ∧ y2.cls ≠ "java/lang/invoke/VarHandle" ∧ (parseMethodDescriptor y2.desc).map (fun d => d.parameters.length) = some n2) (hR : F2 + 1 ≤ F ∧ 8 + (nL2 + 11) + L2 ≤ L) (hc : vwCl[ci]? = some w) (hcn : w.1 = Cn) (h11 : ci + 1 ≤ 11) (hn : As.length = n2) (hrest : (st.map fun v => v.category).sum ≤ 8) (hst : stk = As.reverse ++ va_rf q :: st) (hd : decode cc pc = .ok (.invokevirtual index, 3))
    {p' : Nat} (hp : pc + 3 = p') (kk : ∀ r1 h1, WX rv C p' lv st h1 (f r1 h1)) : WX rv C pc lv stk h (cV h q (ci + 1) (fun b => bnd (z b) f)) := x_callV (rv2 := rvV) hC hM g1 g2 g3 g4 g5 hd2 hR hc hcn h11 hn hrest hst hd hp kk
theorem x_callVR {y2 : MethodName} {cc2 : ByteArray} {nL2 F2 L2 index n2 ci : Nat} {ret2 : Option FieldType} {Cn : String} {w : vw_C} {As : List Value} {q : Option Nat} {z : Nat → RX (Option Nat)} {f : (Option Nat) → AH → RX ρ} {stk : List Value} (hC : OKC C y cc nL ret F L) (hM : ∀ b, MX rvR C.2.1 y2 (Cond.code y2 cc2 nL2 ret2 :: LW) F2 L2 (c_D C) (c_cy C) h (va_rf (some b) :: As) (z b)) (g1 : Cond.methodLink y.cls index y2 ∈ LW) (g2 : Cond.instanceMethod y2 ∈ LW) (g3 : Cond.selects Cn y2 y2 ∈ LW) (g4 : Cond.initialized Cn ∈ LW) (g5 : Cond.code y2 cc2 nL2 ret2 ∈ LW)
    (hd2 : y2.cls = Cn ∧ y2.cls ≠ "java/lang/invoke/MethodHandle" ∧ y2.cls ≠ "java/lang/invoke/VarHandle" ∧ (parseMethodDescriptor y2.desc).map (fun d => d.parameters.length) = some n2) (hR : F2 + 1 ≤ F ∧ 8 + (nL2 + 11) + L2 ≤ L) (hc : vwCl[ci]? = some w) (hcn : w.1 = Cn) (h11 : ci + 1 ≤ 11) (hn : As.length = n2) (hrest : (st.map fun v => v.category).sum ≤ 8) (hst : stk = As.reverse ++ va_rf q :: st) (hd : decode cc pc = .ok (.invokevirtual index, 3))
    {p' : Nat} (hp : pc + 3 = p') (kk : ∀ r1 h1, WX rv C p' lv (va_rf r1 :: st) h1 (f r1 h1)) : WX rv C pc lv stk h (cV h q (ci + 1) (fun b => bnd (z b) f)) := x_callV (rv2 := rvR) hC hM g1 g2 g3 g4 g5 hd2 hR hc hcn h11 hn hrest hst hd hp kk
theorem x_callSI {y2 : MethodName} {cc2 : ByteArray} {nL2 F2 L2 index n2 : Nat} {ret2 : Option FieldType} {As : List Value} {z : RX Int32} {f : Int32 → AH → RX ρ} {stk : List Value} (hC : OKC C y cc nL ret F L) (hM : MX rvI C.2.1 y2 (Cond.code y2 cc2 nL2 ret2 :: LW) F2 L2 (c_D C) (c_cy C) h As z) (g1 : Cond.methodLink y.cls index y2 ∈ LW) (g2 : Cond.static y2 ∈ LW) (g4 : Cond.initialized y2.cls ∈ LW) (g5 : Cond.code y2 cc2 nL2 ret2 ∈ LW)
    (hd2 : y2.cls ≠ "java/lang/invoke/MethodHandle" ∧ y2.cls ≠ "java/lang/invoke/VarHandle" ∧ (parseMethodDescriptor y2.desc).map (fun d => d.parameters.length) = some n2) (hR : F2 + 1 ≤ F ∧ 8 + (nL2 + 11) + L2 ≤ L) (hn : As.length = n2) (hrest : (st.map fun v => v.category).sum ≤ 8) (hst : stk = As.reverse ++ st) (hd : decode cc pc = .ok (.invokestatic index, 3))
    {p' : Nat} (hp : pc + 3 = p') (kk : ∀ r1 h1, WX rv C p' lv (.int r1 :: st) h1 (f r1 h1)) : WX rv C pc lv stk h (bnd z f) := x_callS (rv2 := rvI) hC hM g1 g2 g4 g5 hd2 hR hn hrest hst hd hp kk
theorem x_callSV {y2 : MethodName} {cc2 : ByteArray} {nL2 F2 L2 index n2 : Nat} {ret2 : Option FieldType} {As : List Value} {z : RX Unit} {f : Unit → AH → RX ρ} {stk : List Value} (hC : OKC C y cc nL ret F L) (hM : MX rvV C.2.1 y2 (Cond.code y2 cc2 nL2 ret2 :: LW) F2 L2 (c_D C) (c_cy C) h As z) (g1 : Cond.methodLink y.cls index y2 ∈ LW) (g2 : Cond.static y2 ∈ LW) (g4 : Cond.initialized y2.cls ∈ LW) (g5 : Cond.code y2 cc2 nL2 ret2 ∈ LW)
    (hd2 : y2.cls ≠ "java/lang/invoke/MethodHandle" ∧ y2.cls ≠ "java/lang/invoke/VarHandle" ∧ (parseMethodDescriptor y2.desc).map (fun d => d.parameters.length) = some n2) (hR : F2 + 1 ≤ F ∧ 8 + (nL2 + 11) + L2 ≤ L) (hn : As.length = n2) (hrest : (st.map fun v => v.category).sum ≤ 8) (hst : stk = As.reverse ++ st) (hd : decode cc pc = .ok (.invokestatic index, 3))
    {p' : Nat} (hp : pc + 3 = p') (kk : ∀ r1 h1, WX rv C p' lv st h1 (f r1 h1)) : WX rv C pc lv stk h (bnd z f) := x_callS (rv2 := rvV) hC hM g1 g2 g4 g5 hd2 hR hn hrest hst hd hp kk
theorem x_callSR {y2 : MethodName} {cc2 : ByteArray} {nL2 F2 L2 index n2 : Nat} {ret2 : Option FieldType} {As : List Value} {z : RX (Option Nat)} {f : (Option Nat) → AH → RX ρ} {stk : List Value} (hC : OKC C y cc nL ret F L) (hM : MX rvR C.2.1 y2 (Cond.code y2 cc2 nL2 ret2 :: LW) F2 L2 (c_D C) (c_cy C) h As z) (g1 : Cond.methodLink y.cls index y2 ∈ LW) (g2 : Cond.static y2 ∈ LW) (g4 : Cond.initialized y2.cls ∈ LW) (g5 : Cond.code y2 cc2 nL2 ret2 ∈ LW)
    (hd2 : y2.cls ≠ "java/lang/invoke/MethodHandle" ∧ y2.cls ≠ "java/lang/invoke/VarHandle" ∧ (parseMethodDescriptor y2.desc).map (fun d => d.parameters.length) = some n2) (hR : F2 + 1 ≤ F ∧ 8 + (nL2 + 11) + L2 ≤ L) (hn : As.length = n2) (hrest : (st.map fun v => v.category).sum ≤ 8) (hst : stk = As.reverse ++ st) (hd : decode cc pc = .ok (.invokestatic index, 3))
    {p' : Nat} (hp : pc + 3 = p') (kk : ∀ r1 h1, WX rv C p' lv (va_rf r1 :: st) h1 (f r1 h1)) : WX rv C pc lv stk h (bnd z f) := x_callS (rv2 := rvR) hC hM g1 g2 g4 g5 hd2 hR hn hrest hst hd hp kk
theorem x_callIV {y2 : MethodName} {cc2 : ByteArray} {nL2 F2 L2 index n2 : Nat} {As : List Value} {b : Nat} {z : RX Unit} {f : Unit → AH → RX ρ} {stk : List Value} (hC : OKC C y cc nL ret F L) (hM : MX rvV C.2.1 y2 (Cond.code y2 cc2 nL2 none :: LW) F2 L2 (c_D C) (c_cy C) h (va_rf (some b) :: As) z) (g5 : Cond.code y2 cc2 nL2 none ∈ LW) (w1 : Cond.initialized y2.cls ∈ LW) (w2 : Cond.methodLink y.cls index y2 ∈ LW) (w3 : Cond.instanceMethod y2 ∈ LW) (hy : y2.name = "<init>")
    (hd2 : y2.cls ≠ "java/lang/invoke/MethodHandle" ∧ y2.cls ≠ "java/lang/invoke/VarHandle" ∧ (parseMethodDescriptor y2.desc).map (fun d => d.parameters.length) = some n2) (hR : F2 + 1 ≤ F ∧ 8 + (nL2 + 11) + L2 ≤ L) (hn : As.length = n2) (hrest : (st.map fun v => v.category).sum ≤ 8) (hst : stk = As.reverse ++ va_rf (some b) :: st) (hd : decode cc pc = .ok (.invokespecial index, 3))
    {p' : Nat} (hp : pc + 3 = p') (kk : ∀ r1 h1, WX rv C p' lv st h1 (f r1 h1)) : WX rv C pc lv stk h (bnd z f) := x_callI (rv2 := rvV) hC hM g5 w1 w2 w3 hy hd2 hR hn hrest hst hd hp kk
theorem x_callINV {y2 : MethodName} {cc2 : ByteArray} {nL2 F2 L2 index n2 : Nat} {host : String} {As : List Value} {b : Nat} {z : RX Unit} {f : Unit → AH → RX ρ} {stk : List Value} (hC : OKC C y cc nL ret F L) (hM : MX rvV C.2.1 y2 (Cond.code y2 cc2 nL2 none :: LW) F2 L2 (c_D C) (c_cy C) h (va_rf (some b) :: As) z) (g5 : Cond.code y2 cc2 nL2 none ∈ LW) (w1 : Cond.initialized y2.cls ∈ LW) (w2 : va_Nw (.methodLinkNest y.cls index y2 host) (c_s C)) (w3 : Cond.instanceMethod y2 ∈ LW) (hy : y2.name = "<init>")
    (hd2 : y2.cls ≠ "java/lang/invoke/MethodHandle" ∧ y2.cls ≠ "java/lang/invoke/VarHandle" ∧ (parseMethodDescriptor y2.desc).map (fun d => d.parameters.length) = some n2) (hR : F2 + 1 ≤ F ∧ 8 + (nL2 + 11) + L2 ≤ L) (hn : As.length = n2) (hrest : (st.map fun v => v.category).sum ≤ 8) (hst : stk = As.reverse ++ va_rf (some b) :: st) (hd : decode cc pc = .ok (.invokespecial index, 3))
    {p' : Nat} (hp : pc + 3 = p') (kk : ∀ r1 h1, WX rv C p' lv st h1 (f r1 h1)) : WX rv C pc lv stk h (bnd z f) := x_callIN (rv2 := rvV) hC hM g5 w1 w2 w3 hy hd2 hR hn hrest hst hd hp kk
-- copies
def cpI {β : Type} (h : AH) (r : Option Nat) (sp : Int32) (d : Option Nat) (dp n : Int32) (f : AH → Option β) : Option β := match r with
  | none => none
  | some a => match d with
    | none => none
    | some b => if a_kd h a = 12 ∧ a_kd h b = 12 ∧ 0 ≤ sp ∧ 0 ≤ dp ∧ 0 ≤ n ∧ sp.toNatClampNeg + n.toNatClampNeg ≤ a_ln h a ∧ dp.toNatClampNeg + n.toNatClampNeg ≤ a_ln h b then f (a_si h b (va_cpy (a_gi h a) (a_gi h b) sp.toNatClampNeg dp.toNatClampNeg n.toNatClampNeg)) else none
theorem x_nn0 {z : Int32} (h : 0 ≤ z) : ¬ z < 0 := fun q => by
  rw [Int32.le_iff_toInt_le] at h
  rw [Int32.lt_iff_toInt_lt] at q
  omega
theorem x_nnT {z : Int32} (h : 0 ≤ z) : z.toInt = (z.toNatClampNeg : Int) := by
  have h0 : (0 : Int) ≤ z.toInt := by simpa using Int32.le_iff_toInt_le.mp h
  show z.toInt = ((z.toInt.toNat : Nat) : Int)
  omega
theorem x_copy {index : Nat} {q d : Option Nat} {sp dp i : Int32} {f : AH → RX ρ} (hC : OKC C y cc nL ret F L) (w1 : Cond.methodLink y.cls index arraycopyName ∈ LW) (w2 : Cond.native arraycopyName ∈ LW) (w3 : Cond.static arraycopyName ∈ LW) (w4 : Cond.initialized "java/lang/System" ∈ LW) (hR : 1 ≤ F ∧ (st.map fun v => v.category).sum + (nativeFrameWords "java/lang/System" "arraycopy" 5 + 11) ≤ L) (hd : decode cc pc = .ok (.invokestatic index, 3)) {p' : Nat} (hp : pc + 3 = p') (kk : ∀ h2, WX rv C p' lv st h2 (f h2)) : WX rv C pc lv (.int i :: .int dp :: va_rf d :: .int sp :: va_rf q :: st) h (cpI h q sp d dp i f) := by
  subst hp
  cases q with
  | none => exact x_none
  | some a =>
    cases d with
    | none => exact x_none
    | some b =>
      show WX rv C pc lv _ h (if a_kd h a = 12 ∧ a_kd h b = 12 ∧ 0 ≤ sp ∧ 0 ≤ dp ∧ 0 ≤ i ∧ sp.toNatClampNeg + i.toNatClampNeg ≤ a_ln h a ∧ dp.toNatClampNeg + i.toNatClampNeg ≤ a_ln h b then f (a_si h b (va_cpy (a_gi h a) (a_gi h b) sp.toNatClampNeg dp.toNatClampNeg i.toNatClampNeg)) else none)
      by_cases hk : a_kd h a = 12 ∧ a_kd h b = 12 ∧ 0 ≤ sp ∧ 0 ≤ dp ∧ 0 ≤ i ∧ sp.toNatClampNeg + i.toNatClampNeg ≤ a_ln h a ∧ dp.toNatClampNeg + i.toNatClampNeg ≤ a_ln h b
      · rw [if_pos hk]
        obtain ⟨ka, kb, h1, h2, h3, h4, h5⟩ := hk
        intro ls hl r h' k n e H locs cells slots hI
        have hts := hC.2.2.2.2.1
        have hA : c_A C b := hI.2.2.1 b (by rw [kb]; omega)
        have hat := (hI.1.2 a (by rw [ka]; omega)).int ka (by omega) (by omega)
        have hbt := (hI.1.2 b (by rw [kb]; omega)).int kb (by omega) (by omega)
        obtain ⟨-, k0, hk0, cm0, hkk0⟩ := (hC.arr 0 rfl).1 (a_ln h a) (fun j => .int (a_gi h a j))
        intro T hT X
        have c4 : C.2.2.2.1.locals = L := hC.2.2.2.2.2.2.2.2.2.2.2
        have c3 : C.2.2.2.1.frames = F := hC.2.2.2.2.2.2.2.2.2.2.1
        obtain ⟨vm', X', step⟩ := X.arraycopy hC.1 hC.2.2.2.1 (hts _ w1) (hts _ w2) (hts _ w3) (hts _ w4) (src := a) (dst := b) (cs := arrV (c_cy C 12) (a_ln h a) (fun j => .int (a_gi h a j))) (cd := arrV (c_cy C 12) (a_ln h b) (fun j => .int (a_gi h b j))) (srcPos := sp) (destPos := dp) (n := i) (by rw [hT]; exact hat) (by rw [hT]; exact hbt)
          (fun _ z => by cases z) (fun _ z => by cases z) (fun z => by cases z) (fun z => by cases z) hk0 hk0 hkk0 hkk0 (by simp [refKind]) (x_nn0 h1) (x_nn0 h2) (x_nn0 h3)
          (by rw [x_nnT h1, x_nnT h3, arrV_size]; omega)
          (by rw [x_nnT h2, x_nnT h3, arrV_size]; omega)
          (fun vm₁ _ j hj => by
            have e9 : (arrV (c_cy C 12) (a_ln h a) (fun j => .int (a_gi h a j))).slots.getD (sp.toNatClampNeg + j) .null = .int (a_gi h a (sp.toNatClampNeg + j)) := by
              rw [Array.getD_eq_getD_getElem?, arrV_read _ _ (by omega)]
              rfl
            refine ⟨?_, ?_⟩
            · rw [e9]; rfl
            · rw [e9]; exact trivial)
          (g := F0 (c_m C) pc ls (.int i :: .int dp :: .ref b :: .int sp :: .ref a :: st)) rfl hl.1 (rest := st) rfl (by rw [hC.2.1]; exact hd) (by rw [c3]; exact hR.1) (by show 2 * 0 + _ + _ ≤ _; rw [c4]; have := hR.2; omega)
        have e1 : copied (arrV (c_cy C 12) (a_ln h a) (fun j => .int (a_gi h a j))) (arrV (c_cy C 12) (a_ln h b) (fun j => .int (a_gi h b j))) sp dp i = arrV (c_cy C 12) (a_ln h b) (fun j => .int (va_cpy (a_gi h a) (a_gi h b) sp.toNatClampNeg dp.toNatClampNeg i.toNatClampNeg j)) := va_copied (fun z => .int z) _ _ _ _ h4
        rw [e1] at X' step
        have hlt : b < H.size := (Array.getElem?_eq_some_iff.mp hbt).1
        have g3 : ∀ q : Nat, q ≠ b → (H.setIfInBounds b (arrV (c_cy C 12) (a_ln h b) (fun j => .int (va_cpy (a_gi h a) (a_gi h b) sp.toNatClampNeg dp.toNatClampNeg i.toNatClampNeg j))))[q]? = H[q]? := fun q hq => by simp [Array.getElem?_setIfInBounds, Ne.symm hq]
        obtain ⟨t, a1, b1⟩ := kk _ ls hl r h' k n e (H.setIfInBounds b (arrV (c_cy C 12) (a_ln h b) (fun j => .int (va_cpy (a_gi h a) (a_gi h b) sp.toNatClampNeg dp.toNatClampNeg i.toNatClampNeg j)))) _ cells slots ⟨hb_si (f := va_cpy (a_gi h a) (a_gi h b) sp.toNatClampNeg dp.toNatClampNeg i.toNatClampNeg) hI.1 (by simp) g3 (fun _ => by
            unfold a_at
            rw [show a_kd (a_si h b (va_cpy (a_gi h a) (a_gi h b) sp.toNatClampNeg dp.toNatClampNeg i.toNatClampNeg)) b = 12 from kb, if_neg (by omega), if_pos (by omega), show a_gi (a_si h b (va_cpy (a_gi h a) (a_gi h b) sp.toNatClampNeg dp.toNatClampNeg i.toNatClampNeg)) b = va_cpy (a_gi h a) (a_gi h b) sp.toNatClampNeg dp.toNatClampNeg i.toNatClampNeg from va_up_at _ _ _]
            simp [Array.getElem?_setIfInBounds, hlt]
            rfl), ⟨by simp; exact hI.2.1.1, fun q g1 g2 => by
              rw [g3 q (fun z => g2 (by rw [z]; exact hA))]
              exact hI.2.1.2.1 q g1 g2, fun q hq => by
              rcases List.mem_append.mp hq with z | z
              · exact hI.2.1.2.2 q z
              · obtain ⟨w, -, hw⟩ := List.mem_map.mp z
                rw [← hw]
                exact hA⟩, hI.2.2.1, hI.2.2.2.1, hI.2.2.2.2⟩ _ (by rw [← hT]; rfl) X'
        exact ⟨t, step t a1, b1⟩
      · rw [if_neg hk]; exact x_none
theorem OKC.ao_Answer {C : CT} {y : MethodName} {cc : ByteArray} {nL : Nat} {ret : Option FieldType} {F L : Nat} (hC : OKC C y cc nL ret F L) : va_AO "GoldenKeeper$Answer" (c_s C) := hC.2.2.2.2.2.1.2.2.2.2.2.2.2.1
theorem OKC.ao_Entry {C : CT} {y : MethodName} {cc : ByteArray} {nL : Nat} {ret : Option FieldType} {F L : Nat} (hC : OKC C y cc nL ret F L) : va_AO "GoldenKeeper$Entry" (c_s C) := hC.2.2.2.2.2.1.2.2.2.2.2.2.2.2.1
theorem OKC.ao_Row {C : CT} {y : MethodName} {cc : ByteArray} {nL : Nat} {ret : Option FieldType} {F L : Nat} (hC : OKC C y cc nL ret F L) : va_AO "GoldenKeeper$Row" (c_s C) := hC.2.2.2.2.2.1.2.2.2.2.2.2.2.2.2.1
theorem OKC.ao_Slot {C : CT} {y : MethodName} {cc : ByteArray} {nL : Nat} {ret : Option FieldType} {F L : Nat} (hC : OKC C y cc nL ret F L) : va_AO "GoldenKeeper$Slot" (c_s C) := hC.2.2.2.2.2.1.2.2.2.2.2.2.2.2.2.2.1
theorem OKC.aoa {C : CT} {y : MethodName} {cc : ByteArray} {nL : Nat} {ret : Option FieldType} {F L : Nat} (hC : OKC C y cc nL ret F L) : AOI (c_s C) := hC.2.2.2.2.2.1.2.2.2.2.2.2.2.2.2.2.2
theorem OKC.nest_Differ {C : CT} {y : MethodName} {cc : ByteArray} {nL : Nat} {ret : Option FieldType} {F L : Nat} (hC : OKC C y cc nL ret F L) : va_Nw (.methodLinkNest RX10 23 yX2_init RX10) (c_s C) := hC.2.2.2.2.2.1.2.1
theorem OKC.nest_Draft {C : CT} {y : MethodName} {cc : ByteArray} {nL : Nat} {ret : Option FieldType} {F L : Nat} (hC : OKC C y cc nL ret F L) : va_Nw (.methodLinkNest RX10 30 yX3_init RX10) (c_s C) := hC.2.2.2.2.2.1.2.2.1
theorem OKC.nest_Groups {C : CT} {y : MethodName} {cc : ByteArray} {nL : Nat} {ret : Option FieldType} {F L : Nat} (hC : OKC C y cc nL ret F L) : va_Nw (.methodLinkNest RX10 37 yX6_init RX10) (c_s C) := hC.2.2.2.2.2.1.2.2.2.1
theorem OKC.nest_Row {C : CT} {y : MethodName} {cc : ByteArray} {nL : Nat} {ret : Option FieldType} {F L : Nat} (hC : OKC C y cc nL ret F L) : va_Nw (.methodLinkNest RX10 75 yX7_init RX10) (c_s C) := hC.2.2.2.2.2.1.2.2.2.2.1
theorem OKC.nest_Changes {C : CT} {y : MethodName} {cc : ByteArray} {nL : Nat} {ret : Option FieldType} {F L : Nat} (hC : OKC C y cc nL ret F L) : va_Nw (.methodLinkNest RX8 20 yX1_init RX10) (c_s C) := hC.2.2.2.2.2.1.2.2.2.2.2.1
theorem OKC.cast {C : CT} {y : MethodName} {cc : ByteArray} {nL : Nat} {ret : Option FieldType} {F L : Nat} (hC : OKC C y cc nL ret F L) : va_Nw (.castable "[I" "java/lang/Cloneable") (c_s C) := hC.2.2.2.2.2.1.2.2.2.2.2.2.1
def clI {ρ : Type} (h : AH) (r : Option Nat) (f : Nat → AH → RX ρ) : RX ρ := match r with
  | none => none
  | some a => if a_kd h a = 12 then wA 1 (a_ln h a) (f (a_nx h) (a_si (a_mk h 12 (a_ln h a)) (a_nx h) (a_gi h a))) else none
theorem x_clone {index : Nat} {q : Option Nat} {f : Nat → AH → RX ρ} (hC : OKC C y cc nL ret F L) (w1 : Cond.methodLink y.cls index ⟨"[I", "clone", "()Ljava/lang/Object;"⟩ ∈ LW) (w2 : Cond.sameMethod "[I" "java/lang/Object" "clone" "()Ljava/lang/Object;" ∈ LW) (w3 : Cond.native ⟨"java/lang/Object", "clone", "()Ljava/lang/Object;"⟩ ∈ LW) (w4 : Cond.instanceMethod ⟨"java/lang/Object", "clone", "()Ljava/lang/Object;"⟩ ∈ LW) (w5 : Cond.selects "[I" ⟨"[I", "clone", "()Ljava/lang/Object;"⟩ ⟨"java/lang/Object", "clone", "()Ljava/lang/Object;"⟩ ∈ LW) (hR : 1 ≤ F ∧ (st.map fun v => v.category).sum + 14 ≤ L) (hd : decode cc pc = .ok (.invokevirtual index, 3)) {p' : Nat} (hp : pc + 3 = p') (kk : ∀ a h2, WX rv C p' lv (va_rf (some a) :: st) h2 (f a h2)) : WX rv C pc lv (va_rf q :: st) h (clI h q f) := by
  subst hp
  cases q with
  | none => exact x_none
  | some a =>
    show WX rv C pc lv _ h (if a_kd h a = 12 then wA 1 (a_ln h a) (f (a_nx h) (a_si (a_mk h 12 (a_ln h a)) (a_nx h) (a_gi h a))) else none)
    by_cases ka : a_kd h a = 12
    · rw [if_pos ka]
      intro ls hl r h' k n e H locs cells slots hI
      obtain ⟨k2, n2, e1, rfl, rfl⟩ := wA_some e
      have hts := hC.2.2.2.2.1
      have c1 := hI.2.2.2.1
      have c2 := hI.2.2.2.2
      have c1' : _ ≤ C.2.2.2.1.cells := hI.2.2.2.1
      have c2' : _ ≤ C.2.2.2.1.slots := hI.2.2.2.2
      have c4 : C.2.2.2.1.locals = L := hC.2.2.2.2.2.2.2.2.2.2.2
      have c3 : C.2.2.2.1.frames = F := hC.2.2.2.2.2.2.2.2.2.2.1
      have hat := (hI.1.2 a (by rw [ka]; omega)).int ka (by omega) (by omega)
      have hnm : (c_s C).vm.findClass "[I" = some (c_cy C 12) := (hC.arr 0 rfl).2
      obtain ⟨c0, t0', f1, f2, f3⟩ := Cond.castable_spec (va_Nw.use (A := c_args C) rfl hC.cast)
      cases hnm.symm.trans f1
      intro T hT X
      have hcellT : T.heap[a]? = some (arrV (c_cy C 12) (a_ln h a) (fun j => .int (a_gi h a j))) := by rw [hT]; exact hat
      obtain ⟨-, kA, hkA, comp, hkind⟩ := State.isArrayOf_alike X.warmed.alike ((hC.arr 0 rfl).1 0 (fun _ => .null))
      obtain ⟨-, kS, hkS, compS, hkindS⟩ := (hC.arr 0 rfl).1 0 (fun _ => .null)
      obtain ⟨vm', X', st'⟩ := X.cloneArray hC.1 hC.2.2.2.1 (hts _ w1) (hts _ w2) (hts _ w3) (hts _ w4) (hts _ w5) (a := a) (cell := arrV (c_cy C 12) (a_ln h a) (fun j => .int (a_gi h a j))) hcellT (fun k z => by cases z) (fun z => by cases z) hnm f2 f3
        (fun i v hv => by
          have hk' : T.vm.classes[c_cy C 12]? = some kA := hkA
          have hlt : i < a_ln h a := by
            have := (Array.getElem?_eq_some_iff.mp hv).1
            rwa [arrV_size] at this
          rw [arrV_read _ _ hlt] at hv
          cases hv
          simp [arrV, State.fitsSlot, State.slotType?, hk', hkind, fits])
        (g := F0 (c_m C) pc ls (.ref a :: st)) rfl hl.1 rfl (by rw [hC.2.1]; exact hd) (by rw [c3]; exact hR.1) (by show 2 * 0 + _ + 14 ≤ _; rw [c4]; have := hR.2; omega) (by omega) (by rw [arrV_size]; omega) (hloader := Vm.clonesLoader_of_array hkS hkindS)
      have hcellE : ({ cls := (arrV (c_cy C 12) (a_ln h a) (fun j => .int (a_gi h a j))).cls, slots := (arrV (c_cy C 12) (a_ln h a) (fun j => .int (a_gi h a j))).slots } : Cell) = arrV (c_cy C 12) (a_ln h a) (fun j => .int (a_gi h a j)) := rfl
      rw [hcellE, arrV_size] at X'
      generalize hH1 : H.push (arrV (c_cy C 12) (a_ln h a) (fun j => .int (a_gi h a j))) = H1
      have g2 : H1.size = H.size + 1 := by rw [← hH1, Array.size_push]
      have g1 : H1[H.size]? = some (arrV (c_cy C 12) (a_ln h a) (fun j => .int (a_gi h a j))) := by rw [← hH1, Array.getElem?_push_size]
      have g3 : ∀ q : Nat, q < H.size → H1[q]? = H[q]? := fun q hq => by rw [← hH1, Array.getElem?_push, if_neg (Nat.ne_of_lt hq)]
      have hne : ∀ b, a_kd h b ≠ 0 → b ≠ a_nx h := fun b hb z => by
        have := (hI.1.2 b hb).lt
        rw [hI.1.1] at this; omega
      have hB2 : HB (c_D C) (c_cy C) (a_si (a_mk h 12 (a_ln h a)) (a_nx h) (a_gi h a)) H1 := by
        refine ⟨by rw [g2, hI.1.1]; rfl, fun b hb => ?_⟩
        by_cases hq : b = a_nx h
        · subst hq
          unfold a_at
          rw [show a_kd (a_si (a_mk h 12 (a_ln h a)) (a_nx h) (a_gi h a)) (a_nx h) = 12 from va_up_at _ _ _, show a_ln (a_si (a_mk h 12 (a_ln h a)) (a_nx h) (a_gi h a)) (a_nx h) = a_ln h a from va_up_at _ _ _, show a_gi (a_si (a_mk h 12 (a_ln h a)) (a_nx h) (a_gi h a)) (a_nx h) = a_gi h a from va_up_at _ _ _, if_neg (by omega), if_pos (by omega), ← hI.1.1]
          exact g1
        · have hb' : a_kd h b ≠ 0 := fun z => hb ((va_up_off _ _ hq).trans z)
          exact (hI.1.2 b hb').kept (g3 b (hI.1.2 b hb').lt) (va_up_off _ _ hq) (va_up_off _ _ hq) ((va_up_off _ _ hq).trans (va_up_off _ _ hq)) (va_up_off _ _ hq)
      obtain ⟨t, b1, b2⟩ := kk (a_nx h) _ ls hl r h' k2 n2 e1 H1 locs (cells + 1) (slots + a_ln h a) ⟨hB2, x_iS hI.2.1 g2 g3, fun q hq => x_ik (k := 12) (n := a_ln h a) hI.1 hI.2.2.1 (fun q hq => hC.2.2.2.2.2.2.2.1 q (Nat.le_trans hI.2.1.1 hq)) q hq, by omega, by omega⟩ (State.pushCell (T.setVm vm') (arrV (c_cy C 12) (a_ln h a) (fun j => .int (a_gi h a j)))) (by rw [← hH1, ← hT]; rfl) X'
      refine ⟨t, st' t ?_, b2⟩
      rw [hcellE, hT, hI.1.1]
      exact b1
    · rw [if_neg ka]; exact x_none
theorem x_castI {index : Nat} {q : Option Nat} (hC : OKC C y cc nL ret F L) (w1 : Cond.classLink y.cls index "[I" ∈ LW) (hd : decode cc pc = .ok (.checkcast index, 3)) {p' : Nat} (hp : pc + 3 = p') (kk : WX rv C p' lv (va_rf q :: st) h x) : WX rv C pc lv (va_rf q :: st) h (cV h q 12 (fun _ => x)) := by
  subst hp
  cases q with
  | none => exact x_none
  | some a =>
    show WX rv C pc lv _ h (if a_kd h a = 12 then x else none)
    by_cases ka : a_kd h a = 12
    · rw [if_pos ka]
      intro ls hl r h' k n e H locs cells slots hI
      have hat := (hI.1.2 a (by rw [ka]; omega)).int ka (by omega) (by omega)
      have hP : va_P (c_D C) vwCl [(a, .inl (c_cy C 12, a_ln h a, .inl (a_gi h a)))] H := by
        intro k0 q hq
        have h0 : k0 < 1 := (List.getElem?_eq_some_iff.mp hq).1
        rw [show k0 = 0 by omega] at hq
        cases hq
        exact hat
      exact va_castA hC.1 hC.2.1 hC.2.2.2.1 (hC.2.2.2.2.1 _ w1) hP 0 rfl (hC.arr 0 rfl).2 hd (kk ls hl r h' k n e H locs cells slots hI)
    · rw [if_neg ka]; exact x_none
-- a grid
def a_grid (h : AH) (N M : Nat) : AH := (h.1 + 1 + N, (fun a => if a = h.1 then 18 else if h.1 < a ∧ a ≤ h.1 + N then 12 else h.2.1 a), (fun a => if a = h.1 then N else if h.1 < a ∧ a ≤ h.1 + N then M else h.2.2.1 a), (fun a => if h.1 ≤ a ∧ a ≤ h.1 + N then (fun _ => 0) else h.2.2.2.1 a), (fun a => if a = h.1 then (fun j => if j < N then some (h.1 + 1 + j) else none) else if h.1 < a ∧ a ≤ h.1 + N then (fun _ => none) else h.2.2.2.2 a))
def nM {ρ : Type} (h : AH) (i j : Int32) (f : Nat → AH → RX ρ) : RX ρ := if 0 ≤ i ∧ i.toNatClampNeg ≤ 1000 ∧ 0 ≤ j ∧ j.toNatClampNeg ≤ 1000 then wA (1 + i.toNatClampNeg) (i.toNatClampNeg + i.toNatClampNeg * j.toNatClampNeg) (f (a_nx h) (a_grid h i.toNatClampNeg j.toNatClampNeg)) else none
theorem x_outer (c : ClassId) (N h0 : Nat) : ∀ i : Nat, Jvm.Free.Multi.outerC c N h0 i = arrV c N (fun j => va_rf (if j < i then some (h0 + 1 + j) else none))
  | 0 => by
    show ({ cls := c, slots := Array.replicate N .null, vm := .none } : Cell) = _
    rw [arrV_new]
    exact congrArg (arrV c N) (funext fun j => by simp [va_rf])
  | i + 1 => by
    show (Jvm.Free.Multi.outerC c N h0 i).setSlot i (.ref (h0 + 1 + i)) = _
    rw [x_outer c N h0 i, arrV_store]
    refine congrArg (arrV c N) (funext fun j => ?_)
    by_cases e : j = i
    · subst e; simp [updV, va_rf]
    · by_cases g : j < i
      · simp [updV, e, g, Nat.lt_succ_of_lt g]
      · simp [updV, e, g, show ¬ j < i + 1 by omega]
theorem x_multi {index : Nat} {i j : Int32} {f : Nat → AH → RX ρ} (hC : OKC C y cc nL ret F L) (hao : AOI (c_s C)) (w1 : Cond.classLink y.cls index "[[I" ∈ LW) (w2 : Cond.arrayClass .int ∈ LW) (hd : decode cc pc = .ok (.multianewarray index 2, 4)) {p' : Nat} (hp : pc + 4 = p') (kk : ∀ a h2, WX rv C p' lv (va_rf (some a) :: st) h2 (f a h2)) : WX rv C pc lv (.int j :: .int i :: st) h (nM h i j f) := by
  subst hp
  show WX rv C pc lv _ h (if 0 ≤ i ∧ i.toNatClampNeg ≤ 1000 ∧ 0 ≤ j ∧ j.toNatClampNeg ≤ 1000 then wA (1 + i.toNatClampNeg) (i.toNatClampNeg + i.toNatClampNeg * j.toNatClampNeg) (f (a_nx h) (a_grid h i.toNatClampNeg j.toNatClampNeg)) else none)
  by_cases hk : 0 ≤ i ∧ i.toNatClampNeg ≤ 1000 ∧ 0 ≤ j ∧ j.toNatClampNeg ≤ 1000
  · rw [if_pos hk]
    intro ls hl r h' k n e H locs cells slots hI
    obtain ⟨k2, n2, e1, rfl, rfl⟩ := wA_some e
    have hts := hC.2.2.2.2.1
    have c1 : cells + (1 + i.toNatClampNeg + k2) ≤ C.2.2.2.1.cells := hI.2.2.2.1
    have c2 : slots + (i.toNatClampNeg + i.toNatClampNeg * j.toNatClampNeg + n2) ≤ C.2.2.2.1.slots := hI.2.2.2.2
    intro T hT X
    obtain ⟨vm₁, cA, comp, -, fA, fC, hO, -, X', step⟩ := X.multianewarray2F (ty := .int) hC.1 hC.2.2.2.1 (hts _ w1) hao (hts _ w2) (g := F0 (c_m C) pc ls (.int j :: .int i :: st)) rfl (by rw [hC.2.1]; exact hd) rfl (x_nn0 hk.1) (x_nn0 hk.2.2.1) (by omega) (by show _ * 4 ≤ _; omega) (by omega) rfl rfl (by omega) (by omega)
    have hc1 : comp = c_cy C 12 := Option.some.inj (fC.symm.trans (hC.arr 0 rfl).2)
    have hc2 : cA = c_cy C 18 := Option.some.inj (fA.symm.trans (hC.arr 6 rfl).2)
    subst hc1; subst hc2
    generalize hF : Jvm.Free.Multi.fill (T.setVm vm₁) (c_cy C 18) (c_cy C 12) i.toNatClampNeg j.toNatClampNeg (defaultValue .int) i.toNatClampNeg = Fl at X' step
    have hTh : (T.setVm vm₁).heap = H := hT
    obtain ⟨f1, f2, -, -⟩ := Jvm.Free.Multi.fill_facts (T.setVm vm₁) (c_cy C 18) (c_cy C 12) i.toNatClampNeg j.toNatClampNeg (defaultValue .int) i.toNatClampNeg
    rw [hF, hTh] at f1 f2
    have hold : ∀ q : Nat, q < H.size → Fl.heap[q]? = H[q]? := fun q hq => by
      have := Jvm.Free.Multi.fill_old (T.setVm vm₁) (c_cy C 18) (c_cy C 12) i.toNatClampNeg j.toNatClampNeg (defaultValue .int) (a := q) (by rw [hTh]; exact hq) i.toNatClampNeg
      rw [hF, hTh] at this
      exact this
    have hrow : ∀ q : Nat, q < i.toNatClampNeg → Fl.heap[H.size + 1 + q]? = some (arrV (c_cy C 12) j.toNatClampNeg (fun _ => .int 0)) := fun q hq => by
      have := Jvm.Free.Multi.fill_inner (T.setVm vm₁) (c_cy C 18) (c_cy C 12) i.toNatClampNeg j.toNatClampNeg (defaultValue .int) i.toNatClampNeg q hq
      rw [hF, hTh] at this
      rw [this]
      exact congrArg some (arrV_new _ _ _)
    rw [x_outer] at f2
    have hsz : H.size = a_nx h := hI.1.1
    have hne : ∀ b, a_kd h b ≠ 0 → b < a_nx h := fun b hb => by
      have := (hI.1.2 b hb).lt
      rw [hsz] at this; exact this
    have hB2 : HB (c_D C) (c_cy C) (a_grid h i.toNatClampNeg j.toNatClampNeg) Fl.heap := by
      refine ⟨by rw [f1, hsz]; rfl, fun b hb => ?_⟩
      by_cases q0 : b = h.1
      · subst q0
        unfold a_at
        rw [show a_kd (a_grid h i.toNatClampNeg j.toNatClampNeg) h.1 = 18 from if_pos rfl, show a_ln (a_grid h i.toNatClampNeg j.toNatClampNeg) h.1 = i.toNatClampNeg from if_pos rfl, if_neg (by omega), if_neg (by omega), show a_gr (a_grid h i.toNatClampNeg j.toNatClampNeg) h.1 = (fun q => if q < i.toNatClampNeg then some (h.1 + 1 + q) else none) from if_pos rfl]
        rw [hsz] at f2
        exact f2
      · by_cases q1 : h.1 < b ∧ b ≤ h.1 + i.toNatClampNeg
        · unfold a_at
          rw [show a_kd (a_grid h i.toNatClampNeg j.toNatClampNeg) b = 12 from (if_neg q0).trans (if_pos q1), show a_ln (a_grid h i.toNatClampNeg j.toNatClampNeg) b = j.toNatClampNeg from (if_neg q0).trans (if_pos q1), if_neg (by omega), if_pos (by omega), show a_gi (a_grid h i.toNatClampNeg j.toNatClampNeg) b = (fun _ => 0) from if_pos ⟨Nat.le_of_lt q1.1, q1.2⟩]
          have := hrow (b - h.1 - 1) (by omega)
          rw [hsz, show a_nx h + 1 + (b - h.1 - 1) = b by show h.1 + 1 + (b - h.1 - 1) = b; omega] at this
          exact this
        · have q2 : ¬ (h.1 ≤ b ∧ b ≤ h.1 + i.toNatClampNeg) := by omega
          have ek : a_kd (a_grid h i.toNatClampNeg j.toNatClampNeg) b = a_kd h b := (if_neg q0).trans (if_neg q1)
          have hb' : a_kd h b ≠ 0 := by rw [← ek]; exact hb
          exact (hI.1.2 b hb').kept (hold b (hI.1.2 b hb').lt) ek ((if_neg q0).trans (if_neg q1)) (if_neg q2) ((if_neg q0).trans (if_neg q1))
    obtain ⟨t, b1, b2⟩ := kk (a_nx h) _ ls hl r h' k2 n2 e1 Fl.heap locs (cells + 1 + i.toNatClampNeg) (slots + i.toNatClampNeg + i.toNatClampNeg * j.toNatClampNeg) ⟨hB2, ⟨Nat.le_trans hI.2.1.1 (by omega), fun q g1 g2 => (hold q (Nat.lt_of_lt_of_le g1 hI.2.1.1)).trans (hI.2.1.2.1 q g1 g2), hI.2.1.2.2⟩, fun q hq => by
        by_cases z : q < H.size
        · exact hI.2.2.1 q (fun w => hq (by
            have q0 : ¬ q = h.1 := by intro z2; rw [hsz] at z; exact absurd z (by rw [z2]; exact Nat.lt_irrefl _)
            have q1 : ¬ (h.1 < q ∧ q ≤ h.1 + i.toNatClampNeg) := by rw [hsz] at z; intro z2; exact absurd z2.1 (Nat.not_lt.mpr (Nat.le_of_lt z))
            exact ((if_neg q0).trans (if_neg q1)).trans w))
        · exact hC.2.2.2.2.2.2.2.1 q (Nat.le_trans hI.2.1.1 (by omega)), by show _ ≤ C.2.2.2.1.cells; omega, by show _ ≤ C.2.2.2.1.slots; omega⟩ Fl rfl X'
    refine ⟨t, step t ?_, b2⟩
    rw [hT, hsz]
    exact b1
  · rw [if_neg hk]; exact x_none
-- the decoded instructions of a method, all at once
def dAllb (cc : ByteArray) (l : List (Nat × Instr × Nat)) : Bool := l.all (fun q => decide (decode cc q.1 = .ok q.2))
theorem dAt {cc : ByteArray} {l : List (Nat × Instr × Nat)} (h : dAllb cc l = true) (i : Nat) {pc : Nat} {ins : Instr} {len : Nat} (hi : l[i]? = some (pc, ins, len)) : decode cc pc = .ok (ins, len) := by
  have := List.all_eq_true.mp h _ (List.mem_of_getElem? hi)
  simpa using this
def FU : Nat := 5000
end XROWS
