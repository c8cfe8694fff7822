def f_X0_init (h : AH) (a0 : Nat) (p1 : Option Nat) (p2 : Option Nat) : RX Unit :=
  (nn (some a0) none (fun _ => (pR h (some a0) 1 0 p1 (fun h1 => (pR h1 (some a0) 1 1 p2 (fun h2 => rV h2))))))
def f_X1_init (h : AH) (a0 : Nat) : RX Unit :=
  (nn (some a0) none (fun _ => (pI h (some a0) 2 0 0 (fun h1 => (pI h1 (some a0) 2 1 0 (fun h2 => (nA h2 12 40 (fun a3 h4 => (pR h4 (some a0) 2 2 (some a3) (fun h5 => (nA h5 12 40 (fun a6 h7 => (pR h7 (some a0) 2 3 (some a6) (fun h8 => (nA h8 12 40 (fun a9 h10 => (pR h10 (some a0) 2 4 (some a9) (fun h11 => (nA h11 12 40 (fun a12 h13 => (pR h13 (some a0) 2 5 (some a12) (fun h14 => (nA h14 12 40 (fun a15 h16 => (pR h16 (some a0) 2 6 (some a15) (fun h17 => rV h17))))))))))))))))))))))))))
def f_X1_clear (h : AH) (a0 : Nat) : RX Unit :=
  (pI h (some a0) 2 0 0 (fun h1 => (pI h1 (some a0) 2 1 0 (fun h2 => rV h2))))
def f_X1_open (h : AH) (a0 : Nat) (p1 : Int32) (p2 : Int32) : RX Unit :=
  (gI h (some a0) 2 0 (fun v1 => (if 40 ≤ v1 then rV h else (gR h (some a0) 2 2 (fun r2 => (gI h (some a0) 2 0 (fun v3 => (sI h r2 12 v3 p1 (fun h4 => (gR h4 (some a0) 2 3 (fun r5 => (gI h4 (some a0) 2 0 (fun v6 => (sI h4 r5 12 v6 0 (fun h7 => (gR h7 (some a0) 2 4 (fun r8 => (gI h7 (some a0) 2 0 (fun v9 => (sI h7 r8 12 v9 p2 (fun h10 => (gR h10 (some a0) 2 5 (fun r11 => (gI h10 (some a0) 2 0 (fun v12 => (sI h10 r11 12 v12 0 (fun h13 => (gI h13 (some a0) 2 0 (fun v14 => (pI h13 (some a0) 2 0 (v14 + 1) (fun h15 => rV h15)))))))))))))))))))))))))))))))
def f_X1_addStep_J39  (x0 : Nat) (h : AH) : RX Unit :=
  (gI h (some x0) 2 0 (fun v4 => (if v4 ≤ 0 then rV h else (gR h (some x0) 2 5 (fun r5 => (gI h (some x0) 2 0 (fun v6 => (aI h r5 12 (v6 - 1) (fun v7 => (sI h r5 12 (v6 - 1) (v7 + 1) (fun h8 => rV h8)))))))))))
def f_X1_addStep (h : AH) (a0 : Nat) (p1 : Int32) : RX Unit :=
  (gI h (some a0) 2 1 (fun v1 => (pI h (some a0) 2 1 (v1 + 1) (fun h2 => (gI h2 (some a0) 2 0 (fun v3 => (if v3 ≤ 0 then f_X1_addStep_J39 a0 h2 else (if p1 = 0 then f_X1_addStep_J39 a0 h2 else (gR h2 (some a0) 2 3 (fun r9 => (gI h2 (some a0) 2 0 (fun v10 => (aI h2 r9 12 (v10 - 1) (fun v11 => (sI h2 r9 12 (v10 - 1) (v11 + 1) (fun h12 => rV h12))))))))))))))))
def f_X1_isMeant (h : AH) (a0 : Nat) (p1 : Int32) (p2 : Int32) (p3 : Int32) : RX Int32 :=
  (if p2 = (-1) then (gR h (some a0) 2 6 (fun r1 => (aI h r1 12 p1 (fun v2 => (if v2 = p3 then rZ 1 h else rZ 0 h))))) else (if p1 = p2 then rZ 1 h else rZ 0 h))
def f_X1_countOf_L5  : Nat → Nat → Int32 → Int32 → Int32 → Int32 → AH → RX Int32
  | 0, _, _, _, _, _, _ => none
  | n + 1, x0, x1, x2, x3, x4, h => (gI h (some x0) 2 0 (fun v1 => (if v1 ≤ x4 then rI x3 h else (cV h (some x0) 2 (fun b => bnd (f_X1_isMeant h b x4 x1 x2) (fun v2 h3 => (if v2 = 0 then f_X1_countOf_L5 n x0 x1 x2 x3 (x4 + 1) h3 else f_X1_countOf_L5 n x0 x1 x2 (x3 + 1) (x4 + 1) h3)))))))
def f_X1_countOf (h : AH) (a0 : Nat) (p1 : Int32) (p2 : Int32) : RX Int32 :=
  f_X1_countOf_L5 FU a0 p1 p2 0 0 h
def f_X2_init (h : AH) (a0 : Nat) : RX Unit :=
  (nn (some a0) none (fun _ => (nM h 61 61 (fun a1 h2 => (pR h2 (some a0) 3 0 (some a1) (fun h3 => rV h3))))))
def f_X2_measure_J47 (k29 : Nat → Option Nat → Option Nat → Int32 → Int32 → Int32 → Int32 → AH → RX Int32) (x0 : Nat) (x1 : Option Nat) (x2 : Option Nat) (x3 : Int32) (x4 : Int32) (x5 : Int32) (x6 : Int32) (h : AH) : RX Int32 :=
  (gR h (some x0) 3 0 (fun r3 => (aR h r3 18 x5 (fun r4 => (sI h r4 12 x6 (((x3 - x5) + x4) - x6) (fun h5 => k29 x0 x1 x2 x3 x4 x5 (x6 + (-1)) h5))))))
def f_X2_measure_L29 (k153 : Nat → Option Nat → Option Nat → Int32 → Int32 → Int32 → AH → RX Int32) : Nat → Nat → Option Nat → Option Nat → Int32 → Int32 → Int32 → Int32 → AH → RX Int32
  | 0, _, _, _, _, _, _, _, _ => none
  | n + 1, x0, x1, x2, x3, x4, x5, x6, h => (if x6 < 0 then k153 x0 x1 x2 x3 x4 x5 h else (if x5 = x3 then f_X2_measure_J47 (f_X2_measure_L29 k153 n) x0 x1 x2 x3 x4 x5 x6 h else (if x6 = x4 then f_X2_measure_J47 (f_X2_measure_L29 k153 n) x0 x1 x2 x3 x4 x5 x6 h else (aI h x1 12 x5 (fun v6 => (aI h x2 12 x6 (fun v7 => (if v6 = v7 then (gR h (some x0) 3 0 (fun r17 => (aR h r17 18 x5 (fun r18 => (gR h (some x0) 3 0 (fun r19 => (aR h r19 18 (x5 + 1) (fun r20 => (aI h r20 12 (x6 + 1) (fun v21 => (sI h r18 12 x6 v21 (fun h22 => f_X2_measure_L29 k153 n x0 x1 x2 x3 x4 x5 (x6 + (-1)) h22)))))))))))) else (gR h (some x0) 3 0 (fun r8 => (aR h r8 18 x5 (fun r9 => (gR h (some x0) 3 0 (fun r10 => (aR h r10 18 (x5 + 1) (fun r11 => (aI h r11 12 x6 (fun v12 => (gR h (some x0) 3 0 (fun r13 => (aR h r13 18 x5 (fun r14 => (aI h r14 12 (x6 + 1) (fun v15 => (sI h r9 12 x6 (1 + (if v15 < v12 then v15 else v12)) (fun h16 => f_X2_measure_L29 k153 n x0 x1 x2 x3 x4 x5 (x6 + (-1)) h16))))))))))))))))))))))))))
def f_X2_measure_J153 (k20 : Nat → Option Nat → Option Nat → Int32 → Int32 → Int32 → AH → RX Int32) (x0 : Nat) (x1 : Option Nat) (x2 : Option Nat) (x3 : Int32) (x4 : Int32) (x5 : Int32) (h : AH) : RX Int32 :=
  k20 x0 x1 x2 x3 x4 (x5 + (-1)) h
def f_X2_measure_L20 (k159 : Nat → AH → RX Int32) : Nat → Nat → Option Nat → Option Nat → Int32 → Int32 → Int32 → AH → RX Int32
  | 0, _, _, _, _, _, _, _ => none
  | n + 1, x0, x1, x2, x3, x4, x5, h => (if x5 < 0 then k159 x0 h else f_X2_measure_L29 (f_X2_measure_J153 (f_X2_measure_L20 k159 n)) FU x0 x1 x2 x3 x4 x5 x4 h)
def f_X2_measure_J159  (x0 : Nat) (h : AH) : RX Int32 :=
  (gR h (some x0) 3 0 (fun r23 => (aR h r23 18 0 (fun r24 => (aI h r24 12 0 (fun v25 => rI v25 h))))))
def f_X2_measure (h : AH) (a0 : Nat) (p1 : Option Nat) (p2 : Option Nat) : RX Int32 :=
  (aL h p1 12 (fun v1 => (aL h p2 12 (fun v2 => f_X2_measure_L20 f_X2_measure_J159 FU a0 p1 p2 (if 60 < v1 then 60 else v1) (if 60 < v2 then 60 else v2) (if 60 < v1 then 60 else v1) h))))
def f_X2_walk_J166 (k37 : Nat → Option Nat → Option Nat → Option Nat → Int32 → Int32 → Int32 → Int32 → Int32 → Int32 → AH → RX Unit) (x0 : Nat) (x1 : Option Nat) (x2 : Option Nat) (x3 : Option Nat) (x4 : Int32) (x5 : Int32) (x6 : Int32) (x7 : Int32) (x8 : Int32) (x9 : Int32) (h : AH) : RX Unit :=
  (cV h x3 2 (fun b => bnd (f_X1_addStep h b 0) (fun u5 h6 => k37 x0 x1 x2 x3 x4 x5 x6 (x7 + 1) x8 (x9 + 1) h6)))
def f_X2_walk_J155 (k37 : Nat → Option Nat → Option Nat → Option Nat → Int32 → Int32 → Int32 → Int32 → Int32 → Int32 → AH → RX Unit) (x0 : Nat) (x1 : Option Nat) (x2 : Option Nat) (x3 : Option Nat) (x4 : Int32) (x5 : Int32) (x6 : Int32) (x7 : Int32) (x8 : Int32) (x9 : Int32) (h : AH) : RX Unit :=
  (cV h x3 2 (fun b => bnd (f_X1_addStep h b 1) (fun u7 h8 => k37 x0 x1 x2 x3 x4 x5 (x6 + 1) x7 x8 (x9 + 1) h8)))
def f_X2_walk_J114 (k37 : Nat → Option Nat → Option Nat → Option Nat → Int32 → Int32 → Int32 → Int32 → Int32 → Int32 → AH → RX Unit) (x0 : Nat) (x1 : Option Nat) (x2 : Option Nat) (x3 : Option Nat) (x4 : Int32) (x5 : Int32) (x6 : Int32) (x7 : Int32) (x8 : Int32) (x9 : Int32) (h : AH) : RX Unit :=
  (if x4 ≤ x6 then f_X2_walk_J166 k37 x0 x1 x2 x3 x4 x5 x6 x7 x8 x9 h else (if x5 ≤ x7 then f_X2_walk_J155 k37 x0 x1 x2 x3 x4 x5 x6 x7 x8 x9 h else (gR h (some x0) 3 0 (fun r9 => (aR h r9 18 x6 (fun r10 => (aI h r10 12 x7 (fun v11 => (gR h (some x0) 3 0 (fun r12 => (aR h r12 18 (x6 + 1) (fun r13 => (aI h r13 12 x7 (fun v14 => (if v11 = (v14 + 1) then f_X2_walk_J155 k37 x0 x1 x2 x3 x4 x5 x6 x7 x8 x9 h else f_X2_walk_J166 k37 x0 x1 x2 x3 x4 x5 x6 x7 x8 x9 h)))))))))))))))
def f_X2_walk_J98 (k37 : Nat → Option Nat → Option Nat → Option Nat → Int32 → Int32 → Int32 → Int32 → Int32 → Int32 → AH → RX Unit) (x0 : Nat) (x1 : Option Nat) (x2 : Option Nat) (x3 : Option Nat) (x4 : Int32) (x5 : Int32) (x6 : Int32) (x7 : Int32) (x8 : Int32) (x9 : Int32) (h : AH) : RX Unit :=
  (if x8 = 0 then f_X2_walk_J114 k37 x0 x1 x2 x3 x4 x5 x6 x7 x8 x9 h else (cV h x3 2 (fun b => bnd (f_X1_open h b x6 x7) (fun u15 h16 => f_X2_walk_J114 k37 x0 x1 x2 x3 x4 x5 x6 x7 0 x9 h16))))
def f_X2_walk_J61 (k37 : Nat → Option Nat → Option Nat → Option Nat → Int32 → Int32 → Int32 → Int32 → Int32 → Int32 → AH → RX Unit) (x0 : Nat) (x1 : Option Nat) (x2 : Option Nat) (x3 : Option Nat) (x4 : Int32) (x5 : Int32) (x6 : Int32) (x7 : Int32) (x8 : Int32) (x9 : Int32) (h : AH) : RX Unit :=
  (if x4 ≤ x6 then f_X2_walk_J98 k37 x0 x1 x2 x3 x4 x5 x6 x7 x8 x9 h else (if x5 ≤ x7 then f_X2_walk_J98 k37 x0 x1 x2 x3 x4 x5 x6 x7 x8 x9 h else (aI h x1 12 x6 (fun v17 => (aI h x2 12 x7 (fun v18 => (if v17 = v18 then k37 x0 x1 x2 x3 x4 x5 (x6 + 1) (x7 + 1) 1 (x9 + 1) h else f_X2_walk_J98 k37 x0 x1 x2 x3 x4 x5 x6 x7 x8 x9 h)))))))
def f_X2_walk_L37  : Nat → Nat → Option Nat → Option Nat → Option Nat → Int32 → Int32 → Int32 → Int32 → Int32 → Int32 → AH → RX Unit
  | 0, _, _, _, _, _, _, _, _, _, _, _ => none
  | n + 1, x0, x1, x2, x3, x4, x5, x6, x7, x8, x9, h => (if (x4 + x5) ≤ x9 then rV h else (if x6 < x4 then f_X2_walk_J61 (f_X2_walk_L37 n) x0 x1 x2 x3 x4 x5 x6 x7 x8 x9 h else (if x5 ≤ x7 then rV h else f_X2_walk_J61 (f_X2_walk_L37 n) x0 x1 x2 x3 x4 x5 x6 x7 x8 x9 h)))
def f_X2_walk (h : AH) (a0 : Nat) (p1 : Option Nat) (p2 : Option Nat) (p3 : Option Nat) : RX Unit :=
  (cV h (some a0) 3 (fun b => bnd (f_X2_measure h b p1 p2) (fun v1 h2 => (aL h2 p1 12 (fun v3 => (aL h2 p2 12 (fun v4 => f_X2_walk_L37 FU a0 p1 p2 p3 (if 60 < v3 then 60 else v3) (if 60 < v4 then 60 else v4) 0 0 1 0 h2)))))))
def f_X3_init (h : AH) (a0 : Nat) : RX Unit :=
  (nn (some a0) none (fun _ => (nA h 12 120 (fun a1 h2 => (pR h2 (some a0) 4 0 (some a1) (fun h3 => (pI h3 (some a0) 4 1 0 (fun h4 => rV h4))))))))
def f_X3_add (h : AH) (a0 : Nat) (p1 : Option Nat) (p2 : Int32) (p3 : Int32) : RX Unit :=
  (if p3 ≤ 0 then rV h else (gI h (some a0) 4 1 (fun v1 => (gR h (some a0) 4 0 (fun r2 => (aL h r2 12 (fun v3 => (if v3 < (v1 + p3) then rV h else (gR h (some a0) 4 0 (fun r4 => (gI h (some a0) 4 1 (fun v5 => (cpI h p1 p2 r4 v5 p3 (fun h6 => (gI h6 (some a0) 4 1 (fun v7 => (pI h6 (some a0) 4 1 (v7 + p3) (fun h8 => rV h8))))))))))))))))))
def f_X3_write_L41 (k134 : Nat → Option Nat → Int32 → AH → RX Unit) : Nat → Nat → Option Nat → Int32 → Int32 → Option Nat → Option Nat → Int32 → Int32 → AH → RX Unit
  | 0, _, _, _, _, _, _, _, _, _ => none
  | n + 1, x0, x1, x2, x3, x4, x5, x6, x7, h => (gI h x5 2 0 (fun v7 => (if v7 ≤ x7 then k134 x0 x4 x6 h else (cV h x5 2 (fun b => bnd (f_X1_isMeant h b x7 x2 x3) (fun v8 h9 => (if v8 = 0 then f_X3_write_L41 k134 n x0 x1 x2 x3 x4 x5 x6 (x7 + 1) h9 else (gR h9 x5 2 2 (fun r10 => (aI h9 r10 12 x7 (fun v11 => (cV h9 (some x0) 4 (fun b => bnd (f_X3_add h9 b x4 x6 (v11 - x6)) (fun u12 h13 => (gR h13 x1 9 3 (fun r14 => (gR h13 r14 1 1 (fun r15 => (gR h13 x5 2 4 (fun r16 => (aI h13 r16 12 x7 (fun v17 => (gR h13 x5 2 5 (fun r18 => (aI h13 r18 12 x7 (fun v19 => (cV h13 (some x0) 4 (fun b => bnd (f_X3_add h13 b r15 v17 v19) (fun u20 h21 => (gR h21 x5 2 2 (fun r22 => (aI h21 r22 12 x7 (fun v23 => (gR h21 x5 2 3 (fun r24 => (aI h21 r24 12 x7 (fun v25 => f_X3_write_L41 k134 n x0 x1 x2 x3 x4 x5 (v23 + v25) (x7 + 1) h21)))))))))))))))))))))))))))))))))))))
def f_X3_write_J134  (x0 : Nat) (x4 : Option Nat) (x6 : Int32) (h : AH) : RX Unit :=
  (aL h x4 12 (fun v26 => (cV h (some x0) 4 (fun b => bnd (f_X3_add h b x4 x6 (v26 - x6)) (fun u27 h28 => rV h28)))))
def f_X3_write (h : AH) (a0 : Nat) (p1 : Option Nat) (p2 : Int32) (p3 : Int32) : RX Unit :=
  (pI h (some a0) 4 1 0 (fun h1 => (gR h1 p1 9 2 (fun r2 => (nn r2 (rV h1) (fun _ => (gR h1 p1 9 3 (fun r3 => (nn r3 (rV h1) (fun _ => (gR h1 p1 9 2 (fun r4 => (gR h1 r4 1 1 (fun r5 => (gR h1 p1 9 4 (fun r6 => f_X3_write_L41 f_X3_write_J134 FU a0 p1 p2 p3 r5 r6 0 0 h1))))))))))))))))
def f_X9_areAnswer_J59 (k12 : Option Nat → Int32 → Int32 → Int32 → AH → RX Int32) (x0 : Option Nat) (x1 : Int32) (x2 : Int32) (x3 : Int32) (h : AH) : RX Int32 :=
  (if 0 ≤ x2 then k12 x0 x1 x2 (x3 + 1) h else rZ 0 h)
def f_X9_areAnswer_L12 (k71 : Int32 → AH → RX Int32) : Nat → Option Nat → Int32 → Int32 → Int32 → AH → RX Int32
  | 0, _, _, _, _, _ => none
  | n + 1, x0, x1, x2, x3, h => (if x1 ≤ x3 then k71 x2 h else (aI h x0 12 x3 (fun v1 => (if v1 < 0 then rZ 0 h else (if v1 ≤ 121 then (if v1 = 120 then f_X9_areAnswer_J59 (f_X9_areAnswer_L12 k71 n) x0 x1 (x2 + 1) x3 h else (if v1 = 121 then f_X9_areAnswer_J59 (f_X9_areAnswer_L12 k71 n) x0 x1 (x2 + (-1)) x3 h else f_X9_areAnswer_J59 (f_X9_areAnswer_L12 k71 n) x0 x1 x2 x3 h)) else rZ 0 h)))))
def f_X9_areAnswer_J71  (x2 : Int32) (h : AH) : RX Int32 :=
  (if x2 = 0 then rZ 1 h else rZ 0 h)
def f_X9_areAnswer (h : AH) (p0 : Option Nat) (p1 : Int32) : RX Int32 :=
  (if p1 ≤ 60 then f_X9_areAnswer_L12 f_X9_areAnswer_J71 FU p0 p1 0 0 h else rZ 0 h)
def f_X3_isAnswer (h : AH) (a0 : Nat) : RX Int32 :=
  (gR h (some a0) 4 0 (fun r1 => (gI h (some a0) 4 1 (fun v2 => (bnd (f_X9_areAnswer h r1 v2) (fun v3 h4 => rZ v3 h4))))))
def f_J7_copyOf_59c91 (h : AH) (p0 : Option Nat) (p1 : Int32) : RX (Option Nat) :=
  (aL h p0 12 (fun v1 => (if p1 = v1 then (clI h p0 (fun a6 h7 => (cV h7 (some a6) 12 (fun _ => rR (some a6) h7)))) else (nA h 12 p1 (fun a2 h3 => (aL h3 p0 12 (fun v4 => (cpI h3 p0 0 (some a2) 0 (if p1 < v4 then p1 else v4) (fun h5 => rR (some a2) h5)))))))))
def f_X3_toAnswer (h : AH) (a0 : Nat) : RX (Option Nat) :=
  (gR h (some a0) 4 0 (fun r1 => (gI h (some a0) 4 1 (fun v2 => (bnd (f_J7_copyOf_59c91 h r1 v2) (fun r3 h4 => (nO h4 1 2 (fun a5 h6 => (bnd (f_X0_init h6 a5 r3 r3) (fun u7 h8 => rR (some a5) h8))))))))))
def f_X4_init (h : AH) (a0 : Nat) (p1 : Int32) (p2 : Int32) (p3 : Int32) : RX Unit :=
  (nn (some a0) none (fun _ => (pI h (some a0) 5 2 0 (fun h1 => (pI h1 (some a0) 5 3 0 (fun h2 => (pZ h2 (some a0) 5 4 0 (fun h3 => (pI h3 (some a0) 5 5 0 (fun h4 => (pI h4 (some a0) 5 0 p1 (fun h5 => (pI h5 (some a0) 5 1 p2 (fun h6 => (nA h6 12 (if p3 < 0 then 0 else p3) (fun a7 h8 => (pR h8 (some a0) 5 6 (some a7) (fun h9 => (nA h9 14 (if p3 < 0 then 0 else p3) (fun a10 h11 => (pR h11 (some a0) 5 7 (some a10) (fun h12 => rV h12))))))))))))))))))))))
def f_X4_remember (h : AH) (a0 : Nat) (p1 : Int32) (p2 : Option Nat) : RX Unit :=
  (gI h (some a0) 5 5 (fun v1 => (gR h (some a0) 5 6 (fun r2 => (aL h r2 12 (fun v3 => (if v3 ≤ v1 then rV h else (gR h (some a0) 5 6 (fun r4 => (gI h (some a0) 5 5 (fun v5 => (sI h r4 12 v5 p1 (fun h6 => (gR h6 (some a0) 5 7 (fun r7 => (gI h6 (some a0) 5 5 (fun v8 => (sR h6 r7 14 1 v8 p2 (fun h9 => (gI h9 (some a0) 5 5 (fun v10 => (pI h9 (some a0) 5 5 (v10 + 1) (fun h11 => rV h11)))))))))))))))))))))))
def f_X5_init (h : AH) (a0 : Nat) (p1 : Int32) : RX Unit :=
  (nn (some a0) none (fun _ => (nA h 12 60 (fun a1 h2 => (pR h2 (some a0) 6 1 (some a1) (fun h3 => (nA h3 12 60 (fun a4 h5 => (pR h5 (some a0) 6 2 (some a4) (fun h6 => (nA h6 12 61 (fun a7 h8 => (pR h8 (some a0) 6 3 (some a7) (fun h9 => (nA h9 12 60 (fun a10 h11 => (pR h11 (some a0) 6 4 (some a10) (fun h12 => (nA h12 12 60 (fun a13 h14 => (pR h14 (some a0) 6 5 (some a13) (fun h15 => (nA h15 12 10 (fun a16 h17 => (pR h17 (some a0) 6 6 (some a16) (fun h18 => (pI h18 (some a0) 6 0 p1 (fun h19 => rV h19))))))))))))))))))))))))))))
def f_X9_isDate (h : AH) (p0 : Int32) : RX Int32 :=
  (if p0 ≤ 99 then rZ 0 h else (if 109 < p0 then rZ 0 h else rZ 1 h))
def f_X5_levelDates_L2  : Nat → Nat → Int32 → Int32 → AH → RX Unit
  | 0, _, _, _, _ => none
  | n + 1, x0, x1, x2, h => (if x1 ≤ x2 then rV h else (gR h (some x0) 6 1 (fun r1 => (aI h r1 12 x2 (fun v2 => (bnd (f_X9_isDate h v2) (fun v3 h4 => (if v3 = 0 then f_X5_levelDates_L2 n x0 x1 (x2 + 1) h4 else (gR h4 (some x0) 6 1 (fun r5 => (sI h4 r5 12 x2 100 (fun h6 => f_X5_levelDates_L2 n x0 x1 (x2 + 1) h6))))))))))))
def f_X5_levelDates (h : AH) (a0 : Nat) (p1 : Int32) : RX Unit :=
  f_X5_levelDates_L2 FU a0 p1 0 h
def f_X5_findParts_J30 (k8 : Nat → Int32 → Int32 → Int32 → Int32 → AH → RX Int32) (x0 : Nat) (x2 : Int32) (x3 : Int32) (x4 : Int32) (x5 : Int32) (h : AH) : RX Int32 :=
  (gR h (some x0) 6 1 (fun r1 => (aI h r1 12 x5 (fun v2 => (if v2 = 120 then k8 x0 x2 x3 (x4 + 1) (x5 + 1) h else (gR h (some x0) 6 1 (fun r3 => (aI h r3 12 x5 (fun v4 => (if v4 = 121 then k8 x0 x2 x3 (x4 + (-1)) (x5 + 1) h else k8 x0 x2 x3 x4 (x5 + 1) h))))))))))
def f_X5_findParts_L8 (k69 : Nat → Int32 → Int32 → AH → RX Int32) : Nat → Nat → Int32 → Int32 → Int32 → Int32 → AH → RX Int32
  | 0, _, _, _, _, _, _ => none
  | n + 1, x0, x2, x3, x4, x5, h => (if x2 ≤ x5 then k69 x0 x2 x3 h else (if x4 = 0 then (gR h (some x0) 6 3 (fun r5 => (sI h r5 12 x3 x5 (fun h6 => f_X5_findParts_J30 (f_X5_findParts_L8 k69 n) x0 x2 (x3 + 1) x4 x5 h6)))) else f_X5_findParts_J30 (f_X5_findParts_L8 k69 n) x0 x2 x3 x4 x5 h))
def f_X5_findParts_J69  (x0 : Nat) (x2 : Int32) (x3 : Int32) (h : AH) : RX Int32 :=
  (gR h (some x0) 6 3 (fun r7 => (sI h r7 12 x3 x2 (fun h8 => rI x3 h8))))
def f_X5_findParts (h : AH) (a0 : Nat) (p1 : Int32) (p2 : Int32) : RX Int32 :=
  f_X5_findParts_L8 f_X5_findParts_J69 FU a0 p2 0 0 p1 h
def f_X9_isId (h : AH) (p0 : Int32) : RX Int32 :=
  (if p0 ≤ 109 then rZ 0 h else (if 119 < p0 then rZ 0 h else rZ 1 h))
def f_X5_rank (h : AH) (p0 : Int32) : RX Int32 :=
  (bnd (f_X9_isId h p0) (fun v1 h2 => (if v1 = 0 then rI p0 h2 else rI 110 h2)))
def f_J6_compare_7cf53 (h : AH) (p0 : Int32) (p1 : Int32) : RX Int32 :=
  (if p1 ≤ p0 then (if p0 = p1 then rI 0 h else rI 1 h) else rI (-1) h)
def f_X5_compareParts_L44 (k110 : Int32 → Int32 → AH → RX Int32) (k96 : Int32 → Int32 → AH → RX Int32) : Nat → Nat → Int32 → Int32 → Int32 → Int32 → Int32 → Int32 → AH → RX Int32
  | 0, _, _, _, _, _, _, _, _ => none
  | n + 1, x0, x1, x2, x3, x4, x5, x6, h => (if x5 ≤ x6 then k110 x3 x4 h else (gR h (some x0) 6 1 (fun r9 => (gR h (some x0) 6 3 (fun r10 => (aI h r10 12 x1 (fun v11 => (aI h r9 12 (v11 + x6) (fun v12 => (bnd (f_X5_rank h v12) (fun v13 h14 => (gR h14 (some x0) 6 1 (fun r15 => (gR h14 (some x0) 6 3 (fun r16 => (aI h14 r16 12 x2 (fun v17 => (aI h14 r15 12 (v17 + x6) (fun v18 => (bnd (f_X5_rank h14 v18) (fun v19 h20 => (if v13 = v19 then f_X5_compareParts_L44 k110 k96 n x0 x1 x2 x3 x4 x5 (x6 + 1) h20 else k96 v13 v19 h20))))))))))))))))))))))
def f_X5_compareParts_J110  (x3 : Int32) (x4 : Int32) (h : AH) : RX Int32 :=
  (bnd (f_J6_compare_7cf53 h x3 x4) (fun v21 h22 => rI v21 h22))
def f_X5_compareParts_J96  (x7 : Int32) (x8 : Int32) (h : AH) : RX Int32 :=
  (bnd (f_J6_compare_7cf53 h x7 x8) (fun v23 h24 => rI v23 h24))
def f_X5_compareParts (h : AH) (a0 : Nat) (p1 : Int32) (p2 : Int32) : RX Int32 :=
  (gR h (some a0) 6 3 (fun r1 => (aI h r1 12 (p1 + 1) (fun v2 => (gR h (some a0) 6 3 (fun r3 => (aI h r3 12 p1 (fun v4 => (gR h (some a0) 6 3 (fun r5 => (aI h r5 12 (p2 + 1) (fun v6 => (gR h (some a0) 6 3 (fun r7 => (aI h r7 12 p2 (fun v8 => f_X5_compareParts_L44 f_X5_compareParts_J110 f_X5_compareParts_J96 FU a0 p1 p2 (v2 - v4) (v6 - v8) (if (v6 - v8) < (v2 - v4) then (v6 - v8) else (v2 - v4)) 0 h))))))))))))))))
def f_X5_orderParts_L20 (k65 : Nat → Int32 → Int32 → Int32 → Int32 → AH → RX Unit) : Nat → Nat → Int32 → Int32 → Int32 → Int32 → AH → RX Unit
  | 0, _, _, _, _, _, _ => none
  | n + 1, x0, x1, x3, x4, x5, h => (if x5 ≤ 0 then k65 x0 x1 x3 x4 x5 h else (gR h (some x0) 6 4 (fun r3 => (aI h r3 12 (x5 - 1) (fun v4 => (cV h (some x0) 6 (fun b => bnd (f_X5_compareParts h b v4 x4) (fun v5 h6 => (if v5 ≤ 0 then k65 x0 x1 x3 x4 x5 h6 else (gR h6 (some x0) 6 4 (fun r7 => (gR h6 (some x0) 6 4 (fun r8 => (aI h6 r8 12 (x5 - 1) (fun v9 => (sI h6 r7 12 x5 v9 (fun h10 => f_X5_orderParts_L20 k65 n x0 x1 x3 x4 (x5 + (-1)) h10)))))))))))))))))
def f_X5_orderParts_J65 (k10 : Nat → Int32 → Int32 → Int32 → AH → RX Unit) (x0 : Nat) (x1 : Int32) (x3 : Int32) (x4 : Int32) (x5 : Int32) (h : AH) : RX Unit :=
  (gR h (some x0) 6 4 (fun r11 => (sI h r11 12 x5 x4 (fun h12 => k10 x0 x1 x3 (x4 + 1) h12))))
def f_X5_orderParts_L10 (k80 : Nat → Int32 → Int32 → AH → RX Unit) : Nat → Nat → Int32 → Int32 → Int32 → AH → RX Unit
  | 0, _, _, _, _, _ => none
  | n + 1, x0, x1, x3, x4, h => (if x3 ≤ x4 then k80 x0 x1 x3 h else f_X5_orderParts_L20 (f_X5_orderParts_J65 (f_X5_orderParts_L10 k80 n)) FU x0 x1 x3 x4 x4 h)
def f_X5_orderParts_L86 (k155 : Nat → Int32 → Int32 → AH → RX Unit) : Nat → Nat → Int32 → Int32 → Int32 → Int32 → AH → RX Unit
  | 0, _, _, _, _, _, _ => none
  | n + 1, x0, x1, x3, x4, x5, h => (if x3 ≤ x5 then k155 x0 x1 x4 h else (gR h (some x0) 6 3 (fun r13 => (gR h (some x0) 6 4 (fun r14 => (aI h r14 12 x5 (fun v15 => (aI h r13 12 v15 (fun v16 => (gR h (some x0) 6 3 (fun r17 => (gR h (some x0) 6 4 (fun r18 => (aI h r18 12 x5 (fun v19 => (aI h r17 12 (v19 + 1) (fun v20 => (gR h (some x0) 6 1 (fun r21 => (gR h (some x0) 6 5 (fun r22 => (cpI h r21 v16 r22 x4 (v20 - v16) (fun h23 => f_X5_orderParts_L86 k155 n x0 x1 x3 (x4 + (v20 - v16)) (x5 + 1) h23)))))))))))))))))))))))
def f_X5_orderParts_J155  (x0 : Nat) (x1 : Int32) (x4 : Int32) (h : AH) : RX Unit :=
  (gR h (some x0) 6 5 (fun r24 => (gR h (some x0) 6 1 (fun r25 => (cpI h r24 x1 r25 x1 (x4 - x1) (fun h26 => rV h26))))))
def f_X5_orderParts_J80  (x0 : Nat) (x1 : Int32) (x3 : Int32) (h : AH) : RX Unit :=
  f_X5_orderParts_L86 f_X5_orderParts_J155 FU x0 x1 x3 x1 0 h
def f_X5_orderParts (h : AH) (a0 : Nat) (p1 : Int32) (p2 : Int32) : RX Unit :=
  (cV h (some a0) 6 (fun b => bnd (f_X5_findParts h b p1 p2) (fun v1 h2 => f_X5_orderParts_L10 f_X5_orderParts_J80 FU a0 p1 v1 0 h2)))
def f_X5_orderLists_L4  : Nat → Nat → Int32 → Int32 → Int32 → AH → RX Unit
  | 0, _, _, _, _, _ => none
  | n + 1, x0, x1, x2, x3, h => (if x1 ≤ x3 then rV h else (gR h (some x0) 6 1 (fun r1 => (aI h r1 12 x3 (fun v2 => (if v2 = 120 then (gR h (some x0) 6 2 (fun r9 => (sI h r9 12 x2 x3 (fun h10 => f_X5_orderLists_L4 n x0 x1 (x2 + 1) (x3 + 1) h10)))) else (gR h (some x0) 6 1 (fun r3 => (aI h r3 12 x3 (fun v4 => (if v4 = 121 then (if x2 ≤ 0 then f_X5_orderLists_L4 n x0 x1 x2 (x3 + 1) h else (gR h (some x0) 6 2 (fun r5 => (aI h r5 12 (x2 + (-1)) (fun v6 => (cV h (some x0) 6 (fun b => bnd (f_X5_orderParts h b (v6 + 1) x3) (fun u7 h8 => f_X5_orderLists_L4 n x0 x1 (x2 + (-1)) (x3 + 1) h8)))))))) else f_X5_orderLists_L4 n x0 x1 x2 (x3 + 1) h)))))))))))
def f_X5_orderLists (h : AH) (a0 : Nat) (p1 : Int32) : RX Unit :=
  f_X5_orderLists_L4 FU a0 p1 0 0 h
def f_J7_fill_53178_L5  : Nat → Option Nat → Int32 → Int32 → Int32 → AH → RX Unit
  | 0, _, _, _, _, _ => none
  | n + 1, x0, x1, x2, x3, h => (if x3 ≤ x2 then rV h else (sI h x0 12 x2 x1 (fun h2 => f_J7_fill_53178_L5 n x0 x1 (x2 + 1) x3 h2)))
def f_J7_fill_53178 (h : AH) (p0 : Option Nat) (p1 : Int32) : RX Unit :=
  (aL h p0 12 (fun v1 => f_J7_fill_53178_L5 FU p0 p1 0 v1 h))
def f_X5_nameIds_J62 (k13 : Nat → Int32 → Int32 → Int32 → AH → RX Unit) (x0 : Nat) (x1 : Int32) (x2 : Int32) (x3 : Int32) (x4 : Int32) (h : AH) : RX Unit :=
  (gR h (some x0) 6 1 (fun r12 => (gR h (some x0) 6 6 (fun r13 => (aI h r13 12 x4 (fun v14 => (sI h r12 12 x3 v14 (fun h15 => k13 x0 x1 x2 (x3 + 1) h15))))))))
def f_X5_nameIds_L13  : Nat → Nat → Int32 → Int32 → Int32 → AH → RX Unit
  | 0, _, _, _, _, _ => none
  | n + 1, x0, x1, x2, x3, h => (if x1 ≤ x3 then rV h else (gR h (some x0) 6 1 (fun r4 => (aI h r4 12 x3 (fun v5 => (bnd (f_X9_isId h v5) (fun v6 h7 => (if v6 = 0 then f_X5_nameIds_L13 n x0 x1 x2 (x3 + 1) h7 else (gR h7 (some x0) 6 1 (fun r8 => (aI h7 r8 12 x3 (fun v9 => (gR h7 (some x0) 6 6 (fun r10 => (aI h7 r10 12 (v9 - 110) (fun v11 => (if v11 = 0 then (gR h7 (some x0) 6 6 (fun r16 => (sI h7 r16 12 (v9 - 110) x2 (fun h17 => f_X5_nameIds_J62 (f_X5_nameIds_L13 n) x0 x1 (x2 + 1) x3 (v9 - 110) h17)))) else f_X5_nameIds_J62 (f_X5_nameIds_L13 n) x0 x1 x2 x3 (v9 - 110) h7)))))))))))))))))
def f_X5_nameIds (h : AH) (a0 : Nat) (p1 : Int32) : RX Unit :=
  (gR h (some a0) 6 6 (fun r1 => (bnd (f_J7_fill_53178 h r1 0) (fun u2 h3 => f_X5_nameIds_L13 FU a0 p1 110 0 h3))))
def f_X5_work_J39  (x0 : Nat) (x2 : Int32) (h : AH) : RX Unit :=
  (gI h (some x0) 6 0 (fun v5 => (if (v5 &&& 2) = 0 then rV h else (cV h (some x0) 6 (fun b => bnd (f_X5_nameIds h b x2) (fun u6 h7 => rV h7))))))
def f_X5_work_J25  (x0 : Nat) (x2 : Int32) (h : AH) : RX Unit :=
  (gI h (some x0) 6 0 (fun v4 => (if (v4 &&& 4) = 0 then f_X5_work_J39 x0 x2 h else (cV h (some x0) 6 (fun b => bnd (f_X5_orderLists h b x2) (fun u8 h9 => f_X5_work_J39 x0 x2 h9))))))
def f_X5_work (h : AH) (a0 : Nat) (p1 : Option Nat) (p2 : Int32) : RX Unit :=
  (gR h (some a0) 6 1 (fun r1 => (cpI h p1 0 r1 0 p2 (fun h2 => (gI h2 (some a0) 6 0 (fun v3 => (if (v3 &&& 1) = 0 then f_X5_work_J25 a0 p2 h2 else (cV h2 (some a0) 6 (fun b => bnd (f_X5_levelDates h2 b p2) (fun u10 h11 => f_X5_work_J25 a0 p2 h11))))))))))
def f_X6_init (h : AH) (a0 : Nat) : RX Unit :=
  (nn (some a0) none (fun _ => (pI h (some a0) 7 0 0 (fun h1 => (nA h1 12 1440 (fun a2 h3 => (pR h3 (some a0) 7 1 (some a2) (fun h4 => (nA h4 12 1440 (fun a5 h6 => (pR h6 (some a0) 7 2 (some a5) (fun h7 => (nA h7 12 1440 (fun a8 h9 => (pR h9 (some a0) 7 3 (some a8) (fun h10 => rV h10))))))))))))))))
def f_X9_areAlikeFrom_L3  : Nat → Option Nat → Int32 → Option Nat → Int32 → Int32 → Int32 → AH → RX Int32
  | 0, _, _, _, _, _, _, _ => none
  | n + 1, x0, x1, x2, x3, x4, x5, h => (if x4 ≤ x5 then rZ 1 h else (aI h x0 12 (x1 + x5) (fun v1 => (aI h x2 12 (x3 + x5) (fun v2 => (if v1 = v2 then f_X9_areAlikeFrom_L3 n x0 x1 x2 x3 x4 (x5 + 1) h else rZ 0 h))))))
def f_X9_areAlikeFrom (h : AH) (p0 : Option Nat) (p1 : Int32) (p2 : Option Nat) (p3 : Int32) (p4 : Int32) : RX Int32 :=
  f_X9_areAlikeFrom_L3 FU p0 p1 p2 p3 p4 0 h
def f_X6_haveOneShape (h : AH) (p0 : Option Nat) (p1 : Int32) (p2 : Option Nat) (p3 : Int32) : RX Int32 :=
  (gR h p0 9 4 (fun r1 => (gR h p2 9 4 (fun r2 => (gR h r1 2 3 (fun r3 => (aI h r3 12 p1 (fun v4 => (gR h r2 2 3 (fun r5 => (aI h r5 12 p3 (fun v6 => (if v4 = v6 then (gR h r1 2 5 (fun r7 => (aI h r7 12 p1 (fun v8 => (gR h r2 2 5 (fun r9 => (aI h r9 12 p3 (fun v10 => (if v8 = v10 then (gR h p0 9 2 (fun r11 => (nn r11 (rZ 0 h) (fun _ => (gR h p0 9 3 (fun r12 => (nn r12 (rZ 0 h) (fun _ => (gR h p2 9 2 (fun r13 => (nn r13 (rZ 0 h) (fun _ => (gR h p2 9 3 (fun r14 => (nn r14 (rZ 0 h) (fun _ => (gR h p0 9 2 (fun r15 => (gR h r15 1 1 (fun r16 => (gR h r1 2 2 (fun r17 => (aI h r17 12 p1 (fun v18 => (gR h p2 9 2 (fun r19 => (gR h r19 1 1 (fun r20 => (gR h r2 2 2 (fun r21 => (aI h r21 12 p3 (fun v22 => (gR h r1 2 3 (fun r23 => (aI h r23 12 p1 (fun v24 => (bnd (f_X9_areAlikeFrom h r16 v18 r20 v22 v24) (fun v25 h26 => (if v25 = 0 then rZ 0 h26 else (gR h26 p0 9 3 (fun r27 => (gR h26 r27 1 1 (fun r28 => (gR h26 r1 2 4 (fun r29 => (aI h26 r29 12 p1 (fun v30 => (gR h26 p2 9 3 (fun r31 => (gR h26 r31 1 1 (fun r32 => (gR h26 r2 2 4 (fun r33 => (aI h26 r33 12 p3 (fun v34 => (gR h26 r1 2 5 (fun r35 => (aI h26 r35 12 p1 (fun v36 => (bnd (f_X9_areAlikeFrom h26 r28 v30 r32 v34 v36) (fun v37 h38 => (if v37 = 0 then rZ 0 h38 else rZ 1 h38)))))))))))))))))))))))))))))))))))))))))))))))))))))))))))))) else rZ 0 h))))))))) else rZ 0 h)))))))))))))
def f_X6_gather_L3 (k44 : Nat → Option Nat → Int32 → Int32 → Int32 → AH → RX Unit) : Nat → Nat → Option Nat → Int32 → Int32 → Int32 → AH → RX Unit
  | 0, _, _, _, _, _, _ => none
  | n + 1, x0, x1, x2, x3, x4, h => (gI h (some x0) 7 0 (fun v1 => (if v1 ≤ x4 then k44 x0 x1 x2 x3 x4 h else (gR h (some x0) 7 1 (fun r2 => (aI h r2 12 x4 (fun v3 => (aR h x1 17 v3 (fun r4 => (gR h (some x0) 7 2 (fun r5 => (aI h r5 12 x4 (fun v6 => (aR h x1 17 x2 (fun r7 => (bnd (f_X6_haveOneShape h r4 v6 r7 x3) (fun v8 h9 => (if v8 = 0 then f_X6_gather_L3 k44 n x0 x1 x2 x3 (x4 + 1) h9 else k44 x0 x1 x2 x3 x4 h9))))))))))))))))))
def f_X6_gather_J98  (x0 : Nat) (x1 : Option Nat) (x2 : Int32) (x3 : Int32) (x4 : Int32) (h : AH) : RX Unit :=
  (gR h (some x0) 7 3 (fun r13 => (aI h r13 12 x4 (fun v14 => (sI h r13 12 x4 (v14 + 1) (fun h15 => (aR h15 x1 17 x2 (fun r16 => (gR h15 r16 9 4 (fun r17 => (gR h15 r17 2 6 (fun r18 => (sI h15 r18 12 x3 x4 (fun h19 => rV h19))))))))))))))
def f_X6_gather_J44  (x0 : Nat) (x1 : Option Nat) (x2 : Int32) (x3 : Int32) (x4 : Int32) (h : AH) : RX Unit :=
  (gR h (some x0) 7 3 (fun r10 => (aL h r10 12 (fun v11 => (if x4 < v11 then (gI h (some x0) 7 0 (fun v12 => (if x4 = v12 then (gR h (some x0) 7 1 (fun r20 => (sI h r20 12 x4 x2 (fun h21 => (gR h21 (some x0) 7 2 (fun r22 => (sI h21 r22 12 x4 x3 (fun h23 => (gR h23 (some x0) 7 3 (fun r24 => (sI h23 r24 12 x4 0 (fun h25 => (gI h25 (some x0) 7 0 (fun v26 => (pI h25 (some x0) 7 0 (v26 + 1) (fun h27 => f_X6_gather_J98 x0 x1 x2 x3 x4 h27)))))))))))))))) else f_X6_gather_J98 x0 x1 x2 x3 x4 h))) else rV h)))))
def f_X6_gather (h : AH) (a0 : Nat) (p1 : Option Nat) (p2 : Int32) (p3 : Int32) : RX Unit :=
  f_X6_gather_L3 f_X6_gather_J44 FU a0 p1 p2 p3 0 h
def f_X7_init (h : AH) (a0 : Nat) : RX Unit :=
  (nn (some a0) none (fun _ => (pZ h (some a0) 8 0 1 (fun h1 => (pI h1 (some a0) 8 1 0 (fun h2 => (pI h2 (some a0) 8 2 0 (fun h3 => (nA h3 12 60 (fun a4 h5 => (pR h5 (some a0) 8 3 (some a4) (fun h6 => rV h6))))))))))))
def f_X7_make (h : AH) (a0 : Nat) (p1 : Int32) (p2 : Int32) : RX Unit :=
  (pZ h (some a0) 8 0 0 (fun h1 => (pI h1 (some a0) 8 1 p1 (fun h2 => (pI h2 (some a0) 8 2 p2 (fun h3 => (gR h3 (some a0) 8 3 (fun r4 => (bnd (f_J7_fill_53178 h3 r4 0) (fun u5 h6 => rV h6))))))))))
def f_X7_cut (h : AH) (a0 : Nat) (p1 : Int32) : RX Int32 :=
  (gI h (some a0) 8 1 (fun v1 => (if v1 = 0 then rI (Int8.toInt32 (Int32.toInt8 p1)) h else (gI h (some a0) 8 1 (fun v2 => (if v2 = 1 then rI (Int16.toInt32 (Int32.toInt16 p1)) h else rI p1 h))))))
def f_X7_hasRange (h : AH) (a0 : Nat) (p1 : Int32) (p2 : Int32) : RX Int32 :=
  (if p1 < 0 then rZ 0 h else (if p2 < 0 then rZ 0 h else (gI h (some a0) 8 2 (fun v1 => (if (v1 - p2) < p1 then rZ 0 h else rZ 1 h)))))
def f_X8_init (h : AH) (a0 : Nat) (p1 : Int32) (p2 : Int32) : RX Unit :=
  (nn (some a0) none (fun _ => (pR h (some a0) 9 2 none (fun h1 => (pR h1 (some a0) 9 3 none (fun h2 => (nO h2 2 7 (fun a3 h4 => (bnd (f_X1_init h4 a3) (fun u5 h6 => (pR h6 (some a0) 9 4 (some a3) (fun h7 => (pZ h7 (some a0) 9 5 0 (fun h8 => (nA h8 12 4 (fun a9 h10 => (pR h10 (some a0) 9 6 (some a9) (fun h11 => (pI h11 (some a0) 9 7 0 (fun h12 => (pI h12 (some a0) 9 0 p1 (fun h13 => (pI h13 (some a0) 9 1 p2 (fun h14 => rV h14))))))))))))))))))))))))
def f_X9_areAlike (h : AH) (p0 : Option Nat) (p1 : Option Nat) : RX Int32 :=
  (aL h p0 12 (fun v1 => (aL h p1 12 (fun v2 => (if v1 = v2 then (aL h p0 12 (fun v3 => (bnd (f_X9_areAlikeFrom h p0 0 p1 0 v3) (fun v4 h5 => (if v4 = 0 then rZ 0 h5 else rZ 1 h5))))) else rZ 0 h)))))
def f_X8_stateNow (h : AH) (a0 : Nat) : RX Int32 :=
  (gR h (some a0) 9 3 (fun r1 => (nn r1 (gR h (some a0) 9 2 (fun r9 => (nn r9 (rI 0 h) (fun _ => rI 4 h)))) (fun _ => (gR h (some a0) 9 2 (fun r2 => (nn r2 (rI 1 h) (fun _ => (gR h (some a0) 9 2 (fun r3 => (gR h r3 1 1 (fun r4 => (gR h (some a0) 9 3 (fun r5 => (gR h r5 1 1 (fun r6 => (bnd (f_X9_areAlike h r4 r6) (fun v7 h8 => (if v7 = 0 then rI 3 h8 else rI 2 h8)))))))))))))))))))
def f_X8_forgetLooks (h : AH) (a0 : Nat) : RX Unit :=
  (pI h (some a0) 9 7 0 (fun h1 => rV h1))
def f_X8_lookOf (h : AH) (a0 : Nat) (p1 : Int32) (p2 : Int32) : RX Int32 :=
  (gR h (some a0) 9 4 (fun r1 => (gR h r1 2 4 (fun r2 => (aI h r2 12 p2 (fun v3 => (gR h (some a0) 9 4 (fun r4 => (gR h r4 2 5 (fun r5 => (aI h r5 12 p2 (fun v6 => rI (((p1 * 3721) + (v3 * 61)) + v6) h))))))))))))
def f_X8_hasLooked_L10  : Nat → Nat → Int32 → Int32 → AH → RX Int32
  | 0, _, _, _, _ => none
  | n + 1, x0, x3, x4, h => (gI h (some x0) 9 7 (fun v3 => (if v3 ≤ x4 then rZ 0 h else (gR h (some x0) 9 6 (fun r4 => (aI h r4 12 x4 (fun v5 => (if v5 = x3 then rZ 1 h else f_X8_hasLooked_L10 n x0 x3 (x4 + 1) h))))))))
def f_X8_hasLooked (h : AH) (a0 : Nat) (p1 : Int32) (p2 : Int32) : RX Int32 :=
  (cV h (some a0) 9 (fun b => bnd (f_X8_lookOf h b p1 p2) (fun v1 h2 => f_X8_hasLooked_L10 FU a0 v1 0 h2)))
def f_X8_lookAt_J41  (x0 : Nat) (x1 : Int32) (x2 : Int32) (h : AH) : RX Unit :=
  (gR h (some x0) 9 6 (fun r6 => (gI h (some x0) 9 7 (fun v7 => (cV h (some x0) 9 (fun b => bnd (f_X8_lookOf h b x1 x2) (fun v8 h9 => (sI h9 r6 12 v7 v8 (fun h10 => (gI h10 (some x0) 9 7 (fun v11 => (pI h10 (some x0) 9 7 (v11 + 1) (fun h12 => rV h12)))))))))))))
def f_X8_lookAt (h : AH) (a0 : Nat) (p1 : Int32) (p2 : Int32) : RX Unit :=
  (cV h (some a0) 9 (fun b => bnd (f_X8_hasLooked h b p1 p2) (fun v1 h2 => (if v1 = 0 then (gI h2 (some a0) 9 7 (fun v3 => (gR h2 (some a0) 9 6 (fun r4 => (aL h2 r4 12 (fun v5 => (if v3 < v5 then f_X8_lookAt_J41 a0 p1 p2 h2 else (gR h2 (some a0) 9 6 (fun r13 => (gI h2 (some a0) 9 7 (fun v14 => (bnd (f_J7_copyOf_59c91 h2 r13 ((v14 * 2) + 4)) (fun r15 h16 => (pR h16 (some a0) 9 6 r15 (fun h17 => f_X8_lookAt_J41 a0 p1 p2 h17))))))))))))))) else rV h2))))
def f_X8_looksOf_L4  : Nat → Nat → Int32 → Int32 → Int32 → AH → RX Int32
  | 0, _, _, _, _, _ => none
  | n + 1, x0, x1, x2, x3, h => (gI h (some x0) 9 7 (fun v1 => (if v1 ≤ x3 then rI x2 h else (gR h (some x0) 9 6 (fun r2 => (aI h r2 12 x3 (fun v3 => (if 3721 = 0 then none else (if (v3 / 3721) = x1 then f_X8_looksOf_L4 n x0 x1 (x2 + 1) (x3 + 1) h else f_X8_looksOf_L4 n x0 x1 x2 (x3 + 1) h)))))))))
def f_X8_looksOf (h : AH) (a0 : Nat) (p1 : Int32) : RX Int32 :=
  f_X8_looksOf_L4 FU a0 p1 0 0 h
def f_X8_unseenOf_L6  : Nat → Nat → Int32 → Int32 → Int32 → Int32 → Int32 → AH → RX Int32
  | 0, _, _, _, _, _, _, _ => none
  | n + 1, x0, x1, x2, x3, x4, x5, h => (gR h (some x0) 9 4 (fun r1 => (gI h r1 2 0 (fun v2 => (if v2 ≤ x5 then rI x4 h else (gR h (some x0) 9 4 (fun r3 => (cV h r3 2 (fun b => bnd (f_X1_isMeant h b x5 x2 x3) (fun v4 h5 => (if v4 = 0 then f_X8_unseenOf_L6 n x0 x1 x2 x3 x4 (x5 + 1) h5 else (cV h5 (some x0) 9 (fun b => bnd (f_X8_hasLooked h5 b x1 x5) (fun v6 h7 => (if v6 = 0 then f_X8_unseenOf_L6 n x0 x1 x2 x3 (x4 + 1) (x5 + 1) h7 else f_X8_unseenOf_L6 n x0 x1 x2 x3 x4 (x5 + 1) h7)))))))))))))))
def f_X8_unseenOf (h : AH) (a0 : Nat) (p1 : Int32) (p2 : Int32) (p3 : Int32) : RX Int32 :=
  f_X8_unseenOf_L6 FU a0 p1 p2 p3 0 0 h
def f_X10_init_L109 (k134 : Nat → AH → RX Unit) : Nat → Nat → Int32 → AH → RX Unit
  | 0, _, _, _ => none
  | n + 1, x0, x2, h => (if 8 ≤ x2 then k134 x0 h else (gR h (some x0) 10 0 (fun r37 => (nO h 8 4 (fun a38 h39 => (bnd (f_X7_init h39 a38) (fun u40 h41 => (sR h41 r37 16 8 x2 (some a38) (fun h42 => f_X10_init_L109 k134 n x0 (x2 + 1) h42)))))))))
def f_X10_init_L136  : Nat → Nat → Int32 → AH → RX Unit
  | 0, _, _, _ => none
  | n + 1, x0, x2, h => (if 36 ≤ x2 then rV h else (gR h (some x0) 10 1 (fun r43 => (nO h 9 8 (fun a44 h45 => (if 3 = 0 then none else (if 3 = 0 then none else (bnd (f_X8_init h45 a44 (x2 / 3) (x2 - x2 / 3 * 3)) (fun u46 h47 => (sR h47 r43 17 9 x2 (some a44) (fun h48 => f_X10_init_L136 n x0 (x2 + 1) h48)))))))))))
def f_X10_init_J134  (x0 : Nat) (h : AH) : RX Unit :=
  f_X10_init_L136 FU x0 0 h
def f_X10_init (h : AH) (a0 : Nat) (p1 : Int32) : RX Unit :=
  (nn (some a0) none (fun _ => (nA h 16 8 (fun a1 h2 => (pR h2 (some a0) 10 0 (some a1) (fun h3 => (nA h3 17 36 (fun a4 h5 => (pR h5 (some a0) 10 1 (some a4) (fun h6 => (nO h6 3 1 (fun a7 h8 => (bnd (f_X2_init h8 a7) (fun u9 h10 => (pR h10 (some a0) 10 3 (some a7) (fun h11 => (nO h11 4 2 (fun a12 h13 => (bnd (f_X3_init h13 a12) (fun u14 h15 => (pR h15 (some a0) 10 4 (some a12) (fun h16 => (nO h16 7 4 (fun a17 h18 => (bnd (f_X6_init h18 a17) (fun u19 h20 => (pR h20 (some a0) 10 5 (some a17) (fun h21 => (pZ h21 (some a0) 10 6 0 (fun h22 => (nA h22 15 100 (fun a23 h24 => (pR h24 (some a0) 10 7 (some a23) (fun h25 => (pI h25 (some a0) 10 8 0 (fun h26 => (nA h26 12 16 (fun a27 h28 => (pR h28 (some a0) 10 9 (some a27) (fun h29 => (pI h29 (some a0) 10 10 0 (fun h30 => (pI h30 (some a0) 10 11 0 (fun h31 => (nO h31 6 7 (fun a32 h33 => (bnd (f_X5_init h33 a32 (p1 &&& 7)) (fun u34 h35 => (pR h35 (some a0) 10 2 (some a32) (fun h36 => f_X10_init_L109 f_X10_init_J134 FU a0 0 h36))))))))))))))))))))))))))))))))))))))))))))))))))
def f_X10_isBelow (h : AH) (p0 : Int32) (p1 : Int32) : RX Int32 :=
  (if p0 < 0 then rZ 0 h else (if p1 ≤ p0 then rZ 0 h else rZ 1 h))
def f_X10_isRow (h : AH) (p0 : Int32) : RX Int32 :=
  (bnd (f_X10_isBelow h p0 8) (fun v1 h2 => rZ v1 h2))
def f_X10_found (h : AH) (a0 : Nat) (p1 : Int32) : RX Int32 :=
  (pI h (some a0) 10 11 p1 (fun h1 => rI ((-1000010) - p1) h1))
def f_X10_fine (h : AH) (a0 : Nat) (p1 : Int32) : RX Int32 :=
  (pI h (some a0) 10 11 0 (fun h1 => rI p1 h1))
def f_X10_row (h : AH) (a0 : Nat) (p1 : Int32) (p2 : Int32) (p3 : Int32) : RX Int32 :=
  (bnd (f_X10_isRow h p1) (fun v1 h2 => (if v1 = 0 then rI (-1000001) h2 else (bnd (f_X10_isBelow h2 p2 3) (fun v3 h4 => (if v3 = 0 then rI (-1000001) h4 else (if p3 ≤ 60 then (if 0 ≤ p3 then (gR h4 (some a0) 10 0 (fun r5 => (aR h4 r5 16 p1 (fun r6 => (cV h4 r6 8 (fun b => bnd (f_X7_make h4 b p2 p3) (fun u7 h8 => (cV h8 (some a0) 10 (fun b => bnd (f_X10_fine h8 b p3) (fun v9 h10 => rI v9 h10)))))))))) else (cV h4 (some a0) 10 (fun b => bnd (f_X10_found h4 b 4) (fun v11 h12 => rI v11 h12)))) else rI (-1000001) h4)))))))
def f_X10_set (h : AH) (a0 : Nat) (p1 : Int32) (p2 : Int32) (p3 : Int32) : RX Int32 :=
  (bnd (f_X10_isRow h p1) (fun v1 h2 => (if v1 = 0 then rI (-1000001) h2 else (gR h2 (some a0) 10 0 (fun r3 => (aR h2 r3 16 p1 (fun r4 => (gI h2 r4 8 0 (fun v5 => (if v5 = 0 then (gI h2 r4 8 2 (fun v6 => (bnd (f_X10_isBelow h2 p2 v6) (fun v7 h8 => (if v7 = 0 then (cV h8 (some a0) 10 (fun b => bnd (f_X10_found h8 b 2) (fun v17 h18 => rI v17 h18))) else (gR h8 r4 8 3 (fun r9 => (cV h8 r4 8 (fun b => bnd (f_X7_cut h8 b p3) (fun v10 h11 => (sI h11 r9 12 p2 v10 (fun h12 => (gR h12 r4 8 3 (fun r13 => (aI h12 r13 12 p2 (fun v14 => (cV h12 (some a0) 10 (fun b => bnd (f_X10_fine h12 b v14) (fun v15 h16 => rI v15 h16))))))))))))))))))) else (cV h2 (some a0) 10 (fun b => bnd (f_X10_found h2 b 1) (fun v19 h20 => rI v19 h20)))))))))))))
def f_X10_copy_J49  (x0 : Nat) (h : AH) : RX Int32 :=
  (cV h (some x0) 10 (fun b => bnd (f_X10_found h b 1) (fun v10 h11 => rI v10 h11)))
def f_X10_copy_J97  (x0 : Nat) (h : AH) : RX Int32 :=
  (cV h (some x0) 10 (fun b => bnd (f_X10_found h b 2) (fun v17 h18 => rI v17 h18)))
def f_X10_copy (h : AH) (a0 : Nat) (p1 : Int32) (p2 : Int32) (p3 : Int32) (p4 : Int32) (p5 : Int32) : RX Int32 :=
  (bnd (f_X10_isRow h p1) (fun v1 h2 => (if v1 = 0 then rI (-1000001) h2 else (bnd (f_X10_isRow h2 p3) (fun v3 h4 => (if v3 = 0 then rI (-1000001) h4 else (gR h4 (some a0) 10 0 (fun r5 => (aR h4 r5 16 p1 (fun r6 => (gR h4 (some a0) 10 0 (fun r7 => (aR h4 r7 16 p3 (fun r8 => (gI h4 r6 8 0 (fun v9 => (if v9 = 0 then (gI h4 r8 8 0 (fun v12 => (if v12 = 0 then (gI h4 r6 8 1 (fun v13 => (gI h4 r8 8 1 (fun v14 => (if v13 = v14 then (cV h4 r6 8 (fun b => bnd (f_X7_hasRange h4 b p2 p5) (fun v15 h16 => (if v15 = 0 then f_X10_copy_J97 a0 h16 else (cV h16 r8 8 (fun b => bnd (f_X7_hasRange h16 b p4 p5) (fun v19 h20 => (if v19 = 0 then f_X10_copy_J97 a0 h20 else (gR h20 r6 8 3 (fun r21 => (gR h20 r8 8 3 (fun r22 => (cpI h20 r21 p2 r22 p4 p5 (fun h23 => (cV h23 (some a0) 10 (fun b => bnd (f_X10_fine h23 b p5) (fun v24 h25 => rI v24 h25))))))))))))))))) else (cV h4 (some a0) 10 (fun b => bnd (f_X10_found h4 b 5) (fun v26 h27 => rI v26 h27)))))))) else f_X10_copy_J49 a0 h4))) else f_X10_copy_J49 a0 h4)))))))))))))))))
def f_X10_drop (h : AH) (a0 : Nat) (p1 : Int32) : RX Int32 :=
  (bnd (f_X10_isRow h p1) (fun v1 h2 => (if v1 = 0 then rI (-1000001) h2 else (gR h2 (some a0) 10 0 (fun r3 => (aR h2 r3 16 p1 (fun r4 => (gI h2 r4 8 0 (fun v5 => (if v5 = 0 then (pZ h2 r4 8 0 1 (fun h6 => (gI h6 r4 8 2 (fun v7 => (cV h6 (some a0) 10 (fun b => bnd (f_X10_fine h6 b v7) (fun v8 h9 => rI v8 h9))))))) else (cV h2 (some a0) 10 (fun b => bnd (f_X10_found h2 b 1) (fun v10 h11 => rI v10 h11)))))))))))))
def f_X10_fold_J88  (s0 : Int32) (s1 : Option Nat) (h : AH) : RX Int32 :=
  (cV h s1 10 (fun b => bnd (f_X10_fine h b s0) (fun v18 h19 => rI v18 h19)))
def f_X10_fold (h : AH) (a0 : Nat) (p1 : Int32) (p2 : Int32) : RX Int32 :=
  (bnd (f_X10_isRow h p1) (fun v1 h2 => (if v1 = 0 then rI (-1000001) h2 else (gR h2 (some a0) 10 0 (fun r3 => (aR h2 r3 16 p1 (fun r4 => (gI h2 r4 8 0 (fun v5 => (if v5 = 0 then (gR h2 r4 8 3 (fun r6 => (gI h2 r4 8 2 (fun v7 => (bnd (f_X9_areAnswer h2 r6 v7) (fun v8 h9 => (if v8 = 0 then rI (-1000002) h9 else (gR h9 (some a0) 10 2 (fun r10 => (gR h9 r4 8 3 (fun r11 => (gI h9 r4 8 2 (fun v12 => (cV h9 r10 6 (fun b => bnd (f_X5_work h9 b r11 v12) (fun u13 h14 => (gI h14 r4 8 2 (fun v15 => (bnd (f_X10_isBelow h14 p2 v15) (fun v16 h17 => (if v16 = 0 then f_X10_fold_J88 (-1000000) (some a0) h17 else (gR h17 (some a0) 10 2 (fun r20 => (gR h17 r20 6 1 (fun r21 => (aI h17 r21 12 p2 (fun v22 => f_X10_fold_J88 v22 (some a0) h17))))))))))))))))))))))))))) else (cV h2 (some a0) 10 (fun b => bnd (f_X10_found h2 b 1) (fun v23 h24 => rI v23 h24)))))))))))))
def f_X10_slotAt (h : AH) (p0 : Int32) (p1 : Int32) : RX Int32 :=
  (bnd (f_X10_isBelow h p0 12) (fun v1 h2 => (if v1 = 0 then rI (-1) h2 else (bnd (f_X10_isBelow h2 p1 3) (fun v3 h4 => (if v3 = 0 then rI (-1) h4 else rI ((p0 * 3) + p1) h4))))))
def f_X10_answerOf (h : AH) (a0 : Nat) (p1 : Option Nat) : RX (Option Nat) :=
  (gR h (some a0) 10 2 (fun r1 => (gR h p1 8 3 (fun r2 => (gI h p1 8 2 (fun v3 => (cV h r1 6 (fun b => bnd (f_X5_work h b r2 v3) (fun u4 h5 => (nO h5 1 2 (fun a6 h7 => (gR h7 p1 8 3 (fun r8 => (gI h7 p1 8 2 (fun v9 => (bnd (f_J7_copyOf_59c91 h7 r8 v9) (fun r10 h11 => (gR h11 (some a0) 10 2 (fun r12 => (gR h11 r12 6 1 (fun r13 => (gI h11 p1 8 2 (fun v14 => (bnd (f_J7_copyOf_59c91 h11 r13 v14) (fun r15 h16 => (bnd (f_X0_init h16 a6 r10 r15) (fun u17 h18 => rR (some a6) h18)))))))))))))))))))))))))))
def f_X10_touch (h : AH) (a0 : Nat) (p1 : Int32) : RX Unit :=
  (gR h (some a0) 10 1 (fun r1 => (aR h r1 17 p1 (fun r2 => (pZ h r2 9 5 0 (fun h3 => (pZ h3 (some a0) 10 6 0 (fun h4 => rV h4))))))))
def f_X10_keep (h : AH) (a0 : Nat) (p1 : Int32) (p2 : Int32) (p3 : Int32) : RX Int32 :=
  (bnd (f_X10_slotAt h p1 p2) (fun v1 h2 => (if v1 < 0 then rI (-1000001) h2 else (bnd (f_X10_isRow h2 p3) (fun v3 h4 => (if v3 = 0 then rI (-1000001) h4 else (gR h4 (some a0) 10 0 (fun r5 => (aR h4 r5 16 p3 (fun r6 => (gI h4 r6 8 0 (fun v7 => (if v7 = 0 then (gR h4 r6 8 3 (fun r8 => (gI h4 r6 8 2 (fun v9 => (bnd (f_X9_areAnswer h4 r8 v9) (fun v10 h11 => (if v10 = 0 then rI (-1000002) h11 else (gR h11 (some a0) 10 1 (fun r12 => (aR h11 r12 17 v1 (fun r13 => (cV h11 (some a0) 10 (fun b => bnd (f_X10_answerOf h11 b r6) (fun r14 h15 => (pR h15 r13 9 2 r14 (fun h16 => (cV h16 (some a0) 10 (fun b => bnd (f_X10_touch h16 b v1) (fun u17 h18 => (gI h18 r6 8 2 (fun v19 => (cV h18 (some a0) 10 (fun b => bnd (f_X10_fine h18 b v19) (fun v20 h21 => rI v20 h21)))))))))))))))))))))))) else (cV h4 (some a0) 10 (fun b => bnd (f_X10_found h4 b 1) (fun v22 h23 => rI v22 h23))))))))))))))))
def f_X10_give (h : AH) (a0 : Nat) (p1 : Int32) (p2 : Int32) (p3 : Int32) : RX Int32 :=
  (bnd (f_X10_slotAt h p1 p2) (fun v1 h2 => (if v1 < 0 then rI (-1000001) h2 else (bnd (f_X10_isRow h2 p3) (fun v3 h4 => (if v3 = 0 then rI (-1000001) h4 else (gR h4 (some a0) 10 0 (fun r5 => (aR h4 r5 16 p3 (fun r6 => (gI h4 r6 8 0 (fun v7 => (if v7 = 0 then (gR h4 r6 8 3 (fun r8 => (gI h4 r6 8 2 (fun v9 => (bnd (f_X9_areAnswer h4 r8 v9) (fun v10 h11 => (if v10 = 0 then rI (-1000002) h11 else (gR h11 (some a0) 10 1 (fun r12 => (aR h11 r12 17 v1 (fun r13 => (cV h11 (some a0) 10 (fun b => bnd (f_X10_answerOf h11 b r6) (fun r14 h15 => (pR h15 r13 9 3 r14 (fun h16 => (gR h16 (some a0) 10 1 (fun r17 => (aR h16 r17 17 v1 (fun r18 => (cV h16 r18 9 (fun b => bnd (f_X8_forgetLooks h16 b) (fun u19 h20 => (cV h20 (some a0) 10 (fun b => bnd (f_X10_touch h20 b v1) (fun u21 h22 => (gR h22 (some a0) 10 1 (fun r23 => (aR h22 r23 17 v1 (fun r24 => (cV h22 r24 9 (fun b => bnd (f_X8_stateNow h22 b) (fun v25 h26 => (cV h26 (some a0) 10 (fun b => bnd (f_X10_fine h26 b v25) (fun v27 h28 => rI v27 h28)))))))))))))))))))))))))))))))))))) else (cV h4 (some a0) 10 (fun b => bnd (f_X10_found h4 b 1) (fun v29 h30 => rI v29 h30))))))))))))))))
def f_X10_begin_L4  : Nat → Nat → Int32 → Int32 → AH → RX Int32
  | 0, _, _, _, _ => none
  | n + 1, x0, x1, x2, h => (if 36 ≤ x2 then rI x1 h else (gR h (some x0) 10 1 (fun r1 => (aR h r1 17 x2 (fun r2 => (gR h r2 9 3 (fun r3 => (nn r3 (f_X10_begin_L4 n x0 x1 (x2 + 1) h) (fun _ => (gR h (some x0) 10 1 (fun r4 => (aR h r4 17 x2 (fun r5 => (pR h r5 9 3 none (fun h6 => (gR h6 (some x0) 10 1 (fun r7 => (aR h6 r7 17 x2 (fun r8 => (cV h6 r8 9 (fun b => bnd (f_X8_forgetLooks h6 b) (fun u9 h10 => (cV h10 (some x0) 10 (fun b => bnd (f_X10_touch h10 b x2) (fun u11 h12 => f_X10_begin_L4 n x0 (x1 + 1) (x2 + 1) h12)))))))))))))))))))))))))
def f_X10_begin (h : AH) (a0 : Nat) : RX Int32 :=
  f_X10_begin_L4 FU a0 0 0 h
def f_X10_forget (h : AH) (a0 : Nat) (p1 : Int32) (p2 : Int32) : RX Int32 :=
  (bnd (f_X10_slotAt h p1 p2) (fun v1 h2 => (if 0 ≤ v1 then (gR h2 (some a0) 10 1 (fun r3 => (aR h2 r3 17 v1 (fun r4 => (gR h2 r4 9 2 (fun r5 => (nn r5 (rI 0 h2) (fun _ => (gR h2 (some a0) 10 1 (fun r6 => (aR h2 r6 17 v1 (fun r7 => (pR h2 r7 9 2 none (fun h8 => (cV h8 (some a0) 10 (fun b => bnd (f_X10_touch h8 b v1) (fun u9 h10 => rI 1 h10))))))))))))))))) else rI (-1000001) h2)))
def f_X10_state (h : AH) (a0 : Nat) (p1 : Int32) (p2 : Int32) : RX Int32 :=
  (bnd (f_X10_slotAt h p1 p2) (fun v1 h2 => (if 0 ≤ v1 then (gR h2 (some a0) 10 1 (fun r3 => (aR h2 r3 17 v1 (fun r4 => (cV h2 r4 9 (fun b => bnd (f_X8_stateNow h2 b) (fun v5 h6 => rI v5 h6))))))) else rI (-1000001) h2)))
def f_X10_states_L16  : Nat → Nat → Int32 → Int32 → Int32 → AH → RX Int32
  | 0, _, _, _, _, _ => none
  | n + 1, x0, x1, x2, x3, h => (if 36 ≤ x3 then rI x2 h else (gR h (some x0) 10 1 (fun r1 => (aR h r1 17 x3 (fun r2 => (cV h r2 9 (fun b => bnd (f_X8_stateNow h b) (fun v3 h4 => (if v3 = x1 then f_X10_states_L16 n x0 x1 (x2 + 1) (x3 + 1) h4 else f_X10_states_L16 n x0 x1 x2 (x3 + 1) h4)))))))))
def f_X10_states (h : AH) (a0 : Nat) (p1 : Int32) : RX Int32 :=
  (if p1 < 0 then rI (-1000001) h else (if p1 ≤ 4 then f_X10_states_L16 FU a0 p1 0 0 h else rI (-1000001) h))
def f_X10_token_J80  (x4 : Int32) (s0 : Option Nat) (h : AH) : RX Int32 :=
  (aL h s0 12 (fun v9 => (bnd (f_X10_isBelow h x4 v9) (fun v10 h11 => (if v10 = 0 then rI (-1000000) h11 else (aI h11 s0 12 x4 (fun v12 => rI v12 h11)))))))
def f_X10_token_J51  (x3 : Int32) (x4 : Int32) (s0 : Option Nat) (h : AH) : RX Int32 :=
  (nn s0 (rI (-1000002) h) (fun _ => (if 2 = 0 then none else (if (x3 - x3 / 2 * 2) = 0 then (gR h s0 1 1 (fun r13 => f_X10_token_J80 x4 r13 h)) else (gR h s0 1 0 (fun r8 => f_X10_token_J80 x4 r8 h))))))
def f_X10_token (h : AH) (a0 : Nat) (p1 : Int32) (p2 : Int32) (p3 : Int32) (p4 : Int32) : RX Int32 :=
  (bnd (f_X10_slotAt h p1 p2) (fun v1 h2 => (if v1 < 0 then rI (-1000001) h2 else (bnd (f_X10_isBelow h2 p3 4) (fun v3 h4 => (if v3 = 0 then rI (-1000001) h4 else (if 2 ≤ p3 then (gR h4 (some a0) 10 1 (fun r5 => (aR h4 r5 17 v1 (fun r6 => (gR h4 r6 9 3 (fun r7 => f_X10_token_J51 p3 p4 r7 h4)))))) else (gR h4 (some a0) 10 1 (fun r14 => (aR h4 r14 17 v1 (fun r15 => (gR h4 r15 9 2 (fun r16 => f_X10_token_J51 p3 p4 r16 h4)))))))))))))
def f_X10_changesAt_J60  (x2 : Option Nat) (h : AH) : RX (Option Nat) :=
  (pZ h x2 9 5 1 (fun h9 => (gR h9 x2 9 4 (fun r10 => rR r10 h9))))
def f_X10_changesAt (h : AH) (a0 : Nat) (p1 : Int32) : RX (Option Nat) :=
  (gR h (some a0) 10 1 (fun r1 => (aR h r1 17 p1 (fun r2 => (gI h r2 9 5 (fun v3 => (if v3 = 0 then (gR h r2 9 4 (fun r5 => (cV h r5 2 (fun b => bnd (f_X1_clear h b) (fun u6 h7 => (gR h7 r2 9 2 (fun r8 => (nn r8 (f_X10_changesAt_J60 r2 h7) (fun _ => (gR h7 r2 9 3 (fun r11 => (nn r11 (f_X10_changesAt_J60 r2 h7) (fun _ => (gR h7 (some a0) 10 3 (fun r12 => (gR h7 r2 9 2 (fun r13 => (gR h7 r13 1 1 (fun r14 => (gR h7 r2 9 3 (fun r15 => (gR h7 r15 1 1 (fun r16 => (gR h7 r2 9 4 (fun r17 => (cV h7 r12 3 (fun b => bnd (f_X2_walk h7 b r14 r16 r17) (fun u18 h19 => f_X10_changesAt_J60 r2 h19)))))))))))))))))))))))))))) else (gR h r2 9 4 (fun r4 => rR r4 h)))))))))
def f_X10_cost (h : AH) (a0 : Nat) (p1 : Int32) (p2 : Int32) : RX Int32 :=
  (bnd (f_X10_slotAt h p1 p2) (fun v1 h2 => (if 0 ≤ v1 then (cV h2 (some a0) 10 (fun b => bnd (f_X10_changesAt h2 b v1) (fun r3 h4 => (gI h4 r3 2 1 (fun v5 => rI v5 h4))))) else rI (-1000001) h2)))
def f_X10_gatherGroups_L35 (k59 : Nat → Int32 → AH → RX Unit) : Nat → Nat → Int32 → Int32 → Int32 → AH → RX Unit
  | 0, _, _, _, _, _ => none
  | n + 1, x0, x1, x2, x3, h => (if x2 ≤ x3 then k59 x0 x1 h else (gR h (some x0) 10 5 (fun r8 => (gR h (some x0) 10 1 (fun r9 => (cV h r8 7 (fun b => bnd (f_X6_gather h b r9 x1 x3) (fun u10 h11 => f_X10_gatherGroups_L35 k59 n x0 x1 x2 (x3 + 1) h11))))))))
def f_X10_gatherGroups_J59 (k18 : Nat → Int32 → AH → RX Unit) (x0 : Nat) (x1 : Int32) (h : AH) : RX Unit :=
  k18 x0 (x1 + 1) h
def f_X10_gatherGroups_L18  : Nat → Nat → Int32 → AH → RX Unit
  | 0, _, _, _ => none
  | n + 1, x0, x1, h => (if 36 ≤ x1 then (pZ h (some x0) 10 6 1 (fun h4 => rV h4)) else (cV h (some x0) 10 (fun b => bnd (f_X10_changesAt h b x1) (fun r5 h6 => (gI h6 r5 2 0 (fun v7 => f_X10_gatherGroups_L35 (f_X10_gatherGroups_J59 (f_X10_gatherGroups_L18 n)) FU x0 x1 v7 0 h6))))))
def f_X10_gatherGroups (h : AH) (a0 : Nat) : RX Unit :=
  (gI h (some a0) 10 6 (fun v1 => (if v1 = 0 then (gR h (some a0) 10 5 (fun r2 => (pI h r2 7 0 0 (fun h3 => f_X10_gatherGroups_L18 FU a0 0 h3)))) else rV h)))
def f_X10_change (h : AH) (a0 : Nat) (p1 : Int32) (p2 : Int32) (p3 : Int32) (p4 : Int32) : RX Int32 :=
  (bnd (f_X10_slotAt h p1 p2) (fun v1 h2 => (if v1 < 0 then rI (-1000001) h2 else (bnd (f_X10_isBelow h2 p4 5) (fun v3 h4 => (if v3 = 0 then rI (-1000001) h4 else (cV h4 (some a0) 10 (fun b => bnd (f_X10_changesAt h4 b v1) (fun r5 h6 => (gI h6 r5 2 0 (fun v7 => (bnd (f_X10_isBelow h6 p3 v7) (fun v8 h9 => (if v8 = 0 then rI (-1000000) h9 else (if p4 = 0 then (gR h9 r5 2 2 (fun r10 => (aI h9 r10 12 p3 (fun v11 => rI v11 h9)))) else (if p4 = 1 then (gR h9 r5 2 3 (fun r12 => (aI h9 r12 12 p3 (fun v13 => rI v13 h9)))) else (if p4 = 2 then (gR h9 r5 2 4 (fun r14 => (aI h9 r14 12 p3 (fun v15 => rI v15 h9)))) else (if p4 = 3 then (gR h9 r5 2 5 (fun r16 => (aI h9 r16 12 p3 (fun v17 => rI v17 h9)))) else (cV h9 (some a0) 10 (fun b => bnd (f_X10_gatherGroups h9 b) (fun u18 h19 => (gR h19 r5 2 6 (fun r20 => (aI h19 r20 12 p3 (fun v21 => rI v21 h19)))))))))))))))))))))))))
def f_X10_nearest_J111 (k42 : Nat → Int32 → Int32 → Option Nat → Int32 → Int32 → Int32 → AH → RX Int32) (x0 : Nat) (x1 : Int32) (x2 : Int32) (x4 : Option Nat) (x7 : Int32) (x9 : Int32) (h : AH) : RX Int32 :=
  k42 x0 x1 x2 x4 x7 x9 (x7 + 1) h
def f_X10_nearest_L42  : Nat → Nat → Int32 → Int32 → Option Nat → Int32 → Int32 → Int32 → AH → RX Int32
  | 0, _, _, _, _, _, _, _, _ => none
  | n + 1, x0, x1, x2, x4, x5, x6, x7, h => (if 3 ≤ x7 then rI x5 h else (gR h (some x0) 10 1 (fun r6 => (aR h r6 17 ((x1 * 3) + x7) (fun r7 => (gR h r7 9 2 (fun r8 => (if x7 = x2 then f_X10_nearest_L42 n x0 x1 x2 x4 x5 x6 (x7 + 1) h else (nn r8 (f_X10_nearest_L42 n x0 x1 x2 x4 x5 x6 (x7 + 1) h) (fun _ => (gR h (some x0) 10 3 (fun r9 => (gR h r8 1 1 (fun r10 => (gR h x4 1 1 (fun r11 => (cV h r9 3 (fun b => bnd (f_X2_measure h b r10 r11) (fun v12 h13 => (if x5 = (-1000000) then f_X10_nearest_J111 (f_X10_nearest_L42 n) x0 x1 x2 x4 x7 v12 h13 else (if x6 ≤ v12 then f_X10_nearest_L42 n x0 x1 x2 x4 x5 x6 (x7 + 1) h13 else f_X10_nearest_J111 (f_X10_nearest_L42 n) x0 x1 x2 x4 x7 v12 h13)))))))))))))))))))))
def f_X10_nearest (h : AH) (a0 : Nat) (p1 : Int32) (p2 : Int32) : RX Int32 :=
  (bnd (f_X10_slotAt h p1 p2) (fun v1 h2 => (if 0 ≤ v1 then (gR h2 (some a0) 10 1 (fun r3 => (aR h2 r3 17 v1 (fun r4 => (gR h2 r4 9 3 (fun r5 => (nn r5 (rI (-1000002) h2) (fun _ => f_X10_nearest_L42 FU a0 p1 p2 r5 (-1000000) 0 0 h2)))))))) else rI (-1000001) h2)))
def f_X10_groups (h : AH) (a0 : Nat) : RX Int32 :=
  (cV h (some a0) 10 (fun b => bnd (f_X10_gatherGroups h b) (fun u1 h2 => (gR h2 (some a0) 10 5 (fun r3 => (gI h2 r3 7 0 (fun v4 => rI v4 h2)))))))
def f_X10_group (h : AH) (a0 : Nat) (p1 : Int32) (p2 : Int32) : RX Int32 :=
  (cV h (some a0) 10 (fun b => bnd (f_X10_gatherGroups h b) (fun u1 h2 => (gR h2 (some a0) 10 5 (fun r3 => (gI h2 r3 7 0 (fun v4 => (bnd (f_X10_isBelow h2 p1 v4) (fun v5 h6 => (if v5 = 0 then rI (-1000001) h6 else (bnd (f_X10_isBelow h6 p2 6) (fun v7 h8 => (if v7 = 0 then rI (-1000001) h8 else (gR h8 (some a0) 10 1 (fun r9 => (gR h8 (some a0) 10 5 (fun r10 => (gR h8 r10 7 1 (fun r11 => (aI h8 r11 12 p1 (fun v12 => (aR h8 r9 17 v12 (fun r13 => (gR h8 (some a0) 10 5 (fun r14 => (gR h8 r14 7 2 (fun r15 => (aI h8 r15 12 p1 (fun v16 => (if p2 = 0 then (gR h8 (some a0) 10 5 (fun r17 => (gR h8 r17 7 3 (fun r18 => (aI h8 r18 12 p1 (fun v19 => rI v19 h8)))))) else (if p2 = 1 then (gR h8 r13 9 4 (fun r20 => (gR h8 r20 2 3 (fun r21 => (aI h8 r21 12 v16 (fun v22 => rI v22 h8)))))) else (if p2 = 2 then (gR h8 r13 9 4 (fun r23 => (gR h8 r23 2 5 (fun r24 => (aI h8 r24 12 v16 (fun v25 => rI v25 h8)))))) else (if p2 = 3 then (gI h8 r13 9 0 (fun v26 => rI v26 h8)) else (if p2 = 4 then (gI h8 r13 9 1 (fun v27 => rI v27 h8)) else rI v16 h8))))))))))))))))))))))))))))))))))
def f_X10_shape (h : AH) (a0 : Nat) (p1 : Int32) (p2 : Int32) (p3 : Int32) : RX Int32 :=
  (cV h (some a0) 10 (fun b => bnd (f_X10_gatherGroups h b) (fun u1 h2 => (gR h2 (some a0) 10 5 (fun r3 => (gI h2 r3 7 0 (fun v4 => (bnd (f_X10_isBelow h2 p1 v4) (fun v5 h6 => (if v5 = 0 then rI (-1000001) h6 else (bnd (f_X10_isBelow h6 p2 2) (fun v7 h8 => (if v7 = 0 then rI (-1000001) h8 else (gR h8 (some a0) 10 1 (fun r9 => (gR h8 (some a0) 10 5 (fun r10 => (gR h8 r10 7 1 (fun r11 => (aI h8 r11 12 p1 (fun v12 => (aR h8 r9 17 v12 (fun r13 => (gR h8 (some a0) 10 5 (fun r14 => (gR h8 r14 7 2 (fun r15 => (aI h8 r15 12 p1 (fun v16 => (gR h8 r13 9 2 (fun r17 => (nn r17 (rI (-1000001) h8) (fun _ => (gR h8 r13 9 3 (fun r18 => (nn r18 (rI (-1000001) h8) (fun _ => (if p2 = 0 then (gR h8 r13 9 4 (fun r30 => (gR h8 r30 2 3 (fun r31 => (aI h8 r31 12 v16 (fun v32 => (bnd (f_X10_isBelow h8 p3 v32) (fun v33 h34 => (if v33 = 0 then rI (-1000000) h34 else (gR h34 r13 9 2 (fun r35 => (gR h34 r35 1 1 (fun r36 => (gR h34 r13 9 4 (fun r37 => (gR h34 r37 2 2 (fun r38 => (aI h34 r38 12 v16 (fun v39 => (aI h34 r36 12 (v39 + p3) (fun v40 => rI v40 h34))))))))))))))))))))) else (gR h8 r13 9 4 (fun r19 => (gR h8 r19 2 5 (fun r20 => (aI h8 r20 12 v16 (fun v21 => (bnd (f_X10_isBelow h8 p3 v21) (fun v22 h23 => (if v22 = 0 then rI (-1000000) h23 else (gR h23 r13 9 3 (fun r24 => (gR h23 r24 1 1 (fun r25 => (gR h23 r13 9 4 (fun r26 => (gR h23 r26 2 4 (fun r27 => (aI h23 r27 12 v16 (fun v28 => (aI h23 r25 12 (v28 + p3) (fun v29 => rI v29 h23)))))))))))))))))))))))))))))))))))))))))))))))))))))))))))
def f_X10_look (h : AH) (a0 : Nat) (p1 : Int32) (p2 : Int32) (p3 : Int32) (p4 : Int32) : RX Int32 :=
  (bnd (f_X10_slotAt h p2 p3) (fun v1 h2 => (bnd (f_X10_isBelow h2 p1 4) (fun v3 h4 => (if v3 = 0 then rI (-1000001) h4 else (if 0 ≤ v1 then (cV h4 (some a0) 10 (fun b => bnd (f_X10_changesAt h4 b v1) (fun r5 h6 => (gI h6 r5 2 0 (fun v7 => (bnd (f_X10_isBelow h6 p4 v7) (fun v8 h9 => (if v8 = 0 then rI (-1000001) h9 else (gR h9 (some a0) 10 1 (fun r10 => (aR h9 r10 17 v1 (fun r11 => (cV h9 r11 9 (fun b => bnd (f_X8_lookAt h9 b p1 p4) (fun u12 h13 => (gR h13 (some a0) 10 1 (fun r14 => (aR h13 r14 17 v1 (fun r15 => (cV h13 r15 9 (fun b => bnd (f_X8_looksOf h13 b p1) (fun v16 h17 => rI v16 h17)))))))))))))))))))))) else rI (-1000001) h4))))))
def f_X10_enter (h : AH) (a0 : Nat) (p1 : Option Nat) (p2 : Int32) (p3 : Int32) (p4 : Int32) : RX Unit :=
  (gR h (some a0) 10 1 (fun r1 => (aR h r1 17 p2 (fun r2 => (gI h p1 5 2 (fun v3 => (gR h r2 9 4 (fun r4 => (cV h r4 2 (fun b => bnd (f_X1_countOf h b p3 p4) (fun v5 h6 => (pI h6 p1 5 2 (v3 + v5) (fun h7 => (gI h7 p1 5 3 (fun v8 => (gI h7 p1 5 0 (fun v9 => (cV h7 r2 9 (fun b => bnd (f_X8_unseenOf h7 b v9 p3 p4) (fun v10 h11 => (pI h11 p1 5 3 (v8 + v10) (fun h12 => (gR h12 r2 9 2 (fun r13 => (cV h12 p1 5 (fun b => bnd (f_X4_remember h12 b p2 r13) (fun u14 h15 => (gR h15 (some a0) 10 4 (fun r16 => (cV h15 r16 4 (fun b => bnd (f_X3_write h15 b r2 p3 p4) (fun u17 h18 => (gR h18 (some a0) 10 4 (fun r19 => (cV h18 r19 4 (fun b => bnd (f_X3_toAnswer h18 b) (fun r20 h21 => (pR h21 r2 9 2 r20 (fun h22 => (cV h22 (some a0) 10 (fun b => bnd (f_X10_touch h22 b p2) (fun u23 h24 => rV h24))))))))))))))))))))))))))))))))))))))))))
def f_X10_addToBook (h : AH) (a0 : Nat) (p1 : Option Nat) : RX Int32 :=
  (gI h (some a0) 10 8 (fun v1 => (if v1 < 100 then (gR h (some a0) 10 7 (fun r2 => (gI h (some a0) 10 8 (fun v3 => (sR h r2 15 5 v3 p1 (fun h4 => (gI h4 (some a0) 10 8 (fun v5 => (pI h4 (some a0) 10 8 (v5 + 1) (fun h6 => (gI h6 (some a0) 10 8 (fun v7 => rI (v7 - 1) h6)))))))))))) else rI (-1000003) h)))
def f_X10_approve (h : AH) (a0 : Nat) (p1 : Int32) (p2 : Int32) (p3 : Int32) (p4 : Int32) (p5 : Int32) : RX Int32 :=
  (bnd (f_X10_slotAt h p2 p3) (fun v1 h2 => (bnd (f_X10_isBelow h2 p1 4) (fun v3 h4 => (if v3 = 0 then rI (-1000001) h4 else (if v1 < 0 then rI (-1000001) h4 else (bnd (f_X10_isBelow h4 p5 2) (fun v5 h6 => (if v5 = 0 then rI (-1000001) h6 else (cV h6 (some a0) 10 (fun b => bnd (f_X10_changesAt h6 b v1) (fun r7 h8 => (gI h8 r7 2 0 (fun v9 => (bnd (f_X10_isBelow h8 p4 v9) (fun v10 h11 => (if v10 = 0 then rI (-1000001) h11 else (gR h11 (some a0) 10 4 (fun r12 => (gR h11 (some a0) 10 1 (fun r13 => (aR h11 r13 17 v1 (fun r14 => (cV h11 r12 4 (fun b => bnd (f_X3_write h11 b r14 p4 (-1)) (fun u15 h16 => (gR h16 (some a0) 10 4 (fun r17 => (cV h16 r17 4 (fun b => bnd (f_X3_isAnswer h16 b) (fun v18 h19 => (if v18 = 0 then rI (-1000002) h19 else (gI h19 (some a0) 10 8 (fun v20 => (if v20 < 100 then (gR h19 (some a0) 10 1 (fun r21 => (aR h19 r21 17 v1 (fun r22 => (cV h19 r22 9 (fun b => bnd (f_X8_lookAt h19 b p1 p4) (fun u23 h24 => (nO h24 5 8 (fun a25 h26 => (bnd (f_X4_init h26 a25 p1 p5 1) (fun u27 h28 => (cV h28 (some a0) 10 (fun b => bnd (f_X10_enter h28 b (some a25) v1 p4 (-1)) (fun u29 h30 => (cV h30 (some a0) 10 (fun b => bnd (f_X10_addToBook h30 b (some a25)) (fun v31 h32 => rI v31 h32))))))))))))))))) else rI (-1000003) h19)))))))))))))))))))))))))))))))))))
def f_X10_approveAll_L43 (k106 : Nat → Int32 → Int32 → Int32 → Int32 → AH → RX Int32) : Nat → Nat → Int32 → Int32 → Int32 → Int32 → Int32 → AH → RX Int32
  | 0, _, _, _, _, _, _, _ => none
  | n + 1, x0, x1, x2, x3, x4, x5, h => (if 36 ≤ x5 then k106 x0 x1 x2 x3 x4 h else (gR h (some x0) 10 1 (fun r11 => (aR h r11 17 x5 (fun r12 => (gR h r12 9 4 (fun r13 => (cV h r13 2 (fun b => bnd (f_X1_countOf h b (-1) x2) (fun v14 h15 => (if v14 ≤ 0 then f_X10_approveAll_L43 k106 n x0 x1 x2 x3 x4 (x5 + 1) h15 else (gR h15 (some x0) 10 4 (fun r16 => (gR h15 (some x0) 10 1 (fun r17 => (aR h15 r17 17 x5 (fun r18 => (cV h15 r16 4 (fun b => bnd (f_X3_write h15 b r18 (-1) x2) (fun u19 h20 => (gR h20 (some x0) 10 4 (fun r21 => (cV h20 r21 4 (fun b => bnd (f_X3_isAnswer h20 b) (fun v22 h23 => (if v22 = 0 then rI (-1000002) h23 else f_X10_approveAll_L43 k106 n x0 x1 x2 x3 (x4 + 1) (x5 + 1) h23))))))))))))))))))))))))))
def f_X10_approveAll_L134 (k175 : Nat → Option Nat → AH → RX Int32) : Nat → Nat → Int32 → Option Nat → Int32 → AH → RX Int32
  | 0, _, _, _, _, _ => none
  | n + 1, x0, x2, x5, x6, h => (if 36 ≤ x6 then k175 x0 x5 h else (gR h (some x0) 10 1 (fun r29 => (aR h r29 17 x6 (fun r30 => (gR h r30 9 4 (fun r31 => (cV h r31 2 (fun b => bnd (f_X1_countOf h b (-1) x2) (fun v32 h33 => (if v32 ≤ 0 then f_X10_approveAll_L134 k175 n x0 x2 x5 (x6 + 1) h33 else (cV h33 (some x0) 10 (fun b => bnd (f_X10_enter h33 b x5 x6 (-1) x2) (fun u34 h35 => f_X10_approveAll_L134 k175 n x0 x2 x5 (x6 + 1) h35))))))))))))))
def f_X10_approveAll_J175  (x0 : Nat) (x5 : Option Nat) (h : AH) : RX Int32 :=
  (cV h (some x0) 10 (fun b => bnd (f_X10_addToBook h b x5) (fun v36 h37 => rI v36 h37)))
def f_X10_approveAll_J106  (x0 : Nat) (x1 : Int32) (x2 : Int32) (x3 : Int32) (x4 : Int32) (h : AH) : RX Int32 :=
  (gI h (some x0) 10 8 (fun v24 => (if v24 < 100 then (nO h 5 8 (fun a25 h26 => (bnd (f_X4_init h26 a25 x1 x3 x4) (fun u27 h28 => f_X10_approveAll_L134 f_X10_approveAll_J175 FU x0 x2 (some a25) 0 h28)))) else rI (-1000003) h)))
def f_X10_approveAll (h : AH) (a0 : Nat) (p1 : Int32) (p2 : Int32) (p3 : Int32) : RX Int32 :=
  (cV h (some a0) 10 (fun b => bnd (f_X10_gatherGroups h b) (fun u1 h2 => (bnd (f_X10_isBelow h2 p1 4) (fun v3 h4 => (if v3 = 0 then rI (-1000001) h4 else (gR h4 (some a0) 10 5 (fun r5 => (gI h4 r5 7 0 (fun v6 => (bnd (f_X10_isBelow h4 p2 v6) (fun v7 h8 => (if v7 = 0 then rI (-1000001) h8 else (bnd (f_X10_isBelow h8 p3 2) (fun v9 h10 => (if v9 = 0 then rI (-1000001) h10 else f_X10_approveAll_L43 f_X10_approveAll_J106 FU a0 p1 p2 p3 0 0 h10))))))))))))))))
def f_X10_undo_L7 (k29 : Nat → Int32 → AH → RX Int32) : Nat → Nat → Int32 → AH → RX Int32
  | 0, _, _, _ => none
  | n + 1, x0, x1, h => (if x1 < 0 then k29 x0 x1 h else (gR h (some x0) 10 7 (fun r2 => (aR h r2 15 x1 (fun r3 => (gI h r3 5 4 (fun v4 => (if v4 = 0 then k29 x0 x1 h else f_X10_undo_L7 k29 n x0 (x1 + (-1)) h))))))))
def f_X10_undo_L50  : Nat → Nat → Int32 → Option Nat → Int32 → AH → RX Int32
  | 0, _, _, _, _, _ => none
  | n + 1, x0, x1, x2, x3, h => (gI h x2 5 5 (fun v8 => (if v8 ≤ x3 then rI x1 h else (gR h (some x0) 10 1 (fun r9 => (gR h x2 5 6 (fun r10 => (aI h r10 12 x3 (fun v11 => (aR h r9 17 v11 (fun r12 => (gR h x2 5 7 (fun r13 => (aR h r13 14 x3 (fun r14 => (pR h r12 9 2 r14 (fun h15 => (gR h15 x2 5 6 (fun r16 => (aI h15 r16 12 x3 (fun v17 => (cV h15 (some x0) 10 (fun b => bnd (f_X10_touch h15 b v17) (fun u18 h19 => f_X10_undo_L50 n x0 x1 x2 (x3 + 1) h19))))))))))))))))))))))))
def f_X10_undo_J29  (x0 : Nat) (x1 : Int32) (h : AH) : RX Int32 :=
  (if 0 ≤ x1 then (gR h (some x0) 10 7 (fun r5 => (aR h r5 15 x1 (fun r6 => (pZ h r6 5 4 1 (fun h7 => f_X10_undo_L50 FU x0 x1 r6 0 h7)))))) else rI (-1000000) h)
def f_X10_undo (h : AH) (a0 : Nat) : RX Int32 :=
  (gI h (some a0) 10 8 (fun v1 => f_X10_undo_L7 f_X10_undo_J29 FU a0 (v1 - 1) h))
def f_X10_entry (h : AH) (a0 : Nat) (p1 : Int32) (p2 : Int32) : RX Int32 :=
  (bnd (f_X10_isBelow h p2 6) (fun v1 h2 => (if v1 = 0 then rI (-1000001) h2 else (gI h2 (some a0) 10 8 (fun v3 => (bnd (f_X10_isBelow h2 p1 v3) (fun v4 h5 => (if v4 = 0 then rI (-1000000) h5 else (gR h5 (some a0) 10 7 (fun r6 => (aR h5 r6 15 p1 (fun r7 => (if p2 = 0 then (gI h5 r7 5 0 (fun v8 => rI v8 h5)) else (if p2 = 1 then (gI h5 r7 5 1 (fun v9 => rI v9 h5)) else (if p2 = 2 then (gI h5 r7 5 2 (fun v10 => rI v10 h5)) else (if p2 = 3 then (gI h5 r7 5 3 (fun v11 => rI v11 h5)) else (if p2 = 4 then (gI h5 r7 5 4 (fun v12 => (if v12 = 0 then rI 0 h5 else rI 1 h5))) else (gI h5 r7 5 5 (fun v13 => rI v13 h5)))))))))))))))))))
def f_X10_isFoldedOne (h : AH) (a0 : Nat) (p1 : Int32) : RX Int32 :=
  (gR h (some a0) 10 1 (fun r1 => (aR h r1 17 p1 (fun r2 => (gR h r2 9 2 (fun r3 => (nn r3 (rZ 0 h) (fun _ => (gR h r3 1 0 (fun r4 => (gR h r3 1 1 (fun r5 => (bnd (f_X9_areAlike h r4 r5) (fun v6 h7 => (if v6 = 0 then rZ 1 h7 else rZ 0 h7)))))))))))))))
def f_X10_isWide_L18  : Nat → Nat → Int32 → Option Nat → Int32 → AH → RX Int32
  | 0, _, _, _, _, _ => none
  | n + 1, x0, x1, x2, x3, h => (if 36 ≤ x3 then rZ 0 h else (gR h (some x0) 10 1 (fun r4 => (aR h r4 17 x3 (fun r5 => (gR h r5 9 2 (fun r6 => (gR h (some x0) 10 1 (fun r7 => (aR h r7 17 x3 (fun r8 => (gI h r8 9 0 (fun v9 => (gR h (some x0) 10 1 (fun r10 => (aR h r10 17 x1 (fun r11 => (gI h r11 9 0 (fun v12 => (if v9 = v12 then f_X10_isWide_L18 n x0 x1 x2 (x3 + 1) h else (nn r6 (f_X10_isWide_L18 n x0 x1 x2 (x3 + 1) h) (fun _ => (gR h r6 1 1 (fun r13 => (gR h x2 1 1 (fun r14 => (bnd (f_X9_areAlike h r13 r14) (fun v15 h16 => (if v15 = 0 then f_X10_isWide_L18 n x0 x1 x2 (x3 + 1) h16 else (gR h16 r6 1 0 (fun r17 => (gR h16 x2 1 0 (fun r18 => (bnd (f_X9_areAlike h16 r17 r18) (fun v19 h20 => (if v19 = 0 then rZ 1 h20 else f_X10_isWide_L18 n x0 x1 x2 (x3 + 1) h20))))))))))))))))))))))))))))))))))))
def f_X10_isWide (h : AH) (a0 : Nat) (p1 : Int32) : RX Int32 :=
  (gR h (some a0) 10 1 (fun r1 => (aR h r1 17 p1 (fun r2 => (gR h r2 9 2 (fun r3 => (nn r3 (rZ 0 h) (fun _ => f_X10_isWide_L18 FU a0 p1 r3 0 h))))))))
def f_X10_isSplit_L25  : Nat → Nat → Int32 → Option Nat → Int32 → Int32 → AH → RX Int32
  | 0, _, _, _, _, _, _ => none
  | n + 1, x0, x1, x2, x3, x4, h => (if (x3 + 3) ≤ x4 then rZ 0 h else (gR h (some x0) 10 1 (fun r4 => (aR h r4 17 x4 (fun r5 => (gR h r5 9 2 (fun r6 => (if x4 = x1 then f_X10_isSplit_L25 n x0 x1 x2 x3 (x4 + 1) h else (nn r6 (f_X10_isSplit_L25 n x0 x1 x2 x3 (x4 + 1) h) (fun _ => (gR h r6 1 1 (fun r7 => (gR h x2 1 1 (fun r8 => (bnd (f_X9_areAlike h r7 r8) (fun v9 h10 => (if v9 = 0 then rZ 1 h10 else f_X10_isSplit_L25 n x0 x1 x2 x3 (x4 + 1) h10)))))))))))))))))
def f_X10_isSplit (h : AH) (a0 : Nat) (p1 : Int32) : RX Int32 :=
  (gR h (some a0) 10 1 (fun r1 => (aR h r1 17 p1 (fun r2 => (gR h r2 9 2 (fun r3 => (nn r3 (rZ 0 h) (fun _ => (if 3 = 0 then none else f_X10_isSplit_L25 FU a0 p1 r3 (p1 - (p1 - p1 / 3 * 3)) (p1 - (p1 - p1 / 3 * 3)) h)))))))))
def f_X10_toldKind (h : AH) (a0 : Nat) (p1 : Int32) : RX Int32 :=
  (cV h (some a0) 10 (fun b => bnd (f_X10_isFoldedOne h b p1) (fun v1 h2 => (if v1 = 0 then (cV h2 (some a0) 10 (fun b => bnd (f_X10_isSplit h2 b p1) (fun v3 h4 => (if v3 = 0 then rI 0 h4 else rI 2 h4)))) else (cV h2 (some a0) 10 (fun b => bnd (f_X10_isWide h2 b p1) (fun v5 h6 => (if v5 = 0 then rI 1 h6 else rI 3 h6))))))))
def f_X10_kind (h : AH) (a0 : Nat) (p1 : Int32) (p2 : Int32) : RX Int32 :=
  (bnd (f_X10_slotAt h p1 p2) (fun v1 h2 => (if 0 ≤ v1 then (gR h2 (some a0) 10 1 (fun r3 => (aR h2 r3 17 v1 (fun r4 => (gR h2 r4 9 2 (fun r5 => (nn r5 (rI (-1000002) h2) (fun _ => (cV h2 (some a0) 10 (fun b => bnd (f_X10_toldKind h2 b v1) (fun v6 h7 => rI v6 h7))))))))))) else rI (-1000001) h2)))
def f_X10_isOneOf (h : AH) (p0 : Int32) (p1 : Int32) : RX Int32 :=
  (if p1 = 0 then rZ 1 h else (if p1 = p0 then rZ 1 h else (if p1 = 1 then (if p0 = 3 then rZ 1 h else rZ 0 h) else rZ 0 h)))
def f_X10_as (h : AH) (a0 : Nat) (p1 : Int32) (p2 : Int32) (p3 : Int32) : RX Int32 :=
  (bnd (f_X10_slotAt h p1 p2) (fun v1 h2 => (if v1 < 0 then rI (-1000001) h2 else (if p3 < 0 then rI (-1000001) h2 else (if p3 ≤ 3 then (gR h2 (some a0) 10 1 (fun r3 => (aR h2 r3 17 v1 (fun r4 => (gR h2 r4 9 2 (fun r5 => (nn r5 (rI (-1000002) h2) (fun _ => (cV h2 (some a0) 10 (fun b => bnd (f_X10_toldKind h2 b v1) (fun v6 h7 => (bnd (f_X10_isOneOf h7 v6 p3) (fun v8 h9 => (if v8 = 0 then (cV h9 (some a0) 10 (fun b => bnd (f_X10_found h9 b 3) (fun v14 h15 => rI v14 h15))) else (gR h9 r5 1 1 (fun r10 => (aL h9 r10 12 (fun v11 => (cV h9 (some a0) 10 (fun b => bnd (f_X10_fine h9 b v11) (fun v12 h13 => rI v12 h13))))))))))))))))))))) else rI (-1000001) h2)))))
def f_X10_leave (h : AH) (a0 : Nat) (p1 : Int32) : RX Unit :=
  (gI h (some a0) 10 10 (fun v1 => (if 16 ≤ v1 then rV h else (gR h (some a0) 10 9 (fun r2 => (gI h (some a0) 10 10 (fun v3 => (sI h r2 12 v3 p1 (fun h4 => (gI h4 (some a0) 10 10 (fun v5 => (pI h4 (some a0) 10 10 (v5 + 1) (fun h6 => rV h6)))))))))))))
def f_X10_sizeLent (h : AH) (a0 : Nat) (p1 : Option Nat) : RX Int32 :=
  (cV h (some a0) 10 (fun b => bnd (f_X10_leave h b 10) (fun u1 h2 => (gR h2 p1 9 2 (fun r3 => (nn r3 (rI 0 h2) (fun _ => (gR h2 p1 9 2 (fun r4 => (gR h2 r4 1 1 (fun r5 => (aL h2 r5 12 (fun v6 => rI v6 h2)))))))))))))
def f_X10_sizeOfFolded (h : AH) (a0 : Nat) (p1 : Option Nat) : RX Int32 :=
  (cV h (some a0) 10 (fun b => bnd (f_X10_leave h b 11) (fun u1 h2 => (cV h2 (some a0) 10 (fun b => bnd (f_X10_sizeLent h2 b p1) (fun v3 h4 => rI (v3 + 1) h4))))))
def f_X10_markLent (h : AH) (a0 : Nat) (p1 : Option Nat) : RX Int32 :=
  (cV h (some a0) 10 (fun b => bnd (f_X10_leave h b 20) (fun u1 h2 => (gI h2 p1 9 0 (fun v3 => rI v3 h2)))))
def f_X10_markOfFolded (h : AH) (a0 : Nat) (p1 : Option Nat) : RX Int32 :=
  (cV h (some a0) 10 (fun b => bnd (f_X10_leave h b 21) (fun u1 h2 => (cV h2 (some a0) 10 (fun b => bnd (f_X10_markLent h2 b p1) (fun v3 h4 => rI (v3 + 100) h4))))))
def f_X10_markOfSplit (h : AH) (a0 : Nat) (p1 : Option Nat) : RX Int32 :=
  (cV h (some a0) 10 (fun b => bnd (f_X10_leave h b 22) (fun u1 h2 => (cV h2 (some a0) 10 (fun b => bnd (f_X10_markLent h2 b p1) (fun v3 h4 => (gI h4 p1 9 1 (fun v5 => rI (v3 + (v5 * 10)) h4))))))))
def f_X10_askMark_J28  (x0 : Nat) (x1 : Option Nat) (h : AH) : RX Int32 :=
  (cV h (some x0) 10 (fun b => bnd (f_X10_markOfFolded h b x1) (fun v1 h2 => rI v1 h2)))
def f_X10_askMark (h : AH) (a0 : Nat) (p1 : Option Nat) (p2 : Int32) : RX Int32 :=
  (if p2 = 1 then f_X10_askMark_J28 a0 p1 h else (if p2 = 2 then (cV h (some a0) 10 (fun b => bnd (f_X10_markOfSplit h b p1) (fun v3 h4 => rI v3 h4))) else (if p2 = 3 then f_X10_askMark_J28 a0 p1 h else (cV h (some a0) 10 (fun b => bnd (f_X10_markLent h b p1) (fun v5 h6 => rI v5 h6))))))
def f_X10_sizeOfWide (h : AH) (a0 : Nat) (p1 : Option Nat) : RX Int32 :=
  (cV h (some a0) 10 (fun b => bnd (f_X10_leave h b 13) (fun u1 h2 => (cV h2 (some a0) 10 (fun b => bnd (f_X10_sizeOfFolded h2 b p1) (fun v3 h4 => (cV h4 (some a0) 10 (fun b => bnd (f_X10_askMark h4 b p1 3) (fun v5 h6 => rI (v3 + v5) h6)))))))))
def f_X10_sizeOfSplit (h : AH) (a0 : Nat) (p1 : Option Nat) : RX Int32 :=
  (cV h (some a0) 10 (fun b => bnd (f_X10_leave h b 12) (fun u1 h2 => (cV h2 (some a0) 10 (fun b => bnd (f_X10_sizeLent h2 b p1) (fun v3 h4 => rI (v3 * 2) h4))))))
def f_X10_askSize (h : AH) (a0 : Nat) (p1 : Option Nat) (p2 : Int32) : RX Int32 :=
  (if p2 = 1 then (cV h (some a0) 10 (fun b => bnd (f_X10_sizeOfFolded h b p1) (fun v1 h2 => rI v1 h2))) else (if p2 = 2 then (cV h (some a0) 10 (fun b => bnd (f_X10_sizeOfSplit h b p1) (fun v3 h4 => rI v3 h4))) else (if p2 = 3 then (cV h (some a0) 10 (fun b => bnd (f_X10_sizeOfWide h b p1) (fun v5 h6 => rI v5 h6))) else (cV h (some a0) 10 (fun b => bnd (f_X10_sizeLent h b p1) (fun v7 h8 => rI v7 h8))))))
def f_X10_ask (h : AH) (a0 : Nat) (p1 : Int32) (p2 : Int32) (p3 : Int32) : RX Int32 :=
  (bnd (f_X10_slotAt h p1 p2) (fun v1 h2 => (if v1 < 0 then rI (-1000001) h2 else (bnd (f_X10_isBelow h2 p3 2) (fun v3 h4 => (if v3 = 0 then rI (-1000001) h4 else (pI h4 (some a0) 10 10 0 (fun h5 => (gR h5 (some a0) 10 1 (fun r6 => (aR h5 r6 17 v1 (fun r7 => (gR h5 r7 9 2 (fun r8 => (nn r8 (rI (-1000002) h5) (fun _ => (cV h5 (some a0) 10 (fun b => bnd (f_X10_toldKind h5 b v1) (fun v9 h10 => (if p3 = 0 then (gR h10 (some a0) 10 1 (fun r15 => (aR h10 r15 17 v1 (fun r16 => (cV h10 (some a0) 10 (fun b => bnd (f_X10_askSize h10 b r16 v9) (fun v17 h18 => rI v17 h18))))))) else (gR h10 (some a0) 10 1 (fun r11 => (aR h10 r11 17 v1 (fun r12 => (cV h10 (some a0) 10 (fun b => bnd (f_X10_askMark h10 b r12 v9) (fun v13 h14 => rI v13 h14)))))))))))))))))))))))))))
def f_X10_trace (h : AH) (a0 : Nat) (p1 : Int32) : RX Int32 :=
  (gI h (some a0) 10 10 (fun v1 => (bnd (f_X10_isBelow h p1 v1) (fun v2 h3 => (if v2 = 0 then rI (-1000000) h3 else (gR h3 (some a0) 10 9 (fun r4 => (aI h3 r4 12 p1 (fun v5 => rI v5 h3)))))))))
def f_X10_countRows_L4  : Nat → Nat → Int32 → Int32 → AH → RX Int32
  | 0, _, _, _, _ => none
  | n + 1, x0, x1, x2, h => (if 8 ≤ x2 then rI x1 h else (gR h (some x0) 10 0 (fun r1 => (aR h r1 16 x2 (fun r2 => (gI h r2 8 0 (fun v3 => (if v3 = 0 then f_X10_countRows_L4 n x0 (x1 + 1) (x2 + 1) h else f_X10_countRows_L4 n x0 x1 (x2 + 1) h))))))))
def f_X10_countRows (h : AH) (a0 : Nat) : RX Int32 :=
  f_X10_countRows_L4 FU a0 0 0 h
def f_X10_countKept_L4  : Nat → Nat → Int32 → Int32 → AH → RX Int32
  | 0, _, _, _, _ => none
  | n + 1, x0, x1, x2, h => (if 36 ≤ x2 then rI x1 h else (gR h (some x0) 10 1 (fun r1 => (aR h r1 17 x2 (fun r2 => (gR h r2 9 2 (fun r3 => (nn r3 (f_X10_countKept_L4 n x0 x1 (x2 + 1) h) (fun _ => f_X10_countKept_L4 n x0 (x1 + 1) (x2 + 1) h)))))))))
def f_X10_countKept (h : AH) (a0 : Nat) : RX Int32 :=
  f_X10_countKept_L4 FU a0 0 0 h
def f_X10_countGiven_L4  : Nat → Nat → Int32 → Int32 → AH → RX Int32
  | 0, _, _, _, _ => none
  | n + 1, x0, x1, x2, h => (if 36 ≤ x2 then rI x1 h else (gR h (some x0) 10 1 (fun r1 => (aR h r1 17 x2 (fun r2 => (gR h r2 9 3 (fun r3 => (nn r3 (f_X10_countGiven_L4 n x0 x1 (x2 + 1) h) (fun _ => f_X10_countGiven_L4 n x0 (x1 + 1) (x2 + 1) h)))))))))
def f_X10_countGiven (h : AH) (a0 : Nat) : RX Int32 :=
  f_X10_countGiven_L4 FU a0 0 0 h
def f_X10_countStanding_L4  : Nat → Nat → Int32 → Int32 → AH → RX Int32
  | 0, _, _, _, _ => none
  | n + 1, x0, x1, x2, h => (gI h (some x0) 10 8 (fun v1 => (if v1 ≤ x2 then rI x1 h else (gR h (some x0) 10 7 (fun r2 => (aR h r2 15 x2 (fun r3 => (gI h r3 5 4 (fun v4 => (if v4 = 0 then f_X10_countStanding_L4 n x0 (x1 + 1) (x2 + 1) h else f_X10_countStanding_L4 n x0 x1 (x2 + 1) h))))))))))
def f_X10_countStanding (h : AH) (a0 : Nat) : RX Int32 :=
  f_X10_countStanding_L4 FU a0 0 0 h
def f_X10_countChanges_L4  : Nat → Nat → Int32 → Int32 → AH → RX Int32
  | 0, _, _, _, _ => none
  | n + 1, x0, x1, x2, h => (if 36 ≤ x2 then rI x1 h else (cV h (some x0) 10 (fun b => bnd (f_X10_changesAt h b x2) (fun r1 h2 => (gI h2 r1 2 0 (fun v3 => f_X10_countChanges_L4 n x0 (x1 + v3) (x2 + 1) h2))))))
def f_X10_countChanges (h : AH) (a0 : Nat) : RX Int32 :=
  f_X10_countChanges_L4 FU a0 0 0 h
def f_X10_count (h : AH) (a0 : Nat) (p1 : Int32) : RX Int32 :=
  (if p1 = 0 then (cV h (some a0) 10 (fun b => bnd (f_X10_countRows h b) (fun v1 h2 => rI v1 h2))) else (if p1 = 1 then (cV h (some a0) 10 (fun b => bnd (f_X10_countKept h b) (fun v3 h4 => rI v3 h4))) else (if p1 = 2 then (cV h (some a0) 10 (fun b => bnd (f_X10_countGiven h b) (fun v5 h6 => rI v5 h6))) else (if p1 = 3 then (gI h (some a0) 10 8 (fun v7 => rI v7 h)) else (if p1 = 4 then (cV h (some a0) 10 (fun b => bnd (f_X10_countStanding h b) (fun v8 h9 => rI v8 h9))) else (if p1 = 5 then (cV h (some a0) 10 (fun b => bnd (f_X10_countChanges h b) (fun v10 h11 => rI v10 h11))) else (if p1 = 6 then (gR h (some a0) 10 2 (fun r12 => (gI h r12 6 0 (fun v13 => rI v13 h)))) else rI (-1000001) h)))))))
def f_X10_status (h : AH) (a0 : Nat) : RX Int32 :=
  (gI h (some a0) 10 11 (fun v1 => rI v1 h))
def f_X11_in (h : AH) (p0 : Int64) (p2 : Int64) (p4 : Int64) : RX Int32 :=
  (if (lg_cmp p0 p2) < 0 then rZ 0 h else (if 0 < (lg_cmp p0 p4) then rZ 0 h else rZ 1 h))
def f_X11_found (h : AH) (a0 : Nat) (p1 : Int32) : RX Int32 :=
  (pI h (some a0) 11 1 p1 (fun h1 => rI ((-1000010) - p1) h1))
def f_X11_init (h : AH) (a0 : Nat) (p1 : Int32) : RX Unit :=
  (nn (some a0) none (fun _ => (nA h 12 8 (fun a1 h2 => (sI h2 (some a1) 12 0 (-1) (fun h3 => (sI h3 (some a1) 12 1 (-1) (fun h4 => (sI h4 (some a1) 12 2 (-1) (fun h5 => (sI h5 (some a1) 12 3 (-1) (fun h6 => (sI h6 (some a1) 12 4 (-1) (fun h7 => (sI h7 (some a1) 12 5 (-1) (fun h8 => (sI h8 (some a1) 12 6 (-1) (fun h9 => (sI h9 (some a1) 12 7 (-1) (fun h10 => (pR h10 (some a0) 11 3 (some a1) (fun h11 => (nA h11 12 8 (fun a12 h13 => (pR h13 (some a0) 11 4 (some a12) (fun h14 => (nA h14 12 480 (fun a15 h16 => (pR h16 (some a0) 11 5 (some a15) (fun h17 => (nA h17 12 60 (fun a18 h19 => (pR h19 (some a0) 11 6 (some a18) (fun h20 => (nA h20 12 60 (fun a21 h22 => (pR h22 (some a0) 11 7 (some a21) (fun h23 => (nA h23 12 60 (fun a24 h25 => (pR h25 (some a0) 11 8 (some a24) (fun h26 => (nA h26 12 60 (fun a27 h28 => (pR h28 (some a0) 11 9 (some a27) (fun h29 => (nA h29 12 60 (fun a30 h31 => (pR h31 (some a0) 11 10 (some a30) (fun h32 => (nA h32 12 10 (fun a33 h34 => (pR h34 (some a0) 11 11 (some a33) (fun h35 => (nA h35 13 72 (fun a36 h37 => (pR h37 (some a0) 11 12 (some a36) (fun h38 => (nA h38 12 4320 (fun a39 h40 => (pR h40 (some a0) 11 13 (some a39) (fun h41 => (nA h41 12 4320 (fun a42 h43 => (pR h43 (some a0) 11 14 (some a42) (fun h44 => (nA h44 12 72 (fun a45 h46 => (pR h46 (some a0) 11 15 (some a45) (fun h47 => (nA h47 12 144 (fun a48 h49 => (pR h49 (some a0) 11 16 (some a48) (fun h50 => (nA h50 12 73728 (fun a51 h52 => (pR h52 (some a0) 11 17 (some a51) (fun h53 => (nA h53 12 3721 (fun a54 h55 => (pR h55 (some a0) 11 18 (some a54) (fun h56 => (nA h56 12 61 (fun a57 h58 => (pR h58 (some a0) 11 20 (some a57) (fun h59 => (nA h59 12 61 (fun a60 h61 => (pR h61 (some a0) 11 21 (some a60) (fun h62 => (nA h62 12 61 (fun a63 h64 => (pR h64 (some a0) 11 22 (some a63) (fun h65 => (nA h65 12 61 (fun a66 h67 => (pR h67 (some a0) 11 23 (some a66) (fun h68 => (nA h68 12 2300 (fun a69 h70 => (pR h70 (some a0) 11 25 (some a69) (fun h71 => (nA h71 12 2300 (fun a72 h73 => (pR h73 (some a0) 11 26 (some a72) (fun h74 => (nA h74 12 2300 (fun a75 h76 => (pR h76 (some a0) 11 27 (some a75) (fun h77 => (nA h77 12 2300 (fun a78 h79 => (pR h79 (some a0) 11 28 (some a78) (fun h80 => (nA h80 12 2300 (fun a81 h82 => (pR h82 (some a0) 11 29 (some a81) (fun h83 => (nA h83 12 2300 (fun a84 h85 => (pR h85 (some a0) 11 30 (some a84) (fun h86 => (nA h86 12 4400 (fun a87 h88 => (pR h88 (some a0) 11 31 (some a87) (fun h89 => (nA h89 12 2300 (fun a90 h91 => (pR h91 (some a0) 11 33 (some a90) (fun h92 => (nA h92 13 61 (fun a93 h94 => (pR h94 (some a0) 11 34 (some a93) (fun h95 => (nA h95 12 180 (fun a96 h97 => (pR h97 (some a0) 11 35 (some a96) (fun h98 => (nA h98 12 100 (fun a99 h100 => (pR h100 (some a0) 11 38 (some a99) (fun h101 => (nA h101 12 100 (fun a102 h103 => (pR h103 (some a0) 11 39 (some a102) (fun h104 => (nA h104 12 100 (fun a105 h106 => (pR h106 (some a0) 11 40 (some a105) (fun h107 => (nA h107 12 100 (fun a108 h109 => (pR h109 (some a0) 11 41 (some a108) (fun h110 => (nA h110 13 100 (fun a111 h112 => (pR h112 (some a0) 11 42 (some a111) (fun h113 => (nA h113 12 100 (fun a114 h115 => (pR h115 (some a0) 11 43 (some a114) (fun h116 => (nA h116 12 3600 (fun a117 h118 => (pR h118 (some a0) 11 44 (some a117) (fun h119 => (nA h119 13 3600 (fun a120 h121 => (pR h121 (some a0) 11 45 (some a120) (fun h122 => (nA h122 12 3600 (fun a123 h124 => (pR h124 (some a0) 11 46 (some a123) (fun h125 => (nA h125 12 216000 (fun a126 h127 => (pR h127 (some a0) 11 47 (some a126) (fun h128 => (nA h128 12 216000 (fun a129 h130 => (pR h130 (some a0) 11 48 (some a129) (fun h131 => (nA h131 12 16 (fun a132 h133 => (pR h133 (some a0) 11 49 (some a132) (fun h134 => (pI h134 (some a0) 11 2 (p1 &&& 7) (fun h135 => rV h135))))))))))))))))))))))))))))))))))))))))))))))))))))))))))))))))))))))))))))))))))))))))))))))))))))))))))))))))))))))))))))))))))))))))))))))))))))))))))))))))))))))))))))))))))))))))))))
def f_X11_isRow (h : AH) (p0 : Int32) : RX Int32 :=
  (bnd (f_X11_in h (Int32.toInt64 p0) 0 7) (fun v1 h2 => rZ v1 h2))
def f_X11_row_L65  : Nat → Nat → Int32 → Int32 → Int32 → AH → RX Int32
  | 0, _, _, _, _, _ => none
  | n + 1, x0, x1, x3, x4, h => (if 60 ≤ x4 then rI x3 h else (gR h (some x0) 11 5 (fun r11 => (sI h r11 12 ((60 * x1) + x4) 0 (fun h12 => f_X11_row_L65 n x0 x1 x3 (x4 + 1) h12)))))
def f_X11_row (h : AH) (a0 : Nat) (p1 : Int32) (p2 : Int32) (p3 : Int32) : RX Int32 :=
  (pI h (some a0) 11 0 0 (fun h1 => (bnd (f_X11_isRow h1 p1) (fun v2 h3 => (if v2 = 0 then rI (-1000001) h3 else (bnd (f_X11_in h3 (Int32.toInt64 p2) 0 2) (fun v4 h5 => (if v4 = 0 then rI (-1000001) h5 else (if p3 ≤ 60 then (pI h5 (some a0) 11 1 0 (fun h6 => (if 0 ≤ p3 then (gR h6 (some a0) 11 3 (fun r7 => (sI h6 r7 12 p1 p2 (fun h8 => (gR h8 (some a0) 11 4 (fun r9 => (sI h8 r9 12 p1 p3 (fun h10 => f_X11_row_L65 FU a0 p1 p3 0 h10)))))))) else (cV h6 (some a0) 11 (fun b => bnd (f_X11_found h6 b 4) (fun v13 h14 => rI v13 h14)))))) else rI (-1000001) h5)))))))))
def f_X11_set_J99  (x0 : Nat) (x1 : Int32) (x2 : Int32) (s0 : Int32) (s1 : Int32) (s2 : Option Nat) (h : AH) : RX Int32 :=
  (sI h s2 12 s1 s0 (fun h16 => (gR h16 (some x0) 11 5 (fun r17 => (aI h16 r17 12 ((60 * x1) + x2) (fun v18 => rI v18 h16))))))
def f_X11_set (h : AH) (a0 : Nat) (p1 : Int32) (p2 : Int32) (p3 : Int32) : RX Int32 :=
  (pI h (some a0) 11 0 0 (fun h1 => (bnd (f_X11_isRow h1 p1) (fun v2 h3 => (if v2 = 0 then rI (-1000001) h3 else (pI h3 (some a0) 11 1 0 (fun h4 => (gR h4 (some a0) 11 3 (fun r5 => (aI h4 r5 12 p1 (fun v6 => (if 0 ≤ v6 then (gR h4 (some a0) 11 4 (fun r7 => (aI h4 r7 12 p1 (fun v8 => (bnd (f_X11_in h4 (Int32.toInt64 p2) 0 (Int32.toInt64 (v8 - 1))) (fun v9 h10 => (if v9 = 0 then (cV h10 (some a0) 11 (fun b => bnd (f_X11_found h10 b 2) (fun v19 h20 => rI v19 h20))) else (gR h10 (some a0) 11 5 (fun r11 => (gR h10 (some a0) 11 3 (fun r12 => (aI h10 r12 12 p1 (fun v13 => (if v13 = 0 then f_X11_set_J99 a0 p1 p2 (Int8.toInt32 (Int32.toInt8 p3)) ((60 * p1) + p2) r11 h10 else (gR h10 (some a0) 11 3 (fun r14 => (aI h10 r14 12 p1 (fun v15 => (if v15 = 1 then f_X11_set_J99 a0 p1 p2 (Int16.toInt32 (Int32.toInt16 p3)) ((60 * p1) + p2) r11 h10 else f_X11_set_J99 a0 p1 p2 p3 ((60 * p1) + p2) r11 h10))))))))))))))))))) else (cV h4 (some a0) 11 (fun b => bnd (f_X11_found h4 b 1) (fun v21 h22 => rI v21 h22)))))))))))))))
def f_X11_copy_J45  (x0 : Nat) (h : AH) : RX Int32 :=
  (cV h (some x0) 11 (fun b => bnd (f_X11_found h b 1) (fun v9 h10 => rI v9 h10)))
def f_X11_copy_J121  (x0 : Nat) (h : AH) : RX Int32 :=
  (cV h (some x0) 11 (fun b => bnd (f_X11_found h b 2) (fun v17 h18 => rI v17 h18)))
def f_X11_copy_J167 (k143 : Nat → Int32 → Int32 → Int32 → Int32 → Int32 → Int32 → Int32 → AH → RX Int32) (x0 : Nat) (x1 : Int32) (x2 : Int32) (x3 : Int32) (x4 : Int32) (x5 : Int32) (x6 : Int32) (x7 : Int32) (s0 : Int32) (h : AH) : RX Int32 :=
  (gR h (some x0) 11 5 (fun r23 => (gR h (some x0) 11 5 (fun r24 => (aI h r24 12 (((60 * x1) + x2) + s0) (fun v25 => (sI h r23 12 (((60 * x3) + x4) + s0) v25 (fun h26 => k143 x0 x1 x2 x3 x4 x5 x6 (x7 + 1) h26))))))))
def f_X11_copy_L143  : Nat → Nat → Int32 → Int32 → Int32 → Int32 → Int32 → Int32 → Int32 → AH → RX Int32
  | 0, _, _, _, _, _, _, _, _, _ => none
  | n + 1, x0, x1, x2, x3, x4, x5, x6, x7, h => (if x5 ≤ x7 then rI x5 h else (if x6 = 0 then f_X11_copy_J167 (f_X11_copy_L143 n) x0 x1 x2 x3 x4 x5 x6 x7 ((x5 - 1) - x7) h else f_X11_copy_J167 (f_X11_copy_L143 n) x0 x1 x2 x3 x4 x5 x6 x7 x7 h))
def f_X11_copy (h : AH) (a0 : Nat) (p1 : Int32) (p2 : Int32) (p3 : Int32) (p4 : Int32) (p5 : Int32) : RX Int32 :=
  (pI h (some a0) 11 0 0 (fun h1 => (bnd (f_X11_isRow h1 p1) (fun v2 h3 => (if v2 = 0 then rI (-1000001) h3 else (bnd (f_X11_isRow h3 p3) (fun v4 h5 => (if v4 = 0 then rI (-1000001) h5 else (pI h5 (some a0) 11 1 0 (fun h6 => (gR h6 (some a0) 11 3 (fun r7 => (aI h6 r7 12 p1 (fun v8 => (if v8 < 0 then f_X11_copy_J45 a0 h6 else (gR h6 (some a0) 11 3 (fun r11 => (aI h6 r11 12 p3 (fun v12 => (if 0 ≤ v12 then (gR h6 (some a0) 11 3 (fun r13 => (aI h6 r13 12 p1 (fun v14 => (gR h6 (some a0) 11 3 (fun r15 => (aI h6 r15 12 p3 (fun v16 => (if v14 = v16 then (if p2 < 0 then f_X11_copy_J121 a0 h6 else (if p4 < 0 then f_X11_copy_J121 a0 h6 else (if p5 < 0 then f_X11_copy_J121 a0 h6 else (gR h6 (some a0) 11 4 (fun r19 => (aI h6 r19 12 p1 (fun v20 => (if 0 < (lg_cmp ((Int32.toInt64 p2) + (Int32.toInt64 p5)) (Int32.toInt64 v20)) then f_X11_copy_J121 a0 h6 else (gR h6 (some a0) 11 4 (fun r21 => (aI h6 r21 12 p3 (fun v22 => (if (lg_cmp ((Int32.toInt64 p4) + (Int32.toInt64 p5)) (Int32.toInt64 v22)) ≤ 0 then (if p2 < p4 then f_X11_copy_L143 FU a0 p1 p2 p3 p4 p5 0 0 h6 else f_X11_copy_L143 FU a0 p1 p2 p3 p4 p5 1 0 h6) else f_X11_copy_J121 a0 h6))))))))))))) else (cV h6 (some a0) 11 (fun b => bnd (f_X11_found h6 b 5) (fun v27 h28 => rI v27 h28)))))))))))) else f_X11_copy_J45 a0 h6))))))))))))))))))))
def f_X11_drop (h : AH) (a0 : Nat) (p1 : Int32) : RX Int32 :=
  (pI h (some a0) 11 0 0 (fun h1 => (bnd (f_X11_isRow h1 p1) (fun v2 h3 => (if v2 = 0 then rI (-1000001) h3 else (pI h3 (some a0) 11 1 0 (fun h4 => (gR h4 (some a0) 11 3 (fun r5 => (aI h4 r5 12 p1 (fun v6 => (if 0 ≤ v6 then (gR h4 (some a0) 11 3 (fun r7 => (sI h4 r7 12 p1 (-1) (fun h8 => (gR h8 (some a0) 11 4 (fun r9 => (aI h8 r9 12 p1 (fun v10 => rI v10 h8)))))))) else (cV h4 (some a0) 11 (fun b => bnd (f_X11_found h4 b 1) (fun v11 h12 => rI v11 h12)))))))))))))))
def f_X11_isAnswer_J61 (k18 : Option Nat → Int32 → Int32 → Int32 → Int32 → Int32 → AH → RX Int32) (x0 : Option Nat) (x1 : Int32) (x2 : Int32) (x5 : Int32) (x6 : Int32) (s0 : Int32) (s1 : Int32) (h : AH) : RX Int32 :=
  (bnd (f_X11_in h (Int32.toInt64 x6) 0 121) (fun v2 h3 => (if v2 = 0 then k18 x0 x1 x2 (s1 + s0) 0 (x5 + 1) h3 else (if (s1 + s0) < 0 then k18 x0 x1 x2 (s1 + s0) 0 (x5 + 1) h3 else k18 x0 x1 x2 (s1 + s0) 1 (x5 + 1) h3))))
def f_X11_isAnswer_L18 (k93 : Int32 → Int32 → AH → RX Int32) : Nat → Option Nat → Int32 → Int32 → Int32 → Int32 → Int32 → AH → RX Int32
  | 0, _, _, _, _, _, _, _ => none
  | n + 1, x0, x1, x2, x3, x4, x5, h => (if x2 ≤ x5 then k93 x3 x4 h else (if x4 = 0 then k93 x3 x4 h else (aI h x0 12 (x1 + x5) (fun v1 => (if v1 = 120 then f_X11_isAnswer_J61 (f_X11_isAnswer_L18 k93 n) x0 x1 x2 x5 v1 1 x3 h else (if v1 = 121 then f_X11_isAnswer_J61 (f_X11_isAnswer_L18 k93 n) x0 x1 x2 x5 v1 (-1) x3 h else f_X11_isAnswer_J61 (f_X11_isAnswer_L18 k93 n) x0 x1 x2 x5 v1 0 x3 h))))))
def f_X11_isAnswer_J93  (x3 : Int32) (x4 : Int32) (h : AH) : RX Int32 :=
  (if x4 = 0 then rZ 0 h else (if x3 = 0 then rZ 1 h else rZ 0 h))
def f_X11_isAnswer (h : AH) (p0 : Option Nat) (p1 : Int32) (p2 : Int32) : RX Int32 :=
  (if 60 < p2 then f_X11_isAnswer_L18 f_X11_isAnswer_J93 FU p0 p1 p2 0 0 0 h else f_X11_isAnswer_L18 f_X11_isAnswer_J93 FU p0 p1 p2 0 1 0 h)
def f_X11_keyAt (h : AH) (a0 : Nat) (p1 : Int32) : RX Int32 :=
  (gR h (some a0) 11 6 (fun r1 => (aI h r1 12 p1 (fun v2 => (if v2 < 110 then rI v2 h else (if 119 < v2 then rI v2 h else rI 110 h))))))
def f_X11_isAhead_L34 (k96 : Nat → Int32 → Int32 → AH → RX Int32) (k77 : Int32 → Int32 → AH → RX Int32) : Nat → Nat → Int32 → Int32 → Int32 → Int32 → AH → RX Int32
  | 0, _, _, _, _, _, _ => none
  | n + 1, x0, x1, x2, x3, x4, h => (if x3 ≤ x4 then k96 x0 x1 x2 h else (gR h (some x0) 11 9 (fun r7 => (aI h r7 12 x1 (fun v8 => (cV h (some x0) 11 (fun b => bnd (f_X11_keyAt h b (v8 + x4)) (fun v9 h10 => (gR h10 (some x0) 11 9 (fun r11 => (aI h10 r11 12 x2 (fun v12 => (cV h10 (some x0) 11 (fun b => bnd (f_X11_keyAt h10 b (v12 + x4)) (fun v13 h14 => (if v9 = v13 then f_X11_isAhead_L34 k96 k77 n x0 x1 x2 x3 (x4 + 1) h14 else k77 v9 v13 h14))))))))))))))))
def f_X11_isAhead_J96  (x0 : Nat) (x1 : Int32) (x2 : Int32) (h : AH) : RX Int32 :=
  (gR h (some x0) 11 10 (fun r15 => (aI h r15 12 x1 (fun v16 => (gR h (some x0) 11 10 (fun r17 => (aI h r17 12 x2 (fun v18 => (if v18 ≤ v16 then rZ 0 h else rZ 1 h)))))))))
def f_X11_isAhead_J77  (x5 : Int32) (x6 : Int32) (h : AH) : RX Int32 :=
  (if x6 ≤ x5 then rZ 0 h else rZ 1 h)
def f_X11_isAhead (h : AH) (a0 : Nat) (p1 : Int32) (p2 : Int32) : RX Int32 :=
  (gR h (some a0) 11 10 (fun r1 => (aI h r1 12 p1 (fun v2 => (gR h (some a0) 11 10 (fun r3 => (aI h r3 12 p2 (fun v4 => (if v4 ≤ v2 then (gR h (some a0) 11 10 (fun r5 => (aI h r5 12 p2 (fun v6 => f_X11_isAhead_L34 f_X11_isAhead_J96 f_X11_isAhead_J77 FU a0 p1 p2 v6 0 h)))) else (gR h (some a0) 11 10 (fun r19 => (aI h r19 12 p1 (fun v20 => f_X11_isAhead_L34 f_X11_isAhead_J96 f_X11_isAhead_J77 FU a0 p1 p2 v20 0 h)))))))))))))
def f_X11_putInOrder_J61 (k21 : Nat → Int32 → Int32 → Int32 → Int32 → Int32 → Int32 → Int32 → AH → RX Unit) (x0 : Nat) (x1 : Int32) (x2 : Int32) (x3 : Int32) (x4 : Int32) (x6 : Int32) (s0 : Int32) (s1 : Int32) (h : AH) : RX Unit :=
  (if (s1 + s0) ≤ 0 then k21 x0 x1 x2 x3 (x4 + 1) (s1 + s0) x6 0 h else k21 x0 x1 x2 x3 (x4 + 1) (s1 + s0) x6 1 h)
def f_X11_putInOrder_L21 (k82 : Nat → Int32 → Int32 → Int32 → Int32 → Int32 → AH → RX Unit) : Nat → Nat → Int32 → Int32 → Int32 → Int32 → Int32 → Int32 → Int32 → AH → RX Unit
  | 0, _, _, _, _, _, _, _, _, _ => none
  | n + 1, x0, x1, x2, x3, x4, x5, x6, x7, h => (if x7 = 0 then k82 x0 x1 x2 x3 x4 x6 h else (gR h (some x0) 11 6 (fun r1 => (aI h r1 12 x4 (fun v2 => (if v2 = 120 then f_X11_putInOrder_J61 (f_X11_putInOrder_L21 k82 n) x0 x1 x2 x3 x4 x6 1 x5 h else (gR h (some x0) 11 6 (fun r3 => (aI h r3 12 x4 (fun v4 => (if v4 = 121 then f_X11_putInOrder_J61 (f_X11_putInOrder_L21 k82 n) x0 x1 x2 x3 x4 x6 (-1) x5 h else f_X11_putInOrder_J61 (f_X11_putInOrder_L21 k82 n) x0 x1 x2 x3 x4 x6 0 x5 h)))))))))))
def f_X11_putInOrder_L106 (k162 : Nat → Int32 → Int32 → Int32 → Int32 → Int32 → Int32 → AH → RX Unit) : Nat → Nat → Int32 → Int32 → Int32 → Int32 → Int32 → Int32 → AH → RX Unit
  | 0, _, _, _, _, _, _, _, _ => none
  | n + 1, x0, x1, x2, x3, x4, x6, x8, h => (if x8 ≤ 0 then k162 x0 x1 x2 x3 x4 x6 x8 h else (cV h (some x0) 11 (fun b => bnd (f_X11_isAhead h b 59 (x8 - 1)) (fun v9 h10 => (if v9 = 0 then k162 x0 x1 x2 x3 x4 x6 x8 h10 else (gR h10 (some x0) 11 9 (fun r11 => (gR h10 (some x0) 11 9 (fun r12 => (aI h10 r12 12 (x8 - 1) (fun v13 => (sI h10 r11 12 x8 v13 (fun h14 => (gR h14 (some x0) 11 10 (fun r15 => (gR h14 (some x0) 11 10 (fun r16 => (aI h14 r16 12 (x8 - 1) (fun v17 => (sI h14 r15 12 x8 v17 (fun h18 => f_X11_putInOrder_L106 k162 n x0 x1 x2 x3 x4 x6 (x8 + (-1)) h18)))))))))))))))))))))
def f_X11_putInOrder_J162 (k5 : Nat → Int32 → Int32 → Int32 → Int32 → AH → RX Unit) (x0 : Nat) (x1 : Int32) (x2 : Int32) (x3 : Int32) (x4 : Int32) (x6 : Int32) (x8 : Int32) (h : AH) : RX Unit :=
  (gR h (some x0) 11 9 (fun r19 => (sI h r19 12 x8 x6 (fun h20 => (gR h20 (some x0) 11 10 (fun r21 => (sI h20 r21 12 x8 (x4 - x6) (fun h22 => k5 x0 x1 x2 (x3 + 1) x4 h22))))))))
def f_X11_putInOrder_J82 (k5 : Nat → Int32 → Int32 → Int32 → Int32 → AH → RX Unit) (x0 : Nat) (x1 : Int32) (x2 : Int32) (x3 : Int32) (x4 : Int32) (x6 : Int32) (h : AH) : RX Unit :=
  (gR h (some x0) 11 9 (fun r5 => (sI h r5 12 59 x6 (fun h6 => (gR h6 (some x0) 11 10 (fun r7 => (sI h6 r7 12 59 (x4 - x6) (fun h8 => f_X11_putInOrder_L106 (f_X11_putInOrder_J162 k5) FU x0 x1 x2 x3 x4 x6 x3 h8))))))))
def f_X11_putInOrder_L5 (k189 : Nat → Int32 → Int32 → AH → RX Unit) : Nat → Nat → Int32 → Int32 → Int32 → Int32 → AH → RX Unit
  | 0, _, _, _, _, _, _ => none
  | n + 1, x0, x1, x2, x3, x4, h => (if x2 ≤ x4 then k189 x0 x1 x3 h else f_X11_putInOrder_L21 (f_X11_putInOrder_J82 (f_X11_putInOrder_L5 k189 n)) FU x0 x1 x2 x3 x4 0 x4 1 h)
def f_X11_putInOrder_L204 (k247 : Nat → Int32 → Int32 → Int32 → Int32 → AH → RX Unit) : Nat → Nat → Int32 → Int32 → Int32 → Int32 → Int32 → AH → RX Unit
  | 0, _, _, _, _, _, _, _ => none
  | n + 1, x0, x1, x3, x5, x6, x7, h => (gR h (some x0) 11 10 (fun r23 => (aI h r23 12 x6 (fun v24 => (if v24 ≤ x7 then k247 x0 x1 x3 x5 x6 h else (gR h (some x0) 11 7 (fun r25 => (gR h (some x0) 11 6 (fun r26 => (gR h (some x0) 11 9 (fun r27 => (aI h r27 12 x6 (fun v28 => (aI h r26 12 (v28 + x7) (fun v29 => (sI h r25 12 x5 v29 (fun h30 => f_X11_putInOrder_L204 k247 n x0 x1 x3 (x5 + 1) x6 (x7 + 1) h30)))))))))))))))))
def f_X11_putInOrder_J247 (k195 : Nat → Int32 → Int32 → Int32 → Int32 → AH → RX Unit) (x0 : Nat) (x1 : Int32) (x3 : Int32) (x5 : Int32) (x6 : Int32) (h : AH) : RX Unit :=
  k195 x0 x1 x3 x5 (x6 + 1) h
def f_X11_putInOrder_L195 (k253 : Nat → Int32 → Int32 → AH → RX Unit) : Nat → Nat → Int32 → Int32 → Int32 → Int32 → AH → RX Unit
  | 0, _, _, _, _, _, _ => none
  | n + 1, x0, x1, x3, x5, x6, h => (if x3 ≤ x6 then k253 x0 x1 x5 h else f_X11_putInOrder_L204 (f_X11_putInOrder_J247 (f_X11_putInOrder_L195 k253 n)) FU x0 x1 x3 x5 x6 0 h)
def f_X11_putInOrder_L256  : Nat → Nat → Int32 → Int32 → Int32 → AH → RX Unit
  | 0, _, _, _, _, _ => none
  | n + 1, x0, x1, x5, x6, h => (if x5 ≤ x6 then rV h else (gR h (some x0) 11 6 (fun r31 => (gR h (some x0) 11 7 (fun r32 => (aI h r32 12 x6 (fun v33 => (sI h r31 12 (x1 + x6) v33 (fun h34 => f_X11_putInOrder_L256 n x0 x1 x5 (x6 + 1) h34)))))))))
def f_X11_putInOrder_J253  (x0 : Nat) (x1 : Int32) (x5 : Int32) (h : AH) : RX Unit :=
  f_X11_putInOrder_L256 FU x0 x1 x5 0 h
def f_X11_putInOrder_J189  (x0 : Nat) (x1 : Int32) (x3 : Int32) (h : AH) : RX Unit :=
  f_X11_putInOrder_L195 f_X11_putInOrder_J253 FU x0 x1 x3 0 0 h
def f_X11_putInOrder (h : AH) (a0 : Nat) (p1 : Int32) (p2 : Int32) : RX Unit :=
  f_X11_putInOrder_L5 f_X11_putInOrder_J189 FU a0 p1 p2 0 p1 h
def f_X11_foldRow_L3 (k61 : Nat → Int32 → AH → RX Unit) : Nat → Nat → Option Nat → Int32 → Int32 → Int32 → AH → RX Unit
  | 0, _, _, _, _, _, _ => none
  | n + 1, x0, x1, x2, x3, x4, h => (if x3 ≤ x4 then k61 x0 x3 h else (aI h x1 12 (x2 + x4) (fun v1 => (gR h (some x0) 11 6 (fun r2 => (gI h (some x0) 11 2 (fun v3 => (if (v3 &&& 1) = 1 then (if v1 < 100 then (sI h r2 12 x4 v1 (fun h5 => f_X11_foldRow_L3 k61 n x0 x1 x2 x3 (x4 + 1) h5)) else (if 109 < v1 then (sI h r2 12 x4 v1 (fun h6 => f_X11_foldRow_L3 k61 n x0 x1 x2 x3 (x4 + 1) h6)) else (sI h r2 12 x4 100 (fun h7 => f_X11_foldRow_L3 k61 n x0 x1 x2 x3 (x4 + 1) h7)))) else (sI h r2 12 x4 v1 (fun h4 => f_X11_foldRow_L3 k61 n x0 x1 x2 x3 (x4 + 1) h4))))))))))
def f_X11_foldRow_L67 (k146 : Nat → Int32 → AH → RX Unit) : Nat → Nat → Int32 → Int32 → Int32 → AH → RX Unit
  | 0, _, _, _, _, _ => none
  | n + 1, x0, x3, x4, x5, h => (if x3 ≤ x5 then k146 x0 x3 h else (gI h (some x0) 11 2 (fun v8 => (if (v8 &&& 4) = 4 then (gR h (some x0) 11 6 (fun r9 => (aI h r9 12 x5 (fun v10 => (if v10 = 120 then (gR h (some x0) 11 8 (fun r17 => (sI h r17 12 x4 x5 (fun h18 => f_X11_foldRow_L67 k146 n x0 x3 (x4 + 1) (x5 + 1) h18)))) else (gR h (some x0) 11 6 (fun r11 => (aI h r11 12 x5 (fun v12 => (if v12 = 121 then (gR h (some x0) 11 8 (fun r13 => (aI h r13 12 (x4 + (-1)) (fun v14 => (cV h (some x0) 11 (fun b => bnd (f_X11_putInOrder h b (v14 + 1) x5) (fun u15 h16 => f_X11_foldRow_L67 k146 n x0 x3 (x4 + (-1)) (x5 + 1) h16))))))) else f_X11_foldRow_L67 k146 n x0 x3 x4 (x5 + 1) h)))))))))) else k146 x0 x3 h))))
def f_X11_foldRow_L149 (k171 : Nat → Int32 → AH → RX Unit) : Nat → Nat → Int32 → Int32 → AH → RX Unit
  | 0, _, _, _, _ => none
  | n + 1, x0, x3, x5, h => (if 10 ≤ x5 then k171 x0 x3 h else (gR h (some x0) 11 11 (fun r19 => (sI h r19 12 x5 (-1000000) (fun h20 => f_X11_foldRow_L149 k171 n x0 x3 (x5 + 1) h20)))))
def f_X11_foldRow_J249 (k177 : Nat → Int32 → Int32 → Int32 → AH → RX Unit) (x0 : Nat) (x3 : Int32) (x5 : Int32) (x6 : Int32) (x7 : Int32) (h : AH) : RX Unit :=
  (gR h (some x0) 11 6 (fun r26 => (gR h (some x0) 11 11 (fun r27 => (aI h r27 12 (x7 - 110) (fun v28 => (sI h r26 12 x6 v28 (fun h29 => k177 x0 x3 x5 (x6 + 1) h29))))))))
def f_X11_foldRow_L177  : Nat → Nat → Int32 → Int32 → Int32 → AH → RX Unit
  | 0, _, _, _, _, _ => none
  | n + 1, x0, x3, x5, x6, h => (if x3 ≤ x6 then rV h else (gI h (some x0) 11 2 (fun v21 => (if (v21 &&& 2) = 2 then (gR h (some x0) 11 6 (fun r22 => (aI h r22 12 x6 (fun v23 => (if v23 < 110 then f_X11_foldRow_L177 n x0 x3 x5 (x6 + 1) h else (if 119 < v23 then f_X11_foldRow_L177 n x0 x3 x5 (x6 + 1) h else (gR h (some x0) 11 11 (fun r24 => (aI h r24 12 (v23 - 110) (fun v25 => (if v25 = (-1000000) then (gR h (some x0) 11 11 (fun r30 => (sI h r30 12 (v23 - 110) (110 + x5) (fun h31 => f_X11_foldRow_J249 (f_X11_foldRow_L177 n) x0 x3 (x5 + 1) x6 v23 h31)))) else f_X11_foldRow_J249 (f_X11_foldRow_L177 n) x0 x3 x5 x6 v23 h))))))))))) else rV h))))
def f_X11_foldRow_J171  (x0 : Nat) (x3 : Int32) (h : AH) : RX Unit :=
  f_X11_foldRow_L177 FU x0 x3 0 0 h
def f_X11_foldRow_J146  (x0 : Nat) (x3 : Int32) (h : AH) : RX Unit :=
  f_X11_foldRow_L149 f_X11_foldRow_J171 FU x0 x3 0 h
def f_X11_foldRow_J61  (x0 : Nat) (x3 : Int32) (h : AH) : RX Unit :=
  f_X11_foldRow_L67 f_X11_foldRow_J146 FU x0 x3 0 0 h
def f_X11_foldRow (h : AH) (a0 : Nat) (p1 : Option Nat) (p2 : Int32) (p3 : Int32) : RX Unit :=
  f_X11_foldRow_L3 f_X11_foldRow_J61 FU a0 p1 p2 p3 0 h
def f_X11_fold (h : AH) (a0 : Nat) (p1 : Int32) (p2 : Int32) : RX Int32 :=
  (pI h (some a0) 11 0 0 (fun h1 => (bnd (f_X11_isRow h1 p1) (fun v2 h3 => (if v2 = 0 then rI (-1000001) h3 else (gR h3 (some a0) 11 3 (fun r4 => (aI h3 r4 12 p1 (fun v5 => (if 0 ≤ v5 then (gR h3 (some a0) 11 5 (fun r6 => (gR h3 (some a0) 11 4 (fun r7 => (aI h3 r7 12 p1 (fun v8 => (bnd (f_X11_isAnswer h3 r6 (60 * p1) v8) (fun v9 h10 => (if v9 = 0 then rI (-1000002) h10 else (pI h10 (some a0) 11 1 0 (fun h11 => (gR h11 (some a0) 11 5 (fun r12 => (gR h11 (some a0) 11 4 (fun r13 => (aI h11 r13 12 p1 (fun v14 => (cV h11 (some a0) 11 (fun b => bnd (f_X11_foldRow h11 b r12 (60 * p1) v14) (fun u15 h16 => (gR h16 (some a0) 11 4 (fun r17 => (aI h16 r17 12 p1 (fun v18 => (bnd (f_X11_in h16 (Int32.toInt64 p2) 0 (Int32.toInt64 (v18 - 1))) (fun v19 h20 => (if v19 = 0 then rI (-1000000) h20 else (gR h20 (some a0) 11 6 (fun r21 => (aI h20 r21 12 p2 (fun v22 => rI v22 h20))))))))))))))))))))))))))))))) else (cV h3 (some a0) 11 (fun b => bnd (f_X11_found h3 b 1) (fun v23 h24 => rI v23 h24)))))))))))))
def f_X11_isSlot (h : AH) (p0 : Int32) (p1 : Int32) : RX Int32 :=
  (bnd (f_X11_in h (Int32.toInt64 p0) 0 11) (fun v1 h2 => (if v1 = 0 then rZ 0 h2 else (bnd (f_X11_in h2 (Int32.toInt64 p1) 0 2) (fun v3 h4 => (if v3 = 0 then rZ 0 h4 else rZ 1 h4))))))
def f_X11_lay_L26  : Nat → Nat → Int32 → Option Nat → Int32 → Int32 → Int32 → AH → RX Unit
  | 0, _, _, _, _, _, _, _ => none
  | n + 1, x0, x1, x2, x3, x4, x5, h => (if x4 ≤ x5 then rV h else (gR h (some x0) 11 13 (fun r7 => (aI h x2 12 (x3 + x5) (fun v8 => (sI h r7 12 ((60 * x1) + x5) v8 (fun h9 => (gR h9 (some x0) 11 14 (fun r10 => (gR h9 (some x0) 11 6 (fun r11 => (aI h9 r11 12 x5 (fun v12 => (sI h9 r10 12 ((60 * x1) + x5) v12 (fun h13 => f_X11_lay_L26 n x0 x1 x2 x3 x4 (x5 + 1) h13)))))))))))))))
def f_X11_lay (h : AH) (a0 : Nat) (p1 : Int32) (p2 : Option Nat) (p3 : Int32) (p4 : Int32) : RX Unit :=
  (cV h (some a0) 11 (fun b => bnd (f_X11_foldRow h b p2 p3 p4) (fun u1 h2 => (gR h2 (some a0) 11 12 (fun r3 => (sI h2 r3 13 p1 (vp_nar .boolean 1) (fun h4 => (gR h4 (some a0) 11 15 (fun r5 => (sI h4 r5 12 p1 p4 (fun h6 => f_X11_lay_L26 FU a0 p1 p2 p3 p4 0 h6)))))))))))
def f_X11_come (h : AH) (a0 : Nat) (p1 : Int32) (p2 : Int32) : RX Int32 :=
  (gR h (some a0) 11 3 (fun r1 => (aI h r1 12 p2 (fun v2 => (if 0 ≤ v2 then (gR h (some a0) 11 5 (fun r3 => (gR h (some a0) 11 4 (fun r4 => (aI h r4 12 p2 (fun v5 => (bnd (f_X11_isAnswer h r3 (60 * p2) v5) (fun v6 h7 => (if v6 = 0 then rI (-1000002) h7 else (pI h7 (some a0) 11 1 0 (fun h8 => (gR h8 (some a0) 11 5 (fun r9 => (gR h8 (some a0) 11 4 (fun r10 => (aI h8 r10 12 p2 (fun v11 => (cV h8 (some a0) 11 (fun b => bnd (f_X11_lay h8 b p1 r9 (60 * p2) v11) (fun u12 h13 => (gR h13 (some a0) 11 4 (fun r14 => (aI h13 r14 12 p2 (fun v15 => rI v15 h13)))))))))))))))))))))))) else (cV h (some a0) 11 (fun b => bnd (f_X11_found h b 1) (fun v16 h17 => rI v16 h17))))))))
def f_X11_keep (h : AH) (a0 : Nat) (p1 : Int32) (p2 : Int32) (p3 : Int32) : RX Int32 :=
  (pI h (some a0) 11 0 0 (fun h1 => (bnd (f_X11_isSlot h1 p1 p2) (fun v2 h3 => (if v2 = 0 then rI (-1000001) h3 else (bnd (f_X11_isRow h3 p3) (fun v4 h5 => (if v4 = 0 then rI (-1000001) h5 else (cV h5 (some a0) 11 (fun b => bnd (f_X11_come h5 b ((3 * p1) + p2) p3) (fun v6 h7 => rI v6 h7)))))))))))
def f_X11_endLooks_L2  : Nat → Nat → Int32 → Int32 → AH → RX Unit
  | 0, _, _, _, _ => none
  | n + 1, x0, x1, x2, h => (if 4 ≤ x2 then rV h else (gR h (some x0) 11 16 (fun r1 => (sI h r1 12 ((36 * x2) + x1) 0 (fun h2 => f_X11_endLooks_L2 n x0 x1 (x2 + 1) h2)))))
def f_X11_endLooks (h : AH) (a0 : Nat) (p1 : Int32) : RX Unit :=
  f_X11_endLooks_L2 FU a0 p1 0 h
def f_X11_areAlike_L24  : Nat → Nat → Int32 → Int32 → Int32 → Int32 → AH → RX Int32
  | 0, _, _, _, _, _, _ => none
  | n + 1, x0, x1, x2, x3, x4, h => (gR h (some x0) 11 15 (fun r5 => (aI h r5 12 x1 (fun v6 => (if v6 ≤ x4 then rZ x3 h else (if x3 = 0 then rZ x3 h else (gR h (some x0) 11 14 (fun r7 => (aI h r7 12 ((60 * x1) + x4) (fun v8 => (gR h (some x0) 11 14 (fun r9 => (aI h r9 12 ((60 * x2) + x4) (fun v10 => (if v8 = v10 then f_X11_areAlike_L24 n x0 x1 x2 1 (x4 + 1) h else f_X11_areAlike_L24 n x0 x1 x2 0 (x4 + 1) h)))))))))))))))
def f_X11_areAlike (h : AH) (a0 : Nat) (p1 : Int32) (p2 : Int32) : RX Int32 :=
  (gR h (some a0) 11 15 (fun r1 => (aI h r1 12 p1 (fun v2 => (gR h (some a0) 11 15 (fun r3 => (aI h r3 12 p2 (fun v4 => (if v2 = v4 then f_X11_areAlike_L24 FU a0 p1 p2 1 0 h else f_X11_areAlike_L24 FU a0 p1 p2 0 0 h)))))))))
def f_X11_stateOf_J21  (x0 : Nat) (x1 : Int32) (h : AH) : RX Int32 :=
  (gR h (some x0) 11 12 (fun r3 => (aI h r3 13 x1 (fun v4 => (if v4 = 0 then (gR h (some x0) 11 12 (fun r5 => (aI h r5 13 (36 + x1) (fun v6 => (if v6 = 0 then rI 0 h else rI 1 h))))) else rI 4 h)))))
def f_X11_stateOf (h : AH) (a0 : Nat) (p1 : Int32) : RX Int32 :=
  (gR h (some a0) 11 12 (fun r1 => (aI h r1 13 p1 (fun v2 => (if v2 = 0 then f_X11_stateOf_J21 a0 p1 h else (gR h (some a0) 11 12 (fun r7 => (aI h r7 13 (36 + p1) (fun v8 => (if v8 = 0 then f_X11_stateOf_J21 a0 p1 h else (cV h (some a0) 11 (fun b => bnd (f_X11_areAlike h b p1 (36 + p1)) (fun v9 h10 => (if v9 = 0 then rI 3 h10 else rI 2 h10))))))))))))))
def f_X11_give (h : AH) (a0 : Nat) (p1 : Int32) (p2 : Int32) (p3 : Int32) : RX Int32 :=
  (pI h (some a0) 11 0 0 (fun h1 => (bnd (f_X11_isSlot h1 p1 p2) (fun v2 h3 => (if v2 = 0 then rI (-1000001) h3 else (bnd (f_X11_isRow h3 p3) (fun v4 h5 => (if v4 = 0 then rI (-1000001) h5 else (cV h5 (some a0) 11 (fun b => bnd (f_X11_come h5 b (36 + ((3 * p1) + p2)) p3) (fun v6 h7 => (if 0 ≤ v6 then (cV h7 (some a0) 11 (fun b => bnd (f_X11_endLooks h7 b ((3 * p1) + p2)) (fun u8 h9 => (cV h9 (some a0) 11 (fun b => bnd (f_X11_stateOf h9 b ((3 * p1) + p2)) (fun v10 h11 => rI v10 h11)))))) else rI v6 h7))))))))))))
def f_X11_begin_J31 (k10 : Nat → Int32 → Int32 → AH → RX Int32) (x0 : Nat) (x2 : Int32) (s0 : Int32) (s1 : Int32) (h : AH) : RX Int32 :=
  (gR h (some x0) 11 12 (fun r4 => (sI h r4 13 x2 (vp_nar .boolean 0) (fun h5 => (cV h5 (some x0) 11 (fun b => bnd (f_X11_endLooks h5 b (x2 - 36)) (fun u6 h7 => k10 x0 (s1 + s0) (x2 + 1) h7)))))))
def f_X11_begin_L10  : Nat → Nat → Int32 → Int32 → AH → RX Int32
  | 0, _, _, _, _ => none
  | n + 1, x0, x1, x2, h => (if 72 ≤ x2 then rI x1 h else (gR h (some x0) 11 12 (fun r2 => (aI h r2 13 x2 (fun v3 => (if v3 = 0 then f_X11_begin_J31 (f_X11_begin_L10 n) x0 x2 0 x1 h else f_X11_begin_J31 (f_X11_begin_L10 n) x0 x2 1 x1 h))))))
def f_X11_begin (h : AH) (a0 : Nat) : RX Int32 :=
  (pI h (some a0) 11 0 0 (fun h1 => f_X11_begin_L10 FU a0 0 36 h1))
def f_X11_forget (h : AH) (a0 : Nat) (p1 : Int32) (p2 : Int32) : RX Int32 :=
  (pI h (some a0) 11 0 0 (fun h1 => (bnd (f_X11_isSlot h1 p1 p2) (fun v2 h3 => (if v2 = 0 then rI (-1000001) h3 else (gR h3 (some a0) 11 12 (fun r4 => (aI h3 r4 13 ((3 * p1) + p2) (fun v5 => (gR h3 (some a0) 11 12 (fun r6 => (sI h3 r6 13 ((3 * p1) + p2) (vp_nar .boolean 0) (fun h7 => (if v5 = 0 then rI 0 h7 else rI 1 h7))))))))))))))
def f_X11_state (h : AH) (a0 : Nat) (p1 : Int32) (p2 : Int32) : RX Int32 :=
  (pI h (some a0) 11 0 0 (fun h1 => (bnd (f_X11_isSlot h1 p1 p2) (fun v2 h3 => (if v2 = 0 then rI (-1000001) h3 else (cV h3 (some a0) 11 (fun b => bnd (f_X11_stateOf h3 b ((3 * p1) + p2)) (fun v4 h5 => rI v4 h5))))))))
def f_X11_states_L24  : Nat → Nat → Int32 → Int32 → Int32 → AH → RX Int32
  | 0, _, _, _, _, _ => none
  | n + 1, x0, x1, x2, x3, h => (if 36 ≤ x3 then rI x2 h else (cV h (some x0) 11 (fun b => bnd (f_X11_stateOf h b x3) (fun v4 h5 => (if v4 = x1 then f_X11_states_L24 n x0 x1 (x2 + 1) (x3 + 1) h5 else f_X11_states_L24 n x0 x1 (x2 + 0) (x3 + 1) h5)))))
def f_X11_states (h : AH) (a0 : Nat) (p1 : Int32) : RX Int32 :=
  (pI h (some a0) 11 0 0 (fun h1 => (bnd (f_X11_in h1 (Int32.toInt64 p1) 0 4) (fun v2 h3 => (if v2 = 0 then rI (-1000001) h3 else f_X11_states_L24 FU a0 p1 0 0 h3)))))
def f_X11_token_J44  (x0 : Nat) (x3 : Int32) (x4 : Int32) (s0 : Int32) (s1 : Int32) (h : AH) : RX Int32 :=
  (gR h (some x0) 11 12 (fun r6 => (aI h r6 13 (s1 + s0) (fun v7 => (if v7 = 0 then rI (-1000002) h else (gR h (some x0) 11 15 (fun r8 => (aI h r8 12 (s1 + s0) (fun v9 => (bnd (f_X11_in h (Int32.toInt64 x4) 0 (Int32.toInt64 (v9 - 1))) (fun v10 h11 => (if v10 = 0 then rI (-1000000) h11 else (if 2 = 0 then none else (if (x3 - x3 / 2 * 2) = 0 then (gR h11 (some x0) 11 14 (fun r14 => (aI h11 r14 12 ((60 * (s1 + s0)) + x4) (fun v15 => rI v15 h11)))) else (gR h11 (some x0) 11 13 (fun r12 => (aI h11 r12 12 ((60 * (s1 + s0)) + x4) (fun v13 => rI v13 h11))))))))))))))))))
def f_X11_token (h : AH) (a0 : Nat) (p1 : Int32) (p2 : Int32) (p3 : Int32) (p4 : Int32) : RX Int32 :=
  (pI h (some a0) 11 0 0 (fun h1 => (bnd (f_X11_isSlot h1 p1 p2) (fun v2 h3 => (if v2 = 0 then rI (-1000001) h3 else (bnd (f_X11_in h3 (Int32.toInt64 p3) 0 3) (fun v4 h5 => (if v4 = 0 then rI (-1000001) h5 else (if p3 ≤ 1 then f_X11_token_J44 a0 p3 p4 0 ((3 * p1) + p2) h5 else f_X11_token_J44 a0 p3 p4 36 ((3 * p1) + p2) h5)))))))))
def f_X11_compare_J135 (k11 : Nat → Int32 → Int32 → Int32 → Int32 → AH → RX Int32) (x0 : Nat) (x1 : Int32) (x2 : Int32) (x3 : Int32) (x4 : Int32) (x5 : Int32) (h : AH) : RX Int32 :=
  (gR h (some x0) 11 18 (fun r5 => (sI h r5 12 ((61 * x3) + x4) x5 (fun h6 => k11 x0 x1 x2 x3 (x4 + (-1)) h6))))
def f_X11_compare_J133 (k11 : Nat → Int32 → Int32 → Int32 → Int32 → AH → RX Int32) (x0 : Nat) (x1 : Int32) (x2 : Int32) (x3 : Int32) (x4 : Int32) (s0 : Int32) (h : AH) : RX Int32 :=
  f_X11_compare_J135 k11 x0 x1 x2 x3 x4 s0 h
def f_X11_compare_L11 (k155 : Nat → Int32 → Int32 → Int32 → AH → RX Int32) : Nat → Nat → Int32 → Int32 → Int32 → Int32 → AH → RX Int32
  | 0, _, _, _, _, _, _ => none
  | n + 1, x0, x1, x2, x3, x4, h => (if x4 < 0 then k155 x0 x1 x2 x3 h else (gR h (some x0) 11 15 (fun r3 => (aI h r3 12 x1 (fun v4 => (if v4 ≤ x3 then f_X11_compare_J135 (f_X11_compare_L11 k155 n) x0 x1 x2 x3 x4 0 h else (gR h (some x0) 11 15 (fun r7 => (aI h r7 12 x2 (fun v8 => (if v8 ≤ x4 then f_X11_compare_J135 (f_X11_compare_L11 k155 n) x0 x1 x2 x3 x4 0 h else (gR h (some x0) 11 18 (fun r9 => (aI h r9 12 ((61 * (x3 + 1)) + x4) (fun v10 => (gR h (some x0) 11 18 (fun r11 => (aI h r11 12 (((61 * x3) + x4) + 1) (fun v12 => (gR h (some x0) 11 14 (fun r13 => (aI h r13 12 ((60 * x1) + x3) (fun v14 => (gR h (some x0) 11 14 (fun r15 => (aI h r15 12 ((60 * x2) + x4) (fun v16 => (if v14 = v16 then (gR h (some x0) 11 18 (fun r17 => (aI h r17 12 (((61 * (x3 + 1)) + x4) + 1) (fun v18 => f_X11_compare_J133 (f_X11_compare_L11 k155 n) x0 x1 x2 x3 x4 (v18 + 1) h)))) else (if v10 ≤ v12 then f_X11_compare_J133 (f_X11_compare_L11 k155 n) x0 x1 x2 x3 x4 v12 h else f_X11_compare_J133 (f_X11_compare_L11 k155 n) x0 x1 x2 x3 x4 v10 h)))))))))))))))))))))))))))))
def f_X11_compare_J155 (k3 : Nat → Int32 → Int32 → Int32 → AH → RX Int32) (x0 : Nat) (x1 : Int32) (x2 : Int32) (x3 : Int32) (h : AH) : RX Int32 :=
  k3 x0 x1 x2 (x3 + (-1)) h
def f_X11_compare_L3  : Nat → Nat → Int32 → Int32 → Int32 → AH → RX Int32
  | 0, _, _, _, _, _ => none
  | n + 1, x0, x1, x2, x3, h => (if x3 < 0 then (gR h (some x0) 11 18 (fun r1 => (aI h r1 12 0 (fun v2 => rI v2 h)))) else f_X11_compare_L11 (f_X11_compare_J155 (f_X11_compare_L3 n)) FU x0 x1 x2 x3 60 h)
def f_X11_compare (h : AH) (a0 : Nat) (p1 : Int32) (p2 : Int32) : RX Int32 :=
  f_X11_compare_L3 FU a0 p1 p2 60 h
def f_X11_findChanges_J252 (k39 : Nat → Int32 → Int32 → Int32 → Int32 → Int32 → AH → RX Unit) (x0 : Nat) (x2 : Int32) (x3 : Int32) (x5 : Int32) (x6 : Int32) (x7 : Int32) (s0 : Int32) (h : AH) : RX Unit :=
  (if s0 = 0 then (gR h (some x0) 11 23 (fun r12 => (gI h (some x0) 11 19 (fun v13 => (aI h r12 12 (v13 - 1) (fun v14 => (sI h r12 12 (v13 - 1) (v14 + 1) (fun h15 => k39 x0 x2 x3 x5 (x6 + 1) x7 h15)))))))) else (gR h (some x0) 11 21 (fun r16 => (gI h (some x0) 11 19 (fun v17 => (aI h r16 12 (v17 - 1) (fun v18 => (sI h r16 12 (v17 - 1) (v18 + 1) (fun h19 => k39 x0 x2 x3 (x5 + 1) x6 x7 h19)))))))))
def f_X11_findChanges_J251 (k39 : Nat → Int32 → Int32 → Int32 → Int32 → Int32 → AH → RX Unit) (x0 : Nat) (x2 : Int32) (x3 : Int32) (x5 : Int32) (x6 : Int32) (x7 : Int32) (h : AH) : RX Unit :=
  f_X11_findChanges_J252 k39 x0 x2 x3 x5 x6 x7 0 h
def f_X11_findChanges_J247 (k39 : Nat → Int32 → Int32 → Int32 → Int32 → Int32 → AH → RX Unit) (x0 : Nat) (x2 : Int32) (x3 : Int32) (x5 : Int32) (x6 : Int32) (x7 : Int32) (h : AH) : RX Unit :=
  f_X11_findChanges_J252 k39 x0 x2 x3 x5 x6 x7 1 h
def f_X11_findChanges_J194 (k39 : Nat → Int32 → Int32 → Int32 → Int32 → Int32 → AH → RX Unit) (x0 : Nat) (x2 : Int32) (x3 : Int32) (x5 : Int32) (x6 : Int32) (x7 : Int32) (h : AH) : RX Unit :=
  (gR h (some x0) 11 15 (fun r10 => (aI h r10 12 x2 (fun v11 => (if v11 ≤ x5 then f_X11_findChanges_J251 k39 x0 x2 x3 x5 x6 x7 h else (gR h (some x0) 11 15 (fun r20 => (aI h r20 12 x3 (fun v21 => (if x6 = v21 then f_X11_findChanges_J247 k39 x0 x2 x3 x5 x6 x7 h else (gR h (some x0) 11 18 (fun r22 => (aI h r22 12 ((61 * (x5 + 1)) + x6) (fun v23 => (gR h (some x0) 11 18 (fun r24 => (aI h r24 12 ((61 * x5) + x6) (fun v25 => (if v23 = v25 then f_X11_findChanges_J247 k39 x0 x2 x3 x5 x6 x7 h else f_X11_findChanges_J251 k39 x0 x2 x3 x5 x6 x7 h)))))))))))))))))))
def f_X11_findChanges_J115 (k39 : Nat → Int32 → Int32 → Int32 → Int32 → Int32 → AH → RX Unit) (x0 : Nat) (x2 : Int32) (x3 : Int32) (x5 : Int32) (x6 : Int32) (x7 : Int32) (s0 : Int32) (h : AH) : RX Unit :=
  (if s0 = 0 then (if x7 = 0 then (gR h (some x0) 11 20 (fun r26 => (gI h (some x0) 11 19 (fun v27 => (sI h r26 12 v27 x5 (fun h28 => (gR h28 (some x0) 11 22 (fun r29 => (gI h28 (some x0) 11 19 (fun v30 => (sI h28 r29 12 v30 x6 (fun h31 => (gR h31 (some x0) 11 21 (fun r32 => (gI h31 (some x0) 11 19 (fun v33 => (sI h31 r32 12 v33 0 (fun h34 => (gR h34 (some x0) 11 23 (fun r35 => (gI h34 (some x0) 11 19 (fun v36 => (sI h34 r35 12 v36 0 (fun h37 => (gI h37 (some x0) 11 19 (fun v38 => (pI h37 (some x0) 11 19 (v38 + 1) (fun h39 => f_X11_findChanges_J194 k39 x0 x2 x3 x5 x6 1 h39)))))))))))))))))))))))))))) else f_X11_findChanges_J194 k39 x0 x2 x3 x5 x6 x7 h) else k39 x0 x2 x3 (x5 + 1) (x6 + 1) 0 h)
def f_X11_findChanges_J114 (k39 : Nat → Int32 → Int32 → Int32 → Int32 → Int32 → AH → RX Unit) (x0 : Nat) (x2 : Int32) (x3 : Int32) (x5 : Int32) (x6 : Int32) (x7 : Int32) (h : AH) : RX Unit :=
  f_X11_findChanges_J115 k39 x0 x2 x3 x5 x6 x7 0 h
def f_X11_findChanges_J61 (k39 : Nat → Int32 → Int32 → Int32 → Int32 → Int32 → AH → RX Unit) (x0 : Nat) (x2 : Int32) (x3 : Int32) (x5 : Int32) (x6 : Int32) (x7 : Int32) (h : AH) : RX Unit :=
  (gR h (some x0) 11 15 (fun r8 => (aI h r8 12 x2 (fun v9 => (if v9 ≤ x5 then f_X11_findChanges_J114 k39 x0 x2 x3 x5 x6 x7 h else (gR h (some x0) 11 15 (fun r40 => (aI h r40 12 x3 (fun v41 => (if v41 ≤ x6 then f_X11_findChanges_J114 k39 x0 x2 x3 x5 x6 x7 h else (gR h (some x0) 11 14 (fun r42 => (aI h r42 12 ((60 * x2) + x5) (fun v43 => (gR h (some x0) 11 14 (fun r44 => (aI h r44 12 ((60 * x3) + x6) (fun v45 => (if v43 = v45 then f_X11_findChanges_J115 k39 x0 x2 x3 x5 x6 x7 1 h else f_X11_findChanges_J114 k39 x0 x2 x3 x5 x6 x7 h)))))))))))))))))))
def f_X11_findChanges_L39  : Nat → Nat → Int32 → Int32 → Int32 → Int32 → Int32 → AH → RX Unit
  | 0, _, _, _, _, _, _, _ => none
  | n + 1, x0, x2, x3, x5, x6, x7, h => (gR h (some x0) 11 15 (fun r6 => (aI h r6 12 x2 (fun v7 => (if x5 < v7 then f_X11_findChanges_J61 (f_X11_findChanges_L39 n) x0 x2 x3 x5 x6 x7 h else (gR h (some x0) 11 15 (fun r46 => (aI h r46 12 x3 (fun v47 => (if v47 ≤ x6 then rV h else f_X11_findChanges_J61 (f_X11_findChanges_L39 n) x0 x2 x3 x5 x6 x7 h))))))))))
def f_X11_findChanges (h : AH) (a0 : Nat) (p1 : Int32) : RX Unit :=
  (pI h (some a0) 11 19 0 (fun h1 => (cV h1 (some a0) 11 (fun b => bnd (f_X11_stateOf h1 b p1) (fun v2 h3 => (if v2 = 3 then (cV h3 (some a0) 11 (fun b => bnd (f_X11_compare h3 b p1 (36 + p1)) (fun v4 h5 => f_X11_findChanges_L39 FU a0 p1 (36 + p1) 0 0 0 h5))) else rV h3))))))
def f_X11_cost (h : AH) (a0 : Nat) (p1 : Int32) (p2 : Int32) : RX Int32 :=
  (pI h (some a0) 11 0 0 (fun h1 => (bnd (f_X11_isSlot h1 p1 p2) (fun v2 h3 => (if v2 = 0 then rI (-1000001) h3 else (cV h3 (some a0) 11 (fun b => bnd (f_X11_stateOf h3 b ((3 * p1) + p2)) (fun v4 h5 => (if v4 = 3 then (gR h5 (some a0) 11 15 (fun r6 => (aI h5 r6 12 ((3 * p1) + p2) (fun v7 => (gR h5 (some a0) 11 15 (fun r8 => (aI h5 r8 12 (36 + ((3 * p1) + p2)) (fun v9 => (cV h5 (some a0) 11 (fun b => bnd (f_X11_compare h5 b ((3 * p1) + p2) (36 + ((3 * p1) + p2))) (fun v10 h11 => rI ((v7 + v9) - (2 * v10)) h11))))))))))) else rI 0 h5)))))))))
def f_X11_nearest_J117 (k47 : Nat → Int32 → Int32 → Int32 → Int32 → Int32 → Int32 → AH → RX Int32) (x0 : Nat) (x1 : Int32) (x2 : Int32) (x3 : Int32) (x6 : Int32) (x8 : Int32) (h : AH) : RX Int32 :=
  k47 x0 x1 x2 x3 x6 x8 (x6 + 1) h
def f_X11_nearest_L47  : Nat → Nat → Int32 → Int32 → Int32 → Int32 → Int32 → Int32 → AH → RX Int32
  | 0, _, _, _, _, _, _, _, _ => none
  | n + 1, x0, x1, x2, x3, x4, x5, x6, h => (if 3 ≤ x6 then rI x4 h else (if x6 = x2 then f_X11_nearest_L47 n x0 x1 x2 x3 x4 x5 (x6 + 1) h else (gR h (some x0) 11 12 (fun r6 => (aI h r6 13 ((3 * x1) + x6) (fun v7 => (if v7 = 0 then f_X11_nearest_L47 n x0 x1 x2 x3 x4 x5 (x6 + 1) h else (gR h (some x0) 11 15 (fun r8 => (aI h r8 12 ((3 * x1) + x6) (fun v9 => (gR h (some x0) 11 15 (fun r10 => (aI h r10 12 x3 (fun v11 => (cV h (some x0) 11 (fun b => bnd (f_X11_compare h b ((3 * x1) + x6) x3) (fun v12 h13 => (if x4 = (-1000000) then f_X11_nearest_J117 (f_X11_nearest_L47 n) x0 x1 x2 x3 x6 ((v9 + v11) - (2 * v12)) h13 else (if x5 ≤ ((v9 + v11) - (2 * v12)) then f_X11_nearest_L47 n x0 x1 x2 x3 x4 x5 (x6 + 1) h13 else f_X11_nearest_J117 (f_X11_nearest_L47 n) x0 x1 x2 x3 x6 ((v9 + v11) - (2 * v12)) h13))))))))))))))))))))
def f_X11_nearest (h : AH) (a0 : Nat) (p1 : Int32) (p2 : Int32) : RX Int32 :=
  (pI h (some a0) 11 0 0 (fun h1 => (bnd (f_X11_isSlot h1 p1 p2) (fun v2 h3 => (if v2 = 0 then rI (-1000001) h3 else (gR h3 (some a0) 11 12 (fun r4 => (aI h3 r4 13 ((36 + (3 * p1)) + p2) (fun v5 => (if v5 = 0 then rI (-1000002) h3 else f_X11_nearest_L47 FU a0 p1 p2 ((36 + (3 * p1)) + p2) (-1000000) 0 0 h3))))))))))
def f_X11_isOfShape_L39  : Nat → Nat → Int32 → Int32 → Int32 → Int32 → AH → RX Int32
  | 0, _, _, _, _, _, _ => none
  | n + 1, x0, x1, x2, x3, x4, h => (gR h (some x0) 11 27 (fun r5 => (aI h r5 12 x1 (fun v6 => (gR h (some x0) 11 28 (fun r7 => (aI h r7 12 x1 (fun v8 => (if (v6 + v8) ≤ x4 then rZ x3 h else (if x3 = 0 then rZ x3 h else (gR h (some x0) 11 31 (fun r9 => (gR h (some x0) 11 29 (fun r10 => (aI h r10 12 x1 (fun v11 => (aI h r9 12 (v11 + x4) (fun v12 => (gR h (some x0) 11 31 (fun r13 => (gR h (some x0) 11 29 (fun r14 => (aI h r14 12 x2 (fun v15 => (aI h r13 12 (v15 + x4) (fun v16 => (if v12 = v16 then f_X11_isOfShape_L39 n x0 x1 x2 1 (x4 + 1) h else f_X11_isOfShape_L39 n x0 x1 x2 0 (x4 + 1) h)))))))))))))))))))))))))))
def f_X11_isOfShape (h : AH) (a0 : Nat) (p1 : Int32) (p2 : Int32) : RX Int32 :=
  (gR h (some a0) 11 27 (fun r1 => (aI h r1 12 p1 (fun v2 => (gR h (some a0) 11 27 (fun r3 => (aI h r3 12 p2 (fun v4 => (if v2 = v4 then (gR h (some a0) 11 28 (fun r17 => (aI h r17 12 p1 (fun v18 => (gR h (some a0) 11 28 (fun r19 => (aI h r19 12 p2 (fun v20 => (if v18 = v20 then f_X11_isOfShape_L39 FU a0 p1 p2 1 0 h else f_X11_isOfShape_L39 FU a0 p1 p2 0 0 h))))))))) else f_X11_isOfShape_L39 FU a0 p1 p2 0 0 h)))))))))
def f_X11_findGroups_L98 (k143 : Nat → Int32 → Int32 → Int32 → AH → RX Unit) : Nat → Nat → Int32 → Int32 → Int32 → Int32 → AH → RX Unit
  | 0, _, _, _, _, _, _ => none
  | n + 1, x0, x1, x2, x3, x4, h => (gR h (some x0) 11 21 (fun r25 => (aI h r25 12 x3 (fun v26 => (if v26 ≤ x4 then k143 x0 x1 x2 x3 h else (gR h (some x0) 11 31 (fun r27 => (gR h (some x0) 11 14 (fun r28 => (gR h (some x0) 11 20 (fun r29 => (aI h r29 12 x3 (fun v30 => (aI h r28 12 (((60 * x2) + v30) + x4) (fun v31 => (sI h r27 12 x1 v31 (fun h32 => f_X11_findGroups_L98 k143 n x0 (x1 + 1) x2 x3 (x4 + 1) h32)))))))))))))))))
def f_X11_findGroups_L146 (k194 : Nat → Int32 → Int32 → Int32 → AH → RX Unit) : Nat → Nat → Int32 → Int32 → Int32 → Int32 → AH → RX Unit
  | 0, _, _, _, _, _, _ => none
  | n + 1, x0, x1, x2, x3, x4, h => (gR h (some x0) 11 23 (fun r33 => (aI h r33 12 x3 (fun v34 => (if v34 ≤ x4 then k194 x0 x1 x2 x3 h else (gR h (some x0) 11 31 (fun r35 => (gR h (some x0) 11 14 (fun r36 => (gR h (some x0) 11 22 (fun r37 => (aI h r37 12 x3 (fun v38 => (aI h r36 12 (((60 * (36 + x2)) + v38) + x4) (fun v39 => (sI h r35 12 x1 v39 (fun h40 => f_X11_findGroups_L146 k194 n x0 (x1 + 1) x2 x3 (x4 + 1) h40)))))))))))))))))
def f_X11_findGroups_L197 (k230 : Nat → Int32 → Int32 → Int32 → Int32 → AH → RX Unit) : Nat → Nat → Int32 → Int32 → Int32 → Int32 → AH → RX Unit
  | 0, _, _, _, _, _, _ => none
  | n + 1, x0, x1, x2, x3, x4, h => (gI h (some x0) 11 32 (fun v41 => (if v41 ≤ x4 then k230 x0 x1 x2 x3 x4 h else (gR h (some x0) 11 33 (fun r42 => (aI h r42 12 x4 (fun v43 => (gI h (some x0) 11 24 (fun v44 => (cV h (some x0) 11 (fun b => bnd (f_X11_isOfShape h b v43 v44) (fun v45 h46 => (if v45 = 0 then f_X11_findGroups_L197 k230 n x0 x1 x2 x3 (x4 + 1) h46 else k230 x0 x1 x2 x3 x4 h46)))))))))))))
def f_X11_findGroups_J260 (k27 : Nat → Int32 → Int32 → Int32 → AH → RX Unit) (x0 : Nat) (x1 : Int32) (x2 : Int32) (x3 : Int32) (x4 : Int32) (h : AH) : RX Unit :=
  (gR h (some x0) 11 30 (fun r48 => (gI h (some x0) 11 24 (fun v49 => (sI h r48 12 v49 x4 (fun h50 => (gI h50 (some x0) 11 24 (fun v51 => (pI h50 (some x0) 11 24 (v51 + 1) (fun h52 => k27 x0 x1 x2 (x3 + 1) h52))))))))))
def f_X11_findGroups_J230 (k27 : Nat → Int32 → Int32 → Int32 → AH → RX Unit) (x0 : Nat) (x1 : Int32) (x2 : Int32) (x3 : Int32) (x4 : Int32) (h : AH) : RX Unit :=
  (gI h (some x0) 11 32 (fun v47 => (if x4 = v47 then (gR h (some x0) 11 33 (fun r53 => (gI h (some x0) 11 24 (fun v54 => (sI h r53 12 x4 v54 (fun h55 => (gI h55 (some x0) 11 32 (fun v56 => (pI h55 (some x0) 11 32 (v56 + 1) (fun h57 => f_X11_findGroups_J260 k27 x0 x1 x2 x3 x4 h57)))))))))) else f_X11_findGroups_J260 k27 x0 x1 x2 x3 x4 h)))
def f_X11_findGroups_J194 (k27 : Nat → Int32 → Int32 → Int32 → AH → RX Unit) (x0 : Nat) (x1 : Int32) (x2 : Int32) (x3 : Int32) (h : AH) : RX Unit :=
  f_X11_findGroups_L197 (f_X11_findGroups_J230 k27) FU x0 x1 x2 x3 0 h
def f_X11_findGroups_J143 (k27 : Nat → Int32 → Int32 → Int32 → AH → RX Unit) (x0 : Nat) (x1 : Int32) (x2 : Int32) (x3 : Int32) (h : AH) : RX Unit :=
  f_X11_findGroups_L146 (f_X11_findGroups_J194 k27) FU x0 x1 x2 x3 0 h
def f_X11_findGroups_L27 (k287 : Nat → Int32 → Int32 → AH → RX Unit) : Nat → Nat → Int32 → Int32 → Int32 → AH → RX Unit
  | 0, _, _, _, _, _ => none
  | n + 1, x0, x1, x2, x3, h => (gI h (some x0) 11 19 (fun v5 => (if v5 ≤ x3 then k287 x0 x1 x2 h else (gR h (some x0) 11 25 (fun r6 => (gI h (some x0) 11 24 (fun v7 => (sI h r6 12 v7 x2 (fun h8 => (gR h8 (some x0) 11 26 (fun r9 => (gI h8 (some x0) 11 24 (fun v10 => (sI h8 r9 12 v10 x3 (fun h11 => (gR h11 (some x0) 11 27 (fun r12 => (gI h11 (some x0) 11 24 (fun v13 => (gR h11 (some x0) 11 21 (fun r14 => (aI h11 r14 12 x3 (fun v15 => (sI h11 r12 12 v13 v15 (fun h16 => (gR h16 (some x0) 11 28 (fun r17 => (gI h16 (some x0) 11 24 (fun v18 => (gR h16 (some x0) 11 23 (fun r19 => (aI h16 r19 12 x3 (fun v20 => (sI h16 r17 12 v18 v20 (fun h21 => (gR h21 (some x0) 11 29 (fun r22 => (gI h21 (some x0) 11 24 (fun v23 => (sI h21 r22 12 v23 x1 (fun h24 => f_X11_findGroups_L98 (f_X11_findGroups_J143 (f_X11_findGroups_L27 k287 n)) FU x0 x1 x2 x3 0 h24)))))))))))))))))))))))))))))))))))))))))
def f_X11_findGroups_J287 (k14 : Nat → Int32 → Int32 → AH → RX Unit) (x0 : Nat) (x1 : Int32) (x2 : Int32) (h : AH) : RX Unit :=
  k14 x0 x1 (x2 + 1) h
def f_X11_findGroups_L14  : Nat → Nat → Int32 → Int32 → AH → RX Unit
  | 0, _, _, _, _ => none
  | n + 1, x0, x1, x2, h => (if 36 ≤ x2 then rV h else (cV h (some x0) 11 (fun b => bnd (f_X11_findChanges h b x2) (fun u3 h4 => f_X11_findGroups_L27 (f_X11_findGroups_J287 (f_X11_findGroups_L14 n)) FU x0 x1 x2 0 h4))))
def f_X11_findGroups (h : AH) (a0 : Nat) : RX Unit :=
  (pI h (some a0) 11 24 0 (fun h1 => (pI h1 (some a0) 11 32 0 (fun h2 => f_X11_findGroups_L14 FU a0 0 0 h2))))
def f_X11_change_L125  : Nat → Nat → Int32 → Int32 → Int32 → AH → RX Int32
  | 0, _, _, _, _, _ => none
  | n + 1, x0, x3, x5, x6, h => (gR h (some x0) 11 25 (fun r13 => (aI h r13 12 x6 (fun v14 => (if v14 = x5 then (gR h (some x0) 11 26 (fun r15 => (aI h r15 12 x6 (fun v16 => (if v16 = x3 then (gR h (some x0) 11 30 (fun r17 => (aI h r17 12 x6 (fun v18 => rI v18 h)))) else f_X11_change_L125 n x0 x3 x5 (x6 + 1) h))))) else f_X11_change_L125 n x0 x3 x5 (x6 + 1) h)))))
def f_X11_change (h : AH) (a0 : Nat) (p1 : Int32) (p2 : Int32) (p3 : Int32) (p4 : Int32) : RX Int32 :=
  (pI h (some a0) 11 0 0 (fun h1 => (bnd (f_X11_isSlot h1 p1 p2) (fun v2 h3 => (if v2 = 0 then rI (-1000001) h3 else (bnd (f_X11_in h3 (Int32.toInt64 p4) 0 4) (fun v4 h5 => (if v4 = 0 then rI (-1000001) h5 else (cV h5 (some a0) 11 (fun b => bnd (f_X11_findChanges h5 b ((3 * p1) + p2)) (fun u6 h7 => (gI h7 (some a0) 11 19 (fun v8 => (bnd (f_X11_in h7 (Int32.toInt64 p3) 0 (Int32.toInt64 (v8 - 1))) (fun v9 h10 => (if v9 = 0 then rI (-1000000) h10 else (if 4 ≤ p4 then (cV h10 (some a0) 11 (fun b => bnd (f_X11_findGroups h10 b) (fun u11 h12 => f_X11_change_L125 FU a0 p3 ((3 * p1) + p2) 0 h12))) else (if p4 = 0 then (gR h10 (some a0) 11 20 (fun r25 => (aI h10 r25 12 p3 (fun v26 => rI v26 h10)))) else (if p4 = 1 then (gR h10 (some a0) 11 21 (fun r23 => (aI h10 r23 12 p3 (fun v24 => rI v24 h10)))) else (if p4 = 2 then (gR h10 (some a0) 11 22 (fun r21 => (aI h10 r21 12 p3 (fun v22 => rI v22 h10)))) else (gR h10 (some a0) 11 23 (fun r19 => (aI h10 r19 12 p3 (fun v20 => rI v20 h10))))))))))))))))))))))))
def f_X11_groups (h : AH) (a0 : Nat) : RX Int32 :=
  (pI h (some a0) 11 0 0 (fun h1 => (cV h1 (some a0) 11 (fun b => bnd (f_X11_findGroups h1 b) (fun u2 h3 => (gI h3 (some a0) 11 32 (fun v4 => rI v4 h3)))))))
def f_X11_group_L57  : Nat → Nat → Int32 → Int32 → Int32 → AH → RX Int32
  | 0, _, _, _, _, _ => none
  | n + 1, x0, x1, x4, x5, h => (gI h (some x0) 11 24 (fun v21 => (if v21 ≤ x5 then rI x4 h else (gR h (some x0) 11 30 (fun r22 => (aI h r22 12 x5 (fun v23 => (if v23 = x1 then f_X11_group_L57 n x0 x1 (x4 + 1) (x5 + 1) h else f_X11_group_L57 n x0 x1 (x4 + 0) (x5 + 1) h))))))))
def f_X11_group (h : AH) (a0 : Nat) (p1 : Int32) (p2 : Int32) : RX Int32 :=
  (pI h (some a0) 11 0 0 (fun h1 => (cV h1 (some a0) 11 (fun b => bnd (f_X11_findGroups h1 b) (fun u2 h3 => (gI h3 (some a0) 11 32 (fun v4 => (bnd (f_X11_in h3 (Int32.toInt64 p1) 0 (Int32.toInt64 (v4 - 1))) (fun v5 h6 => (if v5 = 0 then rI (-1000001) h6 else (bnd (f_X11_in h6 (Int32.toInt64 p2) 0 5) (fun v7 h8 => (if v7 = 0 then rI (-1000001) h8 else (gR h8 (some a0) 11 33 (fun r9 => (aI h8 r9 12 p1 (fun v10 => (if p2 = 0 then f_X11_group_L57 FU a0 p1 0 0 h8 else (if p2 = 1 then (gR h8 (some a0) 11 27 (fun r19 => (aI h8 r19 12 v10 (fun v20 => rI v20 h8)))) else (if p2 = 2 then (gR h8 (some a0) 11 28 (fun r17 => (aI h8 r17 12 v10 (fun v18 => rI v18 h8)))) else (if p2 = 3 then (gR h8 (some a0) 11 25 (fun r15 => (aI h8 r15 12 v10 (fun v16 => (if 3 = 0 then none else rI (v16 / 3) h8))))) else (if p2 = 4 then (gR h8 (some a0) 11 25 (fun r13 => (aI h8 r13 12 v10 (fun v14 => (if 3 = 0 then none else rI (v14 - v14 / 3 * 3) h8))))) else (gR h8 (some a0) 11 26 (fun r11 => (aI h8 r11 12 v10 (fun v12 => rI v12 h8))))))))))))))))))))))))))
def f_X11_shape_J70  (x0 : Nat) (x2 : Int32) (x3 : Int32) (x4 : Int32) (s0 : Int32) (s1 : Int64) (s2 : Int64) (h : AH) : RX Int32 :=
  (bnd (f_X11_in h s2 s1 (Int32.toInt64 (s0 - 1))) (fun v13 h14 => (if v13 = 0 then rI (-1000000) h14 else (gR h14 (some x0) 11 31 (fun r15 => (gR h14 (some x0) 11 29 (fun r16 => (aI h14 r16 12 x4 (fun v17 => (if x2 = 0 then (aI h14 r15 12 (v17 + x3) (fun v21 => rI v21 h14)) else (gR h14 (some x0) 11 27 (fun r18 => (aI h14 r18 12 x4 (fun v19 => (aI h14 r15 12 (v17 + (v19 + x3)) (fun v20 => rI v20 h14))))))))))))))))
def f_X11_shape (h : AH) (a0 : Nat) (p1 : Int32) (p2 : Int32) (p3 : Int32) : RX Int32 :=
  (pI h (some a0) 11 0 0 (fun h1 => (cV h1 (some a0) 11 (fun b => bnd (f_X11_findGroups h1 b) (fun u2 h3 => (gI h3 (some a0) 11 32 (fun v4 => (bnd (f_X11_in h3 (Int32.toInt64 p1) 0 (Int32.toInt64 (v4 - 1))) (fun v5 h6 => (if v5 = 0 then rI (-1000001) h6 else (bnd (f_X11_in h6 (Int32.toInt64 p2) 0 1) (fun v7 h8 => (if v7 = 0 then rI (-1000001) h8 else (gR h8 (some a0) 11 33 (fun r9 => (aI h8 r9 12 p1 (fun v10 => (if p2 = 0 then (gR h8 (some a0) 11 27 (fun r22 => (aI h8 r22 12 v10 (fun v23 => f_X11_shape_J70 a0 p2 p3 v10 v23 0 (Int32.toInt64 p3) h8)))) else (gR h8 (some a0) 11 28 (fun r11 => (aI h8 r11 12 v10 (fun v12 => f_X11_shape_J70 a0 p2 p3 v10 v12 0 (Int32.toInt64 p3) h8))))))))))))))))))))))
def f_X11_isSeen_J68 (k24 : Nat → Int32 → Int32 → Int32 → Int32 → Int32 → AH → RX Int32) (x0 : Nat) (x1 : Int32) (x2 : Int32) (x4 : Int32) (x6 : Int32) (h : AH) : RX Int32 :=
  k24 x0 x1 x2 x4 1 (x6 + 1) h
def f_X11_isSeen_L24  : Nat → Nat → Int32 → Int32 → Int32 → Int32 → Int32 → AH → RX Int32
  | 0, _, _, _, _, _, _, _ => none
  | n + 1, x0, x1, x2, x4, x5, x6, h => (gR h (some x0) 11 16 (fun r5 => (aI h r5 12 ((36 * x1) + x2) (fun v6 => (if v6 ≤ x6 then rZ x5 h else (if x5 = 0 then (gR h (some x0) 11 17 (fun r7 => (aI h r7 12 ((512 * ((36 * x1) + x2)) + x6) (fun v8 => (if v8 = x4 then f_X11_isSeen_J68 (f_X11_isSeen_L24 n) x0 x1 x2 x4 x6 h else f_X11_isSeen_L24 n x0 x1 x2 x4 0 (x6 + 1) h))))) else f_X11_isSeen_J68 (f_X11_isSeen_L24 n) x0 x1 x2 x4 x6 h))))))
def f_X11_isSeen (h : AH) (a0 : Nat) (p1 : Int32) (p2 : Int32) (p3 : Int32) : RX Int32 :=
  (gR h (some a0) 11 22 (fun r1 => (aI h r1 12 p3 (fun v2 => (gR h (some a0) 11 23 (fun r3 => (aI h r3 12 p3 (fun v4 => f_X11_isSeen_L24 FU a0 p1 p2 ((61 * v2) + v4) 0 0 h))))))))
def f_X11_see (h : AH) (a0 : Nat) (p1 : Int32) (p2 : Int32) (p3 : Int32) : RX Unit :=
  (cV h (some a0) 11 (fun b => bnd (f_X11_isSeen h b p1 p2 p3) (fun v1 h2 => (if v1 = 0 then (gR h2 (some a0) 11 16 (fun r3 => (aI h2 r3 12 ((36 * p1) + p2) (fun v4 => (if 512 ≤ v4 then rV h2 else (gR h2 (some a0) 11 17 (fun r5 => (gR h2 (some a0) 11 16 (fun r6 => (aI h2 r6 12 ((36 * p1) + p2) (fun v7 => (gR h2 (some a0) 11 22 (fun r8 => (aI h2 r8 12 p3 (fun v9 => (gR h2 (some a0) 11 23 (fun r10 => (aI h2 r10 12 p3 (fun v11 => (sI h2 r5 12 ((512 * ((36 * p1) + p2)) + v7) ((61 * v9) + v11) (fun h12 => (gR h12 (some a0) 11 16 (fun r13 => (aI h12 r13 12 ((36 * p1) + p2) (fun v14 => (sI h12 r13 12 ((36 * p1) + p2) (v14 + 1) (fun h15 => rV h15))))))))))))))))))))))))))) else rV h2))))
def f_X11_look (h : AH) (a0 : Nat) (p1 : Int32) (p2 : Int32) (p3 : Int32) (p4 : Int32) : RX Int32 :=
  (pI h (some a0) 11 0 0 (fun h1 => (bnd (f_X11_in h1 (Int32.toInt64 p1) 0 3) (fun v2 h3 => (if v2 = 0 then rI (-1000001) h3 else (bnd (f_X11_isSlot h3 p2 p3) (fun v4 h5 => (if v4 = 0 then rI (-1000001) h5 else (cV h5 (some a0) 11 (fun b => bnd (f_X11_findChanges h5 b ((3 * p2) + p3)) (fun u6 h7 => (gI h7 (some a0) 11 19 (fun v8 => (bnd (f_X11_in h7 (Int32.toInt64 p4) 0 (Int32.toInt64 (v8 - 1))) (fun v9 h10 => (if v9 = 0 then rI (-1000001) h10 else (cV h10 (some a0) 11 (fun b => bnd (f_X11_see h10 b p1 ((3 * p2) + p3) p4) (fun u11 h12 => (gR h12 (some a0) 11 16 (fun r13 => (aI h12 r13 12 ((36 * p1) + ((3 * p2) + p3)) (fun v14 => rI v14 h12)))))))))))))))))))))))
def f_X11_make_J196 (k9 : Nat → Int32 → Int32 → Int32 → AH → RX Int32) (x0 : Nat) (x1 : Int32) (x2 : Int32) (x3 : Int32) (h : AH) : RX Int32 :=
  (gR h (some x0) 11 35 (fun r5 => (gI h (some x0) 11 36 (fun v6 => (gR h (some x0) 11 14 (fun r7 => (aI h r7 12 ((60 * x1) + x3) (fun v8 => (sI h r5 12 v6 v8 (fun h9 => (gI h9 (some x0) 11 36 (fun v10 => (pI h9 (some x0) 11 36 (v10 + 1) (fun h11 => k9 x0 x1 x2 (x3 + 1) h11))))))))))))))
def f_X11_make_L131 (k181 : Nat → Int32 → Int32 → Int32 → AH → RX Int32) : Nat → Nat → Int32 → Int32 → Int32 → Int32 → AH → RX Int32
  | 0, _, _, _, _, _, _ => none
  | n + 1, x0, x1, x2, x3, x4, h => (gR h (some x0) 11 21 (fun r16 => (aI h r16 12 x2 (fun v17 => (if v17 ≤ x4 then k181 x0 x1 x2 x3 h else (gR h (some x0) 11 35 (fun r18 => (gI h (some x0) 11 36 (fun v19 => (gR h (some x0) 11 14 (fun r20 => (aI h r20 12 (((60 * x1) + x3) + x4) (fun v21 => (sI h r18 12 v19 v21 (fun h22 => (gI h22 (some x0) 11 36 (fun v23 => (pI h22 (some x0) 11 36 (v23 + 1) (fun h24 => f_X11_make_L131 k181 n x0 x1 x2 x3 (x4 + 1) h24)))))))))))))))))))
def f_X11_make_J181 (k9 : Nat → Int32 → Int32 → Int32 → AH → RX Int32) (x0 : Nat) (x1 : Int32) (x2 : Int32) (x3 : Int32) (h : AH) : RX Int32 :=
  (gR h (some x0) 11 21 (fun r25 => (aI h r25 12 x2 (fun v26 => k9 x0 x1 (x2 + 1) (x3 + v26) h))))
def f_X11_make_L67 (k125 : Nat → Int32 → Int32 → Int32 → AH → RX Int32) : Nat → Nat → Int32 → Int32 → Int32 → Int32 → AH → RX Int32
  | 0, _, _, _, _, _, _ => none
  | n + 1, x0, x1, x2, x3, x4, h => (gR h (some x0) 11 23 (fun r27 => (aI h r27 12 x2 (fun v28 => (if v28 ≤ x4 then k125 x0 x1 x2 x3 h else (gR h (some x0) 11 35 (fun r29 => (gI h (some x0) 11 36 (fun v30 => (gR h (some x0) 11 14 (fun r31 => (gR h (some x0) 11 22 (fun r32 => (aI h r32 12 x2 (fun v33 => (aI h r31 12 (((60 * (36 + x1)) + v33) + x4) (fun v34 => (sI h r29 12 v30 v34 (fun h35 => (gI h35 (some x0) 11 36 (fun v36 => (pI h35 (some x0) 11 36 (v36 + 1) (fun h37 => f_X11_make_L67 k125 n x0 x1 x2 x3 (x4 + 1) h37)))))))))))))))))))))))
def f_X11_make_J125 (k9 : Nat → Int32 → Int32 → Int32 → AH → RX Int32) (x0 : Nat) (x1 : Int32) (x2 : Int32) (x3 : Int32) (h : AH) : RX Int32 :=
  f_X11_make_J181 k9 x0 x1 x2 x3 h
def f_X11_make_J37 (k9 : Nat → Int32 → Int32 → Int32 → AH → RX Int32) (x0 : Nat) (x1 : Int32) (x2 : Int32) (x3 : Int32) (h : AH) : RX Int32 :=
  (gI h (some x0) 11 19 (fun v4 => (if v4 ≤ x2 then f_X11_make_J196 k9 x0 x1 x2 x3 h else (gR h (some x0) 11 20 (fun r12 => (aI h r12 12 x2 (fun v13 => (if v13 = x3 then (gR h (some x0) 11 34 (fun r14 => (aI h r14 13 x2 (fun v15 => (if v15 = 0 then f_X11_make_L131 (f_X11_make_J181 k9) FU x0 x1 x2 x3 0 h else f_X11_make_L67 (f_X11_make_J125 k9) FU x0 x1 x2 x3 0 h))))) else f_X11_make_J196 k9 x0 x1 x2 x3 h))))))))
def f_X11_make_L9 (k232 : Nat → AH → RX Int32) : Nat → Nat → Int32 → Int32 → Int32 → AH → RX Int32
  | 0, _, _, _, _, _ => none
  | n + 1, x0, x1, x2, x3, h => (gR h (some x0) 11 15 (fun r2 => (aI h r2 12 x1 (fun v3 => (if x3 < v3 then f_X11_make_J37 (f_X11_make_L9 k232 n) x0 x1 x2 x3 h else (gI h (some x0) 11 19 (fun v38 => (if v38 ≤ x2 then k232 x0 h else (gR h (some x0) 11 20 (fun r39 => (aI h r39 12 x2 (fun v40 => (if v40 = x3 then f_X11_make_J37 (f_X11_make_L9 k232 n) x0 x1 x2 x3 h else k232 x0 h)))))))))))))
def f_X11_make_J232  (x0 : Nat) (h : AH) : RX Int32 :=
  (gR h (some x0) 11 35 (fun r41 => (gI h (some x0) 11 36 (fun v42 => (bnd (f_X11_isAnswer h r41 0 v42) (fun v43 h44 => rZ v43 h44))))))
def f_X11_make (h : AH) (a0 : Nat) (p1 : Int32) : RX Int32 :=
  (pI h (some a0) 11 36 0 (fun h1 => f_X11_make_L9 f_X11_make_J232 FU a0 p1 0 0 h1))
def f_X11_begins (h : AH) (a0 : Nat) (p1 : Int32) (p2 : Int32) : RX Unit :=
  (gR h (some a0) 11 38 (fun r1 => (gI h (some a0) 11 37 (fun v2 => (sI h r1 12 v2 p1 (fun h3 => (gR h3 (some a0) 11 39 (fun r4 => (gI h3 (some a0) 11 37 (fun v5 => (sI h3 r4 12 v5 p2 (fun h6 => (gR h6 (some a0) 11 40 (fun r7 => (gI h6 (some a0) 11 37 (fun v8 => (sI h6 r7 12 v8 0 (fun h9 => (gR h9 (some a0) 11 41 (fun r10 => (gI h9 (some a0) 11 37 (fun v11 => (sI h9 r10 12 v11 0 (fun h12 => (gR h12 (some a0) 11 42 (fun r13 => (gI h12 (some a0) 11 37 (fun v14 => (sI h12 r13 13 v14 (vp_nar .boolean 0) (fun h15 => (gR h15 (some a0) 11 43 (fun r16 => (gI h15 (some a0) 11 37 (fun v17 => (sI h15 r16 12 v17 0 (fun h18 => rV h18))))))))))))))))))))))))))))))))))))
def f_X11_becomes_L64 (k120 : Nat → Int32 → AH → RX Unit) : Nat → Nat → Int32 → Int32 → Int32 → AH → RX Unit
  | 0, _, _, _, _, _ => none
  | n + 1, x0, x1, x2, x3, h => (if 60 ≤ x3 then k120 x0 x1 h else (gR h (some x0) 11 47 (fun r19 => (gR h (some x0) 11 13 (fun r20 => (aI h r20 12 ((60 * x1) + x3) (fun v21 => (sI h r19 12 ((60 * x2) + x3) v21 (fun h22 => (gR h22 (some x0) 11 48 (fun r23 => (gR h22 (some x0) 11 14 (fun r24 => (aI h22 r24 12 ((60 * x1) + x3) (fun v25 => (sI h22 r23 12 ((60 * x2) + x3) v25 (fun h26 => f_X11_becomes_L64 k120 n x0 x1 x2 (x3 + 1) h26)))))))))))))))))
def f_X11_becomes_L132  : Nat → Nat → Int32 → Int32 → AH → RX Unit
  | 0, _, _, _, _ => none
  | n + 1, x0, x1, x3, h => (gI h (some x0) 11 36 (fun v30 => (if v30 ≤ x3 then rV h else (gR h (some x0) 11 13 (fun r31 => (gR h (some x0) 11 35 (fun r32 => (aI h r32 12 x3 (fun v33 => (sI h r31 12 ((60 * x1) + x3) v33 (fun h34 => (gR h34 (some x0) 11 14 (fun r35 => (gR h34 (some x0) 11 35 (fun r36 => (aI h34 r36 12 x3 (fun v37 => (sI h34 r35 12 ((60 * x1) + x3) v37 (fun h38 => f_X11_becomes_L132 n x0 x1 (x3 + 1) h38)))))))))))))))))))
def f_X11_becomes_J120  (x0 : Nat) (x1 : Int32) (h : AH) : RX Unit :=
  (gR h (some x0) 11 15 (fun r27 => (gI h (some x0) 11 36 (fun v28 => (sI h r27 12 x1 v28 (fun h29 => f_X11_becomes_L132 FU x0 x1 0 h29))))))
def f_X11_becomes (h : AH) (a0 : Nat) (p1 : Int32) : RX Unit :=
  (gI h (some a0) 11 37 (fun v1 => (gR h (some a0) 11 43 (fun r2 => (gI h (some a0) 11 37 (fun v3 => (aI h r2 12 v3 (fun v4 => (gR h (some a0) 11 43 (fun r5 => (gI h (some a0) 11 37 (fun v6 => (aI h r5 12 v6 (fun v7 => (sI h r5 12 v6 (v7 + 1) (fun h8 => (gR h8 (some a0) 11 44 (fun r9 => (sI h8 r9 12 ((36 * v1) + v4) p1 (fun h10 => (gR h10 (some a0) 11 45 (fun r11 => (gR h10 (some a0) 11 12 (fun r12 => (aI h10 r12 13 p1 (fun v13 => (sI h10 r11 13 ((36 * v1) + v4) (vp_nar .boolean v13) (fun h14 => (gR h14 (some a0) 11 46 (fun r15 => (gR h14 (some a0) 11 15 (fun r16 => (aI h14 r16 12 p1 (fun v17 => (sI h14 r15 12 ((36 * v1) + v4) v17 (fun h18 => f_X11_becomes_L64 f_X11_becomes_J120 FU a0 p1 ((36 * v1) + v4) 0 h18))))))))))))))))))))))))))))))))))))
def f_X11_approve_L75 (k109 : Nat → Int32 → Int32 → Int32 → Int32 → AH → RX Int32) : Nat → Nat → Int32 → Int32 → Int32 → Int32 → Int32 → AH → RX Int32
  | 0, _, _, _, _, _, _, _ => none
  | n + 1, x0, x1, x4, x5, x6, x7, h => (gI h (some x0) 11 19 (fun v13 => (if v13 ≤ x7 then k109 x0 x1 x4 x5 x6 h else (gR h (some x0) 11 34 (fun r14 => (if x7 = x4 then (sI h r14 13 x7 (vp_nar .boolean 1) (fun h16 => f_X11_approve_L75 k109 n x0 x1 x4 x5 x6 (x7 + 1) h16)) else (sI h r14 13 x7 (vp_nar .boolean 0) (fun h15 => f_X11_approve_L75 k109 n x0 x1 x4 x5 x6 (x7 + 1) h15))))))))
def f_X11_approve_J109  (x0 : Nat) (x1 : Int32) (x4 : Int32) (x5 : Int32) (x6 : Int32) (h : AH) : RX Int32 :=
  (cV h (some x0) 11 (fun b => bnd (f_X11_make h b x6) (fun v17 h18 => (if v17 = 0 then rI (-1000002) h18 else (gI h18 (some x0) 11 37 (fun v19 => (if v19 = 100 then rI (-1000003) h18 else (cV h18 (some x0) 11 (fun b => bnd (f_X11_see h18 b x1 x6 x4) (fun u20 h21 => (cV h21 (some x0) 11 (fun b => bnd (f_X11_begins h21 b x1 x5) (fun u22 h23 => (gR h23 (some x0) 11 40 (fun r24 => (gI h23 (some x0) 11 37 (fun v25 => (sI h23 r24 12 v25 1 (fun h26 => (cV h26 (some x0) 11 (fun b => bnd (f_X11_becomes h26 b x6) (fun u27 h28 => (gI h28 (some x0) 11 37 (fun v29 => (pI h28 (some x0) 11 37 (v29 + 1) (fun h30 => (gI h30 (some x0) 11 37 (fun v31 => rI (v31 - 1) h30))))))))))))))))))))))))))))
def f_X11_approve (h : AH) (a0 : Nat) (p1 : Int32) (p2 : Int32) (p3 : Int32) (p4 : Int32) (p5 : Int32) : RX Int32 :=
  (pI h (some a0) 11 0 0 (fun h1 => (bnd (f_X11_in h1 (Int32.toInt64 p1) 0 3) (fun v2 h3 => (if v2 = 0 then rI (-1000001) h3 else (bnd (f_X11_isSlot h3 p2 p3) (fun v4 h5 => (if v4 = 0 then rI (-1000001) h5 else (bnd (f_X11_in h5 (Int32.toInt64 p5) 0 1) (fun v6 h7 => (if v6 = 0 then rI (-1000001) h7 else (cV h7 (some a0) 11 (fun b => bnd (f_X11_findChanges h7 b ((3 * p2) + p3)) (fun u8 h9 => (gI h9 (some a0) 11 19 (fun v10 => (bnd (f_X11_in h9 (Int32.toInt64 p4) 0 (Int32.toInt64 (v10 - 1))) (fun v11 h12 => (if v11 = 0 then rI (-1000001) h12 else f_X11_approve_L75 f_X11_approve_J109 FU a0 p1 p4 p5 ((3 * p2) + p3) 0 h12)))))))))))))))))))
def f_X11_choose_L7 (k28 : Nat → Int32 → Int32 → AH → RX Int32) : Nat → Nat → Int32 → Int32 → Int32 → AH → RX Int32
  | 0, _, _, _, _, _ => none
  | n + 1, x0, x1, x2, x3, h => (gI h (some x0) 11 19 (fun v3 => (if v3 ≤ x3 then k28 x0 x1 x2 h else (gR h (some x0) 11 34 (fun r4 => (sI h r4 13 x3 (vp_nar .boolean 0) (fun h5 => f_X11_choose_L7 k28 n x0 x1 x2 (x3 + 1) h5)))))))
def f_X11_choose_L33  : Nat → Nat → Int32 → Int32 → Int32 → Int32 → AH → RX Int32
  | 0, _, _, _, _, _, _ => none
  | n + 1, x0, x1, x2, x3, x4, h => (gI h (some x0) 11 24 (fun v6 => (if v6 ≤ x4 then rI x3 h else (gR h (some x0) 11 25 (fun r7 => (aI h r7 12 x4 (fun v8 => (if v8 = x1 then (gR h (some x0) 11 30 (fun r9 => (aI h r9 12 x4 (fun v10 => (if v10 = x2 then (gR h (some x0) 11 34 (fun r11 => (gR h (some x0) 11 26 (fun r12 => (aI h r12 12 x4 (fun v13 => (sI h r11 13 v13 (vp_nar .boolean 1) (fun h14 => f_X11_choose_L33 n x0 x1 x2 (x3 + 1) (x4 + 1) h14)))))))) else f_X11_choose_L33 n x0 x1 x2 x3 (x4 + 1) h))))) else f_X11_choose_L33 n x0 x1 x2 x3 (x4 + 1) h))))))))
def f_X11_choose_J28  (x0 : Nat) (x1 : Int32) (x2 : Int32) (h : AH) : RX Int32 :=
  f_X11_choose_L33 FU x0 x1 x2 0 0 h
def f_X11_choose (h : AH) (a0 : Nat) (p1 : Int32) (p2 : Int32) : RX Int32 :=
  (cV h (some a0) 11 (fun b => bnd (f_X11_findChanges h b p1) (fun u1 h2 => f_X11_choose_L7 f_X11_choose_J28 FU a0 p1 p2 0 h2)))
def f_X11_approveAll_L53 (k88 : Nat → Int32 → Int32 → Int32 → AH → RX Int32) : Nat → Nat → Int32 → Int32 → Int32 → Int32 → AH → RX Int32
  | 0, _, _, _, _, _, _ => none
  | n + 1, x0, x1, x2, x3, x4, h => (if 36 ≤ x4 then k88 x0 x1 x2 x3 h else (cV h (some x0) 11 (fun b => bnd (f_X11_choose h b x4 x2) (fun v11 h12 => (if v11 ≤ 0 then f_X11_approveAll_L53 k88 n x0 x1 x2 x3 (x4 + 1) h12 else (cV h12 (some x0) 11 (fun b => bnd (f_X11_make h12 b x4) (fun v13 h14 => (if v13 = 0 then rI (-1000002) h14 else f_X11_approveAll_L53 k88 n x0 x1 x2 x3 (x4 + 1) h14)))))))))
def f_X11_approveAll_J193 (k148 : Nat → Int32 → Int32 → Int32 → Int32 → AH → RX Int32) (x0 : Nat) (x1 : Int32) (x2 : Int32) (x4 : Int32) (x6 : Int32) (s0 : Int32) (s1 : Int32) (s2 : Option Nat) (h : AH) : RX Int32 :=
  (sI h s2 12 s1 (s0 + 0) (fun h30 => k148 x0 x1 x2 x4 (x6 + 1) h30))
def f_X11_approveAll_L148 (k202 : Nat → Int32 → Int32 → Int32 → AH → RX Int32) : Nat → Nat → Int32 → Int32 → Int32 → Int32 → AH → RX Int32
  | 0, _, _, _, _, _, _ => none
  | n + 1, x0, x1, x2, x4, x6, h => (gI h (some x0) 11 19 (fun v24 => (if v24 ≤ x6 then k202 x0 x1 x2 x4 h else (gR h (some x0) 11 41 (fun r25 => (gI h (some x0) 11 37 (fun v26 => (aI h r25 12 v26 (fun v27 => (gR h (some x0) 11 34 (fun r28 => (aI h r28 13 x6 (fun v29 => (if v29 = 0 then f_X11_approveAll_J193 (f_X11_approveAll_L148 k202 n) x0 x1 x2 x4 x6 v27 v26 r25 h else (cV h (some x0) 11 (fun b => bnd (f_X11_isSeen h b x1 x4 x6) (fun v31 h32 => (if v31 = 0 then (sI h32 r25 12 v26 (v27 + 1) (fun h33 => f_X11_approveAll_L148 k202 n x0 x1 x2 x4 (x6 + 1) h33)) else f_X11_approveAll_J193 (f_X11_approveAll_L148 k202 n) x0 x1 x2 x4 x6 v27 v26 r25 h32))))))))))))))))))
def f_X11_approveAll_J202 (k110 : Nat → Int32 → Int32 → Int32 → AH → RX Int32) (x0 : Nat) (x1 : Int32) (x2 : Int32) (x4 : Int32) (h : AH) : RX Int32 :=
  (cV h (some x0) 11 (fun b => bnd (f_X11_make h b x4) (fun v34 h35 => (cV h35 (some x0) 11 (fun b => bnd (f_X11_becomes h35 b x4) (fun u36 h37 => k110 x0 x1 x2 (x4 + 1) h37))))))
def f_X11_approveAll_L110 (k222 : Nat → AH → RX Int32) : Nat → Nat → Int32 → Int32 → Int32 → AH → RX Int32
  | 0, _, _, _, _, _ => none
  | n + 1, x0, x1, x2, x4, h => (if 36 ≤ x4 then k222 x0 h else (cV h (some x0) 11 (fun b => bnd (f_X11_choose h b x4 x2) (fun v18 h19 => (if v18 ≤ 0 then f_X11_approveAll_L110 k222 n x0 x1 x2 (x4 + 1) h19 else (gR h19 (some x0) 11 40 (fun r20 => (gI h19 (some x0) 11 37 (fun v21 => (aI h19 r20 12 v21 (fun v22 => (sI h19 r20 12 v21 (v22 + v18) (fun h23 => f_X11_approveAll_L148 (f_X11_approveAll_J202 (f_X11_approveAll_L110 k222 n)) FU x0 x1 x2 x4 0 h23)))))))))))))
def f_X11_approveAll_J222  (x0 : Nat) (h : AH) : RX Int32 :=
  (gI h (some x0) 11 37 (fun v38 => (pI h (some x0) 11 37 (v38 + 1) (fun h39 => (gI h39 (some x0) 11 37 (fun v40 => rI (v40 - 1) h39))))))
def f_X11_approveAll_J88  (x0 : Nat) (x1 : Int32) (x2 : Int32) (x3 : Int32) (h : AH) : RX Int32 :=
  (gI h (some x0) 11 37 (fun v15 => (if v15 = 100 then rI (-1000003) h else (cV h (some x0) 11 (fun b => bnd (f_X11_begins h b x1 x3) (fun u16 h17 => f_X11_approveAll_L110 f_X11_approveAll_J222 FU x0 x1 x2 0 h17))))))
def f_X11_approveAll (h : AH) (a0 : Nat) (p1 : Int32) (p2 : Int32) (p3 : Int32) : RX Int32 :=
  (pI h (some a0) 11 0 0 (fun h1 => (cV h1 (some a0) 11 (fun b => bnd (f_X11_findGroups h1 b) (fun u2 h3 => (bnd (f_X11_in h3 (Int32.toInt64 p1) 0 3) (fun v4 h5 => (if v4 = 0 then rI (-1000001) h5 else (gI h5 (some a0) 11 32 (fun v6 => (bnd (f_X11_in h5 (Int32.toInt64 p2) 0 (Int32.toInt64 (v6 - 1))) (fun v7 h8 => (if v7 = 0 then rI (-1000001) h8 else (bnd (f_X11_in h8 (Int32.toInt64 p3) 0 1) (fun v9 h10 => (if v9 = 0 then rI (-1000001) h10 else f_X11_approveAll_L53 f_X11_approveAll_J88 FU a0 p1 p2 p3 0 h10))))))))))))))))
def f_X11_undo_L12 (k31 : Nat → Int32 → AH → RX Int32) : Nat → Nat → Int32 → AH → RX Int32
  | 0, _, _, _ => none
  | n + 1, x0, x1, h => (if x1 < 0 then k31 x0 x1 h else (gR h (some x0) 11 42 (fun r3 => (aI h r3 13 x1 (fun v4 => (if v4 = 0 then k31 x0 x1 h else f_X11_undo_L12 k31 n x0 (x1 + (-1)) h))))))
def f_X11_undo_L101 (k164 : Nat → Int32 → Int32 → AH → RX Int32) : Nat → Nat → Int32 → Int32 → Int32 → Int32 → Int32 → AH → RX Int32
  | 0, _, _, _, _, _, _, _ => none
  | n + 1, x0, x1, x2, x3, x4, x5, h => (if 60 ≤ x5 then k164 x0 x1 x2 h else (gR h (some x0) 11 13 (fun r19 => (gR h (some x0) 11 47 (fun r20 => (aI h r20 12 ((60 * x3) + x5) (fun v21 => (sI h r19 12 ((60 * x4) + x5) v21 (fun h22 => (gR h22 (some x0) 11 14 (fun r23 => (gR h22 (some x0) 11 48 (fun r24 => (aI h22 r24 12 ((60 * x3) + x5) (fun v25 => (sI h22 r23 12 ((60 * x4) + x5) v25 (fun h26 => f_X11_undo_L101 k164 n x0 x1 x2 x3 x4 (x5 + 1) h26)))))))))))))))))
def f_X11_undo_J164 (k47 : Nat → Int32 → Int32 → AH → RX Int32) (x0 : Nat) (x1 : Int32) (x2 : Int32) (h : AH) : RX Int32 :=
  k47 x0 x1 (x2 + 1) h
def f_X11_undo_L47  : Nat → Nat → Int32 → Int32 → AH → RX Int32
  | 0, _, _, _, _ => none
  | n + 1, x0, x1, x2, h => (gR h (some x0) 11 43 (fun r7 => (aI h r7 12 x1 (fun v8 => (if v8 ≤ x2 then rI x1 h else (gR h (some x0) 11 44 (fun r9 => (aI h r9 12 ((36 * x1) + x2) (fun v10 => (gR h (some x0) 11 12 (fun r11 => (gR h (some x0) 11 45 (fun r12 => (aI h r12 13 ((36 * x1) + x2) (fun v13 => (sI h r11 13 v10 (vp_nar .boolean v13) (fun h14 => (gR h14 (some x0) 11 15 (fun r15 => (gR h14 (some x0) 11 46 (fun r16 => (aI h14 r16 12 ((36 * x1) + x2) (fun v17 => (sI h14 r15 12 v10 v17 (fun h18 => f_X11_undo_L101 (f_X11_undo_J164 (f_X11_undo_L47 n)) FU x0 x1 x2 ((36 * x1) + x2) v10 0 h18)))))))))))))))))))))))))
def f_X11_undo_J31  (x0 : Nat) (x1 : Int32) (h : AH) : RX Int32 :=
  (if 0 ≤ x1 then (gR h (some x0) 11 42 (fun r5 => (sI h r5 13 x1 (vp_nar .boolean 1) (fun h6 => f_X11_undo_L47 FU x0 x1 0 h6)))) else rI (-1000000) h)
def f_X11_undo (h : AH) (a0 : Nat) : RX Int32 :=
  (pI h (some a0) 11 0 0 (fun h1 => (gI h1 (some a0) 11 37 (fun v2 => f_X11_undo_L12 f_X11_undo_J31 FU a0 (v2 - 1) h1))))
def f_X11_entry (h : AH) (a0 : Nat) (p1 : Int32) (p2 : Int32) : RX Int32 :=
  (pI h (some a0) 11 0 0 (fun h1 => (bnd (f_X11_in h1 (Int32.toInt64 p2) 0 5) (fun v2 h3 => (if v2 = 0 then rI (-1000001) h3 else (gI h3 (some a0) 11 37 (fun v4 => (bnd (f_X11_in h3 (Int32.toInt64 p1) 0 (Int32.toInt64 (v4 - 1))) (fun v5 h6 => (if v5 = 0 then rI (-1000000) h6 else (if p2 = 0 then (gR h6 (some a0) 11 38 (fun r17 => (aI h6 r17 12 p1 (fun v18 => rI v18 h6)))) else (if p2 = 1 then (gR h6 (some a0) 11 39 (fun r15 => (aI h6 r15 12 p1 (fun v16 => rI v16 h6)))) else (if p2 = 2 then (gR h6 (some a0) 11 40 (fun r13 => (aI h6 r13 12 p1 (fun v14 => rI v14 h6)))) else (if p2 = 3 then (gR h6 (some a0) 11 41 (fun r11 => (aI h6 r11 12 p1 (fun v12 => rI v12 h6)))) else (if p2 = 4 then (gR h6 (some a0) 11 42 (fun r9 => (aI h6 r9 13 p1 (fun v10 => (if v10 = 0 then rI 0 h6 else rI 1 h6))))) else (gR h6 (some a0) 11 43 (fun r7 => (aI h6 r7 12 p1 (fun v8 => rI v8 h6)))))))))))))))))))
def f_X11_isPlainFold_L4  : Nat → Nat → Int32 → Int32 → Int32 → AH → RX Int32
  | 0, _, _, _, _, _ => none
  | n + 1, x0, x1, x2, x3, h => (gR h (some x0) 11 15 (fun r1 => (aI h r1 12 x1 (fun v2 => (if v2 ≤ x3 then rZ x2 h else (if x2 = 0 then f_X11_isPlainFold_L4 n x0 x1 0 (x3 + 1) h else (gR h (some x0) 11 13 (fun r3 => (aI h r3 12 ((60 * x1) + x3) (fun v4 => (gR h (some x0) 11 14 (fun r5 => (aI h r5 12 ((60 * x1) + x3) (fun v6 => (if v4 = v6 then f_X11_isPlainFold_L4 n x0 x1 1 (x3 + 1) h else f_X11_isPlainFold_L4 n x0 x1 0 (x3 + 1) h)))))))))))))))
def f_X11_isPlainFold (h : AH) (a0 : Nat) (p1 : Int32) : RX Int32 :=
  f_X11_isPlainFold_L4 FU a0 p1 1 0 h
def f_X11_isPlainAlike_L24  : Nat → Nat → Int32 → Int32 → Int32 → Int32 → AH → RX Int32
  | 0, _, _, _, _, _, _ => none
  | n + 1, x0, x1, x2, x3, x4, h => (gR h (some x0) 11 15 (fun r5 => (aI h r5 12 x1 (fun v6 => (if v6 ≤ x4 then rZ x3 h else (if x3 = 0 then rZ x3 h else (gR h (some x0) 11 13 (fun r7 => (aI h r7 12 ((60 * x1) + x4) (fun v8 => (gR h (some x0) 11 13 (fun r9 => (aI h r9 12 ((60 * x2) + x4) (fun v10 => (if v8 = v10 then f_X11_isPlainAlike_L24 n x0 x1 x2 1 (x4 + 1) h else f_X11_isPlainAlike_L24 n x0 x1 x2 0 (x4 + 1) h)))))))))))))))
def f_X11_isPlainAlike (h : AH) (a0 : Nat) (p1 : Int32) (p2 : Int32) : RX Int32 :=
  (gR h (some a0) 11 15 (fun r1 => (aI h r1 12 p1 (fun v2 => (gR h (some a0) 11 15 (fun r3 => (aI h r3 12 p2 (fun v4 => (if v2 = v4 then f_X11_isPlainAlike_L24 FU a0 p1 p2 1 0 h else f_X11_isPlainAlike_L24 FU a0 p1 p2 0 0 h)))))))))
def f_X11_kindOf_J111 (k7 : Nat → Int32 → Int32 → Int32 → Int32 → AH → RX Int32) (x0 : Nat) (x1 : Int32) (x2 : Int32) (x4 : Int32) (h : AH) : RX Int32 :=
  k7 x0 x1 x2 1 (x4 + 1) h
def f_X11_kindOf_J75 (k7 : Nat → Int32 → Int32 → Int32 → Int32 → AH → RX Int32) (x0 : Nat) (x1 : Int32) (x3 : Int32) (x4 : Int32) (x5 : Int32) (s0 : Int32) (h : AH) : RX Int32 :=
  (if x3 = 0 then (gR h (some x0) 11 12 (fun r1 => (aI h r1 13 x4 (fun v2 => (if v2 = 0 then k7 x0 x1 s0 0 (x4 + 1) h else (if x5 = 0 then k7 x0 x1 s0 0 (x4 + 1) h else (if x4 = x1 then k7 x0 x1 s0 0 (x4 + 1) h else (cV h (some x0) 11 (fun b => bnd (f_X11_areAlike h b x4 x1) (fun v3 h4 => (if v3 = 0 then f_X11_kindOf_J111 k7 x0 x1 s0 x4 h4 else k7 x0 x1 s0 0 (x4 + 1) h4))))))))))) else f_X11_kindOf_J111 k7 x0 x1 s0 x4 h)
def f_X11_kindOf_J70 (k7 : Nat → Int32 → Int32 → Int32 → Int32 → AH → RX Int32) (x0 : Nat) (x1 : Int32) (x3 : Int32) (x4 : Int32) (x5 : Int32) (h : AH) : RX Int32 :=
  f_X11_kindOf_J75 k7 x0 x1 x3 x4 x5 1 h
def f_X11_kindOf_J74 (k7 : Nat → Int32 → Int32 → Int32 → Int32 → AH → RX Int32) (x0 : Nat) (x1 : Int32) (x3 : Int32) (x4 : Int32) (x5 : Int32) (h : AH) : RX Int32 :=
  f_X11_kindOf_J75 k7 x0 x1 x3 x4 x5 0 h
def f_X11_kindOf_J29 (k7 : Nat → Int32 → Int32 → Int32 → Int32 → AH → RX Int32) (x0 : Nat) (x1 : Int32) (x2 : Int32) (x3 : Int32) (x4 : Int32) (s0 : Int32) (h : AH) : RX Int32 :=
  (if x2 = 0 then (gR h (some x0) 11 12 (fun r5 => (aI h r5 13 x4 (fun v6 => (if v6 = 0 then f_X11_kindOf_J74 k7 x0 x1 x3 x4 s0 h else (if s0 = 0 then (cV h (some x0) 11 (fun b => bnd (f_X11_areAlike h b x4 x1) (fun v7 h8 => (if v7 = 0 then f_X11_kindOf_J74 k7 x0 x1 x3 x4 s0 h8 else (cV h8 (some x0) 11 (fun b => bnd (f_X11_isPlainAlike h8 b x4 x1) (fun v9 h10 => (if v9 = 0 then f_X11_kindOf_J70 k7 x0 x1 x3 x4 s0 h10 else f_X11_kindOf_J74 k7 x0 x1 x3 x4 s0 h10)))))))) else f_X11_kindOf_J74 k7 x0 x1 x3 x4 s0 h)))))) else f_X11_kindOf_J70 k7 x0 x1 x3 x4 s0 h)
def f_X11_kindOf_L7 (k123 : Nat → Int32 → Int32 → Int32 → AH → RX Int32) : Nat → Nat → Int32 → Int32 → Int32 → Int32 → AH → RX Int32
  | 0, _, _, _, _, _, _ => none
  | n + 1, x0, x1, x2, x3, x4, h => (if 36 ≤ x4 then k123 x0 x1 x2 x3 h else (if 3 = 0 then none else (if 3 = 0 then none else (if (x4 / 3) = (x1 / 3) then f_X11_kindOf_J29 (f_X11_kindOf_L7 k123 n) x0 x1 x2 x3 x4 1 h else f_X11_kindOf_J29 (f_X11_kindOf_L7 k123 n) x0 x1 x2 x3 x4 0 h))))
def f_X11_kindOf_J123  (x0 : Nat) (x1 : Int32) (x2 : Int32) (x3 : Int32) (h : AH) : RX Int32 :=
  (cV h (some x0) 11 (fun b => bnd (f_X11_isPlainFold h b x1) (fun v11 h12 => (if v11 = 0 then (if x2 = 0 then rI 1 h12 else rI 3 h12) else (if x3 = 0 then rI 0 h12 else rI 2 h12)))))
def f_X11_kindOf (h : AH) (a0 : Nat) (p1 : Int32) : RX Int32 :=
  f_X11_kindOf_L7 f_X11_kindOf_J123 FU a0 p1 0 0 0 h
def f_X11_kind (h : AH) (a0 : Nat) (p1 : Int32) (p2 : Int32) : RX Int32 :=
  (pI h (some a0) 11 0 0 (fun h1 => (bnd (f_X11_isSlot h1 p1 p2) (fun v2 h3 => (if v2 = 0 then rI (-1000001) h3 else (gR h3 (some a0) 11 12 (fun r4 => (aI h3 r4 13 ((3 * p1) + p2) (fun v5 => (if v5 = 0 then rI (-1000002) h3 else (cV h3 (some a0) 11 (fun b => bnd (f_X11_kindOf h3 b ((3 * p1) + p2)) (fun v6 h7 => rI v6 h7)))))))))))))
def f_X11_as_J82  (x0 : Nat) (x4 : Int32) (h : AH) : RX Int32 :=
  (gR h (some x0) 11 15 (fun r11 => (aI h r11 12 x4 (fun v12 => rI v12 h))))
def f_X11_as_J92  (x0 : Nat) (h : AH) : RX Int32 :=
  (cV h (some x0) 11 (fun b => bnd (f_X11_found h b 3) (fun v13 h14 => rI v13 h14)))
def f_X11_as (h : AH) (a0 : Nat) (p1 : Int32) (p2 : Int32) (p3 : Int32) : RX Int32 :=
  (pI h (some a0) 11 0 0 (fun h1 => (bnd (f_X11_isSlot h1 p1 p2) (fun v2 h3 => (if v2 = 0 then rI (-1000001) h3 else (bnd (f_X11_in h3 (Int32.toInt64 p3) 0 3) (fun v4 h5 => (if v4 = 0 then rI (-1000001) h5 else (gR h5 (some a0) 11 12 (fun r6 => (aI h5 r6 13 ((3 * p1) + p2) (fun v7 => (if v7 = 0 then rI (-1000002) h5 else (pI h5 (some a0) 11 1 0 (fun h8 => (cV h8 (some a0) 11 (fun b => bnd (f_X11_kindOf h8 b ((3 * p1) + p2)) (fun v9 h10 => (if p3 = 0 then f_X11_as_J82 a0 ((3 * p1) + p2) h10 else (if v9 = p3 then f_X11_as_J82 a0 ((3 * p1) + p2) h10 else (if p3 = 1 then (if v9 = 3 then f_X11_as_J82 a0 ((3 * p1) + p2) h10 else f_X11_as_J92 a0 h10) else f_X11_as_J92 a0 h10)))))))))))))))))))))
def f_X11_began (h : AH) (a0 : Nat) (p1 : Int32) : RX Unit :=
  (gI h (some a0) 11 50 (fun v1 => (if 16 ≤ v1 then rV h else (gR h (some a0) 11 49 (fun r2 => (gI h (some a0) 11 50 (fun v3 => (sI h r2 12 v3 p1 (fun h4 => (gI h4 (some a0) 11 50 (fun v5 => (pI h4 (some a0) 11 50 (v5 + 1) (fun h6 => rV h6)))))))))))))
def f_X11_marked_J30  (x0 : Nat) (x1 : Int32) (x2 : Int32) (h : AH) : RX Int32 :=
  (cV h (some x0) 11 (fun b => bnd (f_X11_began h b 20) (fun u3 h4 => (if 3 = 0 then none else (if x2 = 1 then rI ((x1 / 3) + 100) h4 else (if x2 = 3 then rI ((x1 / 3) + 100) h4 else (if x2 = 2 then (if 3 = 0 then none else rI ((x1 / 3) + (10 * (x1 - x1 / 3 * 3))) h4) else rI ((x1 / 3) + 0) h4)))))))
def f_X11_marked_J10  (x0 : Nat) (x1 : Int32) (x2 : Int32) (h : AH) : RX Int32 :=
  (cV h (some x0) 11 (fun b => bnd (f_X11_began h b 21) (fun u1 h2 => f_X11_marked_J30 x0 x1 x2 h2)))
def f_X11_marked (h : AH) (a0 : Nat) (p1 : Int32) (p2 : Int32) : RX Int32 :=
  (if p2 = 1 then f_X11_marked_J10 a0 p1 p2 h else (if p2 = 3 then f_X11_marked_J10 a0 p1 p2 h else (if p2 = 2 then (cV h (some a0) 11 (fun b => bnd (f_X11_began h b 22) (fun u5 h6 => f_X11_marked_J30 a0 p1 p2 h6))) else f_X11_marked_J30 a0 p1 p2 h)))
def f_X11_sized_J41  (x0 : Nat) (x1 : Int32) (x2 : Int32) (h : AH) : RX Int32 :=
  (cV h (some x0) 11 (fun b => bnd (f_X11_began h b 10) (fun u3 h4 => (gR h4 (some x0) 11 15 (fun r5 => (aI h4 r5 12 x1 (fun v6 => (if x2 = 0 then rI v6 h4 else (if x2 = 1 then rI (v6 + 1) h4 else (if x2 = 2 then rI (2 * v6) h4 else (cV h4 (some x0) 11 (fun b => bnd (f_X11_marked h4 b x1 x2) (fun v7 h8 => rI ((v6 + 1) + v7) h8)))))))))))))
def f_X11_sized_J21  (x0 : Nat) (x1 : Int32) (x2 : Int32) (h : AH) : RX Int32 :=
  (cV h (some x0) 11 (fun b => bnd (f_X11_began h b 11) (fun u1 h2 => f_X11_sized_J41 x0 x1 x2 h2)))
def f_X11_sized_J11  (x0 : Nat) (x1 : Int32) (x2 : Int32) (h : AH) : RX Int32 :=
  (if x2 = 1 then f_X11_sized_J21 x0 x1 x2 h else (if x2 = 3 then f_X11_sized_J21 x0 x1 x2 h else (if x2 = 2 then (cV h (some x0) 11 (fun b => bnd (f_X11_began h b 12) (fun u9 h10 => f_X11_sized_J41 x0 x1 x2 h10))) else f_X11_sized_J41 x0 x1 x2 h)))
def f_X11_sized (h : AH) (a0 : Nat) (p1 : Int32) (p2 : Int32) : RX Int32 :=
  (if p2 = 3 then (cV h (some a0) 11 (fun b => bnd (f_X11_began h b 13) (fun u11 h12 => f_X11_sized_J11 a0 p1 p2 h12))) else f_X11_sized_J11 a0 p1 p2 h)
def f_X11_ask (h : AH) (a0 : Nat) (p1 : Int32) (p2 : Int32) (p3 : Int32) : RX Int32 :=
  (pI h (some a0) 11 0 0 (fun h1 => (bnd (f_X11_isSlot h1 p1 p2) (fun v2 h3 => (if v2 = 0 then rI (-1000001) h3 else (bnd (f_X11_in h3 (Int32.toInt64 p3) 0 1) (fun v4 h5 => (if v4 = 0 then rI (-1000001) h5 else (pI h5 (some a0) 11 50 0 (fun h6 => (gR h6 (some a0) 11 12 (fun r7 => (aI h6 r7 13 ((3 * p1) + p2) (fun v8 => (if v8 = 0 then rI (-1000002) h6 else (cV h6 (some a0) 11 (fun b => bnd (f_X11_kindOf h6 b ((3 * p1) + p2)) (fun v9 h10 => (if p3 = 0 then (cV h10 (some a0) 11 (fun b => bnd (f_X11_sized h10 b ((3 * p1) + p2) v9) (fun v13 h14 => rI v13 h14))) else (cV h10 (some a0) 11 (fun b => bnd (f_X11_marked h10 b ((3 * p1) + p2) v9) (fun v11 h12 => rI v11 h12))))))))))))))))))))))
def f_X11_trace (h : AH) (a0 : Nat) (p1 : Int32) : RX Int32 :=
  (pI h (some a0) 11 0 0 (fun h1 => (gI h1 (some a0) 11 50 (fun v2 => (bnd (f_X11_in h1 (Int32.toInt64 p1) 0 (Int32.toInt64 (v2 - 1))) (fun v3 h4 => (if v3 = 0 then rI (-1000000) h4 else (gR h4 (some a0) 11 49 (fun r5 => (aI h4 r5 12 p1 (fun v6 => rI v6 h4)))))))))))
def f_X11_count_L54  : Nat → Nat → Int32 → Int32 → AH → RX Int32
  | 0, _, _, _, _ => none
  | n + 1, x0, x2, x3, h => (if 8 ≤ x3 then rI x2 h else (gR h (some x0) 11 3 (fun r2 => (aI h r2 12 x3 (fun v3 => (if v3 < 0 then f_X11_count_L54 n x0 (x2 + 0) (x3 + 1) h else f_X11_count_L54 n x0 (x2 + 1) (x3 + 1) h))))))
def f_X11_count_L92  : Nat → Nat → Int32 → Int32 → Int32 → AH → RX Int32
  | 0, _, _, _, _, _ => none
  | n + 1, x0, x1, x2, x3, h => (if (36 * x1) ≤ x3 then rI x2 h else (gR h (some x0) 11 12 (fun r4 => (aI h r4 13 x3 (fun v5 => (if v5 = 0 then f_X11_count_L92 n x0 x1 (x2 + 0) (x3 + 1) h else f_X11_count_L92 n x0 x1 (x2 + 1) (x3 + 1) h))))))
def f_X11_count_J85  (x0 : Nat) (x1 : Int32) (x2 : Int32) (h : AH) : RX Int32 :=
  f_X11_count_L92 FU x0 x1 x2 (36 * (x1 - 1)) h
def f_X11_count_L132  : Nat → Nat → Int32 → Int32 → AH → RX Int32
  | 0, _, _, _, _ => none
  | n + 1, x0, x2, x3, h => (gI h (some x0) 11 37 (fun v7 => (if v7 ≤ x3 then rI x2 h else (gR h (some x0) 11 42 (fun r8 => (aI h r8 13 x3 (fun v9 => (if v9 = 0 then f_X11_count_L132 n x0 (x2 + 1) (x3 + 1) h else f_X11_count_L132 n x0 (x2 + 0) (x3 + 1) h))))))))
def f_X11_count (h : AH) (a0 : Nat) (p1 : Int32) : RX Int32 :=
  (pI h (some a0) 11 0 0 (fun h1 => (if p1 = 0 then f_X11_count_L54 FU a0 0 0 h1 else (if p1 = 1 then f_X11_count_J85 a0 p1 0 h1 else (if p1 = 2 then f_X11_count_J85 a0 p1 0 h1 else (if p1 = 3 then (gI h1 (some a0) 11 37 (fun v6 => rI v6 h1)) else (if p1 = 4 then f_X11_count_L132 FU a0 0 0 h1 else (if p1 = 5 then (cV h1 (some a0) 11 (fun b => bnd (f_X11_findGroups h1 b) (fun u10 h11 => (gI h11 (some a0) 11 24 (fun v12 => rI v12 h11))))) else (if p1 = 6 then (gI h1 (some a0) 11 2 (fun v13 => rI v13 h1)) else rI (-1000001) h1)))))))))
def f_X11_status (h : AH) (a0 : Nat) : RX Int32 :=
  (pI h (some a0) 11 0 0 (fun h1 => (gI h1 (some a0) 11 1 (fun v2 => rI v2 h1))))
