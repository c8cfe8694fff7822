set_option maxHeartbeats 4000000 in
set_option maxRecDepth 100000 in
theorem c_X0_init (l : Launch) (D : va_G) (cy : Nat → ClassId) (h : AH) (a0 : Nat) (p1 : Option Nat) (p2 : Option Nat) : MX rvV l yX0_init (Cond.code yX0_init cX0_init 3 none :: LW) 1 12 D cy h [va_rf (some a0), va_rf p1, va_rf p2] (f_X0_init h a0 p1 p2) := by
  refine MX.of (lv := [(0, va_rf (some a0)), (1, va_rf p1), (2, va_rf p2)]) (by decide) (by cases p1 <;> cases p2 <;> exact Nat.le_of_ble_eq_true rfl) (by cases p1 <;> cases p2 <;> rfl) (fun C hC _ => ?_)
  unfold f_X0_init
  refine x_aload_n (p' := 1) hC 0 (dAt dd_X0_init 0 rfl) rfl rfl rfl ?_
  refine x_objInit (p' := 4) hC k_391 k_23 k_objcode ⟨by decide, (Nat.le_of_ble_eq_true rfl)⟩ (dAt dd_X0_init 1 rfl) rfl ?_
  refine x_aload_n (p' := 5) hC 0 (dAt dd_X0_init 2 rfl) rfl rfl rfl ?_
  refine x_aload_n (p' := 6) hC 1 (dAt dd_X0_init 3 rfl) rfl rfl rfl ?_
  refine x_putR (p' := 9) hC fk_RX0_7 tk_RX0 rfl (Or.inr ⟨_, rfl⟩) (Or.inr ⟨rfl, rfl, rfl⟩) (dAt dd_X0_init 4 rfl) rfl (fun h1 => ?_)
  refine x_aload_n (p' := 10) hC 0 (dAt dd_X0_init 5 rfl) rfl rfl rfl ?_
  refine x_aload_n (p' := 11) hC 2 (dAt dd_X0_init 6 rfl) rfl rfl rfl ?_
  refine x_putR (p' := 14) hC fk_RX0_13 tk_RX0 rfl (Or.inr ⟨_, rfl⟩) (Or.inr ⟨rfl, rfl, rfl⟩) (dAt dd_X0_init 7 rfl) rfl (fun h2 => ?_)
  exact x_return hC (dAt dd_X0_init 8 rfl)
set_option maxHeartbeats 4000000 in
set_option maxRecDepth 100000 in
theorem c_X1_init (l : Launch) (D : va_G) (cy : Nat → ClassId) (h : AH) (a0 : Nat) : MX rvV l yX1_init (Cond.code yX1_init cX1_init 1 none :: LW) 1 12 D cy h [va_rf (some a0)] (f_X1_init h a0) := by
  refine MX.of (lv := [(0, va_rf (some a0))]) (by decide) (Nat.le_of_ble_eq_true rfl) rfl (fun C hC _ => ?_)
  unfold f_X1_init
  refine x_aload_n (p' := 1) hC 0 (dAt dd_X1_init 0 rfl) rfl rfl rfl ?_
  refine x_objInit (p' := 4) hC k_142 k_23 k_objcode ⟨by decide, (Nat.le_of_ble_eq_true rfl)⟩ (dAt dd_X1_init 1 rfl) rfl ?_
  refine x_aload_n (p' := 5) hC 0 (dAt dd_X1_init 2 rfl) rfl rfl rfl ?_
  refine x_iconst (v := 0) (p' := 6) hC (dAt dd_X1_init 3 rfl) (by decide) rfl ?_
  refine x_putI (p' := 9) hC fk_RX1_9 tk_RX1 rfl rfl (Or.inl rfl) (dAt dd_X1_init 4 rfl) rfl (fun h1 => ?_)
  refine x_aload_n (p' := 10) hC 0 (dAt dd_X1_init 5 rfl) rfl rfl rfl ?_
  refine x_iconst (v := 0) (p' := 11) hC (dAt dd_X1_init 6 rfl) (by decide) rfl ?_
  refine x_putI (p' := 14) hC fk_RX1_15 tk_RX1 rfl rfl (Or.inl rfl) (dAt dd_X1_init 7 rfl) rfl (fun h2 => ?_)
  refine x_aload_n (p' := 15) hC 0 (dAt dd_X1_init 8 rfl) rfl rfl rfl ?_
  refine x_bipush (v := 40) (p' := 17) hC (dAt dd_X1_init 9 rfl) (by decide) rfl ?_
  refine x_newarray 12 0 (p' := 19) hC (Or.inl ⟨rfl, rfl, rfl⟩) k_41 (dAt dd_X1_init 10 rfl) rfl (fun a3 h4 => ?_)
  refine x_putR (p' := 22) hC fk_RX1_18 tk_RX1 rfl (Or.inr ⟨_, rfl⟩) (Or.inr ⟨rfl, rfl, rfl⟩) (dAt dd_X1_init 11 rfl) rfl (fun h5 => ?_)
  refine x_aload_n (p' := 23) hC 0 (dAt dd_X1_init 12 rfl) rfl rfl rfl ?_
  refine x_bipush (v := 40) (p' := 25) hC (dAt dd_X1_init 13 rfl) (by decide) rfl ?_
  refine x_newarray 12 0 (p' := 27) hC (Or.inl ⟨rfl, rfl, rfl⟩) k_41 (dAt dd_X1_init 14 rfl) rfl (fun a6 h7 => ?_)
  refine x_putR (p' := 30) hC fk_RX1_22 tk_RX1 rfl (Or.inr ⟨_, rfl⟩) (Or.inr ⟨rfl, rfl, rfl⟩) (dAt dd_X1_init 15 rfl) rfl (fun h8 => ?_)
  refine x_aload_n (p' := 31) hC 0 (dAt dd_X1_init 16 rfl) rfl rfl rfl ?_
  refine x_bipush (v := 40) (p' := 33) hC (dAt dd_X1_init 17 rfl) (by decide) rfl ?_
  refine x_newarray 12 0 (p' := 35) hC (Or.inl ⟨rfl, rfl, rfl⟩) k_41 (dAt dd_X1_init 18 rfl) rfl (fun a9 h10 => ?_)
  refine x_putR (p' := 38) hC fk_RX1_25 tk_RX1 rfl (Or.inr ⟨_, rfl⟩) (Or.inr ⟨rfl, rfl, rfl⟩) (dAt dd_X1_init 19 rfl) rfl (fun h11 => ?_)
  refine x_aload_n (p' := 39) hC 0 (dAt dd_X1_init 20 rfl) rfl rfl rfl ?_
  refine x_bipush (v := 40) (p' := 41) hC (dAt dd_X1_init 21 rfl) (by decide) rfl ?_
  refine x_newarray 12 0 (p' := 43) hC (Or.inl ⟨rfl, rfl, rfl⟩) k_41 (dAt dd_X1_init 22 rfl) rfl (fun a12 h13 => ?_)
  refine x_putR (p' := 46) hC fk_RX1_28 tk_RX1 rfl (Or.inr ⟨_, rfl⟩) (Or.inr ⟨rfl, rfl, rfl⟩) (dAt dd_X1_init 23 rfl) rfl (fun h14 => ?_)
  refine x_aload_n (p' := 47) hC 0 (dAt dd_X1_init 24 rfl) rfl rfl rfl ?_
  refine x_bipush (v := 40) (p' := 49) hC (dAt dd_X1_init 25 rfl) (by decide) rfl ?_
  refine x_newarray 12 0 (p' := 51) hC (Or.inl ⟨rfl, rfl, rfl⟩) k_41 (dAt dd_X1_init 26 rfl) rfl (fun a15 h16 => ?_)
  refine x_putR (p' := 54) hC fk_RX1_31 tk_RX1 rfl (Or.inr ⟨_, rfl⟩) (Or.inr ⟨rfl, rfl, rfl⟩) (dAt dd_X1_init 27 rfl) rfl (fun h17 => ?_)
  exact x_return hC (dAt dd_X1_init 28 rfl)
set_option maxHeartbeats 4000000 in
set_option maxRecDepth 100000 in
theorem c_X1_clear (l : Launch) (D : va_G) (cy : Nat → ClassId) (h : AH) (a0 : Nat) : MX rvV l yX1_clear (Cond.code yX1_clear cX1_clear 1 none :: LW) 0 0 D cy h [va_rf (some a0)] (f_X1_clear h a0) := by
  refine MX.of (lv := [(0, va_rf (some a0))]) (by decide) (Nat.le_of_ble_eq_true rfl) rfl (fun C hC _ => ?_)
  unfold f_X1_clear
  refine x_aload_n (p' := 1) hC 0 (dAt dd_X1_clear 0 rfl) rfl rfl rfl ?_
  refine x_iconst (v := 0) (p' := 2) hC (dAt dd_X1_clear 1 rfl) (by decide) rfl ?_
  refine x_putI (p' := 5) hC fk_RX1_9 tk_RX1 rfl rfl (Or.inl rfl) (dAt dd_X1_clear 2 rfl) rfl (fun h1 => ?_)
  refine x_aload_n (p' := 6) hC 0 (dAt dd_X1_clear 3 rfl) rfl rfl rfl ?_
  refine x_iconst (v := 0) (p' := 7) hC (dAt dd_X1_clear 4 rfl) (by decide) rfl ?_
  refine x_putI (p' := 10) hC fk_RX1_15 tk_RX1 rfl rfl (Or.inl rfl) (dAt dd_X1_clear 5 rfl) rfl (fun h2 => ?_)
  exact x_return hC (dAt dd_X1_clear 6 rfl)
set_option maxHeartbeats 4000000 in
set_option maxRecDepth 100000 in
theorem c_X1_open (l : Launch) (D : va_G) (cy : Nat → ClassId) (h : AH) (a0 : Nat) (p1 : Int32) (p2 : Int32) : MX rvV l yX1_open (Cond.code yX1_open cX1_open 3 none :: LW) 0 0 D cy h [va_rf (some a0), .int p1, .int p2] (f_X1_open h a0 p1 p2) := by
  refine MX.of (lv := [(0, va_rf (some a0)), (1, .int p1), (2, .int p2)]) (by decide) (Nat.le_of_ble_eq_true rfl) rfl (fun C hC _ => ?_)
  unfold f_X1_open
  refine x_aload_n (p' := 1) hC 0 (dAt dd_X1_open 0 rfl) rfl rfl rfl ?_
  refine x_getI (p' := 4) hC fk_RX1_9 rfl (dAt dd_X1_open 1 rfl) rfl (fun v1 => ?_)
  refine x_bipush (v := 40) (p' := 6) hC (dAt dd_X1_open 2 rfl) (by decide) rfl ?_
  refine x_icmp_ge (tgt := 59) (p' := 9) hC (dAt dd_X1_open 3 rfl) (by decide) rfl ?_ ?_
  · exact x_return hC (dAt dd_X1_open 34 rfl)
  · refine x_aload_n (p' := 10) hC 0 (dAt dd_X1_open 4 rfl) rfl rfl rfl ?_
    refine x_getR (p' := 13) hC fk_RX1_18 rfl (dAt dd_X1_open 5 rfl) rfl (fun r2 => ?_)
    refine x_aload_n (p' := 14) hC 0 (dAt dd_X1_open 6 rfl) rfl rfl rfl ?_
    refine x_getI (p' := 17) hC fk_RX1_9 rfl (dAt dd_X1_open 7 rfl) rfl (fun v3 => ?_)
    refine x_iload_n (p' := 18) hC 1 (dAt dd_X1_open 8 rfl) rfl rfl rfl ?_
    refine x_iastore (p' := 19) hC (dAt dd_X1_open 9 rfl) rfl (fun h4 => ?_)
    refine x_aload_n (p' := 20) hC 0 (dAt dd_X1_open 10 rfl) rfl rfl rfl ?_
    refine x_getR (p' := 23) hC fk_RX1_22 rfl (dAt dd_X1_open 11 rfl) rfl (fun r5 => ?_)
    refine x_aload_n (p' := 24) hC 0 (dAt dd_X1_open 12 rfl) rfl rfl rfl ?_
    refine x_getI (p' := 27) hC fk_RX1_9 rfl (dAt dd_X1_open 13 rfl) rfl (fun v6 => ?_)
    refine x_iconst (v := 0) (p' := 28) hC (dAt dd_X1_open 14 rfl) (by decide) rfl ?_
    refine x_iastore (p' := 29) hC (dAt dd_X1_open 15 rfl) rfl (fun h7 => ?_)
    refine x_aload_n (p' := 30) hC 0 (dAt dd_X1_open 16 rfl) rfl rfl rfl ?_
    refine x_getR (p' := 33) hC fk_RX1_25 rfl (dAt dd_X1_open 17 rfl) rfl (fun r8 => ?_)
    refine x_aload_n (p' := 34) hC 0 (dAt dd_X1_open 18 rfl) rfl rfl rfl ?_
    refine x_getI (p' := 37) hC fk_RX1_9 rfl (dAt dd_X1_open 19 rfl) rfl (fun v9 => ?_)
    refine x_iload_n (p' := 38) hC 2 (dAt dd_X1_open 20 rfl) rfl rfl rfl ?_
    refine x_iastore (p' := 39) hC (dAt dd_X1_open 21 rfl) rfl (fun h10 => ?_)
    refine x_aload_n (p' := 40) hC 0 (dAt dd_X1_open 22 rfl) rfl rfl rfl ?_
    refine x_getR (p' := 43) hC fk_RX1_28 rfl (dAt dd_X1_open 23 rfl) rfl (fun r11 => ?_)
    refine x_aload_n (p' := 44) hC 0 (dAt dd_X1_open 24 rfl) rfl rfl rfl ?_
    refine x_getI (p' := 47) hC fk_RX1_9 rfl (dAt dd_X1_open 25 rfl) rfl (fun v12 => ?_)
    refine x_iconst (v := 0) (p' := 48) hC (dAt dd_X1_open 26 rfl) (by decide) rfl ?_
    refine x_iastore (p' := 49) hC (dAt dd_X1_open 27 rfl) rfl (fun h13 => ?_)
    refine x_aload_n (p' := 50) hC 0 (dAt dd_X1_open 28 rfl) rfl rfl rfl ?_
    refine x_dup (p' := 51) hC (dAt dd_X1_open 29 rfl) (x_cat _) rfl ?_
    refine x_getI (p' := 54) hC fk_RX1_9 rfl (dAt dd_X1_open 30 rfl) rfl (fun v14 => ?_)
    refine x_iconst (v := 1) (p' := 55) hC (dAt dd_X1_open 31 rfl) (by decide) rfl ?_
    refine x_iadd (p' := 56) hC (dAt dd_X1_open 32 rfl) rfl ?_
    refine x_putI (p' := 59) hC fk_RX1_9 tk_RX1 rfl rfl (Or.inl rfl) (dAt dd_X1_open 33 rfl) rfl (fun h15 => ?_)
    exact x_return hC (dAt dd_X1_open 34 rfl)
set_option maxHeartbeats 4000000 in
set_option maxRecDepth 100000 in
theorem t_X1_addStep_J39 {C : CT} (hC : OKC C yX1_addStep cX1_addStep 2 none 0 0)   : ∀ (x0 : Nat) (h : AH), WX rvV C 39 [(0, va_rf (some x0))] [] h (f_X1_addStep_J39 x0 h) := by
  intro x0 h
  unfold f_X1_addStep_J39
  refine x_aload_n (p' := 40) hC 0 (dAt dd_X1_addStep 23 rfl) rfl rfl rfl ?_
  refine x_getI (p' := 43) hC fk_RX1_9 rfl (dAt dd_X1_addStep 24 rfl) rfl (fun v4 => ?_)
  refine x_if_le (tgt := 61) (p' := 46) hC (dAt dd_X1_addStep 25 rfl) (by decide) rfl ?_ ?_
  · exact x_return hC (dAt dd_X1_addStep 37 rfl)
  · refine x_aload_n (p' := 47) hC 0 (dAt dd_X1_addStep 26 rfl) rfl rfl rfl ?_
    refine x_getR (p' := 50) hC fk_RX1_28 rfl (dAt dd_X1_addStep 27 rfl) rfl (fun r5 => ?_)
    refine x_aload_n (p' := 51) hC 0 (dAt dd_X1_addStep 28 rfl) rfl rfl rfl ?_
    refine x_getI (p' := 54) hC fk_RX1_9 rfl (dAt dd_X1_addStep 29 rfl) rfl (fun v6 => ?_)
    refine x_iconst (v := 1) (p' := 55) hC (dAt dd_X1_addStep 30 rfl) (by decide) rfl ?_
    refine x_isub (p' := 56) hC (dAt dd_X1_addStep 31 rfl) rfl ?_
    refine x_dup2 (p' := 57) hC (dAt dd_X1_addStep 32 rfl) rfl (x_cat _) rfl ?_
    refine x_iaload (p' := 58) hC (dAt dd_X1_addStep 33 rfl) rfl (fun v7 => ?_)
    refine x_iconst (v := 1) (p' := 59) hC (dAt dd_X1_addStep 34 rfl) (by decide) rfl ?_
    refine x_iadd (p' := 60) hC (dAt dd_X1_addStep 35 rfl) rfl ?_
    refine x_iastore (p' := 61) hC (dAt dd_X1_addStep 36 rfl) rfl (fun h8 => ?_)
    exact x_return hC (dAt dd_X1_addStep 37 rfl)
set_option maxHeartbeats 4000000 in
set_option maxRecDepth 100000 in
theorem c_X1_addStep (l : Launch) (D : va_G) (cy : Nat → ClassId) (h : AH) (a0 : Nat) (p1 : Int32) : MX rvV l yX1_addStep (Cond.code yX1_addStep cX1_addStep 2 none :: LW) 0 0 D cy h [va_rf (some a0), .int p1] (f_X1_addStep h a0 p1) := by
  refine MX.of (lv := [(0, va_rf (some a0)), (1, .int p1)]) (by decide) (Nat.le_of_ble_eq_true rfl) rfl (fun C hC _ => ?_)
  unfold f_X1_addStep
  refine x_aload_n (p' := 1) hC 0 (dAt dd_X1_addStep 0 rfl) rfl rfl rfl ?_
  refine x_dup (p' := 2) hC (dAt dd_X1_addStep 1 rfl) (x_cat _) rfl ?_
  refine x_getI (p' := 5) hC fk_RX1_15 rfl (dAt dd_X1_addStep 2 rfl) rfl (fun v1 => ?_)
  refine x_iconst (v := 1) (p' := 6) hC (dAt dd_X1_addStep 3 rfl) (by decide) rfl ?_
  refine x_iadd (p' := 7) hC (dAt dd_X1_addStep 4 rfl) rfl ?_
  refine x_putI (p' := 10) hC fk_RX1_15 tk_RX1 rfl rfl (Or.inl rfl) (dAt dd_X1_addStep 5 rfl) rfl (fun h2 => ?_)
  refine x_aload_n (p' := 11) hC 0 (dAt dd_X1_addStep 6 rfl) rfl rfl rfl ?_
  refine x_getI (p' := 14) hC fk_RX1_9 rfl (dAt dd_X1_addStep 7 rfl) rfl (fun v3 => ?_)
  refine x_if_le (tgt := 39) (p' := 17) hC (dAt dd_X1_addStep 8 rfl) (by decide) rfl ?_ ?_
  · refine x_sub [0] rfl ?_
    exact t_X1_addStep_J39 hC a0 h2
  · refine x_iload_n (p' := 18) hC 1 (dAt dd_X1_addStep 9 rfl) rfl rfl rfl ?_
    refine x_if_eq (tgt := 39) (p' := 21) hC (dAt dd_X1_addStep 10 rfl) (by decide) rfl ?_ ?_
    · refine x_sub [0] rfl ?_
      exact t_X1_addStep_J39 hC a0 h2
    · refine x_aload_n (p' := 22) hC 0 (dAt dd_X1_addStep 11 rfl) rfl rfl rfl ?_
      refine x_getR (p' := 25) hC fk_RX1_22 rfl (dAt dd_X1_addStep 12 rfl) rfl (fun r9 => ?_)
      refine x_aload_n (p' := 26) hC 0 (dAt dd_X1_addStep 13 rfl) rfl rfl rfl ?_
      refine x_getI (p' := 29) hC fk_RX1_9 rfl (dAt dd_X1_addStep 14 rfl) rfl (fun v10 => ?_)
      refine x_iconst (v := 1) (p' := 30) hC (dAt dd_X1_addStep 15 rfl) (by decide) rfl ?_
      refine x_isub (p' := 31) hC (dAt dd_X1_addStep 16 rfl) rfl ?_
      refine x_dup2 (p' := 32) hC (dAt dd_X1_addStep 17 rfl) rfl (x_cat _) rfl ?_
      refine x_iaload (p' := 33) hC (dAt dd_X1_addStep 18 rfl) rfl (fun v11 => ?_)
      refine x_iconst (v := 1) (p' := 34) hC (dAt dd_X1_addStep 19 rfl) (by decide) rfl ?_
      refine x_iadd (p' := 35) hC (dAt dd_X1_addStep 20 rfl) rfl ?_
      refine x_iastore (p' := 36) hC (dAt dd_X1_addStep 21 rfl) rfl (fun h12 => ?_)
      refine x_goto (tgt := 61) hC (dAt dd_X1_addStep 22 rfl) (by decide) ?_
      exact x_return hC (dAt dd_X1_addStep 37 rfl)
set_option maxHeartbeats 4000000 in
set_option maxRecDepth 100000 in
theorem c_X1_isMeant (l : Launch) (D : va_G) (cy : Nat → ClassId) (h : AH) (a0 : Nat) (p1 : Int32) (p2 : Int32) (p3 : Int32) : MX rvI l yX1_isMeant (Cond.code yX1_isMeant cX1_isMeant 4 (some .boolean) :: LW) 0 0 D cy h [va_rf (some a0), .int p1, .int p2, .int p3] (f_X1_isMeant h a0 p1 p2 p3) := by
  refine MX.of (lv := [(0, va_rf (some a0)), (1, .int p1), (2, .int p2), (3, .int p3)]) (by decide) (Nat.le_of_ble_eq_true rfl) rfl (fun C hC _ => ?_)
  unfold f_X1_isMeant
  refine x_iload_n (p' := 1) hC 2 (dAt dd_X1_isMeant 0 rfl) rfl rfl rfl ?_
  refine x_iconst (v := (-1)) (p' := 2) hC (dAt dd_X1_isMeant 1 rfl) (by decide) rfl ?_
  refine x_icmp_ne (tgt := 23) (p' := 5) hC (dAt dd_X1_isMeant 2 rfl) (by decide) rfl ?_ ?_
  · refine x_iload_n (p' := 24) hC 1 (dAt dd_X1_isMeant 13 rfl) rfl rfl rfl ?_
    refine x_iload_n (p' := 25) hC 2 (dAt dd_X1_isMeant 14 rfl) rfl rfl rfl ?_
    refine x_icmp_ne (tgt := 32) (p' := 28) hC (dAt dd_X1_isMeant 15 rfl) (by decide) rfl ?_ ?_
    · refine x_iconst (v := 0) (p' := 33) hC (dAt dd_X1_isMeant 18 rfl) (by decide) rfl ?_
      exact x_zreturn hC (dAt dd_X1_isMeant 19 rfl)
    · refine x_iconst (v := 1) (p' := 29) hC (dAt dd_X1_isMeant 16 rfl) (by decide) rfl ?_
      refine x_goto (tgt := 33) hC (dAt dd_X1_isMeant 17 rfl) (by decide) ?_
      exact x_zreturn hC (dAt dd_X1_isMeant 19 rfl)
  · refine x_aload_n (p' := 6) hC 0 (dAt dd_X1_isMeant 3 rfl) rfl rfl rfl ?_
    refine x_getR (p' := 9) hC fk_RX1_31 rfl (dAt dd_X1_isMeant 4 rfl) rfl (fun r1 => ?_)
    refine x_iload_n (p' := 10) hC 1 (dAt dd_X1_isMeant 5 rfl) rfl rfl rfl ?_
    refine x_iaload (p' := 11) hC (dAt dd_X1_isMeant 6 rfl) rfl (fun v2 => ?_)
    refine x_iload_n (p' := 12) hC 3 (dAt dd_X1_isMeant 7 rfl) rfl rfl rfl ?_
    refine x_icmp_ne (tgt := 19) (p' := 15) hC (dAt dd_X1_isMeant 8 rfl) (by decide) rfl ?_ ?_
    · refine x_iconst (v := 0) (p' := 20) hC (dAt dd_X1_isMeant 11 rfl) (by decide) rfl ?_
      refine x_goto (tgt := 33) hC (dAt dd_X1_isMeant 12 rfl) (by decide) ?_
      exact x_zreturn hC (dAt dd_X1_isMeant 19 rfl)
    · refine x_iconst (v := 1) (p' := 16) hC (dAt dd_X1_isMeant 9 rfl) (by decide) rfl ?_
      refine x_goto (tgt := 33) hC (dAt dd_X1_isMeant 10 rfl) (by decide) ?_
      exact x_zreturn hC (dAt dd_X1_isMeant 19 rfl)
set_option maxHeartbeats 4000000 in
set_option maxRecDepth 100000 in
theorem t_X1_countOf_L5 {C : CT} (hC : OKC C yX1_countOf cX1_countOf 5 (some .int) 1 23)   : ∀ (n : Nat) (x0 : Nat) (x1 : Int32) (x2 : Int32) (x3 : Int32) (x4 : Int32) (h : AH), WX rvI C 5 [(0, va_rf (some x0)), (1, .int x1), (2, .int x2), (3, .int x3), (4, .int x4)] [] h (f_X1_countOf_L5 n x0 x1 x2 x3 x4 h) := by
  intro n
  induction n with
  | zero => intro _ _ _ _ _ _; exact x_none
  | succ n ih =>
    intro x0 x1 x2 x3 x4 h
    rw [f_X1_countOf_L5]
    refine x_iload (p' := 7) hC 4 (dAt dd_X1_countOf 4 rfl) rfl rfl ?_
    refine x_aload_n (p' := 8) hC 0 (dAt dd_X1_countOf 5 rfl) rfl rfl rfl ?_
    refine x_getI (p' := 11) hC fk_RX1_9 rfl (dAt dd_X1_countOf 6 rfl) rfl (fun v1 => ?_)
    refine x_icmp_ge (tgt := 34) (p' := 14) hC (dAt dd_X1_countOf 7 rfl) (by decide) rfl ?_ ?_
    · refine x_iload_n (p' := 35) hC 3 (dAt dd_X1_countOf 17 rfl) rfl rfl rfl ?_
      exact x_ireturn hC (dAt dd_X1_countOf 18 rfl)
    · refine x_aload_n (p' := 15) hC 0 (dAt dd_X1_countOf 8 rfl) rfl rfl rfl ?_
      refine x_iload (p' := 17) hC 4 (dAt dd_X1_countOf 9 rfl) rfl rfl ?_
      refine x_iload_n (p' := 18) hC 1 (dAt dd_X1_countOf 10 rfl) rfl rfl rfl ?_
      refine x_iload_n (p' := 19) hC 2 (dAt dd_X1_countOf 11 rfl) rfl rfl rfl ?_
      refine x_callVI (As := [.int x4, .int x1, .int x2]) (z := fun b => f_X1_isMeant h b x4 x1 x2) (p' := 22) hC (fun b => c_X1_isMeant _ _ _ h b x4 x1 x2) k_603 k_538 k_539 k_8 k_540 hd_X1_isMeant ⟨by decide, by decide⟩ (ci := 1) rfl rfl (by decide) rfl (Nat.le_of_ble_eq_true rfl) rfl (dAt dd_X1_countOf 12 rfl) rfl (fun v2 h3 => ?_)
      refine x_if_eq (tgt := 28) (p' := 25) hC (dAt dd_X1_countOf 13 rfl) (by decide) rfl ?_ ?_
      · refine x_iinc (w := (x4 + 1)) (lv' := [(4, .int (x4 + 1)), (0, va_rf (some x0)), (1, .int x1), (2, .int x2), (3, .int x3)]) (p' := 31) hC 4 (dAt dd_X1_countOf 15 rfl) rfl rfl (by decide) rfl rfl ?_
        refine x_goto (tgt := 5) hC (dAt dd_X1_countOf 16 rfl) (by decide) ?_
        refine x_sub [1, 2, 3, 4, 0] rfl ?_
        exact ih x0 x1 x2 x3 (x4 + 1) h3
      · refine x_iinc (w := (x3 + 1)) (lv' := [(3, .int (x3 + 1)), (0, va_rf (some x0)), (1, .int x1), (2, .int x2), (4, .int x4)]) (p' := 28) hC 3 (dAt dd_X1_countOf 14 rfl) rfl rfl (by decide) rfl rfl ?_
        refine x_iinc (w := (x4 + 1)) (lv' := [(4, .int (x4 + 1)), (3, .int (x3 + 1)), (0, va_rf (some x0)), (1, .int x1), (2, .int x2)]) (p' := 31) hC 4 (dAt dd_X1_countOf 15 rfl) rfl rfl (by decide) rfl rfl ?_
        refine x_goto (tgt := 5) hC (dAt dd_X1_countOf 16 rfl) (by decide) ?_
        refine x_sub [2, 3, 4, 1, 0] rfl ?_
        exact ih x0 x1 x2 (x3 + 1) (x4 + 1) h3
set_option maxHeartbeats 4000000 in
set_option maxRecDepth 100000 in
theorem c_X1_countOf (l : Launch) (D : va_G) (cy : Nat → ClassId) (h : AH) (a0 : Nat) (p1 : Int32) (p2 : Int32) : MX rvI l yX1_countOf (Cond.code yX1_countOf cX1_countOf 5 (some .int) :: LW) 1 23 D cy h [va_rf (some a0), .int p1, .int p2] (f_X1_countOf h a0 p1 p2) := by
  refine MX.of (lv := [(0, va_rf (some a0)), (1, .int p1), (2, .int p2)]) (by decide) (Nat.le_of_ble_eq_true rfl) rfl (fun C hC _ => ?_)
  unfold f_X1_countOf
  refine x_iconst (v := 0) (p' := 1) hC (dAt dd_X1_countOf 0 rfl) (by decide) rfl ?_
  refine x_istore_n (j := 3) (lv' := [(3, .int 0), (0, va_rf (some a0)), (1, .int p1), (2, .int p2)]) (p' := 2) hC (dAt dd_X1_countOf 1 rfl) rfl (by decide) rfl rfl ?_
  refine x_iconst (v := 0) (p' := 3) hC (dAt dd_X1_countOf 2 rfl) (by decide) rfl ?_
  refine x_istore (lv' := [(4, .int 0), (3, .int 0), (0, va_rf (some a0)), (1, .int p1), (2, .int p2)]) (p' := 5) hC (dAt dd_X1_countOf 3 rfl) (by decide) rfl rfl ?_
  refine x_sub [2, 3, 4, 1, 0] rfl ?_
  exact t_X1_countOf_L5 hC FU a0 p1 p2 0 0 h
set_option maxHeartbeats 4000000 in
set_option maxRecDepth 100000 in
theorem c_X2_init (l : Launch) (D : va_G) (cy : Nat → ClassId) (h : AH) (a0 : Nat) : MX rvV l yX2_init (Cond.code yX2_init cX2_init 1 none :: LW) 1 12 D cy h [va_rf (some a0)] (f_X2_init h a0) := by
  refine MX.of (lv := [(0, va_rf (some a0))]) (by decide) (Nat.le_of_ble_eq_true rfl) rfl (fun C hC _ => ?_)
  unfold f_X2_init
  refine x_aload_n (p' := 1) hC 0 (dAt dd_X2_init 0 rfl) rfl rfl rfl ?_
  refine x_objInit (p' := 4) hC k_34 k_23 k_objcode ⟨by decide, (Nat.le_of_ble_eq_true rfl)⟩ (dAt dd_X2_init 1 rfl) rfl ?_
  refine x_aload_n (p' := 5) hC 0 (dAt dd_X2_init 2 rfl) rfl rfl rfl ?_
  refine x_bipush (v := 61) (p' := 7) hC (dAt dd_X2_init 3 rfl) (by decide) rfl ?_
  refine x_bipush (v := 61) (p' := 9) hC (dAt dd_X2_init 4 rfl) (by decide) rfl ?_
  refine x_multi (p' := 13) hC hC.aoa k_35 k_41 (dAt dd_X2_init 5 rfl) rfl (fun a1 h2 => ?_)
  refine x_putR (p' := 16) hC fk_RX2_11 tk_RX2 rfl (Or.inr ⟨_, rfl⟩) (Or.inr ⟨rfl, rfl, rfl⟩) (dAt dd_X2_init 6 rfl) rfl (fun h3 => ?_)
  exact x_return hC (dAt dd_X2_init 7 rfl)
set_option maxHeartbeats 4000000 in
set_option maxRecDepth 100000 in
theorem t_X2_measure_J47 {C : CT} (hC : OKC C yX2_measure cX2_measure 7 (some .int) 1 16) (k29 : Nat → Option Nat → Option Nat → Int32 → Int32 → Int32 → Int32 → AH → RX Int32) (hk29 : ∀ (x0 : Nat) (x1 : Option Nat) (x2 : Option Nat) (x3 : Int32) (x4 : Int32) (x5 : Int32) (x6 : Int32) (h : AH), WX rvI C 29 [(0, va_rf (some x0)), (1, va_rf x1), (2, va_rf x2), (3, .int x3), (4, .int x4), (5, .int x5), (6, .int x6)] [] h (k29 x0 x1 x2 x3 x4 x5 x6 h)) : ∀ (x0 : Nat) (x1 : Option Nat) (x2 : Option Nat) (x3 : Int32) (x4 : Int32) (x5 : Int32) (x6 : Int32) (h : AH), WX rvI C 47 [(0, va_rf (some x0)), (1, va_rf x1), (2, va_rf x2), (3, .int x3), (4, .int x4), (5, .int x5), (6, .int x6)] [] h (f_X2_measure_J47 k29 x0 x1 x2 x3 x4 x5 x6 h) := by
  intro x0 x1 x2 x3 x4 x5 x6 h
  unfold f_X2_measure_J47
  refine x_aload_n (p' := 48) hC 0 (dAt dd_X2_measure 24 rfl) rfl rfl rfl ?_
  refine x_getR (p' := 51) hC fk_RX2_11 rfl (dAt dd_X2_measure 25 rfl) rfl (fun r3 => ?_)
  refine x_iload (p' := 53) hC 5 (dAt dd_X2_measure 26 rfl) rfl rfl ?_
  refine x_aaload 18 6 (p' := 54) hC rfl (by decide) rfl (dAt dd_X2_measure 27 rfl) rfl (fun r4 => ?_)
  refine x_iload (p' := 56) hC 6 (dAt dd_X2_measure 28 rfl) rfl rfl ?_
  refine x_iload_n (p' := 57) hC 3 (dAt dd_X2_measure 29 rfl) rfl rfl rfl ?_
  refine x_iload (p' := 59) hC 5 (dAt dd_X2_measure 30 rfl) rfl rfl ?_
  refine x_isub (p' := 60) hC (dAt dd_X2_measure 31 rfl) rfl ?_
  refine x_iload (p' := 62) hC 4 (dAt dd_X2_measure 32 rfl) rfl rfl ?_
  refine x_iadd (p' := 63) hC (dAt dd_X2_measure 33 rfl) rfl ?_
  refine x_iload (p' := 65) hC 6 (dAt dd_X2_measure 34 rfl) rfl rfl ?_
  refine x_isub (p' := 66) hC (dAt dd_X2_measure 35 rfl) rfl ?_
  refine x_iastore (p' := 67) hC (dAt dd_X2_measure 36 rfl) rfl (fun h5 => ?_)
  refine x_goto (tgt := 147) hC (dAt dd_X2_measure 37 rfl) (by decide) ?_
  refine x_iinc (w := (x6 + (-1))) (lv' := [(6, .int (x6 + (-1))), (0, va_rf (some x0)), (1, va_rf x1), (2, va_rf x2), (3, .int x3), (4, .int x4), (5, .int x5)]) (p' := 150) hC 6 (dAt dd_X2_measure 87 rfl) rfl rfl (by decide) rfl rfl ?_
  refine x_goto (tgt := 29) hC (dAt dd_X2_measure 88 rfl) (by decide) ?_
  refine x_sub [1, 2, 3, 4, 5, 6, 0] rfl ?_
  exact hk29 x0 x1 x2 x3 x4 x5 (x6 + (-1)) h5
set_option maxHeartbeats 4000000 in
set_option maxRecDepth 100000 in
theorem t_X2_measure_L29 {C : CT} (hC : OKC C yX2_measure cX2_measure 7 (some .int) 1 16) (k153 : Nat → Option Nat → Option Nat → Int32 → Int32 → Int32 → AH → RX Int32) (hk153 : ∀ (x0 : Nat) (x1 : Option Nat) (x2 : Option Nat) (x3 : Int32) (x4 : Int32) (x5 : Int32) (h : AH), WX rvI C 153 [(0, va_rf (some x0)), (1, va_rf x1), (2, va_rf x2), (3, .int x3), (4, .int x4), (5, .int x5)] [] h (k153 x0 x1 x2 x3 x4 x5 h)) : ∀ (n : Nat) (x0 : Nat) (x1 : Option Nat) (x2 : Option Nat) (x3 : Int32) (x4 : Int32) (x5 : Int32) (x6 : Int32) (h : AH), WX rvI C 29 [(0, va_rf (some x0)), (1, va_rf x1), (2, va_rf x2), (3, .int x3), (4, .int x4), (5, .int x5), (6, .int x6)] [] h (f_X2_measure_L29 k153 n x0 x1 x2 x3 x4 x5 x6 h) := by
  intro n
  induction n with
  | zero => intro _ _ _ _ _ _ _ _; exact x_none
  | succ n ih =>
    intro x0 x1 x2 x3 x4 x5 x6 h
    rw [f_X2_measure_L29]
    refine x_iload (p' := 31) hC 6 (dAt dd_X2_measure 16 rfl) rfl rfl ?_
    refine x_if_lt (tgt := 153) (p' := 34) hC (dAt dd_X2_measure 17 rfl) (by decide) rfl ?_ ?_
    · refine x_sub [0, 1, 2, 3, 4, 5] rfl ?_
      exact hk153 x0 x1 x2 x3 x4 x5 h
    · refine x_iload (p' := 36) hC 5 (dAt dd_X2_measure 18 rfl) rfl rfl ?_
      refine x_iload_n (p' := 37) hC 3 (dAt dd_X2_measure 19 rfl) rfl rfl rfl ?_
      refine x_icmp_eq (tgt := 47) (p' := 40) hC (dAt dd_X2_measure 20 rfl) (by decide) rfl ?_ ?_
      · exact t_X2_measure_J47 hC (f_X2_measure_L29 k153 n) ih x0 x1 x2 x3 x4 x5 x6 h
      · refine x_iload (p' := 42) hC 6 (dAt dd_X2_measure 21 rfl) rfl rfl ?_
        refine x_iload (p' := 44) hC 4 (dAt dd_X2_measure 22 rfl) rfl rfl ?_
        refine x_icmp_ne (tgt := 70) (p' := 47) hC (dAt dd_X2_measure 23 rfl) (by decide) rfl ?_ ?_
        · refine x_aload_n (p' := 71) hC 1 (dAt dd_X2_measure 38 rfl) rfl rfl rfl ?_
          refine x_iload (p' := 73) hC 5 (dAt dd_X2_measure 39 rfl) rfl rfl ?_
          refine x_iaload (p' := 74) hC (dAt dd_X2_measure 40 rfl) rfl (fun v6 => ?_)
          refine x_aload_n (p' := 75) hC 2 (dAt dd_X2_measure 41 rfl) rfl rfl rfl ?_
          refine x_iload (p' := 77) hC 6 (dAt dd_X2_measure 42 rfl) rfl rfl ?_
          refine x_iaload (p' := 78) hC (dAt dd_X2_measure 43 rfl) rfl (fun v7 => ?_)
          refine x_icmp_ne (tgt := 108) (p' := 81) hC (dAt dd_X2_measure 44 rfl) (by decide) rfl ?_ ?_
          · refine x_aload_n (p' := 109) hC 0 (dAt dd_X2_measure 62 rfl) rfl rfl rfl ?_
            refine x_getR (p' := 112) hC fk_RX2_11 rfl (dAt dd_X2_measure 63 rfl) rfl (fun r8 => ?_)
            refine x_iload (p' := 114) hC 5 (dAt dd_X2_measure 64 rfl) rfl rfl ?_
            refine x_aaload 18 6 (p' := 115) hC rfl (by decide) rfl (dAt dd_X2_measure 65 rfl) rfl (fun r9 => ?_)
            refine x_iload (p' := 117) hC 6 (dAt dd_X2_measure 66 rfl) rfl rfl ?_
            refine x_iconst (v := 1) (p' := 118) hC (dAt dd_X2_measure 67 rfl) (by decide) rfl ?_
            refine x_aload_n (p' := 119) hC 0 (dAt dd_X2_measure 68 rfl) rfl rfl rfl ?_
            refine x_getR (p' := 122) hC fk_RX2_11 rfl (dAt dd_X2_measure 69 rfl) rfl (fun r10 => ?_)
            refine x_iload (p' := 124) hC 5 (dAt dd_X2_measure 70 rfl) rfl rfl ?_
            refine x_iconst (v := 1) (p' := 125) hC (dAt dd_X2_measure 71 rfl) (by decide) rfl ?_
            refine x_iadd (p' := 126) hC (dAt dd_X2_measure 72 rfl) rfl ?_
            refine x_aaload 18 6 (p' := 127) hC rfl (by decide) rfl (dAt dd_X2_measure 73 rfl) rfl (fun r11 => ?_)
            refine x_iload (p' := 129) hC 6 (dAt dd_X2_measure 74 rfl) rfl rfl ?_
            refine x_iaload (p' := 130) hC (dAt dd_X2_measure 75 rfl) rfl (fun v12 => ?_)
            refine x_aload_n (p' := 131) hC 0 (dAt dd_X2_measure 76 rfl) rfl rfl rfl ?_
            refine x_getR (p' := 134) hC fk_RX2_11 rfl (dAt dd_X2_measure 77 rfl) rfl (fun r13 => ?_)
            refine x_iload (p' := 136) hC 5 (dAt dd_X2_measure 78 rfl) rfl rfl ?_
            refine x_aaload 18 6 (p' := 137) hC rfl (by decide) rfl (dAt dd_X2_measure 79 rfl) rfl (fun r14 => ?_)
            refine x_iload (p' := 139) hC 6 (dAt dd_X2_measure 80 rfl) rfl rfl ?_
            refine x_iconst (v := 1) (p' := 140) hC (dAt dd_X2_measure 81 rfl) (by decide) rfl ?_
            refine x_iadd (p' := 141) hC (dAt dd_X2_measure 82 rfl) rfl ?_
            refine x_iaload (p' := 142) hC (dAt dd_X2_measure 83 rfl) rfl (fun v15 => ?_)
            refine x_mathMin (p' := 145) hC k_466 k_346 k_13 k_mathMin ⟨by decide, (by cases r9 <;> exact Nat.le_of_ble_eq_true rfl)⟩ (dAt dd_X2_measure 84 rfl) rfl ?_
            refine x_iadd (p' := 146) hC (dAt dd_X2_measure 85 rfl) rfl ?_
            refine x_iastore (p' := 147) hC (dAt dd_X2_measure 86 rfl) rfl (fun h16 => ?_)
            refine x_iinc (w := (x6 + (-1))) (lv' := [(6, .int (x6 + (-1))), (0, va_rf (some x0)), (1, va_rf x1), (2, va_rf x2), (3, .int x3), (4, .int x4), (5, .int x5)]) (p' := 150) hC 6 (dAt dd_X2_measure 87 rfl) rfl rfl (by decide) rfl rfl ?_
            refine x_goto (tgt := 29) hC (dAt dd_X2_measure 88 rfl) (by decide) ?_
            refine x_sub [1, 2, 3, 4, 5, 6, 0] rfl ?_
            exact ih x0 x1 x2 x3 x4 x5 (x6 + (-1)) h16
          · refine x_aload_n (p' := 82) hC 0 (dAt dd_X2_measure 45 rfl) rfl rfl rfl ?_
            refine x_getR (p' := 85) hC fk_RX2_11 rfl (dAt dd_X2_measure 46 rfl) rfl (fun r17 => ?_)
            refine x_iload (p' := 87) hC 5 (dAt dd_X2_measure 47 rfl) rfl rfl ?_
            refine x_aaload 18 6 (p' := 88) hC rfl (by decide) rfl (dAt dd_X2_measure 48 rfl) rfl (fun r18 => ?_)
            refine x_iload (p' := 90) hC 6 (dAt dd_X2_measure 49 rfl) rfl rfl ?_
            refine x_aload_n (p' := 91) hC 0 (dAt dd_X2_measure 50 rfl) rfl rfl rfl ?_
            refine x_getR (p' := 94) hC fk_RX2_11 rfl (dAt dd_X2_measure 51 rfl) rfl (fun r19 => ?_)
            refine x_iload (p' := 96) hC 5 (dAt dd_X2_measure 52 rfl) rfl rfl ?_
            refine x_iconst (v := 1) (p' := 97) hC (dAt dd_X2_measure 53 rfl) (by decide) rfl ?_
            refine x_iadd (p' := 98) hC (dAt dd_X2_measure 54 rfl) rfl ?_
            refine x_aaload 18 6 (p' := 99) hC rfl (by decide) rfl (dAt dd_X2_measure 55 rfl) rfl (fun r20 => ?_)
            refine x_iload (p' := 101) hC 6 (dAt dd_X2_measure 56 rfl) rfl rfl ?_
            refine x_iconst (v := 1) (p' := 102) hC (dAt dd_X2_measure 57 rfl) (by decide) rfl ?_
            refine x_iadd (p' := 103) hC (dAt dd_X2_measure 58 rfl) rfl ?_
            refine x_iaload (p' := 104) hC (dAt dd_X2_measure 59 rfl) rfl (fun v21 => ?_)
            refine x_iastore (p' := 105) hC (dAt dd_X2_measure 60 rfl) rfl (fun h22 => ?_)
            refine x_goto (tgt := 147) hC (dAt dd_X2_measure 61 rfl) (by decide) ?_
            refine x_iinc (w := (x6 + (-1))) (lv' := [(6, .int (x6 + (-1))), (0, va_rf (some x0)), (1, va_rf x1), (2, va_rf x2), (3, .int x3), (4, .int x4), (5, .int x5)]) (p' := 150) hC 6 (dAt dd_X2_measure 87 rfl) rfl rfl (by decide) rfl rfl ?_
            refine x_goto (tgt := 29) hC (dAt dd_X2_measure 88 rfl) (by decide) ?_
            refine x_sub [1, 2, 3, 4, 5, 6, 0] rfl ?_
            exact ih x0 x1 x2 x3 x4 x5 (x6 + (-1)) h22
        · exact t_X2_measure_J47 hC (f_X2_measure_L29 k153 n) ih x0 x1 x2 x3 x4 x5 x6 h
set_option maxHeartbeats 4000000 in
set_option maxRecDepth 100000 in
theorem t_X2_measure_J153 {C : CT} (hC : OKC C yX2_measure cX2_measure 7 (some .int) 1 16) (k20 : Nat → Option Nat → Option Nat → Int32 → Int32 → Int32 → AH → RX Int32) (hk20 : ∀ (x0 : Nat) (x1 : Option Nat) (x2 : Option Nat) (x3 : Int32) (x4 : Int32) (x5 : Int32) (h : AH), WX rvI C 20 [(0, va_rf (some x0)), (1, va_rf x1), (2, va_rf x2), (3, .int x3), (4, .int x4), (5, .int x5)] [] h (k20 x0 x1 x2 x3 x4 x5 h)) : ∀ (x0 : Nat) (x1 : Option Nat) (x2 : Option Nat) (x3 : Int32) (x4 : Int32) (x5 : Int32) (h : AH), WX rvI C 153 [(0, va_rf (some x0)), (1, va_rf x1), (2, va_rf x2), (3, .int x3), (4, .int x4), (5, .int x5)] [] h (f_X2_measure_J153 k20 x0 x1 x2 x3 x4 x5 h) := by
  intro x0 x1 x2 x3 x4 x5 h
  unfold f_X2_measure_J153
  refine x_iinc (w := (x5 + (-1))) (lv' := [(5, .int (x5 + (-1))), (0, va_rf (some x0)), (1, va_rf x1), (2, va_rf x2), (3, .int x3), (4, .int x4)]) (p' := 156) hC 5 (dAt dd_X2_measure 89 rfl) rfl rfl (by decide) rfl rfl ?_
  refine x_goto (tgt := 20) hC (dAt dd_X2_measure 90 rfl) (by decide) ?_
  refine x_sub [1, 2, 3, 4, 5, 0] rfl ?_
  exact hk20 x0 x1 x2 x3 x4 (x5 + (-1)) h
set_option maxHeartbeats 4000000 in
set_option maxRecDepth 100000 in
theorem t_X2_measure_L20 {C : CT} (hC : OKC C yX2_measure cX2_measure 7 (some .int) 1 16) (k159 : Nat → AH → RX Int32) (hk159 : ∀ (x0 : Nat) (h : AH), WX rvI C 159 [(0, va_rf (some x0))] [] h (k159 x0 h)) : ∀ (n : Nat) (x0 : Nat) (x1 : Option Nat) (x2 : Option Nat) (x3 : Int32) (x4 : Int32) (x5 : Int32) (h : AH), WX rvI C 20 [(0, va_rf (some x0)), (1, va_rf x1), (2, va_rf x2), (3, .int x3), (4, .int x4), (5, .int x5)] [] h (f_X2_measure_L20 k159 n x0 x1 x2 x3 x4 x5 h) := by
  intro n
  induction n with
  | zero => intro _ _ _ _ _ _ _; exact x_none
  | succ n ih =>
    intro x0 x1 x2 x3 x4 x5 h
    rw [f_X2_measure_L20]
    refine x_iload (p' := 22) hC 5 (dAt dd_X2_measure 12 rfl) rfl rfl ?_
    refine x_if_lt (tgt := 159) (p' := 25) hC (dAt dd_X2_measure 13 rfl) (by decide) rfl ?_ ?_
    · refine x_sub [0] rfl ?_
      exact hk159 x0 h
    · refine x_iload (p' := 27) hC 4 (dAt dd_X2_measure 14 rfl) rfl rfl ?_
      refine x_istore (lv' := [(6, .int x4), (0, va_rf (some x0)), (1, va_rf x1), (2, va_rf x2), (3, .int x3), (4, .int x4), (5, .int x5)]) (p' := 29) hC (dAt dd_X2_measure 15 rfl) (by decide) rfl rfl ?_
      refine x_sub [1, 2, 3, 4, 5, 6, 0] rfl ?_
      exact t_X2_measure_L29 hC (f_X2_measure_J153 (f_X2_measure_L20 k159 n)) (t_X2_measure_J153 hC (f_X2_measure_L20 k159 n) ih) FU x0 x1 x2 x3 x4 x5 x4 h
set_option maxHeartbeats 4000000 in
set_option maxRecDepth 100000 in
theorem t_X2_measure_J159 {C : CT} (hC : OKC C yX2_measure cX2_measure 7 (some .int) 1 16)   : ∀ (x0 : Nat) (h : AH), WX rvI C 159 [(0, va_rf (some x0))] [] h (f_X2_measure_J159 x0 h) := by
  intro x0 h
  unfold f_X2_measure_J159
  refine x_aload_n (p' := 160) hC 0 (dAt dd_X2_measure 91 rfl) rfl rfl rfl ?_
  refine x_getR (p' := 163) hC fk_RX2_11 rfl (dAt dd_X2_measure 92 rfl) rfl (fun r23 => ?_)
  refine x_iconst (v := 0) (p' := 164) hC (dAt dd_X2_measure 93 rfl) (by decide) rfl ?_
  refine x_aaload 18 6 (p' := 165) hC rfl (by decide) rfl (dAt dd_X2_measure 94 rfl) rfl (fun r24 => ?_)
  refine x_iconst (v := 0) (p' := 166) hC (dAt dd_X2_measure 95 rfl) (by decide) rfl ?_
  refine x_iaload (p' := 167) hC (dAt dd_X2_measure 96 rfl) rfl (fun v25 => ?_)
  exact x_ireturn hC (dAt dd_X2_measure 97 rfl)
set_option maxHeartbeats 4000000 in
set_option maxRecDepth 100000 in
theorem c_X2_measure (l : Launch) (D : va_G) (cy : Nat → ClassId) (h : AH) (a0 : Nat) (p1 : Option Nat) (p2 : Option Nat) : MX rvI l yX2_measure (Cond.code yX2_measure cX2_measure 7 (some .int) :: LW) 1 16 D cy h [va_rf (some a0), va_rf p1, va_rf p2] (f_X2_measure h a0 p1 p2) := by
  refine MX.of (lv := [(0, va_rf (some a0)), (1, va_rf p1), (2, va_rf p2)]) (by decide) (by cases p1 <;> cases p2 <;> exact Nat.le_of_ble_eq_true rfl) (by cases p1 <;> cases p2 <;> rfl) (fun C hC _ => ?_)
  unfold f_X2_measure
  refine x_aload_n (p' := 1) hC 1 (dAt dd_X2_measure 0 rfl) rfl rfl rfl ?_
  refine x_arraylength 12 0 (p' := 2) hC rfl (by decide) (dAt dd_X2_measure 1 rfl) rfl (fun v1 => ?_)
  refine x_bipush (v := 60) (p' := 4) hC (dAt dd_X2_measure 2 rfl) (by decide) rfl ?_
  refine x_mathMin (p' := 7) hC k_466 k_346 k_13 k_mathMin ⟨by decide, (Nat.le_of_ble_eq_true rfl)⟩ (dAt dd_X2_measure 3 rfl) rfl ?_
  refine x_istore_n (j := 3) (lv' := [(3, .int (if 60 < v1 then 60 else v1)), (0, va_rf (some a0)), (1, va_rf p1), (2, va_rf p2)]) (p' := 8) hC (dAt dd_X2_measure 4 rfl) rfl (by decide) (by simp [x_cat, show ∀ v : Int32, (Value.int v).category = 1 from fun _ => rfl]) rfl ?_
  refine x_aload_n (p' := 9) hC 3 (dAt dd_X2_measure 5 rfl) rfl rfl rfl ?_
  refine x_arraylength 12 0 (p' := 10) hC rfl (by decide) (dAt dd_X2_measure 6 rfl) rfl (fun v2 => ?_)
  refine x_bipush (v := 60) (p' := 12) hC (dAt dd_X2_measure 7 rfl) (by decide) rfl ?_
  refine x_mathMin (p' := 15) hC k_466 k_346 k_13 k_mathMin ⟨by decide, (Nat.le_of_ble_eq_true rfl)⟩ (dAt dd_X2_measure 8 rfl) rfl ?_
  refine x_istore (lv' := [(4, .int (if 60 < v2 then 60 else v2)), (3, .int (if 60 < v1 then 60 else v1)), (0, va_rf (some a0)), (1, va_rf p1), (2, va_rf p2)]) (p' := 17) hC (dAt dd_X2_measure 9 rfl) (by decide) rfl rfl ?_
  refine x_iload_n (p' := 18) hC 1 (dAt dd_X2_measure 10 rfl) rfl rfl rfl ?_
  refine x_istore (lv' := [(5, .int (if 60 < v1 then 60 else v1)), (4, .int (if 60 < v2 then 60 else v2)), (3, .int (if 60 < v1 then 60 else v1)), (0, va_rf (some a0)), (1, va_rf p1), (2, va_rf p2)]) (p' := 20) hC (dAt dd_X2_measure 11 rfl) (by decide) rfl rfl ?_
  refine x_sub [3, 4, 5, 2, 1, 0] rfl ?_
  exact t_X2_measure_L20 hC f_X2_measure_J159 (t_X2_measure_J159 hC) FU a0 p1 p2 (if 60 < v1 then 60 else v1) (if 60 < v2 then 60 else v2) (if 60 < v1 then 60 else v1) h
set_option maxHeartbeats 4000000 in
set_option maxRecDepth 100000 in
theorem t_X2_walk_J166 {C : CT} (hC : OKC C yX2_walk cX2_walk 10 none 2 42) (k37 : Nat → Option Nat → Option Nat → Option Nat → Int32 → Int32 → Int32 → Int32 → Int32 → Int32 → AH → RX Unit) (hk37 : ∀ (x0 : Nat) (x1 : Option Nat) (x2 : Option Nat) (x3 : Option Nat) (x4 : Int32) (x5 : Int32) (x6 : Int32) (x7 : Int32) (x8 : Int32) (x9 : Int32) (h : AH), WX rvV C 37 [(0, va_rf (some x0)), (1, va_rf x1), (2, va_rf x2), (3, va_rf x3), (4, .int x4), (5, .int x5), (6, .int x6), (7, .int x7), (8, .int x8), (9, .int x9)] [] h (k37 x0 x1 x2 x3 x4 x5 x6 x7 x8 x9 h)) : ∀ (x0 : Nat) (x1 : Option Nat) (x2 : Option Nat) (x3 : Option Nat) (x4 : Int32) (x5 : Int32) (x6 : Int32) (x7 : Int32) (x8 : Int32) (x9 : Int32) (h : AH), WX rvV C 166 [(0, va_rf (some x0)), (1, va_rf x1), (2, va_rf x2), (3, va_rf x3), (4, .int x4), (5, .int x5), (6, .int x6), (7, .int x7), (8, .int x8), (9, .int x9)] [] h (f_X2_walk_J166 k37 x0 x1 x2 x3 x4 x5 x6 x7 x8 x9 h) := by
  intro x0 x1 x2 x3 x4 x5 x6 x7 x8 x9 h
  unfold f_X2_walk_J166
  refine x_aload_n (p' := 167) hC 3 (dAt dd_X2_walk 88 rfl) rfl rfl rfl ?_
  refine x_iconst (v := 0) (p' := 168) hC (dAt dd_X2_walk 89 rfl) (by decide) rfl ?_
  refine x_callVV (As := [.int 0]) (z := fun b => f_X1_addStep h b 0) (p' := 171) hC (fun b => c_X1_addStep _ _ _ h b 0) k_471 k_472 k_473 k_8 k_474 hd_X1_addStep ⟨by decide, by decide⟩ (ci := 1) rfl rfl (by decide) rfl (Nat.le_of_ble_eq_true rfl) rfl (dAt dd_X2_walk 90 rfl) rfl (fun u5 h6 => ?_)
  refine x_iinc (w := (x7 + 1)) (lv' := [(7, .int (x7 + 1)), (0, va_rf (some x0)), (1, va_rf x1), (2, va_rf x2), (3, va_rf x3), (4, .int x4), (5, .int x5), (6, .int x6), (8, .int x8), (9, .int x9)]) (p' := 174) hC 7 (dAt dd_X2_walk 91 rfl) rfl rfl (by decide) rfl rfl ?_
  refine x_iinc (w := (x9 + 1)) (lv' := [(9, .int (x9 + 1)), (7, .int (x7 + 1)), (0, va_rf (some x0)), (1, va_rf x1), (2, va_rf x2), (3, va_rf x3), (4, .int x4), (5, .int x5), (6, .int x6), (8, .int x8)]) (p' := 177) hC 9 (dAt dd_X2_walk 92 rfl) rfl rfl (by decide) rfl rfl ?_
  refine x_goto (tgt := 37) hC (dAt dd_X2_walk 93 rfl) (by decide) ?_
  refine x_sub [2, 3, 4, 5, 6, 7, 8, 1, 9, 0] rfl ?_
  exact hk37 x0 x1 x2 x3 x4 x5 x6 (x7 + 1) x8 (x9 + 1) h6
set_option maxHeartbeats 4000000 in
set_option maxRecDepth 100000 in
theorem t_X2_walk_J155 {C : CT} (hC : OKC C yX2_walk cX2_walk 10 none 2 42) (k37 : Nat → Option Nat → Option Nat → Option Nat → Int32 → Int32 → Int32 → Int32 → Int32 → Int32 → AH → RX Unit) (hk37 : ∀ (x0 : Nat) (x1 : Option Nat) (x2 : Option Nat) (x3 : Option Nat) (x4 : Int32) (x5 : Int32) (x6 : Int32) (x7 : Int32) (x8 : Int32) (x9 : Int32) (h : AH), WX rvV C 37 [(0, va_rf (some x0)), (1, va_rf x1), (2, va_rf x2), (3, va_rf x3), (4, .int x4), (5, .int x5), (6, .int x6), (7, .int x7), (8, .int x8), (9, .int x9)] [] h (k37 x0 x1 x2 x3 x4 x5 x6 x7 x8 x9 h)) : ∀ (x0 : Nat) (x1 : Option Nat) (x2 : Option Nat) (x3 : Option Nat) (x4 : Int32) (x5 : Int32) (x6 : Int32) (x7 : Int32) (x8 : Int32) (x9 : Int32) (h : AH), WX rvV C 155 [(0, va_rf (some x0)), (1, va_rf x1), (2, va_rf x2), (3, va_rf x3), (4, .int x4), (5, .int x5), (6, .int x6), (7, .int x7), (8, .int x8), (9, .int x9)] [] h (f_X2_walk_J155 k37 x0 x1 x2 x3 x4 x5 x6 x7 x8 x9 h) := by
  intro x0 x1 x2 x3 x4 x5 x6 x7 x8 x9 h
  unfold f_X2_walk_J155
  refine x_aload_n (p' := 156) hC 3 (dAt dd_X2_walk 83 rfl) rfl rfl rfl ?_
  refine x_iconst (v := 1) (p' := 157) hC (dAt dd_X2_walk 84 rfl) (by decide) rfl ?_
  refine x_callVV (As := [.int 1]) (z := fun b => f_X1_addStep h b 1) (p' := 160) hC (fun b => c_X1_addStep _ _ _ h b 1) k_471 k_472 k_473 k_8 k_474 hd_X1_addStep ⟨by decide, by decide⟩ (ci := 1) rfl rfl (by decide) rfl (Nat.le_of_ble_eq_true rfl) rfl (dAt dd_X2_walk 85 rfl) rfl (fun u7 h8 => ?_)
  refine x_iinc (w := (x6 + 1)) (lv' := [(6, .int (x6 + 1)), (0, va_rf (some x0)), (1, va_rf x1), (2, va_rf x2), (3, va_rf x3), (4, .int x4), (5, .int x5), (7, .int x7), (8, .int x8), (9, .int x9)]) (p' := 163) hC 6 (dAt dd_X2_walk 86 rfl) rfl rfl (by decide) rfl rfl ?_
  refine x_goto (tgt := 174) hC (dAt dd_X2_walk 87 rfl) (by decide) ?_
  refine x_iinc (w := (x9 + 1)) (lv' := [(9, .int (x9 + 1)), (6, .int (x6 + 1)), (0, va_rf (some x0)), (1, va_rf x1), (2, va_rf x2), (3, va_rf x3), (4, .int x4), (5, .int x5), (7, .int x7), (8, .int x8)]) (p' := 177) hC 9 (dAt dd_X2_walk 92 rfl) rfl rfl (by decide) rfl rfl ?_
  refine x_goto (tgt := 37) hC (dAt dd_X2_walk 93 rfl) (by decide) ?_
  refine x_sub [2, 3, 4, 5, 6, 7, 1, 8, 9, 0] rfl ?_
  exact hk37 x0 x1 x2 x3 x4 x5 (x6 + 1) x7 x8 (x9 + 1) h8
set_option maxHeartbeats 4000000 in
set_option maxRecDepth 100000 in
theorem t_X2_walk_J114 {C : CT} (hC : OKC C yX2_walk cX2_walk 10 none 2 42) (k37 : Nat → Option Nat → Option Nat → Option Nat → Int32 → Int32 → Int32 → Int32 → Int32 → Int32 → AH → RX Unit) (hk37 : ∀ (x0 : Nat) (x1 : Option Nat) (x2 : Option Nat) (x3 : Option Nat) (x4 : Int32) (x5 : Int32) (x6 : Int32) (x7 : Int32) (x8 : Int32) (x9 : Int32) (h : AH), WX rvV C 37 [(0, va_rf (some x0)), (1, va_rf x1), (2, va_rf x2), (3, va_rf x3), (4, .int x4), (5, .int x5), (6, .int x6), (7, .int x7), (8, .int x8), (9, .int x9)] [] h (k37 x0 x1 x2 x3 x4 x5 x6 x7 x8 x9 h)) : ∀ (x0 : Nat) (x1 : Option Nat) (x2 : Option Nat) (x3 : Option Nat) (x4 : Int32) (x5 : Int32) (x6 : Int32) (x7 : Int32) (x8 : Int32) (x9 : Int32) (h : AH), WX rvV C 114 [(0, va_rf (some x0)), (1, va_rf x1), (2, va_rf x2), (3, va_rf x3), (4, .int x4), (5, .int x5), (6, .int x6), (7, .int x7), (8, .int x8), (9, .int x9)] [] h (f_X2_walk_J114 k37 x0 x1 x2 x3 x4 x5 x6 x7 x8 x9 h) := by
  intro x0 x1 x2 x3 x4 x5 x6 x7 x8 x9 h
  unfold f_X2_walk_J114
  refine x_iload (p' := 116) hC 6 (dAt dd_X2_walk 60 rfl) rfl rfl ?_
  refine x_iload (p' := 118) hC 4 (dAt dd_X2_walk 61 rfl) rfl rfl ?_
  refine x_icmp_ge (tgt := 166) (p' := 121) hC (dAt dd_X2_walk 62 rfl) (by decide) rfl ?_ ?_
  · exact t_X2_walk_J166 hC k37 hk37 x0 x1 x2 x3 x4 x5 x6 x7 x8 x9 h
  · refine x_iload (p' := 123) hC 7 (dAt dd_X2_walk 63 rfl) rfl rfl ?_
    refine x_iload (p' := 125) hC 5 (dAt dd_X2_walk 64 rfl) rfl rfl ?_
    refine x_icmp_ge (tgt := 155) (p' := 128) hC (dAt dd_X2_walk 65 rfl) (by decide) rfl ?_ ?_
    · exact t_X2_walk_J155 hC k37 hk37 x0 x1 x2 x3 x4 x5 x6 x7 x8 x9 h
    · refine x_aload_n (p' := 129) hC 0 (dAt dd_X2_walk 66 rfl) rfl rfl rfl ?_
      refine x_getR (p' := 132) hC fk_RX2_11 rfl (dAt dd_X2_walk 67 rfl) rfl (fun r9 => ?_)
      refine x_iload (p' := 134) hC 6 (dAt dd_X2_walk 68 rfl) rfl rfl ?_
      refine x_aaload 18 6 (p' := 135) hC rfl (by decide) rfl (dAt dd_X2_walk 69 rfl) rfl (fun r10 => ?_)
      refine x_iload (p' := 137) hC 7 (dAt dd_X2_walk 70 rfl) rfl rfl ?_
      refine x_iaload (p' := 138) hC (dAt dd_X2_walk 71 rfl) rfl (fun v11 => ?_)
      refine x_aload_n (p' := 139) hC 0 (dAt dd_X2_walk 72 rfl) rfl rfl rfl ?_
      refine x_getR (p' := 142) hC fk_RX2_11 rfl (dAt dd_X2_walk 73 rfl) rfl (fun r12 => ?_)
      refine x_iload (p' := 144) hC 6 (dAt dd_X2_walk 74 rfl) rfl rfl ?_
      refine x_iconst (v := 1) (p' := 145) hC (dAt dd_X2_walk 75 rfl) (by decide) rfl ?_
      refine x_iadd (p' := 146) hC (dAt dd_X2_walk 76 rfl) rfl ?_
      refine x_aaload 18 6 (p' := 147) hC rfl (by decide) rfl (dAt dd_X2_walk 77 rfl) rfl (fun r13 => ?_)
      refine x_iload (p' := 149) hC 7 (dAt dd_X2_walk 78 rfl) rfl rfl ?_
      refine x_iaload (p' := 150) hC (dAt dd_X2_walk 79 rfl) rfl (fun v14 => ?_)
      refine x_iconst (v := 1) (p' := 151) hC (dAt dd_X2_walk 80 rfl) (by decide) rfl ?_
      refine x_iadd (p' := 152) hC (dAt dd_X2_walk 81 rfl) rfl ?_
      refine x_icmp_ne (tgt := 166) (p' := 155) hC (dAt dd_X2_walk 82 rfl) (by decide) rfl ?_ ?_
      · exact t_X2_walk_J166 hC k37 hk37 x0 x1 x2 x3 x4 x5 x6 x7 x8 x9 h
      · exact t_X2_walk_J155 hC k37 hk37 x0 x1 x2 x3 x4 x5 x6 x7 x8 x9 h
set_option maxHeartbeats 4000000 in
set_option maxRecDepth 100000 in
theorem t_X2_walk_J98 {C : CT} (hC : OKC C yX2_walk cX2_walk 10 none 2 42) (k37 : Nat → Option Nat → Option Nat → Option Nat → Int32 → Int32 → Int32 → Int32 → Int32 → Int32 → AH → RX Unit) (hk37 : ∀ (x0 : Nat) (x1 : Option Nat) (x2 : Option Nat) (x3 : Option Nat) (x4 : Int32) (x5 : Int32) (x6 : Int32) (x7 : Int32) (x8 : Int32) (x9 : Int32) (h : AH), WX rvV C 37 [(0, va_rf (some x0)), (1, va_rf x1), (2, va_rf x2), (3, va_rf x3), (4, .int x4), (5, .int x5), (6, .int x6), (7, .int x7), (8, .int x8), (9, .int x9)] [] h (k37 x0 x1 x2 x3 x4 x5 x6 x7 x8 x9 h)) : ∀ (x0 : Nat) (x1 : Option Nat) (x2 : Option Nat) (x3 : Option Nat) (x4 : Int32) (x5 : Int32) (x6 : Int32) (x7 : Int32) (x8 : Int32) (x9 : Int32) (h : AH), WX rvV C 98 [(0, va_rf (some x0)), (1, va_rf x1), (2, va_rf x2), (3, va_rf x3), (4, .int x4), (5, .int x5), (6, .int x6), (7, .int x7), (8, .int x8), (9, .int x9)] [] h (f_X2_walk_J98 k37 x0 x1 x2 x3 x4 x5 x6 x7 x8 x9 h) := by
  intro x0 x1 x2 x3 x4 x5 x6 x7 x8 x9 h
  unfold f_X2_walk_J98
  refine x_iload (p' := 100) hC 8 (dAt dd_X2_walk 52 rfl) rfl rfl ?_
  refine x_if_eq (tgt := 114) (p' := 103) hC (dAt dd_X2_walk 53 rfl) (by decide) rfl ?_ ?_
  · exact t_X2_walk_J114 hC k37 hk37 x0 x1 x2 x3 x4 x5 x6 x7 x8 x9 h
  · refine x_aload_n (p' := 104) hC 3 (dAt dd_X2_walk 54 rfl) rfl rfl rfl ?_
    refine x_iload (p' := 106) hC 6 (dAt dd_X2_walk 55 rfl) rfl rfl ?_
    refine x_iload (p' := 108) hC 7 (dAt dd_X2_walk 56 rfl) rfl rfl ?_
    refine x_callVV (As := [.int x6, .int x7]) (z := fun b => f_X1_open h b x6 x7) (p' := 111) hC (fun b => c_X1_open _ _ _ h b x6 x7) k_467 k_468 k_469 k_8 k_470 hd_X1_open ⟨by decide, by decide⟩ (ci := 1) rfl rfl (by decide) rfl (Nat.le_of_ble_eq_true rfl) rfl (dAt dd_X2_walk 57 rfl) rfl (fun u15 h16 => ?_)
    refine x_iconst (v := 0) (p' := 112) hC (dAt dd_X2_walk 58 rfl) (by decide) rfl ?_
    refine x_istore (lv' := [(8, .int 0), (0, va_rf (some x0)), (1, va_rf x1), (2, va_rf x2), (3, va_rf x3), (4, .int x4), (5, .int x5), (6, .int x6), (7, .int x7), (9, .int x9)]) (p' := 114) hC (dAt dd_X2_walk 59 rfl) (by decide) rfl rfl ?_
    refine x_sub [1, 2, 3, 4, 5, 6, 7, 8, 0, 9] rfl ?_
    exact t_X2_walk_J114 hC k37 hk37 x0 x1 x2 x3 x4 x5 x6 x7 0 x9 h16
set_option maxHeartbeats 4000000 in
set_option maxRecDepth 100000 in
theorem t_X2_walk_J61 {C : CT} (hC : OKC C yX2_walk cX2_walk 10 none 2 42) (k37 : Nat → Option Nat → Option Nat → Option Nat → Int32 → Int32 → Int32 → Int32 → Int32 → Int32 → AH → RX Unit) (hk37 : ∀ (x0 : Nat) (x1 : Option Nat) (x2 : Option Nat) (x3 : Option Nat) (x4 : Int32) (x5 : Int32) (x6 : Int32) (x7 : Int32) (x8 : Int32) (x9 : Int32) (h : AH), WX rvV C 37 [(0, va_rf (some x0)), (1, va_rf x1), (2, va_rf x2), (3, va_rf x3), (4, .int x4), (5, .int x5), (6, .int x6), (7, .int x7), (8, .int x8), (9, .int x9)] [] h (k37 x0 x1 x2 x3 x4 x5 x6 x7 x8 x9 h)) : ∀ (x0 : Nat) (x1 : Option Nat) (x2 : Option Nat) (x3 : Option Nat) (x4 : Int32) (x5 : Int32) (x6 : Int32) (x7 : Int32) (x8 : Int32) (x9 : Int32) (h : AH), WX rvV C 61 [(0, va_rf (some x0)), (1, va_rf x1), (2, va_rf x2), (3, va_rf x3), (4, .int x4), (5, .int x5), (6, .int x6), (7, .int x7), (8, .int x8), (9, .int x9)] [] h (f_X2_walk_J61 k37 x0 x1 x2 x3 x4 x5 x6 x7 x8 x9 h) := by
  intro x0 x1 x2 x3 x4 x5 x6 x7 x8 x9 h
  unfold f_X2_walk_J61
  refine x_iload (p' := 63) hC 6 (dAt dd_X2_walk 34 rfl) rfl rfl ?_
  refine x_iload (p' := 65) hC 4 (dAt dd_X2_walk 35 rfl) rfl rfl ?_
  refine x_icmp_ge (tgt := 98) (p' := 68) hC (dAt dd_X2_walk 36 rfl) (by decide) rfl ?_ ?_
  · exact t_X2_walk_J98 hC k37 hk37 x0 x1 x2 x3 x4 x5 x6 x7 x8 x9 h
  · refine x_iload (p' := 70) hC 7 (dAt dd_X2_walk 37 rfl) rfl rfl ?_
    refine x_iload (p' := 72) hC 5 (dAt dd_X2_walk 38 rfl) rfl rfl ?_
    refine x_icmp_ge (tgt := 98) (p' := 75) hC (dAt dd_X2_walk 39 rfl) (by decide) rfl ?_ ?_
    · exact t_X2_walk_J98 hC k37 hk37 x0 x1 x2 x3 x4 x5 x6 x7 x8 x9 h
    · refine x_aload_n (p' := 76) hC 1 (dAt dd_X2_walk 40 rfl) rfl rfl rfl ?_
      refine x_iload (p' := 78) hC 6 (dAt dd_X2_walk 41 rfl) rfl rfl ?_
      refine x_iaload (p' := 79) hC (dAt dd_X2_walk 42 rfl) rfl (fun v17 => ?_)
      refine x_aload_n (p' := 80) hC 2 (dAt dd_X2_walk 43 rfl) rfl rfl rfl ?_
      refine x_iload (p' := 82) hC 7 (dAt dd_X2_walk 44 rfl) rfl rfl ?_
      refine x_iaload (p' := 83) hC (dAt dd_X2_walk 45 rfl) rfl (fun v18 => ?_)
      refine x_icmp_ne (tgt := 98) (p' := 86) hC (dAt dd_X2_walk 46 rfl) (by decide) rfl ?_ ?_
      · exact t_X2_walk_J98 hC k37 hk37 x0 x1 x2 x3 x4 x5 x6 x7 x8 x9 h
      · refine x_iconst (v := 1) (p' := 87) hC (dAt dd_X2_walk 47 rfl) (by decide) rfl ?_
        refine x_istore (lv' := [(8, .int 1), (0, va_rf (some x0)), (1, va_rf x1), (2, va_rf x2), (3, va_rf x3), (4, .int x4), (5, .int x5), (6, .int x6), (7, .int x7), (9, .int x9)]) (p' := 89) hC (dAt dd_X2_walk 48 rfl) (by decide) rfl rfl ?_
        refine x_iinc (w := (x6 + 1)) (lv' := [(6, .int (x6 + 1)), (8, .int 1), (0, va_rf (some x0)), (1, va_rf x1), (2, va_rf x2), (3, va_rf x3), (4, .int x4), (5, .int x5), (7, .int x7), (9, .int x9)]) (p' := 92) hC 7 (dAt dd_X2_walk 49 rfl) rfl rfl (by decide) rfl rfl ?_
        refine x_iinc (w := (x7 + 1)) (lv' := [(7, .int (x7 + 1)), (6, .int (x6 + 1)), (8, .int 1), (0, va_rf (some x0)), (1, va_rf x1), (2, va_rf x2), (3, va_rf x3), (4, .int x4), (5, .int x5), (9, .int x9)]) (p' := 95) hC 8 (dAt dd_X2_walk 50 rfl) rfl rfl (by decide) rfl rfl ?_
        refine x_goto (tgt := 174) hC (dAt dd_X2_walk 51 rfl) (by decide) ?_
        refine x_iinc (w := (x9 + 1)) (lv' := [(9, .int (x9 + 1)), (7, .int (x7 + 1)), (6, .int (x6 + 1)), (8, .int 1), (0, va_rf (some x0)), (1, va_rf x1), (2, va_rf x2), (3, va_rf x3), (4, .int x4), (5, .int x5)]) (p' := 177) hC 9 (dAt dd_X2_walk 92 rfl) rfl rfl (by decide) rfl rfl ?_
        refine x_goto (tgt := 37) hC (dAt dd_X2_walk 93 rfl) (by decide) ?_
        refine x_sub [4, 5, 6, 7, 8, 9, 2, 1, 3, 0] rfl ?_
        exact hk37 x0 x1 x2 x3 x4 x5 (x6 + 1) (x7 + 1) 1 (x9 + 1) h
set_option maxHeartbeats 4000000 in
set_option maxRecDepth 100000 in
theorem t_X2_walk_L37 {C : CT} (hC : OKC C yX2_walk cX2_walk 10 none 2 42)   : ∀ (n : Nat) (x0 : Nat) (x1 : Option Nat) (x2 : Option Nat) (x3 : Option Nat) (x4 : Int32) (x5 : Int32) (x6 : Int32) (x7 : Int32) (x8 : Int32) (x9 : Int32) (h : AH), WX rvV C 37 [(0, va_rf (some x0)), (1, va_rf x1), (2, va_rf x2), (3, va_rf x3), (4, .int x4), (5, .int x5), (6, .int x6), (7, .int x7), (8, .int x8), (9, .int x9)] [] h (f_X2_walk_L37 n x0 x1 x2 x3 x4 x5 x6 x7 x8 x9 h) := by
  intro n
  induction n with
  | zero => intro _ _ _ _ _ _ _ _ _ _ _; exact x_none
  | succ n ih =>
    intro x0 x1 x2 x3 x4 x5 x6 x7 x8 x9 h
    rw [f_X2_walk_L37]
    refine x_iload (p' := 39) hC 9 (dAt dd_X2_walk 23 rfl) rfl rfl ?_
    refine x_iload (p' := 41) hC 4 (dAt dd_X2_walk 24 rfl) rfl rfl ?_
    refine x_iload (p' := 43) hC 5 (dAt dd_X2_walk 25 rfl) rfl rfl ?_
    refine x_iadd (p' := 44) hC (dAt dd_X2_walk 26 rfl) rfl ?_
    refine x_icmp_ge (tgt := 180) (p' := 47) hC (dAt dd_X2_walk 27 rfl) (by decide) rfl ?_ ?_
    · exact x_return hC (dAt dd_X2_walk 94 rfl)
    · refine x_iload (p' := 49) hC 6 (dAt dd_X2_walk 28 rfl) rfl rfl ?_
      refine x_iload (p' := 51) hC 4 (dAt dd_X2_walk 29 rfl) rfl rfl ?_
      refine x_icmp_lt (tgt := 61) (p' := 54) hC (dAt dd_X2_walk 30 rfl) (by decide) rfl ?_ ?_
      · exact t_X2_walk_J61 hC (f_X2_walk_L37 n) ih x0 x1 x2 x3 x4 x5 x6 x7 x8 x9 h
      · refine x_iload (p' := 56) hC 7 (dAt dd_X2_walk 31 rfl) rfl rfl ?_
        refine x_iload (p' := 58) hC 5 (dAt dd_X2_walk 32 rfl) rfl rfl ?_
        refine x_icmp_ge (tgt := 180) (p' := 61) hC (dAt dd_X2_walk 33 rfl) (by decide) rfl ?_ ?_
        · exact x_return hC (dAt dd_X2_walk 94 rfl)
        · exact t_X2_walk_J61 hC (f_X2_walk_L37 n) ih x0 x1 x2 x3 x4 x5 x6 x7 x8 x9 h
set_option maxHeartbeats 4000000 in
set_option maxRecDepth 100000 in
theorem c_X2_walk (l : Launch) (D : va_G) (cy : Nat → ClassId) (h : AH) (a0 : Nat) (p1 : Option Nat) (p2 : Option Nat) (p3 : Option Nat) : MX rvV l yX2_walk (Cond.code yX2_walk cX2_walk 10 none :: LW) 2 42 D cy h [va_rf (some a0), va_rf p1, va_rf p2, va_rf p3] (f_X2_walk h a0 p1 p2 p3) := by
  refine MX.of (lv := [(0, va_rf (some a0)), (1, va_rf p1), (2, va_rf p2), (3, va_rf p3)]) (by decide) (by cases p1 <;> cases p2 <;> cases p3 <;> exact Nat.le_of_ble_eq_true rfl) (by cases p1 <;> cases p2 <;> cases p3 <;> rfl) (fun C hC _ => ?_)
  unfold f_X2_walk
  refine x_aload_n (p' := 1) hC 0 (dAt dd_X2_walk 0 rfl) rfl rfl rfl ?_
  refine x_aload_n (p' := 2) hC 1 (dAt dd_X2_walk 1 rfl) rfl rfl rfl ?_
  refine x_aload_n (p' := 3) hC 2 (dAt dd_X2_walk 2 rfl) rfl rfl rfl ?_
  refine x_callVI (As := [va_rf p1, va_rf p2]) (z := fun b => f_X2_measure h b p1 p2) (p' := 6) hC (fun b => c_X2_measure _ _ _ h b p1 p2) k_462 k_463 k_464 k_2 k_465 hd_X2_measure ⟨by decide, by decide⟩ (ci := 2) rfl rfl (by decide) rfl (Nat.le_of_ble_eq_true rfl) rfl (dAt dd_X2_walk 3 rfl) rfl (fun v1 h2 => ?_)
  refine x_pop (p' := 7) hC (dAt dd_X2_walk 4 rfl) rfl rfl ?_
  refine x_aload_n (p' := 8) hC 1 (dAt dd_X2_walk 5 rfl) rfl rfl rfl ?_
  refine x_arraylength 12 0 (p' := 9) hC rfl (by decide) (dAt dd_X2_walk 6 rfl) rfl (fun v3 => ?_)
  refine x_bipush (v := 60) (p' := 11) hC (dAt dd_X2_walk 7 rfl) (by decide) rfl ?_
  refine x_mathMin (p' := 14) hC k_466 k_346 k_13 k_mathMin ⟨by decide, (Nat.le_of_ble_eq_true rfl)⟩ (dAt dd_X2_walk 8 rfl) rfl ?_
  refine x_istore (lv' := [(4, .int (if 60 < v3 then 60 else v3)), (0, va_rf (some a0)), (1, va_rf p1), (2, va_rf p2), (3, va_rf p3)]) (p' := 16) hC (dAt dd_X2_walk 9 rfl) (by decide) (by simp [x_cat, show ∀ v : Int32, (Value.int v).category = 1 from fun _ => rfl]) rfl ?_
  refine x_aload_n (p' := 17) hC 3 (dAt dd_X2_walk 10 rfl) rfl rfl rfl ?_
  refine x_arraylength 12 0 (p' := 18) hC rfl (by decide) (dAt dd_X2_walk 11 rfl) rfl (fun v4 => ?_)
  refine x_bipush (v := 60) (p' := 20) hC (dAt dd_X2_walk 12 rfl) (by decide) rfl ?_
  refine x_mathMin (p' := 23) hC k_466 k_346 k_13 k_mathMin ⟨by decide, (Nat.le_of_ble_eq_true rfl)⟩ (dAt dd_X2_walk 13 rfl) rfl ?_
  refine x_istore (lv' := [(5, .int (if 60 < v4 then 60 else v4)), (4, .int (if 60 < v3 then 60 else v3)), (0, va_rf (some a0)), (1, va_rf p1), (2, va_rf p2), (3, va_rf p3)]) (p' := 25) hC (dAt dd_X2_walk 14 rfl) (by decide) rfl rfl ?_
  refine x_iconst (v := 0) (p' := 26) hC (dAt dd_X2_walk 15 rfl) (by decide) rfl ?_
  refine x_istore (lv' := [(6, .int 0), (5, .int (if 60 < v4 then 60 else v4)), (4, .int (if 60 < v3 then 60 else v3)), (0, va_rf (some a0)), (1, va_rf p1), (2, va_rf p2), (3, va_rf p3)]) (p' := 28) hC (dAt dd_X2_walk 16 rfl) (by decide) rfl rfl ?_
  refine x_iconst (v := 0) (p' := 29) hC (dAt dd_X2_walk 17 rfl) (by decide) rfl ?_
  refine x_istore (lv' := [(7, .int 0), (6, .int 0), (5, .int (if 60 < v4 then 60 else v4)), (4, .int (if 60 < v3 then 60 else v3)), (0, va_rf (some a0)), (1, va_rf p1), (2, va_rf p2), (3, va_rf p3)]) (p' := 31) hC (dAt dd_X2_walk 18 rfl) (by decide) rfl rfl ?_
  refine x_iconst (v := 1) (p' := 32) hC (dAt dd_X2_walk 19 rfl) (by decide) rfl ?_
  refine x_istore (lv' := [(8, .int 1), (7, .int 0), (6, .int 0), (5, .int (if 60 < v4 then 60 else v4)), (4, .int (if 60 < v3 then 60 else v3)), (0, va_rf (some a0)), (1, va_rf p1), (2, va_rf p2), (3, va_rf p3)]) (p' := 34) hC (dAt dd_X2_walk 20 rfl) (by decide) rfl rfl ?_
  refine x_iconst (v := 0) (p' := 35) hC (dAt dd_X2_walk 21 rfl) (by decide) rfl ?_
  refine x_istore (lv' := [(9, .int 0), (8, .int 1), (7, .int 0), (6, .int 0), (5, .int (if 60 < v4 then 60 else v4)), (4, .int (if 60 < v3 then 60 else v3)), (0, va_rf (some a0)), (1, va_rf p1), (2, va_rf p2), (3, va_rf p3)]) (p' := 37) hC (dAt dd_X2_walk 22 rfl) (by decide) rfl rfl ?_
  refine x_sub [6, 7, 8, 9, 5, 4, 3, 2, 1, 0] rfl ?_
  exact t_X2_walk_L37 hC FU a0 p1 p2 p3 (if 60 < v3 then 60 else v3) (if 60 < v4 then 60 else v4) 0 0 1 0 h2
set_option maxHeartbeats 4000000 in
set_option maxRecDepth 100000 in
theorem c_X3_init (l : Launch) (D : va_G) (cy : Nat → ClassId) (h : AH) (a0 : Nat) : MX rvV l yX3_init (Cond.code yX3_init cX3_init 1 none :: LW) 1 12 D cy h [va_rf (some a0)] (f_X3_init h a0) := by
  refine MX.of (lv := [(0, va_rf (some a0))]) (by decide) (Nat.le_of_ble_eq_true rfl) rfl (fun C hC _ => ?_)
  unfold f_X3_init
  refine x_aload_n (p' := 1) hC 0 (dAt dd_X3_init 0 rfl) rfl rfl rfl ?_
  refine x_objInit (p' := 4) hC k_47 k_23 k_objcode ⟨by decide, (Nat.le_of_ble_eq_true rfl)⟩ (dAt dd_X3_init 1 rfl) rfl ?_
  refine x_aload_n (p' := 5) hC 0 (dAt dd_X3_init 2 rfl) rfl rfl rfl ?_
  refine x_bipush (v := 120) (p' := 7) hC (dAt dd_X3_init 3 rfl) (by decide) rfl ?_
  refine x_newarray 12 0 (p' := 9) hC (Or.inl ⟨rfl, rfl, rfl⟩) k_41 (dAt dd_X3_init 4 rfl) rfl (fun a1 h2 => ?_)
  refine x_putR (p' := 12) hC fk_RX3_9 tk_RX3 rfl (Or.inr ⟨_, rfl⟩) (Or.inr ⟨rfl, rfl, rfl⟩) (dAt dd_X3_init 5 rfl) rfl (fun h3 => ?_)
  refine x_aload_n (p' := 13) hC 0 (dAt dd_X3_init 6 rfl) rfl rfl rfl ?_
  refine x_iconst (v := 0) (p' := 14) hC (dAt dd_X3_init 7 rfl) (by decide) rfl ?_
  refine x_putI (p' := 17) hC fk_RX3_15 tk_RX3 rfl rfl (Or.inl rfl) (dAt dd_X3_init 8 rfl) rfl (fun h4 => ?_)
  exact x_return hC (dAt dd_X3_init 9 rfl)
set_option maxHeartbeats 4000000 in
set_option maxRecDepth 100000 in
theorem c_X3_add (l : Launch) (D : va_G) (cy : Nat → ClassId) (h : AH) (a0 : Nat) (p1 : Option Nat) (p2 : Int32) (p3 : Int32) : MX rvV l yX3_add (Cond.code yX3_add cX3_add 4 none :: LW) 1 40 D cy h [va_rf (some a0), va_rf p1, .int p2, .int p3] (f_X3_add h a0 p1 p2 p3) := by
  refine MX.of (lv := [(0, va_rf (some a0)), (1, va_rf p1), (2, .int p2), (3, .int p3)]) (by decide) (by cases p1 <;> exact Nat.le_of_ble_eq_true rfl) (by cases p1 <;> rfl) (fun C hC _ => ?_)
  unfold f_X3_add
  refine x_iload_n (p' := 1) hC 3 (dAt dd_X3_add 0 rfl) rfl rfl rfl ?_
  refine x_if_le (tgt := 42) (p' := 4) hC (dAt dd_X3_add 1 rfl) (by decide) rfl ?_ ?_
  · exact x_return hC (dAt dd_X3_add 24 rfl)
  · refine x_aload_n (p' := 5) hC 0 (dAt dd_X3_add 2 rfl) rfl rfl rfl ?_
    refine x_getI (p' := 8) hC fk_RX3_15 rfl (dAt dd_X3_add 3 rfl) rfl (fun v1 => ?_)
    refine x_iload_n (p' := 9) hC 3 (dAt dd_X3_add 4 rfl) rfl rfl rfl ?_
    refine x_iadd (p' := 10) hC (dAt dd_X3_add 5 rfl) rfl ?_
    refine x_aload_n (p' := 11) hC 0 (dAt dd_X3_add 6 rfl) rfl rfl rfl ?_
    refine x_getR (p' := 14) hC fk_RX3_9 rfl (dAt dd_X3_add 7 rfl) rfl (fun r2 => ?_)
    refine x_arraylength 12 0 (p' := 15) hC rfl (by decide) (dAt dd_X3_add 8 rfl) rfl (fun v3 => ?_)
    refine x_icmp_gt (tgt := 42) (p' := 18) hC (dAt dd_X3_add 9 rfl) (by decide) rfl ?_ ?_
    · exact x_return hC (dAt dd_X3_add 24 rfl)
    · refine x_aload_n (p' := 19) hC 1 (dAt dd_X3_add 10 rfl) rfl rfl rfl ?_
      refine x_iload_n (p' := 20) hC 2 (dAt dd_X3_add 11 rfl) rfl rfl rfl ?_
      refine x_aload_n (p' := 21) hC 0 (dAt dd_X3_add 12 rfl) rfl rfl rfl ?_
      refine x_getR (p' := 24) hC fk_RX3_9 rfl (dAt dd_X3_add 13 rfl) rfl (fun r4 => ?_)
      refine x_aload_n (p' := 25) hC 0 (dAt dd_X3_add 14 rfl) rfl rfl rfl ?_
      refine x_getI (p' := 28) hC fk_RX3_15 rfl (dAt dd_X3_add 15 rfl) rfl (fun v5 => ?_)
      refine x_iload_n (p' := 29) hC 3 (dAt dd_X3_add 16 rfl) rfl rfl rfl ?_
      refine x_copy (p' := 32) hC k_545 k_304 k_303 k_11 ⟨by decide, (Nat.le_of_ble_eq_true rfl)⟩ (dAt dd_X3_add 17 rfl) rfl (fun h6 => ?_)
      refine x_aload_n (p' := 33) hC 0 (dAt dd_X3_add 18 rfl) rfl rfl rfl ?_
      refine x_dup (p' := 34) hC (dAt dd_X3_add 19 rfl) (x_cat _) rfl ?_
      refine x_getI (p' := 37) hC fk_RX3_15 rfl (dAt dd_X3_add 20 rfl) rfl (fun v7 => ?_)
      refine x_iload_n (p' := 38) hC 3 (dAt dd_X3_add 21 rfl) rfl rfl rfl ?_
      refine x_iadd (p' := 39) hC (dAt dd_X3_add 22 rfl) rfl ?_
      refine x_putI (p' := 42) hC fk_RX3_15 tk_RX3 rfl rfl (Or.inl rfl) (dAt dd_X3_add 23 rfl) rfl (fun h8 => ?_)
      exact x_return hC (dAt dd_X3_add 24 rfl)
set_option maxHeartbeats 4000000 in
set_option maxRecDepth 100000 in
theorem t_X3_write_L41 {C : CT} (hC : OKC C yX3_write cX3_write 8 none 2 63) (k134 : Nat → Option Nat → Int32 → AH → RX Unit) (hk134 : ∀ (x0 : Nat) (x4 : Option Nat) (x6 : Int32) (h : AH), WX rvV C 134 [(0, va_rf (some x0)), (4, va_rf x4), (6, .int x6)] [] h (k134 x0 x4 x6 h)) : ∀ (n : Nat) (x0 : Nat) (x1 : Option Nat) (x2 : Int32) (x3 : Int32) (x4 : Option Nat) (x5 : Option Nat) (x6 : Int32) (x7 : Int32) (h : AH), WX rvV C 41 [(0, va_rf (some x0)), (1, va_rf x1), (2, .int x2), (3, .int x3), (4, va_rf x4), (5, va_rf x5), (6, .int x6), (7, .int x7)] [] h (f_X3_write_L41 k134 n x0 x1 x2 x3 x4 x5 x6 x7 h) := by
  intro n
  induction n with
  | zero => intro _ _ _ _ _ _ _ _ _; exact x_none
  | succ n ih =>
    intro x0 x1 x2 x3 x4 x5 x6 x7 h
    rw [f_X3_write_L41]
    refine x_iload (p' := 43) hC 7 (dAt dd_X3_write 21 rfl) rfl rfl ?_
    refine x_aload (p' := 45) hC 5 (dAt dd_X3_write 22 rfl) rfl rfl ?_
    refine x_getI (p' := 48) hC fk_RX3_37 rfl (dAt dd_X3_write 23 rfl) rfl (fun v7 => ?_)
    refine x_icmp_ge (tgt := 134) (p' := 51) hC (dAt dd_X3_write 24 rfl) (by decide) rfl ?_ ?_
    · refine x_sub [0, 4, 6] rfl ?_
      exact hk134 x0 x4 x6 h
    · refine x_aload (p' := 53) hC 5 (dAt dd_X3_write 25 rfl) rfl rfl ?_
      refine x_iload (p' := 55) hC 7 (dAt dd_X3_write 26 rfl) rfl rfl ?_
      refine x_iload_n (p' := 56) hC 2 (dAt dd_X3_write 27 rfl) rfl rfl rfl ?_
      refine x_iload_n (p' := 57) hC 3 (dAt dd_X3_write 28 rfl) rfl rfl rfl ?_
      refine x_callVI (As := [.int x7, .int x2, .int x3]) (z := fun b => f_X1_isMeant h b x7 x2 x3) (p' := 60) hC (fun b => c_X1_isMeant _ _ _ h b x7 x2 x3) k_537 k_538 k_539 k_8 k_540 hd_X1_isMeant ⟨by decide, by decide⟩ (ci := 1) rfl rfl (by decide) rfl (Nat.le_of_ble_eq_true rfl) rfl (dAt dd_X3_write 29 rfl) rfl (fun v8 h9 => ?_)
      refine x_if_eq (tgt := 128) (p' := 63) hC (dAt dd_X3_write 30 rfl) (by decide) rfl ?_ ?_
      · refine x_iinc (w := (x7 + 1)) (lv' := [(7, .int (x7 + 1)), (0, va_rf (some x0)), (1, va_rf x1), (2, .int x2), (3, .int x3), (4, va_rf x4), (5, va_rf x5), (6, .int x6)]) (p' := 131) hC 7 (dAt dd_X3_write 64 rfl) rfl rfl (by decide) rfl rfl ?_
        refine x_goto (tgt := 41) hC (dAt dd_X3_write 65 rfl) (by decide) ?_
        refine x_sub [1, 2, 3, 4, 5, 6, 7, 0] rfl ?_
        exact ih x0 x1 x2 x3 x4 x5 x6 (x7 + 1) h9
      · refine x_aload_n (p' := 64) hC 0 (dAt dd_X3_write 31 rfl) rfl rfl rfl ?_
        refine x_aload (p' := 66) hC 4 (dAt dd_X3_write 32 rfl) rfl rfl ?_
        refine x_iload (p' := 68) hC 6 (dAt dd_X3_write 33 rfl) rfl rfl ?_
        refine x_aload (p' := 70) hC 5 (dAt dd_X3_write 34 rfl) rfl rfl ?_
        refine x_getR (p' := 73) hC fk_RX3_46 rfl (dAt dd_X3_write 35 rfl) rfl (fun r10 => ?_)
        refine x_iload (p' := 75) hC 7 (dAt dd_X3_write 36 rfl) rfl rfl ?_
        refine x_iaload (p' := 76) hC (dAt dd_X3_write 37 rfl) rfl (fun v11 => ?_)
        refine x_iload (p' := 78) hC 6 (dAt dd_X3_write 38 rfl) rfl rfl ?_
        refine x_isub (p' := 79) hC (dAt dd_X3_write 39 rfl) rfl ?_
        refine x_callVV (As := [va_rf x4, .int x6, .int (v11 - x6)]) (z := fun b => f_X3_add h9 b x4 x6 (v11 - x6)) (p' := 82) hC (fun b => c_X3_add _ _ _ h9 b x4 x6 (v11 - x6)) k_541 k_543 (k_sl 14 rfl) k_3 k_544 hd_X3_add ⟨by decide, by decide⟩ (ci := 3) rfl rfl (by decide) rfl (Nat.le_of_ble_eq_true rfl) rfl (dAt dd_X3_write 40 rfl) rfl (fun u12 h13 => ?_)
        refine x_aload_n (p' := 83) hC 0 (dAt dd_X3_write 41 rfl) rfl rfl rfl ?_
        refine x_aload_n (p' := 84) hC 1 (dAt dd_X3_write 42 rfl) rfl rfl rfl ?_
        refine x_getR (p' := 87) hC fk_RX3_25 rfl (dAt dd_X3_write 43 rfl) rfl (fun r14 => ?_)
        refine x_getR (p' := 90) hC fk_RX3_28 rfl (dAt dd_X3_write 44 rfl) rfl (fun r15 => ?_)
        refine x_aload (p' := 92) hC 5 (dAt dd_X3_write 45 rfl) rfl rfl ?_
        refine x_getR (p' := 95) hC fk_RX3_53 rfl (dAt dd_X3_write 46 rfl) rfl (fun r16 => ?_)
        refine x_iload (p' := 97) hC 7 (dAt dd_X3_write 47 rfl) rfl rfl ?_
        refine x_iaload (p' := 98) hC (dAt dd_X3_write 48 rfl) rfl (fun v17 => ?_)
        refine x_aload (p' := 100) hC 5 (dAt dd_X3_write 49 rfl) rfl rfl ?_
        refine x_getR (p' := 103) hC fk_RX3_56 rfl (dAt dd_X3_write 50 rfl) rfl (fun r18 => ?_)
        refine x_iload (p' := 105) hC 7 (dAt dd_X3_write 51 rfl) rfl rfl ?_
        refine x_iaload (p' := 106) hC (dAt dd_X3_write 52 rfl) rfl (fun v19 => ?_)
        refine x_callVV (As := [va_rf r15, .int v17, .int v19]) (z := fun b => f_X3_add h13 b r15 v17 v19) (p' := 109) hC (fun b => c_X3_add _ _ _ h13 b r15 v17 v19) k_541 k_543 (k_sl 14 rfl) k_3 k_544 hd_X3_add ⟨by decide, by decide⟩ (ci := 3) rfl rfl (by decide) rfl (Nat.le_of_ble_eq_true rfl) rfl (dAt dd_X3_write 53 rfl) rfl (fun u20 h21 => ?_)
        refine x_aload (p' := 111) hC 5 (dAt dd_X3_write 54 rfl) rfl rfl ?_
        refine x_getR (p' := 114) hC fk_RX3_46 rfl (dAt dd_X3_write 55 rfl) rfl (fun r22 => ?_)
        refine x_iload (p' := 116) hC 7 (dAt dd_X3_write 56 rfl) rfl rfl ?_
        refine x_iaload (p' := 117) hC (dAt dd_X3_write 57 rfl) rfl (fun v23 => ?_)
        refine x_aload (p' := 119) hC 5 (dAt dd_X3_write 58 rfl) rfl rfl ?_
        refine x_getR (p' := 122) hC fk_RX3_59 rfl (dAt dd_X3_write 59 rfl) rfl (fun r24 => ?_)
        refine x_iload (p' := 124) hC 7 (dAt dd_X3_write 60 rfl) rfl rfl ?_
        refine x_iaload (p' := 125) hC (dAt dd_X3_write 61 rfl) rfl (fun v25 => ?_)
        refine x_iadd (p' := 126) hC (dAt dd_X3_write 62 rfl) rfl ?_
        refine x_istore (lv' := [(6, .int (v23 + v25)), (0, va_rf (some x0)), (1, va_rf x1), (2, .int x2), (3, .int x3), (4, va_rf x4), (5, va_rf x5), (7, .int x7)]) (p' := 128) hC (dAt dd_X3_write 63 rfl) (by decide) (by simp [x_cat, show ∀ v : Int32, (Value.int v).category = 1 from fun _ => rfl]) rfl ?_
        refine x_iinc (w := (x7 + 1)) (lv' := [(7, .int (x7 + 1)), (6, .int (v23 + v25)), (0, va_rf (some x0)), (1, va_rf x1), (2, .int x2), (3, .int x3), (4, va_rf x4), (5, va_rf x5)]) (p' := 131) hC 7 (dAt dd_X3_write 64 rfl) rfl rfl (by decide) rfl rfl ?_
        refine x_goto (tgt := 41) hC (dAt dd_X3_write 65 rfl) (by decide) ?_
        refine x_sub [2, 3, 4, 5, 6, 7, 1, 0] rfl ?_
        exact ih x0 x1 x2 x3 x4 x5 (v23 + v25) (x7 + 1) h21
set_option maxHeartbeats 4000000 in
set_option maxRecDepth 100000 in
theorem t_X3_write_J134 {C : CT} (hC : OKC C yX3_write cX3_write 8 none 2 63)   : ∀ (x0 : Nat) (x4 : Option Nat) (x6 : Int32) (h : AH), WX rvV C 134 [(0, va_rf (some x0)), (4, va_rf x4), (6, .int x6)] [] h (f_X3_write_J134 x0 x4 x6 h) := by
  intro x0 x4 x6 h
  unfold f_X3_write_J134
  refine x_aload_n (p' := 135) hC 0 (dAt dd_X3_write 66 rfl) rfl rfl rfl ?_
  refine x_aload (p' := 137) hC 1 (dAt dd_X3_write 67 rfl) rfl rfl ?_
  refine x_iload (p' := 139) hC 2 (dAt dd_X3_write 68 rfl) rfl rfl ?_
  refine x_aload (p' := 141) hC 1 (dAt dd_X3_write 69 rfl) rfl rfl ?_
  refine x_arraylength 12 0 (p' := 142) hC rfl (by decide) (dAt dd_X3_write 70 rfl) rfl (fun v26 => ?_)
  refine x_iload (p' := 144) hC 2 (dAt dd_X3_write 71 rfl) rfl rfl ?_
  refine x_isub (p' := 145) hC (dAt dd_X3_write 72 rfl) rfl ?_
  refine x_callVV (As := [va_rf x4, .int x6, .int (v26 - x6)]) (z := fun b => f_X3_add h b x4 x6 (v26 - x6)) (p' := 148) hC (fun b => c_X3_add _ _ _ h b x4 x6 (v26 - x6)) k_541 k_543 (k_sl 14 rfl) k_3 k_544 hd_X3_add ⟨by decide, by decide⟩ (ci := 3) rfl rfl (by decide) rfl (Nat.le_of_ble_eq_true rfl) rfl (dAt dd_X3_write 73 rfl) rfl (fun u27 h28 => ?_)
  exact x_return hC (dAt dd_X3_write 74 rfl)
set_option maxHeartbeats 4000000 in
set_option maxRecDepth 100000 in
theorem c_X3_write (l : Launch) (D : va_G) (cy : Nat → ClassId) (h : AH) (a0 : Nat) (p1 : Option Nat) (p2 : Int32) (p3 : Int32) : MX rvV l yX3_write (Cond.code yX3_write cX3_write 8 none :: LW) 2 63 D cy h [va_rf (some a0), va_rf p1, .int p2, .int p3] (f_X3_write h a0 p1 p2 p3) := by
  refine MX.of (lv := [(0, va_rf (some a0)), (1, va_rf p1), (2, .int p2), (3, .int p3)]) (by decide) (by cases p1 <;> exact Nat.le_of_ble_eq_true rfl) (by cases p1 <;> rfl) (fun C hC _ => ?_)
  unfold f_X3_write
  refine x_aload_n (p' := 1) hC 0 (dAt dd_X3_write 0 rfl) rfl rfl rfl ?_
  refine x_iconst (v := 0) (p' := 2) hC (dAt dd_X3_write 1 rfl) (by decide) rfl ?_
  refine x_putI (p' := 5) hC fk_RX3_15 tk_RX3 rfl rfl (Or.inl rfl) (dAt dd_X3_write 2 rfl) rfl (fun h1 => ?_)
  refine x_aload_n (p' := 6) hC 1 (dAt dd_X3_write 3 rfl) rfl rfl rfl ?_
  refine x_getR (p' := 9) hC fk_RX3_19 rfl (dAt dd_X3_write 4 rfl) rfl (fun r2 => ?_)
  refine x_ifnull (tgt := 19) (p' := 12) hC (dAt dd_X3_write 5 rfl) (by decide) rfl (fun _ => ?_) (fun _ _ => ?_)
  · exact x_return hC (dAt dd_X3_write 9 rfl)
  · refine x_aload_n (p' := 13) hC 1 (dAt dd_X3_write 6 rfl) rfl rfl rfl ?_
    refine x_getR (p' := 16) hC fk_RX3_25 rfl (dAt dd_X3_write 7 rfl) rfl (fun r3 => ?_)
    refine x_ifnonnull (tgt := 20) (p' := 19) hC (dAt dd_X3_write 8 rfl) (by decide) rfl (fun _ _ => ?_) (fun _ => ?_)
    · refine x_aload_n (p' := 21) hC 1 (dAt dd_X3_write 10 rfl) rfl rfl rfl ?_
      refine x_getR (p' := 24) hC fk_RX3_19 rfl (dAt dd_X3_write 11 rfl) rfl (fun r4 => ?_)
      refine x_getR (p' := 27) hC fk_RX3_28 rfl (dAt dd_X3_write 12 rfl) rfl (fun r5 => ?_)
      refine x_astore (lv' := [(4, va_rf r5), (0, va_rf (some a0)), (1, va_rf p1), (2, .int p2), (3, .int p3)]) (p' := 29) hC (dAt dd_X3_write 13 rfl) (by decide) rfl rfl ?_
      refine x_aload_n (p' := 30) hC 2 (dAt dd_X3_write 14 rfl) rfl rfl rfl ?_
      refine x_getR (p' := 33) hC fk_RX3_33 rfl (dAt dd_X3_write 15 rfl) rfl (fun r6 => ?_)
      refine x_astore (lv' := [(5, va_rf r6), (4, va_rf r5), (0, va_rf (some a0)), (1, va_rf p1), (2, .int p2), (3, .int p3)]) (p' := 35) hC (dAt dd_X3_write 16 rfl) (by decide) (by simp [x_cat, show ∀ v : Int32, (Value.int v).category = 1 from fun _ => rfl]) rfl ?_
      refine x_iconst (v := 0) (p' := 36) hC (dAt dd_X3_write 17 rfl) (by decide) rfl ?_
      refine x_istore (lv' := [(6, .int 0), (5, va_rf r6), (4, va_rf r5), (0, va_rf (some a0)), (1, va_rf p1), (2, .int p2), (3, .int p3)]) (p' := 38) hC (dAt dd_X3_write 18 rfl) (by decide) (by simp [x_cat, show ∀ v : Int32, (Value.int v).category = 1 from fun _ => rfl]) rfl ?_
      refine x_iconst (v := 0) (p' := 39) hC (dAt dd_X3_write 19 rfl) (by decide) rfl ?_
      refine x_istore (lv' := [(7, .int 0), (6, .int 0), (5, va_rf r6), (4, va_rf r5), (0, va_rf (some a0)), (1, va_rf p1), (2, .int p2), (3, .int p3)]) (p' := 41) hC (dAt dd_X3_write 20 rfl) (by decide) rfl rfl ?_
      refine x_sub [4, 5, 6, 7, 3, 2, 1, 0] rfl ?_
      exact t_X3_write_L41 hC f_X3_write_J134 (t_X3_write_J134 hC) FU a0 p1 p2 p3 r5 r6 0 0 h1
    · exact x_return hC (dAt dd_X3_write 9 rfl)
set_option maxHeartbeats 4000000 in
set_option maxRecDepth 100000 in
theorem t_X9_areAnswer_J59 {C : CT} (hC : OKC C yX9_areAnswer cX9_areAnswer 5 (some .boolean) 0 0) (k12 : Option Nat → Int32 → Int32 → Int32 → AH → RX Int32) (hk12 : ∀ (x0 : Option Nat) (x1 : Int32) (x2 : Int32) (x3 : Int32) (h : AH), WX rvI C 12 [(0, va_rf x0), (1, .int x1), (2, .int x2), (3, .int x3)] [] h (k12 x0 x1 x2 x3 h)) : ∀ (x0 : Option Nat) (x1 : Int32) (x2 : Int32) (x3 : Int32) (h : AH), WX rvI C 59 [(0, va_rf x0), (1, .int x1), (2, .int x2), (3, .int x3)] [] h (f_X9_areAnswer_J59 k12 x0 x1 x2 x3 h) := by
  intro x0 x1 x2 x3 h
  unfold f_X9_areAnswer_J59
  refine x_iload_n (p' := 60) hC 2 (dAt dd_X9_areAnswer 32 rfl) rfl rfl rfl ?_
  refine x_if_ge (tgt := 65) (p' := 63) hC (dAt dd_X9_areAnswer 33 rfl) (by decide) rfl ?_ ?_
  · refine x_iinc (w := (x3 + 1)) (lv' := [(3, .int (x3 + 1)), (0, va_rf x0), (1, .int x1), (2, .int x2)]) (p' := 68) hC 3 (dAt dd_X9_areAnswer 36 rfl) rfl rfl (by decide) rfl rfl ?_
    refine x_goto (tgt := 12) hC (dAt dd_X9_areAnswer 37 rfl) (by decide) ?_
    refine x_sub [1, 2, 3, 0] rfl ?_
    exact hk12 x0 x1 x2 (x3 + 1) h
  · refine x_iconst (v := 0) (p' := 64) hC (dAt dd_X9_areAnswer 34 rfl) (by decide) rfl ?_
    exact x_zreturn hC (dAt dd_X9_areAnswer 35 rfl)
set_option maxHeartbeats 4000000 in
set_option maxRecDepth 100000 in
theorem t_X9_areAnswer_L12 {C : CT} (hC : OKC C yX9_areAnswer cX9_areAnswer 5 (some .boolean) 0 0) (k71 : Int32 → AH → RX Int32) (hk71 : ∀ (x2 : Int32) (h : AH), WX rvI C 71 [(2, .int x2)] [] h (k71 x2 h)) : ∀ (n : Nat) (x0 : Option Nat) (x1 : Int32) (x2 : Int32) (x3 : Int32) (h : AH), WX rvI C 12 [(0, va_rf x0), (1, .int x1), (2, .int x2), (3, .int x3)] [] h (f_X9_areAnswer_L12 k71 n x0 x1 x2 x3 h) := by
  intro n
  induction n with
  | zero => intro _ _ _ _ _; exact x_none
  | succ n ih =>
    intro x0 x1 x2 x3 h
    rw [f_X9_areAnswer_L12]
    refine x_iload_n (p' := 13) hC 3 (dAt dd_X9_areAnswer 9 rfl) rfl rfl rfl ?_
    refine x_iload_n (p' := 14) hC 1 (dAt dd_X9_areAnswer 10 rfl) rfl rfl rfl ?_
    refine x_icmp_ge (tgt := 71) (p' := 17) hC (dAt dd_X9_areAnswer 11 rfl) (by decide) rfl ?_ ?_
    · refine x_sub [2] rfl ?_
      exact hk71 x2 h
    · refine x_aload_n (p' := 18) hC 0 (dAt dd_X9_areAnswer 12 rfl) rfl rfl rfl ?_
      refine x_iload_n (p' := 19) hC 3 (dAt dd_X9_areAnswer 13 rfl) rfl rfl rfl ?_
      refine x_iaload (p' := 20) hC (dAt dd_X9_areAnswer 14 rfl) rfl (fun v1 => ?_)
      refine x_istore (lv' := [(4, .int v1), (0, va_rf x0), (1, .int x1), (2, .int x2), (3, .int x3)]) (p' := 22) hC (dAt dd_X9_areAnswer 15 rfl) (by decide) rfl rfl ?_
      refine x_iload (p' := 24) hC 0 (dAt dd_X9_areAnswer 16 rfl) rfl rfl ?_
      refine x_if_lt (tgt := 34) (p' := 27) hC (dAt dd_X9_areAnswer 17 rfl) (by decide) rfl ?_ ?_
      · refine x_iconst (v := 0) (p' := 35) hC (dAt dd_X9_areAnswer 21 rfl) (by decide) rfl ?_
        exact x_zreturn hC (dAt dd_X9_areAnswer 22 rfl)
      · refine x_iload (p' := 29) hC 0 (dAt dd_X9_areAnswer 18 rfl) rfl rfl ?_
        refine x_bipush (v := 121) (p' := 31) hC (dAt dd_X9_areAnswer 19 rfl) (by decide) rfl ?_
        refine x_icmp_le (tgt := 36) (p' := 34) hC (dAt dd_X9_areAnswer 20 rfl) (by decide) rfl ?_ ?_
        · refine x_iload (p' := 38) hC 0 (dAt dd_X9_areAnswer 23 rfl) rfl rfl ?_
          refine x_bipush (v := 120) (p' := 40) hC (dAt dd_X9_areAnswer 24 rfl) (by decide) rfl ?_
          refine x_icmp_ne (tgt := 49) (p' := 43) hC (dAt dd_X9_areAnswer 25 rfl) (by decide) rfl ?_ ?_
          · refine x_iload (p' := 51) hC 0 (dAt dd_X9_areAnswer 28 rfl) rfl rfl ?_
            refine x_bipush (v := 121) (p' := 53) hC (dAt dd_X9_areAnswer 29 rfl) (by decide) rfl ?_
            refine x_icmp_ne (tgt := 59) (p' := 56) hC (dAt dd_X9_areAnswer 30 rfl) (by decide) rfl ?_ ?_
            · refine x_sub [1, 2, 3, 4] rfl ?_
              exact t_X9_areAnswer_J59 hC (f_X9_areAnswer_L12 k71 n) ih x0 x1 x2 x3 h
            · refine x_iinc (w := (x2 + (-1))) (lv' := [(2, .int (x2 + (-1))), (4, .int v1), (0, va_rf x0), (1, .int x1), (3, .int x3)]) (p' := 59) hC 3 (dAt dd_X9_areAnswer 31 rfl) rfl rfl (by decide) rfl rfl ?_
              refine x_sub [2, 3, 0, 4] rfl ?_
              exact t_X9_areAnswer_J59 hC (f_X9_areAnswer_L12 k71 n) ih x0 x1 (x2 + (-1)) x3 h
          · refine x_iinc (w := (x2 + 1)) (lv' := [(2, .int (x2 + 1)), (4, .int v1), (0, va_rf x0), (1, .int x1), (3, .int x3)]) (p' := 46) hC 3 (dAt dd_X9_areAnswer 26 rfl) rfl rfl (by decide) rfl rfl ?_
            refine x_goto (tgt := 59) hC (dAt dd_X9_areAnswer 27 rfl) (by decide) ?_
            refine x_sub [2, 3, 0, 4] rfl ?_
            exact t_X9_areAnswer_J59 hC (f_X9_areAnswer_L12 k71 n) ih x0 x1 (x2 + 1) x3 h
        · refine x_iconst (v := 0) (p' := 35) hC (dAt dd_X9_areAnswer 21 rfl) (by decide) rfl ?_
          exact x_zreturn hC (dAt dd_X9_areAnswer 22 rfl)
set_option maxHeartbeats 4000000 in
set_option maxRecDepth 100000 in
theorem t_X9_areAnswer_J71 {C : CT} (hC : OKC C yX9_areAnswer cX9_areAnswer 5 (some .boolean) 0 0)   : ∀ (x2 : Int32) (h : AH), WX rvI C 71 [(2, .int x2)] [] h (f_X9_areAnswer_J71 x2 h) := by
  intro x2 h
  unfold f_X9_areAnswer_J71
  refine x_iload_n (p' := 72) hC 0 (dAt dd_X9_areAnswer 38 rfl) rfl rfl rfl ?_
  refine x_if_ne (tgt := 79) (p' := 75) hC (dAt dd_X9_areAnswer 39 rfl) (by decide) rfl ?_ ?_
  · refine x_iconst (v := 0) (p' := 80) hC (dAt dd_X9_areAnswer 42 rfl) (by decide) rfl ?_
    exact x_zreturn hC (dAt dd_X9_areAnswer 43 rfl)
  · refine x_iconst (v := 1) (p' := 76) hC (dAt dd_X9_areAnswer 40 rfl) (by decide) rfl ?_
    refine x_goto (tgt := 80) hC (dAt dd_X9_areAnswer 41 rfl) (by decide) ?_
    exact x_zreturn hC (dAt dd_X9_areAnswer 43 rfl)
set_option maxHeartbeats 4000000 in
set_option maxRecDepth 100000 in
theorem c_X9_areAnswer (l : Launch) (D : va_G) (cy : Nat → ClassId) (h : AH) (p0 : Option Nat) (p1 : Int32) : MX rvI l yX9_areAnswer (Cond.code yX9_areAnswer cX9_areAnswer 5 (some .boolean) :: LW) 0 0 D cy h [va_rf p0, .int p1] (f_X9_areAnswer h p0 p1) := by
  refine MX.of (lv := [(0, va_rf p0), (1, .int p1)]) (by decide) (by cases p0 <;> exact Nat.le_of_ble_eq_true rfl) (by cases p0 <;> rfl) (fun C hC _ => ?_)
  unfold f_X9_areAnswer
  refine x_iload_n (p' := 1) hC 1 (dAt dd_X9_areAnswer 0 rfl) rfl rfl rfl ?_
  refine x_bipush (v := 60) (p' := 3) hC (dAt dd_X9_areAnswer 1 rfl) (by decide) rfl ?_
  refine x_icmp_le (tgt := 8) (p' := 6) hC (dAt dd_X9_areAnswer 2 rfl) (by decide) rfl ?_ ?_
  · refine x_iconst (v := 0) (p' := 9) hC (dAt dd_X9_areAnswer 5 rfl) (by decide) rfl ?_
    refine x_istore_n (j := 2) (lv' := [(2, .int 0), (0, va_rf p0), (1, .int p1)]) (p' := 10) hC (dAt dd_X9_areAnswer 6 rfl) rfl (by decide) rfl rfl ?_
    refine x_iconst (v := 0) (p' := 11) hC (dAt dd_X9_areAnswer 7 rfl) (by decide) rfl ?_
    refine x_istore_n (j := 3) (lv' := [(3, .int 0), (2, .int 0), (0, va_rf p0), (1, .int p1)]) (p' := 12) hC (dAt dd_X9_areAnswer 8 rfl) rfl (by decide) rfl rfl ?_
    refine x_sub [2, 3, 1, 0] rfl ?_
    exact t_X9_areAnswer_L12 hC f_X9_areAnswer_J71 (t_X9_areAnswer_J71 hC) FU p0 p1 0 0 h
  · refine x_iconst (v := 0) (p' := 7) hC (dAt dd_X9_areAnswer 3 rfl) (by decide) rfl ?_
    exact x_zreturn hC (dAt dd_X9_areAnswer 4 rfl)
set_option maxHeartbeats 4000000 in
set_option maxRecDepth 100000 in
theorem c_X3_isAnswer (l : Launch) (D : va_G) (cy : Nat → ClassId) (h : AH) (a0 : Nat) : MX rvI l yX3_isAnswer (Cond.code yX3_isAnswer cX3_isAnswer 1 (some .boolean) :: LW) 1 24 D cy h [va_rf (some a0)] (f_X3_isAnswer h a0) := by
  refine MX.of (lv := [(0, va_rf (some a0))]) (by decide) (Nat.le_of_ble_eq_true rfl) rfl (fun C hC _ => ?_)
  unfold f_X3_isAnswer
  refine x_aload_n (p' := 1) hC 0 (dAt dd_X3_isAnswer 0 rfl) rfl rfl rfl ?_
  refine x_getR (p' := 4) hC fk_RX3_9 rfl (dAt dd_X3_isAnswer 1 rfl) rfl (fun r1 => ?_)
  refine x_aload_n (p' := 5) hC 0 (dAt dd_X3_isAnswer 2 rfl) rfl rfl rfl ?_
  refine x_getI (p' := 8) hC fk_RX3_15 rfl (dAt dd_X3_isAnswer 3 rfl) rfl (fun v2 => ?_)
  refine x_callSI (As := [va_rf r1, .int v2]) (p' := 11) hC (c_X9_areAnswer _ _ _ h r1 v2) k_550 k_314 k_12 k_315 hd_X9_areAnswer ⟨by decide, by decide⟩ rfl (Nat.le_of_ble_eq_true rfl) rfl (dAt dd_X3_isAnswer 4 rfl) rfl (fun v3 h4 => ?_)
  exact x_zreturn hC (dAt dd_X3_isAnswer 5 rfl)
set_option maxHeartbeats 4000000 in
set_option maxRecDepth 100000 in
theorem c_J7_copyOf_59c91 (l : Launch) (D : va_G) (cy : Nat → ClassId) (h : AH) (p0 : Option Nat) (p1 : Int32) : MX rvR l yJ7_copyOf_59c91 (Cond.code yJ7_copyOf_59c91 cJ7_copyOf_59c91 3 (some (.array .int)) :: LW) 1 40 D cy h [va_rf p0, .int p1] (f_J7_copyOf_59c91 h p0 p1) := by
  refine MX.of (lv := [(0, va_rf p0), (1, .int p1)]) (by decide) (by cases p0 <;> exact Nat.le_of_ble_eq_true rfl) (by cases p0 <;> rfl) (fun C hC _ => ?_)
  unfold f_J7_copyOf_59c91
  refine x_iload_n (p' := 1) hC 1 (dAt dd_J7_copyOf_59c91 0 rfl) rfl rfl rfl ?_
  refine x_aload_n (p' := 2) hC 0 (dAt dd_J7_copyOf_59c91 1 rfl) rfl rfl rfl ?_
  refine x_arraylength 12 0 (p' := 3) hC rfl (by decide) (dAt dd_J7_copyOf_59c91 2 rfl) rfl (fun v1 => ?_)
  refine x_icmp_ne (tgt := 14) (p' := 6) hC (dAt dd_J7_copyOf_59c91 3 rfl) (by decide) rfl ?_ ?_
  · refine x_iload_n (p' := 15) hC 1 (dAt dd_J7_copyOf_59c91 8 rfl) rfl rfl rfl ?_
    refine x_newarray 12 0 (p' := 17) hC (Or.inl ⟨rfl, rfl, rfl⟩) k_41 (dAt dd_J7_copyOf_59c91 9 rfl) rfl (fun a2 h3 => ?_)
    refine x_astore_n (j := 2) (lv' := [(2, va_rf (some a2)), (0, va_rf p0), (1, .int p1)]) (p' := 18) hC (dAt dd_J7_copyOf_59c91 10 rfl) rfl (by decide) rfl rfl ?_
    refine x_aload_n (p' := 19) hC 1 (dAt dd_J7_copyOf_59c91 11 rfl) rfl rfl rfl ?_
    refine x_iconst (v := 0) (p' := 20) hC (dAt dd_J7_copyOf_59c91 12 rfl) (by decide) rfl ?_
    refine x_aload_n (p' := 21) hC 0 (dAt dd_J7_copyOf_59c91 13 rfl) rfl rfl rfl ?_
    refine x_iconst (v := 0) (p' := 22) hC (dAt dd_J7_copyOf_59c91 14 rfl) (by decide) rfl ?_
    refine x_aload_n (p' := 23) hC 1 (dAt dd_J7_copyOf_59c91 15 rfl) rfl rfl rfl ?_
    refine x_arraylength 12 0 (p' := 24) hC rfl (by decide) (dAt dd_J7_copyOf_59c91 16 rfl) rfl (fun v4 => ?_)
    refine x_iload_n (p' := 25) hC 2 (dAt dd_J7_copyOf_59c91 17 rfl) rfl rfl rfl ?_
    refine x_mathMin (p' := 28) hC k_386 k_346 k_13 k_mathMin ⟨by decide, (by cases p0 <;> exact Nat.le_of_ble_eq_true rfl)⟩ (dAt dd_J7_copyOf_59c91 18 rfl) rfl ?_
    refine x_copy (p' := 31) hC k_387 k_304 k_303 k_11 ⟨by decide, (Nat.le_of_ble_eq_true rfl)⟩ (dAt dd_J7_copyOf_59c91 19 rfl) rfl (fun h5 => ?_)
    refine x_aload_n (p' := 32) hC 0 (dAt dd_J7_copyOf_59c91 20 rfl) rfl rfl rfl ?_
    exact x_areturn hC (Or.inr ⟨_, rfl⟩) (dAt dd_J7_copyOf_59c91 21 rfl)
  · refine x_aload_n (p' := 7) hC 0 (dAt dd_J7_copyOf_59c91 4 rfl) rfl rfl rfl ?_
    refine x_clone (p' := 10) hC k_379 k_380 k_381 k_382 k_383 ⟨by decide, (Nat.le_of_ble_eq_true rfl)⟩ (dAt dd_J7_copyOf_59c91 5 rfl) rfl (fun a6 h7 => ?_)
    refine x_castI (p' := 13) hC k_385 (dAt dd_J7_copyOf_59c91 6 rfl) rfl ?_
    exact x_areturn hC (Or.inr ⟨_, rfl⟩) (dAt dd_J7_copyOf_59c91 7 rfl)
set_option maxHeartbeats 4000000 in
set_option maxRecDepth 100000 in
theorem c_X3_toAnswer (l : Launch) (D : va_G) (cy : Nat → ClassId) (h : AH) (a0 : Nat) : MX rvR l yX3_toAnswer (Cond.code yX3_toAnswer cX3_toAnswer 2 (some (.object "GoldenKeeper$Answer")) :: LW) 2 62 D cy h [va_rf (some a0)] (f_X3_toAnswer h a0) := by
  refine MX.of (lv := [(0, va_rf (some a0))]) (by decide) (Nat.le_of_ble_eq_true rfl) rfl (fun C hC _ => ?_)
  unfold f_X3_toAnswer
  refine x_aload_n (p' := 1) hC 0 (dAt dd_X3_toAnswer 0 rfl) rfl rfl rfl ?_
  refine x_getR (p' := 4) hC fk_RX3_9 rfl (dAt dd_X3_toAnswer 1 rfl) rfl (fun r1 => ?_)
  refine x_aload_n (p' := 5) hC 0 (dAt dd_X3_toAnswer 2 rfl) rfl rfl rfl ?_
  refine x_getI (p' := 8) hC fk_RX3_15 rfl (dAt dd_X3_toAnswer 3 rfl) rfl (fun v2 => ?_)
  refine x_callSR (As := [va_rf r1, .int v2]) (p' := 11) hC (c_J7_copyOf_59c91 _ _ _ h r1 v2) k_617 k_377 k_10 k_378 hd_J7_copyOf_59c91 ⟨by decide, by decide⟩ rfl (Nat.le_of_ble_eq_true rfl) rfl (dAt dd_X3_toAnswer 4 rfl) rfl (fun r3 h4 => ?_)
  refine x_astore_n (j := 1) (lv' := [(1, va_rf r3), (0, va_rf (some a0))]) (p' := 12) hC (dAt dd_X3_toAnswer 5 rfl) rfl (by decide) rfl rfl ?_
  refine x_new (ci := 0) (p' := 15) hC in_RX0 rfl rfl (by decide) tk_RX0 df_RX0 k_618 k_375 k_15 (dAt dd_X3_toAnswer 6 rfl) rfl (fun a5 h6 => ?_)
  refine x_dup (p' := 16) hC (dAt dd_X3_toAnswer 7 rfl) (x_cat _) rfl ?_
  refine x_aload_n (p' := 17) hC 0 (dAt dd_X3_toAnswer 8 rfl) rfl rfl rfl ?_
  refine x_aload_n (p' := 18) hC 0 (dAt dd_X3_toAnswer 9 rfl) rfl rfl rfl ?_
  refine x_callIV (As := [va_rf r3, va_rf r3]) (b := a5) (p' := 21) hC (c_X0_init _ _ _ h6 a5 r3 r3) k_390 k_15 k_619 k_389 rfl hd_X0_init ⟨by decide, by decide⟩ rfl (Nat.le_of_ble_eq_true rfl) rfl (dAt dd_X3_toAnswer 10 rfl) rfl (fun u7 h8 => ?_)
  exact x_areturn hC (Or.inl ⟨_, rfl⟩) (dAt dd_X3_toAnswer 11 rfl)
set_option maxHeartbeats 4000000 in
set_option maxRecDepth 100000 in
theorem c_X4_init (l : Launch) (D : va_G) (cy : Nat → ClassId) (h : AH) (a0 : Nat) (p1 : Int32) (p2 : Int32) (p3 : Int32) : MX rvV l yX4_init (Cond.code yX4_init cX4_init 5 none :: LW) 1 13 D cy h [va_rf (some a0), .int p1, .int p2, .int p3] (f_X4_init h a0 p1 p2 p3) := by
  refine MX.of (lv := [(0, va_rf (some a0)), (1, .int p1), (2, .int p2), (3, .int p3)]) (by decide) (Nat.le_of_ble_eq_true rfl) rfl (fun C hC _ => ?_)
  unfold f_X4_init
  refine x_aload_n (p' := 1) hC 0 (dAt dd_X4_init 0 rfl) rfl rfl rfl ?_
  refine x_objInit (p' := 4) hC k_556 k_23 k_objcode ⟨by decide, (Nat.le_of_ble_eq_true rfl)⟩ (dAt dd_X4_init 1 rfl) rfl ?_
  refine x_aload_n (p' := 5) hC 0 (dAt dd_X4_init 2 rfl) rfl rfl rfl ?_
  refine x_iconst (v := 0) (p' := 6) hC (dAt dd_X4_init 3 rfl) (by decide) rfl ?_
  refine x_putI (p' := 9) hC fk_RX4_7 tk_RX4 rfl rfl (Or.inl rfl) (dAt dd_X4_init 4 rfl) rfl (fun h1 => ?_)
  refine x_aload_n (p' := 10) hC 0 (dAt dd_X4_init 5 rfl) rfl rfl rfl ?_
  refine x_iconst (v := 0) (p' := 11) hC (dAt dd_X4_init 6 rfl) (by decide) rfl ?_
  refine x_putI (p' := 14) hC fk_RX4_13 tk_RX4 rfl rfl (Or.inl rfl) (dAt dd_X4_init 7 rfl) rfl (fun h2 => ?_)
  refine x_aload_n (p' := 15) hC 0 (dAt dd_X4_init 8 rfl) rfl rfl rfl ?_
  refine x_iconst (v := 0) (p' := 16) hC (dAt dd_X4_init 9 rfl) (by decide) rfl ?_
  refine x_putZ (p' := 19) hC fk_RX4_16 tk_RX4 rfl rfl (Or.inl rfl) (dAt dd_X4_init 10 rfl) rfl (fun h3 => ?_)
  refine x_aload_n (p' := 20) hC 0 (dAt dd_X4_init 11 rfl) rfl rfl rfl ?_
  refine x_iconst (v := 0) (p' := 21) hC (dAt dd_X4_init 12 rfl) (by decide) rfl ?_
  refine x_putI (p' := 24) hC fk_RX4_20 tk_RX4 rfl rfl (Or.inl rfl) (dAt dd_X4_init 13 rfl) rfl (fun h4 => ?_)
  refine x_aload_n (p' := 25) hC 0 (dAt dd_X4_init 14 rfl) rfl rfl rfl ?_
  refine x_iload_n (p' := 26) hC 1 (dAt dd_X4_init 15 rfl) rfl rfl rfl ?_
  refine x_putI (p' := 29) hC fk_RX4_23 tk_RX4 rfl rfl (Or.inr ⟨rfl, rfl, rfl⟩) (dAt dd_X4_init 16 rfl) rfl (fun h5 => ?_)
  refine x_aload_n (p' := 30) hC 0 (dAt dd_X4_init 17 rfl) rfl rfl rfl ?_
  refine x_iload_n (p' := 31) hC 2 (dAt dd_X4_init 18 rfl) rfl rfl rfl ?_
  refine x_putI (p' := 34) hC fk_RX4_26 tk_RX4 rfl rfl (Or.inr ⟨rfl, rfl, rfl⟩) (dAt dd_X4_init 19 rfl) rfl (fun h6 => ?_)
  refine x_iload_n (p' := 35) hC 3 (dAt dd_X4_init 20 rfl) rfl rfl rfl ?_
  refine x_iconst (v := 0) (p' := 36) hC (dAt dd_X4_init 21 rfl) (by decide) rfl ?_
  refine x_mathMax (p' := 39) hC k_557 k_558 k_13 k_mathMax ⟨by decide, (Nat.le_of_ble_eq_true rfl)⟩ (dAt dd_X4_init 22 rfl) rfl ?_
  refine x_istore (lv' := [(4, .int (if p3 < 0 then 0 else p3)), (0, va_rf (some a0)), (1, .int p1), (2, .int p2), (3, .int p3)]) (p' := 41) hC (dAt dd_X4_init 23 rfl) (by decide) rfl rfl ?_
  refine x_aload_n (p' := 42) hC 1 (dAt dd_X4_init 24 rfl) rfl rfl rfl ?_
  refine x_iload (p' := 44) hC 0 (dAt dd_X4_init 25 rfl) rfl rfl ?_
  refine x_newarray 12 0 (p' := 46) hC (Or.inl ⟨rfl, rfl, rfl⟩) k_41 (dAt dd_X4_init 26 rfl) rfl (fun a7 h8 => ?_)
  refine x_putR (p' := 49) hC fk_RX4_35 tk_RX4 rfl (Or.inr ⟨_, rfl⟩) (Or.inr ⟨rfl, rfl, rfl⟩) (dAt dd_X4_init 27 rfl) rfl (fun h9 => ?_)
  refine x_aload_n (p' := 50) hC 1 (dAt dd_X4_init 28 rfl) rfl rfl rfl ?_
  refine x_iload (p' := 52) hC 0 (dAt dd_X4_init 29 rfl) rfl rfl ?_
  refine x_anewarray (Cn := "GoldenKeeper$Answer") 14 2 (p' := 55) hC rfl (by decide) hC.ao_Answer k_560 (dAt dd_X4_init 30 rfl) rfl (fun a10 h11 => ?_)
  refine x_putR (p' := 58) hC fk_RX4_41 tk_RX4 rfl (Or.inr ⟨_, rfl⟩) (Or.inr ⟨rfl, rfl, rfl⟩) (dAt dd_X4_init 31 rfl) rfl (fun h12 => ?_)
  exact x_return hC (dAt dd_X4_init 32 rfl)
set_option maxHeartbeats 4000000 in
set_option maxRecDepth 100000 in
theorem c_X4_remember (l : Launch) (D : va_G) (cy : Nat → ClassId) (h : AH) (a0 : Nat) (p1 : Int32) (p2 : Option Nat) : MX rvV l yX4_remember (Cond.code yX4_remember cX4_remember 3 none :: LW) 0 0 D cy h [va_rf (some a0), .int p1, va_rf p2] (f_X4_remember h a0 p1 p2) := by
  refine MX.of (lv := [(0, va_rf (some a0)), (1, .int p1), (2, va_rf p2)]) (by decide) (by cases p2 <;> exact Nat.le_of_ble_eq_true rfl) (by cases p2 <;> rfl) (fun C hC _ => ?_)
  unfold f_X4_remember
  refine x_aload_n (p' := 1) hC 0 (dAt dd_X4_remember 0 rfl) rfl rfl rfl ?_
  refine x_getI (p' := 4) hC fk_RX4_20 rfl (dAt dd_X4_remember 1 rfl) rfl (fun v1 => ?_)
  refine x_aload_n (p' := 5) hC 0 (dAt dd_X4_remember 2 rfl) rfl rfl rfl ?_
  refine x_getR (p' := 8) hC fk_RX4_35 rfl (dAt dd_X4_remember 3 rfl) rfl (fun r2 => ?_)
  refine x_arraylength 12 0 (p' := 9) hC rfl (by decide) (dAt dd_X4_remember 4 rfl) rfl (fun v3 => ?_)
  refine x_icmp_ge (tgt := 42) (p' := 12) hC (dAt dd_X4_remember 5 rfl) (by decide) rfl ?_ ?_
  · exact x_return hC (dAt dd_X4_remember 24 rfl)
  · refine x_aload_n (p' := 13) hC 0 (dAt dd_X4_remember 6 rfl) rfl rfl rfl ?_
    refine x_getR (p' := 16) hC fk_RX4_35 rfl (dAt dd_X4_remember 7 rfl) rfl (fun r4 => ?_)
    refine x_aload_n (p' := 17) hC 0 (dAt dd_X4_remember 8 rfl) rfl rfl rfl ?_
    refine x_getI (p' := 20) hC fk_RX4_20 rfl (dAt dd_X4_remember 9 rfl) rfl (fun v5 => ?_)
    refine x_iload_n (p' := 21) hC 1 (dAt dd_X4_remember 10 rfl) rfl rfl rfl ?_
    refine x_iastore (p' := 22) hC (dAt dd_X4_remember 11 rfl) rfl (fun h6 => ?_)
    refine x_aload_n (p' := 23) hC 0 (dAt dd_X4_remember 12 rfl) rfl rfl rfl ?_
    refine x_getR (p' := 26) hC fk_RX4_41 rfl (dAt dd_X4_remember 13 rfl) rfl (fun r7 => ?_)
    refine x_aload_n (p' := 27) hC 0 (dAt dd_X4_remember 14 rfl) rfl rfl rfl ?_
    refine x_getI (p' := 30) hC fk_RX4_20 rfl (dAt dd_X4_remember 15 rfl) rfl (fun v8 => ?_)
    refine x_aload_n (p' := 31) hC 2 (dAt dd_X4_remember 16 rfl) rfl rfl rfl ?_
    refine x_aastore 14 2 0 (w := (RX0, TX0, 2)) (p' := 32) hC rfl rfl (by decide) (by decide) (dAt dd_X4_remember 17 rfl) rfl (fun h9 => ?_)
    refine x_aload_n (p' := 33) hC 0 (dAt dd_X4_remember 18 rfl) rfl rfl rfl ?_
    refine x_dup (p' := 34) hC (dAt dd_X4_remember 19 rfl) (x_cat _) rfl ?_
    refine x_getI (p' := 37) hC fk_RX4_20 rfl (dAt dd_X4_remember 20 rfl) rfl (fun v10 => ?_)
    refine x_iconst (v := 1) (p' := 38) hC (dAt dd_X4_remember 21 rfl) (by decide) rfl ?_
    refine x_iadd (p' := 39) hC (dAt dd_X4_remember 22 rfl) rfl ?_
    refine x_putI (p' := 42) hC fk_RX4_20 tk_RX4 rfl rfl (Or.inl rfl) (dAt dd_X4_remember 23 rfl) rfl (fun h11 => ?_)
    exact x_return hC (dAt dd_X4_remember 24 rfl)
set_option maxHeartbeats 4000000 in
set_option maxRecDepth 100000 in
theorem c_X5_init (l : Launch) (D : va_G) (cy : Nat → ClassId) (h : AH) (a0 : Nat) (p1 : Int32) : MX rvV l yX5_init (Cond.code yX5_init cX5_init 2 none :: LW) 1 12 D cy h [va_rf (some a0), .int p1] (f_X5_init h a0 p1) := by
  refine MX.of (lv := [(0, va_rf (some a0)), (1, .int p1)]) (by decide) (Nat.le_of_ble_eq_true rfl) rfl (fun C hC _ => ?_)
  unfold f_X5_init
  refine x_aload_n (p' := 1) hC 0 (dAt dd_X5_init 0 rfl) rfl rfl rfl ?_
  refine x_objInit (p' := 4) hC k_85 k_23 k_objcode ⟨by decide, (Nat.le_of_ble_eq_true rfl)⟩ (dAt dd_X5_init 1 rfl) rfl ?_
  refine x_aload_n (p' := 5) hC 0 (dAt dd_X5_init 2 rfl) rfl rfl rfl ?_
  refine x_bipush (v := 60) (p' := 7) hC (dAt dd_X5_init 3 rfl) (by decide) rfl ?_
  refine x_newarray 12 0 (p' := 9) hC (Or.inl ⟨rfl, rfl, rfl⟩) k_41 (dAt dd_X5_init 4 rfl) rfl (fun a1 h2 => ?_)
  refine x_putR (p' := 12) hC fk_RX5_9 tk_RX5 rfl (Or.inr ⟨_, rfl⟩) (Or.inr ⟨rfl, rfl, rfl⟩) (dAt dd_X5_init 5 rfl) rfl (fun h3 => ?_)
  refine x_aload_n (p' := 13) hC 0 (dAt dd_X5_init 6 rfl) rfl rfl rfl ?_
  refine x_bipush (v := 60) (p' := 15) hC (dAt dd_X5_init 7 rfl) (by decide) rfl ?_
  refine x_newarray 12 0 (p' := 17) hC (Or.inl ⟨rfl, rfl, rfl⟩) k_41 (dAt dd_X5_init 8 rfl) rfl (fun a4 h5 => ?_)
  refine x_putR (p' := 20) hC fk_RX5_15 tk_RX5 rfl (Or.inr ⟨_, rfl⟩) (Or.inr ⟨rfl, rfl, rfl⟩) (dAt dd_X5_init 9 rfl) rfl (fun h6 => ?_)
  refine x_aload_n (p' := 21) hC 0 (dAt dd_X5_init 10 rfl) rfl rfl rfl ?_
  refine x_bipush (v := 61) (p' := 23) hC (dAt dd_X5_init 11 rfl) (by decide) rfl ?_
  refine x_newarray 12 0 (p' := 25) hC (Or.inl ⟨rfl, rfl, rfl⟩) k_41 (dAt dd_X5_init 12 rfl) rfl (fun a7 h8 => ?_)
  refine x_putR (p' := 28) hC fk_RX5_18 tk_RX5 rfl (Or.inr ⟨_, rfl⟩) (Or.inr ⟨rfl, rfl, rfl⟩) (dAt dd_X5_init 13 rfl) rfl (fun h9 => ?_)
  refine x_aload_n (p' := 29) hC 0 (dAt dd_X5_init 14 rfl) rfl rfl rfl ?_
  refine x_bipush (v := 60) (p' := 31) hC (dAt dd_X5_init 15 rfl) (by decide) rfl ?_
  refine x_newarray 12 0 (p' := 33) hC (Or.inl ⟨rfl, rfl, rfl⟩) k_41 (dAt dd_X5_init 16 rfl) rfl (fun a10 h11 => ?_)
  refine x_putR (p' := 36) hC fk_RX5_21 tk_RX5 rfl (Or.inr ⟨_, rfl⟩) (Or.inr ⟨rfl, rfl, rfl⟩) (dAt dd_X5_init 17 rfl) rfl (fun h12 => ?_)
  refine x_aload_n (p' := 37) hC 0 (dAt dd_X5_init 18 rfl) rfl rfl rfl ?_
  refine x_bipush (v := 60) (p' := 39) hC (dAt dd_X5_init 19 rfl) (by decide) rfl ?_
  refine x_newarray 12 0 (p' := 41) hC (Or.inl ⟨rfl, rfl, rfl⟩) k_41 (dAt dd_X5_init 20 rfl) rfl (fun a13 h14 => ?_)
  refine x_putR (p' := 44) hC fk_RX5_24 tk_RX5 rfl (Or.inr ⟨_, rfl⟩) (Or.inr ⟨rfl, rfl, rfl⟩) (dAt dd_X5_init 21 rfl) rfl (fun h15 => ?_)
  refine x_aload_n (p' := 45) hC 0 (dAt dd_X5_init 22 rfl) rfl rfl rfl ?_
  refine x_bipush (v := 10) (p' := 47) hC (dAt dd_X5_init 23 rfl) (by decide) rfl ?_
  refine x_newarray 12 0 (p' := 49) hC (Or.inl ⟨rfl, rfl, rfl⟩) k_41 (dAt dd_X5_init 24 rfl) rfl (fun a16 h17 => ?_)
  refine x_putR (p' := 52) hC fk_RX5_27 tk_RX5 rfl (Or.inr ⟨_, rfl⟩) (Or.inr ⟨rfl, rfl, rfl⟩) (dAt dd_X5_init 25 rfl) rfl (fun h18 => ?_)
  refine x_aload_n (p' := 53) hC 0 (dAt dd_X5_init 26 rfl) rfl rfl rfl ?_
  refine x_iload_n (p' := 54) hC 1 (dAt dd_X5_init 27 rfl) rfl rfl rfl ?_
  refine x_putI (p' := 57) hC fk_RX5_30 tk_RX5 rfl rfl (Or.inr ⟨rfl, rfl, rfl⟩) (dAt dd_X5_init 28 rfl) rfl (fun h19 => ?_)
  exact x_return hC (dAt dd_X5_init 29 rfl)
set_option maxHeartbeats 4000000 in
set_option maxRecDepth 100000 in
theorem c_X9_isDate (l : Launch) (D : va_G) (cy : Nat → ClassId) (h : AH) (p0 : Int32) : MX rvI l yX9_isDate (Cond.code yX9_isDate cX9_isDate 1 (some .boolean) :: LW) 0 0 D cy h [.int p0] (f_X9_isDate h p0) := by
  refine MX.of (lv := [(0, .int p0)]) (by decide) (Nat.le_of_ble_eq_true rfl) rfl (fun C hC _ => ?_)
  unfold f_X9_isDate
  refine x_iload_n (p' := 1) hC 0 (dAt dd_X9_isDate 0 rfl) rfl rfl rfl ?_
  refine x_bipush (v := 99) (p' := 3) hC (dAt dd_X9_isDate 1 rfl) (by decide) rfl ?_
  refine x_icmp_le (tgt := 16) (p' := 6) hC (dAt dd_X9_isDate 2 rfl) (by decide) rfl ?_ ?_
  · refine x_iconst (v := 0) (p' := 17) hC (dAt dd_X9_isDate 8 rfl) (by decide) rfl ?_
    exact x_zreturn hC (dAt dd_X9_isDate 9 rfl)
  · refine x_iload_n (p' := 7) hC 0 (dAt dd_X9_isDate 3 rfl) rfl rfl rfl ?_
    refine x_bipush (v := 109) (p' := 9) hC (dAt dd_X9_isDate 4 rfl) (by decide) rfl ?_
    refine x_icmp_gt (tgt := 16) (p' := 12) hC (dAt dd_X9_isDate 5 rfl) (by decide) rfl ?_ ?_
    · refine x_iconst (v := 0) (p' := 17) hC (dAt dd_X9_isDate 8 rfl) (by decide) rfl ?_
      exact x_zreturn hC (dAt dd_X9_isDate 9 rfl)
    · refine x_iconst (v := 1) (p' := 13) hC (dAt dd_X9_isDate 6 rfl) (by decide) rfl ?_
      refine x_goto (tgt := 17) hC (dAt dd_X9_isDate 7 rfl) (by decide) ?_
      exact x_zreturn hC (dAt dd_X9_isDate 9 rfl)
set_option maxHeartbeats 4000000 in
set_option maxRecDepth 100000 in
theorem t_X5_levelDates_L2 {C : CT} (hC : OKC C yX5_levelDates cX5_levelDates 3 none 1 20)   : ∀ (n : Nat) (x0 : Nat) (x1 : Int32) (x2 : Int32) (h : AH), WX rvV C 2 [(0, va_rf (some x0)), (1, .int x1), (2, .int x2)] [] h (f_X5_levelDates_L2 n x0 x1 x2 h) := by
  intro n
  induction n with
  | zero => intro _ _ _ _; exact x_none
  | succ n ih =>
    intro x0 x1 x2 h
    rw [f_X5_levelDates_L2]
    refine x_iload_n (p' := 3) hC 2 (dAt dd_X5_levelDates 2 rfl) rfl rfl rfl ?_
    refine x_iload_n (p' := 4) hC 1 (dAt dd_X5_levelDates 3 rfl) rfl rfl rfl ?_
    refine x_icmp_ge (tgt := 33) (p' := 7) hC (dAt dd_X5_levelDates 4 rfl) (by decide) rfl ?_ ?_
    · exact x_return hC (dAt dd_X5_levelDates 18 rfl)
    · refine x_aload_n (p' := 8) hC 0 (dAt dd_X5_levelDates 5 rfl) rfl rfl rfl ?_
      refine x_getR (p' := 11) hC fk_RX5_9 rfl (dAt dd_X5_levelDates 6 rfl) rfl (fun r1 => ?_)
      refine x_iload_n (p' := 12) hC 2 (dAt dd_X5_levelDates 7 rfl) rfl rfl rfl ?_
      refine x_iaload (p' := 13) hC (dAt dd_X5_levelDates 8 rfl) rfl (fun v2 => ?_)
      refine x_callSI (As := [.int v2]) (p' := 16) hC (c_X9_isDate _ _ _ h v2) k_326 k_327 k_12 k_328 hd_X9_isDate ⟨by decide, by decide⟩ rfl (Nat.le_of_ble_eq_true rfl) rfl (dAt dd_X5_levelDates 9 rfl) rfl (fun v3 h4 => ?_)
      refine x_if_eq (tgt := 27) (p' := 19) hC (dAt dd_X5_levelDates 10 rfl) (by decide) rfl ?_ ?_
      · refine x_iinc (w := (x2 + 1)) (lv' := [(2, .int (x2 + 1)), (0, va_rf (some x0)), (1, .int x1)]) (p' := 30) hC 2 (dAt dd_X5_levelDates 16 rfl) rfl rfl (by decide) rfl rfl ?_
        refine x_goto (tgt := 2) hC (dAt dd_X5_levelDates 17 rfl) (by decide) ?_
        refine x_sub [1, 2, 0] rfl ?_
        exact ih x0 x1 (x2 + 1) h4
      · refine x_aload_n (p' := 20) hC 0 (dAt dd_X5_levelDates 11 rfl) rfl rfl rfl ?_
        refine x_getR (p' := 23) hC fk_RX5_9 rfl (dAt dd_X5_levelDates 12 rfl) rfl (fun r5 => ?_)
        refine x_iload_n (p' := 24) hC 2 (dAt dd_X5_levelDates 13 rfl) rfl rfl rfl ?_
        refine x_bipush (v := 100) (p' := 26) hC (dAt dd_X5_levelDates 14 rfl) (by decide) rfl ?_
        refine x_iastore (p' := 27) hC (dAt dd_X5_levelDates 15 rfl) rfl (fun h6 => ?_)
        refine x_iinc (w := (x2 + 1)) (lv' := [(2, .int (x2 + 1)), (0, va_rf (some x0)), (1, .int x1)]) (p' := 30) hC 2 (dAt dd_X5_levelDates 16 rfl) rfl rfl (by decide) rfl rfl ?_
        refine x_goto (tgt := 2) hC (dAt dd_X5_levelDates 17 rfl) (by decide) ?_
        refine x_sub [1, 2, 0] rfl ?_
        exact ih x0 x1 (x2 + 1) h6
set_option maxHeartbeats 4000000 in
set_option maxRecDepth 100000 in
theorem c_X5_levelDates (l : Launch) (D : va_G) (cy : Nat → ClassId) (h : AH) (a0 : Nat) (p1 : Int32) : MX rvV l yX5_levelDates (Cond.code yX5_levelDates cX5_levelDates 3 none :: LW) 1 20 D cy h [va_rf (some a0), .int p1] (f_X5_levelDates h a0 p1) := by
  refine MX.of (lv := [(0, va_rf (some a0)), (1, .int p1)]) (by decide) (Nat.le_of_ble_eq_true rfl) rfl (fun C hC _ => ?_)
  unfold f_X5_levelDates
  refine x_iconst (v := 0) (p' := 1) hC (dAt dd_X5_levelDates 0 rfl) (by decide) rfl ?_
  refine x_istore_n (j := 2) (lv' := [(2, .int 0), (0, va_rf (some a0)), (1, .int p1)]) (p' := 2) hC (dAt dd_X5_levelDates 1 rfl) rfl (by decide) rfl rfl ?_
  refine x_sub [1, 2, 0] rfl ?_
  exact t_X5_levelDates_L2 hC FU a0 p1 0 h
set_option maxHeartbeats 4000000 in
set_option maxRecDepth 100000 in
theorem t_X5_findParts_J30 {C : CT} (hC : OKC C yX5_findParts cX5_findParts 6 (some .int) 0 0) (k8 : Nat → Int32 → Int32 → Int32 → Int32 → AH → RX Int32) (hk8 : ∀ (x0 : Nat) (x2 : Int32) (x3 : Int32) (x4 : Int32) (x5 : Int32) (h : AH), WX rvI C 8 [(0, va_rf (some x0)), (2, .int x2), (3, .int x3), (4, .int x4), (5, .int x5)] [] h (k8 x0 x2 x3 x4 x5 h)) : ∀ (x0 : Nat) (x2 : Int32) (x3 : Int32) (x4 : Int32) (x5 : Int32) (h : AH), WX rvI C 30 [(0, va_rf (some x0)), (2, .int x2), (3, .int x3), (4, .int x4), (5, .int x5)] [] h (f_X5_findParts_J30 k8 x0 x2 x3 x4 x5 h) := by
  intro x0 x2 x3 x4 x5 h
  unfold f_X5_findParts_J30
  refine x_aload_n (p' := 31) hC 0 (dAt dd_X5_findParts 17 rfl) rfl rfl rfl ?_
  refine x_getR (p' := 34) hC fk_RX5_9 rfl (dAt dd_X5_findParts 18 rfl) rfl (fun r1 => ?_)
  refine x_iload (p' := 36) hC 4 (dAt dd_X5_findParts 19 rfl) rfl rfl ?_
  refine x_iaload (p' := 37) hC (dAt dd_X5_findParts 20 rfl) rfl (fun v2 => ?_)
  refine x_bipush (v := 120) (p' := 39) hC (dAt dd_X5_findParts 21 rfl) (by decide) rfl ?_
  refine x_icmp_ne (tgt := 48) (p' := 42) hC (dAt dd_X5_findParts 22 rfl) (by decide) rfl ?_ ?_
  · refine x_aload_n (p' := 49) hC 0 (dAt dd_X5_findParts 25 rfl) rfl rfl rfl ?_
    refine x_getR (p' := 52) hC fk_RX5_9 rfl (dAt dd_X5_findParts 26 rfl) rfl (fun r3 => ?_)
    refine x_iload (p' := 54) hC 4 (dAt dd_X5_findParts 27 rfl) rfl rfl ?_
    refine x_iaload (p' := 55) hC (dAt dd_X5_findParts 28 rfl) rfl (fun v4 => ?_)
    refine x_bipush (v := 121) (p' := 57) hC (dAt dd_X5_findParts 29 rfl) (by decide) rfl ?_
    refine x_icmp_ne (tgt := 63) (p' := 60) hC (dAt dd_X5_findParts 30 rfl) (by decide) rfl ?_ ?_
    · refine x_iinc (w := (x5 + 1)) (lv' := [(5, .int (x5 + 1)), (0, va_rf (some x0)), (2, .int x2), (3, .int x3), (4, .int x4)]) (p' := 66) hC 4 (dAt dd_X5_findParts 32 rfl) rfl rfl (by decide) rfl rfl ?_
      refine x_goto (tgt := 8) hC (dAt dd_X5_findParts 33 rfl) (by decide) ?_
      refine x_sub [1, 2, 3, 4, 0] rfl ?_
      exact hk8 x0 x2 x3 x4 (x5 + 1) h
    · refine x_iinc (w := (x4 + (-1))) (lv' := [(4, .int (x4 + (-1))), (0, va_rf (some x0)), (2, .int x2), (3, .int x3), (5, .int x5)]) (p' := 63) hC 3 (dAt dd_X5_findParts 31 rfl) rfl rfl (by decide) rfl rfl ?_
      refine x_iinc (w := (x5 + 1)) (lv' := [(5, .int (x5 + 1)), (4, .int (x4 + (-1))), (0, va_rf (some x0)), (2, .int x2), (3, .int x3)]) (p' := 66) hC 4 (dAt dd_X5_findParts 32 rfl) rfl rfl (by decide) rfl rfl ?_
      refine x_goto (tgt := 8) hC (dAt dd_X5_findParts 33 rfl) (by decide) ?_
      refine x_sub [2, 3, 4, 1, 0] rfl ?_
      exact hk8 x0 x2 x3 (x4 + (-1)) (x5 + 1) h
  · refine x_iinc (w := (x4 + 1)) (lv' := [(4, .int (x4 + 1)), (0, va_rf (some x0)), (2, .int x2), (3, .int x3), (5, .int x5)]) (p' := 45) hC 3 (dAt dd_X5_findParts 23 rfl) rfl rfl (by decide) rfl rfl ?_
    refine x_goto (tgt := 63) hC (dAt dd_X5_findParts 24 rfl) (by decide) ?_
    refine x_iinc (w := (x5 + 1)) (lv' := [(5, .int (x5 + 1)), (4, .int (x4 + 1)), (0, va_rf (some x0)), (2, .int x2), (3, .int x3)]) (p' := 66) hC 4 (dAt dd_X5_findParts 32 rfl) rfl rfl (by decide) rfl rfl ?_
    refine x_goto (tgt := 8) hC (dAt dd_X5_findParts 33 rfl) (by decide) ?_
    refine x_sub [2, 3, 4, 1, 0] rfl ?_
    exact hk8 x0 x2 x3 (x4 + 1) (x5 + 1) h
set_option maxHeartbeats 4000000 in
set_option maxRecDepth 100000 in
theorem t_X5_findParts_L8 {C : CT} (hC : OKC C yX5_findParts cX5_findParts 6 (some .int) 0 0) (k69 : Nat → Int32 → Int32 → AH → RX Int32) (hk69 : ∀ (x0 : Nat) (x2 : Int32) (x3 : Int32) (h : AH), WX rvI C 69 [(0, va_rf (some x0)), (2, .int x2), (3, .int x3)] [] h (k69 x0 x2 x3 h)) : ∀ (n : Nat) (x0 : Nat) (x2 : Int32) (x3 : Int32) (x4 : Int32) (x5 : Int32) (h : AH), WX rvI C 8 [(0, va_rf (some x0)), (2, .int x2), (3, .int x3), (4, .int x4), (5, .int x5)] [] h (f_X5_findParts_L8 k69 n x0 x2 x3 x4 x5 h) := by
  intro n
  induction n with
  | zero => intro _ _ _ _ _ _; exact x_none
  | succ n ih =>
    intro x0 x2 x3 x4 x5 h
    rw [f_X5_findParts_L8]
    refine x_iload (p' := 10) hC 4 (dAt dd_X5_findParts 6 rfl) rfl rfl ?_
    refine x_iload_n (p' := 11) hC 1 (dAt dd_X5_findParts 7 rfl) rfl rfl rfl ?_
    refine x_icmp_ge (tgt := 69) (p' := 14) hC (dAt dd_X5_findParts 8 rfl) (by decide) rfl ?_ ?_
    · refine x_sub [0, 1, 2] rfl ?_
      exact hk69 x0 x2 x3 h
    · refine x_iload (p' := 16) hC 3 (dAt dd_X5_findParts 9 rfl) rfl rfl ?_
      refine x_if_ne (tgt := 30) (p' := 19) hC (dAt dd_X5_findParts 10 rfl) (by decide) rfl ?_ ?_
      · exact t_X5_findParts_J30 hC (f_X5_findParts_L8 k69 n) ih x0 x2 x3 x4 x5 h
      · refine x_aload_n (p' := 20) hC 0 (dAt dd_X5_findParts 11 rfl) rfl rfl rfl ?_
        refine x_getR (p' := 23) hC fk_RX5_18 rfl (dAt dd_X5_findParts 12 rfl) rfl (fun r5 => ?_)
        refine x_iload_n (p' := 24) hC 2 (dAt dd_X5_findParts 13 rfl) rfl rfl rfl ?_
        refine x_iload (p' := 26) hC 4 (dAt dd_X5_findParts 14 rfl) rfl rfl ?_
        refine x_iastore (p' := 27) hC (dAt dd_X5_findParts 15 rfl) rfl (fun h6 => ?_)
        refine x_iinc (w := (x3 + 1)) (lv' := [(3, .int (x3 + 1)), (0, va_rf (some x0)), (2, .int x2), (4, .int x4), (5, .int x5)]) (p' := 30) hC 2 (dAt dd_X5_findParts 16 rfl) rfl rfl (by decide) rfl rfl ?_
        refine x_sub [1, 2, 0, 3, 4] rfl ?_
        exact t_X5_findParts_J30 hC (f_X5_findParts_L8 k69 n) ih x0 x2 (x3 + 1) x4 x5 h6
set_option maxHeartbeats 4000000 in
set_option maxRecDepth 100000 in
theorem t_X5_findParts_J69 {C : CT} (hC : OKC C yX5_findParts cX5_findParts 6 (some .int) 0 0)   : ∀ (x0 : Nat) (x2 : Int32) (x3 : Int32) (h : AH), WX rvI C 69 [(0, va_rf (some x0)), (2, .int x2), (3, .int x3)] [] h (f_X5_findParts_J69 x0 x2 x3 h) := by
  intro x0 x2 x3 h
  unfold f_X5_findParts_J69
  refine x_aload_n (p' := 70) hC 0 (dAt dd_X5_findParts 34 rfl) rfl rfl rfl ?_
  refine x_getR (p' := 73) hC fk_RX5_18 rfl (dAt dd_X5_findParts 35 rfl) rfl (fun r7 => ?_)
  refine x_iload_n (p' := 74) hC 2 (dAt dd_X5_findParts 36 rfl) rfl rfl rfl ?_
  refine x_iload_n (p' := 75) hC 1 (dAt dd_X5_findParts 37 rfl) rfl rfl rfl ?_
  refine x_iastore (p' := 76) hC (dAt dd_X5_findParts 38 rfl) rfl (fun h8 => ?_)
  refine x_iload_n (p' := 77) hC 2 (dAt dd_X5_findParts 39 rfl) rfl rfl rfl ?_
  exact x_ireturn hC (dAt dd_X5_findParts 40 rfl)
set_option maxHeartbeats 4000000 in
set_option maxRecDepth 100000 in
theorem c_X5_findParts (l : Launch) (D : va_G) (cy : Nat → ClassId) (h : AH) (a0 : Nat) (p1 : Int32) (p2 : Int32) : MX rvI l yX5_findParts (Cond.code yX5_findParts cX5_findParts 6 (some .int) :: LW) 0 0 D cy h [va_rf (some a0), .int p1, .int p2] (f_X5_findParts h a0 p1 p2) := by
  refine MX.of (lv := [(0, va_rf (some a0)), (1, .int p1), (2, .int p2)]) (by decide) (Nat.le_of_ble_eq_true rfl) rfl (fun C hC _ => ?_)
  unfold f_X5_findParts
  refine x_iconst (v := 0) (p' := 1) hC (dAt dd_X5_findParts 0 rfl) (by decide) rfl ?_
  refine x_istore_n (j := 3) (lv' := [(3, .int 0), (0, va_rf (some a0)), (1, .int p1), (2, .int p2)]) (p' := 2) hC (dAt dd_X5_findParts 1 rfl) rfl (by decide) rfl rfl ?_
  refine x_iconst (v := 0) (p' := 3) hC (dAt dd_X5_findParts 2 rfl) (by decide) rfl ?_
  refine x_istore (lv' := [(4, .int 0), (3, .int 0), (0, va_rf (some a0)), (1, .int p1), (2, .int p2)]) (p' := 5) hC (dAt dd_X5_findParts 3 rfl) (by decide) rfl rfl ?_
  refine x_iload_n (p' := 6) hC 3 (dAt dd_X5_findParts 4 rfl) rfl rfl rfl ?_
  refine x_istore (lv' := [(5, .int p1), (4, .int 0), (3, .int 0), (0, va_rf (some a0)), (1, .int p1), (2, .int p2)]) (p' := 8) hC (dAt dd_X5_findParts 5 rfl) (by decide) rfl rfl ?_
  refine x_sub [3, 5, 2, 1, 0] rfl ?_
  exact t_X5_findParts_L8 hC f_X5_findParts_J69 (t_X5_findParts_J69 hC) FU a0 p2 0 0 p1 h
set_option maxHeartbeats 4000000 in
set_option maxRecDepth 100000 in
theorem c_X9_isId (l : Launch) (D : va_G) (cy : Nat → ClassId) (h : AH) (p0 : Int32) : MX rvI l yX9_isId (Cond.code yX9_isId cX9_isId 1 (some .boolean) :: LW) 0 0 D cy h [.int p0] (f_X9_isId h p0) := by
  refine MX.of (lv := [(0, .int p0)]) (by decide) (Nat.le_of_ble_eq_true rfl) rfl (fun C hC _ => ?_)
  unfold f_X9_isId
  refine x_iload_n (p' := 1) hC 0 (dAt dd_X9_isId 0 rfl) rfl rfl rfl ?_
  refine x_bipush (v := 109) (p' := 3) hC (dAt dd_X9_isId 1 rfl) (by decide) rfl ?_
  refine x_icmp_le (tgt := 16) (p' := 6) hC (dAt dd_X9_isId 2 rfl) (by decide) rfl ?_ ?_
  · refine x_iconst (v := 0) (p' := 17) hC (dAt dd_X9_isId 8 rfl) (by decide) rfl ?_
    exact x_zreturn hC (dAt dd_X9_isId 9 rfl)
  · refine x_iload_n (p' := 7) hC 0 (dAt dd_X9_isId 3 rfl) rfl rfl rfl ?_
    refine x_bipush (v := 119) (p' := 9) hC (dAt dd_X9_isId 4 rfl) (by decide) rfl ?_
    refine x_icmp_gt (tgt := 16) (p' := 12) hC (dAt dd_X9_isId 5 rfl) (by decide) rfl ?_ ?_
    · refine x_iconst (v := 0) (p' := 17) hC (dAt dd_X9_isId 8 rfl) (by decide) rfl ?_
      exact x_zreturn hC (dAt dd_X9_isId 9 rfl)
    · refine x_iconst (v := 1) (p' := 13) hC (dAt dd_X9_isId 6 rfl) (by decide) rfl ?_
      refine x_goto (tgt := 17) hC (dAt dd_X9_isId 7 rfl) (by decide) ?_
      exact x_zreturn hC (dAt dd_X9_isId 9 rfl)
set_option maxHeartbeats 4000000 in
set_option maxRecDepth 100000 in
theorem c_X5_rank (l : Launch) (D : va_G) (cy : Nat → ClassId) (h : AH) (p0 : Int32) : MX rvI l yX5_rank (Cond.code yX5_rank cX5_rank 1 (some .int) :: LW) 1 20 D cy h [.int p0] (f_X5_rank h p0) := by
  refine MX.of (lv := [(0, .int p0)]) (by decide) (Nat.le_of_ble_eq_true rfl) rfl (fun C hC _ => ?_)
  unfold f_X5_rank
  refine x_iload_n (p' := 1) hC 0 (dAt dd_X5_rank 0 rfl) rfl rfl rfl ?_
  refine x_callSI (As := [.int p0]) (p' := 4) hC (c_X9_isId _ _ _ h p0) k_351 k_352 k_12 k_353 hd_X9_isId ⟨by decide, by decide⟩ rfl (Nat.le_of_ble_eq_true rfl) rfl (dAt dd_X5_rank 1 rfl) rfl (fun v1 h2 => ?_)
  refine x_if_eq (tgt := 12) (p' := 7) hC (dAt dd_X5_rank 2 rfl) (by decide) rfl ?_ ?_
  · refine x_iload_n (p' := 13) hC 0 (dAt dd_X5_rank 5 rfl) rfl rfl rfl ?_
    exact x_ireturn hC (dAt dd_X5_rank 6 rfl)
  · refine x_bipush (v := 110) (p' := 9) hC (dAt dd_X5_rank 3 rfl) (by decide) rfl ?_
    refine x_goto (tgt := 13) hC (dAt dd_X5_rank 4 rfl) (by decide) ?_
    exact x_ireturn hC (dAt dd_X5_rank 6 rfl)
set_option maxHeartbeats 4000000 in
set_option maxRecDepth 100000 in
theorem c_J6_compare_7cf53 (l : Launch) (D : va_G) (cy : Nat → ClassId) (h : AH) (p0 : Int32) (p1 : Int32) : MX rvI l yJ6_compare_7cf53 (Cond.code yJ6_compare_7cf53 cJ6_compare_7cf53 2 (some .int) :: LW) 0 0 D cy h [.int p0, .int p1] (f_J6_compare_7cf53 h p0 p1) := by
  refine MX.of (lv := [(0, .int p0), (1, .int p1)]) (by decide) (Nat.le_of_ble_eq_true rfl) rfl (fun C hC _ => ?_)
  unfold f_J6_compare_7cf53
  refine x_iload_n (p' := 1) hC 0 (dAt dd_J6_compare_7cf53 0 rfl) rfl rfl rfl ?_
  refine x_iload_n (p' := 2) hC 1 (dAt dd_J6_compare_7cf53 1 rfl) rfl rfl rfl ?_
  refine x_icmp_ge (tgt := 9) (p' := 5) hC (dAt dd_J6_compare_7cf53 2 rfl) (by decide) rfl ?_ ?_
  · refine x_iload_n (p' := 10) hC 0 (dAt dd_J6_compare_7cf53 5 rfl) rfl rfl rfl ?_
    refine x_iload_n (p' := 11) hC 1 (dAt dd_J6_compare_7cf53 6 rfl) rfl rfl rfl ?_
    refine x_icmp_ne (tgt := 18) (p' := 14) hC (dAt dd_J6_compare_7cf53 7 rfl) (by decide) rfl ?_ ?_
    · refine x_iconst (v := 1) (p' := 19) hC (dAt dd_J6_compare_7cf53 10 rfl) (by decide) rfl ?_
      exact x_ireturn hC (dAt dd_J6_compare_7cf53 11 rfl)
    · refine x_iconst (v := 0) (p' := 15) hC (dAt dd_J6_compare_7cf53 8 rfl) (by decide) rfl ?_
      refine x_goto (tgt := 19) hC (dAt dd_J6_compare_7cf53 9 rfl) (by decide) ?_
      exact x_ireturn hC (dAt dd_J6_compare_7cf53 11 rfl)
  · refine x_iconst (v := (-1)) (p' := 6) hC (dAt dd_J6_compare_7cf53 3 rfl) (by decide) rfl ?_
    refine x_goto (tgt := 19) hC (dAt dd_J6_compare_7cf53 4 rfl) (by decide) ?_
    exact x_ireturn hC (dAt dd_J6_compare_7cf53 11 rfl)
set_option maxHeartbeats 4000000 in
set_option maxRecDepth 100000 in
theorem t_X5_compareParts_L44 {C : CT} (hC : OKC C yX5_compareParts cX5_compareParts 9 (some .int) 2 40) (k110 : Int32 → Int32 → AH → RX Int32) (k96 : Int32 → Int32 → AH → RX Int32) (hk110 : ∀ (x3 : Int32) (x4 : Int32) (h : AH), WX rvI C 110 [(3, .int x3), (4, .int x4)] [] h (k110 x3 x4 h)) (hk96 : ∀ (x7 : Int32) (x8 : Int32) (h : AH), WX rvI C 96 [(7, .int x7), (8, .int x8)] [] h (k96 x7 x8 h)) : ∀ (n : Nat) (x0 : Nat) (x1 : Int32) (x2 : Int32) (x3 : Int32) (x4 : Int32) (x5 : Int32) (x6 : Int32) (h : AH), WX rvI C 44 [(0, va_rf (some x0)), (1, .int x1), (2, .int x2), (3, .int x3), (4, .int x4), (5, .int x5), (6, .int x6)] [] h (f_X5_compareParts_L44 k110 k96 n x0 x1 x2 x3 x4 x5 x6 h) := by
  intro n
  induction n with
  | zero => intro _ _ _ _ _ _ _ _; exact x_none
  | succ n ih =>
    intro x0 x1 x2 x3 x4 x5 x6 h
    rw [f_X5_compareParts_L44]
    refine x_iload (p' := 46) hC 6 (dAt dd_X5_compareParts 30 rfl) rfl rfl ?_
    refine x_iload (p' := 48) hC 5 (dAt dd_X5_compareParts 31 rfl) rfl rfl ?_
    refine x_icmp_ge (tgt := 110) (p' := 51) hC (dAt dd_X5_compareParts 32 rfl) (by decide) rfl ?_ ?_
    · refine x_sub [3, 4] rfl ?_
      exact hk110 x3 x4 h
    · refine x_aload_n (p' := 52) hC 0 (dAt dd_X5_compareParts 33 rfl) rfl rfl rfl ?_
      refine x_getR (p' := 55) hC fk_RX5_9 rfl (dAt dd_X5_compareParts 34 rfl) rfl (fun r9 => ?_)
      refine x_aload_n (p' := 56) hC 0 (dAt dd_X5_compareParts 35 rfl) rfl rfl rfl ?_
      refine x_getR (p' := 59) hC fk_RX5_18 rfl (dAt dd_X5_compareParts 36 rfl) rfl (fun r10 => ?_)
      refine x_iload_n (p' := 60) hC 1 (dAt dd_X5_compareParts 37 rfl) rfl rfl rfl ?_
      refine x_iaload (p' := 61) hC (dAt dd_X5_compareParts 38 rfl) rfl (fun v11 => ?_)
      refine x_iload (p' := 63) hC 6 (dAt dd_X5_compareParts 39 rfl) rfl rfl ?_
      refine x_iadd (p' := 64) hC (dAt dd_X5_compareParts 40 rfl) rfl ?_
      refine x_iaload (p' := 65) hC (dAt dd_X5_compareParts 41 rfl) rfl (fun v12 => ?_)
      refine x_callSI (As := [.int v12]) (p' := 68) hC (c_X5_rank _ _ _ h v12) k_348 k_349 k_5 k_350 hd_X5_rank ⟨by decide, by decide⟩ rfl (Nat.le_of_ble_eq_true rfl) rfl (dAt dd_X5_compareParts 42 rfl) rfl (fun v13 h14 => ?_)
      refine x_istore (lv' := [(7, .int v13), (0, va_rf (some x0)), (1, .int x1), (2, .int x2), (3, .int x3), (4, .int x4), (5, .int x5), (6, .int x6)]) (p' := 70) hC (dAt dd_X5_compareParts 43 rfl) (by decide) rfl rfl ?_
      refine x_aload_n (p' := 71) hC 1 (dAt dd_X5_compareParts 44 rfl) rfl rfl rfl ?_
      refine x_getR (p' := 74) hC fk_RX5_9 rfl (dAt dd_X5_compareParts 45 rfl) rfl (fun r15 => ?_)
      refine x_aload_n (p' := 75) hC 1 (dAt dd_X5_compareParts 46 rfl) rfl rfl rfl ?_
      refine x_getR (p' := 78) hC fk_RX5_18 rfl (dAt dd_X5_compareParts 47 rfl) rfl (fun r16 => ?_)
      refine x_iload_n (p' := 79) hC 3 (dAt dd_X5_compareParts 48 rfl) rfl rfl rfl ?_
      refine x_iaload (p' := 80) hC (dAt dd_X5_compareParts 49 rfl) rfl (fun v17 => ?_)
      refine x_iload (p' := 82) hC 7 (dAt dd_X5_compareParts 50 rfl) rfl rfl ?_
      refine x_iadd (p' := 83) hC (dAt dd_X5_compareParts 51 rfl) rfl ?_
      refine x_iaload (p' := 84) hC (dAt dd_X5_compareParts 52 rfl) rfl (fun v18 => ?_)
      refine x_callSI (As := [.int v18]) (p' := 87) hC (c_X5_rank _ _ _ h14 v18) k_348 k_349 k_5 k_350 hd_X5_rank ⟨by decide, by decide⟩ rfl (Nat.le_of_ble_eq_true rfl) rfl (dAt dd_X5_compareParts 53 rfl) rfl (fun v19 h20 => ?_)
      refine x_istore (lv' := [(8, .int v19), (7, .int v13), (0, va_rf (some x0)), (1, .int x1), (2, .int x2), (3, .int x3), (4, .int x4), (5, .int x5), (6, .int x6)]) (p' := 89) hC (dAt dd_X5_compareParts 54 rfl) (by decide) rfl rfl ?_
      refine x_iload (p' := 91) hC 1 (dAt dd_X5_compareParts 55 rfl) rfl rfl ?_
      refine x_iload (p' := 93) hC 0 (dAt dd_X5_compareParts 56 rfl) rfl rfl ?_
      refine x_icmp_eq (tgt := 104) (p' := 96) hC (dAt dd_X5_compareParts 57 rfl) (by decide) rfl ?_ ?_
      · refine x_iinc (w := (x6 + 1)) (lv' := [(6, .int (x6 + 1)), (8, .int v19), (7, .int v13), (0, va_rf (some x0)), (1, .int x1), (2, .int x2), (3, .int x3), (4, .int x4), (5, .int x5)]) (p' := 107) hC 8 (dAt dd_X5_compareParts 62 rfl) rfl rfl (by decide) rfl rfl ?_
        refine x_goto (tgt := 44) hC (dAt dd_X5_compareParts 63 rfl) (by decide) ?_
        refine x_sub [3, 4, 5, 6, 7, 8, 0] rfl ?_
        exact ih x0 x1 x2 x3 x4 x5 (x6 + 1) h20
      · refine x_sub [1, 0] rfl ?_
        exact hk96 v13 v19 h20
set_option maxHeartbeats 4000000 in
set_option maxRecDepth 100000 in
theorem t_X5_compareParts_J110 {C : CT} (hC : OKC C yX5_compareParts cX5_compareParts 9 (some .int) 2 40)   : ∀ (x3 : Int32) (x4 : Int32) (h : AH), WX rvI C 110 [(3, .int x3), (4, .int x4)] [] h (f_X5_compareParts_J110 x3 x4 h) := by
  intro x3 x4 h
  unfold f_X5_compareParts_J110
  refine x_iload_n (p' := 111) hC 0 (dAt dd_X5_compareParts 64 rfl) rfl rfl rfl ?_
  refine x_iload (p' := 113) hC 1 (dAt dd_X5_compareParts 65 rfl) rfl rfl ?_
  refine x_callSI (As := [.int x3, .int x4]) (p' := 116) hC (c_J6_compare_7cf53 _ _ _ h x3 x4) k_354 k_355 k_14 k_356 hd_J6_compare_7cf53 ⟨by decide, by decide⟩ rfl (Nat.le_of_ble_eq_true rfl) rfl (dAt dd_X5_compareParts 66 rfl) rfl (fun v21 h22 => ?_)
  exact x_ireturn hC (dAt dd_X5_compareParts 67 rfl)
set_option maxHeartbeats 4000000 in
set_option maxRecDepth 100000 in
theorem t_X5_compareParts_J96 {C : CT} (hC : OKC C yX5_compareParts cX5_compareParts 9 (some .int) 2 40)   : ∀ (x7 : Int32) (x8 : Int32) (h : AH), WX rvI C 96 [(7, .int x7), (8, .int x8)] [] h (f_X5_compareParts_J96 x7 x8 h) := by
  intro x7 x8 h
  unfold f_X5_compareParts_J96
  refine x_iload (p' := 98) hC 0 (dAt dd_X5_compareParts 58 rfl) rfl rfl ?_
  refine x_iload (p' := 100) hC 1 (dAt dd_X5_compareParts 59 rfl) rfl rfl ?_
  refine x_callSI (As := [.int x7, .int x8]) (p' := 103) hC (c_J6_compare_7cf53 _ _ _ h x7 x8) k_354 k_355 k_14 k_356 hd_J6_compare_7cf53 ⟨by decide, by decide⟩ rfl (Nat.le_of_ble_eq_true rfl) rfl (dAt dd_X5_compareParts 60 rfl) rfl (fun v23 h24 => ?_)
  exact x_ireturn hC (dAt dd_X5_compareParts 61 rfl)
set_option maxHeartbeats 4000000 in
set_option maxRecDepth 100000 in
theorem c_X5_compareParts (l : Launch) (D : va_G) (cy : Nat → ClassId) (h : AH) (a0 : Nat) (p1 : Int32) (p2 : Int32) : MX rvI l yX5_compareParts (Cond.code yX5_compareParts cX5_compareParts 9 (some .int) :: LW) 2 40 D cy h [va_rf (some a0), .int p1, .int p2] (f_X5_compareParts h a0 p1 p2) := by
  refine MX.of (lv := [(0, va_rf (some a0)), (1, .int p1), (2, .int p2)]) (by decide) (Nat.le_of_ble_eq_true rfl) rfl (fun C hC _ => ?_)
  unfold f_X5_compareParts
  refine x_aload_n (p' := 1) hC 0 (dAt dd_X5_compareParts 0 rfl) rfl rfl rfl ?_
  refine x_getR (p' := 4) hC fk_RX5_18 rfl (dAt dd_X5_compareParts 1 rfl) rfl (fun r1 => ?_)
  refine x_iload_n (p' := 5) hC 1 (dAt dd_X5_compareParts 2 rfl) rfl rfl rfl ?_
  refine x_iconst (v := 1) (p' := 6) hC (dAt dd_X5_compareParts 3 rfl) (by decide) rfl ?_
  refine x_iadd (p' := 7) hC (dAt dd_X5_compareParts 4 rfl) rfl ?_
  refine x_iaload (p' := 8) hC (dAt dd_X5_compareParts 5 rfl) rfl (fun v2 => ?_)
  refine x_aload_n (p' := 9) hC 0 (dAt dd_X5_compareParts 6 rfl) rfl rfl rfl ?_
  refine x_getR (p' := 12) hC fk_RX5_18 rfl (dAt dd_X5_compareParts 7 rfl) rfl (fun r3 => ?_)
  refine x_iload_n (p' := 13) hC 1 (dAt dd_X5_compareParts 8 rfl) rfl rfl rfl ?_
  refine x_iaload (p' := 14) hC (dAt dd_X5_compareParts 9 rfl) rfl (fun v4 => ?_)
  refine x_isub (p' := 15) hC (dAt dd_X5_compareParts 10 rfl) rfl ?_
  refine x_istore_n (j := 3) (lv' := [(3, .int (v2 - v4)), (0, va_rf (some a0)), (1, .int p1), (2, .int p2)]) (p' := 16) hC (dAt dd_X5_compareParts 11 rfl) rfl (by decide) rfl rfl ?_
  refine x_aload_n (p' := 17) hC 1 (dAt dd_X5_compareParts 12 rfl) rfl rfl rfl ?_
  refine x_getR (p' := 20) hC fk_RX5_18 rfl (dAt dd_X5_compareParts 13 rfl) rfl (fun r5 => ?_)
  refine x_iload_n (p' := 21) hC 3 (dAt dd_X5_compareParts 14 rfl) rfl rfl rfl ?_
  refine x_iconst (v := 1) (p' := 22) hC (dAt dd_X5_compareParts 15 rfl) (by decide) rfl ?_
  refine x_iadd (p' := 23) hC (dAt dd_X5_compareParts 16 rfl) rfl ?_
  refine x_iaload (p' := 24) hC (dAt dd_X5_compareParts 17 rfl) rfl (fun v6 => ?_)
  refine x_aload_n (p' := 25) hC 1 (dAt dd_X5_compareParts 18 rfl) rfl rfl rfl ?_
  refine x_getR (p' := 28) hC fk_RX5_18 rfl (dAt dd_X5_compareParts 19 rfl) rfl (fun r7 => ?_)
  refine x_iload_n (p' := 29) hC 3 (dAt dd_X5_compareParts 20 rfl) rfl rfl rfl ?_
  refine x_iaload (p' := 30) hC (dAt dd_X5_compareParts 21 rfl) rfl (fun v8 => ?_)
  refine x_isub (p' := 31) hC (dAt dd_X5_compareParts 22 rfl) rfl ?_
  refine x_istore (lv' := [(4, .int (v6 - v8)), (3, .int (v2 - v4)), (0, va_rf (some a0)), (1, .int p1), (2, .int p2)]) (p' := 33) hC (dAt dd_X5_compareParts 23 rfl) (by decide) rfl rfl ?_
  refine x_iload_n (p' := 34) hC 1 (dAt dd_X5_compareParts 24 rfl) rfl rfl rfl ?_
  refine x_iload (p' := 36) hC 0 (dAt dd_X5_compareParts 25 rfl) rfl rfl ?_
  refine x_mathMin (p' := 39) hC k_345 k_346 k_13 k_mathMin ⟨by decide, (Nat.le_of_ble_eq_true rfl)⟩ (dAt dd_X5_compareParts 26 rfl) rfl ?_
  refine x_istore (lv' := [(5, .int (if (v6 - v8) < (v2 - v4) then (v6 - v8) else (v2 - v4))), (4, .int (v6 - v8)), (3, .int (v2 - v4)), (0, va_rf (some a0)), (1, .int p1), (2, .int p2)]) (p' := 41) hC (dAt dd_X5_compareParts 27 rfl) (by decide) rfl rfl ?_
  refine x_iconst (v := 0) (p' := 42) hC (dAt dd_X5_compareParts 28 rfl) (by decide) rfl ?_
  refine x_istore (lv' := [(6, .int 0), (5, .int (if (v6 - v8) < (v2 - v4) then (v6 - v8) else (v2 - v4))), (4, .int (v6 - v8)), (3, .int (v2 - v4)), (0, va_rf (some a0)), (1, .int p1), (2, .int p2)]) (p' := 44) hC (dAt dd_X5_compareParts 29 rfl) (by decide) rfl rfl ?_
  refine x_sub [4, 5, 6, 3, 2, 1, 0] rfl ?_
  exact t_X5_compareParts_L44 hC f_X5_compareParts_J110 f_X5_compareParts_J96 (t_X5_compareParts_J110 hC) (t_X5_compareParts_J96 hC) FU a0 p1 p2 (v2 - v4) (v6 - v8) (if (v6 - v8) < (v2 - v4) then (v6 - v8) else (v2 - v4)) 0 h
set_option maxHeartbeats 4000000 in
set_option maxRecDepth 100000 in
theorem t_X5_orderParts_L20 {C : CT} (hC : OKC C yX5_orderParts cX5_orderParts 8 none 3 68) (k65 : Nat → Int32 → Int32 → Int32 → Int32 → AH → RX Unit) (hk65 : ∀ (x0 : Nat) (x1 : Int32) (x3 : Int32) (x4 : Int32) (x5 : Int32) (h : AH), WX rvV C 65 [(0, va_rf (some x0)), (1, .int x1), (3, .int x3), (4, .int x4), (5, .int x5)] [] h (k65 x0 x1 x3 x4 x5 h)) : ∀ (n : Nat) (x0 : Nat) (x1 : Int32) (x3 : Int32) (x4 : Int32) (x5 : Int32) (h : AH), WX rvV C 20 [(0, va_rf (some x0)), (1, .int x1), (3, .int x3), (4, .int x4), (5, .int x5)] [] h (f_X5_orderParts_L20 k65 n x0 x1 x3 x4 x5 h) := by
  intro n
  induction n with
  | zero => intro _ _ _ _ _ _; exact x_none
  | succ n ih =>
    intro x0 x1 x3 x4 x5 h
    rw [f_X5_orderParts_L20]
    refine x_iload (p' := 22) hC 4 (dAt dd_X5_orderParts 12 rfl) rfl rfl ?_
    refine x_if_le (tgt := 65) (p' := 25) hC (dAt dd_X5_orderParts 13 rfl) (by decide) rfl ?_ ?_
    · exact hk65 x0 x1 x3 x4 x5 h
    · refine x_aload_n (p' := 26) hC 0 (dAt dd_X5_orderParts 14 rfl) rfl rfl rfl ?_
      refine x_aload_n (p' := 27) hC 0 (dAt dd_X5_orderParts 15 rfl) rfl rfl rfl ?_
      refine x_getR (p' := 30) hC fk_RX5_21 rfl (dAt dd_X5_orderParts 16 rfl) rfl (fun r3 => ?_)
      refine x_iload (p' := 32) hC 4 (dAt dd_X5_orderParts 17 rfl) rfl rfl ?_
      refine x_iconst (v := 1) (p' := 33) hC (dAt dd_X5_orderParts 18 rfl) (by decide) rfl ?_
      refine x_isub (p' := 34) hC (dAt dd_X5_orderParts 19 rfl) rfl ?_
      refine x_iaload (p' := 35) hC (dAt dd_X5_orderParts 20 rfl) rfl (fun v4 => ?_)
      refine x_iload (p' := 37) hC 3 (dAt dd_X5_orderParts 21 rfl) rfl rfl ?_
      refine x_callVI (As := [.int v4, .int x4]) (z := fun b => f_X5_compareParts h b v4 x4) (p' := 40) hC (fun b => c_X5_compareParts _ _ _ h b v4 x4) k_341 k_343 (k_sl 6 rfl) k_5 k_344 hd_X5_compareParts ⟨by decide, by decide⟩ (ci := 5) rfl rfl (by decide) rfl (Nat.le_of_ble_eq_true rfl) rfl (dAt dd_X5_orderParts 22 rfl) rfl (fun v5 h6 => ?_)
      refine x_if_le (tgt := 65) (p' := 43) hC (dAt dd_X5_orderParts 23 rfl) (by decide) rfl ?_ ?_
      · exact hk65 x0 x1 x3 x4 x5 h6
      · refine x_aload_n (p' := 44) hC 0 (dAt dd_X5_orderParts 24 rfl) rfl rfl rfl ?_
        refine x_getR (p' := 47) hC fk_RX5_21 rfl (dAt dd_X5_orderParts 25 rfl) rfl (fun r7 => ?_)
        refine x_iload (p' := 49) hC 4 (dAt dd_X5_orderParts 26 rfl) rfl rfl ?_
        refine x_aload_n (p' := 50) hC 0 (dAt dd_X5_orderParts 27 rfl) rfl rfl rfl ?_
        refine x_getR (p' := 53) hC fk_RX5_21 rfl (dAt dd_X5_orderParts 28 rfl) rfl (fun r8 => ?_)
        refine x_iload (p' := 55) hC 4 (dAt dd_X5_orderParts 29 rfl) rfl rfl ?_
        refine x_iconst (v := 1) (p' := 56) hC (dAt dd_X5_orderParts 30 rfl) (by decide) rfl ?_
        refine x_isub (p' := 57) hC (dAt dd_X5_orderParts 31 rfl) rfl ?_
        refine x_iaload (p' := 58) hC (dAt dd_X5_orderParts 32 rfl) rfl (fun v9 => ?_)
        refine x_iastore (p' := 59) hC (dAt dd_X5_orderParts 33 rfl) rfl (fun h10 => ?_)
        refine x_iinc (w := (x5 + (-1))) (lv' := [(5, .int (x5 + (-1))), (0, va_rf (some x0)), (1, .int x1), (3, .int x3), (4, .int x4)]) (p' := 62) hC 4 (dAt dd_X5_orderParts 34 rfl) rfl rfl (by decide) rfl rfl ?_
        refine x_goto (tgt := 20) hC (dAt dd_X5_orderParts 35 rfl) (by decide) ?_
        refine x_sub [1, 2, 3, 4, 0] rfl ?_
        exact ih x0 x1 x3 x4 (x5 + (-1)) h10
set_option maxHeartbeats 4000000 in
set_option maxRecDepth 100000 in
theorem t_X5_orderParts_J65 {C : CT} (hC : OKC C yX5_orderParts cX5_orderParts 8 none 3 68) (k10 : Nat → Int32 → Int32 → Int32 → AH → RX Unit) (hk10 : ∀ (x0 : Nat) (x1 : Int32) (x3 : Int32) (x4 : Int32) (h : AH), WX rvV C 10 [(0, va_rf (some x0)), (1, .int x1), (3, .int x3), (4, .int x4)] [] h (k10 x0 x1 x3 x4 h)) : ∀ (x0 : Nat) (x1 : Int32) (x3 : Int32) (x4 : Int32) (x5 : Int32) (h : AH), WX rvV C 65 [(0, va_rf (some x0)), (1, .int x1), (3, .int x3), (4, .int x4), (5, .int x5)] [] h (f_X5_orderParts_J65 k10 x0 x1 x3 x4 x5 h) := by
  intro x0 x1 x3 x4 x5 h
  unfold f_X5_orderParts_J65
  refine x_aload_n (p' := 66) hC 0 (dAt dd_X5_orderParts 36 rfl) rfl rfl rfl ?_
  refine x_getR (p' := 69) hC fk_RX5_21 rfl (dAt dd_X5_orderParts 37 rfl) rfl (fun r11 => ?_)
  refine x_iload (p' := 71) hC 4 (dAt dd_X5_orderParts 38 rfl) rfl rfl ?_
  refine x_iload (p' := 73) hC 3 (dAt dd_X5_orderParts 39 rfl) rfl rfl ?_
  refine x_iastore (p' := 74) hC (dAt dd_X5_orderParts 40 rfl) rfl (fun h12 => ?_)
  refine x_iinc (w := (x4 + 1)) (lv' := [(4, .int (x4 + 1)), (0, va_rf (some x0)), (1, .int x1), (3, .int x3), (5, .int x5)]) (p' := 77) hC 3 (dAt dd_X5_orderParts 41 rfl) rfl rfl (by decide) rfl rfl ?_
  refine x_goto (tgt := 10) hC (dAt dd_X5_orderParts 42 rfl) (by decide) ?_
  refine x_sub [1, 2, 3, 0] rfl ?_
  exact hk10 x0 x1 x3 (x4 + 1) h12
set_option maxHeartbeats 4000000 in
set_option maxRecDepth 100000 in
theorem t_X5_orderParts_L10 {C : CT} (hC : OKC C yX5_orderParts cX5_orderParts 8 none 3 68) (k80 : Nat → Int32 → Int32 → AH → RX Unit) (hk80 : ∀ (x0 : Nat) (x1 : Int32) (x3 : Int32) (h : AH), WX rvV C 80 [(0, va_rf (some x0)), (1, .int x1), (3, .int x3)] [] h (k80 x0 x1 x3 h)) : ∀ (n : Nat) (x0 : Nat) (x1 : Int32) (x3 : Int32) (x4 : Int32) (h : AH), WX rvV C 10 [(0, va_rf (some x0)), (1, .int x1), (3, .int x3), (4, .int x4)] [] h (f_X5_orderParts_L10 k80 n x0 x1 x3 x4 h) := by
  intro n
  induction n with
  | zero => intro _ _ _ _ _; exact x_none
  | succ n ih =>
    intro x0 x1 x3 x4 h
    rw [f_X5_orderParts_L10]
    refine x_iload (p' := 12) hC 3 (dAt dd_X5_orderParts 7 rfl) rfl rfl ?_
    refine x_iload_n (p' := 13) hC 2 (dAt dd_X5_orderParts 8 rfl) rfl rfl rfl ?_
    refine x_icmp_ge (tgt := 80) (p' := 16) hC (dAt dd_X5_orderParts 9 rfl) (by decide) rfl ?_ ?_
    · refine x_sub [0, 1, 2] rfl ?_
      exact hk80 x0 x1 x3 h
    · refine x_iload (p' := 18) hC 3 (dAt dd_X5_orderParts 10 rfl) rfl rfl ?_
      refine x_istore (lv' := [(5, .int x4), (0, va_rf (some x0)), (1, .int x1), (3, .int x3), (4, .int x4)]) (p' := 20) hC (dAt dd_X5_orderParts 11 rfl) (by decide) rfl rfl ?_
      refine x_sub [1, 2, 3, 4, 0] rfl ?_
      exact t_X5_orderParts_L20 hC (f_X5_orderParts_J65 (f_X5_orderParts_L10 k80 n)) (t_X5_orderParts_J65 hC (f_X5_orderParts_L10 k80 n) ih) FU x0 x1 x3 x4 x4 h
set_option maxHeartbeats 4000000 in
set_option maxRecDepth 100000 in
theorem t_X5_orderParts_L86 {C : CT} (hC : OKC C yX5_orderParts cX5_orderParts 8 none 3 68) (k155 : Nat → Int32 → Int32 → AH → RX Unit) (hk155 : ∀ (x0 : Nat) (x1 : Int32) (x4 : Int32) (h : AH), WX rvV C 155 [(0, va_rf (some x0)), (1, .int x1), (4, .int x4)] [] h (k155 x0 x1 x4 h)) : ∀ (n : Nat) (x0 : Nat) (x1 : Int32) (x3 : Int32) (x4 : Int32) (x5 : Int32) (h : AH), WX rvV C 86 [(0, va_rf (some x0)), (1, .int x1), (3, .int x3), (4, .int x4), (5, .int x5)] [] h (f_X5_orderParts_L86 k155 n x0 x1 x3 x4 x5 h) := by
  intro n
  induction n with
  | zero => intro _ _ _ _ _ _; exact x_none
  | succ n ih =>
    intro x0 x1 x3 x4 x5 h
    rw [f_X5_orderParts_L86]
    refine x_iload (p' := 88) hC 4 (dAt dd_X5_orderParts 47 rfl) rfl rfl ?_
    refine x_iload_n (p' := 89) hC 2 (dAt dd_X5_orderParts 48 rfl) rfl rfl rfl ?_
    refine x_icmp_ge (tgt := 155) (p' := 92) hC (dAt dd_X5_orderParts 49 rfl) (by decide) rfl ?_ ?_
    · refine x_sub [0, 1, 3] rfl ?_
      exact hk155 x0 x1 x4 h
    · refine x_aload_n (p' := 93) hC 0 (dAt dd_X5_orderParts 50 rfl) rfl rfl rfl ?_
      refine x_getR (p' := 96) hC fk_RX5_18 rfl (dAt dd_X5_orderParts 51 rfl) rfl (fun r13 => ?_)
      refine x_aload_n (p' := 97) hC 0 (dAt dd_X5_orderParts 52 rfl) rfl rfl rfl ?_
      refine x_getR (p' := 100) hC fk_RX5_21 rfl (dAt dd_X5_orderParts 53 rfl) rfl (fun r14 => ?_)
      refine x_iload (p' := 102) hC 4 (dAt dd_X5_orderParts 54 rfl) rfl rfl ?_
      refine x_iaload (p' := 103) hC (dAt dd_X5_orderParts 55 rfl) rfl (fun v15 => ?_)
      refine x_iaload (p' := 104) hC (dAt dd_X5_orderParts 56 rfl) rfl (fun v16 => ?_)
      refine x_istore (lv' := [(6, .int v16), (0, va_rf (some x0)), (1, .int x1), (3, .int x3), (4, .int x4), (5, .int x5)]) (p' := 106) hC (dAt dd_X5_orderParts 57 rfl) (by decide) rfl rfl ?_
      refine x_aload_n (p' := 107) hC 1 (dAt dd_X5_orderParts 58 rfl) rfl rfl rfl ?_
      refine x_getR (p' := 110) hC fk_RX5_18 rfl (dAt dd_X5_orderParts 59 rfl) rfl (fun r17 => ?_)
      refine x_aload_n (p' := 111) hC 1 (dAt dd_X5_orderParts 60 rfl) rfl rfl rfl ?_
      refine x_getR (p' := 114) hC fk_RX5_21 rfl (dAt dd_X5_orderParts 61 rfl) rfl (fun r18 => ?_)
      refine x_iload (p' := 116) hC 5 (dAt dd_X5_orderParts 62 rfl) rfl rfl ?_
      refine x_iaload (p' := 117) hC (dAt dd_X5_orderParts 63 rfl) rfl (fun v19 => ?_)
      refine x_iconst (v := 1) (p' := 118) hC (dAt dd_X5_orderParts 64 rfl) (by decide) rfl ?_
      refine x_iadd (p' := 119) hC (dAt dd_X5_orderParts 65 rfl) rfl ?_
      refine x_iaload (p' := 120) hC (dAt dd_X5_orderParts 66 rfl) rfl (fun v20 => ?_)
      refine x_iload (p' := 122) hC 0 (dAt dd_X5_orderParts 67 rfl) rfl rfl ?_
      refine x_isub (p' := 123) hC (dAt dd_X5_orderParts 68 rfl) rfl ?_
      refine x_istore (lv' := [(7, .int (v20 - v16)), (6, .int v16), (0, va_rf (some x0)), (1, .int x1), (3, .int x3), (4, .int x4), (5, .int x5)]) (p' := 125) hC (dAt dd_X5_orderParts 69 rfl) (by decide) rfl rfl ?_
      refine x_aload_n (p' := 126) hC 2 (dAt dd_X5_orderParts 70 rfl) rfl rfl rfl ?_
      refine x_getR (p' := 129) hC fk_RX5_9 rfl (dAt dd_X5_orderParts 71 rfl) rfl (fun r21 => ?_)
      refine x_iload (p' := 131) hC 1 (dAt dd_X5_orderParts 72 rfl) rfl rfl ?_
      refine x_aload_n (p' := 132) hC 2 (dAt dd_X5_orderParts 73 rfl) rfl rfl rfl ?_
      refine x_getR (p' := 135) hC fk_RX5_24 rfl (dAt dd_X5_orderParts 74 rfl) rfl (fun r22 => ?_)
      refine x_iload (p' := 137) hC 5 (dAt dd_X5_orderParts 75 rfl) rfl rfl ?_
      refine x_iload (p' := 139) hC 0 (dAt dd_X5_orderParts 76 rfl) rfl rfl ?_
      refine x_copy (p' := 142) hC k_321 k_304 k_303 k_11 ⟨by decide, (Nat.le_of_ble_eq_true rfl)⟩ (dAt dd_X5_orderParts 77 rfl) rfl (fun h23 => ?_)
      refine x_iload (p' := 144) hC 5 (dAt dd_X5_orderParts 78 rfl) rfl rfl ?_
      refine x_iload (p' := 146) hC 0 (dAt dd_X5_orderParts 79 rfl) rfl rfl ?_
      refine x_iadd (p' := 147) hC (dAt dd_X5_orderParts 80 rfl) rfl ?_
      refine x_istore (lv' := [(4, .int (x4 + (v20 - v16))), (7, .int (v20 - v16)), (6, .int v16), (0, va_rf (some x0)), (1, .int x1), (3, .int x3), (5, .int x5)]) (p' := 149) hC (dAt dd_X5_orderParts 81 rfl) (by decide) rfl rfl ?_
      refine x_iinc (w := (x5 + 1)) (lv' := [(5, .int (x5 + 1)), (4, .int (x4 + (v20 - v16))), (7, .int (v20 - v16)), (6, .int v16), (0, va_rf (some x0)), (1, .int x1), (3, .int x3)]) (p' := 152) hC 6 (dAt dd_X5_orderParts 82 rfl) rfl rfl (by decide) rfl rfl ?_
      refine x_goto (tgt := 86) hC (dAt dd_X5_orderParts 83 rfl) (by decide) ?_
      refine x_sub [4, 5, 6, 1, 0] rfl ?_
      exact ih x0 x1 x3 (x4 + (v20 - v16)) (x5 + 1) h23
set_option maxHeartbeats 4000000 in
set_option maxRecDepth 100000 in
theorem t_X5_orderParts_J155 {C : CT} (hC : OKC C yX5_orderParts cX5_orderParts 8 none 3 68)   : ∀ (x0 : Nat) (x1 : Int32) (x4 : Int32) (h : AH), WX rvV C 155 [(0, va_rf (some x0)), (1, .int x1), (4, .int x4)] [] h (f_X5_orderParts_J155 x0 x1 x4 h) := by
  intro x0 x1 x4 h
  unfold f_X5_orderParts_J155
  refine x_aload_n (p' := 156) hC 0 (dAt dd_X5_orderParts 84 rfl) rfl rfl rfl ?_
  refine x_getR (p' := 159) hC fk_RX5_24 rfl (dAt dd_X5_orderParts 85 rfl) rfl (fun r24 => ?_)
  refine x_iload_n (p' := 160) hC 1 (dAt dd_X5_orderParts 86 rfl) rfl rfl rfl ?_
  refine x_aload_n (p' := 161) hC 0 (dAt dd_X5_orderParts 87 rfl) rfl rfl rfl ?_
  refine x_getR (p' := 164) hC fk_RX5_9 rfl (dAt dd_X5_orderParts 88 rfl) rfl (fun r25 => ?_)
  refine x_iload_n (p' := 165) hC 1 (dAt dd_X5_orderParts 89 rfl) rfl rfl rfl ?_
  refine x_iload (p' := 167) hC 2 (dAt dd_X5_orderParts 90 rfl) rfl rfl ?_
  refine x_iload_n (p' := 168) hC 1 (dAt dd_X5_orderParts 91 rfl) rfl rfl rfl ?_
  refine x_isub (p' := 169) hC (dAt dd_X5_orderParts 92 rfl) rfl ?_
  refine x_copy (p' := 172) hC k_321 k_304 k_303 k_11 ⟨by decide, (Nat.le_of_ble_eq_true rfl)⟩ (dAt dd_X5_orderParts 93 rfl) rfl (fun h26 => ?_)
  exact x_return hC (dAt dd_X5_orderParts 94 rfl)
set_option maxHeartbeats 4000000 in
set_option maxRecDepth 100000 in
theorem t_X5_orderParts_J80 {C : CT} (hC : OKC C yX5_orderParts cX5_orderParts 8 none 3 68)   : ∀ (x0 : Nat) (x1 : Int32) (x3 : Int32) (h : AH), WX rvV C 80 [(0, va_rf (some x0)), (1, .int x1), (3, .int x3)] [] h (f_X5_orderParts_J80 x0 x1 x3 h) := by
  intro x0 x1 x3 h
  unfold f_X5_orderParts_J80
  refine x_iload_n (p' := 81) hC 1 (dAt dd_X5_orderParts 43 rfl) rfl rfl rfl ?_
  refine x_istore (lv' := [(4, .int x1), (0, va_rf (some x0)), (1, .int x1), (3, .int x3)]) (p' := 83) hC (dAt dd_X5_orderParts 44 rfl) (by decide) rfl rfl ?_
  refine x_iconst (v := 0) (p' := 84) hC (dAt dd_X5_orderParts 45 rfl) (by decide) rfl ?_
  refine x_istore (lv' := [(5, .int 0), (4, .int x1), (0, va_rf (some x0)), (1, .int x1), (3, .int x3)]) (p' := 86) hC (dAt dd_X5_orderParts 46 rfl) (by decide) rfl rfl ?_
  refine x_sub [2, 3, 4, 1, 0] rfl ?_
  exact t_X5_orderParts_L86 hC f_X5_orderParts_J155 (t_X5_orderParts_J155 hC) FU x0 x1 x3 x1 0 h
set_option maxHeartbeats 4000000 in
set_option maxRecDepth 100000 in
theorem c_X5_orderParts (l : Launch) (D : va_G) (cy : Nat → ClassId) (h : AH) (a0 : Nat) (p1 : Int32) (p2 : Int32) : MX rvV l yX5_orderParts (Cond.code yX5_orderParts cX5_orderParts 8 none :: LW) 3 68 D cy h [va_rf (some a0), .int p1, .int p2] (f_X5_orderParts h a0 p1 p2) := by
  refine MX.of (lv := [(0, va_rf (some a0)), (1, .int p1), (2, .int p2)]) (by decide) (Nat.le_of_ble_eq_true rfl) rfl (fun C hC _ => ?_)
  unfold f_X5_orderParts
  refine x_aload_n (p' := 1) hC 0 (dAt dd_X5_orderParts 0 rfl) rfl rfl rfl ?_
  refine x_iload_n (p' := 2) hC 1 (dAt dd_X5_orderParts 1 rfl) rfl rfl rfl ?_
  refine x_iload_n (p' := 3) hC 2 (dAt dd_X5_orderParts 2 rfl) rfl rfl rfl ?_
  refine x_callVI (As := [.int p1, .int p2]) (z := fun b => f_X5_findParts h b p1 p2) (p' := 6) hC (fun b => c_X5_findParts _ _ _ h b p1 p2) k_337 k_339 (k_sl 5 rfl) k_5 k_340 hd_X5_findParts ⟨by decide, by decide⟩ (ci := 5) rfl rfl (by decide) rfl (Nat.le_of_ble_eq_true rfl) rfl (dAt dd_X5_orderParts 3 rfl) rfl (fun v1 h2 => ?_)
  refine x_istore_n (j := 3) (lv' := [(3, .int v1), (0, va_rf (some a0)), (1, .int p1), (2, .int p2)]) (p' := 7) hC (dAt dd_X5_orderParts 4 rfl) rfl (by decide) rfl rfl ?_
  refine x_iconst (v := 0) (p' := 8) hC (dAt dd_X5_orderParts 5 rfl) (by decide) rfl ?_
  refine x_istore (lv' := [(4, .int 0), (3, .int v1), (0, va_rf (some a0)), (1, .int p1), (2, .int p2)]) (p' := 10) hC (dAt dd_X5_orderParts 6 rfl) (by decide) rfl rfl ?_
  refine x_sub [2, 3, 1, 0] rfl ?_
  exact t_X5_orderParts_L10 hC f_X5_orderParts_J80 (t_X5_orderParts_J80 hC) FU a0 p1 v1 0 h2
set_option maxHeartbeats 4000000 in
set_option maxRecDepth 100000 in
theorem t_X5_orderLists_L4 {C : CT} (hC : OKC C yX5_orderLists cX5_orderLists 4 none 4 95)   : ∀ (n : Nat) (x0 : Nat) (x1 : Int32) (x2 : Int32) (x3 : Int32) (h : AH), WX rvV C 4 [(0, va_rf (some x0)), (1, .int x1), (2, .int x2), (3, .int x3)] [] h (f_X5_orderLists_L4 n x0 x1 x2 x3 h) := by
  intro n
  induction n with
  | zero => intro _ _ _ _ _; exact x_none
  | succ n ih =>
    intro x0 x1 x2 x3 h
    rw [f_X5_orderLists_L4]
    refine x_iload_n (p' := 5) hC 3 (dAt dd_X5_orderLists 4 rfl) rfl rfl rfl ?_
    refine x_iload_n (p' := 6) hC 1 (dAt dd_X5_orderLists 5 rfl) rfl rfl rfl ?_
    refine x_icmp_ge (tgt := 70) (p' := 9) hC (dAt dd_X5_orderLists 6 rfl) (by decide) rfl ?_ ?_
    · exact x_return hC (dAt dd_X5_orderLists 40 rfl)
    · refine x_aload_n (p' := 10) hC 0 (dAt dd_X5_orderLists 7 rfl) rfl rfl rfl ?_
      refine x_getR (p' := 13) hC fk_RX5_9 rfl (dAt dd_X5_orderLists 8 rfl) rfl (fun r1 => ?_)
      refine x_iload_n (p' := 14) hC 3 (dAt dd_X5_orderLists 9 rfl) rfl rfl rfl ?_
      refine x_iaload (p' := 15) hC (dAt dd_X5_orderLists 10 rfl) rfl (fun v2 => ?_)
      refine x_bipush (v := 120) (p' := 17) hC (dAt dd_X5_orderLists 11 rfl) (by decide) rfl ?_
      refine x_icmp_ne (tgt := 33) (p' := 20) hC (dAt dd_X5_orderLists 12 rfl) (by decide) rfl ?_ ?_
      · refine x_aload_n (p' := 34) hC 0 (dAt dd_X5_orderLists 20 rfl) rfl rfl rfl ?_
        refine x_getR (p' := 37) hC fk_RX5_9 rfl (dAt dd_X5_orderLists 21 rfl) rfl (fun r3 => ?_)
        refine x_iload_n (p' := 38) hC 3 (dAt dd_X5_orderLists 22 rfl) rfl rfl rfl ?_
        refine x_iaload (p' := 39) hC (dAt dd_X5_orderLists 23 rfl) rfl (fun v4 => ?_)
        refine x_bipush (v := 121) (p' := 41) hC (dAt dd_X5_orderLists 24 rfl) (by decide) rfl ?_
        refine x_icmp_ne (tgt := 64) (p' := 44) hC (dAt dd_X5_orderLists 25 rfl) (by decide) rfl ?_ ?_
        · refine x_iinc (w := (x3 + 1)) (lv' := [(3, .int (x3 + 1)), (0, va_rf (some x0)), (1, .int x1), (2, .int x2)]) (p' := 67) hC 3 (dAt dd_X5_orderLists 38 rfl) rfl rfl (by decide) rfl rfl ?_
          refine x_goto (tgt := 4) hC (dAt dd_X5_orderLists 39 rfl) (by decide) ?_
          refine x_sub [1, 2, 3, 0] rfl ?_
          exact ih x0 x1 x2 (x3 + 1) h
        · refine x_iload_n (p' := 45) hC 2 (dAt dd_X5_orderLists 26 rfl) rfl rfl rfl ?_
          refine x_if_le (tgt := 64) (p' := 48) hC (dAt dd_X5_orderLists 27 rfl) (by decide) rfl ?_ ?_
          · refine x_iinc (w := (x3 + 1)) (lv' := [(3, .int (x3 + 1)), (0, va_rf (some x0)), (1, .int x1), (2, .int x2)]) (p' := 67) hC 3 (dAt dd_X5_orderLists 38 rfl) rfl rfl (by decide) rfl rfl ?_
            refine x_goto (tgt := 4) hC (dAt dd_X5_orderLists 39 rfl) (by decide) ?_
            refine x_sub [1, 2, 3, 0] rfl ?_
            exact ih x0 x1 x2 (x3 + 1) h
          · refine x_iinc (w := (x2 + (-1))) (lv' := [(2, .int (x2 + (-1))), (0, va_rf (some x0)), (1, .int x1), (3, .int x3)]) (p' := 51) hC 2 (dAt dd_X5_orderLists 28 rfl) rfl rfl (by decide) rfl rfl ?_
            refine x_aload_n (p' := 52) hC 1 (dAt dd_X5_orderLists 29 rfl) rfl rfl rfl ?_
            refine x_aload_n (p' := 53) hC 1 (dAt dd_X5_orderLists 30 rfl) rfl rfl rfl ?_
            refine x_getR (p' := 56) hC fk_RX5_15 rfl (dAt dd_X5_orderLists 31 rfl) rfl (fun r5 => ?_)
            refine x_iload_n (p' := 57) hC 0 (dAt dd_X5_orderLists 32 rfl) rfl rfl rfl ?_
            refine x_iaload (p' := 58) hC (dAt dd_X5_orderLists 33 rfl) rfl (fun v6 => ?_)
            refine x_iconst (v := 1) (p' := 59) hC (dAt dd_X5_orderLists 34 rfl) (by decide) rfl ?_
            refine x_iadd (p' := 60) hC (dAt dd_X5_orderLists 35 rfl) rfl ?_
            refine x_iload_n (p' := 61) hC 3 (dAt dd_X5_orderLists 36 rfl) rfl rfl rfl ?_
            refine x_callVV (As := [.int (v6 + 1), .int x3]) (z := fun b => f_X5_orderParts h b (v6 + 1) x3) (p' := 64) hC (fun b => c_X5_orderParts _ _ _ h b (v6 + 1) x3) k_333 k_335 (k_sl 4 rfl) k_5 k_336 hd_X5_orderParts ⟨by decide, by decide⟩ (ci := 5) rfl rfl (by decide) rfl (Nat.le_of_ble_eq_true rfl) rfl (dAt dd_X5_orderLists 37 rfl) rfl (fun u7 h8 => ?_)
            refine x_iinc (w := (x3 + 1)) (lv' := [(3, .int (x3 + 1)), (2, .int (x2 + (-1))), (0, va_rf (some x0)), (1, .int x1)]) (p' := 67) hC 3 (dAt dd_X5_orderLists 38 rfl) rfl rfl (by decide) rfl rfl ?_
            refine x_goto (tgt := 4) hC (dAt dd_X5_orderLists 39 rfl) (by decide) ?_
            refine x_sub [2, 3, 1, 0] rfl ?_
            exact ih x0 x1 (x2 + (-1)) (x3 + 1) h8
      · refine x_aload_n (p' := 21) hC 0 (dAt dd_X5_orderLists 13 rfl) rfl rfl rfl ?_
        refine x_getR (p' := 24) hC fk_RX5_15 rfl (dAt dd_X5_orderLists 14 rfl) rfl (fun r9 => ?_)
        refine x_iload_n (p' := 25) hC 2 (dAt dd_X5_orderLists 15 rfl) rfl rfl rfl ?_
        refine x_iload_n (p' := 26) hC 3 (dAt dd_X5_orderLists 16 rfl) rfl rfl rfl ?_
        refine x_iastore (p' := 27) hC (dAt dd_X5_orderLists 17 rfl) rfl (fun h10 => ?_)
        refine x_iinc (w := (x2 + 1)) (lv' := [(2, .int (x2 + 1)), (0, va_rf (some x0)), (1, .int x1), (3, .int x3)]) (p' := 30) hC 2 (dAt dd_X5_orderLists 18 rfl) rfl rfl (by decide) rfl rfl ?_
        refine x_goto (tgt := 64) hC (dAt dd_X5_orderLists 19 rfl) (by decide) ?_
        refine x_iinc (w := (x3 + 1)) (lv' := [(3, .int (x3 + 1)), (2, .int (x2 + 1)), (0, va_rf (some x0)), (1, .int x1)]) (p' := 67) hC 3 (dAt dd_X5_orderLists 38 rfl) rfl rfl (by decide) rfl rfl ?_
        refine x_goto (tgt := 4) hC (dAt dd_X5_orderLists 39 rfl) (by decide) ?_
        refine x_sub [2, 3, 1, 0] rfl ?_
        exact ih x0 x1 (x2 + 1) (x3 + 1) h10
set_option maxHeartbeats 4000000 in
set_option maxRecDepth 100000 in
theorem c_X5_orderLists (l : Launch) (D : va_G) (cy : Nat → ClassId) (h : AH) (a0 : Nat) (p1 : Int32) : MX rvV l yX5_orderLists (Cond.code yX5_orderLists cX5_orderLists 4 none :: LW) 4 95 D cy h [va_rf (some a0), .int p1] (f_X5_orderLists h a0 p1) := by
  refine MX.of (lv := [(0, va_rf (some a0)), (1, .int p1)]) (by decide) (Nat.le_of_ble_eq_true rfl) rfl (fun C hC _ => ?_)
  unfold f_X5_orderLists
  refine x_iconst (v := 0) (p' := 1) hC (dAt dd_X5_orderLists 0 rfl) (by decide) rfl ?_
  refine x_istore_n (j := 2) (lv' := [(2, .int 0), (0, va_rf (some a0)), (1, .int p1)]) (p' := 2) hC (dAt dd_X5_orderLists 1 rfl) rfl (by decide) rfl rfl ?_
  refine x_iconst (v := 0) (p' := 3) hC (dAt dd_X5_orderLists 2 rfl) (by decide) rfl ?_
  refine x_istore_n (j := 3) (lv' := [(3, .int 0), (2, .int 0), (0, va_rf (some a0)), (1, .int p1)]) (p' := 4) hC (dAt dd_X5_orderLists 3 rfl) rfl (by decide) rfl rfl ?_
  refine x_sub [2, 3, 1, 0] rfl ?_
  exact t_X5_orderLists_L4 hC FU a0 p1 0 0 h
set_option maxHeartbeats 4000000 in
set_option maxRecDepth 100000 in
theorem t_J7_fill_53178_L5 {C : CT} (hC : OKC C yJ7_fill_53178 cJ7_fill_53178 4 none 0 0)   : ∀ (n : Nat) (x0 : Option Nat) (x1 : Int32) (x2 : Int32) (x3 : Int32) (h : AH), WX rvV C 5 [(0, va_rf x0), (1, .int x1), (2, .int x2), (3, .int x3)] [] h (f_J7_fill_53178_L5 n x0 x1 x2 x3 h) := by
  intro n
  induction n with
  | zero => intro _ _ _ _ _; exact x_none
  | succ n ih =>
    intro x0 x1 x2 x3 h
    rw [f_J7_fill_53178_L5]
    refine x_iload_n (p' := 6) hC 2 (dAt dd_J7_fill_53178 5 rfl) rfl rfl rfl ?_
    refine x_iload_n (p' := 7) hC 3 (dAt dd_J7_fill_53178 6 rfl) rfl rfl rfl ?_
    refine x_icmp_ge (tgt := 20) (p' := 10) hC (dAt dd_J7_fill_53178 7 rfl) (by decide) rfl ?_ ?_
    · exact x_return hC (dAt dd_J7_fill_53178 14 rfl)
    · refine x_aload_n (p' := 11) hC 0 (dAt dd_J7_fill_53178 8 rfl) rfl rfl rfl ?_
      refine x_iload_n (p' := 12) hC 2 (dAt dd_J7_fill_53178 9 rfl) rfl rfl rfl ?_
      refine x_iload_n (p' := 13) hC 1 (dAt dd_J7_fill_53178 10 rfl) rfl rfl rfl ?_
      refine x_iastore (p' := 14) hC (dAt dd_J7_fill_53178 11 rfl) rfl (fun h2 => ?_)
      refine x_iinc (w := (x2 + 1)) (lv' := [(2, .int (x2 + 1)), (0, va_rf x0), (1, .int x1), (3, .int x3)]) (p' := 17) hC 2 (dAt dd_J7_fill_53178 12 rfl) rfl rfl (by decide) rfl rfl ?_
      refine x_goto (tgt := 5) hC (dAt dd_J7_fill_53178 13 rfl) (by decide) ?_
      refine x_sub [1, 2, 0, 3] rfl ?_
      exact ih x0 x1 (x2 + 1) x3 h2
set_option maxHeartbeats 4000000 in
set_option maxRecDepth 100000 in
theorem c_J7_fill_53178 (l : Launch) (D : va_G) (cy : Nat → ClassId) (h : AH) (p0 : Option Nat) (p1 : Int32) : MX rvV l yJ7_fill_53178 (Cond.code yJ7_fill_53178 cJ7_fill_53178 4 none :: LW) 0 0 D cy h [va_rf p0, .int p1] (f_J7_fill_53178 h p0 p1) := by
  refine MX.of (lv := [(0, va_rf p0), (1, .int p1)]) (by decide) (by cases p0 <;> exact Nat.le_of_ble_eq_true rfl) (by cases p0 <;> rfl) (fun C hC _ => ?_)
  unfold f_J7_fill_53178
  refine x_iconst (v := 0) (p' := 1) hC (dAt dd_J7_fill_53178 0 rfl) (by decide) rfl ?_
  refine x_istore_n (j := 2) (lv' := [(2, .int 0), (0, va_rf p0), (1, .int p1)]) (p' := 2) hC (dAt dd_J7_fill_53178 1 rfl) rfl (by decide) rfl rfl ?_
  refine x_aload_n (p' := 3) hC 1 (dAt dd_J7_fill_53178 2 rfl) rfl rfl rfl ?_
  refine x_arraylength 12 0 (p' := 4) hC rfl (by decide) (dAt dd_J7_fill_53178 3 rfl) rfl (fun v1 => ?_)
  refine x_istore_n (j := 3) (lv' := [(3, .int v1), (2, .int 0), (0, va_rf p0), (1, .int p1)]) (p' := 5) hC (dAt dd_J7_fill_53178 4 rfl) rfl (by decide) rfl rfl ?_
  refine x_sub [2, 3, 1, 0] rfl ?_
  exact t_J7_fill_53178_L5 hC FU p0 p1 0 v1 h
set_option maxHeartbeats 4000000 in
set_option maxRecDepth 100000 in
theorem t_X5_nameIds_J62 {C : CT} (hC : OKC C yX5_nameIds cX5_nameIds 5 none 1 23) (k13 : Nat → Int32 → Int32 → Int32 → AH → RX Unit) (hk13 : ∀ (x0 : Nat) (x1 : Int32) (x2 : Int32) (x3 : Int32) (h : AH), WX rvV C 13 [(0, va_rf (some x0)), (1, .int x1), (2, .int x2), (3, .int x3)] [] h (k13 x0 x1 x2 x3 h)) : ∀ (x0 : Nat) (x1 : Int32) (x2 : Int32) (x3 : Int32) (x4 : Int32) (h : AH), WX rvV C 62 [(0, va_rf (some x0)), (1, .int x1), (2, .int x2), (3, .int x3), (4, .int x4)] [] h (f_X5_nameIds_J62 k13 x0 x1 x2 x3 x4 h) := by
  intro x0 x1 x2 x3 x4 h
  unfold f_X5_nameIds_J62
  refine x_aload_n (p' := 63) hC 0 (dAt dd_X5_nameIds 35 rfl) rfl rfl rfl ?_
  refine x_getR (p' := 66) hC fk_RX5_9 rfl (dAt dd_X5_nameIds 36 rfl) rfl (fun r12 => ?_)
  refine x_iload_n (p' := 67) hC 3 (dAt dd_X5_nameIds 37 rfl) rfl rfl rfl ?_
  refine x_aload_n (p' := 68) hC 0 (dAt dd_X5_nameIds 38 rfl) rfl rfl rfl ?_
  refine x_getR (p' := 71) hC fk_RX5_27 rfl (dAt dd_X5_nameIds 39 rfl) rfl (fun r13 => ?_)
  refine x_iload (p' := 73) hC 4 (dAt dd_X5_nameIds 40 rfl) rfl rfl ?_
  refine x_iaload (p' := 74) hC (dAt dd_X5_nameIds 41 rfl) rfl (fun v14 => ?_)
  refine x_iastore (p' := 75) hC (dAt dd_X5_nameIds 42 rfl) rfl (fun h15 => ?_)
  refine x_iinc (w := (x3 + 1)) (lv' := [(3, .int (x3 + 1)), (0, va_rf (some x0)), (1, .int x1), (2, .int x2), (4, .int x4)]) (p' := 78) hC 3 (dAt dd_X5_nameIds 43 rfl) rfl rfl (by decide) rfl rfl ?_
  refine x_goto (tgt := 13) hC (dAt dd_X5_nameIds 44 rfl) (by decide) ?_
  refine x_sub [1, 2, 3, 0] rfl ?_
  exact hk13 x0 x1 x2 (x3 + 1) h15
set_option maxHeartbeats 4000000 in
set_option maxRecDepth 100000 in
theorem t_X5_nameIds_L13 {C : CT} (hC : OKC C yX5_nameIds cX5_nameIds 5 none 1 23)   : ∀ (n : Nat) (x0 : Nat) (x1 : Int32) (x2 : Int32) (x3 : Int32) (h : AH), WX rvV C 13 [(0, va_rf (some x0)), (1, .int x1), (2, .int x2), (3, .int x3)] [] h (f_X5_nameIds_L13 n x0 x1 x2 x3 h) := by
  intro n
  induction n with
  | zero => intro _ _ _ _ _; exact x_none
  | succ n ih =>
    intro x0 x1 x2 x3 h
    rw [f_X5_nameIds_L13]
    refine x_iload_n (p' := 14) hC 3 (dAt dd_X5_nameIds 8 rfl) rfl rfl rfl ?_
    refine x_iload_n (p' := 15) hC 1 (dAt dd_X5_nameIds 9 rfl) rfl rfl rfl ?_
    refine x_icmp_ge (tgt := 81) (p' := 18) hC (dAt dd_X5_nameIds 10 rfl) (by decide) rfl ?_ ?_
    · exact x_return hC (dAt dd_X5_nameIds 45 rfl)
    · refine x_aload_n (p' := 19) hC 0 (dAt dd_X5_nameIds 11 rfl) rfl rfl rfl ?_
      refine x_getR (p' := 22) hC fk_RX5_9 rfl (dAt dd_X5_nameIds 12 rfl) rfl (fun r4 => ?_)
      refine x_iload_n (p' := 23) hC 3 (dAt dd_X5_nameIds 13 rfl) rfl rfl rfl ?_
      refine x_iaload (p' := 24) hC (dAt dd_X5_nameIds 14 rfl) rfl (fun v5 => ?_)
      refine x_callSI (As := [.int v5]) (p' := 27) hC (c_X9_isId _ _ _ h v5) k_351 k_352 k_12 k_353 hd_X9_isId ⟨by decide, by decide⟩ rfl (Nat.le_of_ble_eq_true rfl) rfl (dAt dd_X5_nameIds 15 rfl) rfl (fun v6 h7 => ?_)
      refine x_if_eq (tgt := 75) (p' := 30) hC (dAt dd_X5_nameIds 16 rfl) (by decide) rfl ?_ ?_
      · refine x_iinc (w := (x3 + 1)) (lv' := [(3, .int (x3 + 1)), (0, va_rf (some x0)), (1, .int x1), (2, .int x2)]) (p' := 78) hC 3 (dAt dd_X5_nameIds 43 rfl) rfl rfl (by decide) rfl rfl ?_
        refine x_goto (tgt := 13) hC (dAt dd_X5_nameIds 44 rfl) (by decide) ?_
        refine x_sub [1, 2, 3, 0] rfl ?_
        exact ih x0 x1 x2 (x3 + 1) h7
      · refine x_aload_n (p' := 31) hC 0 (dAt dd_X5_nameIds 17 rfl) rfl rfl rfl ?_
        refine x_getR (p' := 34) hC fk_RX5_9 rfl (dAt dd_X5_nameIds 18 rfl) rfl (fun r8 => ?_)
        refine x_iload_n (p' := 35) hC 3 (dAt dd_X5_nameIds 19 rfl) rfl rfl rfl ?_
        refine x_iaload (p' := 36) hC (dAt dd_X5_nameIds 20 rfl) rfl (fun v9 => ?_)
        refine x_bipush (v := 110) (p' := 38) hC (dAt dd_X5_nameIds 21 rfl) (by decide) rfl ?_
        refine x_isub (p' := 39) hC (dAt dd_X5_nameIds 22 rfl) rfl ?_
        refine x_istore (lv' := [(4, .int (v9 - 110)), (0, va_rf (some x0)), (1, .int x1), (2, .int x2), (3, .int x3)]) (p' := 41) hC (dAt dd_X5_nameIds 23 rfl) (by decide) rfl rfl ?_
        refine x_aload_n (p' := 42) hC 1 (dAt dd_X5_nameIds 24 rfl) rfl rfl rfl ?_
        refine x_getR (p' := 45) hC fk_RX5_27 rfl (dAt dd_X5_nameIds 25 rfl) rfl (fun r10 => ?_)
        refine x_iload (p' := 47) hC 0 (dAt dd_X5_nameIds 26 rfl) rfl rfl ?_
        refine x_iaload (p' := 48) hC (dAt dd_X5_nameIds 27 rfl) rfl (fun v11 => ?_)
        refine x_if_ne (tgt := 62) (p' := 51) hC (dAt dd_X5_nameIds 28 rfl) (by decide) rfl ?_ ?_
        · refine x_sub [1, 2, 3, 4, 0] rfl ?_
          exact t_X5_nameIds_J62 hC (f_X5_nameIds_L13 n) ih x0 x1 x2 x3 (v9 - 110) h7
        · refine x_aload_n (p' := 52) hC 1 (dAt dd_X5_nameIds 29 rfl) rfl rfl rfl ?_
          refine x_getR (p' := 55) hC fk_RX5_27 rfl (dAt dd_X5_nameIds 30 rfl) rfl (fun r16 => ?_)
          refine x_iload (p' := 57) hC 0 (dAt dd_X5_nameIds 31 rfl) rfl rfl ?_
          refine x_iload_n (p' := 58) hC 3 (dAt dd_X5_nameIds 32 rfl) rfl rfl rfl ?_
          refine x_iastore (p' := 59) hC (dAt dd_X5_nameIds 33 rfl) rfl (fun h17 => ?_)
          refine x_iinc (w := (x2 + 1)) (lv' := [(2, .int (x2 + 1)), (4, .int (v9 - 110)), (0, va_rf (some x0)), (1, .int x1), (3, .int x3)]) (p' := 62) hC 3 (dAt dd_X5_nameIds 34 rfl) rfl rfl (by decide) rfl rfl ?_
          refine x_sub [2, 3, 0, 4, 1] rfl ?_
          exact t_X5_nameIds_J62 hC (f_X5_nameIds_L13 n) ih x0 x1 (x2 + 1) x3 (v9 - 110) h17
set_option maxHeartbeats 4000000 in
set_option maxRecDepth 100000 in
theorem c_X5_nameIds (l : Launch) (D : va_G) (cy : Nat → ClassId) (h : AH) (a0 : Nat) (p1 : Int32) : MX rvV l yX5_nameIds (Cond.code yX5_nameIds cX5_nameIds 5 none :: LW) 1 23 D cy h [va_rf (some a0), .int p1] (f_X5_nameIds h a0 p1) := by
  refine MX.of (lv := [(0, va_rf (some a0)), (1, .int p1)]) (by decide) (Nat.le_of_ble_eq_true rfl) rfl (fun C hC _ => ?_)
  unfold f_X5_nameIds
  refine x_aload_n (p' := 1) hC 0 (dAt dd_X5_nameIds 0 rfl) rfl rfl rfl ?_
  refine x_getR (p' := 4) hC fk_RX5_27 rfl (dAt dd_X5_nameIds 1 rfl) rfl (fun r1 => ?_)
  refine x_iconst (v := 0) (p' := 5) hC (dAt dd_X5_nameIds 2 rfl) (by decide) rfl ?_
  refine x_callSV (As := [va_rf r1, .int 0]) (p' := 8) hC (c_J7_fill_53178 _ _ _ h r1 0) k_361 k_280 k_10 k_281 hd_J7_fill_53178 ⟨by decide, by decide⟩ rfl (Nat.le_of_ble_eq_true rfl) rfl (dAt dd_X5_nameIds 3 rfl) rfl (fun u2 h3 => ?_)
  refine x_bipush (v := 110) (p' := 10) hC (dAt dd_X5_nameIds 4 rfl) (by decide) rfl ?_
  refine x_istore_n (j := 2) (lv' := [(2, .int 110), (0, va_rf (some a0)), (1, .int p1)]) (p' := 11) hC (dAt dd_X5_nameIds 5 rfl) rfl (by decide) rfl rfl ?_
  refine x_iconst (v := 0) (p' := 12) hC (dAt dd_X5_nameIds 6 rfl) (by decide) rfl ?_
  refine x_istore_n (j := 3) (lv' := [(3, .int 0), (2, .int 110), (0, va_rf (some a0)), (1, .int p1)]) (p' := 13) hC (dAt dd_X5_nameIds 7 rfl) rfl (by decide) rfl rfl ?_
  refine x_sub [2, 3, 1, 0] rfl ?_
  exact t_X5_nameIds_L13 hC FU a0 p1 110 0 h3
set_option maxHeartbeats 4000000 in
set_option maxRecDepth 100000 in
theorem t_X5_work_J39 {C : CT} (hC : OKC C yX5_work cX5_work 3 none 5 118)   : ∀ (x0 : Nat) (x2 : Int32) (h : AH), WX rvV C 39 [(0, va_rf (some x0)), (2, .int x2)] [] h (f_X5_work_J39 x0 x2 h) := by
  intro x0 x2 h
  unfold f_X5_work_J39
  refine x_aload_n (p' := 40) hC 0 (dAt dd_X5_work 23 rfl) rfl rfl rfl ?_
  refine x_getI (p' := 43) hC fk_RX5_30 rfl (dAt dd_X5_work 24 rfl) rfl (fun v5 => ?_)
  refine x_iconst (v := 2) (p' := 44) hC (dAt dd_X5_work 25 rfl) (by decide) rfl ?_
  refine x_iand (p' := 45) hC (dAt dd_X5_work 26 rfl) rfl ?_
  refine x_if_eq (tgt := 53) (p' := 48) hC (dAt dd_X5_work 27 rfl) (by decide) rfl ?_ ?_
  · exact x_return hC (dAt dd_X5_work 31 rfl)
  · refine x_aload_n (p' := 49) hC 0 (dAt dd_X5_work 28 rfl) rfl rfl rfl ?_
    refine x_iload_n (p' := 50) hC 1 (dAt dd_X5_work 29 rfl) rfl rfl rfl ?_
    refine x_callVV (As := [.int x2]) (z := fun b => f_X5_nameIds h b x2) (p' := 53) hC (fun b => c_X5_nameIds _ _ _ h b x2) k_357 k_359 (k_sl 7 rfl) k_5 k_360 hd_X5_nameIds ⟨by decide, by decide⟩ (ci := 5) rfl rfl (by decide) rfl (Nat.le_of_ble_eq_true rfl) rfl (dAt dd_X5_work 30 rfl) rfl (fun u6 h7 => ?_)
    exact x_return hC (dAt dd_X5_work 31 rfl)
set_option maxHeartbeats 4000000 in
set_option maxRecDepth 100000 in
theorem t_X5_work_J25 {C : CT} (hC : OKC C yX5_work cX5_work 3 none 5 118)   : ∀ (x0 : Nat) (x2 : Int32) (h : AH), WX rvV C 25 [(0, va_rf (some x0)), (2, .int x2)] [] h (f_X5_work_J25 x0 x2 h) := by
  intro x0 x2 h
  unfold f_X5_work_J25
  refine x_aload_n (p' := 26) hC 0 (dAt dd_X5_work 15 rfl) rfl rfl rfl ?_
  refine x_getI (p' := 29) hC fk_RX5_30 rfl (dAt dd_X5_work 16 rfl) rfl (fun v4 => ?_)
  refine x_iconst (v := 4) (p' := 30) hC (dAt dd_X5_work 17 rfl) (by decide) rfl ?_
  refine x_iand (p' := 31) hC (dAt dd_X5_work 18 rfl) rfl ?_
  refine x_if_eq (tgt := 39) (p' := 34) hC (dAt dd_X5_work 19 rfl) (by decide) rfl ?_ ?_
  · exact t_X5_work_J39 hC x0 x2 h
  · refine x_aload_n (p' := 35) hC 0 (dAt dd_X5_work 20 rfl) rfl rfl rfl ?_
    refine x_iload_n (p' := 36) hC 1 (dAt dd_X5_work 21 rfl) rfl rfl rfl ?_
    refine x_callVV (As := [.int x2]) (z := fun b => f_X5_orderLists h b x2) (p' := 39) hC (fun b => c_X5_orderLists _ _ _ h b x2) k_329 k_331 (k_sl 3 rfl) k_5 k_332 hd_X5_orderLists ⟨by decide, by decide⟩ (ci := 5) rfl rfl (by decide) rfl (Nat.le_of_ble_eq_true rfl) rfl (dAt dd_X5_work 22 rfl) rfl (fun u8 h9 => ?_)
    exact t_X5_work_J39 hC x0 x2 h9
set_option maxHeartbeats 4000000 in
set_option maxRecDepth 100000 in
theorem c_X5_work (l : Launch) (D : va_G) (cy : Nat → ClassId) (h : AH) (a0 : Nat) (p1 : Option Nat) (p2 : Int32) : MX rvV l yX5_work (Cond.code yX5_work cX5_work 3 none :: LW) 5 118 D cy h [va_rf (some a0), va_rf p1, .int p2] (f_X5_work h a0 p1 p2) := by
  refine MX.of (lv := [(0, va_rf (some a0)), (1, va_rf p1), (2, .int p2)]) (by decide) (by cases p1 <;> exact Nat.le_of_ble_eq_true rfl) (by cases p1 <;> rfl) (fun C hC _ => ?_)
  unfold f_X5_work
  refine x_aload_n (p' := 1) hC 1 (dAt dd_X5_work 0 rfl) rfl rfl rfl ?_
  refine x_iconst (v := 0) (p' := 2) hC (dAt dd_X5_work 1 rfl) (by decide) rfl ?_
  refine x_aload_n (p' := 3) hC 0 (dAt dd_X5_work 2 rfl) rfl rfl rfl ?_
  refine x_getR (p' := 6) hC fk_RX5_9 rfl (dAt dd_X5_work 3 rfl) rfl (fun r1 => ?_)
  refine x_iconst (v := 0) (p' := 7) hC (dAt dd_X5_work 4 rfl) (by decide) rfl ?_
  refine x_iload_n (p' := 8) hC 2 (dAt dd_X5_work 5 rfl) rfl rfl rfl ?_
  refine x_copy (p' := 11) hC k_321 k_304 k_303 k_11 ⟨by decide, (Nat.le_of_ble_eq_true rfl)⟩ (dAt dd_X5_work 6 rfl) rfl (fun h2 => ?_)
  refine x_aload_n (p' := 12) hC 0 (dAt dd_X5_work 7 rfl) rfl rfl rfl ?_
  refine x_getI (p' := 15) hC fk_RX5_30 rfl (dAt dd_X5_work 8 rfl) rfl (fun v3 => ?_)
  refine x_iconst (v := 1) (p' := 16) hC (dAt dd_X5_work 9 rfl) (by decide) rfl ?_
  refine x_iand (p' := 17) hC (dAt dd_X5_work 10 rfl) rfl ?_
  refine x_if_eq (tgt := 25) (p' := 20) hC (dAt dd_X5_work 11 rfl) (by decide) rfl ?_ ?_
  · refine x_sub [0, 2] rfl ?_
    exact t_X5_work_J25 hC a0 p2 h2
  · refine x_aload_n (p' := 21) hC 0 (dAt dd_X5_work 12 rfl) rfl rfl rfl ?_
    refine x_iload_n (p' := 22) hC 2 (dAt dd_X5_work 13 rfl) rfl rfl rfl ?_
    refine x_callVV (As := [.int p2]) (z := fun b => f_X5_levelDates h2 b p2) (p' := 25) hC (fun b => c_X5_levelDates _ _ _ h2 b p2) k_322 k_324 (k_sl 2 rfl) k_5 k_325 hd_X5_levelDates ⟨by decide, by decide⟩ (ci := 5) rfl rfl (by decide) rfl (Nat.le_of_ble_eq_true rfl) rfl (dAt dd_X5_work 14 rfl) rfl (fun u10 h11 => ?_)
    refine x_sub [0, 2] rfl ?_
    exact t_X5_work_J25 hC a0 p2 h11
set_option maxHeartbeats 4000000 in
set_option maxRecDepth 100000 in
theorem c_X6_init (l : Launch) (D : va_G) (cy : Nat → ClassId) (h : AH) (a0 : Nat) : MX rvV l yX6_init (Cond.code yX6_init cX6_init 1 none :: LW) 1 12 D cy h [va_rf (some a0)] (f_X6_init h a0) := by
  refine MX.of (lv := [(0, va_rf (some a0))]) (by decide) (Nat.le_of_ble_eq_true rfl) rfl (fun C hC _ => ?_)
  unfold f_X6_init
  refine x_aload_n (p' := 1) hC 0 (dAt dd_X6_init 0 rfl) rfl rfl rfl ?_
  refine x_objInit (p' := 4) hC k_60 k_23 k_objcode ⟨by decide, (Nat.le_of_ble_eq_true rfl)⟩ (dAt dd_X6_init 1 rfl) rfl ?_
  refine x_aload_n (p' := 5) hC 0 (dAt dd_X6_init 2 rfl) rfl rfl rfl ?_
  refine x_iconst (v := 0) (p' := 6) hC (dAt dd_X6_init 3 rfl) (by decide) rfl ?_
  refine x_putI (p' := 9) hC fk_RX6_9 tk_RX6 rfl rfl (Or.inl rfl) (dAt dd_X6_init 4 rfl) rfl (fun h1 => ?_)
  refine x_aload_n (p' := 10) hC 0 (dAt dd_X6_init 5 rfl) rfl rfl rfl ?_
  refine x_sipush (v := 1440) (p' := 13) hC (dAt dd_X6_init 6 rfl) (by decide) rfl ?_
  refine x_newarray 12 0 (p' := 15) hC (Or.inl ⟨rfl, rfl, rfl⟩) k_41 (dAt dd_X6_init 7 rfl) rfl (fun a2 h3 => ?_)
  refine x_putR (p' := 18) hC fk_RX6_15 tk_RX6 rfl (Or.inr ⟨_, rfl⟩) (Or.inr ⟨rfl, rfl, rfl⟩) (dAt dd_X6_init 8 rfl) rfl (fun h4 => ?_)
  refine x_aload_n (p' := 19) hC 0 (dAt dd_X6_init 9 rfl) rfl rfl rfl ?_
  refine x_sipush (v := 1440) (p' := 22) hC (dAt dd_X6_init 10 rfl) (by decide) rfl ?_
  refine x_newarray 12 0 (p' := 24) hC (Or.inl ⟨rfl, rfl, rfl⟩) k_41 (dAt dd_X6_init 11 rfl) rfl (fun a5 h6 => ?_)
  refine x_putR (p' := 27) hC fk_RX6_19 tk_RX6 rfl (Or.inr ⟨_, rfl⟩) (Or.inr ⟨rfl, rfl, rfl⟩) (dAt dd_X6_init 12 rfl) rfl (fun h7 => ?_)
  refine x_aload_n (p' := 28) hC 0 (dAt dd_X6_init 13 rfl) rfl rfl rfl ?_
  refine x_sipush (v := 1440) (p' := 31) hC (dAt dd_X6_init 14 rfl) (by decide) rfl ?_
  refine x_newarray 12 0 (p' := 33) hC (Or.inl ⟨rfl, rfl, rfl⟩) k_41 (dAt dd_X6_init 15 rfl) rfl (fun a8 h9 => ?_)
  refine x_putR (p' := 36) hC fk_RX6_22 tk_RX6 rfl (Or.inr ⟨_, rfl⟩) (Or.inr ⟨rfl, rfl, rfl⟩) (dAt dd_X6_init 16 rfl) rfl (fun h10 => ?_)
  exact x_return hC (dAt dd_X6_init 17 rfl)
set_option maxHeartbeats 4000000 in
set_option maxRecDepth 100000 in
theorem t_X9_areAlikeFrom_L3 {C : CT} (hC : OKC C yX9_areAlikeFrom cX9_areAlikeFrom 6 (some .boolean) 0 0)   : ∀ (n : Nat) (x0 : Option Nat) (x1 : Int32) (x2 : Option Nat) (x3 : Int32) (x4 : Int32) (x5 : Int32) (h : AH), WX rvI C 3 [(0, va_rf x0), (1, .int x1), (2, va_rf x2), (3, .int x3), (4, .int x4), (5, .int x5)] [] h (f_X9_areAlikeFrom_L3 n x0 x1 x2 x3 x4 x5 h) := by
  intro n
  induction n with
  | zero => intro _ _ _ _ _ _ _; exact x_none
  | succ n ih =>
    intro x0 x1 x2 x3 x4 x5 h
    rw [f_X9_areAlikeFrom_L3]
    refine x_iload (p' := 5) hC 5 (dAt dd_X9_areAlikeFrom 2 rfl) rfl rfl ?_
    refine x_iload (p' := 7) hC 4 (dAt dd_X9_areAlikeFrom 3 rfl) rfl rfl ?_
    refine x_icmp_ge (tgt := 33) (p' := 10) hC (dAt dd_X9_areAlikeFrom 4 rfl) (by decide) rfl ?_ ?_
    · refine x_iconst (v := 1) (p' := 34) hC (dAt dd_X9_areAlikeFrom 20 rfl) (by decide) rfl ?_
      exact x_zreturn hC (dAt dd_X9_areAlikeFrom 21 rfl)
    · refine x_aload_n (p' := 11) hC 0 (dAt dd_X9_areAlikeFrom 5 rfl) rfl rfl rfl ?_
      refine x_iload_n (p' := 12) hC 1 (dAt dd_X9_areAlikeFrom 6 rfl) rfl rfl rfl ?_
      refine x_iload (p' := 14) hC 5 (dAt dd_X9_areAlikeFrom 7 rfl) rfl rfl ?_
      refine x_iadd (p' := 15) hC (dAt dd_X9_areAlikeFrom 8 rfl) rfl ?_
      refine x_iaload (p' := 16) hC (dAt dd_X9_areAlikeFrom 9 rfl) rfl (fun v1 => ?_)
      refine x_aload_n (p' := 17) hC 2 (dAt dd_X9_areAlikeFrom 10 rfl) rfl rfl rfl ?_
      refine x_iload_n (p' := 18) hC 3 (dAt dd_X9_areAlikeFrom 11 rfl) rfl rfl rfl ?_
      refine x_iload (p' := 20) hC 5 (dAt dd_X9_areAlikeFrom 12 rfl) rfl rfl ?_
      refine x_iadd (p' := 21) hC (dAt dd_X9_areAlikeFrom 13 rfl) rfl ?_
      refine x_iaload (p' := 22) hC (dAt dd_X9_areAlikeFrom 14 rfl) rfl (fun v2 => ?_)
      refine x_icmp_eq (tgt := 27) (p' := 25) hC (dAt dd_X9_areAlikeFrom 15 rfl) (by decide) rfl ?_ ?_
      · refine x_iinc (w := (x5 + 1)) (lv' := [(5, .int (x5 + 1)), (0, va_rf x0), (1, .int x1), (2, va_rf x2), (3, .int x3), (4, .int x4)]) (p' := 30) hC 5 (dAt dd_X9_areAlikeFrom 18 rfl) rfl rfl (by decide) rfl rfl ?_
        refine x_goto (tgt := 3) hC (dAt dd_X9_areAlikeFrom 19 rfl) (by decide) ?_
        refine x_sub [1, 2, 3, 4, 5, 0] rfl ?_
        exact ih x0 x1 x2 x3 x4 (x5 + 1) h
      · refine x_iconst (v := 0) (p' := 26) hC (dAt dd_X9_areAlikeFrom 16 rfl) (by decide) rfl ?_
        exact x_zreturn hC (dAt dd_X9_areAlikeFrom 17 rfl)
set_option maxHeartbeats 4000000 in
set_option maxRecDepth 100000 in
theorem c_X9_areAlikeFrom (l : Launch) (D : va_G) (cy : Nat → ClassId) (h : AH) (p0 : Option Nat) (p1 : Int32) (p2 : Option Nat) (p3 : Int32) (p4 : Int32) : MX rvI l yX9_areAlikeFrom (Cond.code yX9_areAlikeFrom cX9_areAlikeFrom 6 (some .boolean) :: LW) 0 0 D cy h [va_rf p0, .int p1, va_rf p2, .int p3, .int p4] (f_X9_areAlikeFrom h p0 p1 p2 p3 p4) := by
  refine MX.of (lv := [(0, va_rf p0), (1, .int p1), (2, va_rf p2), (3, .int p3), (4, .int p4)]) (by decide) (by cases p0 <;> cases p2 <;> exact Nat.le_of_ble_eq_true rfl) (by cases p0 <;> cases p2 <;> rfl) (fun C hC _ => ?_)
  unfold f_X9_areAlikeFrom
  refine x_iconst (v := 0) (p' := 1) hC (dAt dd_X9_areAlikeFrom 0 rfl) (by decide) rfl ?_
  refine x_istore (lv' := [(5, .int 0), (0, va_rf p0), (1, .int p1), (2, va_rf p2), (3, .int p3), (4, .int p4)]) (p' := 3) hC (dAt dd_X9_areAlikeFrom 1 rfl) (by decide) rfl rfl ?_
  refine x_sub [1, 2, 3, 4, 5, 0] rfl ?_
  exact t_X9_areAlikeFrom_L3 hC FU p0 p1 p2 p3 p4 0 h
set_option maxHeartbeats 4000000 in
set_option maxRecDepth 100000 in
theorem c_X6_haveOneShape (l : Launch) (D : va_G) (cy : Nat → ClassId) (h : AH) (p0 : Option Nat) (p1 : Int32) (p2 : Option Nat) (p3 : Int32) : MX rvI l yX6_haveOneShape (Cond.code yX6_haveOneShape cX6_haveOneShape 6 (some .boolean) :: LW) 1 25 D cy h [va_rf p0, .int p1, va_rf p2, .int p3] (f_X6_haveOneShape h p0 p1 p2 p3) := by
  refine MX.of (lv := [(0, va_rf p0), (1, .int p1), (2, va_rf p2), (3, .int p3)]) (by decide) (by cases p0 <;> cases p2 <;> exact Nat.le_of_ble_eq_true rfl) (by cases p0 <;> cases p2 <;> rfl) (fun C hC _ => ?_)
  unfold f_X6_haveOneShape
  refine x_aload_n (p' := 1) hC 0 (dAt dd_X6_haveOneShape 0 rfl) rfl rfl rfl ?_
  refine x_getR (p' := 4) hC fk_RX6_29 rfl (dAt dd_X6_haveOneShape 1 rfl) rfl (fun r1 => ?_)
  refine x_astore (lv' := [(4, va_rf r1), (0, va_rf p0), (1, .int p1), (2, va_rf p2), (3, .int p3)]) (p' := 6) hC (dAt dd_X6_haveOneShape 2 rfl) (by decide) rfl rfl ?_
  refine x_aload_n (p' := 7) hC 3 (dAt dd_X6_haveOneShape 3 rfl) rfl rfl rfl ?_
  refine x_getR (p' := 10) hC fk_RX6_29 rfl (dAt dd_X6_haveOneShape 4 rfl) rfl (fun r2 => ?_)
  refine x_astore (lv' := [(5, va_rf r2), (4, va_rf r1), (0, va_rf p0), (1, .int p1), (2, va_rf p2), (3, .int p3)]) (p' := 12) hC (dAt dd_X6_haveOneShape 5 rfl) (by decide) (by simp [x_cat, show ∀ v : Int32, (Value.int v).category = 1 from fun _ => rfl]) rfl ?_
  refine x_aload (p' := 14) hC 1 (dAt dd_X6_haveOneShape 6 rfl) rfl rfl ?_
  refine x_getR (p' := 17) hC fk_RX6_40 rfl (dAt dd_X6_haveOneShape 7 rfl) rfl (fun r3 => ?_)
  refine x_iload_n (p' := 18) hC 3 (dAt dd_X6_haveOneShape 8 rfl) rfl rfl rfl ?_
  refine x_iaload (p' := 19) hC (dAt dd_X6_haveOneShape 9 rfl) rfl (fun v4 => ?_)
  refine x_aload (p' := 21) hC 0 (dAt dd_X6_haveOneShape 10 rfl) rfl rfl ?_
  refine x_getR (p' := 24) hC fk_RX6_40 rfl (dAt dd_X6_haveOneShape 11 rfl) rfl (fun r5 => ?_)
  refine x_iload_n (p' := 25) hC 5 (dAt dd_X6_haveOneShape 12 rfl) rfl rfl rfl ?_
  refine x_iaload (p' := 26) hC (dAt dd_X6_haveOneShape 13 rfl) rfl (fun v6 => ?_)
  refine x_icmp_ne (tgt := 46) (p' := 29) hC (dAt dd_X6_haveOneShape 14 rfl) (by decide) rfl ?_ ?_
  · refine x_iconst (v := 0) (p' := 47) hC (dAt dd_X6_haveOneShape 24 rfl) (by decide) rfl ?_
    exact x_zreturn hC (dAt dd_X6_haveOneShape 25 rfl)
  · refine x_aload (p' := 31) hC 1 (dAt dd_X6_haveOneShape 15 rfl) rfl rfl ?_
    refine x_getR (p' := 34) hC fk_RX6_43 rfl (dAt dd_X6_haveOneShape 16 rfl) rfl (fun r7 => ?_)
    refine x_iload_n (p' := 35) hC 3 (dAt dd_X6_haveOneShape 17 rfl) rfl rfl rfl ?_
    refine x_iaload (p' := 36) hC (dAt dd_X6_haveOneShape 18 rfl) rfl (fun v8 => ?_)
    refine x_aload (p' := 38) hC 0 (dAt dd_X6_haveOneShape 19 rfl) rfl rfl ?_
    refine x_getR (p' := 41) hC fk_RX6_43 rfl (dAt dd_X6_haveOneShape 20 rfl) rfl (fun r9 => ?_)
    refine x_iload_n (p' := 42) hC 5 (dAt dd_X6_haveOneShape 21 rfl) rfl rfl rfl ?_
    refine x_iaload (p' := 43) hC (dAt dd_X6_haveOneShape 22 rfl) rfl (fun v10 => ?_)
    refine x_icmp_eq (tgt := 48) (p' := 46) hC (dAt dd_X6_haveOneShape 23 rfl) (by decide) rfl ?_ ?_
    · refine x_aload_n (p' := 49) hC 2 (dAt dd_X6_haveOneShape 26 rfl) rfl rfl rfl ?_
      refine x_getR (p' := 52) hC fk_RX6_46 rfl (dAt dd_X6_haveOneShape 27 rfl) rfl (fun r11 => ?_)
      refine x_ifnull (tgt := 76) (p' := 55) hC (dAt dd_X6_haveOneShape 28 rfl) (by decide) rfl (fun _ => ?_) (fun _ _ => ?_)
      · refine x_iconst (v := 0) (p' := 77) hC (dAt dd_X6_haveOneShape 38 rfl) (by decide) rfl ?_
        exact x_zreturn hC (dAt dd_X6_haveOneShape 39 rfl)
      · refine x_aload_n (p' := 56) hC 2 (dAt dd_X6_haveOneShape 29 rfl) rfl rfl rfl ?_
        refine x_getR (p' := 59) hC fk_RX6_50 rfl (dAt dd_X6_haveOneShape 30 rfl) rfl (fun r12 => ?_)
        refine x_ifnull (tgt := 76) (p' := 62) hC (dAt dd_X6_haveOneShape 31 rfl) (by decide) rfl (fun _ => ?_) (fun _ _ => ?_)
        · refine x_iconst (v := 0) (p' := 77) hC (dAt dd_X6_haveOneShape 38 rfl) (by decide) rfl ?_
          exact x_zreturn hC (dAt dd_X6_haveOneShape 39 rfl)
        · refine x_aload_n (p' := 63) hC 4 (dAt dd_X6_haveOneShape 32 rfl) rfl rfl rfl ?_
          refine x_getR (p' := 66) hC fk_RX6_46 rfl (dAt dd_X6_haveOneShape 33 rfl) rfl (fun r13 => ?_)
          refine x_ifnull (tgt := 76) (p' := 69) hC (dAt dd_X6_haveOneShape 34 rfl) (by decide) rfl (fun _ => ?_) (fun _ _ => ?_)
          · refine x_iconst (v := 0) (p' := 77) hC (dAt dd_X6_haveOneShape 38 rfl) (by decide) rfl ?_
            exact x_zreturn hC (dAt dd_X6_haveOneShape 39 rfl)
          · refine x_aload_n (p' := 70) hC 4 (dAt dd_X6_haveOneShape 35 rfl) rfl rfl rfl ?_
            refine x_getR (p' := 73) hC fk_RX6_50 rfl (dAt dd_X6_haveOneShape 36 rfl) rfl (fun r14 => ?_)
            refine x_ifnonnull (tgt := 78) (p' := 76) hC (dAt dd_X6_haveOneShape 37 rfl) (by decide) rfl (fun _ _ => ?_) (fun _ => ?_)
            · refine x_aload_n (p' := 79) hC 2 (dAt dd_X6_haveOneShape 40 rfl) rfl rfl rfl ?_
              refine x_getR (p' := 82) hC fk_RX6_46 rfl (dAt dd_X6_haveOneShape 41 rfl) rfl (fun r15 => ?_)
              refine x_getR (p' := 85) hC fk_RX6_53 rfl (dAt dd_X6_haveOneShape 42 rfl) rfl (fun r16 => ?_)
              refine x_aload (p' := 87) hC 1 (dAt dd_X6_haveOneShape 43 rfl) rfl rfl ?_
              refine x_getR (p' := 90) hC fk_RX6_58 rfl (dAt dd_X6_haveOneShape 44 rfl) rfl (fun r17 => ?_)
              refine x_iload_n (p' := 91) hC 3 (dAt dd_X6_haveOneShape 45 rfl) rfl rfl rfl ?_
              refine x_iaload (p' := 92) hC (dAt dd_X6_haveOneShape 46 rfl) rfl (fun v18 => ?_)
              refine x_aload_n (p' := 93) hC 4 (dAt dd_X6_haveOneShape 47 rfl) rfl rfl rfl ?_
              refine x_getR (p' := 96) hC fk_RX6_46 rfl (dAt dd_X6_haveOneShape 48 rfl) rfl (fun r19 => ?_)
              refine x_getR (p' := 99) hC fk_RX6_53 rfl (dAt dd_X6_haveOneShape 49 rfl) rfl (fun r20 => ?_)
              refine x_aload (p' := 101) hC 0 (dAt dd_X6_haveOneShape 50 rfl) rfl rfl ?_
              refine x_getR (p' := 104) hC fk_RX6_58 rfl (dAt dd_X6_haveOneShape 51 rfl) rfl (fun r21 => ?_)
              refine x_iload_n (p' := 105) hC 5 (dAt dd_X6_haveOneShape 52 rfl) rfl rfl rfl ?_
              refine x_iaload (p' := 106) hC (dAt dd_X6_haveOneShape 53 rfl) rfl (fun v22 => ?_)
              refine x_aload (p' := 108) hC 1 (dAt dd_X6_haveOneShape 54 rfl) rfl rfl ?_
              refine x_getR (p' := 111) hC fk_RX6_40 rfl (dAt dd_X6_haveOneShape 55 rfl) rfl (fun r23 => ?_)
              refine x_iload_n (p' := 112) hC 3 (dAt dd_X6_haveOneShape 56 rfl) rfl rfl rfl ?_
              refine x_iaload (p' := 113) hC (dAt dd_X6_haveOneShape 57 rfl) rfl (fun v24 => ?_)
              refine x_callSI (As := [va_rf r16, .int v18, va_rf r20, .int v22, .int v24]) (p' := 116) hC (c_X9_areAlikeFrom _ _ _ h r16 v18 r20 v22 v24) k_490 k_424 k_12 k_425 hd_X9_areAlikeFrom ⟨by decide, by decide⟩ rfl (Nat.le_of_ble_eq_true rfl) rfl (dAt dd_X6_haveOneShape 58 rfl) rfl (fun v25 h26 => ?_)
              refine x_if_eq (tgt := 164) (p' := 119) hC (dAt dd_X6_haveOneShape 59 rfl) (by decide) rfl ?_ ?_
              · refine x_iconst (v := 0) (p' := 165) hC (dAt dd_X6_haveOneShape 82 rfl) (by decide) rfl ?_
                exact x_zreturn hC (dAt dd_X6_haveOneShape 83 rfl)
              · refine x_aload_n (p' := 120) hC 2 (dAt dd_X6_haveOneShape 60 rfl) rfl rfl rfl ?_
                refine x_getR (p' := 123) hC fk_RX6_50 rfl (dAt dd_X6_haveOneShape 61 rfl) rfl (fun r27 => ?_)
                refine x_getR (p' := 126) hC fk_RX6_53 rfl (dAt dd_X6_haveOneShape 62 rfl) rfl (fun r28 => ?_)
                refine x_aload (p' := 128) hC 1 (dAt dd_X6_haveOneShape 63 rfl) rfl rfl ?_
                refine x_getR (p' := 131) hC fk_RX6_67 rfl (dAt dd_X6_haveOneShape 64 rfl) rfl (fun r29 => ?_)
                refine x_iload_n (p' := 132) hC 3 (dAt dd_X6_haveOneShape 65 rfl) rfl rfl rfl ?_
                refine x_iaload (p' := 133) hC (dAt dd_X6_haveOneShape 66 rfl) rfl (fun v30 => ?_)
                refine x_aload_n (p' := 134) hC 4 (dAt dd_X6_haveOneShape 67 rfl) rfl rfl rfl ?_
                refine x_getR (p' := 137) hC fk_RX6_50 rfl (dAt dd_X6_haveOneShape 68 rfl) rfl (fun r31 => ?_)
                refine x_getR (p' := 140) hC fk_RX6_53 rfl (dAt dd_X6_haveOneShape 69 rfl) rfl (fun r32 => ?_)
                refine x_aload (p' := 142) hC 0 (dAt dd_X6_haveOneShape 70 rfl) rfl rfl ?_
                refine x_getR (p' := 145) hC fk_RX6_67 rfl (dAt dd_X6_haveOneShape 71 rfl) rfl (fun r33 => ?_)
                refine x_iload_n (p' := 146) hC 5 (dAt dd_X6_haveOneShape 72 rfl) rfl rfl rfl ?_
                refine x_iaload (p' := 147) hC (dAt dd_X6_haveOneShape 73 rfl) rfl (fun v34 => ?_)
                refine x_aload (p' := 149) hC 1 (dAt dd_X6_haveOneShape 74 rfl) rfl rfl ?_
                refine x_getR (p' := 152) hC fk_RX6_43 rfl (dAt dd_X6_haveOneShape 75 rfl) rfl (fun r35 => ?_)
                refine x_iload_n (p' := 153) hC 3 (dAt dd_X6_haveOneShape 76 rfl) rfl rfl rfl ?_
                refine x_iaload (p' := 154) hC (dAt dd_X6_haveOneShape 77 rfl) rfl (fun v36 => ?_)
                refine x_callSI (As := [va_rf r28, .int v30, va_rf r32, .int v34, .int v36]) (p' := 157) hC (c_X9_areAlikeFrom _ _ _ h26 r28 v30 r32 v34 v36) k_490 k_424 k_12 k_425 hd_X9_areAlikeFrom ⟨by decide, by decide⟩ rfl (Nat.le_of_ble_eq_true rfl) rfl (dAt dd_X6_haveOneShape 78 rfl) rfl (fun v37 h38 => ?_)
                refine x_if_eq (tgt := 164) (p' := 160) hC (dAt dd_X6_haveOneShape 79 rfl) (by decide) rfl ?_ ?_
                · refine x_iconst (v := 0) (p' := 165) hC (dAt dd_X6_haveOneShape 82 rfl) (by decide) rfl ?_
                  exact x_zreturn hC (dAt dd_X6_haveOneShape 83 rfl)
                · refine x_iconst (v := 1) (p' := 161) hC (dAt dd_X6_haveOneShape 80 rfl) (by decide) rfl ?_
                  refine x_goto (tgt := 165) hC (dAt dd_X6_haveOneShape 81 rfl) (by decide) ?_
                  exact x_zreturn hC (dAt dd_X6_haveOneShape 83 rfl)
            · refine x_iconst (v := 0) (p' := 77) hC (dAt dd_X6_haveOneShape 38 rfl) (by decide) rfl ?_
              exact x_zreturn hC (dAt dd_X6_haveOneShape 39 rfl)
    · refine x_iconst (v := 0) (p' := 47) hC (dAt dd_X6_haveOneShape 24 rfl) (by decide) rfl ?_
      exact x_zreturn hC (dAt dd_X6_haveOneShape 25 rfl)
set_option maxHeartbeats 4000000 in
set_option maxRecDepth 100000 in
theorem t_X6_gather_L3 {C : CT} (hC : OKC C yX6_gather cX6_gather 5 none 2 50) (k44 : Nat → Option Nat → Int32 → Int32 → Int32 → AH → RX Unit) (hk44 : ∀ (x0 : Nat) (x1 : Option Nat) (x2 : Int32) (x3 : Int32) (x4 : Int32) (h : AH), WX rvV C 44 [(0, va_rf (some x0)), (1, va_rf x1), (2, .int x2), (3, .int x3), (4, .int x4)] [] h (k44 x0 x1 x2 x3 x4 h)) : ∀ (n : Nat) (x0 : Nat) (x1 : Option Nat) (x2 : Int32) (x3 : Int32) (x4 : Int32) (h : AH), WX rvV C 3 [(0, va_rf (some x0)), (1, va_rf x1), (2, .int x2), (3, .int x3), (4, .int x4)] [] h (f_X6_gather_L3 k44 n x0 x1 x2 x3 x4 h) := by
  intro n
  induction n with
  | zero => intro _ _ _ _ _ _; exact x_none
  | succ n ih =>
    intro x0 x1 x2 x3 x4 h
    rw [f_X6_gather_L3]
    refine x_iload (p' := 5) hC 4 (dAt dd_X6_gather 2 rfl) rfl rfl ?_
    refine x_aload_n (p' := 6) hC 0 (dAt dd_X6_gather 3 rfl) rfl rfl rfl ?_
    refine x_getI (p' := 9) hC fk_RX6_9 rfl (dAt dd_X6_gather 4 rfl) rfl (fun v1 => ?_)
    refine x_icmp_ge (tgt := 44) (p' := 12) hC (dAt dd_X6_gather 5 rfl) (by decide) rfl ?_ ?_
    · exact hk44 x0 x1 x2 x3 x4 h
    · refine x_aload_n (p' := 13) hC 1 (dAt dd_X6_gather 6 rfl) rfl rfl rfl ?_
      refine x_aload_n (p' := 14) hC 0 (dAt dd_X6_gather 7 rfl) rfl rfl rfl ?_
      refine x_getR (p' := 17) hC fk_RX6_15 rfl (dAt dd_X6_gather 8 rfl) rfl (fun r2 => ?_)
      refine x_iload (p' := 19) hC 4 (dAt dd_X6_gather 9 rfl) rfl rfl ?_
      refine x_iaload (p' := 20) hC (dAt dd_X6_gather 10 rfl) rfl (fun v3 => ?_)
      refine x_aaload 17 5 (p' := 21) hC rfl (by decide) rfl (dAt dd_X6_gather 11 rfl) rfl (fun r4 => ?_)
      refine x_aload_n (p' := 22) hC 0 (dAt dd_X6_gather 12 rfl) rfl rfl rfl ?_
      refine x_getR (p' := 25) hC fk_RX6_19 rfl (dAt dd_X6_gather 13 rfl) rfl (fun r5 => ?_)
      refine x_iload (p' := 27) hC 4 (dAt dd_X6_gather 14 rfl) rfl rfl ?_
      refine x_iaload (p' := 28) hC (dAt dd_X6_gather 15 rfl) rfl (fun v6 => ?_)
      refine x_aload_n (p' := 29) hC 1 (dAt dd_X6_gather 16 rfl) rfl rfl rfl ?_
      refine x_iload_n (p' := 30) hC 2 (dAt dd_X6_gather 17 rfl) rfl rfl rfl ?_
      refine x_aaload 17 5 (p' := 31) hC rfl (by decide) rfl (dAt dd_X6_gather 18 rfl) rfl (fun r7 => ?_)
      refine x_iload_n (p' := 32) hC 3 (dAt dd_X6_gather 19 rfl) rfl rfl rfl ?_
      refine x_callSI (As := [va_rf r4, .int v6, va_rf r7, .int x3]) (p' := 35) hC (c_X6_haveOneShape _ _ _ h r4 v6 r7 x3) k_487 k_488 k_4 k_489 hd_X6_haveOneShape ⟨by decide, by decide⟩ rfl (Nat.le_of_ble_eq_true rfl) rfl (dAt dd_X6_gather 20 rfl) rfl (fun v8 h9 => ?_)
      refine x_if_ne (tgt := 44) (p' := 38) hC (dAt dd_X6_gather 21 rfl) (by decide) rfl ?_ ?_
      · exact hk44 x0 x1 x2 x3 x4 h9
      · refine x_iinc (w := (x4 + 1)) (lv' := [(4, .int (x4 + 1)), (0, va_rf (some x0)), (1, va_rf x1), (2, .int x2), (3, .int x3)]) (p' := 41) hC 4 (dAt dd_X6_gather 22 rfl) rfl rfl (by decide) rfl rfl ?_
        refine x_goto (tgt := 3) hC (dAt dd_X6_gather 23 rfl) (by decide) ?_
        refine x_sub [1, 2, 3, 4, 0] rfl ?_
        exact ih x0 x1 x2 x3 (x4 + 1) h9
set_option maxHeartbeats 4000000 in
set_option maxRecDepth 100000 in
theorem t_X6_gather_J98 {C : CT} (hC : OKC C yX6_gather cX6_gather 5 none 2 50)   : ∀ (x0 : Nat) (x1 : Option Nat) (x2 : Int32) (x3 : Int32) (x4 : Int32) (h : AH), WX rvV C 98 [(0, va_rf (some x0)), (1, va_rf x1), (2, .int x2), (3, .int x3), (4, .int x4)] [] h (f_X6_gather_J98 x0 x1 x2 x3 x4 h) := by
  intro x0 x1 x2 x3 x4 h
  unfold f_X6_gather_J98
  refine x_aload_n (p' := 99) hC 0 (dAt dd_X6_gather 55 rfl) rfl rfl rfl ?_
  refine x_getR (p' := 102) hC fk_RX6_22 rfl (dAt dd_X6_gather 56 rfl) rfl (fun r13 => ?_)
  refine x_iload (p' := 104) hC 4 (dAt dd_X6_gather 57 rfl) rfl rfl ?_
  refine x_dup2 (p' := 105) hC (dAt dd_X6_gather 58 rfl) rfl (x_cat _) rfl ?_
  refine x_iaload (p' := 106) hC (dAt dd_X6_gather 59 rfl) rfl (fun v14 => ?_)
  refine x_iconst (v := 1) (p' := 107) hC (dAt dd_X6_gather 60 rfl) (by decide) rfl ?_
  refine x_iadd (p' := 108) hC (dAt dd_X6_gather 61 rfl) rfl ?_
  refine x_iastore (p' := 109) hC (dAt dd_X6_gather 62 rfl) rfl (fun h15 => ?_)
  refine x_aload_n (p' := 110) hC 1 (dAt dd_X6_gather 63 rfl) rfl rfl rfl ?_
  refine x_iload_n (p' := 111) hC 2 (dAt dd_X6_gather 64 rfl) rfl rfl rfl ?_
  refine x_aaload 17 5 (p' := 112) hC rfl (by decide) rfl (dAt dd_X6_gather 65 rfl) rfl (fun r16 => ?_)
  refine x_getR (p' := 115) hC fk_RX6_29 rfl (dAt dd_X6_gather 66 rfl) rfl (fun r17 => ?_)
  refine x_getR (p' := 118) hC fk_RX6_35 rfl (dAt dd_X6_gather 67 rfl) rfl (fun r18 => ?_)
  refine x_iload_n (p' := 119) hC 3 (dAt dd_X6_gather 68 rfl) rfl rfl rfl ?_
  refine x_iload (p' := 121) hC 4 (dAt dd_X6_gather 69 rfl) rfl rfl ?_
  refine x_iastore (p' := 122) hC (dAt dd_X6_gather 70 rfl) rfl (fun h19 => ?_)
  exact x_return hC (dAt dd_X6_gather 71 rfl)
set_option maxHeartbeats 4000000 in
set_option maxRecDepth 100000 in
theorem t_X6_gather_J44 {C : CT} (hC : OKC C yX6_gather cX6_gather 5 none 2 50)   : ∀ (x0 : Nat) (x1 : Option Nat) (x2 : Int32) (x3 : Int32) (x4 : Int32) (h : AH), WX rvV C 44 [(0, va_rf (some x0)), (1, va_rf x1), (2, .int x2), (3, .int x3), (4, .int x4)] [] h (f_X6_gather_J44 x0 x1 x2 x3 x4 h) := by
  intro x0 x1 x2 x3 x4 h
  unfold f_X6_gather_J44
  refine x_iload (p' := 46) hC 4 (dAt dd_X6_gather 24 rfl) rfl rfl ?_
  refine x_aload_n (p' := 47) hC 0 (dAt dd_X6_gather 25 rfl) rfl rfl rfl ?_
  refine x_getR (p' := 50) hC fk_RX6_22 rfl (dAt dd_X6_gather 26 rfl) rfl (fun r10 => ?_)
  refine x_arraylength 12 0 (p' := 51) hC rfl (by decide) (dAt dd_X6_gather 27 rfl) rfl (fun v11 => ?_)
  refine x_icmp_lt (tgt := 55) (p' := 54) hC (dAt dd_X6_gather 28 rfl) (by decide) rfl ?_ ?_
  · refine x_iload (p' := 57) hC 4 (dAt dd_X6_gather 30 rfl) rfl rfl ?_
    refine x_aload_n (p' := 58) hC 0 (dAt dd_X6_gather 31 rfl) rfl rfl rfl ?_
    refine x_getI (p' := 61) hC fk_RX6_9 rfl (dAt dd_X6_gather 32 rfl) rfl (fun v12 => ?_)
    refine x_icmp_ne (tgt := 98) (p' := 64) hC (dAt dd_X6_gather 33 rfl) (by decide) rfl ?_ ?_
    · exact t_X6_gather_J98 hC x0 x1 x2 x3 x4 h
    · refine x_aload_n (p' := 65) hC 0 (dAt dd_X6_gather 34 rfl) rfl rfl rfl ?_
      refine x_getR (p' := 68) hC fk_RX6_15 rfl (dAt dd_X6_gather 35 rfl) rfl (fun r20 => ?_)
      refine x_iload (p' := 70) hC 4 (dAt dd_X6_gather 36 rfl) rfl rfl ?_
      refine x_iload_n (p' := 71) hC 2 (dAt dd_X6_gather 37 rfl) rfl rfl rfl ?_
      refine x_iastore (p' := 72) hC (dAt dd_X6_gather 38 rfl) rfl (fun h21 => ?_)
      refine x_aload_n (p' := 73) hC 0 (dAt dd_X6_gather 39 rfl) rfl rfl rfl ?_
      refine x_getR (p' := 76) hC fk_RX6_19 rfl (dAt dd_X6_gather 40 rfl) rfl (fun r22 => ?_)
      refine x_iload (p' := 78) hC 4 (dAt dd_X6_gather 41 rfl) rfl rfl ?_
      refine x_iload_n (p' := 79) hC 3 (dAt dd_X6_gather 42 rfl) rfl rfl rfl ?_
      refine x_iastore (p' := 80) hC (dAt dd_X6_gather 43 rfl) rfl (fun h23 => ?_)
      refine x_aload_n (p' := 81) hC 0 (dAt dd_X6_gather 44 rfl) rfl rfl rfl ?_
      refine x_getR (p' := 84) hC fk_RX6_22 rfl (dAt dd_X6_gather 45 rfl) rfl (fun r24 => ?_)
      refine x_iload (p' := 86) hC 4 (dAt dd_X6_gather 46 rfl) rfl rfl ?_
      refine x_iconst (v := 0) (p' := 87) hC (dAt dd_X6_gather 47 rfl) (by decide) rfl ?_
      refine x_iastore (p' := 88) hC (dAt dd_X6_gather 48 rfl) rfl (fun h25 => ?_)
      refine x_aload_n (p' := 89) hC 0 (dAt dd_X6_gather 49 rfl) rfl rfl rfl ?_
      refine x_dup (p' := 90) hC (dAt dd_X6_gather 50 rfl) (x_cat _) rfl ?_
      refine x_getI (p' := 93) hC fk_RX6_9 rfl (dAt dd_X6_gather 51 rfl) rfl (fun v26 => ?_)
      refine x_iconst (v := 1) (p' := 94) hC (dAt dd_X6_gather 52 rfl) (by decide) rfl ?_
      refine x_iadd (p' := 95) hC (dAt dd_X6_gather 53 rfl) rfl ?_
      refine x_putI (p' := 98) hC fk_RX6_9 tk_RX6 rfl rfl (Or.inl rfl) (dAt dd_X6_gather 54 rfl) rfl (fun h27 => ?_)
      exact t_X6_gather_J98 hC x0 x1 x2 x3 x4 h27
  · exact x_return hC (dAt dd_X6_gather 29 rfl)
set_option maxHeartbeats 4000000 in
set_option maxRecDepth 100000 in
theorem c_X6_gather (l : Launch) (D : va_G) (cy : Nat → ClassId) (h : AH) (a0 : Nat) (p1 : Option Nat) (p2 : Int32) (p3 : Int32) : MX rvV l yX6_gather (Cond.code yX6_gather cX6_gather 5 none :: LW) 2 50 D cy h [va_rf (some a0), va_rf p1, .int p2, .int p3] (f_X6_gather h a0 p1 p2 p3) := by
  refine MX.of (lv := [(0, va_rf (some a0)), (1, va_rf p1), (2, .int p2), (3, .int p3)]) (by decide) (by cases p1 <;> exact Nat.le_of_ble_eq_true rfl) (by cases p1 <;> rfl) (fun C hC _ => ?_)
  unfold f_X6_gather
  refine x_iconst (v := 0) (p' := 1) hC (dAt dd_X6_gather 0 rfl) (by decide) rfl ?_
  refine x_istore (lv' := [(4, .int 0), (0, va_rf (some a0)), (1, va_rf p1), (2, .int p2), (3, .int p3)]) (p' := 3) hC (dAt dd_X6_gather 1 rfl) (by decide) rfl rfl ?_
  refine x_sub [1, 2, 3, 4, 0] rfl ?_
  exact t_X6_gather_L3 hC f_X6_gather_J44 (t_X6_gather_J44 hC) FU a0 p1 p2 p3 0 h
set_option maxHeartbeats 4000000 in
set_option maxRecDepth 100000 in
theorem c_X7_init (l : Launch) (D : va_G) (cy : Nat → ClassId) (h : AH) (a0 : Nat) : MX rvV l yX7_init (Cond.code yX7_init cX7_init 1 none :: LW) 1 12 D cy h [va_rf (some a0)] (f_X7_init h a0) := by
  refine MX.of (lv := [(0, va_rf (some a0))]) (by decide) (Nat.le_of_ble_eq_true rfl) rfl (fun C hC _ => ?_)
  unfold f_X7_init
  refine x_aload_n (p' := 1) hC 0 (dAt dd_X7_init 0 rfl) rfl rfl rfl ?_
  refine x_objInit (p' := 4) hC k_114 k_23 k_objcode ⟨by decide, (Nat.le_of_ble_eq_true rfl)⟩ (dAt dd_X7_init 1 rfl) rfl ?_
  refine x_aload_n (p' := 5) hC 0 (dAt dd_X7_init 2 rfl) rfl rfl rfl ?_
  refine x_iconst (v := 1) (p' := 6) hC (dAt dd_X7_init 3 rfl) (by decide) rfl ?_
  refine x_putZ (p' := 9) hC fk_RX7_9 tk_RX7 rfl rfl (Or.inl rfl) (dAt dd_X7_init 4 rfl) rfl (fun h1 => ?_)
  refine x_aload_n (p' := 10) hC 0 (dAt dd_X7_init 5 rfl) rfl rfl rfl ?_
  refine x_iconst (v := 0) (p' := 11) hC (dAt dd_X7_init 6 rfl) (by decide) rfl ?_
  refine x_putI (p' := 14) hC fk_RX7_15 tk_RX7 rfl rfl (Or.inl rfl) (dAt dd_X7_init 7 rfl) rfl (fun h2 => ?_)
  refine x_aload_n (p' := 15) hC 0 (dAt dd_X7_init 8 rfl) rfl rfl rfl ?_
  refine x_iconst (v := 0) (p' := 16) hC (dAt dd_X7_init 9 rfl) (by decide) rfl ?_
  refine x_putI (p' := 19) hC fk_RX7_19 tk_RX7 rfl rfl (Or.inl rfl) (dAt dd_X7_init 10 rfl) rfl (fun h3 => ?_)
  refine x_aload_n (p' := 20) hC 0 (dAt dd_X7_init 11 rfl) rfl rfl rfl ?_
  refine x_bipush (v := 60) (p' := 22) hC (dAt dd_X7_init 12 rfl) (by decide) rfl ?_
  refine x_newarray 12 0 (p' := 24) hC (Or.inl ⟨rfl, rfl, rfl⟩) k_41 (dAt dd_X7_init 13 rfl) rfl (fun a4 h5 => ?_)
  refine x_putR (p' := 27) hC fk_RX7_22 tk_RX7 rfl (Or.inr ⟨_, rfl⟩) (Or.inr ⟨rfl, rfl, rfl⟩) (dAt dd_X7_init 14 rfl) rfl (fun h6 => ?_)
  exact x_return hC (dAt dd_X7_init 15 rfl)
set_option maxHeartbeats 4000000 in
set_option maxRecDepth 100000 in
theorem c_X7_make (l : Launch) (D : va_G) (cy : Nat → ClassId) (h : AH) (a0 : Nat) (p1 : Int32) (p2 : Int32) : MX rvV l yX7_make (Cond.code yX7_make cX7_make 3 none :: LW) 1 23 D cy h [va_rf (some a0), .int p1, .int p2] (f_X7_make h a0 p1 p2) := by
  refine MX.of (lv := [(0, va_rf (some a0)), (1, .int p1), (2, .int p2)]) (by decide) (Nat.le_of_ble_eq_true rfl) rfl (fun C hC _ => ?_)
  unfold f_X7_make
  refine x_aload_n (p' := 1) hC 0 (dAt dd_X7_make 0 rfl) rfl rfl rfl ?_
  refine x_iconst (v := 0) (p' := 2) hC (dAt dd_X7_make 1 rfl) (by decide) rfl ?_
  refine x_putZ (p' := 5) hC fk_RX7_9 tk_RX7 rfl rfl (Or.inl rfl) (dAt dd_X7_make 2 rfl) rfl (fun h1 => ?_)
  refine x_aload_n (p' := 6) hC 0 (dAt dd_X7_make 3 rfl) rfl rfl rfl ?_
  refine x_iload_n (p' := 7) hC 1 (dAt dd_X7_make 4 rfl) rfl rfl rfl ?_
  refine x_putI (p' := 10) hC fk_RX7_15 tk_RX7 rfl rfl (Or.inl rfl) (dAt dd_X7_make 5 rfl) rfl (fun h2 => ?_)
  refine x_aload_n (p' := 11) hC 0 (dAt dd_X7_make 6 rfl) rfl rfl rfl ?_
  refine x_iload_n (p' := 12) hC 2 (dAt dd_X7_make 7 rfl) rfl rfl rfl ?_
  refine x_putI (p' := 15) hC fk_RX7_19 tk_RX7 rfl rfl (Or.inl rfl) (dAt dd_X7_make 8 rfl) rfl (fun h3 => ?_)
  refine x_aload_n (p' := 16) hC 0 (dAt dd_X7_make 9 rfl) rfl rfl rfl ?_
  refine x_getR (p' := 19) hC fk_RX7_22 rfl (dAt dd_X7_make 10 rfl) rfl (fun r4 => ?_)
  refine x_iconst (v := 0) (p' := 20) hC (dAt dd_X7_make 11 rfl) (by decide) rfl ?_
  refine x_callSV (As := [va_rf r4, .int 0]) (p' := 23) hC (c_J7_fill_53178 _ _ _ h3 r4 0) k_279 k_280 k_10 k_281 hd_J7_fill_53178 ⟨by decide, by decide⟩ rfl (Nat.le_of_ble_eq_true rfl) rfl (dAt dd_X7_make 12 rfl) rfl (fun u5 h6 => ?_)
  exact x_return hC (dAt dd_X7_make 13 rfl)
set_option maxHeartbeats 4000000 in
set_option maxRecDepth 100000 in
theorem c_X7_cut (l : Launch) (D : va_G) (cy : Nat → ClassId) (h : AH) (a0 : Nat) (p1 : Int32) : MX rvI l yX7_cut (Cond.code yX7_cut cX7_cut 2 (some .int) :: LW) 0 0 D cy h [va_rf (some a0), .int p1] (f_X7_cut h a0 p1) := by
  refine MX.of (lv := [(0, va_rf (some a0)), (1, .int p1)]) (by decide) (Nat.le_of_ble_eq_true rfl) rfl (fun C hC _ => ?_)
  unfold f_X7_cut
  refine x_aload_n (p' := 1) hC 0 (dAt dd_X7_cut 0 rfl) rfl rfl rfl ?_
  refine x_getI (p' := 4) hC fk_RX7_15 rfl (dAt dd_X7_cut 1 rfl) rfl (fun v1 => ?_)
  refine x_if_ne (tgt := 10) (p' := 7) hC (dAt dd_X7_cut 2 rfl) (by decide) rfl ?_ ?_
  · refine x_aload_n (p' := 11) hC 0 (dAt dd_X7_cut 6 rfl) rfl rfl rfl ?_
    refine x_getI (p' := 14) hC fk_RX7_15 rfl (dAt dd_X7_cut 7 rfl) rfl (fun v2 => ?_)
    refine x_iconst (v := 1) (p' := 15) hC (dAt dd_X7_cut 8 rfl) (by decide) rfl ?_
    refine x_icmp_ne (tgt := 23) (p' := 18) hC (dAt dd_X7_cut 9 rfl) (by decide) rfl ?_ ?_
    · refine x_iload_n (p' := 24) hC 1 (dAt dd_X7_cut 13 rfl) rfl rfl rfl ?_
      exact x_ireturn hC (dAt dd_X7_cut 14 rfl)
    · refine x_iload_n (p' := 19) hC 1 (dAt dd_X7_cut 10 rfl) rfl rfl rfl ?_
      refine x_i2s (p' := 20) hC (dAt dd_X7_cut 11 rfl) rfl ?_
      refine x_goto (tgt := 24) hC (dAt dd_X7_cut 12 rfl) (by decide) ?_
      exact x_ireturn hC (dAt dd_X7_cut 14 rfl)
  · refine x_iload_n (p' := 8) hC 1 (dAt dd_X7_cut 3 rfl) rfl rfl rfl ?_
    refine x_i2b (p' := 9) hC (dAt dd_X7_cut 4 rfl) rfl ?_
    exact x_ireturn hC (dAt dd_X7_cut 5 rfl)
set_option maxHeartbeats 4000000 in
set_option maxRecDepth 100000 in
theorem c_X7_hasRange (l : Launch) (D : va_G) (cy : Nat → ClassId) (h : AH) (a0 : Nat) (p1 : Int32) (p2 : Int32) : MX rvI l yX7_hasRange (Cond.code yX7_hasRange cX7_hasRange 3 (some .boolean) :: LW) 0 0 D cy h [va_rf (some a0), .int p1, .int p2] (f_X7_hasRange h a0 p1 p2) := by
  refine MX.of (lv := [(0, va_rf (some a0)), (1, .int p1), (2, .int p2)]) (by decide) (Nat.le_of_ble_eq_true rfl) rfl (fun C hC _ => ?_)
  unfold f_X7_hasRange
  refine x_iload_n (p' := 1) hC 1 (dAt dd_X7_hasRange 0 rfl) rfl rfl rfl ?_
  refine x_if_lt (tgt := 22) (p' := 4) hC (dAt dd_X7_hasRange 1 rfl) (by decide) rfl ?_ ?_
  · refine x_iconst (v := 0) (p' := 23) hC (dAt dd_X7_hasRange 12 rfl) (by decide) rfl ?_
    exact x_zreturn hC (dAt dd_X7_hasRange 13 rfl)
  · refine x_iload_n (p' := 5) hC 2 (dAt dd_X7_hasRange 2 rfl) rfl rfl rfl ?_
    refine x_if_lt (tgt := 22) (p' := 8) hC (dAt dd_X7_hasRange 3 rfl) (by decide) rfl ?_ ?_
    · refine x_iconst (v := 0) (p' := 23) hC (dAt dd_X7_hasRange 12 rfl) (by decide) rfl ?_
      exact x_zreturn hC (dAt dd_X7_hasRange 13 rfl)
    · refine x_iload_n (p' := 9) hC 1 (dAt dd_X7_hasRange 4 rfl) rfl rfl rfl ?_
      refine x_aload_n (p' := 10) hC 0 (dAt dd_X7_hasRange 5 rfl) rfl rfl rfl ?_
      refine x_getI (p' := 13) hC fk_RX7_19 rfl (dAt dd_X7_hasRange 6 rfl) rfl (fun v1 => ?_)
      refine x_iload_n (p' := 14) hC 2 (dAt dd_X7_hasRange 7 rfl) rfl rfl rfl ?_
      refine x_isub (p' := 15) hC (dAt dd_X7_hasRange 8 rfl) rfl ?_
      refine x_icmp_gt (tgt := 22) (p' := 18) hC (dAt dd_X7_hasRange 9 rfl) (by decide) rfl ?_ ?_
      · refine x_iconst (v := 0) (p' := 23) hC (dAt dd_X7_hasRange 12 rfl) (by decide) rfl ?_
        exact x_zreturn hC (dAt dd_X7_hasRange 13 rfl)
      · refine x_iconst (v := 1) (p' := 19) hC (dAt dd_X7_hasRange 10 rfl) (by decide) rfl ?_
        refine x_goto (tgt := 23) hC (dAt dd_X7_hasRange 11 rfl) (by decide) ?_
        exact x_zreturn hC (dAt dd_X7_hasRange 13 rfl)
set_option maxHeartbeats 4000000 in
set_option maxRecDepth 100000 in
theorem c_X8_init (l : Launch) (D : va_G) (cy : Nat → ClassId) (h : AH) (a0 : Nat) (p1 : Int32) (p2 : Int32) : MX rvV l yX8_init (Cond.code yX8_init cX8_init 3 none :: LW) 2 32 D cy h [va_rf (some a0), .int p1, .int p2] (f_X8_init h a0 p1 p2) := by
  refine MX.of (lv := [(0, va_rf (some a0)), (1, .int p1), (2, .int p2)]) (by decide) (Nat.le_of_ble_eq_true rfl) rfl (fun C hC _ => ?_)
  unfold f_X8_init
  refine x_aload_n (p' := 1) hC 0 (dAt dd_X8_init 0 rfl) rfl rfl rfl ?_
  refine x_objInit (p' := 4) hC k_136 k_23 k_objcode ⟨by decide, (Nat.le_of_ble_eq_true rfl)⟩ (dAt dd_X8_init 1 rfl) rfl ?_
  refine x_aload_n (p' := 5) hC 0 (dAt dd_X8_init 2 rfl) rfl rfl rfl ?_
  refine x_aconst_null (p' := 6) hC (dAt dd_X8_init 3 rfl) rfl ?_
  refine x_putR (p' := 9) hC fk_RX8_11 tk_RX8 rfl (Or.inl ⟨_, rfl⟩) (Or.inl rfl) (dAt dd_X8_init 4 rfl) rfl (fun h1 => ?_)
  refine x_aload_n (p' := 10) hC 0 (dAt dd_X8_init 5 rfl) rfl rfl rfl ?_
  refine x_aconst_null (p' := 11) hC (dAt dd_X8_init 6 rfl) rfl ?_
  refine x_putR (p' := 14) hC fk_RX8_15 tk_RX8 rfl (Or.inl ⟨_, rfl⟩) (Or.inl rfl) (dAt dd_X8_init 7 rfl) rfl (fun h2 => ?_)
  refine x_aload_n (p' := 15) hC 0 (dAt dd_X8_init 8 rfl) rfl rfl rfl ?_
  refine x_new (ci := 1) (p' := 18) hC in_RX1 rfl rfl (by decide) tk_RX1 df_RX1 k_137 k_138 k_8 (dAt dd_X8_init 9 rfl) rfl (fun a3 h4 => ?_)
  refine x_dup (p' := 19) hC (dAt dd_X8_init 10 rfl) (x_cat _) rfl ?_
  refine x_callINV (As := []) (b := a3) (host := RX10) (p' := 22) hC (c_X1_init _ _ _ h4 a3) k_141 k_8 hC.nest_Changes k_140 rfl hd_X1_init ⟨by decide, by decide⟩ rfl (Nat.le_of_ble_eq_true rfl) rfl (dAt dd_X8_init 11 rfl) rfl (fun u5 h6 => ?_)
  refine x_putR (p' := 25) hC fk_RX8_21 tk_RX8 rfl (Or.inl ⟨_, rfl⟩) (Or.inr ⟨rfl, rfl, rfl⟩) (dAt dd_X8_init 12 rfl) rfl (fun h7 => ?_)
  refine x_aload_n (p' := 26) hC 0 (dAt dd_X8_init 13 rfl) rfl rfl rfl ?_
  refine x_iconst (v := 0) (p' := 27) hC (dAt dd_X8_init 14 rfl) (by decide) rfl ?_
  refine x_putZ (p' := 30) hC fk_RX8_25 tk_RX8 rfl rfl (Or.inl rfl) (dAt dd_X8_init 15 rfl) rfl (fun h8 => ?_)
  refine x_aload_n (p' := 31) hC 0 (dAt dd_X8_init 16 rfl) rfl rfl rfl ?_
  refine x_iconst (v := 4) (p' := 32) hC (dAt dd_X8_init 17 rfl) (by decide) rfl ?_
  refine x_newarray 12 0 (p' := 34) hC (Or.inl ⟨rfl, rfl, rfl⟩) k_41 (dAt dd_X8_init 18 rfl) rfl (fun a9 h10 => ?_)
  refine x_putR (p' := 37) hC fk_RX8_29 tk_RX8 rfl (Or.inr ⟨_, rfl⟩) (Or.inl rfl) (dAt dd_X8_init 19 rfl) rfl (fun h11 => ?_)
  refine x_aload_n (p' := 38) hC 0 (dAt dd_X8_init 20 rfl) rfl rfl rfl ?_
  refine x_iconst (v := 0) (p' := 39) hC (dAt dd_X8_init 21 rfl) (by decide) rfl ?_
  refine x_putI (p' := 42) hC fk_RX8_33 tk_RX8 rfl rfl (Or.inl rfl) (dAt dd_X8_init 22 rfl) rfl (fun h12 => ?_)
  refine x_aload_n (p' := 43) hC 0 (dAt dd_X8_init 23 rfl) rfl rfl rfl ?_
  refine x_iload_n (p' := 44) hC 1 (dAt dd_X8_init 24 rfl) rfl rfl rfl ?_
  refine x_putI (p' := 47) hC fk_RX8_37 tk_RX8 rfl rfl (Or.inr ⟨rfl, rfl, rfl⟩) (dAt dd_X8_init 25 rfl) rfl (fun h13 => ?_)
  refine x_aload_n (p' := 48) hC 0 (dAt dd_X8_init 26 rfl) rfl rfl rfl ?_
  refine x_iload_n (p' := 49) hC 2 (dAt dd_X8_init 27 rfl) rfl rfl rfl ?_
  refine x_putI (p' := 52) hC fk_RX8_40 tk_RX8 rfl rfl (Or.inr ⟨rfl, rfl, rfl⟩) (dAt dd_X8_init 28 rfl) rfl (fun h14 => ?_)
  exact x_return hC (dAt dd_X8_init 29 rfl)
set_option maxHeartbeats 4000000 in
set_option maxRecDepth 100000 in
theorem c_X9_areAlike (l : Launch) (D : va_G) (cy : Nat → ClassId) (h : AH) (p0 : Option Nat) (p1 : Option Nat) : MX rvI l yX9_areAlike (Cond.code yX9_areAlike cX9_areAlike 2 (some .boolean) :: LW) 1 25 D cy h [va_rf p0, va_rf p1] (f_X9_areAlike h p0 p1) := by
  refine MX.of (lv := [(0, va_rf p0), (1, va_rf p1)]) (by decide) (by cases p0 <;> cases p1 <;> exact Nat.le_of_ble_eq_true rfl) (by cases p0 <;> cases p1 <;> rfl) (fun C hC _ => ?_)
  unfold f_X9_areAlike
  refine x_aload_n (p' := 1) hC 0 (dAt dd_X9_areAlike 0 rfl) rfl rfl rfl ?_
  refine x_arraylength 12 0 (p' := 2) hC rfl (by decide) (dAt dd_X9_areAlike 1 rfl) rfl (fun v1 => ?_)
  refine x_aload_n (p' := 3) hC 1 (dAt dd_X9_areAlike 2 rfl) rfl rfl rfl ?_
  refine x_arraylength 12 0 (p' := 4) hC rfl (by decide) (dAt dd_X9_areAlike 3 rfl) rfl (fun v2 => ?_)
  refine x_icmp_ne (tgt := 23) (p' := 7) hC (dAt dd_X9_areAlike 4 rfl) (by decide) rfl ?_ ?_
  · refine x_iconst (v := 0) (p' := 24) hC (dAt dd_X9_areAlike 15 rfl) (by decide) rfl ?_
    exact x_zreturn hC (dAt dd_X9_areAlike 16 rfl)
  · refine x_aload_n (p' := 8) hC 0 (dAt dd_X9_areAlike 5 rfl) rfl rfl rfl ?_
    refine x_iconst (v := 0) (p' := 9) hC (dAt dd_X9_areAlike 6 rfl) (by decide) rfl ?_
    refine x_aload_n (p' := 10) hC 1 (dAt dd_X9_areAlike 7 rfl) rfl rfl rfl ?_
    refine x_iconst (v := 0) (p' := 11) hC (dAt dd_X9_areAlike 8 rfl) (by decide) rfl ?_
    refine x_aload_n (p' := 12) hC 0 (dAt dd_X9_areAlike 9 rfl) rfl rfl rfl ?_
    refine x_arraylength 12 0 (p' := 13) hC rfl (by decide) (dAt dd_X9_areAlike 10 rfl) rfl (fun v3 => ?_)
    refine x_callSI (As := [va_rf p0, .int 0, va_rf p1, .int 0, .int v3]) (p' := 16) hC (c_X9_areAlikeFrom _ _ _ h p0 0 p1 0 v3) k_423 k_424 k_12 k_425 hd_X9_areAlikeFrom ⟨by decide, by decide⟩ rfl (Nat.le_of_ble_eq_true rfl) rfl (dAt dd_X9_areAlike 11 rfl) rfl (fun v4 h5 => ?_)
    refine x_if_eq (tgt := 23) (p' := 19) hC (dAt dd_X9_areAlike 12 rfl) (by decide) rfl ?_ ?_
    · refine x_iconst (v := 0) (p' := 24) hC (dAt dd_X9_areAlike 15 rfl) (by decide) rfl ?_
      exact x_zreturn hC (dAt dd_X9_areAlike 16 rfl)
    · refine x_iconst (v := 1) (p' := 20) hC (dAt dd_X9_areAlike 13 rfl) (by decide) rfl ?_
      refine x_goto (tgt := 24) hC (dAt dd_X9_areAlike 14 rfl) (by decide) ?_
      exact x_zreturn hC (dAt dd_X9_areAlike 16 rfl)
set_option maxHeartbeats 4000000 in
set_option maxRecDepth 100000 in
theorem c_X8_stateNow (l : Launch) (D : va_G) (cy : Nat → ClassId) (h : AH) (a0 : Nat) : MX rvI l yX8_stateNow (Cond.code yX8_stateNow cX8_stateNow 1 (some .int) :: LW) 2 46 D cy h [va_rf (some a0)] (f_X8_stateNow h a0) := by
  refine MX.of (lv := [(0, va_rf (some a0))]) (by decide) (Nat.le_of_ble_eq_true rfl) rfl (fun C hC _ => ?_)
  unfold f_X8_stateNow
  refine x_aload_n (p' := 1) hC 0 (dAt dd_X8_stateNow 0 rfl) rfl rfl rfl ?_
  refine x_getR (p' := 4) hC fk_RX8_15 rfl (dAt dd_X8_stateNow 1 rfl) rfl (fun r1 => ?_)
  refine x_ifnonnull (tgt := 20) (p' := 7) hC (dAt dd_X8_stateNow 2 rfl) (by decide) rfl (fun _ _ => ?_) (fun _ => ?_)
  · refine x_aload_n (p' := 21) hC 0 (dAt dd_X8_stateNow 10 rfl) rfl rfl rfl ?_
    refine x_getR (p' := 24) hC fk_RX8_11 rfl (dAt dd_X8_stateNow 11 rfl) rfl (fun r2 => ?_)
    refine x_ifnonnull (tgt := 29) (p' := 27) hC (dAt dd_X8_stateNow 12 rfl) (by decide) rfl (fun _ _ => ?_) (fun _ => ?_)
    · refine x_aload_n (p' := 30) hC 0 (dAt dd_X8_stateNow 15 rfl) rfl rfl rfl ?_
      refine x_getR (p' := 33) hC fk_RX8_11 rfl (dAt dd_X8_stateNow 16 rfl) rfl (fun r3 => ?_)
      refine x_getR (p' := 36) hC fk_RX8_43 rfl (dAt dd_X8_stateNow 17 rfl) rfl (fun r4 => ?_)
      refine x_aload_n (p' := 37) hC 0 (dAt dd_X8_stateNow 18 rfl) rfl rfl rfl ?_
      refine x_getR (p' := 40) hC fk_RX8_15 rfl (dAt dd_X8_stateNow 19 rfl) rfl (fun r5 => ?_)
      refine x_getR (p' := 43) hC fk_RX8_43 rfl (dAt dd_X8_stateNow 20 rfl) rfl (fun r6 => ?_)
      refine x_callSI (As := [va_rf r4, va_rf r6]) (p' := 46) hC (c_X9_areAlike _ _ _ h r4 r6) k_420 k_421 k_12 k_422 hd_X9_areAlike ⟨by decide, by decide⟩ rfl (Nat.le_of_ble_eq_true rfl) rfl (dAt dd_X8_stateNow 21 rfl) rfl (fun v7 h8 => ?_)
      refine x_if_eq (tgt := 53) (p' := 49) hC (dAt dd_X8_stateNow 22 rfl) (by decide) rfl ?_ ?_
      · refine x_iconst (v := 3) (p' := 54) hC (dAt dd_X8_stateNow 25 rfl) (by decide) rfl ?_
        exact x_ireturn hC (dAt dd_X8_stateNow 26 rfl)
      · refine x_iconst (v := 2) (p' := 50) hC (dAt dd_X8_stateNow 23 rfl) (by decide) rfl ?_
        refine x_goto (tgt := 54) hC (dAt dd_X8_stateNow 24 rfl) (by decide) ?_
        exact x_ireturn hC (dAt dd_X8_stateNow 26 rfl)
    · refine x_iconst (v := 1) (p' := 28) hC (dAt dd_X8_stateNow 13 rfl) (by decide) rfl ?_
      exact x_ireturn hC (dAt dd_X8_stateNow 14 rfl)
  · refine x_aload_n (p' := 8) hC 0 (dAt dd_X8_stateNow 3 rfl) rfl rfl rfl ?_
    refine x_getR (p' := 11) hC fk_RX8_11 rfl (dAt dd_X8_stateNow 4 rfl) rfl (fun r9 => ?_)
    refine x_ifnonnull (tgt := 18) (p' := 14) hC (dAt dd_X8_stateNow 5 rfl) (by decide) rfl (fun _ _ => ?_) (fun _ => ?_)
    · refine x_iconst (v := 4) (p' := 19) hC (dAt dd_X8_stateNow 8 rfl) (by decide) rfl ?_
      exact x_ireturn hC (dAt dd_X8_stateNow 9 rfl)
    · refine x_iconst (v := 0) (p' := 15) hC (dAt dd_X8_stateNow 6 rfl) (by decide) rfl ?_
      refine x_goto (tgt := 19) hC (dAt dd_X8_stateNow 7 rfl) (by decide) ?_
      exact x_ireturn hC (dAt dd_X8_stateNow 9 rfl)
set_option maxHeartbeats 4000000 in
set_option maxRecDepth 100000 in
theorem c_X8_forgetLooks (l : Launch) (D : va_G) (cy : Nat → ClassId) (h : AH) (a0 : Nat) : MX rvV l yX8_forgetLooks (Cond.code yX8_forgetLooks cX8_forgetLooks 1 none :: LW) 0 0 D cy h [va_rf (some a0)] (f_X8_forgetLooks h a0) := by
  refine MX.of (lv := [(0, va_rf (some a0))]) (by decide) (Nat.le_of_ble_eq_true rfl) rfl (fun C hC _ => ?_)
  unfold f_X8_forgetLooks
  refine x_aload_n (p' := 1) hC 0 (dAt dd_X8_forgetLooks 0 rfl) rfl rfl rfl ?_
  refine x_iconst (v := 0) (p' := 2) hC (dAt dd_X8_forgetLooks 1 rfl) (by decide) rfl ?_
  refine x_putI (p' := 5) hC fk_RX8_33 tk_RX8 rfl rfl (Or.inl rfl) (dAt dd_X8_forgetLooks 2 rfl) rfl (fun h1 => ?_)
  exact x_return hC (dAt dd_X8_forgetLooks 3 rfl)
set_option maxHeartbeats 4000000 in
set_option maxRecDepth 100000 in
theorem c_X8_lookOf (l : Launch) (D : va_G) (cy : Nat → ClassId) (h : AH) (a0 : Nat) (p1 : Int32) (p2 : Int32) : MX rvI l yX8_lookOf (Cond.code yX8_lookOf cX8_lookOf 3 (some .int) :: LW) 0 0 D cy h [va_rf (some a0), .int p1, .int p2] (f_X8_lookOf h a0 p1 p2) := by
  refine MX.of (lv := [(0, va_rf (some a0)), (1, .int p1), (2, .int p2)]) (by decide) (Nat.le_of_ble_eq_true rfl) rfl (fun C hC _ => ?_)
  unfold f_X8_lookOf
  refine x_iload_n (p' := 1) hC 1 (dAt dd_X8_lookOf 0 rfl) rfl rfl rfl ?_
  refine x_sipush (v := 3721) (p' := 4) hC (dAt dd_X8_lookOf 1 rfl) (by decide) rfl ?_
  refine x_imul (p' := 5) hC (dAt dd_X8_lookOf 2 rfl) rfl ?_
  refine x_aload_n (p' := 6) hC 0 (dAt dd_X8_lookOf 3 rfl) rfl rfl rfl ?_
  refine x_getR (p' := 9) hC fk_RX8_21 rfl (dAt dd_X8_lookOf 4 rfl) rfl (fun r1 => ?_)
  refine x_getR (p' := 12) hC fk_RX8_75 rfl (dAt dd_X8_lookOf 5 rfl) rfl (fun r2 => ?_)
  refine x_iload_n (p' := 13) hC 2 (dAt dd_X8_lookOf 6 rfl) rfl rfl rfl ?_
  refine x_iaload (p' := 14) hC (dAt dd_X8_lookOf 7 rfl) rfl (fun v3 => ?_)
  refine x_bipush (v := 61) (p' := 16) hC (dAt dd_X8_lookOf 8 rfl) (by decide) rfl ?_
  refine x_imul (p' := 17) hC (dAt dd_X8_lookOf 9 rfl) rfl ?_
  refine x_iadd (p' := 18) hC (dAt dd_X8_lookOf 10 rfl) rfl ?_
  refine x_aload_n (p' := 19) hC 0 (dAt dd_X8_lookOf 11 rfl) rfl rfl rfl ?_
  refine x_getR (p' := 22) hC fk_RX8_21 rfl (dAt dd_X8_lookOf 12 rfl) rfl (fun r4 => ?_)
  refine x_getR (p' := 25) hC fk_RX8_78 rfl (dAt dd_X8_lookOf 13 rfl) rfl (fun r5 => ?_)
  refine x_iload_n (p' := 26) hC 2 (dAt dd_X8_lookOf 14 rfl) rfl rfl rfl ?_
  refine x_iaload (p' := 27) hC (dAt dd_X8_lookOf 15 rfl) rfl (fun v6 => ?_)
  refine x_iadd (p' := 28) hC (dAt dd_X8_lookOf 16 rfl) rfl ?_
  exact x_ireturn hC (dAt dd_X8_lookOf 17 rfl)
set_option maxHeartbeats 4000000 in
set_option maxRecDepth 100000 in
theorem t_X8_hasLooked_L10 {C : CT} (hC : OKC C yX8_hasLooked cX8_hasLooked 5 (some .boolean) 1 22)   : ∀ (n : Nat) (x0 : Nat) (x3 : Int32) (x4 : Int32) (h : AH), WX rvI C 10 [(0, va_rf (some x0)), (3, .int x3), (4, .int x4)] [] h (f_X8_hasLooked_L10 n x0 x3 x4 h) := by
  intro n
  induction n with
  | zero => intro _ _ _ _; exact x_none
  | succ n ih =>
    intro x0 x3 x4 h
    rw [f_X8_hasLooked_L10]
    refine x_iload (p' := 12) hC 2 (dAt dd_X8_hasLooked 7 rfl) rfl rfl ?_
    refine x_aload_n (p' := 13) hC 0 (dAt dd_X8_hasLooked 8 rfl) rfl rfl rfl ?_
    refine x_getI (p' := 16) hC fk_RX8_33 rfl (dAt dd_X8_hasLooked 9 rfl) rfl (fun v3 => ?_)
    refine x_icmp_ge (tgt := 38) (p' := 19) hC (dAt dd_X8_hasLooked 10 rfl) (by decide) rfl ?_ ?_
    · refine x_iconst (v := 0) (p' := 39) hC (dAt dd_X8_hasLooked 21 rfl) (by decide) rfl ?_
      exact x_zreturn hC (dAt dd_X8_hasLooked 22 rfl)
    · refine x_aload_n (p' := 20) hC 0 (dAt dd_X8_hasLooked 11 rfl) rfl rfl rfl ?_
      refine x_getR (p' := 23) hC fk_RX8_29 rfl (dAt dd_X8_hasLooked 12 rfl) rfl (fun r4 => ?_)
      refine x_iload (p' := 25) hC 2 (dAt dd_X8_hasLooked 13 rfl) rfl rfl ?_
      refine x_iaload (p' := 26) hC (dAt dd_X8_hasLooked 14 rfl) rfl (fun v5 => ?_)
      refine x_iload_n (p' := 27) hC 1 (dAt dd_X8_hasLooked 15 rfl) rfl rfl rfl ?_
      refine x_icmp_ne (tgt := 32) (p' := 30) hC (dAt dd_X8_hasLooked 16 rfl) (by decide) rfl ?_ ?_
      · refine x_iinc (w := (x4 + 1)) (lv' := [(4, .int (x4 + 1)), (0, va_rf (some x0)), (3, .int x3)]) (p' := 35) hC 2 (dAt dd_X8_hasLooked 19 rfl) rfl rfl (by decide) rfl rfl ?_
        refine x_goto (tgt := 10) hC (dAt dd_X8_hasLooked 20 rfl) (by decide) ?_
        refine x_sub [1, 2, 0] rfl ?_
        exact ih x0 x3 (x4 + 1) h
      · refine x_iconst (v := 1) (p' := 31) hC (dAt dd_X8_hasLooked 17 rfl) (by decide) rfl ?_
        exact x_zreturn hC (dAt dd_X8_hasLooked 18 rfl)
set_option maxHeartbeats 4000000 in
set_option maxRecDepth 100000 in
theorem c_X8_hasLooked (l : Launch) (D : va_G) (cy : Nat → ClassId) (h : AH) (a0 : Nat) (p1 : Int32) (p2 : Int32) : MX rvI l yX8_hasLooked (Cond.code yX8_hasLooked cX8_hasLooked 5 (some .boolean) :: LW) 1 22 D cy h [va_rf (some a0), .int p1, .int p2] (f_X8_hasLooked h a0 p1 p2) := by
  refine MX.of (lv := [(0, va_rf (some a0)), (1, .int p1), (2, .int p2)]) (by decide) (Nat.le_of_ble_eq_true rfl) rfl (fun C hC _ => ?_)
  unfold f_X8_hasLooked
  refine x_aload_n (p' := 1) hC 0 (dAt dd_X8_hasLooked 0 rfl) rfl rfl rfl ?_
  refine x_iload_n (p' := 2) hC 1 (dAt dd_X8_hasLooked 1 rfl) rfl rfl rfl ?_
  refine x_iload_n (p' := 3) hC 2 (dAt dd_X8_hasLooked 2 rfl) rfl rfl rfl ?_
  refine x_callVI (As := [.int p1, .int p2]) (z := fun b => f_X8_lookOf h b p1 p2) (p' := 6) hC (fun b => c_X8_lookOf _ _ _ h b p1 p2) k_520 k_522 (k_sl 13 rfl) k_7 k_523 hd_X8_lookOf ⟨by decide, by decide⟩ (ci := 8) rfl rfl (by decide) rfl (Nat.le_of_ble_eq_true rfl) rfl (dAt dd_X8_hasLooked 3 rfl) rfl (fun v1 h2 => ?_)
  refine x_istore_n (j := 3) (lv' := [(3, .int v1), (0, va_rf (some a0)), (1, .int p1), (2, .int p2)]) (p' := 7) hC (dAt dd_X8_hasLooked 4 rfl) rfl (by decide) rfl rfl ?_
  refine x_iconst (v := 0) (p' := 8) hC (dAt dd_X8_hasLooked 5 rfl) (by decide) rfl ?_
  refine x_istore (lv' := [(4, .int 0), (3, .int v1), (0, va_rf (some a0)), (1, .int p1), (2, .int p2)]) (p' := 10) hC (dAt dd_X8_hasLooked 6 rfl) (by decide) rfl rfl ?_
  refine x_sub [2, 1, 0] rfl ?_
  exact t_X8_hasLooked_L10 hC FU a0 v1 0 h2
set_option maxHeartbeats 4000000 in
set_option maxRecDepth 100000 in
theorem t_X8_lookAt_J41 {C : CT} (hC : OKC C yX8_lookAt cX8_lookAt 3 none 2 62)   : ∀ (x0 : Nat) (x1 : Int32) (x2 : Int32) (h : AH), WX rvV C 41 [(0, va_rf (some x0)), (1, .int x1), (2, .int x2)] [] h (f_X8_lookAt_J41 x0 x1 x2 h) := by
  intro x0 x1 x2 h
  unfold f_X8_lookAt_J41
  refine x_aload_n (p' := 42) hC 0 (dAt dd_X8_lookAt 23 rfl) rfl rfl rfl ?_
  refine x_getR (p' := 45) hC fk_RX8_29 rfl (dAt dd_X8_lookAt 24 rfl) rfl (fun r6 => ?_)
  refine x_aload_n (p' := 46) hC 0 (dAt dd_X8_lookAt 25 rfl) rfl rfl rfl ?_
  refine x_getI (p' := 49) hC fk_RX8_33 rfl (dAt dd_X8_lookAt 26 rfl) rfl (fun v7 => ?_)
  refine x_aload_n (p' := 50) hC 0 (dAt dd_X8_lookAt 27 rfl) rfl rfl rfl ?_
  refine x_iload_n (p' := 51) hC 1 (dAt dd_X8_lookAt 28 rfl) rfl rfl rfl ?_
  refine x_iload_n (p' := 52) hC 2 (dAt dd_X8_lookAt 29 rfl) rfl rfl rfl ?_
  refine x_callVI (As := [.int x1, .int x2]) (z := fun b => f_X8_lookOf h b x1 x2) (p' := 55) hC (fun b => c_X8_lookOf _ _ _ h b x1 x2) k_520 k_522 (k_sl 13 rfl) k_7 k_523 hd_X8_lookOf ⟨by decide, by decide⟩ (ci := 8) rfl rfl (by decide) rfl (by cases r6 <;> exact Nat.le_of_ble_eq_true rfl) rfl (dAt dd_X8_lookAt 30 rfl) rfl (fun v8 h9 => ?_)
  refine x_iastore (p' := 56) hC (dAt dd_X8_lookAt 31 rfl) rfl (fun h10 => ?_)
  refine x_aload_n (p' := 57) hC 0 (dAt dd_X8_lookAt 32 rfl) rfl rfl rfl ?_
  refine x_dup (p' := 58) hC (dAt dd_X8_lookAt 33 rfl) (x_cat _) rfl ?_
  refine x_getI (p' := 61) hC fk_RX8_33 rfl (dAt dd_X8_lookAt 34 rfl) rfl (fun v11 => ?_)
  refine x_iconst (v := 1) (p' := 62) hC (dAt dd_X8_lookAt 35 rfl) (by decide) rfl ?_
  refine x_iadd (p' := 63) hC (dAt dd_X8_lookAt 36 rfl) rfl ?_
  refine x_putI (p' := 66) hC fk_RX8_33 tk_RX8 rfl rfl (Or.inl rfl) (dAt dd_X8_lookAt 37 rfl) rfl (fun h12 => ?_)
  exact x_return hC (dAt dd_X8_lookAt 38 rfl)
set_option maxHeartbeats 4000000 in
set_option maxRecDepth 100000 in
theorem c_X8_lookAt (l : Launch) (D : va_G) (cy : Nat → ClassId) (h : AH) (a0 : Nat) (p1 : Int32) (p2 : Int32) : MX rvV l yX8_lookAt (Cond.code yX8_lookAt cX8_lookAt 3 none :: LW) 2 62 D cy h [va_rf (some a0), .int p1, .int p2] (f_X8_lookAt h a0 p1 p2) := by
  refine MX.of (lv := [(0, va_rf (some a0)), (1, .int p1), (2, .int p2)]) (by decide) (Nat.le_of_ble_eq_true rfl) rfl (fun C hC _ => ?_)
  unfold f_X8_lookAt
  refine x_aload_n (p' := 1) hC 0 (dAt dd_X8_lookAt 0 rfl) rfl rfl rfl ?_
  refine x_iload_n (p' := 2) hC 1 (dAt dd_X8_lookAt 1 rfl) rfl rfl rfl ?_
  refine x_iload_n (p' := 3) hC 2 (dAt dd_X8_lookAt 2 rfl) rfl rfl rfl ?_
  refine x_callVI (As := [.int p1, .int p2]) (z := fun b => f_X8_hasLooked h b p1 p2) (p' := 6) hC (fun b => c_X8_hasLooked _ _ _ h b p1 p2) k_516 k_518 (k_sl 12 rfl) k_7 k_519 hd_X8_hasLooked ⟨by decide, by decide⟩ (ci := 8) rfl rfl (by decide) rfl (Nat.le_of_ble_eq_true rfl) rfl (dAt dd_X8_lookAt 3 rfl) rfl (fun v1 h2 => ?_)
  refine x_if_eq (tgt := 10) (p' := 9) hC (dAt dd_X8_lookAt 4 rfl) (by decide) rfl ?_ ?_
  · refine x_aload_n (p' := 11) hC 0 (dAt dd_X8_lookAt 6 rfl) rfl rfl rfl ?_
    refine x_getI (p' := 14) hC fk_RX8_33 rfl (dAt dd_X8_lookAt 7 rfl) rfl (fun v3 => ?_)
    refine x_aload_n (p' := 15) hC 0 (dAt dd_X8_lookAt 8 rfl) rfl rfl rfl ?_
    refine x_getR (p' := 18) hC fk_RX8_29 rfl (dAt dd_X8_lookAt 9 rfl) rfl (fun r4 => ?_)
    refine x_arraylength 12 0 (p' := 19) hC rfl (by decide) (dAt dd_X8_lookAt 10 rfl) rfl (fun v5 => ?_)
    refine x_icmp_lt (tgt := 41) (p' := 22) hC (dAt dd_X8_lookAt 11 rfl) (by decide) rfl ?_ ?_
    · exact t_X8_lookAt_J41 hC a0 p1 p2 h2
    · refine x_aload_n (p' := 23) hC 0 (dAt dd_X8_lookAt 12 rfl) rfl rfl rfl ?_
      refine x_aload_n (p' := 24) hC 0 (dAt dd_X8_lookAt 13 rfl) rfl rfl rfl ?_
      refine x_getR (p' := 27) hC fk_RX8_29 rfl (dAt dd_X8_lookAt 14 rfl) rfl (fun r13 => ?_)
      refine x_aload_n (p' := 28) hC 0 (dAt dd_X8_lookAt 15 rfl) rfl rfl rfl ?_
      refine x_getI (p' := 31) hC fk_RX8_33 rfl (dAt dd_X8_lookAt 16 rfl) rfl (fun v14 => ?_)
      refine x_iconst (v := 2) (p' := 32) hC (dAt dd_X8_lookAt 17 rfl) (by decide) rfl ?_
      refine x_imul (p' := 33) hC (dAt dd_X8_lookAt 18 rfl) rfl ?_
      refine x_iconst (v := 4) (p' := 34) hC (dAt dd_X8_lookAt 19 rfl) (by decide) rfl ?_
      refine x_iadd (p' := 35) hC (dAt dd_X8_lookAt 20 rfl) rfl ?_
      refine x_callSR (As := [va_rf r13, .int ((v14 * 2) + 4)]) (p' := 38) hC (c_J7_copyOf_59c91 _ _ _ h2 r13 ((v14 * 2) + 4)) k_524 k_377 k_10 k_378 hd_J7_copyOf_59c91 ⟨by decide, by decide⟩ rfl (Nat.le_of_ble_eq_true rfl) rfl (dAt dd_X8_lookAt 21 rfl) rfl (fun r15 h16 => ?_)
      refine x_putR (p' := 41) hC fk_RX8_29 tk_RX8 rfl (Or.inr ⟨_, rfl⟩) (Or.inl rfl) (dAt dd_X8_lookAt 22 rfl) rfl (fun h17 => ?_)
      exact t_X8_lookAt_J41 hC a0 p1 p2 h17
  · exact x_return hC (dAt dd_X8_lookAt 5 rfl)
set_option maxHeartbeats 4000000 in
set_option maxRecDepth 100000 in
theorem t_X8_looksOf_L4 {C : CT} (hC : OKC C yX8_looksOf cX8_looksOf 4 (some .int) 0 0)   : ∀ (n : Nat) (x0 : Nat) (x1 : Int32) (x2 : Int32) (x3 : Int32) (h : AH), WX rvI C 4 [(0, va_rf (some x0)), (1, .int x1), (2, .int x2), (3, .int x3)] [] h (f_X8_looksOf_L4 n x0 x1 x2 x3 h) := by
  intro n
  induction n with
  | zero => intro _ _ _ _ _; exact x_none
  | succ n ih =>
    intro x0 x1 x2 x3 h
    rw [f_X8_looksOf_L4]
    refine x_iload_n (p' := 5) hC 3 (dAt dd_X8_looksOf 4 rfl) rfl rfl rfl ?_
    refine x_aload_n (p' := 6) hC 0 (dAt dd_X8_looksOf 5 rfl) rfl rfl rfl ?_
    refine x_getI (p' := 9) hC fk_RX8_33 rfl (dAt dd_X8_looksOf 6 rfl) rfl (fun v1 => ?_)
    refine x_icmp_ge (tgt := 35) (p' := 12) hC (dAt dd_X8_looksOf 7 rfl) (by decide) rfl ?_ ?_
    · refine x_iload_n (p' := 36) hC 2 (dAt dd_X8_looksOf 19 rfl) rfl rfl rfl ?_
      exact x_ireturn hC (dAt dd_X8_looksOf 20 rfl)
    · refine x_aload_n (p' := 13) hC 0 (dAt dd_X8_looksOf 8 rfl) rfl rfl rfl ?_
      refine x_getR (p' := 16) hC fk_RX8_29 rfl (dAt dd_X8_looksOf 9 rfl) rfl (fun r2 => ?_)
      refine x_iload_n (p' := 17) hC 3 (dAt dd_X8_looksOf 10 rfl) rfl rfl rfl ?_
      refine x_iaload (p' := 18) hC (dAt dd_X8_looksOf 11 rfl) rfl (fun v3 => ?_)
      refine x_sipush (v := 3721) (p' := 21) hC (dAt dd_X8_looksOf 12 rfl) (by decide) rfl ?_
      refine x_idiv (p' := 22) hC (dAt dd_X8_looksOf 13 rfl) rfl ?_
      refine x_iload_n (p' := 23) hC 1 (dAt dd_X8_looksOf 14 rfl) rfl rfl rfl ?_
      refine x_icmp_ne (tgt := 29) (p' := 26) hC (dAt dd_X8_looksOf 15 rfl) (by decide) rfl ?_ ?_
      · refine x_iinc (w := (x3 + 1)) (lv' := [(3, .int (x3 + 1)), (0, va_rf (some x0)), (1, .int x1), (2, .int x2)]) (p' := 32) hC 3 (dAt dd_X8_looksOf 17 rfl) rfl rfl (by decide) rfl rfl ?_
        refine x_goto (tgt := 4) hC (dAt dd_X8_looksOf 18 rfl) (by decide) ?_
        refine x_sub [1, 2, 3, 0] rfl ?_
        exact ih x0 x1 x2 (x3 + 1) h
      · refine x_iinc (w := (x2 + 1)) (lv' := [(2, .int (x2 + 1)), (0, va_rf (some x0)), (1, .int x1), (3, .int x3)]) (p' := 29) hC 2 (dAt dd_X8_looksOf 16 rfl) rfl rfl (by decide) rfl rfl ?_
        refine x_iinc (w := (x3 + 1)) (lv' := [(3, .int (x3 + 1)), (2, .int (x2 + 1)), (0, va_rf (some x0)), (1, .int x1)]) (p' := 32) hC 3 (dAt dd_X8_looksOf 17 rfl) rfl rfl (by decide) rfl rfl ?_
        refine x_goto (tgt := 4) hC (dAt dd_X8_looksOf 18 rfl) (by decide) ?_
        refine x_sub [2, 3, 1, 0] rfl ?_
        exact ih x0 x1 (x2 + 1) (x3 + 1) h
set_option maxHeartbeats 4000000 in
set_option maxRecDepth 100000 in
theorem c_X8_looksOf (l : Launch) (D : va_G) (cy : Nat → ClassId) (h : AH) (a0 : Nat) (p1 : Int32) : MX rvI l yX8_looksOf (Cond.code yX8_looksOf cX8_looksOf 4 (some .int) :: LW) 0 0 D cy h [va_rf (some a0), .int p1] (f_X8_looksOf h a0 p1) := by
  refine MX.of (lv := [(0, va_rf (some a0)), (1, .int p1)]) (by decide) (Nat.le_of_ble_eq_true rfl) rfl (fun C hC _ => ?_)
  unfold f_X8_looksOf
  refine x_iconst (v := 0) (p' := 1) hC (dAt dd_X8_looksOf 0 rfl) (by decide) rfl ?_
  refine x_istore_n (j := 2) (lv' := [(2, .int 0), (0, va_rf (some a0)), (1, .int p1)]) (p' := 2) hC (dAt dd_X8_looksOf 1 rfl) rfl (by decide) rfl rfl ?_
  refine x_iconst (v := 0) (p' := 3) hC (dAt dd_X8_looksOf 2 rfl) (by decide) rfl ?_
  refine x_istore_n (j := 3) (lv' := [(3, .int 0), (2, .int 0), (0, va_rf (some a0)), (1, .int p1)]) (p' := 4) hC (dAt dd_X8_looksOf 3 rfl) rfl (by decide) rfl rfl ?_
  refine x_sub [2, 3, 1, 0] rfl ?_
  exact t_X8_looksOf_L4 hC FU a0 p1 0 0 h
set_option maxHeartbeats 4000000 in
set_option maxRecDepth 100000 in
theorem t_X8_unseenOf_L6 {C : CT} (hC : OKC C yX8_unseenOf cX8_unseenOf 6 (some .int) 2 46)   : ∀ (n : Nat) (x0 : Nat) (x1 : Int32) (x2 : Int32) (x3 : Int32) (x4 : Int32) (x5 : Int32) (h : AH), WX rvI C 6 [(0, va_rf (some x0)), (1, .int x1), (2, .int x2), (3, .int x3), (4, .int x4), (5, .int x5)] [] h (f_X8_unseenOf_L6 n x0 x1 x2 x3 x4 x5 h) := by
  intro n
  induction n with
  | zero => intro _ _ _ _ _ _ _; exact x_none
  | succ n ih =>
    intro x0 x1 x2 x3 x4 x5 h
    rw [f_X8_unseenOf_L6]
    refine x_iload (p' := 8) hC 5 (dAt dd_X8_unseenOf 4 rfl) rfl rfl ?_
    refine x_aload_n (p' := 9) hC 0 (dAt dd_X8_unseenOf 5 rfl) rfl rfl rfl ?_
    refine x_getR (p' := 12) hC fk_RX8_21 rfl (dAt dd_X8_unseenOf 6 rfl) rfl (fun r1 => ?_)
    refine x_getI (p' := 15) hC fk_RX8_68 rfl (dAt dd_X8_unseenOf 7 rfl) rfl (fun v2 => ?_)
    refine x_icmp_ge (tgt := 51) (p' := 18) hC (dAt dd_X8_unseenOf 8 rfl) (by decide) rfl ?_ ?_
    · refine x_iload (p' := 53) hC 4 (dAt dd_X8_unseenOf 24 rfl) rfl rfl ?_
      exact x_ireturn hC (dAt dd_X8_unseenOf 25 rfl)
    · refine x_aload_n (p' := 19) hC 0 (dAt dd_X8_unseenOf 9 rfl) rfl rfl rfl ?_
      refine x_getR (p' := 22) hC fk_RX8_21 rfl (dAt dd_X8_unseenOf 10 rfl) rfl (fun r3 => ?_)
      refine x_iload (p' := 24) hC 5 (dAt dd_X8_unseenOf 11 rfl) rfl rfl ?_
      refine x_iload_n (p' := 25) hC 2 (dAt dd_X8_unseenOf 12 rfl) rfl rfl rfl ?_
      refine x_iload_n (p' := 26) hC 3 (dAt dd_X8_unseenOf 13 rfl) rfl rfl rfl ?_
      refine x_callVI (As := [.int x5, .int x2, .int x3]) (z := fun b => f_X1_isMeant h b x5 x2 x3) (p' := 29) hC (fun b => c_X1_isMeant _ _ _ h b x5 x2 x3) k_608 k_538 k_539 k_8 k_540 hd_X1_isMeant ⟨by decide, by decide⟩ (ci := 1) rfl rfl (by decide) rfl (Nat.le_of_ble_eq_true rfl) rfl (dAt dd_X8_unseenOf 14 rfl) rfl (fun v4 h5 => ?_)
      refine x_if_eq (tgt := 45) (p' := 32) hC (dAt dd_X8_unseenOf 15 rfl) (by decide) rfl ?_ ?_
      · refine x_iinc (w := (x5 + 1)) (lv' := [(5, .int (x5 + 1)), (0, va_rf (some x0)), (1, .int x1), (2, .int x2), (3, .int x3), (4, .int x4)]) (p' := 48) hC 5 (dAt dd_X8_unseenOf 22 rfl) rfl rfl (by decide) rfl rfl ?_
        refine x_goto (tgt := 6) hC (dAt dd_X8_unseenOf 23 rfl) (by decide) ?_
        refine x_sub [1, 2, 3, 4, 5, 0] rfl ?_
        exact ih x0 x1 x2 x3 x4 (x5 + 1) h5
      · refine x_aload_n (p' := 33) hC 0 (dAt dd_X8_unseenOf 16 rfl) rfl rfl rfl ?_
        refine x_iload_n (p' := 34) hC 1 (dAt dd_X8_unseenOf 17 rfl) rfl rfl rfl ?_
        refine x_iload (p' := 36) hC 5 (dAt dd_X8_unseenOf 18 rfl) rfl rfl ?_
        refine x_callVI (As := [.int x1, .int x5]) (z := fun b => f_X8_hasLooked h5 b x1 x5) (p' := 39) hC (fun b => c_X8_hasLooked _ _ _ h5 b x1 x5) k_516 k_518 (k_sl 12 rfl) k_7 k_519 hd_X8_hasLooked ⟨by decide, by decide⟩ (ci := 8) rfl rfl (by decide) rfl (Nat.le_of_ble_eq_true rfl) rfl (dAt dd_X8_unseenOf 19 rfl) rfl (fun v6 h7 => ?_)
        refine x_if_ne (tgt := 45) (p' := 42) hC (dAt dd_X8_unseenOf 20 rfl) (by decide) rfl ?_ ?_
        · refine x_iinc (w := (x5 + 1)) (lv' := [(5, .int (x5 + 1)), (0, va_rf (some x0)), (1, .int x1), (2, .int x2), (3, .int x3), (4, .int x4)]) (p' := 48) hC 5 (dAt dd_X8_unseenOf 22 rfl) rfl rfl (by decide) rfl rfl ?_
          refine x_goto (tgt := 6) hC (dAt dd_X8_unseenOf 23 rfl) (by decide) ?_
          refine x_sub [1, 2, 3, 4, 5, 0] rfl ?_
          exact ih x0 x1 x2 x3 x4 (x5 + 1) h7
        · refine x_iinc (w := (x4 + 1)) (lv' := [(4, .int (x4 + 1)), (0, va_rf (some x0)), (1, .int x1), (2, .int x2), (3, .int x3), (5, .int x5)]) (p' := 45) hC 4 (dAt dd_X8_unseenOf 21 rfl) rfl rfl (by decide) rfl rfl ?_
          refine x_iinc (w := (x5 + 1)) (lv' := [(5, .int (x5 + 1)), (4, .int (x4 + 1)), (0, va_rf (some x0)), (1, .int x1), (2, .int x2), (3, .int x3)]) (p' := 48) hC 5 (dAt dd_X8_unseenOf 22 rfl) rfl rfl (by decide) rfl rfl ?_
          refine x_goto (tgt := 6) hC (dAt dd_X8_unseenOf 23 rfl) (by decide) ?_
          refine x_sub [2, 3, 4, 5, 1, 0] rfl ?_
          exact ih x0 x1 x2 x3 (x4 + 1) (x5 + 1) h7
set_option maxHeartbeats 4000000 in
set_option maxRecDepth 100000 in
theorem c_X8_unseenOf (l : Launch) (D : va_G) (cy : Nat → ClassId) (h : AH) (a0 : Nat) (p1 : Int32) (p2 : Int32) (p3 : Int32) : MX rvI l yX8_unseenOf (Cond.code yX8_unseenOf cX8_unseenOf 6 (some .int) :: LW) 2 46 D cy h [va_rf (some a0), .int p1, .int p2, .int p3] (f_X8_unseenOf h a0 p1 p2 p3) := by
  refine MX.of (lv := [(0, va_rf (some a0)), (1, .int p1), (2, .int p2), (3, .int p3)]) (by decide) (Nat.le_of_ble_eq_true rfl) rfl (fun C hC _ => ?_)
  unfold f_X8_unseenOf
  refine x_iconst (v := 0) (p' := 1) hC (dAt dd_X8_unseenOf 0 rfl) (by decide) rfl ?_
  refine x_istore (lv' := [(4, .int 0), (0, va_rf (some a0)), (1, .int p1), (2, .int p2), (3, .int p3)]) (p' := 3) hC (dAt dd_X8_unseenOf 1 rfl) (by decide) rfl rfl ?_
  refine x_iconst (v := 0) (p' := 4) hC (dAt dd_X8_unseenOf 2 rfl) (by decide) rfl ?_
  refine x_istore (lv' := [(5, .int 0), (4, .int 0), (0, va_rf (some a0)), (1, .int p1), (2, .int p2), (3, .int p3)]) (p' := 6) hC (dAt dd_X8_unseenOf 3 rfl) (by decide) rfl rfl ?_
  refine x_sub [2, 3, 4, 5, 1, 0] rfl ?_
  exact t_X8_unseenOf_L6 hC FU a0 p1 p2 p3 0 0 h
set_option maxHeartbeats 4000000 in
set_option maxRecDepth 100000 in
theorem t_X10_init_L109 {C : CT} (hC : OKC C yX10_init cX10_init 3 none 3 54) (k134 : Nat → AH → RX Unit) (hk134 : ∀ (x0 : Nat) (h : AH), WX rvV C 134 [(0, va_rf (some x0))] [] h (k134 x0 h)) : ∀ (n : Nat) (x0 : Nat) (x2 : Int32) (h : AH), WX rvV C 109 [(0, va_rf (some x0)), (2, .int x2)] [] h (f_X10_init_L109 k134 n x0 x2 h) := by
  intro n
  induction n with
  | zero => intro _ _ _; exact x_none
  | succ n ih =>
    intro x0 x2 h
    rw [f_X10_init_L109]
    refine x_iload_n (p' := 110) hC 1 (dAt dd_X10_init 55 rfl) rfl rfl rfl ?_
    refine x_bipush (v := 8) (p' := 112) hC (dAt dd_X10_init 56 rfl) (by decide) rfl ?_
    refine x_icmp_ge (tgt := 134) (p' := 115) hC (dAt dd_X10_init 57 rfl) (by decide) rfl ?_ ?_
    · refine x_sub [0] rfl ?_
      exact hk134 x0 h
    · refine x_aload_n (p' := 116) hC 0 (dAt dd_X10_init 58 rfl) rfl rfl rfl ?_
      refine x_getR (p' := 119) hC fk_RX10_11 rfl (dAt dd_X10_init 59 rfl) rfl (fun r37 => ?_)
      refine x_iload_n (p' := 120) hC 1 (dAt dd_X10_init 60 rfl) rfl rfl rfl ?_
      refine x_new (ci := 7) (p' := 123) hC in_RX7 rfl rfl (by decide) tk_RX7 df_RX7 k_25 k_110 k_6 (dAt dd_X10_init 61 rfl) rfl (fun a38 h39 => ?_)
      refine x_dup (p' := 124) hC (dAt dd_X10_init 62 rfl) (x_cat _) rfl ?_
      refine x_callINV (As := []) (b := a38) (host := RX10) (p' := 127) hC (c_X7_init _ _ _ h39 a38) k_113 k_6 hC.nest_Row k_112 rfl hd_X7_init ⟨by decide, by decide⟩ rfl (by cases r37 <;> exact Nat.le_of_ble_eq_true rfl) rfl (dAt dd_X10_init 63 rfl) rfl (fun u40 h41 => ?_)
      refine x_aastore 16 4 7 (w := (RX7, TX7, 4)) (p' := 128) hC rfl rfl (by decide) (by decide) (dAt dd_X10_init 64 rfl) rfl (fun h42 => ?_)
      refine x_iinc (w := (x2 + 1)) (lv' := [(2, .int (x2 + 1)), (0, va_rf (some x0))]) (p' := 131) hC 1 (dAt dd_X10_init 65 rfl) rfl rfl (by decide) rfl rfl ?_
      refine x_goto (tgt := 109) hC (dAt dd_X10_init 66 rfl) (by decide) ?_
      refine x_sub [1, 0] rfl ?_
      exact ih x0 (x2 + 1) h42
set_option maxHeartbeats 4000000 in
set_option maxRecDepth 100000 in
theorem t_X10_init_L136 {C : CT} (hC : OKC C yX10_init cX10_init 3 none 3 54)   : ∀ (n : Nat) (x0 : Nat) (x2 : Int32) (h : AH), WX rvV C 136 [(0, va_rf (some x0)), (2, .int x2)] [] h (f_X10_init_L136 n x0 x2 h) := by
  intro n
  induction n with
  | zero => intro _ _ _; exact x_none
  | succ n ih =>
    intro x0 x2 h
    rw [f_X10_init_L136]
    refine x_iload_n (p' := 137) hC 1 (dAt dd_X10_init 69 rfl) rfl rfl rfl ?_
    refine x_bipush (v := 36) (p' := 139) hC (dAt dd_X10_init 70 rfl) (by decide) rfl ?_
    refine x_icmp_ge (tgt := 167) (p' := 142) hC (dAt dd_X10_init 71 rfl) (by decide) rfl ?_ ?_
    · exact x_return hC (dAt dd_X10_init 87 rfl)
    · refine x_aload_n (p' := 143) hC 0 (dAt dd_X10_init 72 rfl) rfl rfl rfl ?_
      refine x_getR (p' := 146) hC fk_RX10_17 rfl (dAt dd_X10_init 73 rfl) rfl (fun r43 => ?_)
      refine x_iload_n (p' := 147) hC 1 (dAt dd_X10_init 74 rfl) rfl rfl rfl ?_
      refine x_new (ci := 8) (p' := 150) hC in_RX8 rfl rfl (by decide) tk_RX8 df_RX8 k_27 k_132 k_7 (dAt dd_X10_init 75 rfl) rfl (fun a44 h45 => ?_)
      refine x_dup (p' := 151) hC (dAt dd_X10_init 76 rfl) (x_cat _) rfl ?_
      refine x_iload_n (p' := 152) hC 1 (dAt dd_X10_init 77 rfl) rfl rfl rfl ?_
      refine x_iconst (v := 3) (p' := 153) hC (dAt dd_X10_init 78 rfl) (by decide) rfl ?_
      refine x_idiv (p' := 154) hC (dAt dd_X10_init 79 rfl) rfl ?_
      refine x_iload_n (p' := 155) hC 1 (dAt dd_X10_init 80 rfl) rfl rfl rfl ?_
      refine x_iconst (v := 3) (p' := 156) hC (dAt dd_X10_init 81 rfl) (by decide) rfl ?_
      refine x_irem (p' := 157) hC (dAt dd_X10_init 82 rfl) rfl ?_
      refine x_callIV (As := [.int (x2 / 3), .int (x2 - x2 / 3 * 3)]) (b := a44) (p' := 160) hC (c_X8_init _ _ _ h45 a44 (x2 / 3) (x2 - x2 / 3 * 3)) k_135 k_7 k_133 k_134 rfl hd_X8_init ⟨by decide, by decide⟩ rfl (by cases r43 <;> exact Nat.le_of_ble_eq_true rfl) rfl (dAt dd_X10_init 83 rfl) rfl (fun u46 h47 => ?_)
      refine x_aastore 17 5 8 (w := (RX8, TX8, 8)) (p' := 161) hC rfl rfl (by decide) (by decide) (dAt dd_X10_init 84 rfl) rfl (fun h48 => ?_)
      refine x_iinc (w := (x2 + 1)) (lv' := [(2, .int (x2 + 1)), (0, va_rf (some x0))]) (p' := 164) hC 1 (dAt dd_X10_init 85 rfl) rfl rfl (by decide) rfl rfl ?_
      refine x_goto (tgt := 136) hC (dAt dd_X10_init 86 rfl) (by decide) ?_
      refine x_sub [1, 0] rfl ?_
      exact ih x0 (x2 + 1) h48
set_option maxHeartbeats 4000000 in
set_option maxRecDepth 100000 in
theorem t_X10_init_J134 {C : CT} (hC : OKC C yX10_init cX10_init 3 none 3 54)   : ∀ (x0 : Nat) (h : AH), WX rvV C 134 [(0, va_rf (some x0))] [] h (f_X10_init_J134 x0 h) := by
  intro x0 h
  unfold f_X10_init_J134
  refine x_iconst (v := 0) (p' := 135) hC (dAt dd_X10_init 67 rfl) (by decide) rfl ?_
  refine x_istore_n (j := 2) (lv' := [(2, .int 0), (0, va_rf (some x0))]) (p' := 136) hC (dAt dd_X10_init 68 rfl) rfl (by decide) rfl rfl ?_
  refine x_sub [1, 0] rfl ?_
  exact t_X10_init_L136 hC FU x0 0 h
set_option maxHeartbeats 4000000 in
set_option maxRecDepth 100000 in
theorem c_X10_init (l : Launch) (D : va_G) (cy : Nat → ClassId) (h : AH) (a0 : Nat) (p1 : Int32) : MX rvV l yX10_init (Cond.code yX10_init cX10_init 3 none :: LW) 3 54 D cy h [va_rf (some a0), .int p1] (f_X10_init h a0 p1) := by
  refine MX.of (lv := [(0, va_rf (some a0)), (1, .int p1)]) (by decide) (Nat.le_of_ble_eq_true rfl) rfl (fun C hC _ => ?_)
  unfold f_X10_init
  refine x_aload_n (p' := 1) hC 0 (dAt dd_X10_init 0 rfl) rfl rfl rfl ?_
  refine x_objInit (p' := 4) hC k_22 k_23 k_objcode ⟨by decide, (Nat.le_of_ble_eq_true rfl)⟩ (dAt dd_X10_init 1 rfl) rfl ?_
  refine x_aload_n (p' := 5) hC 0 (dAt dd_X10_init 2 rfl) rfl rfl rfl ?_
  refine x_bipush (v := 8) (p' := 7) hC (dAt dd_X10_init 3 rfl) (by decide) rfl ?_
  refine x_anewarray (Cn := "GoldenKeeper$Row") 16 4 (p' := 10) hC rfl (by decide) hC.ao_Row k_25 (dAt dd_X10_init 4 rfl) rfl (fun a1 h2 => ?_)
  refine x_putR (p' := 13) hC fk_RX10_11 tk_RX10 rfl (Or.inr ⟨_, rfl⟩) (Or.inr ⟨rfl, rfl, rfl⟩) (dAt dd_X10_init 5 rfl) rfl (fun h3 => ?_)
  refine x_aload_n (p' := 14) hC 0 (dAt dd_X10_init 6 rfl) rfl rfl rfl ?_
  refine x_bipush (v := 36) (p' := 16) hC (dAt dd_X10_init 7 rfl) (by decide) rfl ?_
  refine x_anewarray (Cn := "GoldenKeeper$Slot") 17 5 (p' := 19) hC rfl (by decide) hC.ao_Slot k_27 (dAt dd_X10_init 8 rfl) rfl (fun a4 h5 => ?_)
  refine x_putR (p' := 22) hC fk_RX10_17 tk_RX10 rfl (Or.inr ⟨_, rfl⟩) (Or.inr ⟨rfl, rfl, rfl⟩) (dAt dd_X10_init 9 rfl) rfl (fun h6 => ?_)
  refine x_aload_n (p' := 23) hC 0 (dAt dd_X10_init 10 rfl) rfl rfl rfl ?_
  refine x_new (ci := 2) (p' := 26) hC in_RX2 rfl rfl (by decide) tk_RX2 df_RX2 k_29 k_30 k_2 (dAt dd_X10_init 11 rfl) rfl (fun a7 h8 => ?_)
  refine x_dup (p' := 27) hC (dAt dd_X10_init 12 rfl) (x_cat _) rfl ?_
  refine x_callINV (As := []) (b := a7) (host := RX10) (p' := 30) hC (c_X2_init _ _ _ h8 a7) k_33 k_2 hC.nest_Differ k_32 rfl hd_X2_init ⟨by decide, by decide⟩ rfl (Nat.le_of_ble_eq_true rfl) rfl (dAt dd_X10_init 13 rfl) rfl (fun u9 h10 => ?_)
  refine x_putR (p' := 33) hC fk_RX10_24 tk_RX10 rfl (Or.inl ⟨_, rfl⟩) (Or.inr ⟨rfl, rfl, rfl⟩) (dAt dd_X10_init 14 rfl) rfl (fun h11 => ?_)
  refine x_aload_n (p' := 34) hC 0 (dAt dd_X10_init 15 rfl) rfl rfl rfl ?_
  refine x_new (ci := 3) (p' := 37) hC in_RX3 rfl rfl (by decide) tk_RX3 df_RX3 k_42 k_43 k_3 (dAt dd_X10_init 16 rfl) rfl (fun a12 h13 => ?_)
  refine x_dup (p' := 38) hC (dAt dd_X10_init 17 rfl) (x_cat _) rfl ?_
  refine x_callINV (As := []) (b := a12) (host := RX10) (p' := 41) hC (c_X3_init _ _ _ h13 a12) k_46 k_3 hC.nest_Draft k_45 rfl hd_X3_init ⟨by decide, by decide⟩ rfl (Nat.le_of_ble_eq_true rfl) rfl (dAt dd_X10_init 18 rfl) rfl (fun u14 h15 => ?_)
  refine x_putR (p' := 44) hC fk_RX10_31 tk_RX10 rfl (Or.inl ⟨_, rfl⟩) (Or.inr ⟨rfl, rfl, rfl⟩) (dAt dd_X10_init 19 rfl) rfl (fun h16 => ?_)
  refine x_aload_n (p' := 45) hC 0 (dAt dd_X10_init 20 rfl) rfl rfl rfl ?_
  refine x_new (ci := 6) (p' := 48) hC in_RX6 rfl rfl (by decide) tk_RX6 df_RX6 k_55 k_56 k_4 (dAt dd_X10_init 21 rfl) rfl (fun a17 h18 => ?_)
  refine x_dup (p' := 49) hC (dAt dd_X10_init 22 rfl) (x_cat _) rfl ?_
  refine x_callINV (As := []) (b := a17) (host := RX10) (p' := 52) hC (c_X6_init _ _ _ h18 a17) k_59 k_4 hC.nest_Groups k_58 rfl hd_X6_init ⟨by decide, by decide⟩ rfl (Nat.le_of_ble_eq_true rfl) rfl (dAt dd_X10_init 23 rfl) rfl (fun u19 h20 => ?_)
  refine x_putR (p' := 55) hC fk_RX10_38 tk_RX10 rfl (Or.inl ⟨_, rfl⟩) (Or.inr ⟨rfl, rfl, rfl⟩) (dAt dd_X10_init 24 rfl) rfl (fun h21 => ?_)
  refine x_aload_n (p' := 56) hC 0 (dAt dd_X10_init 25 rfl) rfl rfl rfl ?_
  refine x_iconst (v := 0) (p' := 57) hC (dAt dd_X10_init 26 rfl) (by decide) rfl ?_
  refine x_putZ (p' := 60) hC fk_RX10_42 tk_RX10 rfl rfl (Or.inl rfl) (dAt dd_X10_init 27 rfl) rfl (fun h22 => ?_)
  refine x_aload_n (p' := 61) hC 0 (dAt dd_X10_init 28 rfl) rfl rfl rfl ?_
  refine x_bipush (v := 100) (p' := 63) hC (dAt dd_X10_init 29 rfl) (by decide) rfl ?_
  refine x_anewarray (Cn := "GoldenKeeper$Entry") 15 3 (p' := 66) hC rfl (by decide) hC.ao_Entry k_78 (dAt dd_X10_init 30 rfl) rfl (fun a23 h24 => ?_)
  refine x_putR (p' := 69) hC fk_RX10_48 tk_RX10 rfl (Or.inr ⟨_, rfl⟩) (Or.inr ⟨rfl, rfl, rfl⟩) (dAt dd_X10_init 31 rfl) rfl (fun h25 => ?_)
  refine x_aload_n (p' := 70) hC 0 (dAt dd_X10_init 32 rfl) rfl rfl rfl ?_
  refine x_iconst (v := 0) (p' := 71) hC (dAt dd_X10_init 33 rfl) (by decide) rfl ?_
  refine x_putI (p' := 74) hC fk_RX10_52 tk_RX10 rfl rfl (Or.inl rfl) (dAt dd_X10_init 34 rfl) rfl (fun h26 => ?_)
  refine x_aload_n (p' := 75) hC 0 (dAt dd_X10_init 35 rfl) rfl rfl rfl ?_
  refine x_bipush (v := 16) (p' := 77) hC (dAt dd_X10_init 36 rfl) (by decide) rfl ?_
  refine x_newarray 12 0 (p' := 79) hC (Or.inl ⟨rfl, rfl, rfl⟩) k_41 (dAt dd_X10_init 37 rfl) rfl (fun a27 h28 => ?_)
  refine x_putR (p' := 82) hC fk_RX10_56 tk_RX10 rfl (Or.inr ⟨_, rfl⟩) (Or.inr ⟨rfl, rfl, rfl⟩) (dAt dd_X10_init 38 rfl) rfl (fun h29 => ?_)
  refine x_aload_n (p' := 83) hC 0 (dAt dd_X10_init 39 rfl) rfl rfl rfl ?_
  refine x_iconst (v := 0) (p' := 84) hC (dAt dd_X10_init 40 rfl) (by decide) rfl ?_
  refine x_putI (p' := 87) hC fk_RX10_60 tk_RX10 rfl rfl (Or.inl rfl) (dAt dd_X10_init 41 rfl) rfl (fun h30 => ?_)
  refine x_aload_n (p' := 88) hC 0 (dAt dd_X10_init 42 rfl) rfl rfl rfl ?_
  refine x_iconst (v := 0) (p' := 89) hC (dAt dd_X10_init 43 rfl) (by decide) rfl ?_
  refine x_putI (p' := 92) hC fk_RX10_63 tk_RX10 rfl rfl (Or.inl rfl) (dAt dd_X10_init 44 rfl) rfl (fun h31 => ?_)
  refine x_aload_n (p' := 93) hC 0 (dAt dd_X10_init 45 rfl) rfl rfl rfl ?_
  refine x_new (ci := 5) (p' := 96) hC in_RX5 rfl rfl (by decide) tk_RX5 df_RX5 k_80 k_81 k_5 (dAt dd_X10_init 46 rfl) rfl (fun a32 h33 => ?_)
  refine x_dup (p' := 97) hC (dAt dd_X10_init 47 rfl) (x_cat _) rfl ?_
  refine x_iload_n (p' := 98) hC 1 (dAt dd_X10_init 48 rfl) rfl rfl rfl ?_
  refine x_bipush (v := 7) (p' := 100) hC (dAt dd_X10_init 49 rfl) (by decide) rfl ?_
  refine x_iand (p' := 101) hC (dAt dd_X10_init 50 rfl) rfl ?_
  refine x_callIV (As := [.int (p1 &&& 7)]) (b := a32) (p' := 104) hC (c_X5_init _ _ _ h33 a32 (p1 &&& 7)) k_84 k_5 k_82 k_83 rfl hd_X5_init ⟨by decide, by decide⟩ rfl (Nat.le_of_ble_eq_true rfl) rfl (dAt dd_X10_init 51 rfl) rfl (fun u34 h35 => ?_)
  refine x_putR (p' := 107) hC fk_RX10_71 tk_RX10 rfl (Or.inl ⟨_, rfl⟩) (Or.inr ⟨rfl, rfl, rfl⟩) (dAt dd_X10_init 52 rfl) rfl (fun h36 => ?_)
  refine x_iconst (v := 0) (p' := 108) hC (dAt dd_X10_init 53 rfl) (by decide) rfl ?_
  refine x_istore_n (j := 2) (lv' := [(2, .int 0), (0, va_rf (some a0)), (1, .int p1)]) (p' := 109) hC (dAt dd_X10_init 54 rfl) rfl (by decide) rfl rfl ?_
  refine x_sub [1, 0] rfl ?_
  exact t_X10_init_L109 hC f_X10_init_J134 (t_X10_init_J134 hC) FU a0 0 h36
set_option maxHeartbeats 4000000 in
set_option maxRecDepth 100000 in
theorem c_X10_isBelow (l : Launch) (D : va_G) (cy : Nat → ClassId) (h : AH) (p0 : Int32) (p1 : Int32) : MX rvI l yX10_isBelow (Cond.code yX10_isBelow cX10_isBelow 2 (some .boolean) :: LW) 0 0 D cy h [.int p0, .int p1] (f_X10_isBelow h p0 p1) := by
  refine MX.of (lv := [(0, .int p0), (1, .int p1)]) (by decide) (Nat.le_of_ble_eq_true rfl) rfl (fun C hC _ => ?_)
  unfold f_X10_isBelow
  refine x_iload_n (p' := 1) hC 0 (dAt dd_X10_isBelow 0 rfl) rfl rfl rfl ?_
  refine x_if_lt (tgt := 13) (p' := 4) hC (dAt dd_X10_isBelow 1 rfl) (by decide) rfl ?_ ?_
  · refine x_iconst (v := 0) (p' := 14) hC (dAt dd_X10_isBelow 7 rfl) (by decide) rfl ?_
    exact x_zreturn hC (dAt dd_X10_isBelow 8 rfl)
  · refine x_iload_n (p' := 5) hC 0 (dAt dd_X10_isBelow 2 rfl) rfl rfl rfl ?_
    refine x_iload_n (p' := 6) hC 1 (dAt dd_X10_isBelow 3 rfl) rfl rfl rfl ?_
    refine x_icmp_ge (tgt := 13) (p' := 9) hC (dAt dd_X10_isBelow 4 rfl) (by decide) rfl ?_ ?_
    · refine x_iconst (v := 0) (p' := 14) hC (dAt dd_X10_isBelow 7 rfl) (by decide) rfl ?_
      exact x_zreturn hC (dAt dd_X10_isBelow 8 rfl)
    · refine x_iconst (v := 1) (p' := 10) hC (dAt dd_X10_isBelow 5 rfl) (by decide) rfl ?_
      refine x_goto (tgt := 14) hC (dAt dd_X10_isBelow 6 rfl) (by decide) ?_
      exact x_zreturn hC (dAt dd_X10_isBelow 8 rfl)
set_option maxHeartbeats 4000000 in
set_option maxRecDepth 100000 in
theorem c_X10_isRow (l : Launch) (D : va_G) (cy : Nat → ClassId) (h : AH) (p0 : Int32) : MX rvI l yX10_isRow (Cond.code yX10_isRow cX10_isRow 1 (some .boolean) :: LW) 1 21 D cy h [.int p0] (f_X10_isRow h p0) := by
  refine MX.of (lv := [(0, .int p0)]) (by decide) (Nat.le_of_ble_eq_true rfl) rfl (fun C hC _ => ?_)
  unfold f_X10_isRow
  refine x_iload_n (p' := 1) hC 0 (dAt dd_X10_isRow 0 rfl) rfl rfl rfl ?_
  refine x_bipush (v := 8) (p' := 3) hC (dAt dd_X10_isRow 1 rfl) (by decide) rfl ?_
  refine x_callSI (As := [.int p0, .int 8]) (p' := 6) hC (c_X10_isBelow _ _ _ h p0 8) k_266 k_267 k_1 k_268 hd_X10_isBelow ⟨by decide, by decide⟩ rfl (Nat.le_of_ble_eq_true rfl) rfl (dAt dd_X10_isRow 2 rfl) rfl (fun v1 h2 => ?_)
  exact x_zreturn hC (dAt dd_X10_isRow 3 rfl)
set_option maxHeartbeats 4000000 in
set_option maxRecDepth 100000 in
theorem c_X10_found (l : Launch) (D : va_G) (cy : Nat → ClassId) (h : AH) (a0 : Nat) (p1 : Int32) : MX rvI l yX10_found (Cond.code yX10_found cX10_found 2 (some .int) :: LW) 0 0 D cy h [va_rf (some a0), .int p1] (f_X10_found h a0 p1) := by
  refine MX.of (lv := [(0, va_rf (some a0)), (1, .int p1)]) (by decide) (Nat.le_of_ble_eq_true rfl) rfl (fun C hC _ => ?_)
  unfold f_X10_found
  refine x_aload_n (p' := 1) hC 0 (dAt dd_X10_found 0 rfl) rfl rfl rfl ?_
  refine x_iload_n (p' := 2) hC 1 (dAt dd_X10_found 1 rfl) rfl rfl rfl ?_
  refine x_putI (p' := 5) hC fk_RX10_63 tk_RX10 rfl rfl (Or.inl rfl) (dAt dd_X10_found 2 rfl) rfl (fun h1 => ?_)
  refine x_ldc_w (v := (-1000010)) (p' := 8) hC (dAt dd_X10_found 3 rfl) k_274 rfl ?_
  refine x_iload_n (p' := 9) hC 1 (dAt dd_X10_found 4 rfl) rfl rfl rfl ?_
  refine x_isub (p' := 10) hC (dAt dd_X10_found 5 rfl) rfl ?_
  exact x_ireturn hC (dAt dd_X10_found 6 rfl)
set_option maxHeartbeats 4000000 in
set_option maxRecDepth 100000 in
theorem c_X10_fine (l : Launch) (D : va_G) (cy : Nat → ClassId) (h : AH) (a0 : Nat) (p1 : Int32) : MX rvI l yX10_fine (Cond.code yX10_fine cX10_fine 2 (some .int) :: LW) 0 0 D cy h [va_rf (some a0), .int p1] (f_X10_fine h a0 p1) := by
  refine MX.of (lv := [(0, va_rf (some a0)), (1, .int p1)]) (by decide) (Nat.le_of_ble_eq_true rfl) rfl (fun C hC _ => ?_)
  unfold f_X10_fine
  refine x_aload_n (p' := 1) hC 0 (dAt dd_X10_fine 0 rfl) rfl rfl rfl ?_
  refine x_iconst (v := 0) (p' := 2) hC (dAt dd_X10_fine 1 rfl) (by decide) rfl ?_
  refine x_putI (p' := 5) hC fk_RX10_63 tk_RX10 rfl rfl (Or.inl rfl) (dAt dd_X10_fine 2 rfl) rfl (fun h1 => ?_)
  refine x_iload_n (p' := 6) hC 1 (dAt dd_X10_fine 3 rfl) rfl rfl rfl ?_
  exact x_ireturn hC (dAt dd_X10_fine 4 rfl)
set_option maxHeartbeats 4000000 in
set_option maxRecDepth 100000 in
theorem c_X10_row (l : Launch) (D : va_G) (cy : Nat → ClassId) (h : AH) (a0 : Nat) (p1 : Int32) (p2 : Int32) (p3 : Int32) : MX rvI l yX10_row (Cond.code yX10_row cX10_row 4 (some .int) :: LW) 2 45 D cy h [va_rf (some a0), .int p1, .int p2, .int p3] (f_X10_row h a0 p1 p2 p3) := by
  refine MX.of (lv := [(0, va_rf (some a0)), (1, .int p1), (2, .int p2), (3, .int p3)]) (by decide) (Nat.le_of_ble_eq_true rfl) rfl (fun C hC _ => ?_)
  unfold f_X10_row
  refine x_iload_n (p' := 1) hC 1 (dAt dd_X10_row 0 rfl) rfl rfl rfl ?_
  refine x_callSI (As := [.int p1]) (p' := 4) hC (c_X10_isRow _ _ _ h p1) k_263 k_264 k_1 k_265 hd_X10_isRow ⟨by decide, by decide⟩ rfl (Nat.le_of_ble_eq_true rfl) rfl (dAt dd_X10_row 1 rfl) rfl (fun v1 h2 => ?_)
  refine x_if_eq (tgt := 21) (p' := 7) hC (dAt dd_X10_row 2 rfl) (by decide) rfl ?_ ?_
  · refine x_ldc (v := (-1000001)) (p' := 23) hC (dAt dd_X10_row 10 rfl) k_269 rfl ?_
    exact x_ireturn hC (dAt dd_X10_row 11 rfl)
  · refine x_iload_n (p' := 8) hC 2 (dAt dd_X10_row 3 rfl) rfl rfl rfl ?_
    refine x_iconst (v := 3) (p' := 9) hC (dAt dd_X10_row 4 rfl) (by decide) rfl ?_
    refine x_callSI (As := [.int p2, .int 3]) (p' := 12) hC (c_X10_isBelow _ _ _ h2 p2 3) k_266 k_267 k_1 k_268 hd_X10_isBelow ⟨by decide, by decide⟩ rfl (Nat.le_of_ble_eq_true rfl) rfl (dAt dd_X10_row 5 rfl) rfl (fun v3 h4 => ?_)
    refine x_if_eq (tgt := 21) (p' := 15) hC (dAt dd_X10_row 6 rfl) (by decide) rfl ?_ ?_
    · refine x_ldc (v := (-1000001)) (p' := 23) hC (dAt dd_X10_row 10 rfl) k_269 rfl ?_
      exact x_ireturn hC (dAt dd_X10_row 11 rfl)
    · refine x_iload_n (p' := 16) hC 3 (dAt dd_X10_row 7 rfl) rfl rfl rfl ?_
      refine x_bipush (v := 60) (p' := 18) hC (dAt dd_X10_row 8 rfl) (by decide) rfl ?_
      refine x_icmp_le (tgt := 24) (p' := 21) hC (dAt dd_X10_row 9 rfl) (by decide) rfl ?_ ?_
      · refine x_iload_n (p' := 25) hC 3 (dAt dd_X10_row 12 rfl) rfl rfl rfl ?_
        refine x_if_ge (tgt := 34) (p' := 28) hC (dAt dd_X10_row 13 rfl) (by decide) rfl ?_ ?_
        · refine x_aload_n (p' := 35) hC 0 (dAt dd_X10_row 18 rfl) rfl rfl rfl ?_
          refine x_getR (p' := 38) hC fk_RX10_11 rfl (dAt dd_X10_row 19 rfl) rfl (fun r5 => ?_)
          refine x_iload_n (p' := 39) hC 1 (dAt dd_X10_row 20 rfl) rfl rfl rfl ?_
          refine x_aaload 16 4 (p' := 40) hC rfl (by decide) rfl (dAt dd_X10_row 21 rfl) rfl (fun r6 => ?_)
          refine x_iload_n (p' := 41) hC 2 (dAt dd_X10_row 22 rfl) rfl rfl rfl ?_
          refine x_iload_n (p' := 42) hC 3 (dAt dd_X10_row 23 rfl) rfl rfl rfl ?_
          refine x_callVV (As := [.int p2, .int p3]) (z := fun b => f_X7_make h4 b p2 p3) (p' := 45) hC (fun b => c_X7_make _ _ _ h4 b p2 p3) k_275 k_276 k_277 k_6 k_278 hd_X7_make ⟨by decide, by decide⟩ (ci := 7) rfl rfl (by decide) rfl (Nat.le_of_ble_eq_true rfl) rfl (dAt dd_X10_row 24 rfl) rfl (fun u7 h8 => ?_)
          refine x_aload_n (p' := 46) hC 0 (dAt dd_X10_row 25 rfl) rfl rfl rfl ?_
          refine x_iload_n (p' := 47) hC 3 (dAt dd_X10_row 26 rfl) rfl rfl rfl ?_
          refine x_callVI (As := [.int p3]) (z := fun b => f_X10_fine h8 b p3) (p' := 50) hC (fun b => c_X10_fine _ _ _ h8 b p3) k_282 k_284 (k_sl 1 rfl) k_1 k_285 hd_X10_fine ⟨by decide, by decide⟩ (ci := 9) rfl rfl (by decide) rfl (Nat.le_of_ble_eq_true rfl) rfl (dAt dd_X10_row 27 rfl) rfl (fun v9 h10 => ?_)
          exact x_ireturn hC (dAt dd_X10_row 28 rfl)
        · refine x_aload_n (p' := 29) hC 0 (dAt dd_X10_row 14 rfl) rfl rfl rfl ?_
          refine x_iconst (v := 4) (p' := 30) hC (dAt dd_X10_row 15 rfl) (by decide) rfl ?_
          refine x_callVI (As := [.int 4]) (z := fun b => f_X10_found h4 b 4) (p' := 33) hC (fun b => c_X10_found _ _ _ h4 b 4) k_270 k_272 (k_sl 0 rfl) k_1 k_273 hd_X10_found ⟨by decide, by decide⟩ (ci := 9) rfl rfl (by decide) rfl (Nat.le_of_ble_eq_true rfl) rfl (dAt dd_X10_row 16 rfl) rfl (fun v11 h12 => ?_)
          exact x_ireturn hC (dAt dd_X10_row 17 rfl)
      · refine x_ldc (v := (-1000001)) (p' := 23) hC (dAt dd_X10_row 10 rfl) k_269 rfl ?_
        exact x_ireturn hC (dAt dd_X10_row 11 rfl)
set_option maxHeartbeats 4000000 in
set_option maxRecDepth 100000 in
theorem c_X10_set (l : Launch) (D : va_G) (cy : Nat → ClassId) (h : AH) (a0 : Nat) (p1 : Int32) (p2 : Int32) (p3 : Int32) : MX rvI l yX10_set (Cond.code yX10_set cX10_set 5 (some .int) :: LW) 2 41 D cy h [va_rf (some a0), .int p1, .int p2, .int p3] (f_X10_set h a0 p1 p2 p3) := by
  refine MX.of (lv := [(0, va_rf (some a0)), (1, .int p1), (2, .int p2), (3, .int p3)]) (by decide) (Nat.le_of_ble_eq_true rfl) rfl (fun C hC _ => ?_)
  unfold f_X10_set
  refine x_iload_n (p' := 1) hC 1 (dAt dd_X10_set 0 rfl) rfl rfl rfl ?_
  refine x_callSI (As := [.int p1]) (p' := 4) hC (c_X10_isRow _ _ _ h p1) k_263 k_264 k_1 k_265 hd_X10_isRow ⟨by decide, by decide⟩ rfl (Nat.le_of_ble_eq_true rfl) rfl (dAt dd_X10_set 1 rfl) rfl (fun v1 h2 => ?_)
  refine x_if_ne (tgt := 10) (p' := 7) hC (dAt dd_X10_set 2 rfl) (by decide) rfl ?_ ?_
  · refine x_aload_n (p' := 11) hC 0 (dAt dd_X10_set 5 rfl) rfl rfl rfl ?_
    refine x_getR (p' := 14) hC fk_RX10_11 rfl (dAt dd_X10_set 6 rfl) rfl (fun r3 => ?_)
    refine x_iload_n (p' := 15) hC 1 (dAt dd_X10_set 7 rfl) rfl rfl rfl ?_
    refine x_aaload 16 4 (p' := 16) hC rfl (by decide) rfl (dAt dd_X10_set 8 rfl) rfl (fun r4 => ?_)
    refine x_astore (lv' := [(4, va_rf r4), (0, va_rf (some a0)), (1, .int p1), (2, .int p2), (3, .int p3)]) (p' := 18) hC (dAt dd_X10_set 9 rfl) (by decide) rfl rfl ?_
    refine x_aload (p' := 20) hC 0 (dAt dd_X10_set 10 rfl) rfl rfl ?_
    refine x_getI (p' := 23) hC fk_RX10_98 rfl (dAt dd_X10_set 11 rfl) rfl (fun v5 => ?_)
    refine x_if_eq (tgt := 32) (p' := 26) hC (dAt dd_X10_set 12 rfl) (by decide) rfl ?_ ?_
    · refine x_iload_n (p' := 33) hC 3 (dAt dd_X10_set 17 rfl) rfl rfl rfl ?_
      refine x_aload (p' := 35) hC 0 (dAt dd_X10_set 18 rfl) rfl rfl ?_
      refine x_getI (p' := 38) hC fk_RX10_101 rfl (dAt dd_X10_set 19 rfl) rfl (fun v6 => ?_)
      refine x_callSI (As := [.int p2, .int v6]) (p' := 41) hC (c_X10_isBelow _ _ _ h2 p2 v6) k_266 k_267 k_1 k_268 hd_X10_isBelow ⟨by decide, by decide⟩ rfl (Nat.le_of_ble_eq_true rfl) rfl (dAt dd_X10_set 20 rfl) rfl (fun v7 h8 => ?_)
      refine x_if_ne (tgt := 50) (p' := 44) hC (dAt dd_X10_set 21 rfl) (by decide) rfl ?_ ?_
      · refine x_aload (p' := 52) hC 0 (dAt dd_X10_set 26 rfl) rfl rfl ?_
        refine x_getR (p' := 55) hC fk_RX10_104 rfl (dAt dd_X10_set 27 rfl) rfl (fun r9 => ?_)
        refine x_iload_n (p' := 56) hC 3 (dAt dd_X10_set 28 rfl) rfl rfl rfl ?_
        refine x_aload (p' := 58) hC 0 (dAt dd_X10_set 29 rfl) rfl rfl ?_
        refine x_iload_n (p' := 59) hC 4 (dAt dd_X10_set 30 rfl) rfl rfl rfl ?_
        refine x_callVI (As := [.int p3]) (z := fun b => f_X7_cut h8 b p3) (p' := 62) hC (fun b => c_X7_cut _ _ _ h8 b p3) k_290 k_291 k_292 k_6 k_293 hd_X7_cut ⟨by decide, by decide⟩ (ci := 7) rfl rfl (by decide) rfl (by cases r9 <;> exact Nat.le_of_ble_eq_true rfl) rfl (dAt dd_X10_set 31 rfl) rfl (fun v10 h11 => ?_)
        refine x_iastore (p' := 63) hC (dAt dd_X10_set 32 rfl) rfl (fun h12 => ?_)
        refine x_aload_n (p' := 64) hC 1 (dAt dd_X10_set 33 rfl) rfl rfl rfl ?_
        refine x_aload (p' := 66) hC 0 (dAt dd_X10_set 34 rfl) rfl rfl ?_
        refine x_getR (p' := 69) hC fk_RX10_104 rfl (dAt dd_X10_set 35 rfl) rfl (fun r13 => ?_)
        refine x_iload_n (p' := 70) hC 3 (dAt dd_X10_set 36 rfl) rfl rfl rfl ?_
        refine x_iaload (p' := 71) hC (dAt dd_X10_set 37 rfl) rfl (fun v14 => ?_)
        refine x_callVI (As := [.int v14]) (z := fun b => f_X10_fine h12 b v14) (p' := 74) hC (fun b => c_X10_fine _ _ _ h12 b v14) k_282 k_284 (k_sl 1 rfl) k_1 k_285 hd_X10_fine ⟨by decide, by decide⟩ (ci := 9) rfl rfl (by decide) rfl (Nat.le_of_ble_eq_true rfl) rfl (dAt dd_X10_set 38 rfl) rfl (fun v15 h16 => ?_)
        exact x_ireturn hC (dAt dd_X10_set 39 rfl)
      · refine x_aload_n (p' := 45) hC 1 (dAt dd_X10_set 22 rfl) rfl rfl rfl ?_
        refine x_iconst (v := 2) (p' := 46) hC (dAt dd_X10_set 23 rfl) (by decide) rfl ?_
        refine x_callVI (As := [.int 2]) (z := fun b => f_X10_found h8 b 2) (p' := 49) hC (fun b => c_X10_found _ _ _ h8 b 2) k_270 k_272 (k_sl 0 rfl) k_1 k_273 hd_X10_found ⟨by decide, by decide⟩ (ci := 9) rfl rfl (by decide) rfl (Nat.le_of_ble_eq_true rfl) rfl (dAt dd_X10_set 24 rfl) rfl (fun v17 h18 => ?_)
        exact x_ireturn hC (dAt dd_X10_set 25 rfl)
    · refine x_aload_n (p' := 27) hC 1 (dAt dd_X10_set 13 rfl) rfl rfl rfl ?_
      refine x_iconst (v := 1) (p' := 28) hC (dAt dd_X10_set 14 rfl) (by decide) rfl ?_
      refine x_callVI (As := [.int 1]) (z := fun b => f_X10_found h2 b 1) (p' := 31) hC (fun b => c_X10_found _ _ _ h2 b 1) k_270 k_272 (k_sl 0 rfl) k_1 k_273 hd_X10_found ⟨by decide, by decide⟩ (ci := 9) rfl rfl (by decide) rfl (Nat.le_of_ble_eq_true rfl) rfl (dAt dd_X10_set 15 rfl) rfl (fun v19 h20 => ?_)
      exact x_ireturn hC (dAt dd_X10_set 16 rfl)
  · refine x_ldc (v := (-1000001)) (p' := 9) hC (dAt dd_X10_set 3 rfl) k_269 rfl ?_
    exact x_ireturn hC (dAt dd_X10_set 4 rfl)
set_option maxHeartbeats 4000000 in
set_option maxRecDepth 100000 in
theorem t_X10_copy_J49 {C : CT} (hC : OKC C yX10_copy cX10_copy 8 (some .int) 2 41)   : ∀ (x0 : Nat) (h : AH), WX rvI C 49 [(0, va_rf (some x0))] [] h (f_X10_copy_J49 x0 h) := by
  intro x0 h
  unfold f_X10_copy_J49
  refine x_aload_n (p' := 50) hC 0 (dAt dd_X10_copy 24 rfl) rfl rfl rfl ?_
  refine x_iconst (v := 1) (p' := 51) hC (dAt dd_X10_copy 25 rfl) (by decide) rfl ?_
  refine x_callVI (As := [.int 1]) (z := fun b => f_X10_found h b 1) (p' := 54) hC (fun b => c_X10_found _ _ _ h b 1) k_270 k_272 (k_sl 0 rfl) k_1 k_273 hd_X10_found ⟨by decide, by decide⟩ (ci := 9) rfl rfl (by decide) rfl (Nat.le_of_ble_eq_true rfl) rfl (dAt dd_X10_copy 26 rfl) rfl (fun v10 h11 => ?_)
  exact x_ireturn hC (dAt dd_X10_copy 27 rfl)
set_option maxHeartbeats 4000000 in
set_option maxRecDepth 100000 in
theorem t_X10_copy_J97 {C : CT} (hC : OKC C yX10_copy cX10_copy 8 (some .int) 2 41)   : ∀ (x0 : Nat) (h : AH), WX rvI C 97 [(0, va_rf (some x0))] [] h (f_X10_copy_J97 x0 h) := by
  intro x0 h
  unfold f_X10_copy_J97
  refine x_aload_n (p' := 98) hC 0 (dAt dd_X10_copy 47 rfl) rfl rfl rfl ?_
  refine x_iconst (v := 2) (p' := 99) hC (dAt dd_X10_copy 48 rfl) (by decide) rfl ?_
  refine x_callVI (As := [.int 2]) (z := fun b => f_X10_found h b 2) (p' := 102) hC (fun b => c_X10_found _ _ _ h b 2) k_270 k_272 (k_sl 0 rfl) k_1 k_273 hd_X10_found ⟨by decide, by decide⟩ (ci := 9) rfl rfl (by decide) rfl (Nat.le_of_ble_eq_true rfl) rfl (dAt dd_X10_copy 49 rfl) rfl (fun v17 h18 => ?_)
  exact x_ireturn hC (dAt dd_X10_copy 50 rfl)
set_option maxHeartbeats 4000000 in
set_option maxRecDepth 100000 in
theorem c_X10_copy (l : Launch) (D : va_G) (cy : Nat → ClassId) (h : AH) (a0 : Nat) (p1 : Int32) (p2 : Int32) (p3 : Int32) (p4 : Int32) (p5 : Int32) : MX rvI l yX10_copy (Cond.code yX10_copy cX10_copy 8 (some .int) :: LW) 2 41 D cy h [va_rf (some a0), .int p1, .int p2, .int p3, .int p4, .int p5] (f_X10_copy h a0 p1 p2 p3 p4 p5) := by
  refine MX.of (lv := [(0, va_rf (some a0)), (1, .int p1), (2, .int p2), (3, .int p3), (4, .int p4), (5, .int p5)]) (by decide) (Nat.le_of_ble_eq_true rfl) rfl (fun C hC _ => ?_)
  unfold f_X10_copy
  refine x_iload_n (p' := 1) hC 1 (dAt dd_X10_copy 0 rfl) rfl rfl rfl ?_
  refine x_callSI (As := [.int p1]) (p' := 4) hC (c_X10_isRow _ _ _ h p1) k_263 k_264 k_1 k_265 hd_X10_isRow ⟨by decide, by decide⟩ rfl (Nat.le_of_ble_eq_true rfl) rfl (dAt dd_X10_copy 1 rfl) rfl (fun v1 h2 => ?_)
  refine x_if_eq (tgt := 14) (p' := 7) hC (dAt dd_X10_copy 2 rfl) (by decide) rfl ?_ ?_
  · refine x_ldc (v := (-1000001)) (p' := 16) hC (dAt dd_X10_copy 6 rfl) k_269 rfl ?_
    exact x_ireturn hC (dAt dd_X10_copy 7 rfl)
  · refine x_iload_n (p' := 8) hC 3 (dAt dd_X10_copy 3 rfl) rfl rfl rfl ?_
    refine x_callSI (As := [.int p3]) (p' := 11) hC (c_X10_isRow _ _ _ h2 p3) k_263 k_264 k_1 k_265 hd_X10_isRow ⟨by decide, by decide⟩ rfl (Nat.le_of_ble_eq_true rfl) rfl (dAt dd_X10_copy 4 rfl) rfl (fun v3 h4 => ?_)
    refine x_if_ne (tgt := 17) (p' := 14) hC (dAt dd_X10_copy 5 rfl) (by decide) rfl ?_ ?_
    · refine x_aload_n (p' := 18) hC 0 (dAt dd_X10_copy 8 rfl) rfl rfl rfl ?_
      refine x_getR (p' := 21) hC fk_RX10_11 rfl (dAt dd_X10_copy 9 rfl) rfl (fun r5 => ?_)
      refine x_iload_n (p' := 22) hC 1 (dAt dd_X10_copy 10 rfl) rfl rfl rfl ?_
      refine x_aaload 16 4 (p' := 23) hC rfl (by decide) rfl (dAt dd_X10_copy 11 rfl) rfl (fun r6 => ?_)
      refine x_astore (lv' := [(6, va_rf r6), (0, va_rf (some a0)), (1, .int p1), (2, .int p2), (3, .int p3), (4, .int p4), (5, .int p5)]) (p' := 25) hC (dAt dd_X10_copy 12 rfl) (by decide) rfl rfl ?_
      refine x_aload_n (p' := 26) hC 1 (dAt dd_X10_copy 13 rfl) rfl rfl rfl ?_
      refine x_getR (p' := 29) hC fk_RX10_11 rfl (dAt dd_X10_copy 14 rfl) rfl (fun r7 => ?_)
      refine x_iload_n (p' := 30) hC 4 (dAt dd_X10_copy 15 rfl) rfl rfl rfl ?_
      refine x_aaload 16 4 (p' := 31) hC rfl (by decide) rfl (dAt dd_X10_copy 16 rfl) rfl (fun r8 => ?_)
      refine x_astore (lv' := [(7, va_rf r8), (6, va_rf r6), (0, va_rf (some a0)), (1, .int p1), (2, .int p2), (3, .int p3), (4, .int p4), (5, .int p5)]) (p' := 33) hC (dAt dd_X10_copy 17 rfl) (by decide) (by simp [x_cat, show ∀ v : Int32, (Value.int v).category = 1 from fun _ => rfl]) rfl ?_
      refine x_aload (p' := 35) hC 1 (dAt dd_X10_copy 18 rfl) rfl rfl ?_
      refine x_getI (p' := 38) hC fk_RX10_98 rfl (dAt dd_X10_copy 19 rfl) rfl (fun v9 => ?_)
      refine x_if_ne (tgt := 49) (p' := 41) hC (dAt dd_X10_copy 20 rfl) (by decide) rfl ?_ ?_
      · refine x_sub [2] rfl ?_
        exact t_X10_copy_J49 hC a0 h4
      · refine x_aload (p' := 43) hC 0 (dAt dd_X10_copy 21 rfl) rfl rfl ?_
        refine x_getI (p' := 46) hC fk_RX10_98 rfl (dAt dd_X10_copy 22 rfl) rfl (fun v12 => ?_)
        refine x_if_eq (tgt := 55) (p' := 49) hC (dAt dd_X10_copy 23 rfl) (by decide) rfl ?_ ?_
        · refine x_aload (p' := 57) hC 1 (dAt dd_X10_copy 28 rfl) rfl rfl ?_
          refine x_getI (p' := 60) hC fk_RX10_110 rfl (dAt dd_X10_copy 29 rfl) rfl (fun v13 => ?_)
          refine x_aload (p' := 62) hC 0 (dAt dd_X10_copy 30 rfl) rfl rfl ?_
          refine x_getI (p' := 65) hC fk_RX10_110 rfl (dAt dd_X10_copy 31 rfl) rfl (fun v14 => ?_)
          refine x_icmp_eq (tgt := 74) (p' := 68) hC (dAt dd_X10_copy 32 rfl) (by decide) rfl ?_ ?_
          · refine x_aload (p' := 76) hC 1 (dAt dd_X10_copy 37 rfl) rfl rfl ?_
            refine x_iload_n (p' := 77) hC 4 (dAt dd_X10_copy 38 rfl) rfl rfl rfl ?_
            refine x_iload (p' := 79) hC 7 (dAt dd_X10_copy 39 rfl) rfl rfl ?_
            refine x_callVI (As := [.int p2, .int p5]) (z := fun b => f_X7_hasRange h4 b p2 p5) (p' := 82) hC (fun b => c_X7_hasRange _ _ _ h4 b p2 p5) k_298 k_299 k_300 k_6 k_301 hd_X7_hasRange ⟨by decide, by decide⟩ (ci := 7) rfl rfl (by decide) rfl (Nat.le_of_ble_eq_true rfl) rfl (dAt dd_X10_copy 40 rfl) rfl (fun v15 h16 => ?_)
            refine x_if_eq (tgt := 97) (p' := 85) hC (dAt dd_X10_copy 41 rfl) (by decide) rfl ?_ ?_
            · refine x_sub [2] rfl ?_
              exact t_X10_copy_J97 hC a0 h16
            · refine x_aload (p' := 87) hC 0 (dAt dd_X10_copy 42 rfl) rfl rfl ?_
              refine x_iload (p' := 89) hC 6 (dAt dd_X10_copy 43 rfl) rfl rfl ?_
              refine x_iload (p' := 91) hC 7 (dAt dd_X10_copy 44 rfl) rfl rfl ?_
              refine x_callVI (As := [.int p4, .int p5]) (z := fun b => f_X7_hasRange h16 b p4 p5) (p' := 94) hC (fun b => c_X7_hasRange _ _ _ h16 b p4 p5) k_298 k_299 k_300 k_6 k_301 hd_X7_hasRange ⟨by decide, by decide⟩ (ci := 7) rfl rfl (by decide) rfl (Nat.le_of_ble_eq_true rfl) rfl (dAt dd_X10_copy 45 rfl) rfl (fun v19 h20 => ?_)
              refine x_if_ne (tgt := 103) (p' := 97) hC (dAt dd_X10_copy 46 rfl) (by decide) rfl ?_ ?_
              · refine x_aload (p' := 105) hC 1 (dAt dd_X10_copy 51 rfl) rfl rfl ?_
                refine x_getR (p' := 108) hC fk_RX10_104 rfl (dAt dd_X10_copy 52 rfl) rfl (fun r21 => ?_)
                refine x_iload_n (p' := 109) hC 4 (dAt dd_X10_copy 53 rfl) rfl rfl rfl ?_
                refine x_aload (p' := 111) hC 0 (dAt dd_X10_copy 54 rfl) rfl rfl ?_
                refine x_getR (p' := 114) hC fk_RX10_104 rfl (dAt dd_X10_copy 55 rfl) rfl (fun r22 => ?_)
                refine x_iload (p' := 116) hC 6 (dAt dd_X10_copy 56 rfl) rfl rfl ?_
                refine x_iload (p' := 118) hC 7 (dAt dd_X10_copy 57 rfl) rfl rfl ?_
                refine x_copy (p' := 121) hC k_302 k_304 k_303 k_11 ⟨by decide, (Nat.le_of_ble_eq_true rfl)⟩ (dAt dd_X10_copy 58 rfl) rfl (fun h23 => ?_)
                refine x_aload_n (p' := 122) hC 2 (dAt dd_X10_copy 59 rfl) rfl rfl rfl ?_
                refine x_iload (p' := 124) hC 7 (dAt dd_X10_copy 60 rfl) rfl rfl ?_
                refine x_callVI (As := [.int p5]) (z := fun b => f_X10_fine h23 b p5) (p' := 127) hC (fun b => c_X10_fine _ _ _ h23 b p5) k_282 k_284 (k_sl 1 rfl) k_1 k_285 hd_X10_fine ⟨by decide, by decide⟩ (ci := 9) rfl rfl (by decide) rfl (Nat.le_of_ble_eq_true rfl) rfl (dAt dd_X10_copy 61 rfl) rfl (fun v24 h25 => ?_)
                exact x_ireturn hC (dAt dd_X10_copy 62 rfl)
              · refine x_sub [2] rfl ?_
                exact t_X10_copy_J97 hC a0 h20
          · refine x_aload_n (p' := 69) hC 2 (dAt dd_X10_copy 33 rfl) rfl rfl rfl ?_
            refine x_iconst (v := 5) (p' := 70) hC (dAt dd_X10_copy 34 rfl) (by decide) rfl ?_
            refine x_callVI (As := [.int 5]) (z := fun b => f_X10_found h4 b 5) (p' := 73) hC (fun b => c_X10_found _ _ _ h4 b 5) k_270 k_272 (k_sl 0 rfl) k_1 k_273 hd_X10_found ⟨by decide, by decide⟩ (ci := 9) rfl rfl (by decide) rfl (Nat.le_of_ble_eq_true rfl) rfl (dAt dd_X10_copy 35 rfl) rfl (fun v26 h27 => ?_)
            exact x_ireturn hC (dAt dd_X10_copy 36 rfl)
        · refine x_sub [2] rfl ?_
          exact t_X10_copy_J49 hC a0 h4
    · refine x_ldc (v := (-1000001)) (p' := 16) hC (dAt dd_X10_copy 6 rfl) k_269 rfl ?_
      exact x_ireturn hC (dAt dd_X10_copy 7 rfl)
set_option maxHeartbeats 4000000 in
set_option maxRecDepth 100000 in
theorem c_X10_drop (l : Launch) (D : va_G) (cy : Nat → ClassId) (h : AH) (a0 : Nat) (p1 : Int32) : MX rvI l yX10_drop (Cond.code yX10_drop cX10_drop 3 (some .int) :: LW) 2 41 D cy h [va_rf (some a0), .int p1] (f_X10_drop h a0 p1) := by
  refine MX.of (lv := [(0, va_rf (some a0)), (1, .int p1)]) (by decide) (Nat.le_of_ble_eq_true rfl) rfl (fun C hC _ => ?_)
  unfold f_X10_drop
  refine x_iload_n (p' := 1) hC 1 (dAt dd_X10_drop 0 rfl) rfl rfl rfl ?_
  refine x_callSI (As := [.int p1]) (p' := 4) hC (c_X10_isRow _ _ _ h p1) k_263 k_264 k_1 k_265 hd_X10_isRow ⟨by decide, by decide⟩ rfl (Nat.le_of_ble_eq_true rfl) rfl (dAt dd_X10_drop 1 rfl) rfl (fun v1 h2 => ?_)
  refine x_if_ne (tgt := 10) (p' := 7) hC (dAt dd_X10_drop 2 rfl) (by decide) rfl ?_ ?_
  · refine x_aload_n (p' := 11) hC 0 (dAt dd_X10_drop 5 rfl) rfl rfl rfl ?_
    refine x_getR (p' := 14) hC fk_RX10_11 rfl (dAt dd_X10_drop 6 rfl) rfl (fun r3 => ?_)
    refine x_iload_n (p' := 15) hC 1 (dAt dd_X10_drop 7 rfl) rfl rfl rfl ?_
    refine x_aaload 16 4 (p' := 16) hC rfl (by decide) rfl (dAt dd_X10_drop 8 rfl) rfl (fun r4 => ?_)
    refine x_astore_n (j := 2) (lv' := [(2, va_rf r4), (0, va_rf (some a0)), (1, .int p1)]) (p' := 17) hC (dAt dd_X10_drop 9 rfl) rfl (by decide) rfl rfl ?_
    refine x_aload_n (p' := 18) hC 0 (dAt dd_X10_drop 10 rfl) rfl rfl rfl ?_
    refine x_getI (p' := 21) hC fk_RX10_98 rfl (dAt dd_X10_drop 11 rfl) rfl (fun v5 => ?_)
    refine x_if_eq (tgt := 30) (p' := 24) hC (dAt dd_X10_drop 12 rfl) (by decide) rfl ?_ ?_
    · refine x_aload_n (p' := 31) hC 0 (dAt dd_X10_drop 17 rfl) rfl rfl rfl ?_
      refine x_iconst (v := 1) (p' := 32) hC (dAt dd_X10_drop 18 rfl) (by decide) rfl ?_
      refine x_putZ (p' := 35) hC fk_RX10_98 tk_RX7 rfl rfl (Or.inl rfl) (dAt dd_X10_drop 19 rfl) rfl (fun h6 => ?_)
      refine x_aload_n (p' := 36) hC 1 (dAt dd_X10_drop 20 rfl) rfl rfl rfl ?_
      refine x_aload_n (p' := 37) hC 0 (dAt dd_X10_drop 21 rfl) rfl rfl rfl ?_
      refine x_getI (p' := 40) hC fk_RX10_101 rfl (dAt dd_X10_drop 22 rfl) rfl (fun v7 => ?_)
      refine x_callVI (As := [.int v7]) (z := fun b => f_X10_fine h6 b v7) (p' := 43) hC (fun b => c_X10_fine _ _ _ h6 b v7) k_282 k_284 (k_sl 1 rfl) k_1 k_285 hd_X10_fine ⟨by decide, by decide⟩ (ci := 9) rfl rfl (by decide) rfl (Nat.le_of_ble_eq_true rfl) rfl (dAt dd_X10_drop 23 rfl) rfl (fun v8 h9 => ?_)
      exact x_ireturn hC (dAt dd_X10_drop 24 rfl)
    · refine x_aload_n (p' := 25) hC 1 (dAt dd_X10_drop 13 rfl) rfl rfl rfl ?_
      refine x_iconst (v := 1) (p' := 26) hC (dAt dd_X10_drop 14 rfl) (by decide) rfl ?_
      refine x_callVI (As := [.int 1]) (z := fun b => f_X10_found h2 b 1) (p' := 29) hC (fun b => c_X10_found _ _ _ h2 b 1) k_270 k_272 (k_sl 0 rfl) k_1 k_273 hd_X10_found ⟨by decide, by decide⟩ (ci := 9) rfl rfl (by decide) rfl (Nat.le_of_ble_eq_true rfl) rfl (dAt dd_X10_drop 15 rfl) rfl (fun v10 h11 => ?_)
      exact x_ireturn hC (dAt dd_X10_drop 16 rfl)
  · refine x_ldc (v := (-1000001)) (p' := 9) hC (dAt dd_X10_drop 3 rfl) k_269 rfl ?_
    exact x_ireturn hC (dAt dd_X10_drop 4 rfl)
set_option maxHeartbeats 4000000 in
set_option maxRecDepth 100000 in
theorem t_X10_fold_J88 {C : CT} (hC : OKC C yX10_fold cX10_fold 4 (some .int) 6 140)   : ∀ (s0 : Int32) (s1 : Option Nat) (h : AH), WX rvI C 88 [] [.int s0, va_rf s1] h (f_X10_fold_J88 s0 s1 h) := by
  intro s0 s1 h
  unfold f_X10_fold_J88
  refine x_callVI (As := [.int s0]) (z := fun b => f_X10_fine h b s0) (p' := 91) hC (fun b => c_X10_fine _ _ _ h b s0) k_282 k_284 (k_sl 1 rfl) k_1 k_285 hd_X10_fine ⟨by decide, by decide⟩ (ci := 9) rfl rfl (by decide) rfl (Nat.le_of_ble_eq_true rfl) rfl (dAt dd_X10_fold 45 rfl) rfl (fun v18 h19 => ?_)
  exact x_ireturn hC (dAt dd_X10_fold 46 rfl)
set_option maxHeartbeats 4000000 in
set_option maxRecDepth 100000 in
theorem c_X10_fold (l : Launch) (D : va_G) (cy : Nat → ClassId) (h : AH) (a0 : Nat) (p1 : Int32) (p2 : Int32) : MX rvI l yX10_fold (Cond.code yX10_fold cX10_fold 4 (some .int) :: LW) 6 140 D cy h [va_rf (some a0), .int p1, .int p2] (f_X10_fold h a0 p1 p2) := by
  refine MX.of (lv := [(0, va_rf (some a0)), (1, .int p1), (2, .int p2)]) (by decide) (Nat.le_of_ble_eq_true rfl) rfl (fun C hC _ => ?_)
  unfold f_X10_fold
  refine x_iload_n (p' := 1) hC 1 (dAt dd_X10_fold 0 rfl) rfl rfl rfl ?_
  refine x_callSI (As := [.int p1]) (p' := 4) hC (c_X10_isRow _ _ _ h p1) k_263 k_264 k_1 k_265 hd_X10_isRow ⟨by decide, by decide⟩ rfl (Nat.le_of_ble_eq_true rfl) rfl (dAt dd_X10_fold 1 rfl) rfl (fun v1 h2 => ?_)
  refine x_if_ne (tgt := 10) (p' := 7) hC (dAt dd_X10_fold 2 rfl) (by decide) rfl ?_ ?_
  · refine x_aload_n (p' := 11) hC 0 (dAt dd_X10_fold 5 rfl) rfl rfl rfl ?_
    refine x_getR (p' := 14) hC fk_RX10_11 rfl (dAt dd_X10_fold 6 rfl) rfl (fun r3 => ?_)
    refine x_iload_n (p' := 15) hC 1 (dAt dd_X10_fold 7 rfl) rfl rfl rfl ?_
    refine x_aaload 16 4 (p' := 16) hC rfl (by decide) rfl (dAt dd_X10_fold 8 rfl) rfl (fun r4 => ?_)
    refine x_astore_n (j := 3) (lv' := [(3, va_rf r4), (0, va_rf (some a0)), (1, .int p1), (2, .int p2)]) (p' := 17) hC (dAt dd_X10_fold 9 rfl) rfl (by decide) rfl rfl ?_
    refine x_aload_n (p' := 18) hC 0 (dAt dd_X10_fold 10 rfl) rfl rfl rfl ?_
    refine x_getI (p' := 21) hC fk_RX10_98 rfl (dAt dd_X10_fold 11 rfl) rfl (fun v5 => ?_)
    refine x_if_eq (tgt := 30) (p' := 24) hC (dAt dd_X10_fold 12 rfl) (by decide) rfl ?_ ?_
    · refine x_aload_n (p' := 31) hC 0 (dAt dd_X10_fold 17 rfl) rfl rfl rfl ?_
      refine x_getR (p' := 34) hC fk_RX10_104 rfl (dAt dd_X10_fold 18 rfl) rfl (fun r6 => ?_)
      refine x_aload_n (p' := 35) hC 0 (dAt dd_X10_fold 19 rfl) rfl rfl rfl ?_
      refine x_getI (p' := 38) hC fk_RX10_101 rfl (dAt dd_X10_fold 20 rfl) rfl (fun v7 => ?_)
      refine x_callSI (As := [va_rf r6, .int v7]) (p' := 41) hC (c_X9_areAnswer _ _ _ h2 r6 v7) k_313 k_314 k_12 k_315 hd_X9_areAnswer ⟨by decide, by decide⟩ rfl (Nat.le_of_ble_eq_true rfl) rfl (dAt dd_X10_fold 21 rfl) rfl (fun v8 h9 => ?_)
      refine x_if_ne (tgt := 47) (p' := 44) hC (dAt dd_X10_fold 22 rfl) (by decide) rfl ?_ ?_
      · refine x_aload_n (p' := 48) hC 1 (dAt dd_X10_fold 25 rfl) rfl rfl rfl ?_
        refine x_getR (p' := 51) hC fk_RX10_71 rfl (dAt dd_X10_fold 26 rfl) rfl (fun r10 => ?_)
        refine x_aload_n (p' := 52) hC 0 (dAt dd_X10_fold 27 rfl) rfl rfl rfl ?_
        refine x_getR (p' := 55) hC fk_RX10_104 rfl (dAt dd_X10_fold 28 rfl) rfl (fun r11 => ?_)
        refine x_aload_n (p' := 56) hC 0 (dAt dd_X10_fold 29 rfl) rfl rfl rfl ?_
        refine x_getI (p' := 59) hC fk_RX10_101 rfl (dAt dd_X10_fold 30 rfl) rfl (fun v12 => ?_)
        refine x_callVV (As := [va_rf r11, .int v12]) (z := fun b => f_X5_work h9 b r11 v12) (p' := 62) hC (fun b => c_X5_work _ _ _ h9 b r11 v12) k_317 k_318 k_319 k_5 k_320 hd_X5_work ⟨by decide, by decide⟩ (ci := 5) rfl rfl (by decide) rfl (Nat.le_of_ble_eq_true rfl) rfl (dAt dd_X10_fold 31 rfl) rfl (fun u13 h14 => ?_)
        refine x_aload_n (p' := 63) hC 1 (dAt dd_X10_fold 32 rfl) rfl rfl rfl ?_
        refine x_iload_n (p' := 64) hC 3 (dAt dd_X10_fold 33 rfl) rfl rfl rfl ?_
        refine x_aload_n (p' := 65) hC 0 (dAt dd_X10_fold 34 rfl) rfl rfl rfl ?_
        refine x_getI (p' := 68) hC fk_RX10_101 rfl (dAt dd_X10_fold 35 rfl) rfl (fun v15 => ?_)
        refine x_callSI (As := [.int p2, .int v15]) (p' := 71) hC (c_X10_isBelow _ _ _ h14 p2 v15) k_266 k_267 k_1 k_268 hd_X10_isBelow ⟨by decide, by decide⟩ rfl (Nat.le_of_ble_eq_true rfl) rfl (dAt dd_X10_fold 36 rfl) rfl (fun v16 h17 => ?_)
        refine x_if_eq (tgt := 86) (p' := 74) hC (dAt dd_X10_fold 37 rfl) (by decide) rfl ?_ ?_
        · refine x_ldc (v := (-1000000)) (p' := 88) hC (dAt dd_X10_fold 44 rfl) k_362 rfl ?_
          refine x_sub [] rfl ?_
          exact t_X10_fold_J88 hC (-1000000) (some a0) h17
        · refine x_aload_n (p' := 75) hC 1 (dAt dd_X10_fold 38 rfl) rfl rfl rfl ?_
          refine x_getR (p' := 78) hC fk_RX10_71 rfl (dAt dd_X10_fold 39 rfl) rfl (fun r20 => ?_)
          refine x_getR (p' := 81) hC fk_RX10_133 rfl (dAt dd_X10_fold 40 rfl) rfl (fun r21 => ?_)
          refine x_iload_n (p' := 82) hC 3 (dAt dd_X10_fold 41 rfl) rfl rfl rfl ?_
          refine x_iaload (p' := 83) hC (dAt dd_X10_fold 42 rfl) rfl (fun v22 => ?_)
          refine x_goto (tgt := 88) hC (dAt dd_X10_fold 43 rfl) (by decide) ?_
          refine x_sub [] rfl ?_
          exact t_X10_fold_J88 hC v22 (some a0) h17
      · refine x_ldc (v := (-1000002)) (p' := 46) hC (dAt dd_X10_fold 23 rfl) k_316 rfl ?_
        exact x_ireturn hC (dAt dd_X10_fold 24 rfl)
    · refine x_aload_n (p' := 25) hC 1 (dAt dd_X10_fold 13 rfl) rfl rfl rfl ?_
      refine x_iconst (v := 1) (p' := 26) hC (dAt dd_X10_fold 14 rfl) (by decide) rfl ?_
      refine x_callVI (As := [.int 1]) (z := fun b => f_X10_found h2 b 1) (p' := 29) hC (fun b => c_X10_found _ _ _ h2 b 1) k_270 k_272 (k_sl 0 rfl) k_1 k_273 hd_X10_found ⟨by decide, by decide⟩ (ci := 9) rfl rfl (by decide) rfl (Nat.le_of_ble_eq_true rfl) rfl (dAt dd_X10_fold 15 rfl) rfl (fun v23 h24 => ?_)
      exact x_ireturn hC (dAt dd_X10_fold 16 rfl)
  · refine x_ldc (v := (-1000001)) (p' := 9) hC (dAt dd_X10_fold 3 rfl) k_269 rfl ?_
    exact x_ireturn hC (dAt dd_X10_fold 4 rfl)
set_option maxHeartbeats 4000000 in
set_option maxRecDepth 100000 in
theorem c_X10_slotAt (l : Launch) (D : va_G) (cy : Nat → ClassId) (h : AH) (p0 : Int32) (p1 : Int32) : MX rvI l yX10_slotAt (Cond.code yX10_slotAt cX10_slotAt 2 (some .int) :: LW) 1 21 D cy h [.int p0, .int p1] (f_X10_slotAt h p0 p1) := by
  refine MX.of (lv := [(0, .int p0), (1, .int p1)]) (by decide) (Nat.le_of_ble_eq_true rfl) rfl (fun C hC _ => ?_)
  unfold f_X10_slotAt
  refine x_iload_n (p' := 1) hC 0 (dAt dd_X10_slotAt 0 rfl) rfl rfl rfl ?_
  refine x_bipush (v := 12) (p' := 3) hC (dAt dd_X10_slotAt 1 rfl) (by decide) rfl ?_
  refine x_callSI (As := [.int p0, .int 12]) (p' := 6) hC (c_X10_isBelow _ _ _ h p0 12) k_266 k_267 k_1 k_268 hd_X10_isBelow ⟨by decide, by decide⟩ rfl (Nat.le_of_ble_eq_true rfl) rfl (dAt dd_X10_slotAt 2 rfl) rfl (fun v1 h2 => ?_)
  refine x_if_eq (tgt := 17) (p' := 9) hC (dAt dd_X10_slotAt 3 rfl) (by decide) rfl ?_ ?_
  · refine x_iconst (v := (-1)) (p' := 18) hC (dAt dd_X10_slotAt 8 rfl) (by decide) rfl ?_
    exact x_ireturn hC (dAt dd_X10_slotAt 9 rfl)
  · refine x_iload_n (p' := 10) hC 1 (dAt dd_X10_slotAt 4 rfl) rfl rfl rfl ?_
    refine x_iconst (v := 3) (p' := 11) hC (dAt dd_X10_slotAt 5 rfl) (by decide) rfl ?_
    refine x_callSI (As := [.int p1, .int 3]) (p' := 14) hC (c_X10_isBelow _ _ _ h2 p1 3) k_266 k_267 k_1 k_268 hd_X10_isBelow ⟨by decide, by decide⟩ rfl (Nat.le_of_ble_eq_true rfl) rfl (dAt dd_X10_slotAt 6 rfl) rfl (fun v3 h4 => ?_)
    refine x_if_ne (tgt := 19) (p' := 17) hC (dAt dd_X10_slotAt 7 rfl) (by decide) rfl ?_ ?_
    · refine x_iload_n (p' := 20) hC 0 (dAt dd_X10_slotAt 10 rfl) rfl rfl rfl ?_
      refine x_iconst (v := 3) (p' := 21) hC (dAt dd_X10_slotAt 11 rfl) (by decide) rfl ?_
      refine x_imul (p' := 22) hC (dAt dd_X10_slotAt 12 rfl) rfl ?_
      refine x_iload_n (p' := 23) hC 1 (dAt dd_X10_slotAt 13 rfl) rfl rfl rfl ?_
      refine x_iadd (p' := 24) hC (dAt dd_X10_slotAt 14 rfl) rfl ?_
      exact x_ireturn hC (dAt dd_X10_slotAt 15 rfl)
    · refine x_iconst (v := (-1)) (p' := 18) hC (dAt dd_X10_slotAt 8 rfl) (by decide) rfl ?_
      exact x_ireturn hC (dAt dd_X10_slotAt 9 rfl)
set_option maxHeartbeats 4000000 in
set_option maxRecDepth 100000 in
theorem c_X10_answerOf (l : Launch) (D : va_G) (cy : Nat → ClassId) (h : AH) (a0 : Nat) (p1 : Option Nat) : MX rvR l yX10_answerOf (Cond.code yX10_answerOf cX10_answerOf 2 (some (.object "GoldenKeeper$Answer")) :: LW) 6 140 D cy h [va_rf (some a0), va_rf p1] (f_X10_answerOf h a0 p1) := by
  refine MX.of (lv := [(0, va_rf (some a0)), (1, va_rf p1)]) (by decide) (by cases p1 <;> exact Nat.le_of_ble_eq_true rfl) (by cases p1 <;> rfl) (fun C hC _ => ?_)
  unfold f_X10_answerOf
  refine x_aload_n (p' := 1) hC 0 (dAt dd_X10_answerOf 0 rfl) rfl rfl rfl ?_
  refine x_getR (p' := 4) hC fk_RX10_71 rfl (dAt dd_X10_answerOf 1 rfl) rfl (fun r1 => ?_)
  refine x_aload_n (p' := 5) hC 1 (dAt dd_X10_answerOf 2 rfl) rfl rfl rfl ?_
  refine x_getR (p' := 8) hC fk_RX10_104 rfl (dAt dd_X10_answerOf 3 rfl) rfl (fun r2 => ?_)
  refine x_aload_n (p' := 9) hC 1 (dAt dd_X10_answerOf 4 rfl) rfl rfl rfl ?_
  refine x_getI (p' := 12) hC fk_RX10_101 rfl (dAt dd_X10_answerOf 5 rfl) rfl (fun v3 => ?_)
  refine x_callVV (As := [va_rf r2, .int v3]) (z := fun b => f_X5_work h b r2 v3) (p' := 15) hC (fun b => c_X5_work _ _ _ h b r2 v3) k_317 k_318 k_319 k_5 k_320 hd_X5_work ⟨by decide, by decide⟩ (ci := 5) rfl rfl (by decide) rfl (Nat.le_of_ble_eq_true rfl) rfl (dAt dd_X10_answerOf 6 rfl) rfl (fun u4 h5 => ?_)
  refine x_new (ci := 0) (p' := 18) hC in_RX0 rfl rfl (by decide) tk_RX0 df_RX0 k_374 k_375 k_15 (dAt dd_X10_answerOf 7 rfl) rfl (fun a6 h7 => ?_)
  refine x_dup (p' := 19) hC (dAt dd_X10_answerOf 8 rfl) (x_cat _) rfl ?_
  refine x_aload_n (p' := 20) hC 1 (dAt dd_X10_answerOf 9 rfl) rfl rfl rfl ?_
  refine x_getR (p' := 23) hC fk_RX10_104 rfl (dAt dd_X10_answerOf 10 rfl) rfl (fun r8 => ?_)
  refine x_aload_n (p' := 24) hC 1 (dAt dd_X10_answerOf 11 rfl) rfl rfl rfl ?_
  refine x_getI (p' := 27) hC fk_RX10_101 rfl (dAt dd_X10_answerOf 12 rfl) rfl (fun v9 => ?_)
  refine x_callSR (As := [va_rf r8, .int v9]) (p' := 30) hC (c_J7_copyOf_59c91 _ _ _ h7 r8 v9) k_376 k_377 k_10 k_378 hd_J7_copyOf_59c91 ⟨by decide, by decide⟩ rfl (Nat.le_of_ble_eq_true rfl) rfl (dAt dd_X10_answerOf 13 rfl) rfl (fun r10 h11 => ?_)
  refine x_aload_n (p' := 31) hC 0 (dAt dd_X10_answerOf 14 rfl) rfl rfl rfl ?_
  refine x_getR (p' := 34) hC fk_RX10_71 rfl (dAt dd_X10_answerOf 15 rfl) rfl (fun r12 => ?_)
  refine x_getR (p' := 37) hC fk_RX10_133 rfl (dAt dd_X10_answerOf 16 rfl) rfl (fun r13 => ?_)
  refine x_aload_n (p' := 38) hC 1 (dAt dd_X10_answerOf 17 rfl) rfl rfl rfl ?_
  refine x_getI (p' := 41) hC fk_RX10_101 rfl (dAt dd_X10_answerOf 18 rfl) rfl (fun v14 => ?_)
  refine x_callSR (As := [va_rf r13, .int v14]) (p' := 44) hC (c_J7_copyOf_59c91 _ _ _ h11 r13 v14) k_376 k_377 k_10 k_378 hd_J7_copyOf_59c91 ⟨by decide, by decide⟩ rfl (by cases r10 <;> exact Nat.le_of_ble_eq_true rfl) rfl (dAt dd_X10_answerOf 19 rfl) rfl (fun r15 h16 => ?_)
  refine x_callIV (As := [va_rf r10, va_rf r15]) (b := a6) (p' := 47) hC (c_X0_init _ _ _ h16 a6 r10 r15) k_390 k_15 k_388 k_389 rfl hd_X0_init ⟨by decide, by decide⟩ rfl (Nat.le_of_ble_eq_true rfl) rfl (dAt dd_X10_answerOf 20 rfl) rfl (fun u17 h18 => ?_)
  exact x_areturn hC (Or.inl ⟨_, rfl⟩) (dAt dd_X10_answerOf 21 rfl)
set_option maxHeartbeats 4000000 in
set_option maxRecDepth 100000 in
theorem c_X10_touch (l : Launch) (D : va_G) (cy : Nat → ClassId) (h : AH) (a0 : Nat) (p1 : Int32) : MX rvV l yX10_touch (Cond.code yX10_touch cX10_touch 2 none :: LW) 0 0 D cy h [va_rf (some a0), .int p1] (f_X10_touch h a0 p1) := by
  refine MX.of (lv := [(0, va_rf (some a0)), (1, .int p1)]) (by decide) (Nat.le_of_ble_eq_true rfl) rfl (fun C hC _ => ?_)
  unfold f_X10_touch
  refine x_aload_n (p' := 1) hC 0 (dAt dd_X10_touch 0 rfl) rfl rfl rfl ?_
  refine x_getR (p' := 4) hC fk_RX10_17 rfl (dAt dd_X10_touch 1 rfl) rfl (fun r1 => ?_)
  refine x_iload_n (p' := 5) hC 1 (dAt dd_X10_touch 2 rfl) rfl rfl rfl ?_
  refine x_aaload 17 5 (p' := 6) hC rfl (by decide) rfl (dAt dd_X10_touch 3 rfl) rfl (fun r2 => ?_)
  refine x_iconst (v := 0) (p' := 7) hC (dAt dd_X10_touch 4 rfl) (by decide) rfl ?_
  refine x_putZ (p' := 10) hC fk_RX10_318 tk_RX8 rfl rfl (Or.inl rfl) (dAt dd_X10_touch 5 rfl) rfl (fun h3 => ?_)
  refine x_aload_n (p' := 11) hC 0 (dAt dd_X10_touch 6 rfl) rfl rfl rfl ?_
  refine x_iconst (v := 0) (p' := 12) hC (dAt dd_X10_touch 7 rfl) (by decide) rfl ?_
  refine x_putZ (p' := 15) hC fk_RX10_42 tk_RX10 rfl rfl (Or.inl rfl) (dAt dd_X10_touch 8 rfl) rfl (fun h4 => ?_)
  exact x_return hC (dAt dd_X10_touch 9 rfl)
set_option maxHeartbeats 4000000 in
set_option maxRecDepth 100000 in
theorem c_X10_keep (l : Launch) (D : va_G) (cy : Nat → ClassId) (h : AH) (a0 : Nat) (p1 : Int32) (p2 : Int32) (p3 : Int32) : MX rvI l yX10_keep (Cond.code yX10_keep cX10_keep 6 (some .int) :: LW) 7 161 D cy h [va_rf (some a0), .int p1, .int p2, .int p3] (f_X10_keep h a0 p1 p2 p3) := by
  refine MX.of (lv := [(0, va_rf (some a0)), (1, .int p1), (2, .int p2), (3, .int p3)]) (by decide) (Nat.le_of_ble_eq_true rfl) rfl (fun C hC _ => ?_)
  unfold f_X10_keep
  refine x_iload_n (p' := 1) hC 1 (dAt dd_X10_keep 0 rfl) rfl rfl rfl ?_
  refine x_iload_n (p' := 2) hC 2 (dAt dd_X10_keep 1 rfl) rfl rfl rfl ?_
  refine x_callSI (As := [.int p1, .int p2]) (p' := 5) hC (c_X10_slotAt _ _ _ h p1 p2) k_367 k_368 k_1 k_369 hd_X10_slotAt ⟨by decide, by decide⟩ rfl (Nat.le_of_ble_eq_true rfl) rfl (dAt dd_X10_keep 2 rfl) rfl (fun v1 h2 => ?_)
  refine x_istore (lv' := [(4, .int v1), (0, va_rf (some a0)), (1, .int p1), (2, .int p2), (3, .int p3)]) (p' := 7) hC (dAt dd_X10_keep 3 rfl) (by decide) rfl rfl ?_
  refine x_iload (p' := 9) hC 0 (dAt dd_X10_keep 4 rfl) rfl rfl ?_
  refine x_if_lt (tgt := 19) (p' := 12) hC (dAt dd_X10_keep 5 rfl) (by decide) rfl ?_ ?_
  · refine x_ldc (v := (-1000001)) (p' := 21) hC (dAt dd_X10_keep 9 rfl) k_269 rfl ?_
    exact x_ireturn hC (dAt dd_X10_keep 10 rfl)
  · refine x_iload_n (p' := 13) hC 4 (dAt dd_X10_keep 6 rfl) rfl rfl rfl ?_
    refine x_callSI (As := [.int p3]) (p' := 16) hC (c_X10_isRow _ _ _ h2 p3) k_263 k_264 k_1 k_265 hd_X10_isRow ⟨by decide, by decide⟩ rfl (Nat.le_of_ble_eq_true rfl) rfl (dAt dd_X10_keep 7 rfl) rfl (fun v3 h4 => ?_)
    refine x_if_ne (tgt := 22) (p' := 19) hC (dAt dd_X10_keep 8 rfl) (by decide) rfl ?_ ?_
    · refine x_aload_n (p' := 23) hC 1 (dAt dd_X10_keep 11 rfl) rfl rfl rfl ?_
      refine x_getR (p' := 26) hC fk_RX10_11 rfl (dAt dd_X10_keep 12 rfl) rfl (fun r5 => ?_)
      refine x_iload_n (p' := 27) hC 4 (dAt dd_X10_keep 13 rfl) rfl rfl rfl ?_
      refine x_aaload 16 4 (p' := 28) hC rfl (by decide) rfl (dAt dd_X10_keep 14 rfl) rfl (fun r6 => ?_)
      refine x_astore (lv' := [(5, va_rf r6), (4, .int v1), (0, va_rf (some a0)), (1, .int p1), (2, .int p2), (3, .int p3)]) (p' := 30) hC (dAt dd_X10_keep 15 rfl) (by decide) rfl rfl ?_
      refine x_aload (p' := 32) hC 0 (dAt dd_X10_keep 16 rfl) rfl rfl ?_
      refine x_getI (p' := 35) hC fk_RX10_98 rfl (dAt dd_X10_keep 17 rfl) rfl (fun v7 => ?_)
      refine x_if_eq (tgt := 44) (p' := 38) hC (dAt dd_X10_keep 18 rfl) (by decide) rfl ?_ ?_
      · refine x_aload (p' := 46) hC 0 (dAt dd_X10_keep 23 rfl) rfl rfl ?_
        refine x_getR (p' := 49) hC fk_RX10_104 rfl (dAt dd_X10_keep 24 rfl) rfl (fun r8 => ?_)
        refine x_aload (p' := 51) hC 0 (dAt dd_X10_keep 25 rfl) rfl rfl ?_
        refine x_getI (p' := 54) hC fk_RX10_101 rfl (dAt dd_X10_keep 26 rfl) rfl (fun v9 => ?_)
        refine x_callSI (As := [va_rf r8, .int v9]) (p' := 57) hC (c_X9_areAnswer _ _ _ h4 r8 v9) k_313 k_314 k_12 k_315 hd_X9_areAnswer ⟨by decide, by decide⟩ rfl (Nat.le_of_ble_eq_true rfl) rfl (dAt dd_X10_keep 27 rfl) rfl (fun v10 h11 => ?_)
        refine x_if_ne (tgt := 63) (p' := 60) hC (dAt dd_X10_keep 28 rfl) (by decide) rfl ?_ ?_
        · refine x_aload_n (p' := 64) hC 2 (dAt dd_X10_keep 31 rfl) rfl rfl rfl ?_
          refine x_getR (p' := 67) hC fk_RX10_17 rfl (dAt dd_X10_keep 32 rfl) rfl (fun r12 => ?_)
          refine x_iload (p' := 69) hC 1 (dAt dd_X10_keep 33 rfl) rfl rfl ?_
          refine x_aaload 17 5 (p' := 70) hC rfl (by decide) rfl (dAt dd_X10_keep 34 rfl) rfl (fun r13 => ?_)
          refine x_aload_n (p' := 71) hC 2 (dAt dd_X10_keep 35 rfl) rfl rfl rfl ?_
          refine x_aload (p' := 73) hC 0 (dAt dd_X10_keep 36 rfl) rfl rfl ?_
          refine x_callVR (As := [va_rf r6]) (z := fun b => f_X10_answerOf h11 b r6) (p' := 76) hC (fun b => c_X10_answerOf _ _ _ h11 b r6) k_370 k_372 (k_sl 8 rfl) k_1 k_373 hd_X10_answerOf ⟨by decide, by decide⟩ (ci := 9) rfl rfl (by decide) rfl (by cases r13 <;> exact Nat.le_of_ble_eq_true rfl) rfl (dAt dd_X10_keep 37 rfl) rfl (fun r14 h15 => ?_)
          refine x_putR (p' := 79) hC fk_RX10_145 tk_RX8 rfl (Or.inl ⟨_, rfl⟩) (Or.inl rfl) (dAt dd_X10_keep 38 rfl) rfl (fun h16 => ?_)
          refine x_aload_n (p' := 80) hC 2 (dAt dd_X10_keep 39 rfl) rfl rfl rfl ?_
          refine x_iload (p' := 82) hC 1 (dAt dd_X10_keep 40 rfl) rfl rfl ?_
          refine x_callVV (As := [.int v1]) (z := fun b => f_X10_touch h16 b v1) (p' := 85) hC (fun b => c_X10_touch _ _ _ h16 b v1) k_404 k_406 (k_sl 9 rfl) k_1 k_407 hd_X10_touch ⟨by decide, by decide⟩ (ci := 9) rfl rfl (by decide) rfl (Nat.le_of_ble_eq_true rfl) rfl (dAt dd_X10_keep 41 rfl) rfl (fun u17 h18 => ?_)
          refine x_aload_n (p' := 86) hC 2 (dAt dd_X10_keep 42 rfl) rfl rfl rfl ?_
          refine x_aload (p' := 88) hC 0 (dAt dd_X10_keep 43 rfl) rfl rfl ?_
          refine x_getI (p' := 91) hC fk_RX10_101 rfl (dAt dd_X10_keep 44 rfl) rfl (fun v19 => ?_)
          refine x_callVI (As := [.int v19]) (z := fun b => f_X10_fine h18 b v19) (p' := 94) hC (fun b => c_X10_fine _ _ _ h18 b v19) k_282 k_284 (k_sl 1 rfl) k_1 k_285 hd_X10_fine ⟨by decide, by decide⟩ (ci := 9) rfl rfl (by decide) rfl (Nat.le_of_ble_eq_true rfl) rfl (dAt dd_X10_keep 45 rfl) rfl (fun v20 h21 => ?_)
          exact x_ireturn hC (dAt dd_X10_keep 46 rfl)
        · refine x_ldc (v := (-1000002)) (p' := 62) hC (dAt dd_X10_keep 29 rfl) k_316 rfl ?_
          exact x_ireturn hC (dAt dd_X10_keep 30 rfl)
      · refine x_aload_n (p' := 39) hC 2 (dAt dd_X10_keep 19 rfl) rfl rfl rfl ?_
        refine x_iconst (v := 1) (p' := 40) hC (dAt dd_X10_keep 20 rfl) (by decide) rfl ?_
        refine x_callVI (As := [.int 1]) (z := fun b => f_X10_found h4 b 1) (p' := 43) hC (fun b => c_X10_found _ _ _ h4 b 1) k_270 k_272 (k_sl 0 rfl) k_1 k_273 hd_X10_found ⟨by decide, by decide⟩ (ci := 9) rfl rfl (by decide) rfl (Nat.le_of_ble_eq_true rfl) rfl (dAt dd_X10_keep 21 rfl) rfl (fun v22 h23 => ?_)
        exact x_ireturn hC (dAt dd_X10_keep 22 rfl)
    · refine x_ldc (v := (-1000001)) (p' := 21) hC (dAt dd_X10_keep 9 rfl) k_269 rfl ?_
      exact x_ireturn hC (dAt dd_X10_keep 10 rfl)
set_option maxHeartbeats 4000000 in
set_option maxRecDepth 100000 in
theorem c_X10_give (l : Launch) (D : va_G) (cy : Nat → ClassId) (h : AH) (a0 : Nat) (p1 : Int32) (p2 : Int32) (p3 : Int32) : MX rvI l yX10_give (Cond.code yX10_give cX10_give 6 (some .int) :: LW) 7 161 D cy h [va_rf (some a0), .int p1, .int p2, .int p3] (f_X10_give h a0 p1 p2 p3) := by
  refine MX.of (lv := [(0, va_rf (some a0)), (1, .int p1), (2, .int p2), (3, .int p3)]) (by decide) (Nat.le_of_ble_eq_true rfl) rfl (fun C hC _ => ?_)
  unfold f_X10_give
  refine x_iload_n (p' := 1) hC 1 (dAt dd_X10_give 0 rfl) rfl rfl rfl ?_
  refine x_iload_n (p' := 2) hC 2 (dAt dd_X10_give 1 rfl) rfl rfl rfl ?_
  refine x_callSI (As := [.int p1, .int p2]) (p' := 5) hC (c_X10_slotAt _ _ _ h p1 p2) k_367 k_368 k_1 k_369 hd_X10_slotAt ⟨by decide, by decide⟩ rfl (Nat.le_of_ble_eq_true rfl) rfl (dAt dd_X10_give 2 rfl) rfl (fun v1 h2 => ?_)
  refine x_istore (lv' := [(4, .int v1), (0, va_rf (some a0)), (1, .int p1), (2, .int p2), (3, .int p3)]) (p' := 7) hC (dAt dd_X10_give 3 rfl) (by decide) rfl rfl ?_
  refine x_iload (p' := 9) hC 0 (dAt dd_X10_give 4 rfl) rfl rfl ?_
  refine x_if_lt (tgt := 19) (p' := 12) hC (dAt dd_X10_give 5 rfl) (by decide) rfl ?_ ?_
  · refine x_ldc (v := (-1000001)) (p' := 21) hC (dAt dd_X10_give 9 rfl) k_269 rfl ?_
    exact x_ireturn hC (dAt dd_X10_give 10 rfl)
  · refine x_iload_n (p' := 13) hC 4 (dAt dd_X10_give 6 rfl) rfl rfl rfl ?_
    refine x_callSI (As := [.int p3]) (p' := 16) hC (c_X10_isRow _ _ _ h2 p3) k_263 k_264 k_1 k_265 hd_X10_isRow ⟨by decide, by decide⟩ rfl (Nat.le_of_ble_eq_true rfl) rfl (dAt dd_X10_give 7 rfl) rfl (fun v3 h4 => ?_)
    refine x_if_ne (tgt := 22) (p' := 19) hC (dAt dd_X10_give 8 rfl) (by decide) rfl ?_ ?_
    · refine x_aload_n (p' := 23) hC 1 (dAt dd_X10_give 11 rfl) rfl rfl rfl ?_
      refine x_getR (p' := 26) hC fk_RX10_11 rfl (dAt dd_X10_give 12 rfl) rfl (fun r5 => ?_)
      refine x_iload_n (p' := 27) hC 4 (dAt dd_X10_give 13 rfl) rfl rfl rfl ?_
      refine x_aaload 16 4 (p' := 28) hC rfl (by decide) rfl (dAt dd_X10_give 14 rfl) rfl (fun r6 => ?_)
      refine x_astore (lv' := [(5, va_rf r6), (4, .int v1), (0, va_rf (some a0)), (1, .int p1), (2, .int p2), (3, .int p3)]) (p' := 30) hC (dAt dd_X10_give 15 rfl) (by decide) rfl rfl ?_
      refine x_aload (p' := 32) hC 0 (dAt dd_X10_give 16 rfl) rfl rfl ?_
      refine x_getI (p' := 35) hC fk_RX10_98 rfl (dAt dd_X10_give 17 rfl) rfl (fun v7 => ?_)
      refine x_if_eq (tgt := 44) (p' := 38) hC (dAt dd_X10_give 18 rfl) (by decide) rfl ?_ ?_
      · refine x_aload (p' := 46) hC 0 (dAt dd_X10_give 23 rfl) rfl rfl ?_
        refine x_getR (p' := 49) hC fk_RX10_104 rfl (dAt dd_X10_give 24 rfl) rfl (fun r8 => ?_)
        refine x_aload (p' := 51) hC 0 (dAt dd_X10_give 25 rfl) rfl rfl ?_
        refine x_getI (p' := 54) hC fk_RX10_101 rfl (dAt dd_X10_give 26 rfl) rfl (fun v9 => ?_)
        refine x_callSI (As := [va_rf r8, .int v9]) (p' := 57) hC (c_X9_areAnswer _ _ _ h4 r8 v9) k_313 k_314 k_12 k_315 hd_X9_areAnswer ⟨by decide, by decide⟩ rfl (Nat.le_of_ble_eq_true rfl) rfl (dAt dd_X10_give 27 rfl) rfl (fun v10 h11 => ?_)
        refine x_if_ne (tgt := 63) (p' := 60) hC (dAt dd_X10_give 28 rfl) (by decide) rfl ?_ ?_
        · refine x_aload_n (p' := 64) hC 2 (dAt dd_X10_give 31 rfl) rfl rfl rfl ?_
          refine x_getR (p' := 67) hC fk_RX10_17 rfl (dAt dd_X10_give 32 rfl) rfl (fun r12 => ?_)
          refine x_iload (p' := 69) hC 1 (dAt dd_X10_give 33 rfl) rfl rfl ?_
          refine x_aaload 17 5 (p' := 70) hC rfl (by decide) rfl (dAt dd_X10_give 34 rfl) rfl (fun r13 => ?_)
          refine x_aload_n (p' := 71) hC 2 (dAt dd_X10_give 35 rfl) rfl rfl rfl ?_
          refine x_aload (p' := 73) hC 0 (dAt dd_X10_give 36 rfl) rfl rfl ?_
          refine x_callVR (As := [va_rf r6]) (z := fun b => f_X10_answerOf h11 b r6) (p' := 76) hC (fun b => c_X10_answerOf _ _ _ h11 b r6) k_370 k_372 (k_sl 8 rfl) k_1 k_373 hd_X10_answerOf ⟨by decide, by decide⟩ (ci := 9) rfl rfl (by decide) rfl (by cases r13 <;> exact Nat.le_of_ble_eq_true rfl) rfl (dAt dd_X10_give 37 rfl) rfl (fun r14 h15 => ?_)
          refine x_putR (p' := 79) hC fk_RX10_152 tk_RX8 rfl (Or.inl ⟨_, rfl⟩) (Or.inl rfl) (dAt dd_X10_give 38 rfl) rfl (fun h16 => ?_)
          refine x_aload_n (p' := 80) hC 2 (dAt dd_X10_give 39 rfl) rfl rfl rfl ?_
          refine x_getR (p' := 83) hC fk_RX10_17 rfl (dAt dd_X10_give 40 rfl) rfl (fun r17 => ?_)
          refine x_iload (p' := 85) hC 1 (dAt dd_X10_give 41 rfl) rfl rfl ?_
          refine x_aaload 17 5 (p' := 86) hC rfl (by decide) rfl (dAt dd_X10_give 42 rfl) rfl (fun r18 => ?_)
          refine x_callVV (As := []) (z := fun b => f_X8_forgetLooks h16 b) (p' := 89) hC (fun b => c_X8_forgetLooks _ _ _ h16 b) k_412 k_413 k_414 k_7 k_415 hd_X8_forgetLooks ⟨by decide, by decide⟩ (ci := 8) rfl rfl (by decide) rfl (Nat.le_of_ble_eq_true rfl) rfl (dAt dd_X10_give 43 rfl) rfl (fun u19 h20 => ?_)
          refine x_aload_n (p' := 90) hC 2 (dAt dd_X10_give 44 rfl) rfl rfl rfl ?_
          refine x_iload (p' := 92) hC 1 (dAt dd_X10_give 45 rfl) rfl rfl ?_
          refine x_callVV (As := [.int v1]) (z := fun b => f_X10_touch h20 b v1) (p' := 95) hC (fun b => c_X10_touch _ _ _ h20 b v1) k_404 k_406 (k_sl 9 rfl) k_1 k_407 hd_X10_touch ⟨by decide, by decide⟩ (ci := 9) rfl rfl (by decide) rfl (Nat.le_of_ble_eq_true rfl) rfl (dAt dd_X10_give 46 rfl) rfl (fun u21 h22 => ?_)
          refine x_aload_n (p' := 96) hC 2 (dAt dd_X10_give 47 rfl) rfl rfl rfl ?_
          refine x_aload_n (p' := 97) hC 2 (dAt dd_X10_give 48 rfl) rfl rfl rfl ?_
          refine x_getR (p' := 100) hC fk_RX10_17 rfl (dAt dd_X10_give 49 rfl) rfl (fun r23 => ?_)
          refine x_iload (p' := 102) hC 1 (dAt dd_X10_give 50 rfl) rfl rfl ?_
          refine x_aaload 17 5 (p' := 103) hC rfl (by decide) rfl (dAt dd_X10_give 51 rfl) rfl (fun r24 => ?_)
          refine x_callVI (As := []) (z := fun b => f_X8_stateNow h22 b) (p' := 106) hC (fun b => c_X8_stateNow _ _ _ h22 b) k_416 k_417 k_418 k_7 k_419 hd_X8_stateNow ⟨by decide, by decide⟩ (ci := 8) rfl rfl (by decide) rfl (Nat.le_of_ble_eq_true rfl) rfl (dAt dd_X10_give 52 rfl) rfl (fun v25 h26 => ?_)
          refine x_callVI (As := [.int v25]) (z := fun b => f_X10_fine h26 b v25) (p' := 109) hC (fun b => c_X10_fine _ _ _ h26 b v25) k_282 k_284 (k_sl 1 rfl) k_1 k_285 hd_X10_fine ⟨by decide, by decide⟩ (ci := 9) rfl rfl (by decide) rfl (Nat.le_of_ble_eq_true rfl) rfl (dAt dd_X10_give 53 rfl) rfl (fun v27 h28 => ?_)
          exact x_ireturn hC (dAt dd_X10_give 54 rfl)
        · refine x_ldc (v := (-1000002)) (p' := 62) hC (dAt dd_X10_give 29 rfl) k_316 rfl ?_
          exact x_ireturn hC (dAt dd_X10_give 30 rfl)
      · refine x_aload_n (p' := 39) hC 2 (dAt dd_X10_give 19 rfl) rfl rfl rfl ?_
        refine x_iconst (v := 1) (p' := 40) hC (dAt dd_X10_give 20 rfl) (by decide) rfl ?_
        refine x_callVI (As := [.int 1]) (z := fun b => f_X10_found h4 b 1) (p' := 43) hC (fun b => c_X10_found _ _ _ h4 b 1) k_270 k_272 (k_sl 0 rfl) k_1 k_273 hd_X10_found ⟨by decide, by decide⟩ (ci := 9) rfl rfl (by decide) rfl (Nat.le_of_ble_eq_true rfl) rfl (dAt dd_X10_give 21 rfl) rfl (fun v29 h30 => ?_)
        exact x_ireturn hC (dAt dd_X10_give 22 rfl)
    · refine x_ldc (v := (-1000001)) (p' := 21) hC (dAt dd_X10_give 9 rfl) k_269 rfl ?_
      exact x_ireturn hC (dAt dd_X10_give 10 rfl)
set_option maxHeartbeats 4000000 in
set_option maxRecDepth 100000 in
theorem t_X10_begin_L4 {C : CT} (hC : OKC C yX10_begin cX10_begin 3 (some .int) 1 21)   : ∀ (n : Nat) (x0 : Nat) (x1 : Int32) (x2 : Int32) (h : AH), WX rvI C 4 [(0, va_rf (some x0)), (1, .int x1), (2, .int x2)] [] h (f_X10_begin_L4 n x0 x1 x2 h) := by
  intro n
  induction n with
  | zero => intro _ _ _ _; exact x_none
  | succ n ih =>
    intro x0 x1 x2 h
    rw [f_X10_begin_L4]
    refine x_iload_n (p' := 5) hC 2 (dAt dd_X10_begin 4 rfl) rfl rfl rfl ?_
    refine x_bipush (v := 36) (p' := 7) hC (dAt dd_X10_begin 5 rfl) (by decide) rfl ?_
    refine x_icmp_ge (tgt := 55) (p' := 10) hC (dAt dd_X10_begin 6 rfl) (by decide) rfl ?_ ?_
    · refine x_iload_n (p' := 56) hC 1 (dAt dd_X10_begin 30 rfl) rfl rfl rfl ?_
      exact x_ireturn hC (dAt dd_X10_begin 31 rfl)
    · refine x_aload_n (p' := 11) hC 0 (dAt dd_X10_begin 7 rfl) rfl rfl rfl ?_
      refine x_getR (p' := 14) hC fk_RX10_17 rfl (dAt dd_X10_begin 8 rfl) rfl (fun r1 => ?_)
      refine x_iload_n (p' := 15) hC 2 (dAt dd_X10_begin 9 rfl) rfl rfl rfl ?_
      refine x_aaload 17 5 (p' := 16) hC rfl (by decide) rfl (dAt dd_X10_begin 10 rfl) rfl (fun r2 => ?_)
      refine x_getR (p' := 19) hC fk_RX10_152 rfl (dAt dd_X10_begin 11 rfl) rfl (fun r3 => ?_)
      refine x_ifnull (tgt := 49) (p' := 22) hC (dAt dd_X10_begin 12 rfl) (by decide) rfl (fun _ => ?_) (fun _ _ => ?_)
      · refine x_iinc (w := (x2 + 1)) (lv' := [(2, .int (x2 + 1)), (0, va_rf (some x0)), (1, .int x1)]) (p' := 52) hC 2 (dAt dd_X10_begin 28 rfl) rfl rfl (by decide) rfl rfl ?_
        refine x_goto (tgt := 4) hC (dAt dd_X10_begin 29 rfl) (by decide) ?_
        refine x_sub [1, 2, 0] rfl ?_
        exact ih x0 x1 (x2 + 1) h
      · refine x_iinc (w := (x1 + 1)) (lv' := [(1, .int (x1 + 1)), (0, va_rf (some x0)), (2, .int x2)]) (p' := 25) hC 1 (dAt dd_X10_begin 13 rfl) rfl rfl (by decide) rfl rfl ?_
        refine x_aload_n (p' := 26) hC 1 (dAt dd_X10_begin 14 rfl) rfl rfl rfl ?_
        refine x_getR (p' := 29) hC fk_RX10_17 rfl (dAt dd_X10_begin 15 rfl) rfl (fun r4 => ?_)
        refine x_iload_n (p' := 30) hC 2 (dAt dd_X10_begin 16 rfl) rfl rfl rfl ?_
        refine x_aaload 17 5 (p' := 31) hC rfl (by decide) rfl (dAt dd_X10_begin 17 rfl) rfl (fun r5 => ?_)
        refine x_aconst_null (p' := 32) hC (dAt dd_X10_begin 18 rfl) rfl ?_
        refine x_putR (p' := 35) hC fk_RX10_152 tk_RX8 rfl (Or.inl ⟨_, rfl⟩) (Or.inl rfl) (dAt dd_X10_begin 19 rfl) rfl (fun h6 => ?_)
        refine x_aload_n (p' := 36) hC 1 (dAt dd_X10_begin 20 rfl) rfl rfl rfl ?_
        refine x_getR (p' := 39) hC fk_RX10_17 rfl (dAt dd_X10_begin 21 rfl) rfl (fun r7 => ?_)
        refine x_iload_n (p' := 40) hC 2 (dAt dd_X10_begin 22 rfl) rfl rfl rfl ?_
        refine x_aaload 17 5 (p' := 41) hC rfl (by decide) rfl (dAt dd_X10_begin 23 rfl) rfl (fun r8 => ?_)
        refine x_callVV (As := []) (z := fun b => f_X8_forgetLooks h6 b) (p' := 44) hC (fun b => c_X8_forgetLooks _ _ _ h6 b) k_412 k_413 k_414 k_7 k_415 hd_X8_forgetLooks ⟨by decide, by decide⟩ (ci := 8) rfl rfl (by decide) rfl (Nat.le_of_ble_eq_true rfl) rfl (dAt dd_X10_begin 24 rfl) rfl (fun u9 h10 => ?_)
        refine x_aload_n (p' := 45) hC 1 (dAt dd_X10_begin 25 rfl) rfl rfl rfl ?_
        refine x_iload_n (p' := 46) hC 2 (dAt dd_X10_begin 26 rfl) rfl rfl rfl ?_
        refine x_callVV (As := [.int x2]) (z := fun b => f_X10_touch h10 b x2) (p' := 49) hC (fun b => c_X10_touch _ _ _ h10 b x2) k_404 k_406 (k_sl 9 rfl) k_1 k_407 hd_X10_touch ⟨by decide, by decide⟩ (ci := 9) rfl rfl (by decide) rfl (Nat.le_of_ble_eq_true rfl) rfl (dAt dd_X10_begin 27 rfl) rfl (fun u11 h12 => ?_)
        refine x_iinc (w := (x2 + 1)) (lv' := [(2, .int (x2 + 1)), (1, .int (x1 + 1)), (0, va_rf (some x0))]) (p' := 52) hC 2 (dAt dd_X10_begin 28 rfl) rfl rfl (by decide) rfl rfl ?_
        refine x_goto (tgt := 4) hC (dAt dd_X10_begin 29 rfl) (by decide) ?_
        refine x_sub [2, 1, 0] rfl ?_
        exact ih x0 (x1 + 1) (x2 + 1) h12
set_option maxHeartbeats 4000000 in
set_option maxRecDepth 100000 in
theorem c_X10_begin (l : Launch) (D : va_G) (cy : Nat → ClassId) (h : AH) (a0 : Nat) : MX rvI l yX10_begin (Cond.code yX10_begin cX10_begin 3 (some .int) :: LW) 1 21 D cy h [va_rf (some a0)] (f_X10_begin h a0) := by
  refine MX.of (lv := [(0, va_rf (some a0))]) (by decide) (Nat.le_of_ble_eq_true rfl) rfl (fun C hC _ => ?_)
  unfold f_X10_begin
  refine x_iconst (v := 0) (p' := 1) hC (dAt dd_X10_begin 0 rfl) (by decide) rfl ?_
  refine x_istore_n (j := 1) (lv' := [(1, .int 0), (0, va_rf (some a0))]) (p' := 2) hC (dAt dd_X10_begin 1 rfl) rfl (by decide) rfl rfl ?_
  refine x_iconst (v := 0) (p' := 3) hC (dAt dd_X10_begin 2 rfl) (by decide) rfl ?_
  refine x_istore_n (j := 2) (lv' := [(2, .int 0), (1, .int 0), (0, va_rf (some a0))]) (p' := 4) hC (dAt dd_X10_begin 3 rfl) rfl (by decide) rfl rfl ?_
  refine x_sub [2, 1, 0] rfl ?_
  exact t_X10_begin_L4 hC FU a0 0 0 h
set_option maxHeartbeats 4000000 in
set_option maxRecDepth 100000 in
theorem c_X10_forget (l : Launch) (D : va_G) (cy : Nat → ClassId) (h : AH) (a0 : Nat) (p1 : Int32) (p2 : Int32) : MX rvI l yX10_forget (Cond.code yX10_forget cX10_forget 4 (some .int) :: LW) 2 42 D cy h [va_rf (some a0), .int p1, .int p2] (f_X10_forget h a0 p1 p2) := by
  refine MX.of (lv := [(0, va_rf (some a0)), (1, .int p1), (2, .int p2)]) (by decide) (Nat.le_of_ble_eq_true rfl) rfl (fun C hC _ => ?_)
  unfold f_X10_forget
  refine x_iload_n (p' := 1) hC 1 (dAt dd_X10_forget 0 rfl) rfl rfl rfl ?_
  refine x_iload_n (p' := 2) hC 2 (dAt dd_X10_forget 1 rfl) rfl rfl rfl ?_
  refine x_callSI (As := [.int p1, .int p2]) (p' := 5) hC (c_X10_slotAt _ _ _ h p1 p2) k_367 k_368 k_1 k_369 hd_X10_slotAt ⟨by decide, by decide⟩ rfl (Nat.le_of_ble_eq_true rfl) rfl (dAt dd_X10_forget 2 rfl) rfl (fun v1 h2 => ?_)
  refine x_istore_n (j := 3) (lv' := [(3, .int v1), (0, va_rf (some a0)), (1, .int p1), (2, .int p2)]) (p' := 6) hC (dAt dd_X10_forget 3 rfl) rfl (by decide) rfl rfl ?_
  refine x_iload_n (p' := 7) hC 0 (dAt dd_X10_forget 4 rfl) rfl rfl rfl ?_
  refine x_if_ge (tgt := 13) (p' := 10) hC (dAt dd_X10_forget 5 rfl) (by decide) rfl ?_ ?_
  · refine x_aload_n (p' := 14) hC 1 (dAt dd_X10_forget 8 rfl) rfl rfl rfl ?_
    refine x_getR (p' := 17) hC fk_RX10_17 rfl (dAt dd_X10_forget 9 rfl) rfl (fun r3 => ?_)
    refine x_iload_n (p' := 18) hC 0 (dAt dd_X10_forget 10 rfl) rfl rfl rfl ?_
    refine x_aaload 17 5 (p' := 19) hC rfl (by decide) rfl (dAt dd_X10_forget 11 rfl) rfl (fun r4 => ?_)
    refine x_getR (p' := 22) hC fk_RX10_145 rfl (dAt dd_X10_forget 12 rfl) rfl (fun r5 => ?_)
    refine x_ifnonnull (tgt := 27) (p' := 25) hC (dAt dd_X10_forget 13 rfl) (by decide) rfl (fun _ _ => ?_) (fun _ => ?_)
    · refine x_aload_n (p' := 28) hC 1 (dAt dd_X10_forget 16 rfl) rfl rfl rfl ?_
      refine x_getR (p' := 31) hC fk_RX10_17 rfl (dAt dd_X10_forget 17 rfl) rfl (fun r6 => ?_)
      refine x_iload_n (p' := 32) hC 0 (dAt dd_X10_forget 18 rfl) rfl rfl rfl ?_
      refine x_aaload 17 5 (p' := 33) hC rfl (by decide) rfl (dAt dd_X10_forget 19 rfl) rfl (fun r7 => ?_)
      refine x_aconst_null (p' := 34) hC (dAt dd_X10_forget 20 rfl) rfl ?_
      refine x_putR (p' := 37) hC fk_RX10_145 tk_RX8 rfl (Or.inl ⟨_, rfl⟩) (Or.inl rfl) (dAt dd_X10_forget 21 rfl) rfl (fun h8 => ?_)
      refine x_aload_n (p' := 38) hC 1 (dAt dd_X10_forget 22 rfl) rfl rfl rfl ?_
      refine x_iload_n (p' := 39) hC 0 (dAt dd_X10_forget 23 rfl) rfl rfl rfl ?_
      refine x_callVV (As := [.int v1]) (z := fun b => f_X10_touch h8 b v1) (p' := 42) hC (fun b => c_X10_touch _ _ _ h8 b v1) k_404 k_406 (k_sl 9 rfl) k_1 k_407 hd_X10_touch ⟨by decide, by decide⟩ (ci := 9) rfl rfl (by decide) rfl (Nat.le_of_ble_eq_true rfl) rfl (dAt dd_X10_forget 24 rfl) rfl (fun u9 h10 => ?_)
      refine x_iconst (v := 1) (p' := 43) hC (dAt dd_X10_forget 25 rfl) (by decide) rfl ?_
      exact x_ireturn hC (dAt dd_X10_forget 26 rfl)
    · refine x_iconst (v := 0) (p' := 26) hC (dAt dd_X10_forget 14 rfl) (by decide) rfl ?_
      exact x_ireturn hC (dAt dd_X10_forget 15 rfl)
  · refine x_ldc (v := (-1000001)) (p' := 12) hC (dAt dd_X10_forget 6 rfl) k_269 rfl ?_
    exact x_ireturn hC (dAt dd_X10_forget 7 rfl)
set_option maxHeartbeats 4000000 in
set_option maxRecDepth 100000 in
theorem c_X10_state (l : Launch) (D : va_G) (cy : Nat → ClassId) (h : AH) (a0 : Nat) (p1 : Int32) (p2 : Int32) : MX rvI l yX10_state (Cond.code yX10_state cX10_state 4 (some .int) :: LW) 3 66 D cy h [va_rf (some a0), .int p1, .int p2] (f_X10_state h a0 p1 p2) := by
  refine MX.of (lv := [(0, va_rf (some a0)), (1, .int p1), (2, .int p2)]) (by decide) (Nat.le_of_ble_eq_true rfl) rfl (fun C hC _ => ?_)
  unfold f_X10_state
  refine x_iload_n (p' := 1) hC 1 (dAt dd_X10_state 0 rfl) rfl rfl rfl ?_
  refine x_iload_n (p' := 2) hC 2 (dAt dd_X10_state 1 rfl) rfl rfl rfl ?_
  refine x_callSI (As := [.int p1, .int p2]) (p' := 5) hC (c_X10_slotAt _ _ _ h p1 p2) k_367 k_368 k_1 k_369 hd_X10_slotAt ⟨by decide, by decide⟩ rfl (Nat.le_of_ble_eq_true rfl) rfl (dAt dd_X10_state 2 rfl) rfl (fun v1 h2 => ?_)
  refine x_istore_n (j := 3) (lv' := [(3, .int v1), (0, va_rf (some a0)), (1, .int p1), (2, .int p2)]) (p' := 6) hC (dAt dd_X10_state 3 rfl) rfl (by decide) rfl rfl ?_
  refine x_iload_n (p' := 7) hC 0 (dAt dd_X10_state 4 rfl) rfl rfl rfl ?_
  refine x_if_ge (tgt := 15) (p' := 10) hC (dAt dd_X10_state 5 rfl) (by decide) rfl ?_ ?_
  · refine x_aload_n (p' := 16) hC 1 (dAt dd_X10_state 8 rfl) rfl rfl rfl ?_
    refine x_getR (p' := 19) hC fk_RX10_17 rfl (dAt dd_X10_state 9 rfl) rfl (fun r3 => ?_)
    refine x_iload_n (p' := 20) hC 0 (dAt dd_X10_state 10 rfl) rfl rfl rfl ?_
    refine x_aaload 17 5 (p' := 21) hC rfl (by decide) rfl (dAt dd_X10_state 11 rfl) rfl (fun r4 => ?_)
    refine x_callVI (As := []) (z := fun b => f_X8_stateNow h2 b) (p' := 24) hC (fun b => c_X8_stateNow _ _ _ h2 b) k_416 k_417 k_418 k_7 k_419 hd_X8_stateNow ⟨by decide, by decide⟩ (ci := 8) rfl rfl (by decide) rfl (Nat.le_of_ble_eq_true rfl) rfl (dAt dd_X10_state 12 rfl) rfl (fun v5 h6 => ?_)
    exact x_ireturn hC (dAt dd_X10_state 13 rfl)
  · refine x_ldc (v := (-1000001)) (p' := 12) hC (dAt dd_X10_state 6 rfl) k_269 rfl ?_
    refine x_goto (tgt := 24) hC (dAt dd_X10_state 7 rfl) (by decide) ?_
    exact x_ireturn hC (dAt dd_X10_state 13 rfl)
set_option maxHeartbeats 4000000 in
set_option maxRecDepth 100000 in
theorem t_X10_states_L16 {C : CT} (hC : OKC C yX10_states cX10_states 4 (some .int) 3 66)   : ∀ (n : Nat) (x0 : Nat) (x1 : Int32) (x2 : Int32) (x3 : Int32) (h : AH), WX rvI C 16 [(0, va_rf (some x0)), (1, .int x1), (2, .int x2), (3, .int x3)] [] h (f_X10_states_L16 n x0 x1 x2 x3 h) := by
  intro n
  induction n with
  | zero => intro _ _ _ _ _; exact x_none
  | succ n ih =>
    intro x0 x1 x2 x3 h
    rw [f_X10_states_L16]
    refine x_iload_n (p' := 17) hC 3 (dAt dd_X10_states 11 rfl) rfl rfl rfl ?_
    refine x_bipush (v := 36) (p' := 19) hC (dAt dd_X10_states 12 rfl) (by decide) rfl ?_
    refine x_icmp_ge (tgt := 44) (p' := 22) hC (dAt dd_X10_states 13 rfl) (by decide) rfl ?_ ?_
    · refine x_iload_n (p' := 45) hC 2 (dAt dd_X10_states 24 rfl) rfl rfl rfl ?_
      exact x_ireturn hC (dAt dd_X10_states 25 rfl)
    · refine x_aload_n (p' := 23) hC 0 (dAt dd_X10_states 14 rfl) rfl rfl rfl ?_
      refine x_getR (p' := 26) hC fk_RX10_17 rfl (dAt dd_X10_states 15 rfl) rfl (fun r1 => ?_)
      refine x_iload_n (p' := 27) hC 3 (dAt dd_X10_states 16 rfl) rfl rfl rfl ?_
      refine x_aaload 17 5 (p' := 28) hC rfl (by decide) rfl (dAt dd_X10_states 17 rfl) rfl (fun r2 => ?_)
      refine x_callVI (As := []) (z := fun b => f_X8_stateNow h b) (p' := 31) hC (fun b => c_X8_stateNow _ _ _ h b) k_416 k_417 k_418 k_7 k_419 hd_X8_stateNow ⟨by decide, by decide⟩ (ci := 8) rfl rfl (by decide) rfl (Nat.le_of_ble_eq_true rfl) rfl (dAt dd_X10_states 18 rfl) rfl (fun v3 h4 => ?_)
      refine x_iload_n (p' := 32) hC 1 (dAt dd_X10_states 19 rfl) rfl rfl rfl ?_
      refine x_icmp_ne (tgt := 38) (p' := 35) hC (dAt dd_X10_states 20 rfl) (by decide) rfl ?_ ?_
      · refine x_iinc (w := (x3 + 1)) (lv' := [(3, .int (x3 + 1)), (0, va_rf (some x0)), (1, .int x1), (2, .int x2)]) (p' := 41) hC 3 (dAt dd_X10_states 22 rfl) rfl rfl (by decide) rfl rfl ?_
        refine x_goto (tgt := 16) hC (dAt dd_X10_states 23 rfl) (by decide) ?_
        refine x_sub [1, 2, 3, 0] rfl ?_
        exact ih x0 x1 x2 (x3 + 1) h4
      · refine x_iinc (w := (x2 + 1)) (lv' := [(2, .int (x2 + 1)), (0, va_rf (some x0)), (1, .int x1), (3, .int x3)]) (p' := 38) hC 2 (dAt dd_X10_states 21 rfl) rfl rfl (by decide) rfl rfl ?_
        refine x_iinc (w := (x3 + 1)) (lv' := [(3, .int (x3 + 1)), (2, .int (x2 + 1)), (0, va_rf (some x0)), (1, .int x1)]) (p' := 41) hC 3 (dAt dd_X10_states 22 rfl) rfl rfl (by decide) rfl rfl ?_
        refine x_goto (tgt := 16) hC (dAt dd_X10_states 23 rfl) (by decide) ?_
        refine x_sub [2, 3, 1, 0] rfl ?_
        exact ih x0 x1 (x2 + 1) (x3 + 1) h4
set_option maxHeartbeats 4000000 in
set_option maxRecDepth 100000 in
theorem c_X10_states (l : Launch) (D : va_G) (cy : Nat → ClassId) (h : AH) (a0 : Nat) (p1 : Int32) : MX rvI l yX10_states (Cond.code yX10_states cX10_states 4 (some .int) :: LW) 3 66 D cy h [va_rf (some a0), .int p1] (f_X10_states h a0 p1) := by
  refine MX.of (lv := [(0, va_rf (some a0)), (1, .int p1)]) (by decide) (Nat.le_of_ble_eq_true rfl) rfl (fun C hC _ => ?_)
  unfold f_X10_states
  refine x_iload_n (p' := 1) hC 1 (dAt dd_X10_states 0 rfl) rfl rfl rfl ?_
  refine x_if_lt (tgt := 9) (p' := 4) hC (dAt dd_X10_states 1 rfl) (by decide) rfl ?_ ?_
  · refine x_ldc (v := (-1000001)) (p' := 11) hC (dAt dd_X10_states 5 rfl) k_269 rfl ?_
    exact x_ireturn hC (dAt dd_X10_states 6 rfl)
  · refine x_iload_n (p' := 5) hC 1 (dAt dd_X10_states 2 rfl) rfl rfl rfl ?_
    refine x_iconst (v := 4) (p' := 6) hC (dAt dd_X10_states 3 rfl) (by decide) rfl ?_
    refine x_icmp_le (tgt := 12) (p' := 9) hC (dAt dd_X10_states 4 rfl) (by decide) rfl ?_ ?_
    · refine x_iconst (v := 0) (p' := 13) hC (dAt dd_X10_states 7 rfl) (by decide) rfl ?_
      refine x_istore_n (j := 2) (lv' := [(2, .int 0), (0, va_rf (some a0)), (1, .int p1)]) (p' := 14) hC (dAt dd_X10_states 8 rfl) rfl (by decide) rfl rfl ?_
      refine x_iconst (v := 0) (p' := 15) hC (dAt dd_X10_states 9 rfl) (by decide) rfl ?_
      refine x_istore_n (j := 3) (lv' := [(3, .int 0), (2, .int 0), (0, va_rf (some a0)), (1, .int p1)]) (p' := 16) hC (dAt dd_X10_states 10 rfl) rfl (by decide) rfl rfl ?_
      refine x_sub [2, 3, 1, 0] rfl ?_
      exact t_X10_states_L16 hC FU a0 p1 0 0 h
    · refine x_ldc (v := (-1000001)) (p' := 11) hC (dAt dd_X10_states 5 rfl) k_269 rfl ?_
      exact x_ireturn hC (dAt dd_X10_states 6 rfl)
set_option maxHeartbeats 4000000 in
set_option maxRecDepth 100000 in
theorem t_X10_token_J80 {C : CT} (hC : OKC C yX10_token cX10_token 8 (some .int) 2 42)   : ∀ (x4 : Int32) (s0 : Option Nat) (h : AH), WX rvI C 80 [(4, .int x4)] [va_rf s0] h (f_X10_token_J80 x4 s0 h) := by
  intro x4 s0 h
  unfold f_X10_token_J80
  refine x_astore (lv' := [(7, va_rf s0), (4, .int x4)]) (p' := 82) hC (dAt dd_X10_token 40 rfl) (by decide) rfl rfl ?_
  refine x_iload (p' := 84) hC 1 (dAt dd_X10_token 41 rfl) rfl rfl ?_
  refine x_aload (p' := 86) hC 0 (dAt dd_X10_token 42 rfl) rfl rfl ?_
  refine x_arraylength 12 0 (p' := 87) hC rfl (by decide) (dAt dd_X10_token 43 rfl) rfl (fun v9 => ?_)
  refine x_callSI (As := [.int x4, .int v9]) (p' := 90) hC (c_X10_isBelow _ _ _ h x4 v9) k_266 k_267 k_1 k_268 hd_X10_isBelow ⟨by decide, by decide⟩ rfl (Nat.le_of_ble_eq_true rfl) rfl (dAt dd_X10_token 44 rfl) rfl (fun v10 h11 => ?_)
  refine x_if_eq (tgt := 101) (p' := 93) hC (dAt dd_X10_token 45 rfl) (by decide) rfl ?_ ?_
  · refine x_ldc (v := (-1000000)) (p' := 103) hC (dAt dd_X10_token 50 rfl) k_362 rfl ?_
    exact x_ireturn hC (dAt dd_X10_token 51 rfl)
  · refine x_aload (p' := 95) hC 0 (dAt dd_X10_token 46 rfl) rfl rfl ?_
    refine x_iload (p' := 97) hC 1 (dAt dd_X10_token 47 rfl) rfl rfl ?_
    refine x_iaload (p' := 98) hC (dAt dd_X10_token 48 rfl) rfl (fun v12 => ?_)
    refine x_goto (tgt := 103) hC (dAt dd_X10_token 49 rfl) (by decide) ?_
    exact x_ireturn hC (dAt dd_X10_token 51 rfl)
set_option maxHeartbeats 4000000 in
set_option maxRecDepth 100000 in
theorem t_X10_token_J51 {C : CT} (hC : OKC C yX10_token cX10_token 8 (some .int) 2 42)   : ∀ (x3 : Int32) (x4 : Int32) (s0 : Option Nat) (h : AH), WX rvI C 51 [(3, .int x3), (4, .int x4)] [va_rf s0] h (f_X10_token_J51 x3 x4 s0 h) := by
  intro x3 x4 s0 h
  unfold f_X10_token_J51
  refine x_astore (lv' := [(6, va_rf s0), (3, .int x3), (4, .int x4)]) (p' := 53) hC (dAt dd_X10_token 26 rfl) (by decide) rfl rfl ?_
  refine x_aload (p' := 55) hC 0 (dAt dd_X10_token 27 rfl) rfl rfl ?_
  refine x_ifnonnull (tgt := 61) (p' := 58) hC (dAt dd_X10_token 28 rfl) (by decide) rfl (fun _ _ => ?_) (fun _ => ?_)
  · refine x_iload_n (p' := 62) hC 1 (dAt dd_X10_token 31 rfl) rfl rfl rfl ?_
    refine x_iconst (v := 2) (p' := 63) hC (dAt dd_X10_token 32 rfl) (by decide) rfl ?_
    refine x_irem (p' := 64) hC (dAt dd_X10_token 33 rfl) rfl ?_
    refine x_if_ne (tgt := 75) (p' := 67) hC (dAt dd_X10_token 34 rfl) (by decide) rfl ?_ ?_
    · refine x_aload (p' := 77) hC 0 (dAt dd_X10_token 38 rfl) rfl rfl ?_
      refine x_getR (p' := 80) hC fk_RX10_167 rfl (dAt dd_X10_token 39 rfl) rfl (fun r8 => ?_)
      refine x_sub [2] rfl ?_
      exact t_X10_token_J80 hC x4 r8 h
    · refine x_aload (p' := 69) hC 0 (dAt dd_X10_token 35 rfl) rfl rfl ?_
      refine x_getR (p' := 72) hC fk_RX10_162 rfl (dAt dd_X10_token 36 rfl) rfl (fun r13 => ?_)
      refine x_goto (tgt := 80) hC (dAt dd_X10_token 37 rfl) (by decide) ?_
      refine x_sub [2] rfl ?_
      exact t_X10_token_J80 hC x4 r13 h
  · refine x_ldc (v := (-1000002)) (p' := 60) hC (dAt dd_X10_token 29 rfl) k_316 rfl ?_
    exact x_ireturn hC (dAt dd_X10_token 30 rfl)
set_option maxHeartbeats 4000000 in
set_option maxRecDepth 100000 in
theorem c_X10_token (l : Launch) (D : va_G) (cy : Nat → ClassId) (h : AH) (a0 : Nat) (p1 : Int32) (p2 : Int32) (p3 : Int32) (p4 : Int32) : MX rvI l yX10_token (Cond.code yX10_token cX10_token 8 (some .int) :: LW) 2 42 D cy h [va_rf (some a0), .int p1, .int p2, .int p3, .int p4] (f_X10_token h a0 p1 p2 p3 p4) := by
  refine MX.of (lv := [(0, va_rf (some a0)), (1, .int p1), (2, .int p2), (3, .int p3), (4, .int p4)]) (by decide) (Nat.le_of_ble_eq_true rfl) rfl (fun C hC _ => ?_)
  unfold f_X10_token
  refine x_iload_n (p' := 1) hC 1 (dAt dd_X10_token 0 rfl) rfl rfl rfl ?_
  refine x_iload_n (p' := 2) hC 2 (dAt dd_X10_token 1 rfl) rfl rfl rfl ?_
  refine x_callSI (As := [.int p1, .int p2]) (p' := 5) hC (c_X10_slotAt _ _ _ h p1 p2) k_367 k_368 k_1 k_369 hd_X10_slotAt ⟨by decide, by decide⟩ rfl (Nat.le_of_ble_eq_true rfl) rfl (dAt dd_X10_token 2 rfl) rfl (fun v1 h2 => ?_)
  refine x_istore (lv' := [(5, .int v1), (0, va_rf (some a0)), (1, .int p1), (2, .int p2), (3, .int p3), (4, .int p4)]) (p' := 7) hC (dAt dd_X10_token 3 rfl) (by decide) rfl rfl ?_
  refine x_iload (p' := 9) hC 0 (dAt dd_X10_token 4 rfl) rfl rfl ?_
  refine x_if_lt (tgt := 20) (p' := 12) hC (dAt dd_X10_token 5 rfl) (by decide) rfl ?_ ?_
  · refine x_ldc (v := (-1000001)) (p' := 22) hC (dAt dd_X10_token 10 rfl) k_269 rfl ?_
    exact x_ireturn hC (dAt dd_X10_token 11 rfl)
  · refine x_iload_n (p' := 13) hC 4 (dAt dd_X10_token 6 rfl) rfl rfl rfl ?_
    refine x_iconst (v := 4) (p' := 14) hC (dAt dd_X10_token 7 rfl) (by decide) rfl ?_
    refine x_callSI (As := [.int p3, .int 4]) (p' := 17) hC (c_X10_isBelow _ _ _ h2 p3 4) k_266 k_267 k_1 k_268 hd_X10_isBelow ⟨by decide, by decide⟩ rfl (Nat.le_of_ble_eq_true rfl) rfl (dAt dd_X10_token 8 rfl) rfl (fun v3 h4 => ?_)
    refine x_if_ne (tgt := 23) (p' := 20) hC (dAt dd_X10_token 9 rfl) (by decide) rfl ?_ ?_
    · refine x_iload_n (p' := 24) hC 4 (dAt dd_X10_token 12 rfl) rfl rfl rfl ?_
      refine x_iconst (v := 2) (p' := 25) hC (dAt dd_X10_token 13 rfl) (by decide) rfl ?_
      refine x_icmp_ge (tgt := 41) (p' := 28) hC (dAt dd_X10_token 14 rfl) (by decide) rfl ?_ ?_
      · refine x_aload_n (p' := 42) hC 1 (dAt dd_X10_token 21 rfl) rfl rfl rfl ?_
        refine x_getR (p' := 45) hC fk_RX10_17 rfl (dAt dd_X10_token 22 rfl) rfl (fun r5 => ?_)
        refine x_iload (p' := 47) hC 0 (dAt dd_X10_token 23 rfl) rfl rfl ?_
        refine x_aaload 17 5 (p' := 48) hC rfl (by decide) rfl (dAt dd_X10_token 24 rfl) rfl (fun r6 => ?_)
        refine x_getR (p' := 51) hC fk_RX10_152 rfl (dAt dd_X10_token 25 rfl) rfl (fun r7 => ?_)
        refine x_sub [4, 5] rfl ?_
        exact t_X10_token_J51 hC p3 p4 r7 h4
      · refine x_aload_n (p' := 29) hC 1 (dAt dd_X10_token 15 rfl) rfl rfl rfl ?_
        refine x_getR (p' := 32) hC fk_RX10_17 rfl (dAt dd_X10_token 16 rfl) rfl (fun r14 => ?_)
        refine x_iload (p' := 34) hC 0 (dAt dd_X10_token 17 rfl) rfl rfl ?_
        refine x_aaload 17 5 (p' := 35) hC rfl (by decide) rfl (dAt dd_X10_token 18 rfl) rfl (fun r15 => ?_)
        refine x_getR (p' := 38) hC fk_RX10_145 rfl (dAt dd_X10_token 19 rfl) rfl (fun r16 => ?_)
        refine x_goto (tgt := 51) hC (dAt dd_X10_token 20 rfl) (by decide) ?_
        refine x_sub [4, 5] rfl ?_
        exact t_X10_token_J51 hC p3 p4 r16 h4
    · refine x_ldc (v := (-1000001)) (p' := 22) hC (dAt dd_X10_token 10 rfl) k_269 rfl ?_
      exact x_ireturn hC (dAt dd_X10_token 11 rfl)
set_option maxHeartbeats 4000000 in
set_option maxRecDepth 100000 in
theorem t_X10_changesAt_J60 {C : CT} (hC : OKC C yX10_changesAt cX10_changesAt 3 (some (.object "GoldenKeeper$Changes")) 3 71)   : ∀ (x2 : Option Nat) (h : AH), WX rvR C 60 [(2, va_rf x2)] [] h (f_X10_changesAt_J60 x2 h) := by
  intro x2 h
  unfold f_X10_changesAt_J60
  refine x_aload_n (p' := 61) hC 0 (dAt dd_X10_changesAt 28 rfl) rfl rfl rfl ?_
  refine x_iconst (v := 1) (p' := 62) hC (dAt dd_X10_changesAt 29 rfl) (by decide) rfl ?_
  refine x_putZ (p' := 65) hC fk_RX10_318 tk_RX8 rfl rfl (Or.inl rfl) (dAt dd_X10_changesAt 30 rfl) rfl (fun h9 => ?_)
  refine x_aload_n (p' := 66) hC 0 (dAt dd_X10_changesAt 31 rfl) rfl rfl rfl ?_
  refine x_getR (p' := 69) hC fk_RX10_214 rfl (dAt dd_X10_changesAt 32 rfl) rfl (fun r10 => ?_)
  exact x_areturn hC (Or.inl ⟨_, rfl⟩) (dAt dd_X10_changesAt 33 rfl)
set_option maxHeartbeats 4000000 in
set_option maxRecDepth 100000 in
theorem c_X10_changesAt (l : Launch) (D : va_G) (cy : Nat → ClassId) (h : AH) (a0 : Nat) (p1 : Int32) : MX rvR l yX10_changesAt (Cond.code yX10_changesAt cX10_changesAt 3 (some (.object "GoldenKeeper$Changes")) :: LW) 3 71 D cy h [va_rf (some a0), .int p1] (f_X10_changesAt h a0 p1) := by
  refine MX.of (lv := [(0, va_rf (some a0)), (1, .int p1)]) (by decide) (Nat.le_of_ble_eq_true rfl) rfl (fun C hC _ => ?_)
  unfold f_X10_changesAt
  refine x_aload_n (p' := 1) hC 0 (dAt dd_X10_changesAt 0 rfl) rfl rfl rfl ?_
  refine x_getR (p' := 4) hC fk_RX10_17 rfl (dAt dd_X10_changesAt 1 rfl) rfl (fun r1 => ?_)
  refine x_iload_n (p' := 5) hC 1 (dAt dd_X10_changesAt 2 rfl) rfl rfl rfl ?_
  refine x_aaload 17 5 (p' := 6) hC rfl (by decide) rfl (dAt dd_X10_changesAt 3 rfl) rfl (fun r2 => ?_)
  refine x_astore_n (j := 2) (lv' := [(2, va_rf r2), (0, va_rf (some a0)), (1, .int p1)]) (p' := 7) hC (dAt dd_X10_changesAt 4 rfl) rfl (by decide) rfl rfl ?_
  refine x_aload_n (p' := 8) hC 0 (dAt dd_X10_changesAt 5 rfl) rfl rfl rfl ?_
  refine x_getI (p' := 11) hC fk_RX10_318 rfl (dAt dd_X10_changesAt 6 rfl) rfl (fun v3 => ?_)
  refine x_if_ne (tgt := 65) (p' := 14) hC (dAt dd_X10_changesAt 7 rfl) (by decide) rfl ?_ ?_
  · refine x_aload_n (p' := 66) hC 0 (dAt dd_X10_changesAt 31 rfl) rfl rfl rfl ?_
    refine x_getR (p' := 69) hC fk_RX10_214 rfl (dAt dd_X10_changesAt 32 rfl) rfl (fun r4 => ?_)
    exact x_areturn hC (Or.inl ⟨_, rfl⟩) (dAt dd_X10_changesAt 33 rfl)
  · refine x_aload_n (p' := 15) hC 0 (dAt dd_X10_changesAt 8 rfl) rfl rfl rfl ?_
    refine x_getR (p' := 18) hC fk_RX10_214 rfl (dAt dd_X10_changesAt 9 rfl) rfl (fun r5 => ?_)
    refine x_callVV (As := []) (z := fun b => f_X1_clear h b) (p' := 21) hC (fun b => c_X1_clear _ _ _ h b) k_454 k_455 k_456 k_8 k_457 hd_X1_clear ⟨by decide, by decide⟩ (ci := 1) rfl rfl (by decide) rfl (Nat.le_of_ble_eq_true rfl) rfl (dAt dd_X10_changesAt 10 rfl) rfl (fun u6 h7 => ?_)
    refine x_aload_n (p' := 22) hC 0 (dAt dd_X10_changesAt 11 rfl) rfl rfl rfl ?_
    refine x_getR (p' := 25) hC fk_RX10_145 rfl (dAt dd_X10_changesAt 12 rfl) rfl (fun r8 => ?_)
    refine x_ifnull (tgt := 60) (p' := 28) hC (dAt dd_X10_changesAt 13 rfl) (by decide) rfl (fun _ => ?_) (fun _ _ => ?_)
    · refine x_sub [0] rfl ?_
      exact t_X10_changesAt_J60 hC r2 h7
    · refine x_aload_n (p' := 29) hC 0 (dAt dd_X10_changesAt 14 rfl) rfl rfl rfl ?_
      refine x_getR (p' := 32) hC fk_RX10_152 rfl (dAt dd_X10_changesAt 15 rfl) rfl (fun r11 => ?_)
      refine x_ifnull (tgt := 60) (p' := 35) hC (dAt dd_X10_changesAt 16 rfl) (by decide) rfl (fun _ => ?_) (fun _ _ => ?_)
      · refine x_sub [0] rfl ?_
        exact t_X10_changesAt_J60 hC r2 h7
      · refine x_aload_n (p' := 36) hC 1 (dAt dd_X10_changesAt 17 rfl) rfl rfl rfl ?_
        refine x_getR (p' := 39) hC fk_RX10_24 rfl (dAt dd_X10_changesAt 18 rfl) rfl (fun r12 => ?_)
        refine x_aload_n (p' := 40) hC 0 (dAt dd_X10_changesAt 19 rfl) rfl rfl rfl ?_
        refine x_getR (p' := 43) hC fk_RX10_145 rfl (dAt dd_X10_changesAt 20 rfl) rfl (fun r13 => ?_)
        refine x_getR (p' := 46) hC fk_RX10_162 rfl (dAt dd_X10_changesAt 21 rfl) rfl (fun r14 => ?_)
        refine x_aload_n (p' := 47) hC 0 (dAt dd_X10_changesAt 22 rfl) rfl rfl rfl ?_
        refine x_getR (p' := 50) hC fk_RX10_152 rfl (dAt dd_X10_changesAt 23 rfl) rfl (fun r15 => ?_)
        refine x_getR (p' := 53) hC fk_RX10_162 rfl (dAt dd_X10_changesAt 24 rfl) rfl (fun r16 => ?_)
        refine x_aload_n (p' := 54) hC 0 (dAt dd_X10_changesAt 25 rfl) rfl rfl rfl ?_
        refine x_getR (p' := 57) hC fk_RX10_214 rfl (dAt dd_X10_changesAt 26 rfl) rfl (fun r17 => ?_)
        refine x_callVV (As := [va_rf r14, va_rf r16, va_rf r17]) (z := fun b => f_X2_walk h7 b r14 r16 r17) (p' := 60) hC (fun b => c_X2_walk _ _ _ h7 b r14 r16 r17) k_458 k_459 k_460 k_2 k_461 hd_X2_walk ⟨by decide, by decide⟩ (ci := 2) rfl rfl (by decide) rfl (Nat.le_of_ble_eq_true rfl) rfl (dAt dd_X10_changesAt 27 rfl) rfl (fun u18 h19 => ?_)
        refine x_sub [0] rfl ?_
        exact t_X10_changesAt_J60 hC r2 h19
set_option maxHeartbeats 4000000 in
set_option maxRecDepth 100000 in
theorem c_X10_cost (l : Launch) (D : va_G) (cy : Nat → ClassId) (h : AH) (a0 : Nat) (p1 : Int32) (p2 : Int32) : MX rvI l yX10_cost (Cond.code yX10_cost cX10_cost 4 (some .int) :: LW) 4 93 D cy h [va_rf (some a0), .int p1, .int p2] (f_X10_cost h a0 p1 p2) := by
  refine MX.of (lv := [(0, va_rf (some a0)), (1, .int p1), (2, .int p2)]) (by decide) (Nat.le_of_ble_eq_true rfl) rfl (fun C hC _ => ?_)
  unfold f_X10_cost
  refine x_iload_n (p' := 1) hC 1 (dAt dd_X10_cost 0 rfl) rfl rfl rfl ?_
  refine x_iload_n (p' := 2) hC 2 (dAt dd_X10_cost 1 rfl) rfl rfl rfl ?_
  refine x_callSI (As := [.int p1, .int p2]) (p' := 5) hC (c_X10_slotAt _ _ _ h p1 p2) k_367 k_368 k_1 k_369 hd_X10_slotAt ⟨by decide, by decide⟩ rfl (Nat.le_of_ble_eq_true rfl) rfl (dAt dd_X10_cost 2 rfl) rfl (fun v1 h2 => ?_)
  refine x_istore_n (j := 3) (lv' := [(3, .int v1), (0, va_rf (some a0)), (1, .int p1), (2, .int p2)]) (p' := 6) hC (dAt dd_X10_cost 3 rfl) rfl (by decide) rfl rfl ?_
  refine x_iload_n (p' := 7) hC 0 (dAt dd_X10_cost 4 rfl) rfl rfl rfl ?_
  refine x_if_ge (tgt := 15) (p' := 10) hC (dAt dd_X10_cost 5 rfl) (by decide) rfl ?_ ?_
  · refine x_aload_n (p' := 16) hC 1 (dAt dd_X10_cost 8 rfl) rfl rfl rfl ?_
    refine x_iload_n (p' := 17) hC 0 (dAt dd_X10_cost 9 rfl) rfl rfl rfl ?_
    refine x_callVR (As := [.int v1]) (z := fun b => f_X10_changesAt h2 b v1) (p' := 20) hC (fun b => c_X10_changesAt _ _ _ h2 b v1) k_450 k_452 (k_sl 10 rfl) k_1 k_453 hd_X10_changesAt ⟨by decide, by decide⟩ (ci := 9) rfl rfl (by decide) rfl (Nat.le_of_ble_eq_true rfl) rfl (dAt dd_X10_cost 10 rfl) rfl (fun r3 h4 => ?_)
    refine x_getI (p' := 23) hC fk_RX10_174 rfl (dAt dd_X10_cost 11 rfl) rfl (fun v5 => ?_)
    exact x_ireturn hC (dAt dd_X10_cost 12 rfl)
  · refine x_ldc (v := (-1000001)) (p' := 12) hC (dAt dd_X10_cost 6 rfl) k_269 rfl ?_
    refine x_goto (tgt := 23) hC (dAt dd_X10_cost 7 rfl) (by decide) ?_
    exact x_ireturn hC (dAt dd_X10_cost 12 rfl)
set_option maxHeartbeats 4000000 in
set_option maxRecDepth 100000 in
theorem t_X10_gatherGroups_L35 {C : CT} (hC : OKC C yX10_gatherGroups cX10_gatherGroups 4 none 4 93) (k59 : Nat → Int32 → AH → RX Unit) (hk59 : ∀ (x0 : Nat) (x1 : Int32) (h : AH), WX rvV C 59 [(0, va_rf (some x0)), (1, .int x1)] [] h (k59 x0 x1 h)) : ∀ (n : Nat) (x0 : Nat) (x1 : Int32) (x2 : Int32) (x3 : Int32) (h : AH), WX rvV C 35 [(0, va_rf (some x0)), (1, .int x1), (2, .int x2), (3, .int x3)] [] h (f_X10_gatherGroups_L35 k59 n x0 x1 x2 x3 h) := by
  intro n
  induction n with
  | zero => intro _ _ _ _ _; exact x_none
  | succ n ih =>
    intro x0 x1 x2 x3 h
    rw [f_X10_gatherGroups_L35]
    refine x_iload_n (p' := 36) hC 3 (dAt dd_X10_gatherGroups 20 rfl) rfl rfl rfl ?_
    refine x_iload_n (p' := 37) hC 2 (dAt dd_X10_gatherGroups 21 rfl) rfl rfl rfl ?_
    refine x_icmp_ge (tgt := 59) (p' := 40) hC (dAt dd_X10_gatherGroups 22 rfl) (by decide) rfl ?_ ?_
    · refine x_sub [0, 1] rfl ?_
      exact hk59 x0 x1 h
    · refine x_aload_n (p' := 41) hC 0 (dAt dd_X10_gatherGroups 23 rfl) rfl rfl rfl ?_
      refine x_getR (p' := 44) hC fk_RX10_38 rfl (dAt dd_X10_gatherGroups 24 rfl) rfl (fun r8 => ?_)
      refine x_aload_n (p' := 45) hC 0 (dAt dd_X10_gatherGroups 25 rfl) rfl rfl rfl ?_
      refine x_getR (p' := 48) hC fk_RX10_17 rfl (dAt dd_X10_gatherGroups 26 rfl) rfl (fun r9 => ?_)
      refine x_iload_n (p' := 49) hC 1 (dAt dd_X10_gatherGroups 27 rfl) rfl rfl rfl ?_
      refine x_iload_n (p' := 50) hC 3 (dAt dd_X10_gatherGroups 28 rfl) rfl rfl rfl ?_
      refine x_callVV (As := [va_rf r9, .int x1, .int x3]) (z := fun b => f_X6_gather h b r9 x1 x3) (p' := 53) hC (fun b => c_X6_gather _ _ _ h b r9 x1 x3) k_483 k_484 k_485 k_4 k_486 hd_X6_gather ⟨by decide, by decide⟩ (ci := 6) rfl rfl (by decide) rfl (Nat.le_of_ble_eq_true rfl) rfl (dAt dd_X10_gatherGroups 29 rfl) rfl (fun u10 h11 => ?_)
      refine x_iinc (w := (x3 + 1)) (lv' := [(3, .int (x3 + 1)), (0, va_rf (some x0)), (1, .int x1), (2, .int x2)]) (p' := 56) hC 3 (dAt dd_X10_gatherGroups 30 rfl) rfl rfl (by decide) rfl rfl ?_
      refine x_goto (tgt := 35) hC (dAt dd_X10_gatherGroups 31 rfl) (by decide) ?_
      refine x_sub [1, 2, 3, 0] rfl ?_
      exact ih x0 x1 x2 (x3 + 1) h11
set_option maxHeartbeats 4000000 in
set_option maxRecDepth 100000 in
theorem t_X10_gatherGroups_J59 {C : CT} (hC : OKC C yX10_gatherGroups cX10_gatherGroups 4 none 4 93) (k18 : Nat → Int32 → AH → RX Unit) (hk18 : ∀ (x0 : Nat) (x1 : Int32) (h : AH), WX rvV C 18 [(0, va_rf (some x0)), (1, .int x1)] [] h (k18 x0 x1 h)) : ∀ (x0 : Nat) (x1 : Int32) (h : AH), WX rvV C 59 [(0, va_rf (some x0)), (1, .int x1)] [] h (f_X10_gatherGroups_J59 k18 x0 x1 h) := by
  intro x0 x1 h
  unfold f_X10_gatherGroups_J59
  refine x_iinc (w := (x1 + 1)) (lv' := [(1, .int (x1 + 1)), (0, va_rf (some x0))]) (p' := 62) hC 1 (dAt dd_X10_gatherGroups 32 rfl) rfl rfl (by decide) rfl rfl ?_
  refine x_goto (tgt := 18) hC (dAt dd_X10_gatherGroups 33 rfl) (by decide) ?_
  refine x_sub [1, 0] rfl ?_
  exact hk18 x0 (x1 + 1) h
set_option maxHeartbeats 4000000 in
set_option maxRecDepth 100000 in
theorem t_X10_gatherGroups_L18 {C : CT} (hC : OKC C yX10_gatherGroups cX10_gatherGroups 4 none 4 93)   : ∀ (n : Nat) (x0 : Nat) (x1 : Int32) (h : AH), WX rvV C 18 [(0, va_rf (some x0)), (1, .int x1)] [] h (f_X10_gatherGroups_L18 n x0 x1 h) := by
  intro n
  induction n with
  | zero => intro _ _ _; exact x_none
  | succ n ih =>
    intro x0 x1 h
    rw [f_X10_gatherGroups_L18]
    refine x_iload_n (p' := 19) hC 1 (dAt dd_X10_gatherGroups 10 rfl) rfl rfl rfl ?_
    refine x_bipush (v := 36) (p' := 21) hC (dAt dd_X10_gatherGroups 11 rfl) (by decide) rfl ?_
    refine x_icmp_ge (tgt := 65) (p' := 24) hC (dAt dd_X10_gatherGroups 12 rfl) (by decide) rfl ?_ ?_
    · refine x_aload_n (p' := 66) hC 0 (dAt dd_X10_gatherGroups 34 rfl) rfl rfl rfl ?_
      refine x_iconst (v := 1) (p' := 67) hC (dAt dd_X10_gatherGroups 35 rfl) (by decide) rfl ?_
      refine x_putZ (p' := 70) hC fk_RX10_42 tk_RX10 rfl rfl (Or.inl rfl) (dAt dd_X10_gatherGroups 36 rfl) rfl (fun h4 => ?_)
      exact x_return hC (dAt dd_X10_gatherGroups 37 rfl)
    · refine x_aload_n (p' := 25) hC 0 (dAt dd_X10_gatherGroups 13 rfl) rfl rfl rfl ?_
      refine x_iload_n (p' := 26) hC 1 (dAt dd_X10_gatherGroups 14 rfl) rfl rfl rfl ?_
      refine x_callVR (As := [.int x1]) (z := fun b => f_X10_changesAt h b x1) (p' := 29) hC (fun b => c_X10_changesAt _ _ _ h b x1) k_450 k_452 (k_sl 10 rfl) k_1 k_453 hd_X10_changesAt ⟨by decide, by decide⟩ (ci := 9) rfl rfl (by decide) rfl (Nat.le_of_ble_eq_true rfl) rfl (dAt dd_X10_gatherGroups 15 rfl) rfl (fun r5 h6 => ?_)
      refine x_getI (p' := 32) hC fk_RX10_179 rfl (dAt dd_X10_gatherGroups 16 rfl) rfl (fun v7 => ?_)
      refine x_istore_n (j := 2) (lv' := [(2, .int v7), (0, va_rf (some x0)), (1, .int x1)]) (p' := 33) hC (dAt dd_X10_gatherGroups 17 rfl) rfl (by decide) rfl rfl ?_
      refine x_iconst (v := 0) (p' := 34) hC (dAt dd_X10_gatherGroups 18 rfl) (by decide) rfl ?_
      refine x_istore_n (j := 3) (lv' := [(3, .int 0), (2, .int v7), (0, va_rf (some x0)), (1, .int x1)]) (p' := 35) hC (dAt dd_X10_gatherGroups 19 rfl) rfl (by decide) rfl rfl ?_
      refine x_sub [2, 3, 1, 0] rfl ?_
      exact t_X10_gatherGroups_L35 hC (f_X10_gatherGroups_J59 (f_X10_gatherGroups_L18 n)) (t_X10_gatherGroups_J59 hC (f_X10_gatherGroups_L18 n) ih) FU x0 x1 v7 0 h6
set_option maxHeartbeats 4000000 in
set_option maxRecDepth 100000 in
theorem c_X10_gatherGroups (l : Launch) (D : va_G) (cy : Nat → ClassId) (h : AH) (a0 : Nat) : MX rvV l yX10_gatherGroups (Cond.code yX10_gatherGroups cX10_gatherGroups 4 none :: LW) 4 93 D cy h [va_rf (some a0)] (f_X10_gatherGroups h a0) := by
  refine MX.of (lv := [(0, va_rf (some a0))]) (by decide) (Nat.le_of_ble_eq_true rfl) rfl (fun C hC _ => ?_)
  unfold f_X10_gatherGroups
  refine x_aload_n (p' := 1) hC 0 (dAt dd_X10_gatherGroups 0 rfl) rfl rfl rfl ?_
  refine x_getI (p' := 4) hC fk_RX10_42 rfl (dAt dd_X10_gatherGroups 1 rfl) rfl (fun v1 => ?_)
  refine x_if_eq (tgt := 8) (p' := 7) hC (dAt dd_X10_gatherGroups 2 rfl) (by decide) rfl ?_ ?_
  · refine x_aload_n (p' := 9) hC 0 (dAt dd_X10_gatherGroups 4 rfl) rfl rfl rfl ?_
    refine x_getR (p' := 12) hC fk_RX10_38 rfl (dAt dd_X10_gatherGroups 5 rfl) rfl (fun r2 => ?_)
    refine x_iconst (v := 0) (p' := 13) hC (dAt dd_X10_gatherGroups 6 rfl) (by decide) rfl ?_
    refine x_putI (p' := 16) hC fk_RX10_204 tk_RX6 rfl rfl (Or.inl rfl) (dAt dd_X10_gatherGroups 7 rfl) rfl (fun h3 => ?_)
    refine x_iconst (v := 0) (p' := 17) hC (dAt dd_X10_gatherGroups 8 rfl) (by decide) rfl ?_
    refine x_istore_n (j := 1) (lv' := [(1, .int 0), (0, va_rf (some a0))]) (p' := 18) hC (dAt dd_X10_gatherGroups 9 rfl) rfl (by decide) rfl rfl ?_
    refine x_sub [1, 0] rfl ?_
    exact t_X10_gatherGroups_L18 hC FU a0 0 h3
  · exact x_return hC (dAt dd_X10_gatherGroups 3 rfl)
set_option maxHeartbeats 4000000 in
set_option maxRecDepth 100000 in
theorem c_X10_change (l : Launch) (D : va_G) (cy : Nat → ClassId) (h : AH) (a0 : Nat) (p1 : Int32) (p2 : Int32) (p3 : Int32) (p4 : Int32) : MX rvI l yX10_change (Cond.code yX10_change cX10_change 7 (some .int) :: LW) 5 116 D cy h [va_rf (some a0), .int p1, .int p2, .int p3, .int p4] (f_X10_change h a0 p1 p2 p3 p4) := by
  refine MX.of (lv := [(0, va_rf (some a0)), (1, .int p1), (2, .int p2), (3, .int p3), (4, .int p4)]) (by decide) (Nat.le_of_ble_eq_true rfl) rfl (fun C hC _ => ?_)
  unfold f_X10_change
  refine x_iload_n (p' := 1) hC 1 (dAt dd_X10_change 0 rfl) rfl rfl rfl ?_
  refine x_iload_n (p' := 2) hC 2 (dAt dd_X10_change 1 rfl) rfl rfl rfl ?_
  refine x_callSI (As := [.int p1, .int p2]) (p' := 5) hC (c_X10_slotAt _ _ _ h p1 p2) k_367 k_368 k_1 k_369 hd_X10_slotAt ⟨by decide, by decide⟩ rfl (Nat.le_of_ble_eq_true rfl) rfl (dAt dd_X10_change 2 rfl) rfl (fun v1 h2 => ?_)
  refine x_istore (lv' := [(5, .int v1), (0, va_rf (some a0)), (1, .int p1), (2, .int p2), (3, .int p3), (4, .int p4)]) (p' := 7) hC (dAt dd_X10_change 3 rfl) (by decide) rfl rfl ?_
  refine x_iload (p' := 9) hC 0 (dAt dd_X10_change 4 rfl) rfl rfl ?_
  refine x_if_lt (tgt := 21) (p' := 12) hC (dAt dd_X10_change 5 rfl) (by decide) rfl ?_ ?_
  · refine x_ldc (v := (-1000001)) (p' := 23) hC (dAt dd_X10_change 10 rfl) k_269 rfl ?_
    exact x_ireturn hC (dAt dd_X10_change 11 rfl)
  · refine x_iload (p' := 14) hC 5 (dAt dd_X10_change 6 rfl) rfl rfl ?_
    refine x_iconst (v := 5) (p' := 15) hC (dAt dd_X10_change 7 rfl) (by decide) rfl ?_
    refine x_callSI (As := [.int p4, .int 5]) (p' := 18) hC (c_X10_isBelow _ _ _ h2 p4 5) k_266 k_267 k_1 k_268 hd_X10_isBelow ⟨by decide, by decide⟩ rfl (Nat.le_of_ble_eq_true rfl) rfl (dAt dd_X10_change 8 rfl) rfl (fun v3 h4 => ?_)
    refine x_if_ne (tgt := 24) (p' := 21) hC (dAt dd_X10_change 9 rfl) (by decide) rfl ?_ ?_
    · refine x_aload_n (p' := 25) hC 1 (dAt dd_X10_change 12 rfl) rfl rfl rfl ?_
      refine x_iload (p' := 27) hC 0 (dAt dd_X10_change 13 rfl) rfl rfl ?_
      refine x_callVR (As := [.int v1]) (z := fun b => f_X10_changesAt h4 b v1) (p' := 30) hC (fun b => c_X10_changesAt _ _ _ h4 b v1) k_450 k_452 (k_sl 10 rfl) k_1 k_453 hd_X10_changesAt ⟨by decide, by decide⟩ (ci := 9) rfl rfl (by decide) rfl (Nat.le_of_ble_eq_true rfl) rfl (dAt dd_X10_change 14 rfl) rfl (fun r5 h6 => ?_)
      refine x_astore (lv' := [(6, va_rf r5), (5, .int v1), (0, va_rf (some a0)), (1, .int p1), (2, .int p2), (3, .int p3), (4, .int p4)]) (p' := 32) hC (dAt dd_X10_change 15 rfl) (by decide) rfl rfl ?_
      refine x_iload_n (p' := 33) hC 5 (dAt dd_X10_change 16 rfl) rfl rfl rfl ?_
      refine x_aload (p' := 35) hC 0 (dAt dd_X10_change 17 rfl) rfl rfl ?_
      refine x_getI (p' := 38) hC fk_RX10_179 rfl (dAt dd_X10_change 18 rfl) rfl (fun v7 => ?_)
      refine x_callSI (As := [.int p3, .int v7]) (p' := 41) hC (c_X10_isBelow _ _ _ h6 p3 v7) k_266 k_267 k_1 k_268 hd_X10_isBelow ⟨by decide, by decide⟩ rfl (Nat.le_of_ble_eq_true rfl) rfl (dAt dd_X10_change 19 rfl) rfl (fun v8 h9 => ?_)
      refine x_if_ne (tgt := 47) (p' := 44) hC (dAt dd_X10_change 20 rfl) (by decide) rfl ?_ ?_
      · refine x_iload (p' := 49) hC 6 (dAt dd_X10_change 23 rfl) rfl rfl ?_
        refine x_case 0 (fun q0 => ?_) (fun q0 => ?_)
        · refine x_switch_in (tgt := 80) hC (dAt dd_X10_change 24 rfl) (by rw [q0]; decide) (by rw [q0]; decide) (by rw [q0]; rfl) (by decide) ?_
          refine x_aload (p' := 82) hC 0 (dAt dd_X10_change 25 rfl) rfl rfl ?_
          refine x_getR (p' := 85) hC fk_RX10_182 rfl (dAt dd_X10_change 26 rfl) rfl (fun r10 => ?_)
          refine x_iload_n (p' := 86) hC 5 (dAt dd_X10_change 27 rfl) rfl rfl rfl ?_
          refine x_iaload (p' := 87) hC (dAt dd_X10_change 28 rfl) rfl (fun v11 => ?_)
          exact x_ireturn hC (dAt dd_X10_change 29 rfl)
        refine x_case 1 (fun q1 => ?_) (fun q1 => ?_)
        · refine x_switch_in (tgt := 88) hC (dAt dd_X10_change 24 rfl) (by rw [q1]; decide) (by rw [q1]; decide) (by rw [q1]; rfl) (by decide) ?_
          refine x_aload (p' := 90) hC 0 (dAt dd_X10_change 30 rfl) rfl rfl ?_
          refine x_getR (p' := 93) hC fk_RX10_185 rfl (dAt dd_X10_change 31 rfl) rfl (fun r12 => ?_)
          refine x_iload_n (p' := 94) hC 5 (dAt dd_X10_change 32 rfl) rfl rfl rfl ?_
          refine x_iaload (p' := 95) hC (dAt dd_X10_change 33 rfl) rfl (fun v13 => ?_)
          exact x_ireturn hC (dAt dd_X10_change 34 rfl)
        refine x_case 2 (fun q2 => ?_) (fun q2 => ?_)
        · refine x_switch_in (tgt := 96) hC (dAt dd_X10_change 24 rfl) (by rw [q2]; decide) (by rw [q2]; decide) (by rw [q2]; rfl) (by decide) ?_
          refine x_aload (p' := 98) hC 0 (dAt dd_X10_change 35 rfl) rfl rfl ?_
          refine x_getR (p' := 101) hC fk_RX10_188 rfl (dAt dd_X10_change 36 rfl) rfl (fun r14 => ?_)
          refine x_iload_n (p' := 102) hC 5 (dAt dd_X10_change 37 rfl) rfl rfl rfl ?_
          refine x_iaload (p' := 103) hC (dAt dd_X10_change 38 rfl) rfl (fun v15 => ?_)
          exact x_ireturn hC (dAt dd_X10_change 39 rfl)
        refine x_case 3 (fun q3 => ?_) (fun q3 => ?_)
        · refine x_switch_in (tgt := 104) hC (dAt dd_X10_change 24 rfl) (by rw [q3]; decide) (by rw [q3]; decide) (by rw [q3]; rfl) (by decide) ?_
          refine x_aload (p' := 106) hC 0 (dAt dd_X10_change 40 rfl) rfl rfl ?_
          refine x_getR (p' := 109) hC fk_RX10_191 rfl (dAt dd_X10_change 41 rfl) rfl (fun r16 => ?_)
          refine x_iload_n (p' := 110) hC 5 (dAt dd_X10_change 42 rfl) rfl rfl rfl ?_
          refine x_iaload (p' := 111) hC (dAt dd_X10_change 43 rfl) rfl (fun v17 => ?_)
          exact x_ireturn hC (dAt dd_X10_change 44 rfl)
        refine x_switch_out (tgt := 112) hC (dAt dd_X10_change 24 rfl) (by have z0 := lv_neT q0 (show (0 : Int32).toInt = 0 by decide); have z1 := lv_neT q1 (show (1 : Int32).toInt = 1 by decide); have z2 := lv_neT q2 (show (2 : Int32).toInt = 2 by decide); have z3 := lv_neT q3 (show (3 : Int32).toInt = 3 by decide); omega) (by decide) ?_
        refine x_aload_n (p' := 113) hC 2 (dAt dd_X10_change 45 rfl) rfl rfl rfl ?_
        refine x_callVV (As := []) (z := fun b => f_X10_gatherGroups h9 b) (p' := 116) hC (fun b => c_X10_gatherGroups _ _ _ h9 b) k_479 k_481 (k_sl 11 rfl) k_1 k_482 hd_X10_gatherGroups ⟨by decide, by decide⟩ (ci := 9) rfl rfl (by decide) rfl (Nat.le_of_ble_eq_true rfl) rfl (dAt dd_X10_change 46 rfl) rfl (fun u18 h19 => ?_)
        refine x_aload (p' := 118) hC 0 (dAt dd_X10_change 47 rfl) rfl rfl ?_
        refine x_getR (p' := 121) hC fk_RX10_197 rfl (dAt dd_X10_change 48 rfl) rfl (fun r20 => ?_)
        refine x_iload_n (p' := 122) hC 5 (dAt dd_X10_change 49 rfl) rfl rfl rfl ?_
        refine x_iaload (p' := 123) hC (dAt dd_X10_change 50 rfl) rfl (fun v21 => ?_)
        exact x_ireturn hC (dAt dd_X10_change 51 rfl)
      · refine x_ldc (v := (-1000000)) (p' := 46) hC (dAt dd_X10_change 21 rfl) k_362 rfl ?_
        exact x_ireturn hC (dAt dd_X10_change 22 rfl)
    · refine x_ldc (v := (-1000001)) (p' := 23) hC (dAt dd_X10_change 10 rfl) k_269 rfl ?_
      exact x_ireturn hC (dAt dd_X10_change 11 rfl)
set_option maxHeartbeats 4000000 in
set_option maxRecDepth 100000 in
theorem t_X10_nearest_J111 {C : CT} (hC : OKC C yX10_nearest cX10_nearest 10 (some .int) 2 42) (k42 : Nat → Int32 → Int32 → Option Nat → Int32 → Int32 → Int32 → AH → RX Int32) (hk42 : ∀ (x0 : Nat) (x1 : Int32) (x2 : Int32) (x4 : Option Nat) (x5 : Int32) (x6 : Int32) (x7 : Int32) (h : AH), WX rvI C 42 [(0, va_rf (some x0)), (1, .int x1), (2, .int x2), (4, va_rf x4), (5, .int x5), (6, .int x6), (7, .int x7)] [] h (k42 x0 x1 x2 x4 x5 x6 x7 h)) : ∀ (x0 : Nat) (x1 : Int32) (x2 : Int32) (x4 : Option Nat) (x7 : Int32) (x9 : Int32) (h : AH), WX rvI C 111 [(0, va_rf (some x0)), (1, .int x1), (2, .int x2), (4, va_rf x4), (7, .int x7), (9, .int x9)] [] h (f_X10_nearest_J111 k42 x0 x1 x2 x4 x7 x9 h) := by
  intro x0 x1 x2 x4 x7 x9 h
  unfold f_X10_nearest_J111
  refine x_iload (p' := 113) hC 4 (dAt dd_X10_nearest 57 rfl) rfl rfl ?_
  refine x_istore (lv' := [(5, .int x7), (0, va_rf (some x0)), (1, .int x1), (2, .int x2), (4, va_rf x4), (7, .int x7), (9, .int x9)]) (p' := 115) hC (dAt dd_X10_nearest 58 rfl) (by decide) (by simp [x_cat, show ∀ v : Int32, (Value.int v).category = 1 from fun _ => rfl]) rfl ?_
  refine x_iload (p' := 117) hC 6 (dAt dd_X10_nearest 59 rfl) rfl rfl ?_
  refine x_istore (lv' := [(6, .int x9), (5, .int x7), (0, va_rf (some x0)), (1, .int x1), (2, .int x2), (4, va_rf x4), (7, .int x7), (9, .int x9)]) (p' := 119) hC (dAt dd_X10_nearest 60 rfl) (by decide) rfl rfl ?_
  refine x_iinc (w := (x7 + 1)) (lv' := [(7, .int (x7 + 1)), (6, .int x9), (5, .int x7), (0, va_rf (some x0)), (1, .int x1), (2, .int x2), (4, va_rf x4), (9, .int x9)]) (p' := 122) hC 6 (dAt dd_X10_nearest 61 rfl) rfl rfl (by decide) rfl rfl ?_
  refine x_goto (tgt := 42) hC (dAt dd_X10_nearest 62 rfl) (by decide) ?_
  refine x_sub [3, 4, 5, 6, 2, 1, 0] rfl ?_
  exact hk42 x0 x1 x2 x4 x7 x9 (x7 + 1) h
set_option maxHeartbeats 4000000 in
set_option maxRecDepth 100000 in
theorem t_X10_nearest_L42 {C : CT} (hC : OKC C yX10_nearest cX10_nearest 10 (some .int) 2 42)   : ∀ (n : Nat) (x0 : Nat) (x1 : Int32) (x2 : Int32) (x4 : Option Nat) (x5 : Int32) (x6 : Int32) (x7 : Int32) (h : AH), WX rvI C 42 [(0, va_rf (some x0)), (1, .int x1), (2, .int x2), (4, va_rf x4), (5, .int x5), (6, .int x6), (7, .int x7)] [] h (f_X10_nearest_L42 n x0 x1 x2 x4 x5 x6 x7 h) := by
  intro n
  induction n with
  | zero => intro _ _ _ _ _ _ _ _; exact x_none
  | succ n ih =>
    intro x0 x1 x2 x4 x5 x6 x7 h
    rw [f_X10_nearest_L42]
    refine x_iload (p' := 44) hC 6 (dAt dd_X10_nearest 24 rfl) rfl rfl ?_
    refine x_iconst (v := 3) (p' := 45) hC (dAt dd_X10_nearest 25 rfl) (by decide) rfl ?_
    refine x_icmp_ge (tgt := 125) (p' := 48) hC (dAt dd_X10_nearest 26 rfl) (by decide) rfl ?_ ?_
    · refine x_iload (p' := 127) hC 4 (dAt dd_X10_nearest 63 rfl) rfl rfl ?_
      exact x_ireturn hC (dAt dd_X10_nearest 64 rfl)
    · refine x_aload_n (p' := 49) hC 0 (dAt dd_X10_nearest 27 rfl) rfl rfl rfl ?_
      refine x_getR (p' := 52) hC fk_RX10_17 rfl (dAt dd_X10_nearest 28 rfl) rfl (fun r6 => ?_)
      refine x_iload_n (p' := 53) hC 1 (dAt dd_X10_nearest 29 rfl) rfl rfl rfl ?_
      refine x_iconst (v := 3) (p' := 54) hC (dAt dd_X10_nearest 30 rfl) (by decide) rfl ?_
      refine x_imul (p' := 55) hC (dAt dd_X10_nearest 31 rfl) rfl ?_
      refine x_iload (p' := 57) hC 6 (dAt dd_X10_nearest 32 rfl) rfl rfl ?_
      refine x_iadd (p' := 58) hC (dAt dd_X10_nearest 33 rfl) rfl ?_
      refine x_aaload 17 5 (p' := 59) hC rfl (by decide) rfl (dAt dd_X10_nearest 34 rfl) rfl (fun r7 => ?_)
      refine x_getR (p' := 62) hC fk_RX10_145 rfl (dAt dd_X10_nearest 35 rfl) rfl (fun r8 => ?_)
      refine x_astore (lv' := [(8, va_rf r8), (0, va_rf (some x0)), (1, .int x1), (2, .int x2), (4, va_rf x4), (5, .int x5), (6, .int x6), (7, .int x7)]) (p' := 64) hC (dAt dd_X10_nearest 36 rfl) (by decide) rfl rfl ?_
      refine x_iload (p' := 66) hC 7 (dAt dd_X10_nearest 37 rfl) rfl rfl ?_
      refine x_iload_n (p' := 67) hC 3 (dAt dd_X10_nearest 38 rfl) rfl rfl rfl ?_
      refine x_icmp_eq (tgt := 119) (p' := 70) hC (dAt dd_X10_nearest 39 rfl) (by decide) rfl ?_ ?_
      · refine x_iinc (w := (x7 + 1)) (lv' := [(7, .int (x7 + 1)), (8, va_rf r8), (0, va_rf (some x0)), (1, .int x1), (2, .int x2), (4, va_rf x4), (5, .int x5), (6, .int x6)]) (p' := 122) hC 7 (dAt dd_X10_nearest 61 rfl) rfl rfl (by decide) rfl rfl ?_
        refine x_goto (tgt := 42) hC (dAt dd_X10_nearest 62 rfl) (by decide) ?_
        refine x_sub [2, 3, 4, 5, 6, 7, 0] rfl ?_
        exact ih x0 x1 x2 x4 x5 x6 (x7 + 1) h
      · refine x_aload (p' := 72) hC 0 (dAt dd_X10_nearest 40 rfl) rfl rfl ?_
        refine x_ifnonnull (tgt := 78) (p' := 75) hC (dAt dd_X10_nearest 41 rfl) (by decide) rfl (fun _ _ => ?_) (fun _ => ?_)
        · refine x_aload_n (p' := 79) hC 1 (dAt dd_X10_nearest 43 rfl) rfl rfl rfl ?_
          refine x_getR (p' := 82) hC fk_RX10_24 rfl (dAt dd_X10_nearest 44 rfl) rfl (fun r9 => ?_)
          refine x_aload (p' := 84) hC 0 (dAt dd_X10_nearest 45 rfl) rfl rfl ?_
          refine x_getR (p' := 87) hC fk_RX10_162 rfl (dAt dd_X10_nearest 46 rfl) rfl (fun r10 => ?_)
          refine x_aload (p' := 89) hC 4 (dAt dd_X10_nearest 47 rfl) rfl rfl ?_
          refine x_getR (p' := 92) hC fk_RX10_162 rfl (dAt dd_X10_nearest 48 rfl) rfl (fun r11 => ?_)
          refine x_callVI (As := [va_rf r10, va_rf r11]) (z := fun b => f_X2_measure h b r10 r11) (p' := 95) hC (fun b => c_X2_measure _ _ _ h b r10 r11) k_495 k_463 k_464 k_2 k_465 hd_X2_measure ⟨by decide, by decide⟩ (ci := 2) rfl rfl (by decide) rfl (Nat.le_of_ble_eq_true rfl) rfl (dAt dd_X10_nearest 49 rfl) rfl (fun v12 h13 => ?_)
          refine x_istore (lv' := [(9, .int v12), (8, va_rf r8), (0, va_rf (some x0)), (1, .int x1), (2, .int x2), (4, va_rf x4), (5, .int x5), (6, .int x6), (7, .int x7)]) (p' := 97) hC (dAt dd_X10_nearest 50 rfl) (by decide) (by simp [x_cat, show ∀ v : Int32, (Value.int v).category = 1 from fun _ => rfl]) rfl ?_
          refine x_iload (p' := 99) hC 6 (dAt dd_X10_nearest 51 rfl) rfl rfl ?_
          refine x_ldc (v := (-1000000)) (p' := 101) hC (dAt dd_X10_nearest 52 rfl) k_362 rfl ?_
          refine x_icmp_eq (tgt := 111) (p' := 104) hC (dAt dd_X10_nearest 53 rfl) (by decide) rfl ?_ ?_
          · refine x_sub [2, 3, 4, 5, 8, 0] rfl ?_
            exact t_X10_nearest_J111 hC (f_X10_nearest_L42 n) ih x0 x1 x2 x4 x7 v12 h13
          · refine x_iload (p' := 106) hC 0 (dAt dd_X10_nearest 54 rfl) rfl rfl ?_
            refine x_iload (p' := 108) hC 7 (dAt dd_X10_nearest 55 rfl) rfl rfl ?_
            refine x_icmp_ge (tgt := 119) (p' := 111) hC (dAt dd_X10_nearest 56 rfl) (by decide) rfl ?_ ?_
            · refine x_iinc (w := (x7 + 1)) (lv' := [(7, .int (x7 + 1)), (9, .int v12), (8, va_rf r8), (0, va_rf (some x0)), (1, .int x1), (2, .int x2), (4, va_rf x4), (5, .int x5), (6, .int x6)]) (p' := 122) hC 8 (dAt dd_X10_nearest 61 rfl) rfl rfl (by decide) rfl rfl ?_
              refine x_goto (tgt := 42) hC (dAt dd_X10_nearest 62 rfl) (by decide) ?_
              refine x_sub [3, 4, 5, 6, 7, 8, 0] rfl ?_
              exact ih x0 x1 x2 x4 x5 x6 (x7 + 1) h13
            · refine x_sub [2, 3, 4, 5, 8, 0] rfl ?_
              exact t_X10_nearest_J111 hC (f_X10_nearest_L42 n) ih x0 x1 x2 x4 x7 v12 h13
        · refine x_goto (tgt := 119) hC (dAt dd_X10_nearest 42 rfl) (by decide) ?_
          refine x_iinc (w := (x7 + 1)) (lv' := [(7, .int (x7 + 1)), (8, va_rf r8), (0, va_rf (some x0)), (1, .int x1), (2, .int x2), (4, va_rf x4), (5, .int x5), (6, .int x6)]) (p' := 122) hC 7 (dAt dd_X10_nearest 61 rfl) rfl rfl (by decide) rfl rfl ?_
          refine x_goto (tgt := 42) hC (dAt dd_X10_nearest 62 rfl) (by decide) ?_
          refine x_sub [2, 3, 4, 5, 6, 7, 0] rfl ?_
          exact ih x0 x1 x2 x4 x5 x6 (x7 + 1) h
set_option maxHeartbeats 4000000 in
set_option maxRecDepth 100000 in
theorem c_X10_nearest (l : Launch) (D : va_G) (cy : Nat → ClassId) (h : AH) (a0 : Nat) (p1 : Int32) (p2 : Int32) : MX rvI l yX10_nearest (Cond.code yX10_nearest cX10_nearest 10 (some .int) :: LW) 2 42 D cy h [va_rf (some a0), .int p1, .int p2] (f_X10_nearest h a0 p1 p2) := by
  refine MX.of (lv := [(0, va_rf (some a0)), (1, .int p1), (2, .int p2)]) (by decide) (Nat.le_of_ble_eq_true rfl) rfl (fun C hC _ => ?_)
  unfold f_X10_nearest
  refine x_iload_n (p' := 1) hC 1 (dAt dd_X10_nearest 0 rfl) rfl rfl rfl ?_
  refine x_iload_n (p' := 2) hC 2 (dAt dd_X10_nearest 1 rfl) rfl rfl rfl ?_
  refine x_callSI (As := [.int p1, .int p2]) (p' := 5) hC (c_X10_slotAt _ _ _ h p1 p2) k_367 k_368 k_1 k_369 hd_X10_slotAt ⟨by decide, by decide⟩ rfl (Nat.le_of_ble_eq_true rfl) rfl (dAt dd_X10_nearest 2 rfl) rfl (fun v1 h2 => ?_)
  refine x_istore_n (j := 3) (lv' := [(3, .int v1), (0, va_rf (some a0)), (1, .int p1), (2, .int p2)]) (p' := 6) hC (dAt dd_X10_nearest 3 rfl) rfl (by decide) rfl rfl ?_
  refine x_iload_n (p' := 7) hC 0 (dAt dd_X10_nearest 4 rfl) rfl rfl rfl ?_
  refine x_if_ge (tgt := 13) (p' := 10) hC (dAt dd_X10_nearest 5 rfl) (by decide) rfl ?_ ?_
  · refine x_aload_n (p' := 14) hC 1 (dAt dd_X10_nearest 8 rfl) rfl rfl rfl ?_
    refine x_getR (p' := 17) hC fk_RX10_17 rfl (dAt dd_X10_nearest 9 rfl) rfl (fun r3 => ?_)
    refine x_iload_n (p' := 18) hC 0 (dAt dd_X10_nearest 10 rfl) rfl rfl rfl ?_
    refine x_aaload 17 5 (p' := 19) hC rfl (by decide) rfl (dAt dd_X10_nearest 11 rfl) rfl (fun r4 => ?_)
    refine x_getR (p' := 22) hC fk_RX10_152 rfl (dAt dd_X10_nearest 12 rfl) rfl (fun r5 => ?_)
    refine x_astore (lv' := [(4, va_rf r5), (3, .int v1), (0, va_rf (some a0)), (1, .int p1), (2, .int p2)]) (p' := 24) hC (dAt dd_X10_nearest 13 rfl) (by decide) rfl rfl ?_
    refine x_aload (p' := 26) hC 0 (dAt dd_X10_nearest 14 rfl) rfl rfl ?_
    refine x_ifnonnull (tgt := 32) (p' := 29) hC (dAt dd_X10_nearest 15 rfl) (by decide) rfl (fun _ _ => ?_) (fun _ => ?_)
    · refine x_ldc (v := (-1000000)) (p' := 34) hC (dAt dd_X10_nearest 18 rfl) k_362 rfl ?_
      refine x_istore (lv' := [(5, .int (-1000000)), (4, va_rf r5), (3, .int v1), (0, va_rf (some a0)), (1, .int p1), (2, .int p2)]) (p' := 36) hC (dAt dd_X10_nearest 19 rfl) (by decide) (by simp [x_cat, show ∀ v : Int32, (Value.int v).category = 1 from fun _ => rfl]) rfl ?_
      refine x_iconst (v := 0) (p' := 37) hC (dAt dd_X10_nearest 20 rfl) (by decide) rfl ?_
      refine x_istore (lv' := [(6, .int 0), (5, .int (-1000000)), (4, va_rf r5), (3, .int v1), (0, va_rf (some a0)), (1, .int p1), (2, .int p2)]) (p' := 39) hC (dAt dd_X10_nearest 21 rfl) (by decide) rfl rfl ?_
      refine x_iconst (v := 0) (p' := 40) hC (dAt dd_X10_nearest 22 rfl) (by decide) rfl ?_
      refine x_istore (lv' := [(7, .int 0), (6, .int 0), (5, .int (-1000000)), (4, va_rf r5), (3, .int v1), (0, va_rf (some a0)), (1, .int p1), (2, .int p2)]) (p' := 42) hC (dAt dd_X10_nearest 23 rfl) (by decide) rfl rfl ?_
      refine x_sub [5, 6, 7, 3, 2, 1, 0] rfl ?_
      exact t_X10_nearest_L42 hC FU a0 p1 p2 r5 (-1000000) 0 0 h2
    · refine x_ldc (v := (-1000002)) (p' := 31) hC (dAt dd_X10_nearest 16 rfl) k_316 rfl ?_
      exact x_ireturn hC (dAt dd_X10_nearest 17 rfl)
  · refine x_ldc (v := (-1000001)) (p' := 12) hC (dAt dd_X10_nearest 6 rfl) k_269 rfl ?_
    exact x_ireturn hC (dAt dd_X10_nearest 7 rfl)
set_option maxHeartbeats 4000000 in
set_option maxRecDepth 100000 in
theorem c_X10_groups (l : Launch) (D : va_G) (cy : Nat → ClassId) (h : AH) (a0 : Nat) : MX rvI l yX10_groups (Cond.code yX10_groups cX10_groups 1 (some .int) :: LW) 5 116 D cy h [va_rf (some a0)] (f_X10_groups h a0) := by
  refine MX.of (lv := [(0, va_rf (some a0))]) (by decide) (Nat.le_of_ble_eq_true rfl) rfl (fun C hC _ => ?_)
  unfold f_X10_groups
  refine x_aload_n (p' := 1) hC 0 (dAt dd_X10_groups 0 rfl) rfl rfl rfl ?_
  refine x_callVV (As := []) (z := fun b => f_X10_gatherGroups h b) (p' := 4) hC (fun b => c_X10_gatherGroups _ _ _ h b) k_479 k_481 (k_sl 11 rfl) k_1 k_482 hd_X10_gatherGroups ⟨by decide, by decide⟩ (ci := 9) rfl rfl (by decide) rfl (Nat.le_of_ble_eq_true rfl) rfl (dAt dd_X10_groups 1 rfl) rfl (fun u1 h2 => ?_)
  refine x_aload_n (p' := 5) hC 0 (dAt dd_X10_groups 2 rfl) rfl rfl rfl ?_
  refine x_getR (p' := 8) hC fk_RX10_38 rfl (dAt dd_X10_groups 3 rfl) rfl (fun r3 => ?_)
  refine x_getI (p' := 11) hC fk_RX10_204 rfl (dAt dd_X10_groups 4 rfl) rfl (fun v4 => ?_)
  exact x_ireturn hC (dAt dd_X10_groups 5 rfl)
set_option maxHeartbeats 4000000 in
set_option maxRecDepth 100000 in
theorem c_X10_group (l : Launch) (D : va_G) (cy : Nat → ClassId) (h : AH) (a0 : Nat) (p1 : Int32) (p2 : Int32) : MX rvI l yX10_group (Cond.code yX10_group cX10_group 5 (some .int) :: LW) 5 116 D cy h [va_rf (some a0), .int p1, .int p2] (f_X10_group h a0 p1 p2) := by
  refine MX.of (lv := [(0, va_rf (some a0)), (1, .int p1), (2, .int p2)]) (by decide) (Nat.le_of_ble_eq_true rfl) rfl (fun C hC _ => ?_)
  unfold f_X10_group
  refine x_aload_n (p' := 1) hC 0 (dAt dd_X10_group 0 rfl) rfl rfl rfl ?_
  refine x_callVV (As := []) (z := fun b => f_X10_gatherGroups h b) (p' := 4) hC (fun b => c_X10_gatherGroups _ _ _ h b) k_479 k_481 (k_sl 11 rfl) k_1 k_482 hd_X10_gatherGroups ⟨by decide, by decide⟩ (ci := 9) rfl rfl (by decide) rfl (Nat.le_of_ble_eq_true rfl) rfl (dAt dd_X10_group 1 rfl) rfl (fun u1 h2 => ?_)
  refine x_iload_n (p' := 5) hC 1 (dAt dd_X10_group 2 rfl) rfl rfl rfl ?_
  refine x_aload_n (p' := 6) hC 0 (dAt dd_X10_group 3 rfl) rfl rfl rfl ?_
  refine x_getR (p' := 9) hC fk_RX10_38 rfl (dAt dd_X10_group 4 rfl) rfl (fun r3 => ?_)
  refine x_getI (p' := 12) hC fk_RX10_204 rfl (dAt dd_X10_group 5 rfl) rfl (fun v4 => ?_)
  refine x_callSI (As := [.int p1, .int v4]) (p' := 15) hC (c_X10_isBelow _ _ _ h2 p1 v4) k_266 k_267 k_1 k_268 hd_X10_isBelow ⟨by decide, by decide⟩ rfl (Nat.le_of_ble_eq_true rfl) rfl (dAt dd_X10_group 6 rfl) rfl (fun v5 h6 => ?_)
  refine x_if_eq (tgt := 27) (p' := 18) hC (dAt dd_X10_group 7 rfl) (by decide) rfl ?_ ?_
  · refine x_ldc (v := (-1000001)) (p' := 29) hC (dAt dd_X10_group 12 rfl) k_269 rfl ?_
    exact x_ireturn hC (dAt dd_X10_group 13 rfl)
  · refine x_iload_n (p' := 19) hC 2 (dAt dd_X10_group 8 rfl) rfl rfl rfl ?_
    refine x_bipush (v := 6) (p' := 21) hC (dAt dd_X10_group 9 rfl) (by decide) rfl ?_
    refine x_callSI (As := [.int p2, .int 6]) (p' := 24) hC (c_X10_isBelow _ _ _ h6 p2 6) k_266 k_267 k_1 k_268 hd_X10_isBelow ⟨by decide, by decide⟩ rfl (Nat.le_of_ble_eq_true rfl) rfl (dAt dd_X10_group 10 rfl) rfl (fun v7 h8 => ?_)
    refine x_if_ne (tgt := 30) (p' := 27) hC (dAt dd_X10_group 11 rfl) (by decide) rfl ?_ ?_
    · refine x_aload_n (p' := 31) hC 0 (dAt dd_X10_group 14 rfl) rfl rfl rfl ?_
      refine x_getR (p' := 34) hC fk_RX10_17 rfl (dAt dd_X10_group 15 rfl) rfl (fun r9 => ?_)
      refine x_aload_n (p' := 35) hC 0 (dAt dd_X10_group 16 rfl) rfl rfl rfl ?_
      refine x_getR (p' := 38) hC fk_RX10_38 rfl (dAt dd_X10_group 17 rfl) rfl (fun r10 => ?_)
      refine x_getR (p' := 41) hC fk_RX10_205 rfl (dAt dd_X10_group 18 rfl) rfl (fun r11 => ?_)
      refine x_iload_n (p' := 42) hC 1 (dAt dd_X10_group 19 rfl) rfl rfl rfl ?_
      refine x_iaload (p' := 43) hC (dAt dd_X10_group 20 rfl) rfl (fun v12 => ?_)
      refine x_aaload 17 5 (p' := 44) hC rfl (by decide) rfl (dAt dd_X10_group 21 rfl) rfl (fun r13 => ?_)
      refine x_astore_n (j := 3) (lv' := [(3, va_rf r13), (0, va_rf (some a0)), (1, .int p1), (2, .int p2)]) (p' := 45) hC (dAt dd_X10_group 22 rfl) rfl (by decide) rfl rfl ?_
      refine x_aload_n (p' := 46) hC 1 (dAt dd_X10_group 23 rfl) rfl rfl rfl ?_
      refine x_getR (p' := 49) hC fk_RX10_38 rfl (dAt dd_X10_group 24 rfl) rfl (fun r14 => ?_)
      refine x_getR (p' := 52) hC fk_RX10_208 rfl (dAt dd_X10_group 25 rfl) rfl (fun r15 => ?_)
      refine x_iload_n (p' := 53) hC 2 (dAt dd_X10_group 26 rfl) rfl rfl rfl ?_
      refine x_iaload (p' := 54) hC (dAt dd_X10_group 27 rfl) rfl (fun v16 => ?_)
      refine x_istore (lv' := [(4, .int v16), (3, va_rf r13), (0, va_rf (some a0)), (1, .int p1), (2, .int p2)]) (p' := 56) hC (dAt dd_X10_group 28 rfl) (by decide) (by simp [x_cat, show ∀ v : Int32, (Value.int v).category = 1 from fun _ => rfl]) rfl ?_
      refine x_iload_n (p' := 57) hC 4 (dAt dd_X10_group 29 rfl) rfl rfl rfl ?_
      refine x_case 0 (fun q0 => ?_) (fun q0 => ?_)
      · refine x_switch_in (tgt := 92) hC (dAt dd_X10_group 30 rfl) (by rw [q0]; decide) (by rw [q0]; decide) (by rw [q0]; rfl) (by decide) ?_
        refine x_aload_n (p' := 93) hC 2 (dAt dd_X10_group 31 rfl) rfl rfl rfl ?_
        refine x_getR (p' := 96) hC fk_RX10_38 rfl (dAt dd_X10_group 32 rfl) rfl (fun r17 => ?_)
        refine x_getR (p' := 99) hC fk_RX10_211 rfl (dAt dd_X10_group 33 rfl) rfl (fun r18 => ?_)
        refine x_iload_n (p' := 100) hC 3 (dAt dd_X10_group 34 rfl) rfl rfl rfl ?_
        refine x_iaload (p' := 101) hC (dAt dd_X10_group 35 rfl) rfl (fun v19 => ?_)
        exact x_ireturn hC (dAt dd_X10_group 36 rfl)
      refine x_case 1 (fun q1 => ?_) (fun q1 => ?_)
      · refine x_switch_in (tgt := 102) hC (dAt dd_X10_group 30 rfl) (by rw [q1]; decide) (by rw [q1]; decide) (by rw [q1]; rfl) (by decide) ?_
        refine x_aload_n (p' := 103) hC 1 (dAt dd_X10_group 37 rfl) rfl rfl rfl ?_
        refine x_getR (p' := 106) hC fk_RX10_214 rfl (dAt dd_X10_group 38 rfl) rfl (fun r20 => ?_)
        refine x_getR (p' := 109) hC fk_RX10_185 rfl (dAt dd_X10_group 39 rfl) rfl (fun r21 => ?_)
        refine x_iload (p' := 111) hC 0 (dAt dd_X10_group 40 rfl) rfl rfl ?_
        refine x_iaload (p' := 112) hC (dAt dd_X10_group 41 rfl) rfl (fun v22 => ?_)
        exact x_ireturn hC (dAt dd_X10_group 42 rfl)
      refine x_case 2 (fun q2 => ?_) (fun q2 => ?_)
      · refine x_switch_in (tgt := 113) hC (dAt dd_X10_group 30 rfl) (by rw [q2]; decide) (by rw [q2]; decide) (by rw [q2]; rfl) (by decide) ?_
        refine x_aload_n (p' := 114) hC 1 (dAt dd_X10_group 43 rfl) rfl rfl rfl ?_
        refine x_getR (p' := 117) hC fk_RX10_214 rfl (dAt dd_X10_group 44 rfl) rfl (fun r23 => ?_)
        refine x_getR (p' := 120) hC fk_RX10_191 rfl (dAt dd_X10_group 45 rfl) rfl (fun r24 => ?_)
        refine x_iload (p' := 122) hC 0 (dAt dd_X10_group 46 rfl) rfl rfl ?_
        refine x_iaload (p' := 123) hC (dAt dd_X10_group 47 rfl) rfl (fun v25 => ?_)
        exact x_ireturn hC (dAt dd_X10_group 48 rfl)
      refine x_case 3 (fun q3 => ?_) (fun q3 => ?_)
      · refine x_switch_in (tgt := 124) hC (dAt dd_X10_group 30 rfl) (by rw [q3]; decide) (by rw [q3]; decide) (by rw [q3]; rfl) (by decide) ?_
        refine x_aload_n (p' := 125) hC 1 (dAt dd_X10_group 49 rfl) rfl rfl rfl ?_
        refine x_getI (p' := 128) hC fk_RX10_218 rfl (dAt dd_X10_group 50 rfl) rfl (fun v26 => ?_)
        exact x_ireturn hC (dAt dd_X10_group 51 rfl)
      refine x_case 4 (fun q4 => ?_) (fun q4 => ?_)
      · refine x_switch_in (tgt := 129) hC (dAt dd_X10_group 30 rfl) (by rw [q4]; decide) (by rw [q4]; decide) (by rw [q4]; rfl) (by decide) ?_
        refine x_aload_n (p' := 130) hC 1 (dAt dd_X10_group 52 rfl) rfl rfl rfl ?_
        refine x_getI (p' := 133) hC fk_RX10_221 rfl (dAt dd_X10_group 53 rfl) rfl (fun v27 => ?_)
        exact x_ireturn hC (dAt dd_X10_group 54 rfl)
      refine x_switch_out (tgt := 134) hC (dAt dd_X10_group 30 rfl) (by have z0 := lv_neT q0 (show (0 : Int32).toInt = 0 by decide); have z1 := lv_neT q1 (show (1 : Int32).toInt = 1 by decide); have z2 := lv_neT q2 (show (2 : Int32).toInt = 2 by decide); have z3 := lv_neT q3 (show (3 : Int32).toInt = 3 by decide); have z4 := lv_neT q4 (show (4 : Int32).toInt = 4 by decide); omega) (by decide) ?_
      refine x_iload (p' := 136) hC 0 (dAt dd_X10_group 55 rfl) rfl rfl ?_
      exact x_ireturn hC (dAt dd_X10_group 56 rfl)
    · refine x_ldc (v := (-1000001)) (p' := 29) hC (dAt dd_X10_group 12 rfl) k_269 rfl ?_
      exact x_ireturn hC (dAt dd_X10_group 13 rfl)
set_option maxHeartbeats 4000000 in
set_option maxRecDepth 100000 in
theorem c_X10_shape (l : Launch) (D : va_G) (cy : Nat → ClassId) (h : AH) (a0 : Nat) (p1 : Int32) (p2 : Int32) (p3 : Int32) : MX rvI l yX10_shape (Cond.code yX10_shape cX10_shape 6 (some .int) :: LW) 5 116 D cy h [va_rf (some a0), .int p1, .int p2, .int p3] (f_X10_shape h a0 p1 p2 p3) := by
  refine MX.of (lv := [(0, va_rf (some a0)), (1, .int p1), (2, .int p2), (3, .int p3)]) (by decide) (Nat.le_of_ble_eq_true rfl) rfl (fun C hC _ => ?_)
  unfold f_X10_shape
  refine x_aload_n (p' := 1) hC 0 (dAt dd_X10_shape 0 rfl) rfl rfl rfl ?_
  refine x_callVV (As := []) (z := fun b => f_X10_gatherGroups h b) (p' := 4) hC (fun b => c_X10_gatherGroups _ _ _ h b) k_479 k_481 (k_sl 11 rfl) k_1 k_482 hd_X10_gatherGroups ⟨by decide, by decide⟩ (ci := 9) rfl rfl (by decide) rfl (Nat.le_of_ble_eq_true rfl) rfl (dAt dd_X10_shape 1 rfl) rfl (fun u1 h2 => ?_)
  refine x_iload_n (p' := 5) hC 1 (dAt dd_X10_shape 2 rfl) rfl rfl rfl ?_
  refine x_aload_n (p' := 6) hC 0 (dAt dd_X10_shape 3 rfl) rfl rfl rfl ?_
  refine x_getR (p' := 9) hC fk_RX10_38 rfl (dAt dd_X10_shape 4 rfl) rfl (fun r3 => ?_)
  refine x_getI (p' := 12) hC fk_RX10_204 rfl (dAt dd_X10_shape 5 rfl) rfl (fun v4 => ?_)
  refine x_callSI (As := [.int p1, .int v4]) (p' := 15) hC (c_X10_isBelow _ _ _ h2 p1 v4) k_266 k_267 k_1 k_268 hd_X10_isBelow ⟨by decide, by decide⟩ rfl (Nat.le_of_ble_eq_true rfl) rfl (dAt dd_X10_shape 6 rfl) rfl (fun v5 h6 => ?_)
  refine x_if_eq (tgt := 26) (p' := 18) hC (dAt dd_X10_shape 7 rfl) (by decide) rfl ?_ ?_
  · refine x_ldc (v := (-1000001)) (p' := 28) hC (dAt dd_X10_shape 12 rfl) k_269 rfl ?_
    exact x_ireturn hC (dAt dd_X10_shape 13 rfl)
  · refine x_iload_n (p' := 19) hC 2 (dAt dd_X10_shape 8 rfl) rfl rfl rfl ?_
    refine x_iconst (v := 2) (p' := 20) hC (dAt dd_X10_shape 9 rfl) (by decide) rfl ?_
    refine x_callSI (As := [.int p2, .int 2]) (p' := 23) hC (c_X10_isBelow _ _ _ h6 p2 2) k_266 k_267 k_1 k_268 hd_X10_isBelow ⟨by decide, by decide⟩ rfl (Nat.le_of_ble_eq_true rfl) rfl (dAt dd_X10_shape 10 rfl) rfl (fun v7 h8 => ?_)
    refine x_if_ne (tgt := 29) (p' := 26) hC (dAt dd_X10_shape 11 rfl) (by decide) rfl ?_ ?_
    · refine x_aload_n (p' := 30) hC 0 (dAt dd_X10_shape 14 rfl) rfl rfl rfl ?_
      refine x_getR (p' := 33) hC fk_RX10_17 rfl (dAt dd_X10_shape 15 rfl) rfl (fun r9 => ?_)
      refine x_aload_n (p' := 34) hC 0 (dAt dd_X10_shape 16 rfl) rfl rfl rfl ?_
      refine x_getR (p' := 37) hC fk_RX10_38 rfl (dAt dd_X10_shape 17 rfl) rfl (fun r10 => ?_)
      refine x_getR (p' := 40) hC fk_RX10_205 rfl (dAt dd_X10_shape 18 rfl) rfl (fun r11 => ?_)
      refine x_iload_n (p' := 41) hC 1 (dAt dd_X10_shape 19 rfl) rfl rfl rfl ?_
      refine x_iaload (p' := 42) hC (dAt dd_X10_shape 20 rfl) rfl (fun v12 => ?_)
      refine x_aaload 17 5 (p' := 43) hC rfl (by decide) rfl (dAt dd_X10_shape 21 rfl) rfl (fun r13 => ?_)
      refine x_astore (lv' := [(4, va_rf r13), (0, va_rf (some a0)), (1, .int p1), (2, .int p2), (3, .int p3)]) (p' := 45) hC (dAt dd_X10_shape 22 rfl) (by decide) rfl rfl ?_
      refine x_aload_n (p' := 46) hC 1 (dAt dd_X10_shape 23 rfl) rfl rfl rfl ?_
      refine x_getR (p' := 49) hC fk_RX10_38 rfl (dAt dd_X10_shape 24 rfl) rfl (fun r14 => ?_)
      refine x_getR (p' := 52) hC fk_RX10_208 rfl (dAt dd_X10_shape 25 rfl) rfl (fun r15 => ?_)
      refine x_iload_n (p' := 53) hC 2 (dAt dd_X10_shape 26 rfl) rfl rfl rfl ?_
      refine x_iaload (p' := 54) hC (dAt dd_X10_shape 27 rfl) rfl (fun v16 => ?_)
      refine x_istore (lv' := [(5, .int v16), (4, va_rf r13), (0, va_rf (some a0)), (1, .int p1), (2, .int p2), (3, .int p3)]) (p' := 56) hC (dAt dd_X10_shape 28 rfl) (by decide) (by simp [x_cat, show ∀ v : Int32, (Value.int v).category = 1 from fun _ => rfl]) rfl ?_
      refine x_aload (p' := 58) hC 1 (dAt dd_X10_shape 29 rfl) rfl rfl ?_
      refine x_getR (p' := 61) hC fk_RX10_145 rfl (dAt dd_X10_shape 30 rfl) rfl (fun r17 => ?_)
      refine x_ifnull (tgt := 72) (p' := 64) hC (dAt dd_X10_shape 31 rfl) (by decide) rfl (fun _ => ?_) (fun _ _ => ?_)
      · refine x_ldc (v := (-1000001)) (p' := 74) hC (dAt dd_X10_shape 35 rfl) k_269 rfl ?_
        exact x_ireturn hC (dAt dd_X10_shape 36 rfl)
      · refine x_aload (p' := 66) hC 1 (dAt dd_X10_shape 32 rfl) rfl rfl ?_
        refine x_getR (p' := 69) hC fk_RX10_152 rfl (dAt dd_X10_shape 33 rfl) rfl (fun r18 => ?_)
        refine x_ifnonnull (tgt := 75) (p' := 72) hC (dAt dd_X10_shape 34 rfl) (by decide) rfl (fun _ _ => ?_) (fun _ => ?_)
        · refine x_iload_n (p' := 76) hC 4 (dAt dd_X10_shape 37 rfl) rfl rfl rfl ?_
          refine x_if_ne (tgt := 125) (p' := 79) hC (dAt dd_X10_shape 38 rfl) (by decide) rfl ?_ ?_
          · refine x_iload_n (p' := 126) hC 5 (dAt dd_X10_shape 61 rfl) rfl rfl rfl ?_
            refine x_aload (p' := 128) hC 1 (dAt dd_X10_shape 62 rfl) rfl rfl ?_
            refine x_getR (p' := 131) hC fk_RX10_214 rfl (dAt dd_X10_shape 63 rfl) rfl (fun r19 => ?_)
            refine x_getR (p' := 134) hC fk_RX10_191 rfl (dAt dd_X10_shape 64 rfl) rfl (fun r20 => ?_)
            refine x_iload (p' := 136) hC 0 (dAt dd_X10_shape 65 rfl) rfl rfl ?_
            refine x_iaload (p' := 137) hC (dAt dd_X10_shape 66 rfl) rfl (fun v21 => ?_)
            refine x_callSI (As := [.int p3, .int v21]) (p' := 140) hC (c_X10_isBelow _ _ _ h8 p3 v21) k_266 k_267 k_1 k_268 hd_X10_isBelow ⟨by decide, by decide⟩ rfl (Nat.le_of_ble_eq_true rfl) rfl (dAt dd_X10_shape 67 rfl) rfl (fun v22 h23 => ?_)
            refine x_if_eq (tgt := 168) (p' := 143) hC (dAt dd_X10_shape 68 rfl) (by decide) rfl ?_ ?_
            · refine x_ldc (v := (-1000000)) (p' := 170) hC (dAt dd_X10_shape 81 rfl) k_362 rfl ?_
              exact x_ireturn hC (dAt dd_X10_shape 82 rfl)
            · refine x_aload (p' := 145) hC 1 (dAt dd_X10_shape 69 rfl) rfl rfl ?_
              refine x_getR (p' := 148) hC fk_RX10_152 rfl (dAt dd_X10_shape 70 rfl) rfl (fun r24 => ?_)
              refine x_getR (p' := 151) hC fk_RX10_162 rfl (dAt dd_X10_shape 71 rfl) rfl (fun r25 => ?_)
              refine x_aload (p' := 153) hC 1 (dAt dd_X10_shape 72 rfl) rfl rfl ?_
              refine x_getR (p' := 156) hC fk_RX10_214 rfl (dAt dd_X10_shape 73 rfl) rfl (fun r26 => ?_)
              refine x_getR (p' := 159) hC fk_RX10_188 rfl (dAt dd_X10_shape 74 rfl) rfl (fun r27 => ?_)
              refine x_iload (p' := 161) hC 0 (dAt dd_X10_shape 75 rfl) rfl rfl ?_
              refine x_iaload (p' := 162) hC (dAt dd_X10_shape 76 rfl) rfl (fun v28 => ?_)
              refine x_iload_n (p' := 163) hC 5 (dAt dd_X10_shape 77 rfl) rfl rfl rfl ?_
              refine x_iadd (p' := 164) hC (dAt dd_X10_shape 78 rfl) rfl ?_
              refine x_iaload (p' := 165) hC (dAt dd_X10_shape 79 rfl) rfl (fun v29 => ?_)
              refine x_goto (tgt := 170) hC (dAt dd_X10_shape 80 rfl) (by decide) ?_
              exact x_ireturn hC (dAt dd_X10_shape 82 rfl)
          · refine x_iload_n (p' := 80) hC 5 (dAt dd_X10_shape 39 rfl) rfl rfl rfl ?_
            refine x_aload (p' := 82) hC 1 (dAt dd_X10_shape 40 rfl) rfl rfl ?_
            refine x_getR (p' := 85) hC fk_RX10_214 rfl (dAt dd_X10_shape 41 rfl) rfl (fun r30 => ?_)
            refine x_getR (p' := 88) hC fk_RX10_185 rfl (dAt dd_X10_shape 42 rfl) rfl (fun r31 => ?_)
            refine x_iload (p' := 90) hC 0 (dAt dd_X10_shape 43 rfl) rfl rfl ?_
            refine x_iaload (p' := 91) hC (dAt dd_X10_shape 44 rfl) rfl (fun v32 => ?_)
            refine x_callSI (As := [.int p3, .int v32]) (p' := 94) hC (c_X10_isBelow _ _ _ h8 p3 v32) k_266 k_267 k_1 k_268 hd_X10_isBelow ⟨by decide, by decide⟩ rfl (Nat.le_of_ble_eq_true rfl) rfl (dAt dd_X10_shape 45 rfl) rfl (fun v33 h34 => ?_)
            refine x_if_eq (tgt := 122) (p' := 97) hC (dAt dd_X10_shape 46 rfl) (by decide) rfl ?_ ?_
            · refine x_ldc (v := (-1000000)) (p' := 124) hC (dAt dd_X10_shape 59 rfl) k_362 rfl ?_
              exact x_ireturn hC (dAt dd_X10_shape 60 rfl)
            · refine x_aload (p' := 99) hC 1 (dAt dd_X10_shape 47 rfl) rfl rfl ?_
              refine x_getR (p' := 102) hC fk_RX10_145 rfl (dAt dd_X10_shape 48 rfl) rfl (fun r35 => ?_)
              refine x_getR (p' := 105) hC fk_RX10_162 rfl (dAt dd_X10_shape 49 rfl) rfl (fun r36 => ?_)
              refine x_aload (p' := 107) hC 1 (dAt dd_X10_shape 50 rfl) rfl rfl ?_
              refine x_getR (p' := 110) hC fk_RX10_214 rfl (dAt dd_X10_shape 51 rfl) rfl (fun r37 => ?_)
              refine x_getR (p' := 113) hC fk_RX10_182 rfl (dAt dd_X10_shape 52 rfl) rfl (fun r38 => ?_)
              refine x_iload (p' := 115) hC 0 (dAt dd_X10_shape 53 rfl) rfl rfl ?_
              refine x_iaload (p' := 116) hC (dAt dd_X10_shape 54 rfl) rfl (fun v39 => ?_)
              refine x_iload_n (p' := 117) hC 5 (dAt dd_X10_shape 55 rfl) rfl rfl rfl ?_
              refine x_iadd (p' := 118) hC (dAt dd_X10_shape 56 rfl) rfl ?_
              refine x_iaload (p' := 119) hC (dAt dd_X10_shape 57 rfl) rfl (fun v40 => ?_)
              refine x_goto (tgt := 124) hC (dAt dd_X10_shape 58 rfl) (by decide) ?_
              exact x_ireturn hC (dAt dd_X10_shape 60 rfl)
        · refine x_ldc (v := (-1000001)) (p' := 74) hC (dAt dd_X10_shape 35 rfl) k_269 rfl ?_
          exact x_ireturn hC (dAt dd_X10_shape 36 rfl)
    · refine x_ldc (v := (-1000001)) (p' := 28) hC (dAt dd_X10_shape 12 rfl) k_269 rfl ?_
      exact x_ireturn hC (dAt dd_X10_shape 13 rfl)
set_option maxHeartbeats 4000000 in
set_option maxRecDepth 100000 in
theorem c_X10_look (l : Launch) (D : va_G) (cy : Nat → ClassId) (h : AH) (a0 : Nat) (p1 : Int32) (p2 : Int32) (p3 : Int32) (p4 : Int32) : MX rvI l yX10_look (Cond.code yX10_look cX10_look 6 (some .int) :: LW) 4 93 D cy h [va_rf (some a0), .int p1, .int p2, .int p3, .int p4] (f_X10_look h a0 p1 p2 p3 p4) := by
  refine MX.of (lv := [(0, va_rf (some a0)), (1, .int p1), (2, .int p2), (3, .int p3), (4, .int p4)]) (by decide) (Nat.le_of_ble_eq_true rfl) rfl (fun C hC _ => ?_)
  unfold f_X10_look
  refine x_iload_n (p' := 1) hC 2 (dAt dd_X10_look 0 rfl) rfl rfl rfl ?_
  refine x_iload_n (p' := 2) hC 3 (dAt dd_X10_look 1 rfl) rfl rfl rfl ?_
  refine x_callSI (As := [.int p2, .int p3]) (p' := 5) hC (c_X10_slotAt _ _ _ h p2 p3) k_367 k_368 k_1 k_369 hd_X10_slotAt ⟨by decide, by decide⟩ rfl (Nat.le_of_ble_eq_true rfl) rfl (dAt dd_X10_look 2 rfl) rfl (fun v1 h2 => ?_)
  refine x_istore (lv' := [(5, .int v1), (0, va_rf (some a0)), (1, .int p1), (2, .int p2), (3, .int p3), (4, .int p4)]) (p' := 7) hC (dAt dd_X10_look 3 rfl) (by decide) rfl rfl ?_
  refine x_iload_n (p' := 8) hC 2 (dAt dd_X10_look 4 rfl) rfl rfl rfl ?_
  refine x_iconst (v := 4) (p' := 9) hC (dAt dd_X10_look 5 rfl) (by decide) rfl ?_
  refine x_callSI (As := [.int p1, .int 4]) (p' := 12) hC (c_X10_isBelow _ _ _ h2 p1 4) k_266 k_267 k_1 k_268 hd_X10_isBelow ⟨by decide, by decide⟩ rfl (Nat.le_of_ble_eq_true rfl) rfl (dAt dd_X10_look 6 rfl) rfl (fun v3 h4 => ?_)
  refine x_if_eq (tgt := 20) (p' := 15) hC (dAt dd_X10_look 7 rfl) (by decide) rfl ?_ ?_
  · refine x_ldc (v := (-1000001)) (p' := 22) hC (dAt dd_X10_look 10 rfl) k_269 rfl ?_
    exact x_ireturn hC (dAt dd_X10_look 11 rfl)
  · refine x_iload (p' := 17) hC 0 (dAt dd_X10_look 8 rfl) rfl rfl ?_
    refine x_if_ge (tgt := 23) (p' := 20) hC (dAt dd_X10_look 9 rfl) (by decide) rfl ?_ ?_
    · refine x_iload (p' := 25) hC 5 (dAt dd_X10_look 12 rfl) rfl rfl ?_
      refine x_aload_n (p' := 26) hC 1 (dAt dd_X10_look 13 rfl) rfl rfl rfl ?_
      refine x_iload (p' := 28) hC 0 (dAt dd_X10_look 14 rfl) rfl rfl ?_
      refine x_callVR (As := [.int v1]) (z := fun b => f_X10_changesAt h4 b v1) (p' := 31) hC (fun b => c_X10_changesAt _ _ _ h4 b v1) k_450 k_452 (k_sl 10 rfl) k_1 k_453 hd_X10_changesAt ⟨by decide, by decide⟩ (ci := 9) rfl rfl (by decide) rfl (Nat.le_of_ble_eq_true rfl) rfl (dAt dd_X10_look 15 rfl) rfl (fun r5 h6 => ?_)
      refine x_getI (p' := 34) hC fk_RX10_179 rfl (dAt dd_X10_look 16 rfl) rfl (fun v7 => ?_)
      refine x_callSI (As := [.int p4, .int v7]) (p' := 37) hC (c_X10_isBelow _ _ _ h6 p4 v7) k_266 k_267 k_1 k_268 hd_X10_isBelow ⟨by decide, by decide⟩ rfl (Nat.le_of_ble_eq_true rfl) rfl (dAt dd_X10_look 17 rfl) rfl (fun v8 h9 => ?_)
      refine x_if_ne (tgt := 43) (p' := 40) hC (dAt dd_X10_look 18 rfl) (by decide) rfl ?_ ?_
      · refine x_aload_n (p' := 44) hC 1 (dAt dd_X10_look 21 rfl) rfl rfl rfl ?_
        refine x_getR (p' := 47) hC fk_RX10_17 rfl (dAt dd_X10_look 22 rfl) rfl (fun r10 => ?_)
        refine x_iload (p' := 49) hC 0 (dAt dd_X10_look 23 rfl) rfl rfl ?_
        refine x_aaload 17 5 (p' := 50) hC rfl (by decide) rfl (dAt dd_X10_look 24 rfl) rfl (fun r11 => ?_)
        refine x_iload_n (p' := 51) hC 2 (dAt dd_X10_look 25 rfl) rfl rfl rfl ?_
        refine x_iload (p' := 53) hC 5 (dAt dd_X10_look 26 rfl) rfl rfl ?_
        refine x_callVV (As := [.int p1, .int p4]) (z := fun b => f_X8_lookAt h9 b p1 p4) (p' := 56) hC (fun b => c_X8_lookAt _ _ _ h9 b p1 p4) k_512 k_513 k_514 k_7 k_515 hd_X8_lookAt ⟨by decide, by decide⟩ (ci := 8) rfl rfl (by decide) rfl (Nat.le_of_ble_eq_true rfl) rfl (dAt dd_X10_look 27 rfl) rfl (fun u12 h13 => ?_)
        refine x_aload_n (p' := 57) hC 1 (dAt dd_X10_look 28 rfl) rfl rfl rfl ?_
        refine x_getR (p' := 60) hC fk_RX10_17 rfl (dAt dd_X10_look 29 rfl) rfl (fun r14 => ?_)
        refine x_iload (p' := 62) hC 0 (dAt dd_X10_look 30 rfl) rfl rfl ?_
        refine x_aaload 17 5 (p' := 63) hC rfl (by decide) rfl (dAt dd_X10_look 31 rfl) rfl (fun r15 => ?_)
        refine x_iload_n (p' := 64) hC 2 (dAt dd_X10_look 32 rfl) rfl rfl rfl ?_
        refine x_callVI (As := [.int p1]) (z := fun b => f_X8_looksOf h13 b p1) (p' := 67) hC (fun b => c_X8_looksOf _ _ _ h13 b p1) k_525 k_526 k_527 k_7 k_528 hd_X8_looksOf ⟨by decide, by decide⟩ (ci := 8) rfl rfl (by decide) rfl (Nat.le_of_ble_eq_true rfl) rfl (dAt dd_X10_look 33 rfl) rfl (fun v16 h17 => ?_)
        exact x_ireturn hC (dAt dd_X10_look 34 rfl)
      · refine x_ldc (v := (-1000001)) (p' := 42) hC (dAt dd_X10_look 19 rfl) k_269 rfl ?_
        exact x_ireturn hC (dAt dd_X10_look 20 rfl)
    · refine x_ldc (v := (-1000001)) (p' := 22) hC (dAt dd_X10_look 10 rfl) k_269 rfl ?_
      exact x_ireturn hC (dAt dd_X10_look 11 rfl)
set_option maxHeartbeats 4000000 in
set_option maxRecDepth 100000 in
theorem c_X10_enter (l : Launch) (D : va_G) (cy : Nat → ClassId) (h : AH) (a0 : Nat) (p1 : Option Nat) (p2 : Int32) (p3 : Int32) (p4 : Int32) : MX rvV l yX10_enter (Cond.code yX10_enter cX10_enter 6 none :: LW) 3 90 D cy h [va_rf (some a0), va_rf p1, .int p2, .int p3, .int p4] (f_X10_enter h a0 p1 p2 p3 p4) := by
  refine MX.of (lv := [(0, va_rf (some a0)), (1, va_rf p1), (2, .int p2), (3, .int p3), (4, .int p4)]) (by decide) (by cases p1 <;> exact Nat.le_of_ble_eq_true rfl) (by cases p1 <;> rfl) (fun C hC _ => ?_)
  unfold f_X10_enter
  refine x_aload_n (p' := 1) hC 0 (dAt dd_X10_enter 0 rfl) rfl rfl rfl ?_
  refine x_getR (p' := 4) hC fk_RX10_17 rfl (dAt dd_X10_enter 1 rfl) rfl (fun r1 => ?_)
  refine x_iload_n (p' := 5) hC 2 (dAt dd_X10_enter 2 rfl) rfl rfl rfl ?_
  refine x_aaload 17 5 (p' := 6) hC rfl (by decide) rfl (dAt dd_X10_enter 3 rfl) rfl (fun r2 => ?_)
  refine x_astore (lv' := [(5, va_rf r2), (0, va_rf (some a0)), (1, va_rf p1), (2, .int p2), (3, .int p3), (4, .int p4)]) (p' := 8) hC (dAt dd_X10_enter 4 rfl) (by decide) rfl rfl ?_
  refine x_aload_n (p' := 9) hC 2 (dAt dd_X10_enter 5 rfl) rfl rfl rfl ?_
  refine x_dup (p' := 10) hC (dAt dd_X10_enter 6 rfl) (x_cat _) rfl ?_
  refine x_getI (p' := 13) hC fk_RX10_272 rfl (dAt dd_X10_enter 7 rfl) rfl (fun v3 => ?_)
  refine x_aload (p' := 15) hC 0 (dAt dd_X10_enter 8 rfl) rfl rfl ?_
  refine x_getR (p' := 18) hC fk_RX10_214 rfl (dAt dd_X10_enter 9 rfl) rfl (fun r4 => ?_)
  refine x_iload_n (p' := 19) hC 4 (dAt dd_X10_enter 10 rfl) rfl rfl rfl ?_
  refine x_iload (p' := 21) hC 5 (dAt dd_X10_enter 11 rfl) rfl rfl ?_
  refine x_callVI (As := [.int p3, .int p4]) (z := fun b => f_X1_countOf h b p3 p4) (p' := 24) hC (fun b => c_X1_countOf _ _ _ h b p3 p4) k_599 k_600 k_601 k_8 k_602 hd_X1_countOf ⟨by decide, by decide⟩ (ci := 1) rfl rfl (by decide) rfl (by cases p1 <;> exact Nat.le_of_ble_eq_true rfl) rfl (dAt dd_X10_enter 12 rfl) rfl (fun v5 h6 => ?_)
  refine x_iadd (p' := 25) hC (dAt dd_X10_enter 13 rfl) rfl ?_
  refine x_putI (p' := 28) hC fk_RX10_272 tk_RX4 rfl rfl (Or.inl rfl) (dAt dd_X10_enter 14 rfl) rfl (fun h7 => ?_)
  refine x_aload_n (p' := 29) hC 2 (dAt dd_X10_enter 15 rfl) rfl rfl rfl ?_
  refine x_dup (p' := 30) hC (dAt dd_X10_enter 16 rfl) (x_cat _) rfl ?_
  refine x_getI (p' := 33) hC fk_RX10_274 rfl (dAt dd_X10_enter 17 rfl) rfl (fun v8 => ?_)
  refine x_aload (p' := 35) hC 0 (dAt dd_X10_enter 18 rfl) rfl rfl ?_
  refine x_aload_n (p' := 36) hC 2 (dAt dd_X10_enter 19 rfl) rfl rfl rfl ?_
  refine x_getI (p' := 39) hC fk_RX10_266 rfl (dAt dd_X10_enter 20 rfl) rfl (fun v9 => ?_)
  refine x_iload_n (p' := 40) hC 4 (dAt dd_X10_enter 21 rfl) rfl rfl rfl ?_
  refine x_iload (p' := 42) hC 5 (dAt dd_X10_enter 22 rfl) rfl rfl ?_
  refine x_callVI (As := [.int v9, .int p3, .int p4]) (z := fun b => f_X8_unseenOf h7 b v9 p3 p4) (p' := 45) hC (fun b => c_X8_unseenOf _ _ _ h7 b v9 p3 p4) k_604 k_605 k_606 k_7 k_607 hd_X8_unseenOf ⟨by decide, by decide⟩ (ci := 8) rfl rfl (by decide) rfl (by cases p1 <;> exact Nat.le_of_ble_eq_true rfl) rfl (dAt dd_X10_enter 23 rfl) rfl (fun v10 h11 => ?_)
  refine x_iadd (p' := 46) hC (dAt dd_X10_enter 24 rfl) rfl ?_
  refine x_putI (p' := 49) hC fk_RX10_274 tk_RX4 rfl rfl (Or.inl rfl) (dAt dd_X10_enter 25 rfl) rfl (fun h12 => ?_)
  refine x_aload_n (p' := 50) hC 2 (dAt dd_X10_enter 26 rfl) rfl rfl rfl ?_
  refine x_iload_n (p' := 51) hC 3 (dAt dd_X10_enter 27 rfl) rfl rfl rfl ?_
  refine x_aload (p' := 53) hC 0 (dAt dd_X10_enter 28 rfl) rfl rfl ?_
  refine x_getR (p' := 56) hC fk_RX10_145 rfl (dAt dd_X10_enter 29 rfl) rfl (fun r13 => ?_)
  refine x_callVV (As := [.int p2, va_rf r13]) (z := fun b => f_X4_remember h12 b p2 r13) (p' := 59) hC (fun b => c_X4_remember _ _ _ h12 b p2 r13) k_609 k_610 k_611 k_16 k_612 hd_X4_remember ⟨by decide, by decide⟩ (ci := 4) rfl rfl (by decide) rfl (Nat.le_of_ble_eq_true rfl) rfl (dAt dd_X10_enter 30 rfl) rfl (fun u14 h15 => ?_)
  refine x_aload_n (p' := 60) hC 1 (dAt dd_X10_enter 31 rfl) rfl rfl rfl ?_
  refine x_getR (p' := 63) hC fk_RX10_31 rfl (dAt dd_X10_enter 32 rfl) rfl (fun r16 => ?_)
  refine x_aload (p' := 65) hC 0 (dAt dd_X10_enter 33 rfl) rfl rfl ?_
  refine x_iload_n (p' := 66) hC 4 (dAt dd_X10_enter 34 rfl) rfl rfl rfl ?_
  refine x_iload (p' := 68) hC 5 (dAt dd_X10_enter 35 rfl) rfl rfl ?_
  refine x_callVV (As := [va_rf r2, .int p3, .int p4]) (z := fun b => f_X3_write h15 b r2 p3 p4) (p' := 71) hC (fun b => c_X3_write _ _ _ h15 b r2 p3 p4) k_533 k_534 k_535 k_3 k_536 hd_X3_write ⟨by decide, by decide⟩ (ci := 3) rfl rfl (by decide) rfl (Nat.le_of_ble_eq_true rfl) rfl (dAt dd_X10_enter 36 rfl) rfl (fun u17 h18 => ?_)
  refine x_aload (p' := 73) hC 0 (dAt dd_X10_enter 37 rfl) rfl rfl ?_
  refine x_aload_n (p' := 74) hC 1 (dAt dd_X10_enter 38 rfl) rfl rfl rfl ?_
  refine x_getR (p' := 77) hC fk_RX10_31 rfl (dAt dd_X10_enter 39 rfl) rfl (fun r19 => ?_)
  refine x_callVR (As := []) (z := fun b => f_X3_toAnswer h18 b) (p' := 80) hC (fun b => c_X3_toAnswer _ _ _ h18 b) k_613 k_614 k_615 k_3 k_616 hd_X3_toAnswer ⟨by decide, by decide⟩ (ci := 3) rfl rfl (by decide) rfl (by cases r2 <;> exact Nat.le_of_ble_eq_true rfl) rfl (dAt dd_X10_enter 40 rfl) rfl (fun r20 h21 => ?_)
  refine x_putR (p' := 83) hC fk_RX10_145 tk_RX8 rfl (Or.inl ⟨_, rfl⟩) (Or.inl rfl) (dAt dd_X10_enter 41 rfl) rfl (fun h22 => ?_)
  refine x_aload_n (p' := 84) hC 1 (dAt dd_X10_enter 42 rfl) rfl rfl rfl ?_
  refine x_iload_n (p' := 85) hC 3 (dAt dd_X10_enter 43 rfl) rfl rfl rfl ?_
  refine x_callVV (As := [.int p2]) (z := fun b => f_X10_touch h22 b p2) (p' := 88) hC (fun b => c_X10_touch _ _ _ h22 b p2) k_404 k_406 (k_sl 9 rfl) k_1 k_407 hd_X10_touch ⟨by decide, by decide⟩ (ci := 9) rfl rfl (by decide) rfl (Nat.le_of_ble_eq_true rfl) rfl (dAt dd_X10_enter 44 rfl) rfl (fun u23 h24 => ?_)
  exact x_return hC (dAt dd_X10_enter 45 rfl)
set_option maxHeartbeats 4000000 in
set_option maxRecDepth 100000 in
theorem c_X10_addToBook (l : Launch) (D : va_G) (cy : Nat → ClassId) (h : AH) (a0 : Nat) (p1 : Option Nat) : MX rvI l yX10_addToBook (Cond.code yX10_addToBook cX10_addToBook 2 (some .int) :: LW) 0 0 D cy h [va_rf (some a0), va_rf p1] (f_X10_addToBook h a0 p1) := by
  refine MX.of (lv := [(0, va_rf (some a0)), (1, va_rf p1)]) (by decide) (by cases p1 <;> exact Nat.le_of_ble_eq_true rfl) (by cases p1 <;> rfl) (fun C hC _ => ?_)
  unfold f_X10_addToBook
  refine x_aload_n (p' := 1) hC 0 (dAt dd_X10_addToBook 0 rfl) rfl rfl rfl ?_
  refine x_getI (p' := 4) hC fk_RX10_52 rfl (dAt dd_X10_addToBook 1 rfl) rfl (fun v1 => ?_)
  refine x_bipush (v := 100) (p' := 6) hC (dAt dd_X10_addToBook 2 rfl) (by decide) rfl ?_
  refine x_icmp_lt (tgt := 12) (p' := 9) hC (dAt dd_X10_addToBook 3 rfl) (by decide) rfl ?_ ?_
  · refine x_aload_n (p' := 13) hC 0 (dAt dd_X10_addToBook 6 rfl) rfl rfl rfl ?_
    refine x_getR (p' := 16) hC fk_RX10_48 rfl (dAt dd_X10_addToBook 7 rfl) rfl (fun r2 => ?_)
    refine x_aload_n (p' := 17) hC 0 (dAt dd_X10_addToBook 8 rfl) rfl rfl rfl ?_
    refine x_getI (p' := 20) hC fk_RX10_52 rfl (dAt dd_X10_addToBook 9 rfl) rfl (fun v3 => ?_)
    refine x_aload_n (p' := 21) hC 1 (dAt dd_X10_addToBook 10 rfl) rfl rfl rfl ?_
    refine x_aastore 15 3 4 (w := (RX4, TX4, 8)) (p' := 22) hC rfl rfl (by decide) (by decide) (dAt dd_X10_addToBook 11 rfl) rfl (fun h4 => ?_)
    refine x_aload_n (p' := 23) hC 0 (dAt dd_X10_addToBook 12 rfl) rfl rfl rfl ?_
    refine x_dup (p' := 24) hC (dAt dd_X10_addToBook 13 rfl) (x_cat _) rfl ?_
    refine x_getI (p' := 27) hC fk_RX10_52 rfl (dAt dd_X10_addToBook 14 rfl) rfl (fun v5 => ?_)
    refine x_iconst (v := 1) (p' := 28) hC (dAt dd_X10_addToBook 15 rfl) (by decide) rfl ?_
    refine x_iadd (p' := 29) hC (dAt dd_X10_addToBook 16 rfl) rfl ?_
    refine x_putI (p' := 32) hC fk_RX10_52 tk_RX10 rfl rfl (Or.inl rfl) (dAt dd_X10_addToBook 17 rfl) rfl (fun h6 => ?_)
    refine x_aload_n (p' := 33) hC 0 (dAt dd_X10_addToBook 18 rfl) rfl rfl rfl ?_
    refine x_getI (p' := 36) hC fk_RX10_52 rfl (dAt dd_X10_addToBook 19 rfl) rfl (fun v7 => ?_)
    refine x_iconst (v := 1) (p' := 37) hC (dAt dd_X10_addToBook 20 rfl) (by decide) rfl ?_
    refine x_isub (p' := 38) hC (dAt dd_X10_addToBook 21 rfl) rfl ?_
    exact x_ireturn hC (dAt dd_X10_addToBook 22 rfl)
  · refine x_ldc (v := (-1000003)) (p' := 11) hC (dAt dd_X10_addToBook 4 rfl) k_551 rfl ?_
    exact x_ireturn hC (dAt dd_X10_addToBook 5 rfl)
set_option maxHeartbeats 4000000 in
set_option maxRecDepth 100000 in
theorem c_X10_approve (l : Launch) (D : va_G) (cy : Nat → ClassId) (h : AH) (a0 : Nat) (p1 : Int32) (p2 : Int32) (p3 : Int32) (p4 : Int32) (p5 : Int32) : MX rvI l yX10_approve (Cond.code yX10_approve cX10_approve 8 (some .int) :: LW) 4 115 D cy h [va_rf (some a0), .int p1, .int p2, .int p3, .int p4, .int p5] (f_X10_approve h a0 p1 p2 p3 p4 p5) := by
  refine MX.of (lv := [(0, va_rf (some a0)), (1, .int p1), (2, .int p2), (3, .int p3), (4, .int p4), (5, .int p5)]) (by decide) (Nat.le_of_ble_eq_true rfl) rfl (fun C hC _ => ?_)
  unfold f_X10_approve
  refine x_iload_n (p' := 1) hC 2 (dAt dd_X10_approve 0 rfl) rfl rfl rfl ?_
  refine x_iload_n (p' := 2) hC 3 (dAt dd_X10_approve 1 rfl) rfl rfl rfl ?_
  refine x_callSI (As := [.int p2, .int p3]) (p' := 5) hC (c_X10_slotAt _ _ _ h p2 p3) k_367 k_368 k_1 k_369 hd_X10_slotAt ⟨by decide, by decide⟩ rfl (Nat.le_of_ble_eq_true rfl) rfl (dAt dd_X10_approve 2 rfl) rfl (fun v1 h2 => ?_)
  refine x_istore (lv' := [(6, .int v1), (0, va_rf (some a0)), (1, .int p1), (2, .int p2), (3, .int p3), (4, .int p4), (5, .int p5)]) (p' := 7) hC (dAt dd_X10_approve 3 rfl) (by decide) rfl rfl ?_
  refine x_iload_n (p' := 8) hC 2 (dAt dd_X10_approve 4 rfl) rfl rfl rfl ?_
  refine x_iconst (v := 4) (p' := 9) hC (dAt dd_X10_approve 5 rfl) (by decide) rfl ?_
  refine x_callSI (As := [.int p1, .int 4]) (p' := 12) hC (c_X10_isBelow _ _ _ h2 p1 4) k_266 k_267 k_1 k_268 hd_X10_isBelow ⟨by decide, by decide⟩ rfl (Nat.le_of_ble_eq_true rfl) rfl (dAt dd_X10_approve 6 rfl) rfl (fun v3 h4 => ?_)
  refine x_if_eq (tgt := 29) (p' := 15) hC (dAt dd_X10_approve 7 rfl) (by decide) rfl ?_ ?_
  · refine x_ldc (v := (-1000001)) (p' := 31) hC (dAt dd_X10_approve 14 rfl) k_269 rfl ?_
    exact x_ireturn hC (dAt dd_X10_approve 15 rfl)
  · refine x_iload (p' := 17) hC 0 (dAt dd_X10_approve 8 rfl) rfl rfl ?_
    refine x_if_lt (tgt := 29) (p' := 20) hC (dAt dd_X10_approve 9 rfl) (by decide) rfl ?_ ?_
    · refine x_ldc (v := (-1000001)) (p' := 31) hC (dAt dd_X10_approve 14 rfl) k_269 rfl ?_
      exact x_ireturn hC (dAt dd_X10_approve 15 rfl)
    · refine x_iload (p' := 22) hC 6 (dAt dd_X10_approve 10 rfl) rfl rfl ?_
      refine x_iconst (v := 2) (p' := 23) hC (dAt dd_X10_approve 11 rfl) (by decide) rfl ?_
      refine x_callSI (As := [.int p5, .int 2]) (p' := 26) hC (c_X10_isBelow _ _ _ h4 p5 2) k_266 k_267 k_1 k_268 hd_X10_isBelow ⟨by decide, by decide⟩ rfl (Nat.le_of_ble_eq_true rfl) rfl (dAt dd_X10_approve 12 rfl) rfl (fun v5 h6 => ?_)
      refine x_if_ne (tgt := 32) (p' := 29) hC (dAt dd_X10_approve 13 rfl) (by decide) rfl ?_ ?_
      · refine x_iload (p' := 34) hC 5 (dAt dd_X10_approve 16 rfl) rfl rfl ?_
        refine x_aload_n (p' := 35) hC 1 (dAt dd_X10_approve 17 rfl) rfl rfl rfl ?_
        refine x_iload (p' := 37) hC 0 (dAt dd_X10_approve 18 rfl) rfl rfl ?_
        refine x_callVR (As := [.int v1]) (z := fun b => f_X10_changesAt h6 b v1) (p' := 40) hC (fun b => c_X10_changesAt _ _ _ h6 b v1) k_450 k_452 (k_sl 10 rfl) k_1 k_453 hd_X10_changesAt ⟨by decide, by decide⟩ (ci := 9) rfl rfl (by decide) rfl (Nat.le_of_ble_eq_true rfl) rfl (dAt dd_X10_approve 19 rfl) rfl (fun r7 h8 => ?_)
        refine x_getI (p' := 43) hC fk_RX10_179 rfl (dAt dd_X10_approve 20 rfl) rfl (fun v9 => ?_)
        refine x_callSI (As := [.int p4, .int v9]) (p' := 46) hC (c_X10_isBelow _ _ _ h8 p4 v9) k_266 k_267 k_1 k_268 hd_X10_isBelow ⟨by decide, by decide⟩ rfl (Nat.le_of_ble_eq_true rfl) rfl (dAt dd_X10_approve 21 rfl) rfl (fun v10 h11 => ?_)
        refine x_if_ne (tgt := 52) (p' := 49) hC (dAt dd_X10_approve 22 rfl) (by decide) rfl ?_ ?_
        · refine x_aload_n (p' := 53) hC 1 (dAt dd_X10_approve 25 rfl) rfl rfl rfl ?_
          refine x_getR (p' := 56) hC fk_RX10_31 rfl (dAt dd_X10_approve 26 rfl) rfl (fun r12 => ?_)
          refine x_aload_n (p' := 57) hC 1 (dAt dd_X10_approve 27 rfl) rfl rfl rfl ?_
          refine x_getR (p' := 60) hC fk_RX10_17 rfl (dAt dd_X10_approve 28 rfl) rfl (fun r13 => ?_)
          refine x_iload (p' := 62) hC 0 (dAt dd_X10_approve 29 rfl) rfl rfl ?_
          refine x_aaload 17 5 (p' := 63) hC rfl (by decide) rfl (dAt dd_X10_approve 30 rfl) rfl (fun r14 => ?_)
          refine x_iload (p' := 65) hC 5 (dAt dd_X10_approve 31 rfl) rfl rfl ?_
          refine x_iconst (v := (-1)) (p' := 66) hC (dAt dd_X10_approve 32 rfl) (by decide) rfl ?_
          refine x_callVV (As := [va_rf r14, .int p4, .int (-1)]) (z := fun b => f_X3_write h11 b r14 p4 (-1)) (p' := 69) hC (fun b => c_X3_write _ _ _ h11 b r14 p4 (-1)) k_533 k_534 k_535 k_3 k_536 hd_X3_write ⟨by decide, by decide⟩ (ci := 3) rfl rfl (by decide) rfl (Nat.le_of_ble_eq_true rfl) rfl (dAt dd_X10_approve 33 rfl) rfl (fun u15 h16 => ?_)
          refine x_aload_n (p' := 70) hC 1 (dAt dd_X10_approve 34 rfl) rfl rfl rfl ?_
          refine x_getR (p' := 73) hC fk_RX10_31 rfl (dAt dd_X10_approve 35 rfl) rfl (fun r17 => ?_)
          refine x_callVI (As := []) (z := fun b => f_X3_isAnswer h16 b) (p' := 76) hC (fun b => c_X3_isAnswer _ _ _ h16 b) k_546 k_547 k_548 k_3 k_549 hd_X3_isAnswer ⟨by decide, by decide⟩ (ci := 3) rfl rfl (by decide) rfl (Nat.le_of_ble_eq_true rfl) rfl (dAt dd_X10_approve 36 rfl) rfl (fun v18 h19 => ?_)
          refine x_if_ne (tgt := 82) (p' := 79) hC (dAt dd_X10_approve 37 rfl) (by decide) rfl ?_ ?_
          · refine x_aload_n (p' := 83) hC 1 (dAt dd_X10_approve 40 rfl) rfl rfl rfl ?_
            refine x_getI (p' := 86) hC fk_RX10_52 rfl (dAt dd_X10_approve 41 rfl) rfl (fun v20 => ?_)
            refine x_bipush (v := 100) (p' := 88) hC (dAt dd_X10_approve 42 rfl) (by decide) rfl ?_
            refine x_icmp_lt (tgt := 94) (p' := 91) hC (dAt dd_X10_approve 43 rfl) (by decide) rfl ?_ ?_
            · refine x_aload_n (p' := 95) hC 1 (dAt dd_X10_approve 46 rfl) rfl rfl rfl ?_
              refine x_getR (p' := 98) hC fk_RX10_17 rfl (dAt dd_X10_approve 47 rfl) rfl (fun r21 => ?_)
              refine x_iload (p' := 100) hC 0 (dAt dd_X10_approve 48 rfl) rfl rfl ?_
              refine x_aaload 17 5 (p' := 101) hC rfl (by decide) rfl (dAt dd_X10_approve 49 rfl) rfl (fun r22 => ?_)
              refine x_iload_n (p' := 102) hC 2 (dAt dd_X10_approve 50 rfl) rfl rfl rfl ?_
              refine x_iload (p' := 104) hC 5 (dAt dd_X10_approve 51 rfl) rfl rfl ?_
              refine x_callVV (As := [.int p1, .int p4]) (z := fun b => f_X8_lookAt h19 b p1 p4) (p' := 107) hC (fun b => c_X8_lookAt _ _ _ h19 b p1 p4) k_512 k_513 k_514 k_7 k_515 hd_X8_lookAt ⟨by decide, by decide⟩ (ci := 8) rfl rfl (by decide) rfl (Nat.le_of_ble_eq_true rfl) rfl (dAt dd_X10_approve 52 rfl) rfl (fun u23 h24 => ?_)
              refine x_new (ci := 4) (p' := 110) hC in_RX4 rfl rfl (by decide) tk_RX4 df_RX4 k_78 k_552 k_16 (dAt dd_X10_approve 53 rfl) rfl (fun a25 h26 => ?_)
              refine x_dup (p' := 111) hC (dAt dd_X10_approve 54 rfl) (x_cat _) rfl ?_
              refine x_iload_n (p' := 112) hC 2 (dAt dd_X10_approve 55 rfl) rfl rfl rfl ?_
              refine x_iload (p' := 114) hC 6 (dAt dd_X10_approve 56 rfl) rfl rfl ?_
              refine x_iconst (v := 1) (p' := 115) hC (dAt dd_X10_approve 57 rfl) (by decide) rfl ?_
              refine x_callIV (As := [.int p1, .int p5, .int 1]) (b := a25) (p' := 118) hC (c_X4_init _ _ _ h26 a25 p1 p5 1) k_555 k_16 k_553 k_554 rfl hd_X4_init ⟨by decide, by decide⟩ rfl (Nat.le_of_ble_eq_true rfl) rfl (dAt dd_X10_approve 58 rfl) rfl (fun u27 h28 => ?_)
              refine x_astore (lv' := [(7, va_rf (some a25)), (6, .int v1), (0, va_rf (some a0)), (1, .int p1), (2, .int p2), (3, .int p3), (4, .int p4), (5, .int p5)]) (p' := 120) hC (dAt dd_X10_approve 59 rfl) (by decide) rfl rfl ?_
              refine x_aload_n (p' := 121) hC 2 (dAt dd_X10_approve 60 rfl) rfl rfl rfl ?_
              refine x_aload (p' := 123) hC 0 (dAt dd_X10_approve 61 rfl) rfl rfl ?_
              refine x_iload (p' := 125) hC 1 (dAt dd_X10_approve 62 rfl) rfl rfl ?_
              refine x_iload (p' := 127) hC 6 (dAt dd_X10_approve 63 rfl) rfl rfl ?_
              refine x_iconst (v := (-1)) (p' := 128) hC (dAt dd_X10_approve 64 rfl) (by decide) rfl ?_
              refine x_callVV (As := [va_rf (some a25), .int v1, .int p4, .int (-1)]) (z := fun b => f_X10_enter h28 b (some a25) v1 p4 (-1)) (p' := 131) hC (fun b => c_X10_enter _ _ _ h28 b (some a25) v1 p4 (-1)) k_595 k_597 (k_sl 15 rfl) k_1 k_598 hd_X10_enter ⟨by decide, by decide⟩ (ci := 9) rfl rfl (by decide) rfl (Nat.le_of_ble_eq_true rfl) rfl (dAt dd_X10_approve 65 rfl) rfl (fun u29 h30 => ?_)
              refine x_aload_n (p' := 132) hC 2 (dAt dd_X10_approve 66 rfl) rfl rfl rfl ?_
              refine x_aload (p' := 134) hC 0 (dAt dd_X10_approve 67 rfl) rfl rfl ?_
              refine x_callVI (As := [va_rf (some a25)]) (z := fun b => f_X10_addToBook h30 b (some a25)) (p' := 137) hC (fun b => c_X10_addToBook _ _ _ h30 b (some a25)) k_620 k_622 (k_sl 16 rfl) k_1 k_623 hd_X10_addToBook ⟨by decide, by decide⟩ (ci := 9) rfl rfl (by decide) rfl (Nat.le_of_ble_eq_true rfl) rfl (dAt dd_X10_approve 68 rfl) rfl (fun v31 h32 => ?_)
              exact x_ireturn hC (dAt dd_X10_approve 69 rfl)
            · refine x_ldc (v := (-1000003)) (p' := 93) hC (dAt dd_X10_approve 44 rfl) k_551 rfl ?_
              exact x_ireturn hC (dAt dd_X10_approve 45 rfl)
          · refine x_ldc (v := (-1000002)) (p' := 81) hC (dAt dd_X10_approve 38 rfl) k_316 rfl ?_
            exact x_ireturn hC (dAt dd_X10_approve 39 rfl)
        · refine x_ldc (v := (-1000001)) (p' := 51) hC (dAt dd_X10_approve 23 rfl) k_269 rfl ?_
          exact x_ireturn hC (dAt dd_X10_approve 24 rfl)
      · refine x_ldc (v := (-1000001)) (p' := 31) hC (dAt dd_X10_approve 14 rfl) k_269 rfl ?_
        exact x_ireturn hC (dAt dd_X10_approve 15 rfl)
set_option maxHeartbeats 4000000 in
set_option maxRecDepth 100000 in
theorem t_X10_approveAll_L43 {C : CT} (hC : OKC C yX10_approveAll cX10_approveAll 7 (some .int) 5 116) (k106 : Nat → Int32 → Int32 → Int32 → Int32 → AH → RX Int32) (hk106 : ∀ (x0 : Nat) (x1 : Int32) (x2 : Int32) (x3 : Int32) (x4 : Int32) (h : AH), WX rvI C 106 [(0, va_rf (some x0)), (1, .int x1), (2, .int x2), (3, .int x3), (4, .int x4)] [] h (k106 x0 x1 x2 x3 x4 h)) : ∀ (n : Nat) (x0 : Nat) (x1 : Int32) (x2 : Int32) (x3 : Int32) (x4 : Int32) (x5 : Int32) (h : AH), WX rvI C 43 [(0, va_rf (some x0)), (1, .int x1), (2, .int x2), (3, .int x3), (4, .int x4), (5, .int x5)] [] h (f_X10_approveAll_L43 k106 n x0 x1 x2 x3 x4 x5 h) := by
  intro n
  induction n with
  | zero => intro _ _ _ _ _ _ _; exact x_none
  | succ n ih =>
    intro x0 x1 x2 x3 x4 x5 h
    rw [f_X10_approveAll_L43]
    refine x_iload (p' := 45) hC 5 (dAt dd_X10_approveAll 22 rfl) rfl rfl ?_
    refine x_bipush (v := 36) (p' := 47) hC (dAt dd_X10_approveAll 23 rfl) (by decide) rfl ?_
    refine x_icmp_ge (tgt := 106) (p' := 50) hC (dAt dd_X10_approveAll 24 rfl) (by decide) rfl ?_ ?_
    · refine x_sub [0, 1, 2, 3, 4] rfl ?_
      exact hk106 x0 x1 x2 x3 x4 h
    · refine x_aload_n (p' := 51) hC 0 (dAt dd_X10_approveAll 25 rfl) rfl rfl rfl ?_
      refine x_getR (p' := 54) hC fk_RX10_17 rfl (dAt dd_X10_approveAll 26 rfl) rfl (fun r11 => ?_)
      refine x_iload (p' := 56) hC 5 (dAt dd_X10_approveAll 27 rfl) rfl rfl ?_
      refine x_aaload 17 5 (p' := 57) hC rfl (by decide) rfl (dAt dd_X10_approveAll 28 rfl) rfl (fun r12 => ?_)
      refine x_getR (p' := 60) hC fk_RX10_214 rfl (dAt dd_X10_approveAll 29 rfl) rfl (fun r13 => ?_)
      refine x_iconst (v := (-1)) (p' := 61) hC (dAt dd_X10_approveAll 30 rfl) (by decide) rfl ?_
      refine x_iload_n (p' := 62) hC 2 (dAt dd_X10_approveAll 31 rfl) rfl rfl rfl ?_
      refine x_callVI (As := [.int (-1), .int x2]) (z := fun b => f_X1_countOf h b (-1) x2) (p' := 65) hC (fun b => c_X1_countOf _ _ _ h b (-1) x2) k_599 k_600 k_601 k_8 k_602 hd_X1_countOf ⟨by decide, by decide⟩ (ci := 1) rfl rfl (by decide) rfl (Nat.le_of_ble_eq_true rfl) rfl (dAt dd_X10_approveAll 32 rfl) rfl (fun v14 h15 => ?_)
      refine x_if_le (tgt := 100) (p' := 68) hC (dAt dd_X10_approveAll 33 rfl) (by decide) rfl ?_ ?_
      · refine x_iinc (w := (x5 + 1)) (lv' := [(5, .int (x5 + 1)), (0, va_rf (some x0)), (1, .int x1), (2, .int x2), (3, .int x3), (4, .int x4)]) (p' := 103) hC 5 (dAt dd_X10_approveAll 50 rfl) rfl rfl (by decide) rfl rfl ?_
        refine x_goto (tgt := 43) hC (dAt dd_X10_approveAll 51 rfl) (by decide) ?_
        refine x_sub [1, 2, 3, 4, 5, 0] rfl ?_
        exact ih x0 x1 x2 x3 x4 (x5 + 1) h15
      · refine x_iinc (w := (x4 + 1)) (lv' := [(4, .int (x4 + 1)), (0, va_rf (some x0)), (1, .int x1), (2, .int x2), (3, .int x3), (5, .int x5)]) (p' := 71) hC 4 (dAt dd_X10_approveAll 34 rfl) rfl rfl (by decide) rfl rfl ?_
        refine x_aload_n (p' := 72) hC 1 (dAt dd_X10_approveAll 35 rfl) rfl rfl rfl ?_
        refine x_getR (p' := 75) hC fk_RX10_31 rfl (dAt dd_X10_approveAll 36 rfl) rfl (fun r16 => ?_)
        refine x_aload_n (p' := 76) hC 1 (dAt dd_X10_approveAll 37 rfl) rfl rfl rfl ?_
        refine x_getR (p' := 79) hC fk_RX10_17 rfl (dAt dd_X10_approveAll 38 rfl) rfl (fun r17 => ?_)
        refine x_iload (p' := 81) hC 5 (dAt dd_X10_approveAll 39 rfl) rfl rfl ?_
        refine x_aaload 17 5 (p' := 82) hC rfl (by decide) rfl (dAt dd_X10_approveAll 40 rfl) rfl (fun r18 => ?_)
        refine x_iconst (v := (-1)) (p' := 83) hC (dAt dd_X10_approveAll 41 rfl) (by decide) rfl ?_
        refine x_iload_n (p' := 84) hC 3 (dAt dd_X10_approveAll 42 rfl) rfl rfl rfl ?_
        refine x_callVV (As := [va_rf r18, .int (-1), .int x2]) (z := fun b => f_X3_write h15 b r18 (-1) x2) (p' := 87) hC (fun b => c_X3_write _ _ _ h15 b r18 (-1) x2) k_533 k_534 k_535 k_3 k_536 hd_X3_write ⟨by decide, by decide⟩ (ci := 3) rfl rfl (by decide) rfl (Nat.le_of_ble_eq_true rfl) rfl (dAt dd_X10_approveAll 43 rfl) rfl (fun u19 h20 => ?_)
        refine x_aload_n (p' := 88) hC 1 (dAt dd_X10_approveAll 44 rfl) rfl rfl rfl ?_
        refine x_getR (p' := 91) hC fk_RX10_31 rfl (dAt dd_X10_approveAll 45 rfl) rfl (fun r21 => ?_)
        refine x_callVI (As := []) (z := fun b => f_X3_isAnswer h20 b) (p' := 94) hC (fun b => c_X3_isAnswer _ _ _ h20 b) k_546 k_547 k_548 k_3 k_549 hd_X3_isAnswer ⟨by decide, by decide⟩ (ci := 3) rfl rfl (by decide) rfl (Nat.le_of_ble_eq_true rfl) rfl (dAt dd_X10_approveAll 46 rfl) rfl (fun v22 h23 => ?_)
        refine x_if_ne (tgt := 100) (p' := 97) hC (dAt dd_X10_approveAll 47 rfl) (by decide) rfl ?_ ?_
        · refine x_iinc (w := (x5 + 1)) (lv' := [(5, .int (x5 + 1)), (4, .int (x4 + 1)), (0, va_rf (some x0)), (1, .int x1), (2, .int x2), (3, .int x3)]) (p' := 103) hC 5 (dAt dd_X10_approveAll 50 rfl) rfl rfl (by decide) rfl rfl ?_
          refine x_goto (tgt := 43) hC (dAt dd_X10_approveAll 51 rfl) (by decide) ?_
          refine x_sub [2, 3, 4, 5, 1, 0] rfl ?_
          exact ih x0 x1 x2 x3 (x4 + 1) (x5 + 1) h23
        · refine x_ldc (v := (-1000002)) (p' := 99) hC (dAt dd_X10_approveAll 48 rfl) k_316 rfl ?_
          exact x_ireturn hC (dAt dd_X10_approveAll 49 rfl)
set_option maxHeartbeats 4000000 in
set_option maxRecDepth 100000 in
theorem t_X10_approveAll_L134 {C : CT} (hC : OKC C yX10_approveAll cX10_approveAll 7 (some .int) 5 116) (k175 : Nat → Option Nat → AH → RX Int32) (hk175 : ∀ (x0 : Nat) (x5 : Option Nat) (h : AH), WX rvI C 175 [(0, va_rf (some x0)), (5, va_rf x5)] [] h (k175 x0 x5 h)) : ∀ (n : Nat) (x0 : Nat) (x2 : Int32) (x5 : Option Nat) (x6 : Int32) (h : AH), WX rvI C 134 [(0, va_rf (some x0)), (2, .int x2), (5, va_rf x5), (6, .int x6)] [] h (f_X10_approveAll_L134 k175 n x0 x2 x5 x6 h) := by
  intro n
  induction n with
  | zero => intro _ _ _ _ _; exact x_none
  | succ n ih =>
    intro x0 x2 x5 x6 h
    rw [f_X10_approveAll_L134]
    refine x_iload (p' := 136) hC 3 (dAt dd_X10_approveAll 67 rfl) rfl rfl ?_
    refine x_bipush (v := 36) (p' := 138) hC (dAt dd_X10_approveAll 68 rfl) (by decide) rfl ?_
    refine x_icmp_ge (tgt := 175) (p' := 141) hC (dAt dd_X10_approveAll 69 rfl) (by decide) rfl ?_ ?_
    · refine x_sub [0, 2] rfl ?_
      exact hk175 x0 x5 h
    · refine x_aload_n (p' := 142) hC 0 (dAt dd_X10_approveAll 70 rfl) rfl rfl rfl ?_
      refine x_getR (p' := 145) hC fk_RX10_17 rfl (dAt dd_X10_approveAll 71 rfl) rfl (fun r29 => ?_)
      refine x_iload (p' := 147) hC 3 (dAt dd_X10_approveAll 72 rfl) rfl rfl ?_
      refine x_aaload 17 5 (p' := 148) hC rfl (by decide) rfl (dAt dd_X10_approveAll 73 rfl) rfl (fun r30 => ?_)
      refine x_getR (p' := 151) hC fk_RX10_214 rfl (dAt dd_X10_approveAll 74 rfl) rfl (fun r31 => ?_)
      refine x_iconst (v := (-1)) (p' := 152) hC (dAt dd_X10_approveAll 75 rfl) (by decide) rfl ?_
      refine x_iload_n (p' := 153) hC 1 (dAt dd_X10_approveAll 76 rfl) rfl rfl rfl ?_
      refine x_callVI (As := [.int (-1), .int x2]) (z := fun b => f_X1_countOf h b (-1) x2) (p' := 156) hC (fun b => c_X1_countOf _ _ _ h b (-1) x2) k_599 k_600 k_601 k_8 k_602 hd_X1_countOf ⟨by decide, by decide⟩ (ci := 1) rfl rfl (by decide) rfl (Nat.le_of_ble_eq_true rfl) rfl (dAt dd_X10_approveAll 77 rfl) rfl (fun v32 h33 => ?_)
      refine x_if_le (tgt := 169) (p' := 159) hC (dAt dd_X10_approveAll 78 rfl) (by decide) rfl ?_ ?_
      · refine x_iinc (w := (x6 + 1)) (lv' := [(6, .int (x6 + 1)), (0, va_rf (some x0)), (2, .int x2), (5, va_rf x5)]) (p' := 172) hC 3 (dAt dd_X10_approveAll 85 rfl) rfl rfl (by decide) (by simp [x_cat, show ∀ v : Int32, (Value.int v).category = 1 from fun _ => rfl]) rfl ?_
        refine x_goto (tgt := 134) hC (dAt dd_X10_approveAll 86 rfl) (by decide) ?_
        refine x_sub [1, 2, 3, 0] rfl ?_
        exact ih x0 x2 x5 (x6 + 1) h33
      · refine x_aload_n (p' := 160) hC 0 (dAt dd_X10_approveAll 79 rfl) rfl rfl rfl ?_
        refine x_aload (p' := 162) hC 2 (dAt dd_X10_approveAll 80 rfl) rfl rfl ?_
        refine x_iload (p' := 164) hC 3 (dAt dd_X10_approveAll 81 rfl) rfl rfl ?_
        refine x_iconst (v := (-1)) (p' := 165) hC (dAt dd_X10_approveAll 82 rfl) (by decide) rfl ?_
        refine x_iload_n (p' := 166) hC 1 (dAt dd_X10_approveAll 83 rfl) rfl rfl rfl ?_
        refine x_callVV (As := [va_rf x5, .int x6, .int (-1), .int x2]) (z := fun b => f_X10_enter h33 b x5 x6 (-1) x2) (p' := 169) hC (fun b => c_X10_enter _ _ _ h33 b x5 x6 (-1) x2) k_595 k_597 (k_sl 15 rfl) k_1 k_598 hd_X10_enter ⟨by decide, by decide⟩ (ci := 9) rfl rfl (by decide) rfl (Nat.le_of_ble_eq_true rfl) rfl (dAt dd_X10_approveAll 84 rfl) rfl (fun u34 h35 => ?_)
        refine x_iinc (w := (x6 + 1)) (lv' := [(6, .int (x6 + 1)), (0, va_rf (some x0)), (2, .int x2), (5, va_rf x5)]) (p' := 172) hC 3 (dAt dd_X10_approveAll 85 rfl) rfl rfl (by decide) (by simp [x_cat, show ∀ v : Int32, (Value.int v).category = 1 from fun _ => rfl]) rfl ?_
        refine x_goto (tgt := 134) hC (dAt dd_X10_approveAll 86 rfl) (by decide) ?_
        refine x_sub [1, 2, 3, 0] rfl ?_
        exact ih x0 x2 x5 (x6 + 1) h35
set_option maxHeartbeats 4000000 in
set_option maxRecDepth 100000 in
theorem t_X10_approveAll_J175 {C : CT} (hC : OKC C yX10_approveAll cX10_approveAll 7 (some .int) 5 116)   : ∀ (x0 : Nat) (x5 : Option Nat) (h : AH), WX rvI C 175 [(0, va_rf (some x0)), (5, va_rf x5)] [] h (f_X10_approveAll_J175 x0 x5 h) := by
  intro x0 x5 h
  unfold f_X10_approveAll_J175
  refine x_aload_n (p' := 176) hC 0 (dAt dd_X10_approveAll 87 rfl) rfl rfl rfl ?_
  refine x_aload (p' := 178) hC 1 (dAt dd_X10_approveAll 88 rfl) rfl rfl ?_
  refine x_callVI (As := [va_rf x5]) (z := fun b => f_X10_addToBook h b x5) (p' := 181) hC (fun b => c_X10_addToBook _ _ _ h b x5) k_620 k_622 (k_sl 16 rfl) k_1 k_623 hd_X10_addToBook ⟨by decide, by decide⟩ (ci := 9) rfl rfl (by decide) rfl (Nat.le_of_ble_eq_true rfl) rfl (dAt dd_X10_approveAll 89 rfl) rfl (fun v36 h37 => ?_)
  exact x_ireturn hC (dAt dd_X10_approveAll 90 rfl)
set_option maxHeartbeats 4000000 in
set_option maxRecDepth 100000 in
theorem t_X10_approveAll_J106 {C : CT} (hC : OKC C yX10_approveAll cX10_approveAll 7 (some .int) 5 116)   : ∀ (x0 : Nat) (x1 : Int32) (x2 : Int32) (x3 : Int32) (x4 : Int32) (h : AH), WX rvI C 106 [(0, va_rf (some x0)), (1, .int x1), (2, .int x2), (3, .int x3), (4, .int x4)] [] h (f_X10_approveAll_J106 x0 x1 x2 x3 x4 h) := by
  intro x0 x1 x2 x3 x4 h
  unfold f_X10_approveAll_J106
  refine x_aload_n (p' := 107) hC 0 (dAt dd_X10_approveAll 52 rfl) rfl rfl rfl ?_
  refine x_getI (p' := 110) hC fk_RX10_52 rfl (dAt dd_X10_approveAll 53 rfl) rfl (fun v24 => ?_)
  refine x_bipush (v := 100) (p' := 112) hC (dAt dd_X10_approveAll 54 rfl) (by decide) rfl ?_
  refine x_icmp_lt (tgt := 118) (p' := 115) hC (dAt dd_X10_approveAll 55 rfl) (by decide) rfl ?_ ?_
  · refine x_new (ci := 4) (p' := 121) hC in_RX4 rfl rfl (by decide) tk_RX4 df_RX4 k_78 k_552 k_16 (dAt dd_X10_approveAll 58 rfl) rfl (fun a25 h26 => ?_)
    refine x_dup (p' := 122) hC (dAt dd_X10_approveAll 59 rfl) (x_cat _) rfl ?_
    refine x_iload_n (p' := 123) hC 1 (dAt dd_X10_approveAll 60 rfl) rfl rfl rfl ?_
    refine x_iload_n (p' := 124) hC 3 (dAt dd_X10_approveAll 61 rfl) rfl rfl rfl ?_
    refine x_iload (p' := 126) hC 4 (dAt dd_X10_approveAll 62 rfl) rfl rfl ?_
    refine x_callIV (As := [.int x1, .int x3, .int x4]) (b := a25) (p' := 129) hC (c_X4_init _ _ _ h26 a25 x1 x3 x4) k_555 k_16 k_553 k_554 rfl hd_X4_init ⟨by decide, by decide⟩ rfl (Nat.le_of_ble_eq_true rfl) rfl (dAt dd_X10_approveAll 63 rfl) rfl (fun u27 h28 => ?_)
    refine x_astore (lv' := [(5, va_rf (some a25)), (0, va_rf (some x0)), (1, .int x1), (2, .int x2), (3, .int x3), (4, .int x4)]) (p' := 131) hC (dAt dd_X10_approveAll 64 rfl) (by decide) rfl rfl ?_
    refine x_iconst (v := 0) (p' := 132) hC (dAt dd_X10_approveAll 65 rfl) (by decide) rfl ?_
    refine x_istore (lv' := [(6, .int 0), (5, va_rf (some a25)), (0, va_rf (some x0)), (1, .int x1), (2, .int x2), (3, .int x3), (4, .int x4)]) (p' := 134) hC (dAt dd_X10_approveAll 66 rfl) (by decide) rfl rfl ?_
    refine x_sub [2, 4, 1, 0] rfl ?_
    exact t_X10_approveAll_L134 hC f_X10_approveAll_J175 (t_X10_approveAll_J175 hC) FU x0 x2 (some a25) 0 h28
  · refine x_ldc (v := (-1000003)) (p' := 117) hC (dAt dd_X10_approveAll 56 rfl) k_551 rfl ?_
    exact x_ireturn hC (dAt dd_X10_approveAll 57 rfl)
set_option maxHeartbeats 4000000 in
set_option maxRecDepth 100000 in
theorem c_X10_approveAll (l : Launch) (D : va_G) (cy : Nat → ClassId) (h : AH) (a0 : Nat) (p1 : Int32) (p2 : Int32) (p3 : Int32) : MX rvI l yX10_approveAll (Cond.code yX10_approveAll cX10_approveAll 7 (some .int) :: LW) 5 116 D cy h [va_rf (some a0), .int p1, .int p2, .int p3] (f_X10_approveAll h a0 p1 p2 p3) := by
  refine MX.of (lv := [(0, va_rf (some a0)), (1, .int p1), (2, .int p2), (3, .int p3)]) (by decide) (Nat.le_of_ble_eq_true rfl) rfl (fun C hC _ => ?_)
  unfold f_X10_approveAll
  refine x_aload_n (p' := 1) hC 0 (dAt dd_X10_approveAll 0 rfl) rfl rfl rfl ?_
  refine x_callVV (As := []) (z := fun b => f_X10_gatherGroups h b) (p' := 4) hC (fun b => c_X10_gatherGroups _ _ _ h b) k_479 k_481 (k_sl 11 rfl) k_1 k_482 hd_X10_gatherGroups ⟨by decide, by decide⟩ (ci := 9) rfl rfl (by decide) rfl (Nat.le_of_ble_eq_true rfl) rfl (dAt dd_X10_approveAll 1 rfl) rfl (fun u1 h2 => ?_)
  refine x_iload_n (p' := 5) hC 1 (dAt dd_X10_approveAll 2 rfl) rfl rfl rfl ?_
  refine x_iconst (v := 4) (p' := 6) hC (dAt dd_X10_approveAll 3 rfl) (by decide) rfl ?_
  refine x_callSI (As := [.int p1, .int 4]) (p' := 9) hC (c_X10_isBelow _ _ _ h2 p1 4) k_266 k_267 k_1 k_268 hd_X10_isBelow ⟨by decide, by decide⟩ rfl (Nat.le_of_ble_eq_true rfl) rfl (dAt dd_X10_approveAll 4 rfl) rfl (fun v3 h4 => ?_)
  refine x_if_eq (tgt := 34) (p' := 12) hC (dAt dd_X10_approveAll 5 rfl) (by decide) rfl ?_ ?_
  · refine x_ldc (v := (-1000001)) (p' := 36) hC (dAt dd_X10_approveAll 16 rfl) k_269 rfl ?_
    exact x_ireturn hC (dAt dd_X10_approveAll 17 rfl)
  · refine x_iload_n (p' := 13) hC 2 (dAt dd_X10_approveAll 6 rfl) rfl rfl rfl ?_
    refine x_aload_n (p' := 14) hC 0 (dAt dd_X10_approveAll 7 rfl) rfl rfl rfl ?_
    refine x_getR (p' := 17) hC fk_RX10_38 rfl (dAt dd_X10_approveAll 8 rfl) rfl (fun r5 => ?_)
    refine x_getI (p' := 20) hC fk_RX10_204 rfl (dAt dd_X10_approveAll 9 rfl) rfl (fun v6 => ?_)
    refine x_callSI (As := [.int p2, .int v6]) (p' := 23) hC (c_X10_isBelow _ _ _ h4 p2 v6) k_266 k_267 k_1 k_268 hd_X10_isBelow ⟨by decide, by decide⟩ rfl (Nat.le_of_ble_eq_true rfl) rfl (dAt dd_X10_approveAll 10 rfl) rfl (fun v7 h8 => ?_)
    refine x_if_eq (tgt := 34) (p' := 26) hC (dAt dd_X10_approveAll 11 rfl) (by decide) rfl ?_ ?_
    · refine x_ldc (v := (-1000001)) (p' := 36) hC (dAt dd_X10_approveAll 16 rfl) k_269 rfl ?_
      exact x_ireturn hC (dAt dd_X10_approveAll 17 rfl)
    · refine x_iload_n (p' := 27) hC 3 (dAt dd_X10_approveAll 12 rfl) rfl rfl rfl ?_
      refine x_iconst (v := 2) (p' := 28) hC (dAt dd_X10_approveAll 13 rfl) (by decide) rfl ?_
      refine x_callSI (As := [.int p3, .int 2]) (p' := 31) hC (c_X10_isBelow _ _ _ h8 p3 2) k_266 k_267 k_1 k_268 hd_X10_isBelow ⟨by decide, by decide⟩ rfl (Nat.le_of_ble_eq_true rfl) rfl (dAt dd_X10_approveAll 14 rfl) rfl (fun v9 h10 => ?_)
      refine x_if_ne (tgt := 37) (p' := 34) hC (dAt dd_X10_approveAll 15 rfl) (by decide) rfl ?_ ?_
      · refine x_iconst (v := 0) (p' := 38) hC (dAt dd_X10_approveAll 18 rfl) (by decide) rfl ?_
        refine x_istore (lv' := [(4, .int 0), (0, va_rf (some a0)), (1, .int p1), (2, .int p2), (3, .int p3)]) (p' := 40) hC (dAt dd_X10_approveAll 19 rfl) (by decide) rfl rfl ?_
        refine x_iconst (v := 0) (p' := 41) hC (dAt dd_X10_approveAll 20 rfl) (by decide) rfl ?_
        refine x_istore (lv' := [(5, .int 0), (4, .int 0), (0, va_rf (some a0)), (1, .int p1), (2, .int p2), (3, .int p3)]) (p' := 43) hC (dAt dd_X10_approveAll 21 rfl) (by decide) rfl rfl ?_
        refine x_sub [2, 3, 4, 5, 1, 0] rfl ?_
        exact t_X10_approveAll_L43 hC f_X10_approveAll_J106 (t_X10_approveAll_J106 hC) FU a0 p1 p2 p3 0 0 h10
      · refine x_ldc (v := (-1000001)) (p' := 36) hC (dAt dd_X10_approveAll 16 rfl) k_269 rfl ?_
        exact x_ireturn hC (dAt dd_X10_approveAll 17 rfl)
set_option maxHeartbeats 4000000 in
set_option maxRecDepth 100000 in
theorem t_X10_undo_L7 {C : CT} (hC : OKC C yX10_undo cX10_undo 4 (some .int) 1 21) (k29 : Nat → Int32 → AH → RX Int32) (hk29 : ∀ (x0 : Nat) (x1 : Int32) (h : AH), WX rvI C 29 [(0, va_rf (some x0)), (1, .int x1)] [] h (k29 x0 x1 h)) : ∀ (n : Nat) (x0 : Nat) (x1 : Int32) (h : AH), WX rvI C 7 [(0, va_rf (some x0)), (1, .int x1)] [] h (f_X10_undo_L7 k29 n x0 x1 h) := by
  intro n
  induction n with
  | zero => intro _ _ _; exact x_none
  | succ n ih =>
    intro x0 x1 h
    rw [f_X10_undo_L7]
    refine x_iload_n (p' := 8) hC 1 (dAt dd_X10_undo 5 rfl) rfl rfl rfl ?_
    refine x_if_lt (tgt := 29) (p' := 11) hC (dAt dd_X10_undo 6 rfl) (by decide) rfl ?_ ?_
    · exact hk29 x0 x1 h
    · refine x_aload_n (p' := 12) hC 0 (dAt dd_X10_undo 7 rfl) rfl rfl rfl ?_
      refine x_getR (p' := 15) hC fk_RX10_48 rfl (dAt dd_X10_undo 8 rfl) rfl (fun r2 => ?_)
      refine x_iload_n (p' := 16) hC 1 (dAt dd_X10_undo 9 rfl) rfl rfl rfl ?_
      refine x_aaload 15 3 (p' := 17) hC rfl (by decide) rfl (dAt dd_X10_undo 10 rfl) rfl (fun r3 => ?_)
      refine x_getI (p' := 20) hC fk_RX10_253 rfl (dAt dd_X10_undo 11 rfl) rfl (fun v4 => ?_)
      refine x_if_eq (tgt := 29) (p' := 23) hC (dAt dd_X10_undo 12 rfl) (by decide) rfl ?_ ?_
      · exact hk29 x0 x1 h
      · refine x_iinc (w := (x1 + (-1))) (lv' := [(1, .int (x1 + (-1))), (0, va_rf (some x0))]) (p' := 26) hC 1 (dAt dd_X10_undo 13 rfl) rfl rfl (by decide) rfl rfl ?_
        refine x_goto (tgt := 7) hC (dAt dd_X10_undo 14 rfl) (by decide) ?_
        refine x_sub [1, 0] rfl ?_
        exact ih x0 (x1 + (-1)) h
set_option maxHeartbeats 4000000 in
set_option maxRecDepth 100000 in
theorem t_X10_undo_L50 {C : CT} (hC : OKC C yX10_undo cX10_undo 4 (some .int) 1 21)   : ∀ (n : Nat) (x0 : Nat) (x1 : Int32) (x2 : Option Nat) (x3 : Int32) (h : AH), WX rvI C 50 [(0, va_rf (some x0)), (1, .int x1), (2, va_rf x2), (3, .int x3)] [] h (f_X10_undo_L50 n x0 x1 x2 x3 h) := by
  intro n
  induction n with
  | zero => intro _ _ _ _ _; exact x_none
  | succ n ih =>
    intro x0 x1 x2 x3 h
    rw [f_X10_undo_L50]
    refine x_iload_n (p' := 51) hC 3 (dAt dd_X10_undo 29 rfl) rfl rfl rfl ?_
    refine x_aload_n (p' := 52) hC 2 (dAt dd_X10_undo 30 rfl) rfl rfl rfl ?_
    refine x_getI (p' := 55) hC fk_RX10_256 rfl (dAt dd_X10_undo 31 rfl) rfl (fun v8 => ?_)
    refine x_icmp_ge (tgt := 94) (p' := 58) hC (dAt dd_X10_undo 32 rfl) (by decide) rfl ?_ ?_
    · refine x_iload_n (p' := 95) hC 1 (dAt dd_X10_undo 53 rfl) rfl rfl rfl ?_
      exact x_ireturn hC (dAt dd_X10_undo 54 rfl)
    · refine x_aload_n (p' := 59) hC 0 (dAt dd_X10_undo 33 rfl) rfl rfl rfl ?_
      refine x_getR (p' := 62) hC fk_RX10_17 rfl (dAt dd_X10_undo 34 rfl) rfl (fun r9 => ?_)
      refine x_aload_n (p' := 63) hC 2 (dAt dd_X10_undo 35 rfl) rfl rfl rfl ?_
      refine x_getR (p' := 66) hC fk_RX10_259 rfl (dAt dd_X10_undo 36 rfl) rfl (fun r10 => ?_)
      refine x_iload_n (p' := 67) hC 3 (dAt dd_X10_undo 37 rfl) rfl rfl rfl ?_
      refine x_iaload (p' := 68) hC (dAt dd_X10_undo 38 rfl) rfl (fun v11 => ?_)
      refine x_aaload 17 5 (p' := 69) hC rfl (by decide) rfl (dAt dd_X10_undo 39 rfl) rfl (fun r12 => ?_)
      refine x_aload_n (p' := 70) hC 2 (dAt dd_X10_undo 40 rfl) rfl rfl rfl ?_
      refine x_getR (p' := 73) hC fk_RX10_262 rfl (dAt dd_X10_undo 41 rfl) rfl (fun r13 => ?_)
      refine x_iload_n (p' := 74) hC 3 (dAt dd_X10_undo 42 rfl) rfl rfl rfl ?_
      refine x_aaload 14 2 (p' := 75) hC rfl (by decide) rfl (dAt dd_X10_undo 43 rfl) rfl (fun r14 => ?_)
      refine x_putR (p' := 78) hC fk_RX10_145 tk_RX8 rfl (Or.inl ⟨_, rfl⟩) (Or.inl rfl) (dAt dd_X10_undo 44 rfl) rfl (fun h15 => ?_)
      refine x_aload_n (p' := 79) hC 0 (dAt dd_X10_undo 45 rfl) rfl rfl rfl ?_
      refine x_aload_n (p' := 80) hC 2 (dAt dd_X10_undo 46 rfl) rfl rfl rfl ?_
      refine x_getR (p' := 83) hC fk_RX10_259 rfl (dAt dd_X10_undo 47 rfl) rfl (fun r16 => ?_)
      refine x_iload_n (p' := 84) hC 3 (dAt dd_X10_undo 48 rfl) rfl rfl rfl ?_
      refine x_iaload (p' := 85) hC (dAt dd_X10_undo 49 rfl) rfl (fun v17 => ?_)
      refine x_callVV (As := [.int v17]) (z := fun b => f_X10_touch h15 b v17) (p' := 88) hC (fun b => c_X10_touch _ _ _ h15 b v17) k_404 k_406 (k_sl 9 rfl) k_1 k_407 hd_X10_touch ⟨by decide, by decide⟩ (ci := 9) rfl rfl (by decide) rfl (Nat.le_of_ble_eq_true rfl) rfl (dAt dd_X10_undo 50 rfl) rfl (fun u18 h19 => ?_)
      refine x_iinc (w := (x3 + 1)) (lv' := [(3, .int (x3 + 1)), (0, va_rf (some x0)), (1, .int x1), (2, va_rf x2)]) (p' := 91) hC 3 (dAt dd_X10_undo 51 rfl) rfl rfl (by decide) (by simp [x_cat, show ∀ v : Int32, (Value.int v).category = 1 from fun _ => rfl]) rfl ?_
      refine x_goto (tgt := 50) hC (dAt dd_X10_undo 52 rfl) (by decide) ?_
      refine x_sub [1, 2, 3, 0] rfl ?_
      exact ih x0 x1 x2 (x3 + 1) h19
set_option maxHeartbeats 4000000 in
set_option maxRecDepth 100000 in
theorem t_X10_undo_J29 {C : CT} (hC : OKC C yX10_undo cX10_undo 4 (some .int) 1 21)   : ∀ (x0 : Nat) (x1 : Int32) (h : AH), WX rvI C 29 [(0, va_rf (some x0)), (1, .int x1)] [] h (f_X10_undo_J29 x0 x1 h) := by
  intro x0 x1 h
  unfold f_X10_undo_J29
  refine x_iload_n (p' := 30) hC 1 (dAt dd_X10_undo 15 rfl) rfl rfl rfl ?_
  refine x_if_ge (tgt := 36) (p' := 33) hC (dAt dd_X10_undo 16 rfl) (by decide) rfl ?_ ?_
  · refine x_aload_n (p' := 37) hC 0 (dAt dd_X10_undo 19 rfl) rfl rfl rfl ?_
    refine x_getR (p' := 40) hC fk_RX10_48 rfl (dAt dd_X10_undo 20 rfl) rfl (fun r5 => ?_)
    refine x_iload_n (p' := 41) hC 1 (dAt dd_X10_undo 21 rfl) rfl rfl rfl ?_
    refine x_aaload 15 3 (p' := 42) hC rfl (by decide) rfl (dAt dd_X10_undo 22 rfl) rfl (fun r6 => ?_)
    refine x_astore_n (j := 2) (lv' := [(2, va_rf r6), (0, va_rf (some x0)), (1, .int x1)]) (p' := 43) hC (dAt dd_X10_undo 23 rfl) rfl (by decide) rfl rfl ?_
    refine x_aload_n (p' := 44) hC 0 (dAt dd_X10_undo 24 rfl) rfl rfl rfl ?_
    refine x_iconst (v := 1) (p' := 45) hC (dAt dd_X10_undo 25 rfl) (by decide) rfl ?_
    refine x_putZ (p' := 48) hC fk_RX10_253 tk_RX4 rfl rfl (Or.inl rfl) (dAt dd_X10_undo 26 rfl) rfl (fun h7 => ?_)
    refine x_iconst (v := 0) (p' := 49) hC (dAt dd_X10_undo 27 rfl) (by decide) rfl ?_
    refine x_istore_n (j := 3) (lv' := [(3, .int 0), (2, va_rf r6), (0, va_rf (some x0)), (1, .int x1)]) (p' := 50) hC (dAt dd_X10_undo 28 rfl) rfl (by decide) (by simp [x_cat, show ∀ v : Int32, (Value.int v).category = 1 from fun _ => rfl]) rfl ?_
    refine x_sub [2, 3, 1, 0] rfl ?_
    exact t_X10_undo_L50 hC FU x0 x1 r6 0 h7
  · refine x_ldc (v := (-1000000)) (p' := 35) hC (dAt dd_X10_undo 17 rfl) k_362 rfl ?_
    exact x_ireturn hC (dAt dd_X10_undo 18 rfl)
set_option maxHeartbeats 4000000 in
set_option maxRecDepth 100000 in
theorem c_X10_undo (l : Launch) (D : va_G) (cy : Nat → ClassId) (h : AH) (a0 : Nat) : MX rvI l yX10_undo (Cond.code yX10_undo cX10_undo 4 (some .int) :: LW) 1 21 D cy h [va_rf (some a0)] (f_X10_undo h a0) := by
  refine MX.of (lv := [(0, va_rf (some a0))]) (by decide) (Nat.le_of_ble_eq_true rfl) rfl (fun C hC _ => ?_)
  unfold f_X10_undo
  refine x_aload_n (p' := 1) hC 0 (dAt dd_X10_undo 0 rfl) rfl rfl rfl ?_
  refine x_getI (p' := 4) hC fk_RX10_52 rfl (dAt dd_X10_undo 1 rfl) rfl (fun v1 => ?_)
  refine x_iconst (v := 1) (p' := 5) hC (dAt dd_X10_undo 2 rfl) (by decide) rfl ?_
  refine x_isub (p' := 6) hC (dAt dd_X10_undo 3 rfl) rfl ?_
  refine x_istore_n (j := 1) (lv' := [(1, .int (v1 - 1)), (0, va_rf (some a0))]) (p' := 7) hC (dAt dd_X10_undo 4 rfl) rfl (by decide) rfl rfl ?_
  refine x_sub [1, 0] rfl ?_
  exact t_X10_undo_L7 hC f_X10_undo_J29 (t_X10_undo_J29 hC) FU a0 (v1 - 1) h
set_option maxHeartbeats 4000000 in
set_option maxRecDepth 100000 in
theorem c_X10_entry (l : Launch) (D : va_G) (cy : Nat → ClassId) (h : AH) (a0 : Nat) (p1 : Int32) (p2 : Int32) : MX rvI l yX10_entry (Cond.code yX10_entry cX10_entry 4 (some .int) :: LW) 1 21 D cy h [va_rf (some a0), .int p1, .int p2] (f_X10_entry h a0 p1 p2) := by
  refine MX.of (lv := [(0, va_rf (some a0)), (1, .int p1), (2, .int p2)]) (by decide) (Nat.le_of_ble_eq_true rfl) rfl (fun C hC _ => ?_)
  unfold f_X10_entry
  refine x_iload_n (p' := 1) hC 2 (dAt dd_X10_entry 0 rfl) rfl rfl rfl ?_
  refine x_bipush (v := 6) (p' := 3) hC (dAt dd_X10_entry 1 rfl) (by decide) rfl ?_
  refine x_callSI (As := [.int p2, .int 6]) (p' := 6) hC (c_X10_isBelow _ _ _ h p2 6) k_266 k_267 k_1 k_268 hd_X10_isBelow ⟨by decide, by decide⟩ rfl (Nat.le_of_ble_eq_true rfl) rfl (dAt dd_X10_entry 2 rfl) rfl (fun v1 h2 => ?_)
  refine x_if_ne (tgt := 12) (p' := 9) hC (dAt dd_X10_entry 3 rfl) (by decide) rfl ?_ ?_
  · refine x_iload_n (p' := 13) hC 1 (dAt dd_X10_entry 6 rfl) rfl rfl rfl ?_
    refine x_aload_n (p' := 14) hC 0 (dAt dd_X10_entry 7 rfl) rfl rfl rfl ?_
    refine x_getI (p' := 17) hC fk_RX10_52 rfl (dAt dd_X10_entry 8 rfl) rfl (fun v3 => ?_)
    refine x_callSI (As := [.int p1, .int v3]) (p' := 20) hC (c_X10_isBelow _ _ _ h2 p1 v3) k_266 k_267 k_1 k_268 hd_X10_isBelow ⟨by decide, by decide⟩ rfl (Nat.le_of_ble_eq_true rfl) rfl (dAt dd_X10_entry 9 rfl) rfl (fun v4 h5 => ?_)
    refine x_if_ne (tgt := 26) (p' := 23) hC (dAt dd_X10_entry 10 rfl) (by decide) rfl ?_ ?_
    · refine x_aload_n (p' := 27) hC 0 (dAt dd_X10_entry 13 rfl) rfl rfl rfl ?_
      refine x_getR (p' := 30) hC fk_RX10_48 rfl (dAt dd_X10_entry 14 rfl) rfl (fun r6 => ?_)
      refine x_iload_n (p' := 31) hC 1 (dAt dd_X10_entry 15 rfl) rfl rfl rfl ?_
      refine x_aaload 15 3 (p' := 32) hC rfl (by decide) rfl (dAt dd_X10_entry 16 rfl) rfl (fun r7 => ?_)
      refine x_astore_n (j := 3) (lv' := [(3, va_rf r7), (0, va_rf (some a0)), (1, .int p1), (2, .int p2)]) (p' := 33) hC (dAt dd_X10_entry 17 rfl) rfl (by decide) rfl rfl ?_
      refine x_iload_n (p' := 34) hC 3 (dAt dd_X10_entry 18 rfl) rfl rfl rfl ?_
      refine x_case 0 (fun q0 => ?_) (fun q0 => ?_)
      · refine x_switch_in (tgt := 68) hC (dAt dd_X10_entry 19 rfl) (by rw [q0]; decide) (by rw [q0]; decide) (by rw [q0]; rfl) (by decide) ?_
        refine x_aload_n (p' := 69) hC 0 (dAt dd_X10_entry 20 rfl) rfl rfl rfl ?_
        refine x_getI (p' := 72) hC fk_RX10_266 rfl (dAt dd_X10_entry 21 rfl) rfl (fun v8 => ?_)
        exact x_ireturn hC (dAt dd_X10_entry 22 rfl)
      refine x_case 1 (fun q1 => ?_) (fun q1 => ?_)
      · refine x_switch_in (tgt := 73) hC (dAt dd_X10_entry 19 rfl) (by rw [q1]; decide) (by rw [q1]; decide) (by rw [q1]; rfl) (by decide) ?_
        refine x_aload_n (p' := 74) hC 0 (dAt dd_X10_entry 23 rfl) rfl rfl rfl ?_
        refine x_getI (p' := 77) hC fk_RX10_269 rfl (dAt dd_X10_entry 24 rfl) rfl (fun v9 => ?_)
        exact x_ireturn hC (dAt dd_X10_entry 25 rfl)
      refine x_case 2 (fun q2 => ?_) (fun q2 => ?_)
      · refine x_switch_in (tgt := 78) hC (dAt dd_X10_entry 19 rfl) (by rw [q2]; decide) (by rw [q2]; decide) (by rw [q2]; rfl) (by decide) ?_
        refine x_aload_n (p' := 79) hC 0 (dAt dd_X10_entry 26 rfl) rfl rfl rfl ?_
        refine x_getI (p' := 82) hC fk_RX10_272 rfl (dAt dd_X10_entry 27 rfl) rfl (fun v10 => ?_)
        exact x_ireturn hC (dAt dd_X10_entry 28 rfl)
      refine x_case 3 (fun q3 => ?_) (fun q3 => ?_)
      · refine x_switch_in (tgt := 83) hC (dAt dd_X10_entry 19 rfl) (by rw [q3]; decide) (by rw [q3]; decide) (by rw [q3]; rfl) (by decide) ?_
        refine x_aload_n (p' := 84) hC 0 (dAt dd_X10_entry 29 rfl) rfl rfl rfl ?_
        refine x_getI (p' := 87) hC fk_RX10_274 rfl (dAt dd_X10_entry 30 rfl) rfl (fun v11 => ?_)
        exact x_ireturn hC (dAt dd_X10_entry 31 rfl)
      refine x_case 4 (fun q4 => ?_) (fun q4 => ?_)
      · refine x_switch_in (tgt := 88) hC (dAt dd_X10_entry 19 rfl) (by rw [q4]; decide) (by rw [q4]; decide) (by rw [q4]; rfl) (by decide) ?_
        refine x_aload_n (p' := 89) hC 0 (dAt dd_X10_entry 32 rfl) rfl rfl rfl ?_
        refine x_getI (p' := 92) hC fk_RX10_253 rfl (dAt dd_X10_entry 33 rfl) rfl (fun v12 => ?_)
        refine x_if_eq (tgt := 99) (p' := 95) hC (dAt dd_X10_entry 34 rfl) (by decide) rfl ?_ ?_
        · refine x_iconst (v := 0) (p' := 100) hC (dAt dd_X10_entry 37 rfl) (by decide) rfl ?_
          exact x_ireturn hC (dAt dd_X10_entry 38 rfl)
        · refine x_iconst (v := 1) (p' := 96) hC (dAt dd_X10_entry 35 rfl) (by decide) rfl ?_
          refine x_goto (tgt := 100) hC (dAt dd_X10_entry 36 rfl) (by decide) ?_
          exact x_ireturn hC (dAt dd_X10_entry 38 rfl)
      refine x_switch_out (tgt := 101) hC (dAt dd_X10_entry 19 rfl) (by have z0 := lv_neT q0 (show (0 : Int32).toInt = 0 by decide); have z1 := lv_neT q1 (show (1 : Int32).toInt = 1 by decide); have z2 := lv_neT q2 (show (2 : Int32).toInt = 2 by decide); have z3 := lv_neT q3 (show (3 : Int32).toInt = 3 by decide); have z4 := lv_neT q4 (show (4 : Int32).toInt = 4 by decide); omega) (by decide) ?_
      refine x_aload_n (p' := 102) hC 0 (dAt dd_X10_entry 39 rfl) rfl rfl rfl ?_
      refine x_getI (p' := 105) hC fk_RX10_256 rfl (dAt dd_X10_entry 40 rfl) rfl (fun v13 => ?_)
      exact x_ireturn hC (dAt dd_X10_entry 41 rfl)
    · refine x_ldc (v := (-1000000)) (p' := 25) hC (dAt dd_X10_entry 11 rfl) k_362 rfl ?_
      exact x_ireturn hC (dAt dd_X10_entry 12 rfl)
  · refine x_ldc (v := (-1000001)) (p' := 11) hC (dAt dd_X10_entry 4 rfl) k_269 rfl ?_
    exact x_ireturn hC (dAt dd_X10_entry 5 rfl)
set_option maxHeartbeats 4000000 in
set_option maxRecDepth 100000 in
theorem c_X10_isFoldedOne (l : Launch) (D : va_G) (cy : Nat → ClassId) (h : AH) (a0 : Nat) (p1 : Int32) : MX rvI l yX10_isFoldedOne (Cond.code yX10_isFoldedOne cX10_isFoldedOne 3 (some .boolean) :: LW) 2 46 D cy h [va_rf (some a0), .int p1] (f_X10_isFoldedOne h a0 p1) := by
  refine MX.of (lv := [(0, va_rf (some a0)), (1, .int p1)]) (by decide) (Nat.le_of_ble_eq_true rfl) rfl (fun C hC _ => ?_)
  unfold f_X10_isFoldedOne
  refine x_aload_n (p' := 1) hC 0 (dAt dd_X10_isFoldedOne 0 rfl) rfl rfl rfl ?_
  refine x_getR (p' := 4) hC fk_RX10_17 rfl (dAt dd_X10_isFoldedOne 1 rfl) rfl (fun r1 => ?_)
  refine x_iload_n (p' := 5) hC 1 (dAt dd_X10_isFoldedOne 2 rfl) rfl rfl rfl ?_
  refine x_aaload 17 5 (p' := 6) hC rfl (by decide) rfl (dAt dd_X10_isFoldedOne 3 rfl) rfl (fun r2 => ?_)
  refine x_getR (p' := 9) hC fk_RX10_145 rfl (dAt dd_X10_isFoldedOne 4 rfl) rfl (fun r3 => ?_)
  refine x_astore_n (j := 2) (lv' := [(2, va_rf r3), (0, va_rf (some a0)), (1, .int p1)]) (p' := 10) hC (dAt dd_X10_isFoldedOne 5 rfl) rfl (by decide) rfl rfl ?_
  refine x_aload_n (p' := 11) hC 0 (dAt dd_X10_isFoldedOne 6 rfl) rfl rfl rfl ?_
  refine x_ifnull (tgt := 32) (p' := 14) hC (dAt dd_X10_isFoldedOne 7 rfl) (by decide) rfl (fun _ => ?_) (fun _ _ => ?_)
  · refine x_iconst (v := 0) (p' := 33) hC (dAt dd_X10_isFoldedOne 16 rfl) (by decide) rfl ?_
    exact x_zreturn hC (dAt dd_X10_isFoldedOne 17 rfl)
  · refine x_aload_n (p' := 15) hC 0 (dAt dd_X10_isFoldedOne 8 rfl) rfl rfl rfl ?_
    refine x_getR (p' := 18) hC fk_RX10_167 rfl (dAt dd_X10_isFoldedOne 9 rfl) rfl (fun r4 => ?_)
    refine x_aload_n (p' := 19) hC 0 (dAt dd_X10_isFoldedOne 10 rfl) rfl rfl rfl ?_
    refine x_getR (p' := 22) hC fk_RX10_162 rfl (dAt dd_X10_isFoldedOne 11 rfl) rfl (fun r5 => ?_)
    refine x_callSI (As := [va_rf r4, va_rf r5]) (p' := 25) hC (c_X9_areAlike _ _ _ h r4 r5) k_648 k_421 k_12 k_422 hd_X9_areAlike ⟨by decide, by decide⟩ rfl (Nat.le_of_ble_eq_true rfl) rfl (dAt dd_X10_isFoldedOne 12 rfl) rfl (fun v6 h7 => ?_)
    refine x_if_ne (tgt := 32) (p' := 28) hC (dAt dd_X10_isFoldedOne 13 rfl) (by decide) rfl ?_ ?_
    · refine x_iconst (v := 0) (p' := 33) hC (dAt dd_X10_isFoldedOne 16 rfl) (by decide) rfl ?_
      exact x_zreturn hC (dAt dd_X10_isFoldedOne 17 rfl)
    · refine x_iconst (v := 1) (p' := 29) hC (dAt dd_X10_isFoldedOne 14 rfl) (by decide) rfl ?_
      refine x_goto (tgt := 33) hC (dAt dd_X10_isFoldedOne 15 rfl) (by decide) ?_
      exact x_zreturn hC (dAt dd_X10_isFoldedOne 17 rfl)
set_option maxHeartbeats 4000000 in
set_option maxRecDepth 100000 in
theorem t_X10_isWide_L18 {C : CT} (hC : OKC C yX10_isWide cX10_isWide 5 (some .boolean) 2 46)   : ∀ (n : Nat) (x0 : Nat) (x1 : Int32) (x2 : Option Nat) (x3 : Int32) (h : AH), WX rvI C 18 [(0, va_rf (some x0)), (1, .int x1), (2, va_rf x2), (3, .int x3)] [] h (f_X10_isWide_L18 n x0 x1 x2 x3 h) := by
  intro n
  induction n with
  | zero => intro _ _ _ _ _; exact x_none
  | succ n ih =>
    intro x0 x1 x2 x3 h
    rw [f_X10_isWide_L18]
    refine x_iload_n (p' := 19) hC 3 (dAt dd_X10_isWide 12 rfl) rfl rfl rfl ?_
    refine x_bipush (v := 36) (p' := 21) hC (dAt dd_X10_isWide 13 rfl) (by decide) rfl ?_
    refine x_icmp_ge (tgt := 99) (p' := 24) hC (dAt dd_X10_isWide 14 rfl) (by decide) rfl ?_ ?_
    · refine x_iconst (v := 0) (p' := 100) hC (dAt dd_X10_isWide 50 rfl) (by decide) rfl ?_
      exact x_zreturn hC (dAt dd_X10_isWide 51 rfl)
    · refine x_aload_n (p' := 25) hC 0 (dAt dd_X10_isWide 15 rfl) rfl rfl rfl ?_
      refine x_getR (p' := 28) hC fk_RX10_17 rfl (dAt dd_X10_isWide 16 rfl) rfl (fun r4 => ?_)
      refine x_iload_n (p' := 29) hC 3 (dAt dd_X10_isWide 17 rfl) rfl rfl rfl ?_
      refine x_aaload 17 5 (p' := 30) hC rfl (by decide) rfl (dAt dd_X10_isWide 18 rfl) rfl (fun r5 => ?_)
      refine x_getR (p' := 33) hC fk_RX10_145 rfl (dAt dd_X10_isWide 19 rfl) rfl (fun r6 => ?_)
      refine x_astore (lv' := [(4, va_rf r6), (0, va_rf (some x0)), (1, .int x1), (2, va_rf x2), (3, .int x3)]) (p' := 35) hC (dAt dd_X10_isWide 20 rfl) (by decide) rfl rfl ?_
      refine x_aload_n (p' := 36) hC 1 (dAt dd_X10_isWide 21 rfl) rfl rfl rfl ?_
      refine x_getR (p' := 39) hC fk_RX10_17 rfl (dAt dd_X10_isWide 22 rfl) rfl (fun r7 => ?_)
      refine x_iload_n (p' := 40) hC 4 (dAt dd_X10_isWide 23 rfl) rfl rfl rfl ?_
      refine x_aaload 17 5 (p' := 41) hC rfl (by decide) rfl (dAt dd_X10_isWide 24 rfl) rfl (fun r8 => ?_)
      refine x_getI (p' := 44) hC fk_RX10_218 rfl (dAt dd_X10_isWide 25 rfl) rfl (fun v9 => ?_)
      refine x_aload_n (p' := 45) hC 1 (dAt dd_X10_isWide 26 rfl) rfl rfl rfl ?_
      refine x_getR (p' := 48) hC fk_RX10_17 rfl (dAt dd_X10_isWide 27 rfl) rfl (fun r10 => ?_)
      refine x_iload_n (p' := 49) hC 2 (dAt dd_X10_isWide 28 rfl) rfl rfl rfl ?_
      refine x_aaload 17 5 (p' := 50) hC rfl (by decide) rfl (dAt dd_X10_isWide 29 rfl) rfl (fun r11 => ?_)
      refine x_getI (p' := 53) hC fk_RX10_218 rfl (dAt dd_X10_isWide 30 rfl) rfl (fun v12 => ?_)
      refine x_icmp_eq (tgt := 93) (p' := 56) hC (dAt dd_X10_isWide 31 rfl) (by decide) rfl ?_ ?_
      · refine x_iinc (w := (x3 + 1)) (lv' := [(3, .int (x3 + 1)), (4, va_rf r6), (0, va_rf (some x0)), (1, .int x1), (2, va_rf x2)]) (p' := 96) hC 4 (dAt dd_X10_isWide 48 rfl) rfl rfl (by decide) (by simp [x_cat, show ∀ v : Int32, (Value.int v).category = 1 from fun _ => rfl]) rfl ?_
        refine x_goto (tgt := 18) hC (dAt dd_X10_isWide 49 rfl) (by decide) ?_
        refine x_sub [2, 3, 4, 0] rfl ?_
        exact ih x0 x1 x2 (x3 + 1) h
      · refine x_aload (p' := 58) hC 0 (dAt dd_X10_isWide 32 rfl) rfl rfl ?_
        refine x_ifnull (tgt := 93) (p' := 61) hC (dAt dd_X10_isWide 33 rfl) (by decide) rfl (fun _ => ?_) (fun _ _ => ?_)
        · refine x_iinc (w := (x3 + 1)) (lv' := [(3, .int (x3 + 1)), (4, va_rf r6), (0, va_rf (some x0)), (1, .int x1), (2, va_rf x2)]) (p' := 96) hC 4 (dAt dd_X10_isWide 48 rfl) rfl rfl (by decide) (by simp [x_cat, show ∀ v : Int32, (Value.int v).category = 1 from fun _ => rfl]) rfl ?_
          refine x_goto (tgt := 18) hC (dAt dd_X10_isWide 49 rfl) (by decide) ?_
          refine x_sub [2, 3, 4, 0] rfl ?_
          exact ih x0 x1 x2 (x3 + 1) h
        · refine x_aload (p' := 63) hC 0 (dAt dd_X10_isWide 34 rfl) rfl rfl ?_
          refine x_getR (p' := 66) hC fk_RX10_162 rfl (dAt dd_X10_isWide 35 rfl) rfl (fun r13 => ?_)
          refine x_aload_n (p' := 67) hC 3 (dAt dd_X10_isWide 36 rfl) rfl rfl rfl ?_
          refine x_getR (p' := 70) hC fk_RX10_162 rfl (dAt dd_X10_isWide 37 rfl) rfl (fun r14 => ?_)
          refine x_callSI (As := [va_rf r13, va_rf r14]) (p' := 73) hC (c_X9_areAlike _ _ _ h r13 r14) k_648 k_421 k_12 k_422 hd_X9_areAlike ⟨by decide, by decide⟩ rfl (Nat.le_of_ble_eq_true rfl) rfl (dAt dd_X10_isWide 38 rfl) rfl (fun v15 h16 => ?_)
          refine x_if_eq (tgt := 93) (p' := 76) hC (dAt dd_X10_isWide 39 rfl) (by decide) rfl ?_ ?_
          · refine x_iinc (w := (x3 + 1)) (lv' := [(3, .int (x3 + 1)), (4, va_rf r6), (0, va_rf (some x0)), (1, .int x1), (2, va_rf x2)]) (p' := 96) hC 4 (dAt dd_X10_isWide 48 rfl) rfl rfl (by decide) (by simp [x_cat, show ∀ v : Int32, (Value.int v).category = 1 from fun _ => rfl]) rfl ?_
            refine x_goto (tgt := 18) hC (dAt dd_X10_isWide 49 rfl) (by decide) ?_
            refine x_sub [2, 3, 4, 0] rfl ?_
            exact ih x0 x1 x2 (x3 + 1) h16
          · refine x_aload (p' := 78) hC 0 (dAt dd_X10_isWide 40 rfl) rfl rfl ?_
            refine x_getR (p' := 81) hC fk_RX10_167 rfl (dAt dd_X10_isWide 41 rfl) rfl (fun r17 => ?_)
            refine x_aload_n (p' := 82) hC 3 (dAt dd_X10_isWide 42 rfl) rfl rfl rfl ?_
            refine x_getR (p' := 85) hC fk_RX10_167 rfl (dAt dd_X10_isWide 43 rfl) rfl (fun r18 => ?_)
            refine x_callSI (As := [va_rf r17, va_rf r18]) (p' := 88) hC (c_X9_areAlike _ _ _ h16 r17 r18) k_648 k_421 k_12 k_422 hd_X9_areAlike ⟨by decide, by decide⟩ rfl (Nat.le_of_ble_eq_true rfl) rfl (dAt dd_X10_isWide 44 rfl) rfl (fun v19 h20 => ?_)
            refine x_if_ne (tgt := 93) (p' := 91) hC (dAt dd_X10_isWide 45 rfl) (by decide) rfl ?_ ?_
            · refine x_iinc (w := (x3 + 1)) (lv' := [(3, .int (x3 + 1)), (4, va_rf r6), (0, va_rf (some x0)), (1, .int x1), (2, va_rf x2)]) (p' := 96) hC 4 (dAt dd_X10_isWide 48 rfl) rfl rfl (by decide) (by simp [x_cat, show ∀ v : Int32, (Value.int v).category = 1 from fun _ => rfl]) rfl ?_
              refine x_goto (tgt := 18) hC (dAt dd_X10_isWide 49 rfl) (by decide) ?_
              refine x_sub [2, 3, 4, 0] rfl ?_
              exact ih x0 x1 x2 (x3 + 1) h20
            · refine x_iconst (v := 1) (p' := 92) hC (dAt dd_X10_isWide 46 rfl) (by decide) rfl ?_
              exact x_zreturn hC (dAt dd_X10_isWide 47 rfl)
set_option maxHeartbeats 4000000 in
set_option maxRecDepth 100000 in
theorem c_X10_isWide (l : Launch) (D : va_G) (cy : Nat → ClassId) (h : AH) (a0 : Nat) (p1 : Int32) : MX rvI l yX10_isWide (Cond.code yX10_isWide cX10_isWide 5 (some .boolean) :: LW) 2 46 D cy h [va_rf (some a0), .int p1] (f_X10_isWide h a0 p1) := by
  refine MX.of (lv := [(0, va_rf (some a0)), (1, .int p1)]) (by decide) (Nat.le_of_ble_eq_true rfl) rfl (fun C hC _ => ?_)
  unfold f_X10_isWide
  refine x_aload_n (p' := 1) hC 0 (dAt dd_X10_isWide 0 rfl) rfl rfl rfl ?_
  refine x_getR (p' := 4) hC fk_RX10_17 rfl (dAt dd_X10_isWide 1 rfl) rfl (fun r1 => ?_)
  refine x_iload_n (p' := 5) hC 1 (dAt dd_X10_isWide 2 rfl) rfl rfl rfl ?_
  refine x_aaload 17 5 (p' := 6) hC rfl (by decide) rfl (dAt dd_X10_isWide 3 rfl) rfl (fun r2 => ?_)
  refine x_getR (p' := 9) hC fk_RX10_145 rfl (dAt dd_X10_isWide 4 rfl) rfl (fun r3 => ?_)
  refine x_astore_n (j := 2) (lv' := [(2, va_rf r3), (0, va_rf (some a0)), (1, .int p1)]) (p' := 10) hC (dAt dd_X10_isWide 5 rfl) rfl (by decide) rfl rfl ?_
  refine x_aload_n (p' := 11) hC 0 (dAt dd_X10_isWide 6 rfl) rfl rfl rfl ?_
  refine x_ifnonnull (tgt := 16) (p' := 14) hC (dAt dd_X10_isWide 7 rfl) (by decide) rfl (fun _ _ => ?_) (fun _ => ?_)
  · refine x_iconst (v := 0) (p' := 17) hC (dAt dd_X10_isWide 10 rfl) (by decide) rfl ?_
    refine x_istore_n (j := 3) (lv' := [(3, .int 0), (2, va_rf r3), (0, va_rf (some a0)), (1, .int p1)]) (p' := 18) hC (dAt dd_X10_isWide 11 rfl) rfl (by decide) (by simp [x_cat, show ∀ v : Int32, (Value.int v).category = 1 from fun _ => rfl]) rfl ?_
    refine x_sub [2, 3, 1, 0] rfl ?_
    exact t_X10_isWide_L18 hC FU a0 p1 r3 0 h
  · refine x_iconst (v := 0) (p' := 15) hC (dAt dd_X10_isWide 8 rfl) (by decide) rfl ?_
    exact x_zreturn hC (dAt dd_X10_isWide 9 rfl)
set_option maxHeartbeats 4000000 in
set_option maxRecDepth 100000 in
theorem t_X10_isSplit_L25 {C : CT} (hC : OKC C yX10_isSplit cX10_isSplit 6 (some .boolean) 2 46)   : ∀ (n : Nat) (x0 : Nat) (x1 : Int32) (x2 : Option Nat) (x3 : Int32) (x4 : Int32) (h : AH), WX rvI C 25 [(0, va_rf (some x0)), (1, .int x1), (2, va_rf x2), (3, .int x3), (4, .int x4)] [] h (f_X10_isSplit_L25 n x0 x1 x2 x3 x4 h) := by
  intro n
  induction n with
  | zero => intro _ _ _ _ _ _; exact x_none
  | succ n ih =>
    intro x0 x1 x2 x3 x4 h
    rw [f_X10_isSplit_L25]
    refine x_iload (p' := 27) hC 4 (dAt dd_X10_isSplit 18 rfl) rfl rfl ?_
    refine x_iload_n (p' := 28) hC 3 (dAt dd_X10_isSplit 19 rfl) rfl rfl rfl ?_
    refine x_iconst (v := 3) (p' := 29) hC (dAt dd_X10_isSplit 20 rfl) (by decide) rfl ?_
    refine x_iadd (p' := 30) hC (dAt dd_X10_isSplit 21 rfl) rfl ?_
    refine x_icmp_ge (tgt := 79) (p' := 33) hC (dAt dd_X10_isSplit 22 rfl) (by decide) rfl ?_ ?_
    · refine x_iconst (v := 0) (p' := 80) hC (dAt dd_X10_isSplit 44 rfl) (by decide) rfl ?_
      exact x_zreturn hC (dAt dd_X10_isSplit 45 rfl)
    · refine x_aload_n (p' := 34) hC 0 (dAt dd_X10_isSplit 23 rfl) rfl rfl rfl ?_
      refine x_getR (p' := 37) hC fk_RX10_17 rfl (dAt dd_X10_isSplit 24 rfl) rfl (fun r4 => ?_)
      refine x_iload (p' := 39) hC 4 (dAt dd_X10_isSplit 25 rfl) rfl rfl ?_
      refine x_aaload 17 5 (p' := 40) hC rfl (by decide) rfl (dAt dd_X10_isSplit 26 rfl) rfl (fun r5 => ?_)
      refine x_getR (p' := 43) hC fk_RX10_145 rfl (dAt dd_X10_isSplit 27 rfl) rfl (fun r6 => ?_)
      refine x_astore (lv' := [(5, va_rf r6), (0, va_rf (some x0)), (1, .int x1), (2, va_rf x2), (3, .int x3), (4, .int x4)]) (p' := 45) hC (dAt dd_X10_isSplit 28 rfl) (by decide) rfl rfl ?_
      refine x_iload (p' := 47) hC 5 (dAt dd_X10_isSplit 29 rfl) rfl rfl ?_
      refine x_iload_n (p' := 48) hC 2 (dAt dd_X10_isSplit 30 rfl) rfl rfl rfl ?_
      refine x_icmp_eq (tgt := 73) (p' := 51) hC (dAt dd_X10_isSplit 31 rfl) (by decide) rfl ?_ ?_
      · refine x_iinc (w := (x4 + 1)) (lv' := [(4, .int (x4 + 1)), (5, va_rf r6), (0, va_rf (some x0)), (1, .int x1), (2, va_rf x2), (3, .int x3)]) (p' := 76) hC 5 (dAt dd_X10_isSplit 42 rfl) rfl rfl (by decide) rfl rfl ?_
        refine x_goto (tgt := 25) hC (dAt dd_X10_isSplit 43 rfl) (by decide) ?_
        refine x_sub [2, 3, 4, 5, 0] rfl ?_
        exact ih x0 x1 x2 x3 (x4 + 1) h
      · refine x_aload (p' := 53) hC 0 (dAt dd_X10_isSplit 32 rfl) rfl rfl ?_
        refine x_ifnull (tgt := 73) (p' := 56) hC (dAt dd_X10_isSplit 33 rfl) (by decide) rfl (fun _ => ?_) (fun _ _ => ?_)
        · refine x_iinc (w := (x4 + 1)) (lv' := [(4, .int (x4 + 1)), (5, va_rf r6), (0, va_rf (some x0)), (1, .int x1), (2, va_rf x2), (3, .int x3)]) (p' := 76) hC 5 (dAt dd_X10_isSplit 42 rfl) rfl rfl (by decide) rfl rfl ?_
          refine x_goto (tgt := 25) hC (dAt dd_X10_isSplit 43 rfl) (by decide) ?_
          refine x_sub [2, 3, 4, 5, 0] rfl ?_
          exact ih x0 x1 x2 x3 (x4 + 1) h
        · refine x_aload (p' := 58) hC 0 (dAt dd_X10_isSplit 34 rfl) rfl rfl ?_
          refine x_getR (p' := 61) hC fk_RX10_162 rfl (dAt dd_X10_isSplit 35 rfl) rfl (fun r7 => ?_)
          refine x_aload_n (p' := 62) hC 3 (dAt dd_X10_isSplit 36 rfl) rfl rfl rfl ?_
          refine x_getR (p' := 65) hC fk_RX10_162 rfl (dAt dd_X10_isSplit 37 rfl) rfl (fun r8 => ?_)
          refine x_callSI (As := [va_rf r7, va_rf r8]) (p' := 68) hC (c_X9_areAlike _ _ _ h r7 r8) k_648 k_421 k_12 k_422 hd_X9_areAlike ⟨by decide, by decide⟩ rfl (Nat.le_of_ble_eq_true rfl) rfl (dAt dd_X10_isSplit 38 rfl) rfl (fun v9 h10 => ?_)
          refine x_if_ne (tgt := 73) (p' := 71) hC (dAt dd_X10_isSplit 39 rfl) (by decide) rfl ?_ ?_
          · refine x_iinc (w := (x4 + 1)) (lv' := [(4, .int (x4 + 1)), (5, va_rf r6), (0, va_rf (some x0)), (1, .int x1), (2, va_rf x2), (3, .int x3)]) (p' := 76) hC 5 (dAt dd_X10_isSplit 42 rfl) rfl rfl (by decide) rfl rfl ?_
            refine x_goto (tgt := 25) hC (dAt dd_X10_isSplit 43 rfl) (by decide) ?_
            refine x_sub [2, 3, 4, 5, 0] rfl ?_
            exact ih x0 x1 x2 x3 (x4 + 1) h10
          · refine x_iconst (v := 1) (p' := 72) hC (dAt dd_X10_isSplit 40 rfl) (by decide) rfl ?_
            exact x_zreturn hC (dAt dd_X10_isSplit 41 rfl)
set_option maxHeartbeats 4000000 in
set_option maxRecDepth 100000 in
theorem c_X10_isSplit (l : Launch) (D : va_G) (cy : Nat → ClassId) (h : AH) (a0 : Nat) (p1 : Int32) : MX rvI l yX10_isSplit (Cond.code yX10_isSplit cX10_isSplit 6 (some .boolean) :: LW) 2 46 D cy h [va_rf (some a0), .int p1] (f_X10_isSplit h a0 p1) := by
  refine MX.of (lv := [(0, va_rf (some a0)), (1, .int p1)]) (by decide) (Nat.le_of_ble_eq_true rfl) rfl (fun C hC _ => ?_)
  unfold f_X10_isSplit
  refine x_aload_n (p' := 1) hC 0 (dAt dd_X10_isSplit 0 rfl) rfl rfl rfl ?_
  refine x_getR (p' := 4) hC fk_RX10_17 rfl (dAt dd_X10_isSplit 1 rfl) rfl (fun r1 => ?_)
  refine x_iload_n (p' := 5) hC 1 (dAt dd_X10_isSplit 2 rfl) rfl rfl rfl ?_
  refine x_aaload 17 5 (p' := 6) hC rfl (by decide) rfl (dAt dd_X10_isSplit 3 rfl) rfl (fun r2 => ?_)
  refine x_getR (p' := 9) hC fk_RX10_145 rfl (dAt dd_X10_isSplit 4 rfl) rfl (fun r3 => ?_)
  refine x_astore_n (j := 2) (lv' := [(2, va_rf r3), (0, va_rf (some a0)), (1, .int p1)]) (p' := 10) hC (dAt dd_X10_isSplit 5 rfl) rfl (by decide) rfl rfl ?_
  refine x_aload_n (p' := 11) hC 0 (dAt dd_X10_isSplit 6 rfl) rfl rfl rfl ?_
  refine x_ifnonnull (tgt := 16) (p' := 14) hC (dAt dd_X10_isSplit 7 rfl) (by decide) rfl (fun _ _ => ?_) (fun _ => ?_)
  · refine x_iload_n (p' := 17) hC 2 (dAt dd_X10_isSplit 10 rfl) rfl rfl rfl ?_
    refine x_iload_n (p' := 18) hC 2 (dAt dd_X10_isSplit 11 rfl) rfl rfl rfl ?_
    refine x_iconst (v := 3) (p' := 19) hC (dAt dd_X10_isSplit 12 rfl) (by decide) rfl ?_
    refine x_irem (p' := 20) hC (dAt dd_X10_isSplit 13 rfl) rfl ?_
    refine x_isub (p' := 21) hC (dAt dd_X10_isSplit 14 rfl) rfl ?_
    refine x_istore_n (j := 3) (lv' := [(3, .int (p1 - (p1 - p1 / 3 * 3))), (2, va_rf r3), (0, va_rf (some a0)), (1, .int p1)]) (p' := 22) hC (dAt dd_X10_isSplit 15 rfl) rfl (by decide) (by simp [x_cat, show ∀ v : Int32, (Value.int v).category = 1 from fun _ => rfl]) rfl ?_
    refine x_iload_n (p' := 23) hC 0 (dAt dd_X10_isSplit 16 rfl) rfl rfl rfl ?_
    refine x_istore (lv' := [(4, .int (p1 - (p1 - p1 / 3 * 3))), (3, .int (p1 - (p1 - p1 / 3 * 3))), (2, va_rf r3), (0, va_rf (some a0)), (1, .int p1)]) (p' := 25) hC (dAt dd_X10_isSplit 17 rfl) (by decide) rfl rfl ?_
    refine x_sub [3, 4, 2, 1, 0] rfl ?_
    exact t_X10_isSplit_L25 hC FU a0 p1 r3 (p1 - (p1 - p1 / 3 * 3)) (p1 - (p1 - p1 / 3 * 3)) h
  · refine x_iconst (v := 0) (p' := 15) hC (dAt dd_X10_isSplit 8 rfl) (by decide) rfl ?_
    exact x_zreturn hC (dAt dd_X10_isSplit 9 rfl)
set_option maxHeartbeats 4000000 in
set_option maxRecDepth 100000 in
theorem c_X10_toldKind (l : Launch) (D : va_G) (cy : Nat → ClassId) (h : AH) (a0 : Nat) (p1 : Int32) : MX rvI l yX10_toldKind (Cond.code yX10_toldKind cX10_toldKind 2 (some .int) :: LW) 3 71 D cy h [va_rf (some a0), .int p1] (f_X10_toldKind h a0 p1) := by
  refine MX.of (lv := [(0, va_rf (some a0)), (1, .int p1)]) (by decide) (Nat.le_of_ble_eq_true rfl) rfl (fun C hC _ => ?_)
  unfold f_X10_toldKind
  refine x_aload_n (p' := 1) hC 0 (dAt dd_X10_toldKind 0 rfl) rfl rfl rfl ?_
  refine x_iload_n (p' := 2) hC 1 (dAt dd_X10_toldKind 1 rfl) rfl rfl rfl ?_
  refine x_callVI (As := [.int p1]) (z := fun b => f_X10_isFoldedOne h b p1) (p' := 5) hC (fun b => c_X10_isFoldedOne _ _ _ h b p1) k_644 k_646 (k_sl 18 rfl) k_1 k_647 hd_X10_isFoldedOne ⟨by decide, by decide⟩ (ci := 9) rfl rfl (by decide) rfl (Nat.le_of_ble_eq_true rfl) rfl (dAt dd_X10_toldKind 2 rfl) rfl (fun v1 h2 => ?_)
  refine x_if_eq (tgt := 22) (p' := 8) hC (dAt dd_X10_toldKind 3 rfl) (by decide) rfl ?_ ?_
  · refine x_aload_n (p' := 23) hC 0 (dAt dd_X10_toldKind 12 rfl) rfl rfl rfl ?_
    refine x_iload_n (p' := 24) hC 1 (dAt dd_X10_toldKind 13 rfl) rfl rfl rfl ?_
    refine x_callVI (As := [.int p1]) (z := fun b => f_X10_isSplit h2 b p1) (p' := 27) hC (fun b => c_X10_isSplit _ _ _ h2 b p1) k_653 k_655 (k_sl 20 rfl) k_1 k_656 hd_X10_isSplit ⟨by decide, by decide⟩ (ci := 9) rfl rfl (by decide) rfl (Nat.le_of_ble_eq_true rfl) rfl (dAt dd_X10_toldKind 14 rfl) rfl (fun v3 h4 => ?_)
    refine x_if_eq (tgt := 34) (p' := 30) hC (dAt dd_X10_toldKind 15 rfl) (by decide) rfl ?_ ?_
    · refine x_iconst (v := 0) (p' := 35) hC (dAt dd_X10_toldKind 18 rfl) (by decide) rfl ?_
      exact x_ireturn hC (dAt dd_X10_toldKind 19 rfl)
    · refine x_iconst (v := 2) (p' := 31) hC (dAt dd_X10_toldKind 16 rfl) (by decide) rfl ?_
      refine x_goto (tgt := 35) hC (dAt dd_X10_toldKind 17 rfl) (by decide) ?_
      exact x_ireturn hC (dAt dd_X10_toldKind 19 rfl)
  · refine x_aload_n (p' := 9) hC 0 (dAt dd_X10_toldKind 4 rfl) rfl rfl rfl ?_
    refine x_iload_n (p' := 10) hC 1 (dAt dd_X10_toldKind 5 rfl) rfl rfl rfl ?_
    refine x_callVI (As := [.int p1]) (z := fun b => f_X10_isWide h2 b p1) (p' := 13) hC (fun b => c_X10_isWide _ _ _ h2 b p1) k_649 k_651 (k_sl 19 rfl) k_1 k_652 hd_X10_isWide ⟨by decide, by decide⟩ (ci := 9) rfl rfl (by decide) rfl (Nat.le_of_ble_eq_true rfl) rfl (dAt dd_X10_toldKind 6 rfl) rfl (fun v5 h6 => ?_)
    refine x_if_eq (tgt := 20) (p' := 16) hC (dAt dd_X10_toldKind 7 rfl) (by decide) rfl ?_ ?_
    · refine x_iconst (v := 1) (p' := 21) hC (dAt dd_X10_toldKind 10 rfl) (by decide) rfl ?_
      exact x_ireturn hC (dAt dd_X10_toldKind 11 rfl)
    · refine x_iconst (v := 3) (p' := 17) hC (dAt dd_X10_toldKind 8 rfl) (by decide) rfl ?_
      refine x_goto (tgt := 21) hC (dAt dd_X10_toldKind 9 rfl) (by decide) ?_
      exact x_ireturn hC (dAt dd_X10_toldKind 11 rfl)
set_option maxHeartbeats 4000000 in
set_option maxRecDepth 100000 in
theorem c_X10_kind (l : Launch) (D : va_G) (cy : Nat → ClassId) (h : AH) (a0 : Nat) (p1 : Int32) (p2 : Int32) : MX rvI l yX10_kind (Cond.code yX10_kind cX10_kind 4 (some .int) :: LW) 4 92 D cy h [va_rf (some a0), .int p1, .int p2] (f_X10_kind h a0 p1 p2) := by
  refine MX.of (lv := [(0, va_rf (some a0)), (1, .int p1), (2, .int p2)]) (by decide) (Nat.le_of_ble_eq_true rfl) rfl (fun C hC _ => ?_)
  unfold f_X10_kind
  refine x_iload_n (p' := 1) hC 1 (dAt dd_X10_kind 0 rfl) rfl rfl rfl ?_
  refine x_iload_n (p' := 2) hC 2 (dAt dd_X10_kind 1 rfl) rfl rfl rfl ?_
  refine x_callSI (As := [.int p1, .int p2]) (p' := 5) hC (c_X10_slotAt _ _ _ h p1 p2) k_367 k_368 k_1 k_369 hd_X10_slotAt ⟨by decide, by decide⟩ rfl (Nat.le_of_ble_eq_true rfl) rfl (dAt dd_X10_kind 2 rfl) rfl (fun v1 h2 => ?_)
  refine x_istore_n (j := 3) (lv' := [(3, .int v1), (0, va_rf (some a0)), (1, .int p1), (2, .int p2)]) (p' := 6) hC (dAt dd_X10_kind 3 rfl) rfl (by decide) rfl rfl ?_
  refine x_iload_n (p' := 7) hC 0 (dAt dd_X10_kind 4 rfl) rfl rfl rfl ?_
  refine x_if_ge (tgt := 13) (p' := 10) hC (dAt dd_X10_kind 5 rfl) (by decide) rfl ?_ ?_
  · refine x_aload_n (p' := 14) hC 1 (dAt dd_X10_kind 8 rfl) rfl rfl rfl ?_
    refine x_getR (p' := 17) hC fk_RX10_17 rfl (dAt dd_X10_kind 9 rfl) rfl (fun r3 => ?_)
    refine x_iload_n (p' := 18) hC 0 (dAt dd_X10_kind 10 rfl) rfl rfl rfl ?_
    refine x_aaload 17 5 (p' := 19) hC rfl (by decide) rfl (dAt dd_X10_kind 11 rfl) rfl (fun r4 => ?_)
    refine x_getR (p' := 22) hC fk_RX10_145 rfl (dAt dd_X10_kind 12 rfl) rfl (fun r5 => ?_)
    refine x_ifnonnull (tgt := 30) (p' := 25) hC (dAt dd_X10_kind 13 rfl) (by decide) rfl (fun _ _ => ?_) (fun _ => ?_)
    · refine x_aload_n (p' := 31) hC 1 (dAt dd_X10_kind 16 rfl) rfl rfl rfl ?_
      refine x_iload_n (p' := 32) hC 0 (dAt dd_X10_kind 17 rfl) rfl rfl rfl ?_
      refine x_callVI (As := [.int v1]) (z := fun b => f_X10_toldKind h2 b v1) (p' := 35) hC (fun b => c_X10_toldKind _ _ _ h2 b v1) k_640 k_642 (k_sl 17 rfl) k_1 k_643 hd_X10_toldKind ⟨by decide, by decide⟩ (ci := 9) rfl rfl (by decide) rfl (Nat.le_of_ble_eq_true rfl) rfl (dAt dd_X10_kind 18 rfl) rfl (fun v6 h7 => ?_)
      exact x_ireturn hC (dAt dd_X10_kind 19 rfl)
    · refine x_ldc (v := (-1000002)) (p' := 27) hC (dAt dd_X10_kind 14 rfl) k_316 rfl ?_
      refine x_goto (tgt := 35) hC (dAt dd_X10_kind 15 rfl) (by decide) ?_
      exact x_ireturn hC (dAt dd_X10_kind 19 rfl)
  · refine x_ldc (v := (-1000001)) (p' := 12) hC (dAt dd_X10_kind 6 rfl) k_269 rfl ?_
    exact x_ireturn hC (dAt dd_X10_kind 7 rfl)
set_option maxHeartbeats 4000000 in
set_option maxRecDepth 100000 in
theorem c_X10_isOneOf (l : Launch) (D : va_G) (cy : Nat → ClassId) (h : AH) (p0 : Int32) (p1 : Int32) : MX rvI l yX10_isOneOf (Cond.code yX10_isOneOf cX10_isOneOf 2 (some .boolean) :: LW) 0 0 D cy h [.int p0, .int p1] (f_X10_isOneOf h p0 p1) := by
  refine MX.of (lv := [(0, .int p0), (1, .int p1)]) (by decide) (Nat.le_of_ble_eq_true rfl) rfl (fun C hC _ => ?_)
  unfold f_X10_isOneOf
  refine x_iload_n (p' := 1) hC 1 (dAt dd_X10_isOneOf 0 rfl) rfl rfl rfl ?_
  refine x_if_eq (tgt := 19) (p' := 4) hC (dAt dd_X10_isOneOf 1 rfl) (by decide) rfl ?_ ?_
  · refine x_iconst (v := 1) (p' := 20) hC (dAt dd_X10_isOneOf 11 rfl) (by decide) rfl ?_
    refine x_goto (tgt := 24) hC (dAt dd_X10_isOneOf 12 rfl) (by decide) ?_
    exact x_zreturn hC (dAt dd_X10_isOneOf 14 rfl)
  · refine x_iload_n (p' := 5) hC 1 (dAt dd_X10_isOneOf 2 rfl) rfl rfl rfl ?_
    refine x_iload_n (p' := 6) hC 0 (dAt dd_X10_isOneOf 3 rfl) rfl rfl rfl ?_
    refine x_icmp_eq (tgt := 19) (p' := 9) hC (dAt dd_X10_isOneOf 4 rfl) (by decide) rfl ?_ ?_
    · refine x_iconst (v := 1) (p' := 20) hC (dAt dd_X10_isOneOf 11 rfl) (by decide) rfl ?_
      refine x_goto (tgt := 24) hC (dAt dd_X10_isOneOf 12 rfl) (by decide) ?_
      exact x_zreturn hC (dAt dd_X10_isOneOf 14 rfl)
    · refine x_iload_n (p' := 10) hC 1 (dAt dd_X10_isOneOf 5 rfl) rfl rfl rfl ?_
      refine x_iconst (v := 1) (p' := 11) hC (dAt dd_X10_isOneOf 6 rfl) (by decide) rfl ?_
      refine x_icmp_ne (tgt := 23) (p' := 14) hC (dAt dd_X10_isOneOf 7 rfl) (by decide) rfl ?_ ?_
      · refine x_iconst (v := 0) (p' := 24) hC (dAt dd_X10_isOneOf 13 rfl) (by decide) rfl ?_
        exact x_zreturn hC (dAt dd_X10_isOneOf 14 rfl)
      · refine x_iload_n (p' := 15) hC 0 (dAt dd_X10_isOneOf 8 rfl) rfl rfl rfl ?_
        refine x_iconst (v := 3) (p' := 16) hC (dAt dd_X10_isOneOf 9 rfl) (by decide) rfl ?_
        refine x_icmp_ne (tgt := 23) (p' := 19) hC (dAt dd_X10_isOneOf 10 rfl) (by decide) rfl ?_ ?_
        · refine x_iconst (v := 0) (p' := 24) hC (dAt dd_X10_isOneOf 13 rfl) (by decide) rfl ?_
          exact x_zreturn hC (dAt dd_X10_isOneOf 14 rfl)
        · refine x_iconst (v := 1) (p' := 20) hC (dAt dd_X10_isOneOf 11 rfl) (by decide) rfl ?_
          refine x_goto (tgt := 24) hC (dAt dd_X10_isOneOf 12 rfl) (by decide) ?_
          exact x_zreturn hC (dAt dd_X10_isOneOf 14 rfl)
set_option maxHeartbeats 4000000 in
set_option maxRecDepth 100000 in
theorem c_X10_as (l : Launch) (D : va_G) (cy : Nat → ClassId) (h : AH) (a0 : Nat) (p1 : Int32) (p2 : Int32) (p3 : Int32) : MX rvI l yX10_as (Cond.code yX10_as cX10_as 6 (some .int) :: LW) 4 92 D cy h [va_rf (some a0), .int p1, .int p2, .int p3] (f_X10_as h a0 p1 p2 p3) := by
  refine MX.of (lv := [(0, va_rf (some a0)), (1, .int p1), (2, .int p2), (3, .int p3)]) (by decide) (Nat.le_of_ble_eq_true rfl) rfl (fun C hC _ => ?_)
  unfold f_X10_as
  refine x_iload_n (p' := 1) hC 1 (dAt dd_X10_as 0 rfl) rfl rfl rfl ?_
  refine x_iload_n (p' := 2) hC 2 (dAt dd_X10_as 1 rfl) rfl rfl rfl ?_
  refine x_callSI (As := [.int p1, .int p2]) (p' := 5) hC (c_X10_slotAt _ _ _ h p1 p2) k_367 k_368 k_1 k_369 hd_X10_slotAt ⟨by decide, by decide⟩ rfl (Nat.le_of_ble_eq_true rfl) rfl (dAt dd_X10_as 2 rfl) rfl (fun v1 h2 => ?_)
  refine x_istore (lv' := [(4, .int v1), (0, va_rf (some a0)), (1, .int p1), (2, .int p2), (3, .int p3)]) (p' := 7) hC (dAt dd_X10_as 3 rfl) (by decide) rfl rfl ?_
  refine x_iload (p' := 9) hC 0 (dAt dd_X10_as 4 rfl) rfl rfl ?_
  refine x_if_lt (tgt := 21) (p' := 12) hC (dAt dd_X10_as 5 rfl) (by decide) rfl ?_ ?_
  · refine x_ldc (v := (-1000001)) (p' := 23) hC (dAt dd_X10_as 11 rfl) k_269 rfl ?_
    exact x_ireturn hC (dAt dd_X10_as 12 rfl)
  · refine x_iload_n (p' := 13) hC 4 (dAt dd_X10_as 6 rfl) rfl rfl rfl ?_
    refine x_if_lt (tgt := 21) (p' := 16) hC (dAt dd_X10_as 7 rfl) (by decide) rfl ?_ ?_
    · refine x_ldc (v := (-1000001)) (p' := 23) hC (dAt dd_X10_as 11 rfl) k_269 rfl ?_
      exact x_ireturn hC (dAt dd_X10_as 12 rfl)
    · refine x_iload_n (p' := 17) hC 4 (dAt dd_X10_as 8 rfl) rfl rfl rfl ?_
      refine x_iconst (v := 3) (p' := 18) hC (dAt dd_X10_as 9 rfl) (by decide) rfl ?_
      refine x_icmp_le (tgt := 24) (p' := 21) hC (dAt dd_X10_as 10 rfl) (by decide) rfl ?_ ?_
      · refine x_aload_n (p' := 25) hC 1 (dAt dd_X10_as 13 rfl) rfl rfl rfl ?_
        refine x_getR (p' := 28) hC fk_RX10_17 rfl (dAt dd_X10_as 14 rfl) rfl (fun r3 => ?_)
        refine x_iload (p' := 30) hC 0 (dAt dd_X10_as 15 rfl) rfl rfl ?_
        refine x_aaload 17 5 (p' := 31) hC rfl (by decide) rfl (dAt dd_X10_as 16 rfl) rfl (fun r4 => ?_)
        refine x_getR (p' := 34) hC fk_RX10_145 rfl (dAt dd_X10_as 17 rfl) rfl (fun r5 => ?_)
        refine x_astore (lv' := [(5, va_rf r5), (4, .int v1), (0, va_rf (some a0)), (1, .int p1), (2, .int p2), (3, .int p3)]) (p' := 36) hC (dAt dd_X10_as 18 rfl) (by decide) rfl rfl ?_
        refine x_aload (p' := 38) hC 0 (dAt dd_X10_as 19 rfl) rfl rfl ?_
        refine x_ifnonnull (tgt := 44) (p' := 41) hC (dAt dd_X10_as 20 rfl) (by decide) rfl (fun _ _ => ?_) (fun _ => ?_)
        · refine x_aload_n (p' := 45) hC 2 (dAt dd_X10_as 23 rfl) rfl rfl rfl ?_
          refine x_iload (p' := 47) hC 1 (dAt dd_X10_as 24 rfl) rfl rfl ?_
          refine x_callVI (As := [.int v1]) (z := fun b => f_X10_toldKind h2 b v1) (p' := 50) hC (fun b => c_X10_toldKind _ _ _ h2 b v1) k_640 k_642 (k_sl 17 rfl) k_1 k_643 hd_X10_toldKind ⟨by decide, by decide⟩ (ci := 9) rfl rfl (by decide) rfl (Nat.le_of_ble_eq_true rfl) rfl (dAt dd_X10_as 25 rfl) rfl (fun v6 h7 => ?_)
          refine x_iload_n (p' := 51) hC 5 (dAt dd_X10_as 26 rfl) rfl rfl rfl ?_
          refine x_callSI (As := [.int v6, .int p3]) (p' := 54) hC (c_X10_isOneOf _ _ _ h7 v6 p3) k_661 k_662 k_1 k_663 hd_X10_isOneOf ⟨by decide, by decide⟩ rfl (Nat.le_of_ble_eq_true rfl) rfl (dAt dd_X10_as 27 rfl) rfl (fun v8 h9 => ?_)
          refine x_if_ne (tgt := 63) (p' := 57) hC (dAt dd_X10_as 28 rfl) (by decide) rfl ?_ ?_
          · refine x_aload_n (p' := 64) hC 2 (dAt dd_X10_as 33 rfl) rfl rfl rfl ?_
            refine x_aload (p' := 66) hC 0 (dAt dd_X10_as 34 rfl) rfl rfl ?_
            refine x_getR (p' := 69) hC fk_RX10_162 rfl (dAt dd_X10_as 35 rfl) rfl (fun r10 => ?_)
            refine x_arraylength 12 0 (p' := 70) hC rfl (by decide) (dAt dd_X10_as 36 rfl) rfl (fun v11 => ?_)
            refine x_callVI (As := [.int v11]) (z := fun b => f_X10_fine h9 b v11) (p' := 73) hC (fun b => c_X10_fine _ _ _ h9 b v11) k_282 k_284 (k_sl 1 rfl) k_1 k_285 hd_X10_fine ⟨by decide, by decide⟩ (ci := 9) rfl rfl (by decide) rfl (Nat.le_of_ble_eq_true rfl) rfl (dAt dd_X10_as 37 rfl) rfl (fun v12 h13 => ?_)
            exact x_ireturn hC (dAt dd_X10_as 38 rfl)
          · refine x_aload_n (p' := 58) hC 2 (dAt dd_X10_as 29 rfl) rfl rfl rfl ?_
            refine x_iconst (v := 3) (p' := 59) hC (dAt dd_X10_as 30 rfl) (by decide) rfl ?_
            refine x_callVI (As := [.int 3]) (z := fun b => f_X10_found h9 b 3) (p' := 62) hC (fun b => c_X10_found _ _ _ h9 b 3) k_270 k_272 (k_sl 0 rfl) k_1 k_273 hd_X10_found ⟨by decide, by decide⟩ (ci := 9) rfl rfl (by decide) rfl (Nat.le_of_ble_eq_true rfl) rfl (dAt dd_X10_as 31 rfl) rfl (fun v14 h15 => ?_)
            exact x_ireturn hC (dAt dd_X10_as 32 rfl)
        · refine x_ldc (v := (-1000002)) (p' := 43) hC (dAt dd_X10_as 21 rfl) k_316 rfl ?_
          exact x_ireturn hC (dAt dd_X10_as 22 rfl)
      · refine x_ldc (v := (-1000001)) (p' := 23) hC (dAt dd_X10_as 11 rfl) k_269 rfl ?_
        exact x_ireturn hC (dAt dd_X10_as 12 rfl)
set_option maxHeartbeats 4000000 in
set_option maxRecDepth 100000 in
theorem c_X10_leave (l : Launch) (D : va_G) (cy : Nat → ClassId) (h : AH) (a0 : Nat) (p1 : Int32) : MX rvV l yX10_leave (Cond.code yX10_leave cX10_leave 2 none :: LW) 0 0 D cy h [va_rf (some a0), .int p1] (f_X10_leave h a0 p1) := by
  refine MX.of (lv := [(0, va_rf (some a0)), (1, .int p1)]) (by decide) (Nat.le_of_ble_eq_true rfl) rfl (fun C hC _ => ?_)
  unfold f_X10_leave
  refine x_aload_n (p' := 1) hC 0 (dAt dd_X10_leave 0 rfl) rfl rfl rfl ?_
  refine x_getI (p' := 4) hC fk_RX10_60 rfl (dAt dd_X10_leave 1 rfl) rfl (fun v1 => ?_)
  refine x_bipush (v := 16) (p' := 6) hC (dAt dd_X10_leave 2 rfl) (by decide) rfl ?_
  refine x_icmp_ge (tgt := 29) (p' := 9) hC (dAt dd_X10_leave 3 rfl) (by decide) rfl ?_ ?_
  · exact x_return hC (dAt dd_X10_leave 16 rfl)
  · refine x_aload_n (p' := 10) hC 0 (dAt dd_X10_leave 4 rfl) rfl rfl rfl ?_
    refine x_getR (p' := 13) hC fk_RX10_56 rfl (dAt dd_X10_leave 5 rfl) rfl (fun r2 => ?_)
    refine x_aload_n (p' := 14) hC 0 (dAt dd_X10_leave 6 rfl) rfl rfl rfl ?_
    refine x_getI (p' := 17) hC fk_RX10_60 rfl (dAt dd_X10_leave 7 rfl) rfl (fun v3 => ?_)
    refine x_iload_n (p' := 18) hC 1 (dAt dd_X10_leave 8 rfl) rfl rfl rfl ?_
    refine x_iastore (p' := 19) hC (dAt dd_X10_leave 9 rfl) rfl (fun h4 => ?_)
    refine x_aload_n (p' := 20) hC 0 (dAt dd_X10_leave 10 rfl) rfl rfl rfl ?_
    refine x_dup (p' := 21) hC (dAt dd_X10_leave 11 rfl) (x_cat _) rfl ?_
    refine x_getI (p' := 24) hC fk_RX10_60 rfl (dAt dd_X10_leave 12 rfl) rfl (fun v5 => ?_)
    refine x_iconst (v := 1) (p' := 25) hC (dAt dd_X10_leave 13 rfl) (by decide) rfl ?_
    refine x_iadd (p' := 26) hC (dAt dd_X10_leave 14 rfl) rfl ?_
    refine x_putI (p' := 29) hC fk_RX10_60 tk_RX10 rfl rfl (Or.inl rfl) (dAt dd_X10_leave 15 rfl) rfl (fun h6 => ?_)
    exact x_return hC (dAt dd_X10_leave 16 rfl)
set_option maxHeartbeats 4000000 in
set_option maxRecDepth 100000 in
theorem c_X10_sizeLent (l : Launch) (D : va_G) (cy : Nat → ClassId) (h : AH) (a0 : Nat) (p1 : Option Nat) : MX rvI l yX10_sizeLent (Cond.code yX10_sizeLent cX10_sizeLent 2 (some .int) :: LW) 1 21 D cy h [va_rf (some a0), va_rf p1] (f_X10_sizeLent h a0 p1) := by
  refine MX.of (lv := [(0, va_rf (some a0)), (1, va_rf p1)]) (by decide) (by cases p1 <;> exact Nat.le_of_ble_eq_true rfl) (by cases p1 <;> rfl) (fun C hC _ => ?_)
  unfold f_X10_sizeLent
  refine x_aload_n (p' := 1) hC 0 (dAt dd_X10_sizeLent 0 rfl) rfl rfl rfl ?_
  refine x_bipush (v := 10) (p' := 3) hC (dAt dd_X10_sizeLent 1 rfl) (by decide) rfl ?_
  refine x_callVV (As := [.int 10]) (z := fun b => f_X10_leave h b 10) (p' := 6) hC (fun b => c_X10_leave _ _ _ h b 10) k_676 k_678 (k_sl 23 rfl) k_1 k_679 hd_X10_leave ⟨by decide, by decide⟩ (ci := 9) rfl rfl (by decide) rfl (Nat.le_of_ble_eq_true rfl) rfl (dAt dd_X10_sizeLent 2 rfl) rfl (fun u1 h2 => ?_)
  refine x_aload_n (p' := 7) hC 1 (dAt dd_X10_sizeLent 3 rfl) rfl rfl rfl ?_
  refine x_getR (p' := 10) hC fk_RX10_145 rfl (dAt dd_X10_sizeLent 4 rfl) rfl (fun r3 => ?_)
  refine x_ifnonnull (tgt := 17) (p' := 13) hC (dAt dd_X10_sizeLent 5 rfl) (by decide) rfl (fun _ _ => ?_) (fun _ => ?_)
  · refine x_aload_n (p' := 18) hC 1 (dAt dd_X10_sizeLent 8 rfl) rfl rfl rfl ?_
    refine x_getR (p' := 21) hC fk_RX10_145 rfl (dAt dd_X10_sizeLent 9 rfl) rfl (fun r4 => ?_)
    refine x_getR (p' := 24) hC fk_RX10_162 rfl (dAt dd_X10_sizeLent 10 rfl) rfl (fun r5 => ?_)
    refine x_arraylength 12 0 (p' := 25) hC rfl (by decide) (dAt dd_X10_sizeLent 11 rfl) rfl (fun v6 => ?_)
    exact x_ireturn hC (dAt dd_X10_sizeLent 12 rfl)
  · refine x_iconst (v := 0) (p' := 14) hC (dAt dd_X10_sizeLent 6 rfl) (by decide) rfl ?_
    refine x_goto (tgt := 25) hC (dAt dd_X10_sizeLent 7 rfl) (by decide) ?_
    exact x_ireturn hC (dAt dd_X10_sizeLent 12 rfl)
set_option maxHeartbeats 4000000 in
set_option maxRecDepth 100000 in
theorem c_X10_sizeOfFolded (l : Launch) (D : va_G) (cy : Nat → ClassId) (h : AH) (a0 : Nat) (p1 : Option Nat) : MX rvI l yX10_sizeOfFolded (Cond.code yX10_sizeOfFolded cX10_sizeOfFolded 2 (some .int) :: LW) 2 42 D cy h [va_rf (some a0), va_rf p1] (f_X10_sizeOfFolded h a0 p1) := by
  refine MX.of (lv := [(0, va_rf (some a0)), (1, va_rf p1)]) (by decide) (by cases p1 <;> exact Nat.le_of_ble_eq_true rfl) (by cases p1 <;> rfl) (fun C hC _ => ?_)
  unfold f_X10_sizeOfFolded
  refine x_aload_n (p' := 1) hC 0 (dAt dd_X10_sizeOfFolded 0 rfl) rfl rfl rfl ?_
  refine x_bipush (v := 11) (p' := 3) hC (dAt dd_X10_sizeOfFolded 1 rfl) (by decide) rfl ?_
  refine x_callVV (As := [.int 11]) (z := fun b => f_X10_leave h b 11) (p' := 6) hC (fun b => c_X10_leave _ _ _ h b 11) k_676 k_678 (k_sl 23 rfl) k_1 k_679 hd_X10_leave ⟨by decide, by decide⟩ (ci := 9) rfl rfl (by decide) rfl (Nat.le_of_ble_eq_true rfl) rfl (dAt dd_X10_sizeOfFolded 2 rfl) rfl (fun u1 h2 => ?_)
  refine x_aload_n (p' := 7) hC 0 (dAt dd_X10_sizeOfFolded 3 rfl) rfl rfl rfl ?_
  refine x_aload_n (p' := 8) hC 1 (dAt dd_X10_sizeOfFolded 4 rfl) rfl rfl rfl ?_
  refine x_callVI (As := [va_rf p1]) (z := fun b => f_X10_sizeLent h2 b p1) (p' := 11) hC (fun b => c_X10_sizeLent _ _ _ h2 b p1) k_684 k_686 (k_sl 25 rfl) k_1 k_687 hd_X10_sizeLent ⟨by decide, by decide⟩ (ci := 9) rfl rfl (by decide) rfl (Nat.le_of_ble_eq_true rfl) rfl (dAt dd_X10_sizeOfFolded 5 rfl) rfl (fun v3 h4 => ?_)
  refine x_iconst (v := 1) (p' := 12) hC (dAt dd_X10_sizeOfFolded 6 rfl) (by decide) rfl ?_
  refine x_iadd (p' := 13) hC (dAt dd_X10_sizeOfFolded 7 rfl) rfl ?_
  exact x_ireturn hC (dAt dd_X10_sizeOfFolded 8 rfl)
set_option maxHeartbeats 4000000 in
set_option maxRecDepth 100000 in
theorem c_X10_markLent (l : Launch) (D : va_G) (cy : Nat → ClassId) (h : AH) (a0 : Nat) (p1 : Option Nat) : MX rvI l yX10_markLent (Cond.code yX10_markLent cX10_markLent 2 (some .int) :: LW) 1 21 D cy h [va_rf (some a0), va_rf p1] (f_X10_markLent h a0 p1) := by
  refine MX.of (lv := [(0, va_rf (some a0)), (1, va_rf p1)]) (by decide) (by cases p1 <;> exact Nat.le_of_ble_eq_true rfl) (by cases p1 <;> rfl) (fun C hC _ => ?_)
  unfold f_X10_markLent
  refine x_aload_n (p' := 1) hC 0 (dAt dd_X10_markLent 0 rfl) rfl rfl rfl ?_
  refine x_bipush (v := 20) (p' := 3) hC (dAt dd_X10_markLent 1 rfl) (by decide) rfl ?_
  refine x_callVV (As := [.int 20]) (z := fun b => f_X10_leave h b 20) (p' := 6) hC (fun b => c_X10_leave _ _ _ h b 20) k_676 k_678 (k_sl 23 rfl) k_1 k_679 hd_X10_leave ⟨by decide, by decide⟩ (ci := 9) rfl rfl (by decide) rfl (Nat.le_of_ble_eq_true rfl) rfl (dAt dd_X10_markLent 2 rfl) rfl (fun u1 h2 => ?_)
  refine x_aload_n (p' := 7) hC 1 (dAt dd_X10_markLent 3 rfl) rfl rfl rfl ?_
  refine x_getI (p' := 10) hC fk_RX10_218 rfl (dAt dd_X10_markLent 4 rfl) rfl (fun v3 => ?_)
  exact x_ireturn hC (dAt dd_X10_markLent 5 rfl)
set_option maxHeartbeats 4000000 in
set_option maxRecDepth 100000 in
theorem c_X10_markOfFolded (l : Launch) (D : va_G) (cy : Nat → ClassId) (h : AH) (a0 : Nat) (p1 : Option Nat) : MX rvI l yX10_markOfFolded (Cond.code yX10_markOfFolded cX10_markOfFolded 2 (some .int) :: LW) 2 42 D cy h [va_rf (some a0), va_rf p1] (f_X10_markOfFolded h a0 p1) := by
  refine MX.of (lv := [(0, va_rf (some a0)), (1, va_rf p1)]) (by decide) (by cases p1 <;> exact Nat.le_of_ble_eq_true rfl) (by cases p1 <;> rfl) (fun C hC _ => ?_)
  unfold f_X10_markOfFolded
  refine x_aload_n (p' := 1) hC 0 (dAt dd_X10_markOfFolded 0 rfl) rfl rfl rfl ?_
  refine x_bipush (v := 21) (p' := 3) hC (dAt dd_X10_markOfFolded 1 rfl) (by decide) rfl ?_
  refine x_callVV (As := [.int 21]) (z := fun b => f_X10_leave h b 21) (p' := 6) hC (fun b => c_X10_leave _ _ _ h b 21) k_676 k_678 (k_sl 23 rfl) k_1 k_679 hd_X10_leave ⟨by decide, by decide⟩ (ci := 9) rfl rfl (by decide) rfl (Nat.le_of_ble_eq_true rfl) rfl (dAt dd_X10_markOfFolded 2 rfl) rfl (fun u1 h2 => ?_)
  refine x_aload_n (p' := 7) hC 0 (dAt dd_X10_markOfFolded 3 rfl) rfl rfl rfl ?_
  refine x_aload_n (p' := 8) hC 1 (dAt dd_X10_markOfFolded 4 rfl) rfl rfl rfl ?_
  refine x_callVI (As := [va_rf p1]) (z := fun b => f_X10_markLent h2 b p1) (p' := 11) hC (fun b => c_X10_markLent _ _ _ h2 b p1) k_696 k_698 (k_sl 28 rfl) k_1 k_699 hd_X10_markLent ⟨by decide, by decide⟩ (ci := 9) rfl rfl (by decide) rfl (Nat.le_of_ble_eq_true rfl) rfl (dAt dd_X10_markOfFolded 5 rfl) rfl (fun v3 h4 => ?_)
  refine x_bipush (v := 100) (p' := 13) hC (dAt dd_X10_markOfFolded 6 rfl) (by decide) rfl ?_
  refine x_iadd (p' := 14) hC (dAt dd_X10_markOfFolded 7 rfl) rfl ?_
  exact x_ireturn hC (dAt dd_X10_markOfFolded 8 rfl)
set_option maxHeartbeats 4000000 in
set_option maxRecDepth 100000 in
theorem c_X10_markOfSplit (l : Launch) (D : va_G) (cy : Nat → ClassId) (h : AH) (a0 : Nat) (p1 : Option Nat) : MX rvI l yX10_markOfSplit (Cond.code yX10_markOfSplit cX10_markOfSplit 2 (some .int) :: LW) 2 42 D cy h [va_rf (some a0), va_rf p1] (f_X10_markOfSplit h a0 p1) := by
  refine MX.of (lv := [(0, va_rf (some a0)), (1, va_rf p1)]) (by decide) (by cases p1 <;> exact Nat.le_of_ble_eq_true rfl) (by cases p1 <;> rfl) (fun C hC _ => ?_)
  unfold f_X10_markOfSplit
  refine x_aload_n (p' := 1) hC 0 (dAt dd_X10_markOfSplit 0 rfl) rfl rfl rfl ?_
  refine x_bipush (v := 22) (p' := 3) hC (dAt dd_X10_markOfSplit 1 rfl) (by decide) rfl ?_
  refine x_callVV (As := [.int 22]) (z := fun b => f_X10_leave h b 22) (p' := 6) hC (fun b => c_X10_leave _ _ _ h b 22) k_676 k_678 (k_sl 23 rfl) k_1 k_679 hd_X10_leave ⟨by decide, by decide⟩ (ci := 9) rfl rfl (by decide) rfl (Nat.le_of_ble_eq_true rfl) rfl (dAt dd_X10_markOfSplit 2 rfl) rfl (fun u1 h2 => ?_)
  refine x_aload_n (p' := 7) hC 0 (dAt dd_X10_markOfSplit 3 rfl) rfl rfl rfl ?_
  refine x_aload_n (p' := 8) hC 1 (dAt dd_X10_markOfSplit 4 rfl) rfl rfl rfl ?_
  refine x_callVI (As := [va_rf p1]) (z := fun b => f_X10_markLent h2 b p1) (p' := 11) hC (fun b => c_X10_markLent _ _ _ h2 b p1) k_696 k_698 (k_sl 28 rfl) k_1 k_699 hd_X10_markLent ⟨by decide, by decide⟩ (ci := 9) rfl rfl (by decide) rfl (Nat.le_of_ble_eq_true rfl) rfl (dAt dd_X10_markOfSplit 5 rfl) rfl (fun v3 h4 => ?_)
  refine x_aload_n (p' := 12) hC 1 (dAt dd_X10_markOfSplit 6 rfl) rfl rfl rfl ?_
  refine x_getI (p' := 15) hC fk_RX10_221 rfl (dAt dd_X10_markOfSplit 7 rfl) rfl (fun v5 => ?_)
  refine x_bipush (v := 10) (p' := 17) hC (dAt dd_X10_markOfSplit 8 rfl) (by decide) rfl ?_
  refine x_imul (p' := 18) hC (dAt dd_X10_markOfSplit 9 rfl) rfl ?_
  refine x_iadd (p' := 19) hC (dAt dd_X10_markOfSplit 10 rfl) rfl ?_
  exact x_ireturn hC (dAt dd_X10_markOfSplit 11 rfl)
set_option maxHeartbeats 4000000 in
set_option maxRecDepth 100000 in
theorem t_X10_askMark_J28 {C : CT} (hC : OKC C yX10_askMark cX10_askMark 3 (some .int) 3 63)   : ∀ (x0 : Nat) (x1 : Option Nat) (h : AH), WX rvI C 28 [(0, va_rf (some x0)), (1, va_rf x1)] [] h (f_X10_askMark_J28 x0 x1 h) := by
  intro x0 x1 h
  unfold f_X10_askMark_J28
  refine x_aload_n (p' := 29) hC 0 (dAt dd_X10_askMark 2 rfl) rfl rfl rfl ?_
  refine x_aload_n (p' := 30) hC 1 (dAt dd_X10_askMark 3 rfl) rfl rfl rfl ?_
  refine x_callVI (As := [va_rf x1]) (z := fun b => f_X10_markOfFolded h b x1) (p' := 33) hC (fun b => c_X10_markOfFolded _ _ _ h b x1) k_692 k_694 (k_sl 27 rfl) k_1 k_695 hd_X10_markOfFolded ⟨by decide, by decide⟩ (ci := 9) rfl rfl (by decide) rfl (Nat.le_of_ble_eq_true rfl) rfl (dAt dd_X10_askMark 4 rfl) rfl (fun v1 h2 => ?_)
  exact x_ireturn hC (dAt dd_X10_askMark 5 rfl)
set_option maxHeartbeats 4000000 in
set_option maxRecDepth 100000 in
theorem c_X10_askMark (l : Launch) (D : va_G) (cy : Nat → ClassId) (h : AH) (a0 : Nat) (p1 : Option Nat) (p2 : Int32) : MX rvI l yX10_askMark (Cond.code yX10_askMark cX10_askMark 3 (some .int) :: LW) 3 63 D cy h [va_rf (some a0), va_rf p1, .int p2] (f_X10_askMark h a0 p1 p2) := by
  refine MX.of (lv := [(0, va_rf (some a0)), (1, va_rf p1), (2, .int p2)]) (by decide) (by cases p1 <;> exact Nat.le_of_ble_eq_true rfl) (by cases p1 <;> rfl) (fun C hC _ => ?_)
  unfold f_X10_askMark
  refine x_iload_n (p' := 1) hC 2 (dAt dd_X10_askMark 0 rfl) rfl rfl rfl ?_
  refine x_case 1 (fun q1 => ?_) (fun q1 => ?_)
  · refine x_switch_in (tgt := 28) hC (dAt dd_X10_askMark 1 rfl) (by rw [q1]; decide) (by rw [q1]; decide) (by rw [q1]; rfl) (by decide) ?_
    refine x_sub [0, 1] rfl ?_
    exact t_X10_askMark_J28 hC a0 p1 h
  refine x_case 2 (fun q2 => ?_) (fun q2 => ?_)
  · refine x_switch_in (tgt := 34) hC (dAt dd_X10_askMark 1 rfl) (by rw [q2]; decide) (by rw [q2]; decide) (by rw [q2]; rfl) (by decide) ?_
    refine x_aload_n (p' := 35) hC 0 (dAt dd_X10_askMark 6 rfl) rfl rfl rfl ?_
    refine x_aload_n (p' := 36) hC 1 (dAt dd_X10_askMark 7 rfl) rfl rfl rfl ?_
    refine x_callVI (As := [va_rf p1]) (z := fun b => f_X10_markOfSplit h b p1) (p' := 39) hC (fun b => c_X10_markOfSplit _ _ _ h b p1) k_700 k_702 (k_sl 29 rfl) k_1 k_703 hd_X10_markOfSplit ⟨by decide, by decide⟩ (ci := 9) rfl rfl (by decide) rfl (Nat.le_of_ble_eq_true rfl) rfl (dAt dd_X10_askMark 8 rfl) rfl (fun v3 h4 => ?_)
    exact x_ireturn hC (dAt dd_X10_askMark 9 rfl)
  refine x_case 3 (fun q3 => ?_) (fun q3 => ?_)
  · refine x_switch_in (tgt := 28) hC (dAt dd_X10_askMark 1 rfl) (by rw [q3]; decide) (by rw [q3]; decide) (by rw [q3]; rfl) (by decide) ?_
    refine x_sub [0, 1] rfl ?_
    exact t_X10_askMark_J28 hC a0 p1 h
  refine x_switch_out (tgt := 40) hC (dAt dd_X10_askMark 1 rfl) (by have z1 := lv_neT q1 (show (1 : Int32).toInt = 1 by decide); have z2 := lv_neT q2 (show (2 : Int32).toInt = 2 by decide); have z3 := lv_neT q3 (show (3 : Int32).toInt = 3 by decide); omega) (by decide) ?_
  refine x_aload_n (p' := 41) hC 0 (dAt dd_X10_askMark 10 rfl) rfl rfl rfl ?_
  refine x_aload_n (p' := 42) hC 1 (dAt dd_X10_askMark 11 rfl) rfl rfl rfl ?_
  refine x_callVI (As := [va_rf p1]) (z := fun b => f_X10_markLent h b p1) (p' := 45) hC (fun b => c_X10_markLent _ _ _ h b p1) k_696 k_698 (k_sl 28 rfl) k_1 k_699 hd_X10_markLent ⟨by decide, by decide⟩ (ci := 9) rfl rfl (by decide) rfl (Nat.le_of_ble_eq_true rfl) rfl (dAt dd_X10_askMark 12 rfl) rfl (fun v5 h6 => ?_)
  exact x_ireturn hC (dAt dd_X10_askMark 13 rfl)
set_option maxHeartbeats 4000000 in
set_option maxRecDepth 100000 in
theorem c_X10_sizeOfWide (l : Launch) (D : va_G) (cy : Nat → ClassId) (h : AH) (a0 : Nat) (p1 : Option Nat) : MX rvI l yX10_sizeOfWide (Cond.code yX10_sizeOfWide cX10_sizeOfWide 3 (some .int) :: LW) 4 85 D cy h [va_rf (some a0), va_rf p1] (f_X10_sizeOfWide h a0 p1) := by
  refine MX.of (lv := [(0, va_rf (some a0)), (1, va_rf p1)]) (by decide) (by cases p1 <;> exact Nat.le_of_ble_eq_true rfl) (by cases p1 <;> rfl) (fun C hC _ => ?_)
  unfold f_X10_sizeOfWide
  refine x_aload_n (p' := 1) hC 0 (dAt dd_X10_sizeOfWide 0 rfl) rfl rfl rfl ?_
  refine x_bipush (v := 13) (p' := 3) hC (dAt dd_X10_sizeOfWide 1 rfl) (by decide) rfl ?_
  refine x_callVV (As := [.int 13]) (z := fun b => f_X10_leave h b 13) (p' := 6) hC (fun b => c_X10_leave _ _ _ h b 13) k_676 k_678 (k_sl 23 rfl) k_1 k_679 hd_X10_leave ⟨by decide, by decide⟩ (ci := 9) rfl rfl (by decide) rfl (Nat.le_of_ble_eq_true rfl) rfl (dAt dd_X10_sizeOfWide 2 rfl) rfl (fun u1 h2 => ?_)
  refine x_aload_n (p' := 7) hC 0 (dAt dd_X10_sizeOfWide 3 rfl) rfl rfl rfl ?_
  refine x_aload_n (p' := 8) hC 1 (dAt dd_X10_sizeOfWide 4 rfl) rfl rfl rfl ?_
  refine x_callVI (As := [va_rf p1]) (z := fun b => f_X10_sizeOfFolded h2 b p1) (p' := 11) hC (fun b => c_X10_sizeOfFolded _ _ _ h2 b p1) k_680 k_682 (k_sl 24 rfl) k_1 k_683 hd_X10_sizeOfFolded ⟨by decide, by decide⟩ (ci := 9) rfl rfl (by decide) rfl (Nat.le_of_ble_eq_true rfl) rfl (dAt dd_X10_sizeOfWide 5 rfl) rfl (fun v3 h4 => ?_)
  refine x_istore_n (j := 2) (lv' := [(2, .int v3), (0, va_rf (some a0)), (1, va_rf p1)]) (p' := 12) hC (dAt dd_X10_sizeOfWide 6 rfl) rfl (by decide) (by simp [x_cat, show ∀ v : Int32, (Value.int v).category = 1 from fun _ => rfl]) rfl ?_
  refine x_iload_n (p' := 13) hC 0 (dAt dd_X10_sizeOfWide 7 rfl) rfl rfl rfl ?_
  refine x_aload_n (p' := 14) hC 1 (dAt dd_X10_sizeOfWide 8 rfl) rfl rfl rfl ?_
  refine x_aload_n (p' := 15) hC 2 (dAt dd_X10_sizeOfWide 9 rfl) rfl rfl rfl ?_
  refine x_iconst (v := 3) (p' := 16) hC (dAt dd_X10_sizeOfWide 10 rfl) (by decide) rfl ?_
  refine x_callVI (As := [va_rf p1, .int 3]) (z := fun b => f_X10_askMark h4 b p1 3) (p' := 19) hC (fun b => c_X10_askMark _ _ _ h4 b p1 3) k_688 k_690 (k_sl 26 rfl) k_1 k_691 hd_X10_askMark ⟨by decide, by decide⟩ (ci := 9) rfl rfl (by decide) rfl (Nat.le_of_ble_eq_true rfl) rfl (dAt dd_X10_sizeOfWide 11 rfl) rfl (fun v5 h6 => ?_)
  refine x_iadd (p' := 20) hC (dAt dd_X10_sizeOfWide 12 rfl) rfl ?_
  exact x_ireturn hC (dAt dd_X10_sizeOfWide 13 rfl)
set_option maxHeartbeats 4000000 in
set_option maxRecDepth 100000 in
theorem c_X10_sizeOfSplit (l : Launch) (D : va_G) (cy : Nat → ClassId) (h : AH) (a0 : Nat) (p1 : Option Nat) : MX rvI l yX10_sizeOfSplit (Cond.code yX10_sizeOfSplit cX10_sizeOfSplit 2 (some .int) :: LW) 2 42 D cy h [va_rf (some a0), va_rf p1] (f_X10_sizeOfSplit h a0 p1) := by
  refine MX.of (lv := [(0, va_rf (some a0)), (1, va_rf p1)]) (by decide) (by cases p1 <;> exact Nat.le_of_ble_eq_true rfl) (by cases p1 <;> rfl) (fun C hC _ => ?_)
  unfold f_X10_sizeOfSplit
  refine x_aload_n (p' := 1) hC 0 (dAt dd_X10_sizeOfSplit 0 rfl) rfl rfl rfl ?_
  refine x_bipush (v := 12) (p' := 3) hC (dAt dd_X10_sizeOfSplit 1 rfl) (by decide) rfl ?_
  refine x_callVV (As := [.int 12]) (z := fun b => f_X10_leave h b 12) (p' := 6) hC (fun b => c_X10_leave _ _ _ h b 12) k_676 k_678 (k_sl 23 rfl) k_1 k_679 hd_X10_leave ⟨by decide, by decide⟩ (ci := 9) rfl rfl (by decide) rfl (Nat.le_of_ble_eq_true rfl) rfl (dAt dd_X10_sizeOfSplit 2 rfl) rfl (fun u1 h2 => ?_)
  refine x_aload_n (p' := 7) hC 0 (dAt dd_X10_sizeOfSplit 3 rfl) rfl rfl rfl ?_
  refine x_aload_n (p' := 8) hC 1 (dAt dd_X10_sizeOfSplit 4 rfl) rfl rfl rfl ?_
  refine x_callVI (As := [va_rf p1]) (z := fun b => f_X10_sizeLent h2 b p1) (p' := 11) hC (fun b => c_X10_sizeLent _ _ _ h2 b p1) k_684 k_686 (k_sl 25 rfl) k_1 k_687 hd_X10_sizeLent ⟨by decide, by decide⟩ (ci := 9) rfl rfl (by decide) rfl (Nat.le_of_ble_eq_true rfl) rfl (dAt dd_X10_sizeOfSplit 5 rfl) rfl (fun v3 h4 => ?_)
  refine x_iconst (v := 2) (p' := 12) hC (dAt dd_X10_sizeOfSplit 6 rfl) (by decide) rfl ?_
  refine x_imul (p' := 13) hC (dAt dd_X10_sizeOfSplit 7 rfl) rfl ?_
  exact x_ireturn hC (dAt dd_X10_sizeOfSplit 8 rfl)
set_option maxHeartbeats 4000000 in
set_option maxRecDepth 100000 in
theorem c_X10_askSize (l : Launch) (D : va_G) (cy : Nat → ClassId) (h : AH) (a0 : Nat) (p1 : Option Nat) (p2 : Int32) : MX rvI l yX10_askSize (Cond.code yX10_askSize cX10_askSize 3 (some .int) :: LW) 5 107 D cy h [va_rf (some a0), va_rf p1, .int p2] (f_X10_askSize h a0 p1 p2) := by
  refine MX.of (lv := [(0, va_rf (some a0)), (1, va_rf p1), (2, .int p2)]) (by decide) (by cases p1 <;> exact Nat.le_of_ble_eq_true rfl) (by cases p1 <;> rfl) (fun C hC _ => ?_)
  unfold f_X10_askSize
  refine x_iload_n (p' := 1) hC 2 (dAt dd_X10_askSize 0 rfl) rfl rfl rfl ?_
  refine x_case 1 (fun q1 => ?_) (fun q1 => ?_)
  · refine x_switch_in (tgt := 34) hC (dAt dd_X10_askSize 1 rfl) (by rw [q1]; decide) (by rw [q1]; decide) (by rw [q1]; rfl) (by decide) ?_
    refine x_aload_n (p' := 35) hC 0 (dAt dd_X10_askSize 6 rfl) rfl rfl rfl ?_
    refine x_aload_n (p' := 36) hC 1 (dAt dd_X10_askSize 7 rfl) rfl rfl rfl ?_
    refine x_callVI (As := [va_rf p1]) (z := fun b => f_X10_sizeOfFolded h b p1) (p' := 39) hC (fun b => c_X10_sizeOfFolded _ _ _ h b p1) k_680 k_682 (k_sl 24 rfl) k_1 k_683 hd_X10_sizeOfFolded ⟨by decide, by decide⟩ (ci := 9) rfl rfl (by decide) rfl (Nat.le_of_ble_eq_true rfl) rfl (dAt dd_X10_askSize 8 rfl) rfl (fun v1 h2 => ?_)
    exact x_ireturn hC (dAt dd_X10_askSize 9 rfl)
  refine x_case 2 (fun q2 => ?_) (fun q2 => ?_)
  · refine x_switch_in (tgt := 40) hC (dAt dd_X10_askSize 1 rfl) (by rw [q2]; decide) (by rw [q2]; decide) (by rw [q2]; rfl) (by decide) ?_
    refine x_aload_n (p' := 41) hC 0 (dAt dd_X10_askSize 10 rfl) rfl rfl rfl ?_
    refine x_aload_n (p' := 42) hC 1 (dAt dd_X10_askSize 11 rfl) rfl rfl rfl ?_
    refine x_callVI (As := [va_rf p1]) (z := fun b => f_X10_sizeOfSplit h b p1) (p' := 45) hC (fun b => c_X10_sizeOfSplit _ _ _ h b p1) k_704 k_706 (k_sl 30 rfl) k_1 k_707 hd_X10_sizeOfSplit ⟨by decide, by decide⟩ (ci := 9) rfl rfl (by decide) rfl (Nat.le_of_ble_eq_true rfl) rfl (dAt dd_X10_askSize 12 rfl) rfl (fun v3 h4 => ?_)
    exact x_ireturn hC (dAt dd_X10_askSize 13 rfl)
  refine x_case 3 (fun q3 => ?_) (fun q3 => ?_)
  · refine x_switch_in (tgt := 28) hC (dAt dd_X10_askSize 1 rfl) (by rw [q3]; decide) (by rw [q3]; decide) (by rw [q3]; rfl) (by decide) ?_
    refine x_aload_n (p' := 29) hC 0 (dAt dd_X10_askSize 2 rfl) rfl rfl rfl ?_
    refine x_aload_n (p' := 30) hC 1 (dAt dd_X10_askSize 3 rfl) rfl rfl rfl ?_
    refine x_callVI (As := [va_rf p1]) (z := fun b => f_X10_sizeOfWide h b p1) (p' := 33) hC (fun b => c_X10_sizeOfWide _ _ _ h b p1) k_672 k_674 (k_sl 22 rfl) k_1 k_675 hd_X10_sizeOfWide ⟨by decide, by decide⟩ (ci := 9) rfl rfl (by decide) rfl (Nat.le_of_ble_eq_true rfl) rfl (dAt dd_X10_askSize 4 rfl) rfl (fun v5 h6 => ?_)
    exact x_ireturn hC (dAt dd_X10_askSize 5 rfl)
  refine x_switch_out (tgt := 46) hC (dAt dd_X10_askSize 1 rfl) (by have z1 := lv_neT q1 (show (1 : Int32).toInt = 1 by decide); have z2 := lv_neT q2 (show (2 : Int32).toInt = 2 by decide); have z3 := lv_neT q3 (show (3 : Int32).toInt = 3 by decide); omega) (by decide) ?_
  refine x_aload_n (p' := 47) hC 0 (dAt dd_X10_askSize 14 rfl) rfl rfl rfl ?_
  refine x_aload_n (p' := 48) hC 1 (dAt dd_X10_askSize 15 rfl) rfl rfl rfl ?_
  refine x_callVI (As := [va_rf p1]) (z := fun b => f_X10_sizeLent h b p1) (p' := 51) hC (fun b => c_X10_sizeLent _ _ _ h b p1) k_684 k_686 (k_sl 25 rfl) k_1 k_687 hd_X10_sizeLent ⟨by decide, by decide⟩ (ci := 9) rfl rfl (by decide) rfl (Nat.le_of_ble_eq_true rfl) rfl (dAt dd_X10_askSize 16 rfl) rfl (fun v7 h8 => ?_)
  exact x_ireturn hC (dAt dd_X10_askSize 17 rfl)
set_option maxHeartbeats 4000000 in
set_option maxRecDepth 100000 in
theorem c_X10_ask (l : Launch) (D : va_G) (cy : Nat → ClassId) (h : AH) (a0 : Nat) (p1 : Int32) (p2 : Int32) (p3 : Int32) : MX rvI l yX10_ask (Cond.code yX10_ask cX10_ask 6 (some .int) :: LW) 6 129 D cy h [va_rf (some a0), .int p1, .int p2, .int p3] (f_X10_ask h a0 p1 p2 p3) := by
  refine MX.of (lv := [(0, va_rf (some a0)), (1, .int p1), (2, .int p2), (3, .int p3)]) (by decide) (Nat.le_of_ble_eq_true rfl) rfl (fun C hC _ => ?_)
  unfold f_X10_ask
  refine x_iload_n (p' := 1) hC 1 (dAt dd_X10_ask 0 rfl) rfl rfl rfl ?_
  refine x_iload_n (p' := 2) hC 2 (dAt dd_X10_ask 1 rfl) rfl rfl rfl ?_
  refine x_callSI (As := [.int p1, .int p2]) (p' := 5) hC (c_X10_slotAt _ _ _ h p1 p2) k_367 k_368 k_1 k_369 hd_X10_slotAt ⟨by decide, by decide⟩ rfl (Nat.le_of_ble_eq_true rfl) rfl (dAt dd_X10_ask 2 rfl) rfl (fun v1 h2 => ?_)
  refine x_istore (lv' := [(4, .int v1), (0, va_rf (some a0)), (1, .int p1), (2, .int p2), (3, .int p3)]) (p' := 7) hC (dAt dd_X10_ask 3 rfl) (by decide) rfl rfl ?_
  refine x_iload (p' := 9) hC 0 (dAt dd_X10_ask 4 rfl) rfl rfl ?_
  refine x_if_lt (tgt := 20) (p' := 12) hC (dAt dd_X10_ask 5 rfl) (by decide) rfl ?_ ?_
  · refine x_ldc (v := (-1000001)) (p' := 22) hC (dAt dd_X10_ask 10 rfl) k_269 rfl ?_
    exact x_ireturn hC (dAt dd_X10_ask 11 rfl)
  · refine x_iload_n (p' := 13) hC 4 (dAt dd_X10_ask 6 rfl) rfl rfl rfl ?_
    refine x_iconst (v := 2) (p' := 14) hC (dAt dd_X10_ask 7 rfl) (by decide) rfl ?_
    refine x_callSI (As := [.int p3, .int 2]) (p' := 17) hC (c_X10_isBelow _ _ _ h2 p3 2) k_266 k_267 k_1 k_268 hd_X10_isBelow ⟨by decide, by decide⟩ rfl (Nat.le_of_ble_eq_true rfl) rfl (dAt dd_X10_ask 8 rfl) rfl (fun v3 h4 => ?_)
    refine x_if_ne (tgt := 23) (p' := 20) hC (dAt dd_X10_ask 9 rfl) (by decide) rfl ?_ ?_
    · refine x_aload_n (p' := 24) hC 1 (dAt dd_X10_ask 12 rfl) rfl rfl rfl ?_
      refine x_iconst (v := 0) (p' := 25) hC (dAt dd_X10_ask 13 rfl) (by decide) rfl ?_
      refine x_putI (p' := 28) hC fk_RX10_60 tk_RX10 rfl rfl (Or.inl rfl) (dAt dd_X10_ask 14 rfl) rfl (fun h5 => ?_)
      refine x_aload_n (p' := 29) hC 1 (dAt dd_X10_ask 15 rfl) rfl rfl rfl ?_
      refine x_getR (p' := 32) hC fk_RX10_17 rfl (dAt dd_X10_ask 16 rfl) rfl (fun r6 => ?_)
      refine x_iload (p' := 34) hC 0 (dAt dd_X10_ask 17 rfl) rfl rfl ?_
      refine x_aaload 17 5 (p' := 35) hC rfl (by decide) rfl (dAt dd_X10_ask 18 rfl) rfl (fun r7 => ?_)
      refine x_getR (p' := 38) hC fk_RX10_145 rfl (dAt dd_X10_ask 19 rfl) rfl (fun r8 => ?_)
      refine x_ifnonnull (tgt := 44) (p' := 41) hC (dAt dd_X10_ask 20 rfl) (by decide) rfl (fun _ _ => ?_) (fun _ => ?_)
      · refine x_aload_n (p' := 45) hC 1 (dAt dd_X10_ask 23 rfl) rfl rfl rfl ?_
        refine x_iload (p' := 47) hC 0 (dAt dd_X10_ask 24 rfl) rfl rfl ?_
        refine x_callVI (As := [.int v1]) (z := fun b => f_X10_toldKind h5 b v1) (p' := 50) hC (fun b => c_X10_toldKind _ _ _ h5 b v1) k_640 k_642 (k_sl 17 rfl) k_1 k_643 hd_X10_toldKind ⟨by decide, by decide⟩ (ci := 9) rfl rfl (by decide) rfl (Nat.le_of_ble_eq_true rfl) rfl (dAt dd_X10_ask 25 rfl) rfl (fun v9 h10 => ?_)
        refine x_istore (lv' := [(5, .int v9), (4, .int v1), (0, va_rf (some a0)), (1, .int p1), (2, .int p2), (3, .int p3)]) (p' := 52) hC (dAt dd_X10_ask 26 rfl) (by decide) rfl rfl ?_
        refine x_iload_n (p' := 53) hC 5 (dAt dd_X10_ask 27 rfl) rfl rfl rfl ?_
        refine x_if_ne (tgt := 72) (p' := 56) hC (dAt dd_X10_ask 28 rfl) (by decide) rfl ?_ ?_
        · refine x_aload_n (p' := 73) hC 2 (dAt dd_X10_ask 37 rfl) rfl rfl rfl ?_
          refine x_aload_n (p' := 74) hC 2 (dAt dd_X10_ask 38 rfl) rfl rfl rfl ?_
          refine x_getR (p' := 77) hC fk_RX10_17 rfl (dAt dd_X10_ask 39 rfl) rfl (fun r11 => ?_)
          refine x_iload (p' := 79) hC 1 (dAt dd_X10_ask 40 rfl) rfl rfl ?_
          refine x_aaload 17 5 (p' := 80) hC rfl (by decide) rfl (dAt dd_X10_ask 41 rfl) rfl (fun r12 => ?_)
          refine x_iload (p' := 82) hC 0 (dAt dd_X10_ask 42 rfl) rfl rfl ?_
          refine x_callVI (As := [va_rf r12, .int v9]) (z := fun b => f_X10_askMark h10 b r12 v9) (p' := 85) hC (fun b => c_X10_askMark _ _ _ h10 b r12 v9) k_688 k_690 (k_sl 26 rfl) k_1 k_691 hd_X10_askMark ⟨by decide, by decide⟩ (ci := 9) rfl rfl (by decide) rfl (Nat.le_of_ble_eq_true rfl) rfl (dAt dd_X10_ask 43 rfl) rfl (fun v13 h14 => ?_)
          exact x_ireturn hC (dAt dd_X10_ask 44 rfl)
        · refine x_aload_n (p' := 57) hC 2 (dAt dd_X10_ask 29 rfl) rfl rfl rfl ?_
          refine x_aload_n (p' := 58) hC 2 (dAt dd_X10_ask 30 rfl) rfl rfl rfl ?_
          refine x_getR (p' := 61) hC fk_RX10_17 rfl (dAt dd_X10_ask 31 rfl) rfl (fun r15 => ?_)
          refine x_iload (p' := 63) hC 1 (dAt dd_X10_ask 32 rfl) rfl rfl ?_
          refine x_aaload 17 5 (p' := 64) hC rfl (by decide) rfl (dAt dd_X10_ask 33 rfl) rfl (fun r16 => ?_)
          refine x_iload (p' := 66) hC 0 (dAt dd_X10_ask 34 rfl) rfl rfl ?_
          refine x_callVI (As := [va_rf r16, .int v9]) (z := fun b => f_X10_askSize h10 b r16 v9) (p' := 69) hC (fun b => c_X10_askSize _ _ _ h10 b r16 v9) k_668 k_670 (k_sl 21 rfl) k_1 k_671 hd_X10_askSize ⟨by decide, by decide⟩ (ci := 9) rfl rfl (by decide) rfl (Nat.le_of_ble_eq_true rfl) rfl (dAt dd_X10_ask 35 rfl) rfl (fun v17 h18 => ?_)
          refine x_goto (tgt := 85) hC (dAt dd_X10_ask 36 rfl) (by decide) ?_
          exact x_ireturn hC (dAt dd_X10_ask 44 rfl)
      · refine x_ldc (v := (-1000002)) (p' := 43) hC (dAt dd_X10_ask 21 rfl) k_316 rfl ?_
        exact x_ireturn hC (dAt dd_X10_ask 22 rfl)
    · refine x_ldc (v := (-1000001)) (p' := 22) hC (dAt dd_X10_ask 10 rfl) k_269 rfl ?_
      exact x_ireturn hC (dAt dd_X10_ask 11 rfl)
set_option maxHeartbeats 4000000 in
set_option maxRecDepth 100000 in
theorem c_X10_trace (l : Launch) (D : va_G) (cy : Nat → ClassId) (h : AH) (a0 : Nat) (p1 : Int32) : MX rvI l yX10_trace (Cond.code yX10_trace cX10_trace 2 (some .int) :: LW) 1 21 D cy h [va_rf (some a0), .int p1] (f_X10_trace h a0 p1) := by
  refine MX.of (lv := [(0, va_rf (some a0)), (1, .int p1)]) (by decide) (Nat.le_of_ble_eq_true rfl) rfl (fun C hC _ => ?_)
  unfold f_X10_trace
  refine x_iload_n (p' := 1) hC 1 (dAt dd_X10_trace 0 rfl) rfl rfl rfl ?_
  refine x_aload_n (p' := 2) hC 0 (dAt dd_X10_trace 1 rfl) rfl rfl rfl ?_
  refine x_getI (p' := 5) hC fk_RX10_60 rfl (dAt dd_X10_trace 2 rfl) rfl (fun v1 => ?_)
  refine x_callSI (As := [.int p1, .int v1]) (p' := 8) hC (c_X10_isBelow _ _ _ h p1 v1) k_266 k_267 k_1 k_268 hd_X10_isBelow ⟨by decide, by decide⟩ rfl (Nat.le_of_ble_eq_true rfl) rfl (dAt dd_X10_trace 3 rfl) rfl (fun v2 h3 => ?_)
  refine x_if_eq (tgt := 20) (p' := 11) hC (dAt dd_X10_trace 4 rfl) (by decide) rfl ?_ ?_
  · refine x_ldc (v := (-1000000)) (p' := 22) hC (dAt dd_X10_trace 10 rfl) k_362 rfl ?_
    exact x_ireturn hC (dAt dd_X10_trace 11 rfl)
  · refine x_aload_n (p' := 12) hC 0 (dAt dd_X10_trace 5 rfl) rfl rfl rfl ?_
    refine x_getR (p' := 15) hC fk_RX10_56 rfl (dAt dd_X10_trace 6 rfl) rfl (fun r4 => ?_)
    refine x_iload_n (p' := 16) hC 1 (dAt dd_X10_trace 7 rfl) rfl rfl rfl ?_
    refine x_iaload (p' := 17) hC (dAt dd_X10_trace 8 rfl) rfl (fun v5 => ?_)
    refine x_goto (tgt := 22) hC (dAt dd_X10_trace 9 rfl) (by decide) ?_
    exact x_ireturn hC (dAt dd_X10_trace 11 rfl)
set_option maxHeartbeats 4000000 in
set_option maxRecDepth 100000 in
theorem t_X10_countRows_L4 {C : CT} (hC : OKC C yX10_countRows cX10_countRows 3 (some .int) 0 0)   : ∀ (n : Nat) (x0 : Nat) (x1 : Int32) (x2 : Int32) (h : AH), WX rvI C 4 [(0, va_rf (some x0)), (1, .int x1), (2, .int x2)] [] h (f_X10_countRows_L4 n x0 x1 x2 h) := by
  intro n
  induction n with
  | zero => intro _ _ _ _; exact x_none
  | succ n ih =>
    intro x0 x1 x2 h
    rw [f_X10_countRows_L4]
    refine x_iload_n (p' := 5) hC 2 (dAt dd_X10_countRows 4 rfl) rfl rfl rfl ?_
    refine x_bipush (v := 8) (p' := 7) hC (dAt dd_X10_countRows 5 rfl) (by decide) rfl ?_
    refine x_icmp_ge (tgt := 31) (p' := 10) hC (dAt dd_X10_countRows 6 rfl) (by decide) rfl ?_ ?_
    · refine x_iload_n (p' := 32) hC 1 (dAt dd_X10_countRows 16 rfl) rfl rfl rfl ?_
      exact x_ireturn hC (dAt dd_X10_countRows 17 rfl)
    · refine x_aload_n (p' := 11) hC 0 (dAt dd_X10_countRows 7 rfl) rfl rfl rfl ?_
      refine x_getR (p' := 14) hC fk_RX10_11 rfl (dAt dd_X10_countRows 8 rfl) rfl (fun r1 => ?_)
      refine x_iload_n (p' := 15) hC 2 (dAt dd_X10_countRows 9 rfl) rfl rfl rfl ?_
      refine x_aaload 16 4 (p' := 16) hC rfl (by decide) rfl (dAt dd_X10_countRows 10 rfl) rfl (fun r2 => ?_)
      refine x_getI (p' := 19) hC fk_RX10_98 rfl (dAt dd_X10_countRows 11 rfl) rfl (fun v3 => ?_)
      refine x_if_ne (tgt := 25) (p' := 22) hC (dAt dd_X10_countRows 12 rfl) (by decide) rfl ?_ ?_
      · refine x_iinc (w := (x2 + 1)) (lv' := [(2, .int (x2 + 1)), (0, va_rf (some x0)), (1, .int x1)]) (p' := 28) hC 2 (dAt dd_X10_countRows 14 rfl) rfl rfl (by decide) rfl rfl ?_
        refine x_goto (tgt := 4) hC (dAt dd_X10_countRows 15 rfl) (by decide) ?_
        refine x_sub [1, 2, 0] rfl ?_
        exact ih x0 x1 (x2 + 1) h
      · refine x_iinc (w := (x1 + 1)) (lv' := [(1, .int (x1 + 1)), (0, va_rf (some x0)), (2, .int x2)]) (p' := 25) hC 1 (dAt dd_X10_countRows 13 rfl) rfl rfl (by decide) rfl rfl ?_
        refine x_iinc (w := (x2 + 1)) (lv' := [(2, .int (x2 + 1)), (1, .int (x1 + 1)), (0, va_rf (some x0))]) (p' := 28) hC 2 (dAt dd_X10_countRows 14 rfl) rfl rfl (by decide) rfl rfl ?_
        refine x_goto (tgt := 4) hC (dAt dd_X10_countRows 15 rfl) (by decide) ?_
        refine x_sub [2, 1, 0] rfl ?_
        exact ih x0 (x1 + 1) (x2 + 1) h
set_option maxHeartbeats 4000000 in
set_option maxRecDepth 100000 in
theorem c_X10_countRows (l : Launch) (D : va_G) (cy : Nat → ClassId) (h : AH) (a0 : Nat) : MX rvI l yX10_countRows (Cond.code yX10_countRows cX10_countRows 3 (some .int) :: LW) 0 0 D cy h [va_rf (some a0)] (f_X10_countRows h a0) := by
  refine MX.of (lv := [(0, va_rf (some a0))]) (by decide) (Nat.le_of_ble_eq_true rfl) rfl (fun C hC _ => ?_)
  unfold f_X10_countRows
  refine x_iconst (v := 0) (p' := 1) hC (dAt dd_X10_countRows 0 rfl) (by decide) rfl ?_
  refine x_istore_n (j := 1) (lv' := [(1, .int 0), (0, va_rf (some a0))]) (p' := 2) hC (dAt dd_X10_countRows 1 rfl) rfl (by decide) rfl rfl ?_
  refine x_iconst (v := 0) (p' := 3) hC (dAt dd_X10_countRows 2 rfl) (by decide) rfl ?_
  refine x_istore_n (j := 2) (lv' := [(2, .int 0), (1, .int 0), (0, va_rf (some a0))]) (p' := 4) hC (dAt dd_X10_countRows 3 rfl) rfl (by decide) rfl rfl ?_
  refine x_sub [2, 1, 0] rfl ?_
  exact t_X10_countRows_L4 hC FU a0 0 0 h
set_option maxHeartbeats 4000000 in
set_option maxRecDepth 100000 in
theorem t_X10_countKept_L4 {C : CT} (hC : OKC C yX10_countKept cX10_countKept 3 (some .int) 0 0)   : ∀ (n : Nat) (x0 : Nat) (x1 : Int32) (x2 : Int32) (h : AH), WX rvI C 4 [(0, va_rf (some x0)), (1, .int x1), (2, .int x2)] [] h (f_X10_countKept_L4 n x0 x1 x2 h) := by
  intro n
  induction n with
  | zero => intro _ _ _ _; exact x_none
  | succ n ih =>
    intro x0 x1 x2 h
    rw [f_X10_countKept_L4]
    refine x_iload_n (p' := 5) hC 2 (dAt dd_X10_countKept 4 rfl) rfl rfl rfl ?_
    refine x_bipush (v := 36) (p' := 7) hC (dAt dd_X10_countKept 5 rfl) (by decide) rfl ?_
    refine x_icmp_ge (tgt := 31) (p' := 10) hC (dAt dd_X10_countKept 6 rfl) (by decide) rfl ?_ ?_
    · refine x_iload_n (p' := 32) hC 1 (dAt dd_X10_countKept 16 rfl) rfl rfl rfl ?_
      exact x_ireturn hC (dAt dd_X10_countKept 17 rfl)
    · refine x_aload_n (p' := 11) hC 0 (dAt dd_X10_countKept 7 rfl) rfl rfl rfl ?_
      refine x_getR (p' := 14) hC fk_RX10_17 rfl (dAt dd_X10_countKept 8 rfl) rfl (fun r1 => ?_)
      refine x_iload_n (p' := 15) hC 2 (dAt dd_X10_countKept 9 rfl) rfl rfl rfl ?_
      refine x_aaload 17 5 (p' := 16) hC rfl (by decide) rfl (dAt dd_X10_countKept 10 rfl) rfl (fun r2 => ?_)
      refine x_getR (p' := 19) hC fk_RX10_145 rfl (dAt dd_X10_countKept 11 rfl) rfl (fun r3 => ?_)
      refine x_ifnull (tgt := 25) (p' := 22) hC (dAt dd_X10_countKept 12 rfl) (by decide) rfl (fun _ => ?_) (fun _ _ => ?_)
      · refine x_iinc (w := (x2 + 1)) (lv' := [(2, .int (x2 + 1)), (0, va_rf (some x0)), (1, .int x1)]) (p' := 28) hC 2 (dAt dd_X10_countKept 14 rfl) rfl rfl (by decide) rfl rfl ?_
        refine x_goto (tgt := 4) hC (dAt dd_X10_countKept 15 rfl) (by decide) ?_
        refine x_sub [1, 2, 0] rfl ?_
        exact ih x0 x1 (x2 + 1) h
      · refine x_iinc (w := (x1 + 1)) (lv' := [(1, .int (x1 + 1)), (0, va_rf (some x0)), (2, .int x2)]) (p' := 25) hC 1 (dAt dd_X10_countKept 13 rfl) rfl rfl (by decide) rfl rfl ?_
        refine x_iinc (w := (x2 + 1)) (lv' := [(2, .int (x2 + 1)), (1, .int (x1 + 1)), (0, va_rf (some x0))]) (p' := 28) hC 2 (dAt dd_X10_countKept 14 rfl) rfl rfl (by decide) rfl rfl ?_
        refine x_goto (tgt := 4) hC (dAt dd_X10_countKept 15 rfl) (by decide) ?_
        refine x_sub [2, 1, 0] rfl ?_
        exact ih x0 (x1 + 1) (x2 + 1) h
set_option maxHeartbeats 4000000 in
set_option maxRecDepth 100000 in
theorem c_X10_countKept (l : Launch) (D : va_G) (cy : Nat → ClassId) (h : AH) (a0 : Nat) : MX rvI l yX10_countKept (Cond.code yX10_countKept cX10_countKept 3 (some .int) :: LW) 0 0 D cy h [va_rf (some a0)] (f_X10_countKept h a0) := by
  refine MX.of (lv := [(0, va_rf (some a0))]) (by decide) (Nat.le_of_ble_eq_true rfl) rfl (fun C hC _ => ?_)
  unfold f_X10_countKept
  refine x_iconst (v := 0) (p' := 1) hC (dAt dd_X10_countKept 0 rfl) (by decide) rfl ?_
  refine x_istore_n (j := 1) (lv' := [(1, .int 0), (0, va_rf (some a0))]) (p' := 2) hC (dAt dd_X10_countKept 1 rfl) rfl (by decide) rfl rfl ?_
  refine x_iconst (v := 0) (p' := 3) hC (dAt dd_X10_countKept 2 rfl) (by decide) rfl ?_
  refine x_istore_n (j := 2) (lv' := [(2, .int 0), (1, .int 0), (0, va_rf (some a0))]) (p' := 4) hC (dAt dd_X10_countKept 3 rfl) rfl (by decide) rfl rfl ?_
  refine x_sub [2, 1, 0] rfl ?_
  exact t_X10_countKept_L4 hC FU a0 0 0 h
set_option maxHeartbeats 4000000 in
set_option maxRecDepth 100000 in
theorem t_X10_countGiven_L4 {C : CT} (hC : OKC C yX10_countGiven cX10_countGiven 3 (some .int) 0 0)   : ∀ (n : Nat) (x0 : Nat) (x1 : Int32) (x2 : Int32) (h : AH), WX rvI C 4 [(0, va_rf (some x0)), (1, .int x1), (2, .int x2)] [] h (f_X10_countGiven_L4 n x0 x1 x2 h) := by
  intro n
  induction n with
  | zero => intro _ _ _ _; exact x_none
  | succ n ih =>
    intro x0 x1 x2 h
    rw [f_X10_countGiven_L4]
    refine x_iload_n (p' := 5) hC 2 (dAt dd_X10_countGiven 4 rfl) rfl rfl rfl ?_
    refine x_bipush (v := 36) (p' := 7) hC (dAt dd_X10_countGiven 5 rfl) (by decide) rfl ?_
    refine x_icmp_ge (tgt := 31) (p' := 10) hC (dAt dd_X10_countGiven 6 rfl) (by decide) rfl ?_ ?_
    · refine x_iload_n (p' := 32) hC 1 (dAt dd_X10_countGiven 16 rfl) rfl rfl rfl ?_
      exact x_ireturn hC (dAt dd_X10_countGiven 17 rfl)
    · refine x_aload_n (p' := 11) hC 0 (dAt dd_X10_countGiven 7 rfl) rfl rfl rfl ?_
      refine x_getR (p' := 14) hC fk_RX10_17 rfl (dAt dd_X10_countGiven 8 rfl) rfl (fun r1 => ?_)
      refine x_iload_n (p' := 15) hC 2 (dAt dd_X10_countGiven 9 rfl) rfl rfl rfl ?_
      refine x_aaload 17 5 (p' := 16) hC rfl (by decide) rfl (dAt dd_X10_countGiven 10 rfl) rfl (fun r2 => ?_)
      refine x_getR (p' := 19) hC fk_RX10_152 rfl (dAt dd_X10_countGiven 11 rfl) rfl (fun r3 => ?_)
      refine x_ifnull (tgt := 25) (p' := 22) hC (dAt dd_X10_countGiven 12 rfl) (by decide) rfl (fun _ => ?_) (fun _ _ => ?_)
      · refine x_iinc (w := (x2 + 1)) (lv' := [(2, .int (x2 + 1)), (0, va_rf (some x0)), (1, .int x1)]) (p' := 28) hC 2 (dAt dd_X10_countGiven 14 rfl) rfl rfl (by decide) rfl rfl ?_
        refine x_goto (tgt := 4) hC (dAt dd_X10_countGiven 15 rfl) (by decide) ?_
        refine x_sub [1, 2, 0] rfl ?_
        exact ih x0 x1 (x2 + 1) h
      · refine x_iinc (w := (x1 + 1)) (lv' := [(1, .int (x1 + 1)), (0, va_rf (some x0)), (2, .int x2)]) (p' := 25) hC 1 (dAt dd_X10_countGiven 13 rfl) rfl rfl (by decide) rfl rfl ?_
        refine x_iinc (w := (x2 + 1)) (lv' := [(2, .int (x2 + 1)), (1, .int (x1 + 1)), (0, va_rf (some x0))]) (p' := 28) hC 2 (dAt dd_X10_countGiven 14 rfl) rfl rfl (by decide) rfl rfl ?_
        refine x_goto (tgt := 4) hC (dAt dd_X10_countGiven 15 rfl) (by decide) ?_
        refine x_sub [2, 1, 0] rfl ?_
        exact ih x0 (x1 + 1) (x2 + 1) h
set_option maxHeartbeats 4000000 in
set_option maxRecDepth 100000 in
theorem c_X10_countGiven (l : Launch) (D : va_G) (cy : Nat → ClassId) (h : AH) (a0 : Nat) : MX rvI l yX10_countGiven (Cond.code yX10_countGiven cX10_countGiven 3 (some .int) :: LW) 0 0 D cy h [va_rf (some a0)] (f_X10_countGiven h a0) := by
  refine MX.of (lv := [(0, va_rf (some a0))]) (by decide) (Nat.le_of_ble_eq_true rfl) rfl (fun C hC _ => ?_)
  unfold f_X10_countGiven
  refine x_iconst (v := 0) (p' := 1) hC (dAt dd_X10_countGiven 0 rfl) (by decide) rfl ?_
  refine x_istore_n (j := 1) (lv' := [(1, .int 0), (0, va_rf (some a0))]) (p' := 2) hC (dAt dd_X10_countGiven 1 rfl) rfl (by decide) rfl rfl ?_
  refine x_iconst (v := 0) (p' := 3) hC (dAt dd_X10_countGiven 2 rfl) (by decide) rfl ?_
  refine x_istore_n (j := 2) (lv' := [(2, .int 0), (1, .int 0), (0, va_rf (some a0))]) (p' := 4) hC (dAt dd_X10_countGiven 3 rfl) rfl (by decide) rfl rfl ?_
  refine x_sub [2, 1, 0] rfl ?_
  exact t_X10_countGiven_L4 hC FU a0 0 0 h
set_option maxHeartbeats 4000000 in
set_option maxRecDepth 100000 in
theorem t_X10_countStanding_L4 {C : CT} (hC : OKC C yX10_countStanding cX10_countStanding 3 (some .int) 0 0)   : ∀ (n : Nat) (x0 : Nat) (x1 : Int32) (x2 : Int32) (h : AH), WX rvI C 4 [(0, va_rf (some x0)), (1, .int x1), (2, .int x2)] [] h (f_X10_countStanding_L4 n x0 x1 x2 h) := by
  intro n
  induction n with
  | zero => intro _ _ _ _; exact x_none
  | succ n ih =>
    intro x0 x1 x2 h
    rw [f_X10_countStanding_L4]
    refine x_iload_n (p' := 5) hC 2 (dAt dd_X10_countStanding 4 rfl) rfl rfl rfl ?_
    refine x_aload_n (p' := 6) hC 0 (dAt dd_X10_countStanding 5 rfl) rfl rfl rfl ?_
    refine x_getI (p' := 9) hC fk_RX10_52 rfl (dAt dd_X10_countStanding 6 rfl) rfl (fun v1 => ?_)
    refine x_icmp_ge (tgt := 33) (p' := 12) hC (dAt dd_X10_countStanding 7 rfl) (by decide) rfl ?_ ?_
    · refine x_iload_n (p' := 34) hC 1 (dAt dd_X10_countStanding 17 rfl) rfl rfl rfl ?_
      exact x_ireturn hC (dAt dd_X10_countStanding 18 rfl)
    · refine x_aload_n (p' := 13) hC 0 (dAt dd_X10_countStanding 8 rfl) rfl rfl rfl ?_
      refine x_getR (p' := 16) hC fk_RX10_48 rfl (dAt dd_X10_countStanding 9 rfl) rfl (fun r2 => ?_)
      refine x_iload_n (p' := 17) hC 2 (dAt dd_X10_countStanding 10 rfl) rfl rfl rfl ?_
      refine x_aaload 15 3 (p' := 18) hC rfl (by decide) rfl (dAt dd_X10_countStanding 11 rfl) rfl (fun r3 => ?_)
      refine x_getI (p' := 21) hC fk_RX10_253 rfl (dAt dd_X10_countStanding 12 rfl) rfl (fun v4 => ?_)
      refine x_if_ne (tgt := 27) (p' := 24) hC (dAt dd_X10_countStanding 13 rfl) (by decide) rfl ?_ ?_
      · refine x_iinc (w := (x2 + 1)) (lv' := [(2, .int (x2 + 1)), (0, va_rf (some x0)), (1, .int x1)]) (p' := 30) hC 2 (dAt dd_X10_countStanding 15 rfl) rfl rfl (by decide) rfl rfl ?_
        refine x_goto (tgt := 4) hC (dAt dd_X10_countStanding 16 rfl) (by decide) ?_
        refine x_sub [1, 2, 0] rfl ?_
        exact ih x0 x1 (x2 + 1) h
      · refine x_iinc (w := (x1 + 1)) (lv' := [(1, .int (x1 + 1)), (0, va_rf (some x0)), (2, .int x2)]) (p' := 27) hC 1 (dAt dd_X10_countStanding 14 rfl) rfl rfl (by decide) rfl rfl ?_
        refine x_iinc (w := (x2 + 1)) (lv' := [(2, .int (x2 + 1)), (1, .int (x1 + 1)), (0, va_rf (some x0))]) (p' := 30) hC 2 (dAt dd_X10_countStanding 15 rfl) rfl rfl (by decide) rfl rfl ?_
        refine x_goto (tgt := 4) hC (dAt dd_X10_countStanding 16 rfl) (by decide) ?_
        refine x_sub [2, 1, 0] rfl ?_
        exact ih x0 (x1 + 1) (x2 + 1) h
set_option maxHeartbeats 4000000 in
set_option maxRecDepth 100000 in
theorem c_X10_countStanding (l : Launch) (D : va_G) (cy : Nat → ClassId) (h : AH) (a0 : Nat) : MX rvI l yX10_countStanding (Cond.code yX10_countStanding cX10_countStanding 3 (some .int) :: LW) 0 0 D cy h [va_rf (some a0)] (f_X10_countStanding h a0) := by
  refine MX.of (lv := [(0, va_rf (some a0))]) (by decide) (Nat.le_of_ble_eq_true rfl) rfl (fun C hC _ => ?_)
  unfold f_X10_countStanding
  refine x_iconst (v := 0) (p' := 1) hC (dAt dd_X10_countStanding 0 rfl) (by decide) rfl ?_
  refine x_istore_n (j := 1) (lv' := [(1, .int 0), (0, va_rf (some a0))]) (p' := 2) hC (dAt dd_X10_countStanding 1 rfl) rfl (by decide) rfl rfl ?_
  refine x_iconst (v := 0) (p' := 3) hC (dAt dd_X10_countStanding 2 rfl) (by decide) rfl ?_
  refine x_istore_n (j := 2) (lv' := [(2, .int 0), (1, .int 0), (0, va_rf (some a0))]) (p' := 4) hC (dAt dd_X10_countStanding 3 rfl) rfl (by decide) rfl rfl ?_
  refine x_sub [2, 1, 0] rfl ?_
  exact t_X10_countStanding_L4 hC FU a0 0 0 h
set_option maxHeartbeats 4000000 in
set_option maxRecDepth 100000 in
theorem t_X10_countChanges_L4 {C : CT} (hC : OKC C yX10_countChanges cX10_countChanges 3 (some .int) 4 93)   : ∀ (n : Nat) (x0 : Nat) (x1 : Int32) (x2 : Int32) (h : AH), WX rvI C 4 [(0, va_rf (some x0)), (1, .int x1), (2, .int x2)] [] h (f_X10_countChanges_L4 n x0 x1 x2 h) := by
  intro n
  induction n with
  | zero => intro _ _ _ _; exact x_none
  | succ n ih =>
    intro x0 x1 x2 h
    rw [f_X10_countChanges_L4]
    refine x_iload_n (p' := 5) hC 2 (dAt dd_X10_countChanges 4 rfl) rfl rfl rfl ?_
    refine x_bipush (v := 36) (p' := 7) hC (dAt dd_X10_countChanges 5 rfl) (by decide) rfl ?_
    refine x_icmp_ge (tgt := 27) (p' := 10) hC (dAt dd_X10_countChanges 6 rfl) (by decide) rfl ?_ ?_
    · refine x_iload_n (p' := 28) hC 1 (dAt dd_X10_countChanges 16 rfl) rfl rfl rfl ?_
      exact x_ireturn hC (dAt dd_X10_countChanges 17 rfl)
    · refine x_iload_n (p' := 11) hC 1 (dAt dd_X10_countChanges 7 rfl) rfl rfl rfl ?_
      refine x_aload_n (p' := 12) hC 0 (dAt dd_X10_countChanges 8 rfl) rfl rfl rfl ?_
      refine x_iload_n (p' := 13) hC 2 (dAt dd_X10_countChanges 9 rfl) rfl rfl rfl ?_
      refine x_callVR (As := [.int x2]) (z := fun b => f_X10_changesAt h b x2) (p' := 16) hC (fun b => c_X10_changesAt _ _ _ h b x2) k_450 k_452 (k_sl 10 rfl) k_1 k_453 hd_X10_changesAt ⟨by decide, by decide⟩ (ci := 9) rfl rfl (by decide) rfl (Nat.le_of_ble_eq_true rfl) rfl (dAt dd_X10_countChanges 10 rfl) rfl (fun r1 h2 => ?_)
      refine x_getI (p' := 19) hC fk_RX10_179 rfl (dAt dd_X10_countChanges 11 rfl) rfl (fun v3 => ?_)
      refine x_iadd (p' := 20) hC (dAt dd_X10_countChanges 12 rfl) rfl ?_
      refine x_istore_n (j := 1) (lv' := [(1, .int (x1 + v3)), (0, va_rf (some x0)), (2, .int x2)]) (p' := 21) hC (dAt dd_X10_countChanges 13 rfl) rfl (by decide) rfl rfl ?_
      refine x_iinc (w := (x2 + 1)) (lv' := [(2, .int (x2 + 1)), (1, .int (x1 + v3)), (0, va_rf (some x0))]) (p' := 24) hC 2 (dAt dd_X10_countChanges 14 rfl) rfl rfl (by decide) rfl rfl ?_
      refine x_goto (tgt := 4) hC (dAt dd_X10_countChanges 15 rfl) (by decide) ?_
      refine x_sub [2, 1, 0] rfl ?_
      exact ih x0 (x1 + v3) (x2 + 1) h2
set_option maxHeartbeats 4000000 in
set_option maxRecDepth 100000 in
theorem c_X10_countChanges (l : Launch) (D : va_G) (cy : Nat → ClassId) (h : AH) (a0 : Nat) : MX rvI l yX10_countChanges (Cond.code yX10_countChanges cX10_countChanges 3 (some .int) :: LW) 4 93 D cy h [va_rf (some a0)] (f_X10_countChanges h a0) := by
  refine MX.of (lv := [(0, va_rf (some a0))]) (by decide) (Nat.le_of_ble_eq_true rfl) rfl (fun C hC _ => ?_)
  unfold f_X10_countChanges
  refine x_iconst (v := 0) (p' := 1) hC (dAt dd_X10_countChanges 0 rfl) (by decide) rfl ?_
  refine x_istore_n (j := 1) (lv' := [(1, .int 0), (0, va_rf (some a0))]) (p' := 2) hC (dAt dd_X10_countChanges 1 rfl) rfl (by decide) rfl rfl ?_
  refine x_iconst (v := 0) (p' := 3) hC (dAt dd_X10_countChanges 2 rfl) (by decide) rfl ?_
  refine x_istore_n (j := 2) (lv' := [(2, .int 0), (1, .int 0), (0, va_rf (some a0))]) (p' := 4) hC (dAt dd_X10_countChanges 3 rfl) rfl (by decide) rfl rfl ?_
  refine x_sub [2, 1, 0] rfl ?_
  exact t_X10_countChanges_L4 hC FU a0 0 0 h
set_option maxHeartbeats 4000000 in
set_option maxRecDepth 100000 in
theorem c_X10_count (l : Launch) (D : va_G) (cy : Nat → ClassId) (h : AH) (a0 : Nat) (p1 : Int32) : MX rvI l yX10_count (Cond.code yX10_count cX10_count 2 (some .int) :: LW) 5 115 D cy h [va_rf (some a0), .int p1] (f_X10_count h a0 p1) := by
  refine MX.of (lv := [(0, va_rf (some a0)), (1, .int p1)]) (by decide) (Nat.le_of_ble_eq_true rfl) rfl (fun C hC _ => ?_)
  unfold f_X10_count
  refine x_iload_n (p' := 1) hC 1 (dAt dd_X10_count 0 rfl) rfl rfl rfl ?_
  refine x_case 0 (fun q0 => ?_) (fun q0 => ?_)
  · refine x_switch_in (tgt := 44) hC (dAt dd_X10_count 1 rfl) (by rw [q0]; decide) (by rw [q0]; decide) (by rw [q0]; rfl) (by decide) ?_
    refine x_aload_n (p' := 45) hC 0 (dAt dd_X10_count 2 rfl) rfl rfl rfl ?_
    refine x_callVI (As := []) (z := fun b => f_X10_countRows h b) (p' := 48) hC (fun b => c_X10_countRows _ _ _ h b) k_716 k_718 (k_sl 31 rfl) k_1 k_719 hd_X10_countRows ⟨by decide, by decide⟩ (ci := 9) rfl rfl (by decide) rfl (Nat.le_of_ble_eq_true rfl) rfl (dAt dd_X10_count 3 rfl) rfl (fun v1 h2 => ?_)
    exact x_ireturn hC (dAt dd_X10_count 4 rfl)
  refine x_case 1 (fun q1 => ?_) (fun q1 => ?_)
  · refine x_switch_in (tgt := 49) hC (dAt dd_X10_count 1 rfl) (by rw [q1]; decide) (by rw [q1]; decide) (by rw [q1]; rfl) (by decide) ?_
    refine x_aload_n (p' := 50) hC 0 (dAt dd_X10_count 5 rfl) rfl rfl rfl ?_
    refine x_callVI (As := []) (z := fun b => f_X10_countKept h b) (p' := 53) hC (fun b => c_X10_countKept _ _ _ h b) k_720 k_722 (k_sl 32 rfl) k_1 k_723 hd_X10_countKept ⟨by decide, by decide⟩ (ci := 9) rfl rfl (by decide) rfl (Nat.le_of_ble_eq_true rfl) rfl (dAt dd_X10_count 6 rfl) rfl (fun v3 h4 => ?_)
    exact x_ireturn hC (dAt dd_X10_count 7 rfl)
  refine x_case 2 (fun q2 => ?_) (fun q2 => ?_)
  · refine x_switch_in (tgt := 54) hC (dAt dd_X10_count 1 rfl) (by rw [q2]; decide) (by rw [q2]; decide) (by rw [q2]; rfl) (by decide) ?_
    refine x_aload_n (p' := 55) hC 0 (dAt dd_X10_count 8 rfl) rfl rfl rfl ?_
    refine x_callVI (As := []) (z := fun b => f_X10_countGiven h b) (p' := 58) hC (fun b => c_X10_countGiven _ _ _ h b) k_724 k_726 (k_sl 33 rfl) k_1 k_727 hd_X10_countGiven ⟨by decide, by decide⟩ (ci := 9) rfl rfl (by decide) rfl (Nat.le_of_ble_eq_true rfl) rfl (dAt dd_X10_count 9 rfl) rfl (fun v5 h6 => ?_)
    exact x_ireturn hC (dAt dd_X10_count 10 rfl)
  refine x_case 3 (fun q3 => ?_) (fun q3 => ?_)
  · refine x_switch_in (tgt := 59) hC (dAt dd_X10_count 1 rfl) (by rw [q3]; decide) (by rw [q3]; decide) (by rw [q3]; rfl) (by decide) ?_
    refine x_aload_n (p' := 60) hC 0 (dAt dd_X10_count 11 rfl) rfl rfl rfl ?_
    refine x_getI (p' := 63) hC fk_RX10_52 rfl (dAt dd_X10_count 12 rfl) rfl (fun v7 => ?_)
    exact x_ireturn hC (dAt dd_X10_count 13 rfl)
  refine x_case 4 (fun q4 => ?_) (fun q4 => ?_)
  · refine x_switch_in (tgt := 64) hC (dAt dd_X10_count 1 rfl) (by rw [q4]; decide) (by rw [q4]; decide) (by rw [q4]; rfl) (by decide) ?_
    refine x_aload_n (p' := 65) hC 0 (dAt dd_X10_count 14 rfl) rfl rfl rfl ?_
    refine x_callVI (As := []) (z := fun b => f_X10_countStanding h b) (p' := 68) hC (fun b => c_X10_countStanding _ _ _ h b) k_728 k_730 (k_sl 34 rfl) k_1 k_731 hd_X10_countStanding ⟨by decide, by decide⟩ (ci := 9) rfl rfl (by decide) rfl (Nat.le_of_ble_eq_true rfl) rfl (dAt dd_X10_count 15 rfl) rfl (fun v8 h9 => ?_)
    exact x_ireturn hC (dAt dd_X10_count 16 rfl)
  refine x_case 5 (fun q5 => ?_) (fun q5 => ?_)
  · refine x_switch_in (tgt := 69) hC (dAt dd_X10_count 1 rfl) (by rw [q5]; decide) (by rw [q5]; decide) (by rw [q5]; rfl) (by decide) ?_
    refine x_aload_n (p' := 70) hC 0 (dAt dd_X10_count 17 rfl) rfl rfl rfl ?_
    refine x_callVI (As := []) (z := fun b => f_X10_countChanges h b) (p' := 73) hC (fun b => c_X10_countChanges _ _ _ h b) k_732 k_734 (k_sl 35 rfl) k_1 k_735 hd_X10_countChanges ⟨by decide, by decide⟩ (ci := 9) rfl rfl (by decide) rfl (Nat.le_of_ble_eq_true rfl) rfl (dAt dd_X10_count 18 rfl) rfl (fun v10 h11 => ?_)
    exact x_ireturn hC (dAt dd_X10_count 19 rfl)
  refine x_case 6 (fun q6 => ?_) (fun q6 => ?_)
  · refine x_switch_in (tgt := 74) hC (dAt dd_X10_count 1 rfl) (by rw [q6]; decide) (by rw [q6]; decide) (by rw [q6]; rfl) (by decide) ?_
    refine x_aload_n (p' := 75) hC 0 (dAt dd_X10_count 20 rfl) rfl rfl rfl ?_
    refine x_getR (p' := 78) hC fk_RX10_71 rfl (dAt dd_X10_count 21 rfl) rfl (fun r12 => ?_)
    refine x_getI (p' := 81) hC fk_RX10_305 rfl (dAt dd_X10_count 22 rfl) rfl (fun v13 => ?_)
    exact x_ireturn hC (dAt dd_X10_count 23 rfl)
  refine x_switch_out (tgt := 82) hC (dAt dd_X10_count 1 rfl) (by have z0 := lv_neT q0 (show (0 : Int32).toInt = 0 by decide); have z1 := lv_neT q1 (show (1 : Int32).toInt = 1 by decide); have z2 := lv_neT q2 (show (2 : Int32).toInt = 2 by decide); have z3 := lv_neT q3 (show (3 : Int32).toInt = 3 by decide); have z4 := lv_neT q4 (show (4 : Int32).toInt = 4 by decide); have z5 := lv_neT q5 (show (5 : Int32).toInt = 5 by decide); have z6 := lv_neT q6 (show (6 : Int32).toInt = 6 by decide); omega) (by decide) ?_
  refine x_ldc (v := (-1000001)) (p' := 84) hC (dAt dd_X10_count 24 rfl) k_269 rfl ?_
  exact x_ireturn hC (dAt dd_X10_count 25 rfl)
set_option maxHeartbeats 4000000 in
set_option maxRecDepth 100000 in
theorem c_X10_status (l : Launch) (D : va_G) (cy : Nat → ClassId) (h : AH) (a0 : Nat) : MX rvI l yX10_status (Cond.code yX10_status cX10_status 1 (some .int) :: LW) 0 0 D cy h [va_rf (some a0)] (f_X10_status h a0) := by
  refine MX.of (lv := [(0, va_rf (some a0))]) (by decide) (Nat.le_of_ble_eq_true rfl) rfl (fun C hC _ => ?_)
  unfold f_X10_status
  refine x_aload_n (p' := 1) hC 0 (dAt dd_X10_status 0 rfl) rfl rfl rfl ?_
  refine x_getI (p' := 4) hC fk_RX10_63 rfl (dAt dd_X10_status 1 rfl) rfl (fun v1 => ?_)
  exact x_ireturn hC (dAt dd_X10_status 2 rfl)
