set_option maxHeartbeats 4000000 in
set_option maxRecDepth 100000 in
theorem c_X11_in (l : Launch) (D : va_G) (cy : Nat → ClassId) (h : AH) (p0 : Int64) (p2 : Int64) (p4 : Int64) : MX rvI l yX11_in (Cond.code yX11_in cX11_in 6 (some .boolean) :: LW) 0 0 D cy h [.long p0, .long p2, .long p4] (f_X11_in h p0 p2 p4) := by
  refine MX.of (lv := [(0, .long p0), (2, .long p2), (4, .long p4)]) (by decide) (Nat.le_of_ble_eq_true rfl) rfl (fun C hC _ => ?_)
  unfold f_X11_in
  refine x_lload_n (p' := 1) hC 0 (dAt dd_X11_in 0 rfl) rfl rfl rfl ?_
  refine x_lload_n (p' := 2) hC 1 (dAt dd_X11_in 1 rfl) rfl rfl rfl ?_
  refine x_lcmp (p' := 3) hC (dAt dd_X11_in 2 rfl) rfl ?_
  refine x_if_lt (tgt := 17) (p' := 6) hC (dAt dd_X11_in 3 rfl) (by decide) rfl ?_ ?_
  · refine x_iconst (v := 0) (p' := 18) hC (dAt dd_X11_in 10 rfl) (by decide) rfl ?_
    exact x_zreturn hC (dAt dd_X11_in 11 rfl)
  · refine x_lload_n (p' := 7) hC 0 (dAt dd_X11_in 4 rfl) rfl rfl rfl ?_
    refine x_lload (p' := 9) hC 2 (dAt dd_X11_in 5 rfl) rfl rfl ?_
    refine x_lcmp (p' := 10) hC (dAt dd_X11_in 6 rfl) rfl ?_
    refine x_if_gt (tgt := 17) (p' := 13) hC (dAt dd_X11_in 7 rfl) (by decide) rfl ?_ ?_
    · refine x_iconst (v := 0) (p' := 18) hC (dAt dd_X11_in 10 rfl) (by decide) rfl ?_
      exact x_zreturn hC (dAt dd_X11_in 11 rfl)
    · refine x_iconst (v := 1) (p' := 14) hC (dAt dd_X11_in 8 rfl) (by decide) rfl ?_
      refine x_goto (tgt := 18) hC (dAt dd_X11_in 9 rfl) (by decide) ?_
      exact x_zreturn hC (dAt dd_X11_in 11 rfl)
set_option maxHeartbeats 4000000 in
set_option maxRecDepth 100000 in
theorem c_X11_found (l : Launch) (D : va_G) (cy : Nat → ClassId) (h : AH) (a0 : Nat) (p1 : Int32) : MX rvI l yX11_found (Cond.code yX11_found cX11_found 2 (some .int) :: LW) 0 0 D cy h [va_rf (some a0), .int p1] (f_X11_found h a0 p1) := by
  refine MX.of (lv := [(0, va_rf (some a0)), (1, .int p1)]) (by decide) (Nat.le_of_ble_eq_true rfl) rfl (fun C hC _ => ?_)
  unfold f_X11_found
  refine x_aload_n (p' := 1) hC 0 (dAt dd_X11_found 0 rfl) rfl rfl rfl ?_
  refine x_iload_n (p' := 2) hC 1 (dAt dd_X11_found 1 rfl) rfl rfl rfl ?_
  refine x_putI (p' := 5) hC fk_RX11_7 tk_RX11 rfl rfl (Or.inl rfl) (dAt dd_X11_found 2 rfl) rfl (fun h1 => ?_)
  refine x_ldc (v := (-1000010)) (p' := 7) hC (dAt dd_X11_found 3 rfl) k_923 rfl ?_
  refine x_iload_n (p' := 8) hC 1 (dAt dd_X11_found 4 rfl) rfl rfl rfl ?_
  refine x_isub (p' := 9) hC (dAt dd_X11_found 5 rfl) rfl ?_
  exact x_ireturn hC (dAt dd_X11_found 6 rfl)
set_option maxHeartbeats 4000000 in
set_option maxRecDepth 100000 in
theorem c_X11_init (l : Launch) (D : va_G) (cy : Nat → ClassId) (h : AH) (a0 : Nat) (p1 : Int32) : MX rvV l yX11_init (Cond.code yX11_init cX11_init 2 none :: LW) 1 12 D cy h [va_rf (some a0), .int p1] (f_X11_init h a0 p1) := by
  refine MX.of (lv := [(0, va_rf (some a0)), (1, .int p1)]) (by decide) (Nat.le_of_ble_eq_true rfl) rfl (fun C hC _ => ?_)
  unfold f_X11_init
  refine x_aload_n (p' := 1) hC 0 (dAt dd_X11_init 0 rfl) rfl rfl rfl ?_
  refine x_objInit (p' := 4) hC k_748 k_23 k_objcode ⟨by decide, (Nat.le_of_ble_eq_true rfl)⟩ (dAt dd_X11_init 1 rfl) rfl ?_
  refine x_aload_n (p' := 5) hC 0 (dAt dd_X11_init 2 rfl) rfl rfl rfl ?_
  refine x_bipush (v := 8) (p' := 7) hC (dAt dd_X11_init 3 rfl) (by decide) rfl ?_
  refine x_newarray 12 0 (p' := 9) hC (Or.inl ⟨rfl, rfl, rfl⟩) k_41 (dAt dd_X11_init 4 rfl) rfl (fun a1 h2 => ?_)
  refine x_dup (p' := 10) hC (dAt dd_X11_init 5 rfl) (x_cat _) rfl ?_
  refine x_iconst (v := 0) (p' := 11) hC (dAt dd_X11_init 6 rfl) (by decide) rfl ?_
  refine x_iconst (v := (-1)) (p' := 12) hC (dAt dd_X11_init 7 rfl) (by decide) rfl ?_
  refine x_iastore (p' := 13) hC (dAt dd_X11_init 8 rfl) rfl (fun h3 => ?_)
  refine x_dup (p' := 14) hC (dAt dd_X11_init 9 rfl) (x_cat _) rfl ?_
  refine x_iconst (v := 1) (p' := 15) hC (dAt dd_X11_init 10 rfl) (by decide) rfl ?_
  refine x_iconst (v := (-1)) (p' := 16) hC (dAt dd_X11_init 11 rfl) (by decide) rfl ?_
  refine x_iastore (p' := 17) hC (dAt dd_X11_init 12 rfl) rfl (fun h4 => ?_)
  refine x_dup (p' := 18) hC (dAt dd_X11_init 13 rfl) (x_cat _) rfl ?_
  refine x_iconst (v := 2) (p' := 19) hC (dAt dd_X11_init 14 rfl) (by decide) rfl ?_
  refine x_iconst (v := (-1)) (p' := 20) hC (dAt dd_X11_init 15 rfl) (by decide) rfl ?_
  refine x_iastore (p' := 21) hC (dAt dd_X11_init 16 rfl) rfl (fun h5 => ?_)
  refine x_dup (p' := 22) hC (dAt dd_X11_init 17 rfl) (x_cat _) rfl ?_
  refine x_iconst (v := 3) (p' := 23) hC (dAt dd_X11_init 18 rfl) (by decide) rfl ?_
  refine x_iconst (v := (-1)) (p' := 24) hC (dAt dd_X11_init 19 rfl) (by decide) rfl ?_
  refine x_iastore (p' := 25) hC (dAt dd_X11_init 20 rfl) rfl (fun h6 => ?_)
  refine x_dup (p' := 26) hC (dAt dd_X11_init 21 rfl) (x_cat _) rfl ?_
  refine x_iconst (v := 4) (p' := 27) hC (dAt dd_X11_init 22 rfl) (by decide) rfl ?_
  refine x_iconst (v := (-1)) (p' := 28) hC (dAt dd_X11_init 23 rfl) (by decide) rfl ?_
  refine x_iastore (p' := 29) hC (dAt dd_X11_init 24 rfl) rfl (fun h7 => ?_)
  refine x_dup (p' := 30) hC (dAt dd_X11_init 25 rfl) (x_cat _) rfl ?_
  refine x_iconst (v := 5) (p' := 31) hC (dAt dd_X11_init 26 rfl) (by decide) rfl ?_
  refine x_iconst (v := (-1)) (p' := 32) hC (dAt dd_X11_init 27 rfl) (by decide) rfl ?_
  refine x_iastore (p' := 33) hC (dAt dd_X11_init 28 rfl) rfl (fun h8 => ?_)
  refine x_dup (p' := 34) hC (dAt dd_X11_init 29 rfl) (x_cat _) rfl ?_
  refine x_bipush (v := 6) (p' := 36) hC (dAt dd_X11_init 30 rfl) (by decide) rfl ?_
  refine x_iconst (v := (-1)) (p' := 37) hC (dAt dd_X11_init 31 rfl) (by decide) rfl ?_
  refine x_iastore (p' := 38) hC (dAt dd_X11_init 32 rfl) rfl (fun h9 => ?_)
  refine x_dup (p' := 39) hC (dAt dd_X11_init 33 rfl) (x_cat _) rfl ?_
  refine x_bipush (v := 7) (p' := 41) hC (dAt dd_X11_init 34 rfl) (by decide) rfl ?_
  refine x_iconst (v := (-1)) (p' := 42) hC (dAt dd_X11_init 35 rfl) (by decide) rfl ?_
  refine x_iastore (p' := 43) hC (dAt dd_X11_init 36 rfl) rfl (fun h10 => ?_)
  refine x_putR (p' := 46) hC fk_RX11_17 tk_RX11 rfl (Or.inr ⟨_, rfl⟩) (Or.inr ⟨rfl, rfl, rfl⟩) (dAt dd_X11_init 37 rfl) rfl (fun h11 => ?_)
  refine x_aload_n (p' := 47) hC 0 (dAt dd_X11_init 38 rfl) rfl rfl rfl ?_
  refine x_bipush (v := 8) (p' := 49) hC (dAt dd_X11_init 39 rfl) (by decide) rfl ?_
  refine x_newarray 12 0 (p' := 51) hC (Or.inl ⟨rfl, rfl, rfl⟩) k_41 (dAt dd_X11_init 40 rfl) rfl (fun a12 h13 => ?_)
  refine x_putR (p' := 54) hC fk_RX11_21 tk_RX11 rfl (Or.inr ⟨_, rfl⟩) (Or.inr ⟨rfl, rfl, rfl⟩) (dAt dd_X11_init 41 rfl) rfl (fun h14 => ?_)
  refine x_aload_n (p' := 55) hC 0 (dAt dd_X11_init 42 rfl) rfl rfl rfl ?_
  refine x_sipush (v := 480) (p' := 58) hC (dAt dd_X11_init 43 rfl) (by decide) rfl ?_
  refine x_newarray 12 0 (p' := 60) hC (Or.inl ⟨rfl, rfl, rfl⟩) k_41 (dAt dd_X11_init 44 rfl) rfl (fun a15 h16 => ?_)
  refine x_putR (p' := 63) hC fk_RX11_24 tk_RX11 rfl (Or.inr ⟨_, rfl⟩) (Or.inr ⟨rfl, rfl, rfl⟩) (dAt dd_X11_init 45 rfl) rfl (fun h17 => ?_)
  refine x_aload_n (p' := 64) hC 0 (dAt dd_X11_init 46 rfl) rfl rfl rfl ?_
  refine x_bipush (v := 60) (p' := 66) hC (dAt dd_X11_init 47 rfl) (by decide) rfl ?_
  refine x_newarray 12 0 (p' := 68) hC (Or.inl ⟨rfl, rfl, rfl⟩) k_41 (dAt dd_X11_init 48 rfl) rfl (fun a18 h19 => ?_)
  refine x_putR (p' := 71) hC fk_RX11_27 tk_RX11 rfl (Or.inr ⟨_, rfl⟩) (Or.inr ⟨rfl, rfl, rfl⟩) (dAt dd_X11_init 49 rfl) rfl (fun h20 => ?_)
  refine x_aload_n (p' := 72) hC 0 (dAt dd_X11_init 50 rfl) rfl rfl rfl ?_
  refine x_bipush (v := 60) (p' := 74) hC (dAt dd_X11_init 51 rfl) (by decide) rfl ?_
  refine x_newarray 12 0 (p' := 76) hC (Or.inl ⟨rfl, rfl, rfl⟩) k_41 (dAt dd_X11_init 52 rfl) rfl (fun a21 h22 => ?_)
  refine x_putR (p' := 79) hC fk_RX11_30 tk_RX11 rfl (Or.inr ⟨_, rfl⟩) (Or.inr ⟨rfl, rfl, rfl⟩) (dAt dd_X11_init 53 rfl) rfl (fun h23 => ?_)
  refine x_aload_n (p' := 80) hC 0 (dAt dd_X11_init 54 rfl) rfl rfl rfl ?_
  refine x_bipush (v := 60) (p' := 82) hC (dAt dd_X11_init 55 rfl) (by decide) rfl ?_
  refine x_newarray 12 0 (p' := 84) hC (Or.inl ⟨rfl, rfl, rfl⟩) k_41 (dAt dd_X11_init 56 rfl) rfl (fun a24 h25 => ?_)
  refine x_putR (p' := 87) hC fk_RX11_33 tk_RX11 rfl (Or.inr ⟨_, rfl⟩) (Or.inr ⟨rfl, rfl, rfl⟩) (dAt dd_X11_init 57 rfl) rfl (fun h26 => ?_)
  refine x_aload_n (p' := 88) hC 0 (dAt dd_X11_init 58 rfl) rfl rfl rfl ?_
  refine x_bipush (v := 60) (p' := 90) hC (dAt dd_X11_init 59 rfl) (by decide) rfl ?_
  refine x_newarray 12 0 (p' := 92) hC (Or.inl ⟨rfl, rfl, rfl⟩) k_41 (dAt dd_X11_init 60 rfl) rfl (fun a27 h28 => ?_)
  refine x_putR (p' := 95) hC fk_RX11_36 tk_RX11 rfl (Or.inr ⟨_, rfl⟩) (Or.inr ⟨rfl, rfl, rfl⟩) (dAt dd_X11_init 61 rfl) rfl (fun h29 => ?_)
  refine x_aload_n (p' := 96) hC 0 (dAt dd_X11_init 62 rfl) rfl rfl rfl ?_
  refine x_bipush (v := 60) (p' := 98) hC (dAt dd_X11_init 63 rfl) (by decide) rfl ?_
  refine x_newarray 12 0 (p' := 100) hC (Or.inl ⟨rfl, rfl, rfl⟩) k_41 (dAt dd_X11_init 64 rfl) rfl (fun a30 h31 => ?_)
  refine x_putR (p' := 103) hC fk_RX11_39 tk_RX11 rfl (Or.inr ⟨_, rfl⟩) (Or.inr ⟨rfl, rfl, rfl⟩) (dAt dd_X11_init 65 rfl) rfl (fun h32 => ?_)
  refine x_aload_n (p' := 104) hC 0 (dAt dd_X11_init 66 rfl) rfl rfl rfl ?_
  refine x_bipush (v := 10) (p' := 106) hC (dAt dd_X11_init 67 rfl) (by decide) rfl ?_
  refine x_newarray 12 0 (p' := 108) hC (Or.inl ⟨rfl, rfl, rfl⟩) k_41 (dAt dd_X11_init 68 rfl) rfl (fun a33 h34 => ?_)
  refine x_putR (p' := 111) hC fk_RX11_42 tk_RX11 rfl (Or.inr ⟨_, rfl⟩) (Or.inr ⟨rfl, rfl, rfl⟩) (dAt dd_X11_init 69 rfl) rfl (fun h35 => ?_)
  refine x_aload_n (p' := 112) hC 0 (dAt dd_X11_init 70 rfl) rfl rfl rfl ?_
  refine x_bipush (v := 72) (p' := 114) hC (dAt dd_X11_init 71 rfl) (by decide) rfl ?_
  refine x_newarray 13 1 (p' := 116) hC (Or.inr ⟨rfl, rfl, rfl⟩) k_905 (dAt dd_X11_init 72 rfl) rfl (fun a36 h37 => ?_)
  refine x_putR (p' := 119) hC fk_RX11_45 tk_RX11 rfl (Or.inr ⟨_, rfl⟩) (Or.inr ⟨rfl, rfl, rfl⟩) (dAt dd_X11_init 73 rfl) rfl (fun h38 => ?_)
  refine x_aload_n (p' := 120) hC 0 (dAt dd_X11_init 74 rfl) rfl rfl rfl ?_
  refine x_sipush (v := 4320) (p' := 123) hC (dAt dd_X11_init 75 rfl) (by decide) rfl ?_
  refine x_newarray 12 0 (p' := 125) hC (Or.inl ⟨rfl, rfl, rfl⟩) k_41 (dAt dd_X11_init 76 rfl) rfl (fun a39 h40 => ?_)
  refine x_putR (p' := 128) hC fk_RX11_49 tk_RX11 rfl (Or.inr ⟨_, rfl⟩) (Or.inr ⟨rfl, rfl, rfl⟩) (dAt dd_X11_init 77 rfl) rfl (fun h41 => ?_)
  refine x_aload_n (p' := 129) hC 0 (dAt dd_X11_init 78 rfl) rfl rfl rfl ?_
  refine x_sipush (v := 4320) (p' := 132) hC (dAt dd_X11_init 79 rfl) (by decide) rfl ?_
  refine x_newarray 12 0 (p' := 134) hC (Or.inl ⟨rfl, rfl, rfl⟩) k_41 (dAt dd_X11_init 80 rfl) rfl (fun a42 h43 => ?_)
  refine x_putR (p' := 137) hC fk_RX11_52 tk_RX11 rfl (Or.inr ⟨_, rfl⟩) (Or.inr ⟨rfl, rfl, rfl⟩) (dAt dd_X11_init 81 rfl) rfl (fun h44 => ?_)
  refine x_aload_n (p' := 138) hC 0 (dAt dd_X11_init 82 rfl) rfl rfl rfl ?_
  refine x_bipush (v := 72) (p' := 140) hC (dAt dd_X11_init 83 rfl) (by decide) rfl ?_
  refine x_newarray 12 0 (p' := 142) hC (Or.inl ⟨rfl, rfl, rfl⟩) k_41 (dAt dd_X11_init 84 rfl) rfl (fun a45 h46 => ?_)
  refine x_putR (p' := 145) hC fk_RX11_55 tk_RX11 rfl (Or.inr ⟨_, rfl⟩) (Or.inr ⟨rfl, rfl, rfl⟩) (dAt dd_X11_init 85 rfl) rfl (fun h47 => ?_)
  refine x_aload_n (p' := 146) hC 0 (dAt dd_X11_init 86 rfl) rfl rfl rfl ?_
  refine x_sipush (v := 144) (p' := 149) hC (dAt dd_X11_init 87 rfl) (by decide) rfl ?_
  refine x_newarray 12 0 (p' := 151) hC (Or.inl ⟨rfl, rfl, rfl⟩) k_41 (dAt dd_X11_init 88 rfl) rfl (fun a48 h49 => ?_)
  refine x_putR (p' := 154) hC fk_RX11_58 tk_RX11 rfl (Or.inr ⟨_, rfl⟩) (Or.inr ⟨rfl, rfl, rfl⟩) (dAt dd_X11_init 89 rfl) rfl (fun h50 => ?_)
  refine x_aload_n (p' := 155) hC 0 (dAt dd_X11_init 90 rfl) rfl rfl rfl ?_
  refine x_ldc (v := 73728) (p' := 157) hC (dAt dd_X11_init 91 rfl) k_749 rfl ?_
  refine x_newarray 12 0 (p' := 159) hC (Or.inl ⟨rfl, rfl, rfl⟩) k_41 (dAt dd_X11_init 92 rfl) rfl (fun a51 h52 => ?_)
  refine x_putR (p' := 162) hC fk_RX11_62 tk_RX11 rfl (Or.inr ⟨_, rfl⟩) (Or.inr ⟨rfl, rfl, rfl⟩) (dAt dd_X11_init 93 rfl) rfl (fun h53 => ?_)
  refine x_aload_n (p' := 163) hC 0 (dAt dd_X11_init 94 rfl) rfl rfl rfl ?_
  refine x_sipush (v := 3721) (p' := 166) hC (dAt dd_X11_init 95 rfl) (by decide) rfl ?_
  refine x_newarray 12 0 (p' := 168) hC (Or.inl ⟨rfl, rfl, rfl⟩) k_41 (dAt dd_X11_init 96 rfl) rfl (fun a54 h55 => ?_)
  refine x_putR (p' := 171) hC fk_RX11_65 tk_RX11 rfl (Or.inr ⟨_, rfl⟩) (Or.inr ⟨rfl, rfl, rfl⟩) (dAt dd_X11_init 97 rfl) rfl (fun h56 => ?_)
  refine x_aload_n (p' := 172) hC 0 (dAt dd_X11_init 98 rfl) rfl rfl rfl ?_
  refine x_bipush (v := 61) (p' := 174) hC (dAt dd_X11_init 99 rfl) (by decide) rfl ?_
  refine x_newarray 12 0 (p' := 176) hC (Or.inl ⟨rfl, rfl, rfl⟩) k_41 (dAt dd_X11_init 100 rfl) rfl (fun a57 h58 => ?_)
  refine x_putR (p' := 179) hC fk_RX11_68 tk_RX11 rfl (Or.inr ⟨_, rfl⟩) (Or.inr ⟨rfl, rfl, rfl⟩) (dAt dd_X11_init 101 rfl) rfl (fun h59 => ?_)
  refine x_aload_n (p' := 180) hC 0 (dAt dd_X11_init 102 rfl) rfl rfl rfl ?_
  refine x_bipush (v := 61) (p' := 182) hC (dAt dd_X11_init 103 rfl) (by decide) rfl ?_
  refine x_newarray 12 0 (p' := 184) hC (Or.inl ⟨rfl, rfl, rfl⟩) k_41 (dAt dd_X11_init 104 rfl) rfl (fun a60 h61 => ?_)
  refine x_putR (p' := 187) hC fk_RX11_71 tk_RX11 rfl (Or.inr ⟨_, rfl⟩) (Or.inr ⟨rfl, rfl, rfl⟩) (dAt dd_X11_init 105 rfl) rfl (fun h62 => ?_)
  refine x_aload_n (p' := 188) hC 0 (dAt dd_X11_init 106 rfl) rfl rfl rfl ?_
  refine x_bipush (v := 61) (p' := 190) hC (dAt dd_X11_init 107 rfl) (by decide) rfl ?_
  refine x_newarray 12 0 (p' := 192) hC (Or.inl ⟨rfl, rfl, rfl⟩) k_41 (dAt dd_X11_init 108 rfl) rfl (fun a63 h64 => ?_)
  refine x_putR (p' := 195) hC fk_RX11_74 tk_RX11 rfl (Or.inr ⟨_, rfl⟩) (Or.inr ⟨rfl, rfl, rfl⟩) (dAt dd_X11_init 109 rfl) rfl (fun h65 => ?_)
  refine x_aload_n (p' := 196) hC 0 (dAt dd_X11_init 110 rfl) rfl rfl rfl ?_
  refine x_bipush (v := 61) (p' := 198) hC (dAt dd_X11_init 111 rfl) (by decide) rfl ?_
  refine x_newarray 12 0 (p' := 200) hC (Or.inl ⟨rfl, rfl, rfl⟩) k_41 (dAt dd_X11_init 112 rfl) rfl (fun a66 h67 => ?_)
  refine x_putR (p' := 203) hC fk_RX11_77 tk_RX11 rfl (Or.inr ⟨_, rfl⟩) (Or.inr ⟨rfl, rfl, rfl⟩) (dAt dd_X11_init 113 rfl) rfl (fun h68 => ?_)
  refine x_aload_n (p' := 204) hC 0 (dAt dd_X11_init 114 rfl) rfl rfl rfl ?_
  refine x_sipush (v := 2300) (p' := 207) hC (dAt dd_X11_init 115 rfl) (by decide) rfl ?_
  refine x_newarray 12 0 (p' := 209) hC (Or.inl ⟨rfl, rfl, rfl⟩) k_41 (dAt dd_X11_init 116 rfl) rfl (fun a69 h70 => ?_)
  refine x_putR (p' := 212) hC fk_RX11_80 tk_RX11 rfl (Or.inr ⟨_, rfl⟩) (Or.inr ⟨rfl, rfl, rfl⟩) (dAt dd_X11_init 117 rfl) rfl (fun h71 => ?_)
  refine x_aload_n (p' := 213) hC 0 (dAt dd_X11_init 118 rfl) rfl rfl rfl ?_
  refine x_sipush (v := 2300) (p' := 216) hC (dAt dd_X11_init 119 rfl) (by decide) rfl ?_
  refine x_newarray 12 0 (p' := 218) hC (Or.inl ⟨rfl, rfl, rfl⟩) k_41 (dAt dd_X11_init 120 rfl) rfl (fun a72 h73 => ?_)
  refine x_putR (p' := 221) hC fk_RX11_83 tk_RX11 rfl (Or.inr ⟨_, rfl⟩) (Or.inr ⟨rfl, rfl, rfl⟩) (dAt dd_X11_init 121 rfl) rfl (fun h74 => ?_)
  refine x_aload_n (p' := 222) hC 0 (dAt dd_X11_init 122 rfl) rfl rfl rfl ?_
  refine x_sipush (v := 2300) (p' := 225) hC (dAt dd_X11_init 123 rfl) (by decide) rfl ?_
  refine x_newarray 12 0 (p' := 227) hC (Or.inl ⟨rfl, rfl, rfl⟩) k_41 (dAt dd_X11_init 124 rfl) rfl (fun a75 h76 => ?_)
  refine x_putR (p' := 230) hC fk_RX11_86 tk_RX11 rfl (Or.inr ⟨_, rfl⟩) (Or.inr ⟨rfl, rfl, rfl⟩) (dAt dd_X11_init 125 rfl) rfl (fun h77 => ?_)
  refine x_aload_n (p' := 231) hC 0 (dAt dd_X11_init 126 rfl) rfl rfl rfl ?_
  refine x_sipush (v := 2300) (p' := 234) hC (dAt dd_X11_init 127 rfl) (by decide) rfl ?_
  refine x_newarray 12 0 (p' := 236) hC (Or.inl ⟨rfl, rfl, rfl⟩) k_41 (dAt dd_X11_init 128 rfl) rfl (fun a78 h79 => ?_)
  refine x_putR (p' := 239) hC fk_RX11_89 tk_RX11 rfl (Or.inr ⟨_, rfl⟩) (Or.inr ⟨rfl, rfl, rfl⟩) (dAt dd_X11_init 129 rfl) rfl (fun h80 => ?_)
  refine x_aload_n (p' := 240) hC 0 (dAt dd_X11_init 130 rfl) rfl rfl rfl ?_
  refine x_sipush (v := 2300) (p' := 243) hC (dAt dd_X11_init 131 rfl) (by decide) rfl ?_
  refine x_newarray 12 0 (p' := 245) hC (Or.inl ⟨rfl, rfl, rfl⟩) k_41 (dAt dd_X11_init 132 rfl) rfl (fun a81 h82 => ?_)
  refine x_putR (p' := 248) hC fk_RX11_92 tk_RX11 rfl (Or.inr ⟨_, rfl⟩) (Or.inr ⟨rfl, rfl, rfl⟩) (dAt dd_X11_init 133 rfl) rfl (fun h83 => ?_)
  refine x_aload_n (p' := 249) hC 0 (dAt dd_X11_init 134 rfl) rfl rfl rfl ?_
  refine x_sipush (v := 2300) (p' := 252) hC (dAt dd_X11_init 135 rfl) (by decide) rfl ?_
  refine x_newarray 12 0 (p' := 254) hC (Or.inl ⟨rfl, rfl, rfl⟩) k_41 (dAt dd_X11_init 136 rfl) rfl (fun a84 h85 => ?_)
  refine x_putR (p' := 257) hC fk_RX11_95 tk_RX11 rfl (Or.inr ⟨_, rfl⟩) (Or.inr ⟨rfl, rfl, rfl⟩) (dAt dd_X11_init 137 rfl) rfl (fun h86 => ?_)
  refine x_aload_n (p' := 258) hC 0 (dAt dd_X11_init 138 rfl) rfl rfl rfl ?_
  refine x_sipush (v := 4400) (p' := 261) hC (dAt dd_X11_init 139 rfl) (by decide) rfl ?_
  refine x_newarray 12 0 (p' := 263) hC (Or.inl ⟨rfl, rfl, rfl⟩) k_41 (dAt dd_X11_init 140 rfl) rfl (fun a87 h88 => ?_)
  refine x_putR (p' := 266) hC fk_RX11_98 tk_RX11 rfl (Or.inr ⟨_, rfl⟩) (Or.inr ⟨rfl, rfl, rfl⟩) (dAt dd_X11_init 141 rfl) rfl (fun h89 => ?_)
  refine x_aload_n (p' := 267) hC 0 (dAt dd_X11_init 142 rfl) rfl rfl rfl ?_
  refine x_sipush (v := 2300) (p' := 270) hC (dAt dd_X11_init 143 rfl) (by decide) rfl ?_
  refine x_newarray 12 0 (p' := 272) hC (Or.inl ⟨rfl, rfl, rfl⟩) k_41 (dAt dd_X11_init 144 rfl) rfl (fun a90 h91 => ?_)
  refine x_putR (p' := 275) hC fk_RX11_101 tk_RX11 rfl (Or.inr ⟨_, rfl⟩) (Or.inr ⟨rfl, rfl, rfl⟩) (dAt dd_X11_init 145 rfl) rfl (fun h92 => ?_)
  refine x_aload_n (p' := 276) hC 0 (dAt dd_X11_init 146 rfl) rfl rfl rfl ?_
  refine x_bipush (v := 61) (p' := 278) hC (dAt dd_X11_init 147 rfl) (by decide) rfl ?_
  refine x_newarray 13 1 (p' := 280) hC (Or.inr ⟨rfl, rfl, rfl⟩) k_905 (dAt dd_X11_init 148 rfl) rfl (fun a93 h94 => ?_)
  refine x_putR (p' := 283) hC fk_RX11_104 tk_RX11 rfl (Or.inr ⟨_, rfl⟩) (Or.inr ⟨rfl, rfl, rfl⟩) (dAt dd_X11_init 149 rfl) rfl (fun h95 => ?_)
  refine x_aload_n (p' := 284) hC 0 (dAt dd_X11_init 150 rfl) rfl rfl rfl ?_
  refine x_sipush (v := 180) (p' := 287) hC (dAt dd_X11_init 151 rfl) (by decide) rfl ?_
  refine x_newarray 12 0 (p' := 289) hC (Or.inl ⟨rfl, rfl, rfl⟩) k_41 (dAt dd_X11_init 152 rfl) rfl (fun a96 h97 => ?_)
  refine x_putR (p' := 292) hC fk_RX11_107 tk_RX11 rfl (Or.inr ⟨_, rfl⟩) (Or.inr ⟨rfl, rfl, rfl⟩) (dAt dd_X11_init 153 rfl) rfl (fun h98 => ?_)
  refine x_aload_n (p' := 293) hC 0 (dAt dd_X11_init 154 rfl) rfl rfl rfl ?_
  refine x_bipush (v := 100) (p' := 295) hC (dAt dd_X11_init 155 rfl) (by decide) rfl ?_
  refine x_newarray 12 0 (p' := 297) hC (Or.inl ⟨rfl, rfl, rfl⟩) k_41 (dAt dd_X11_init 156 rfl) rfl (fun a99 h100 => ?_)
  refine x_putR (p' := 300) hC fk_RX11_110 tk_RX11 rfl (Or.inr ⟨_, rfl⟩) (Or.inr ⟨rfl, rfl, rfl⟩) (dAt dd_X11_init 157 rfl) rfl (fun h101 => ?_)
  refine x_aload_n (p' := 301) hC 0 (dAt dd_X11_init 158 rfl) rfl rfl rfl ?_
  refine x_bipush (v := 100) (p' := 303) hC (dAt dd_X11_init 159 rfl) (by decide) rfl ?_
  refine x_newarray 12 0 (p' := 305) hC (Or.inl ⟨rfl, rfl, rfl⟩) k_41 (dAt dd_X11_init 160 rfl) rfl (fun a102 h103 => ?_)
  refine x_putR (p' := 308) hC fk_RX11_113 tk_RX11 rfl (Or.inr ⟨_, rfl⟩) (Or.inr ⟨rfl, rfl, rfl⟩) (dAt dd_X11_init 161 rfl) rfl (fun h104 => ?_)
  refine x_aload_n (p' := 309) hC 0 (dAt dd_X11_init 162 rfl) rfl rfl rfl ?_
  refine x_bipush (v := 100) (p' := 311) hC (dAt dd_X11_init 163 rfl) (by decide) rfl ?_
  refine x_newarray 12 0 (p' := 313) hC (Or.inl ⟨rfl, rfl, rfl⟩) k_41 (dAt dd_X11_init 164 rfl) rfl (fun a105 h106 => ?_)
  refine x_putR (p' := 316) hC fk_RX11_116 tk_RX11 rfl (Or.inr ⟨_, rfl⟩) (Or.inr ⟨rfl, rfl, rfl⟩) (dAt dd_X11_init 165 rfl) rfl (fun h107 => ?_)
  refine x_aload_n (p' := 317) hC 0 (dAt dd_X11_init 166 rfl) rfl rfl rfl ?_
  refine x_bipush (v := 100) (p' := 319) hC (dAt dd_X11_init 167 rfl) (by decide) rfl ?_
  refine x_newarray 12 0 (p' := 321) hC (Or.inl ⟨rfl, rfl, rfl⟩) k_41 (dAt dd_X11_init 168 rfl) rfl (fun a108 h109 => ?_)
  refine x_putR (p' := 324) hC fk_RX11_119 tk_RX11 rfl (Or.inr ⟨_, rfl⟩) (Or.inr ⟨rfl, rfl, rfl⟩) (dAt dd_X11_init 169 rfl) rfl (fun h110 => ?_)
  refine x_aload_n (p' := 325) hC 0 (dAt dd_X11_init 170 rfl) rfl rfl rfl ?_
  refine x_bipush (v := 100) (p' := 327) hC (dAt dd_X11_init 171 rfl) (by decide) rfl ?_
  refine x_newarray 13 1 (p' := 329) hC (Or.inr ⟨rfl, rfl, rfl⟩) k_905 (dAt dd_X11_init 172 rfl) rfl (fun a111 h112 => ?_)
  refine x_putR (p' := 332) hC fk_RX11_122 tk_RX11 rfl (Or.inr ⟨_, rfl⟩) (Or.inr ⟨rfl, rfl, rfl⟩) (dAt dd_X11_init 173 rfl) rfl (fun h113 => ?_)
  refine x_aload_n (p' := 333) hC 0 (dAt dd_X11_init 174 rfl) rfl rfl rfl ?_
  refine x_bipush (v := 100) (p' := 335) hC (dAt dd_X11_init 175 rfl) (by decide) rfl ?_
  refine x_newarray 12 0 (p' := 337) hC (Or.inl ⟨rfl, rfl, rfl⟩) k_41 (dAt dd_X11_init 176 rfl) rfl (fun a114 h115 => ?_)
  refine x_putR (p' := 340) hC fk_RX11_125 tk_RX11 rfl (Or.inr ⟨_, rfl⟩) (Or.inr ⟨rfl, rfl, rfl⟩) (dAt dd_X11_init 177 rfl) rfl (fun h116 => ?_)
  refine x_aload_n (p' := 341) hC 0 (dAt dd_X11_init 178 rfl) rfl rfl rfl ?_
  refine x_sipush (v := 3600) (p' := 344) hC (dAt dd_X11_init 179 rfl) (by decide) rfl ?_
  refine x_newarray 12 0 (p' := 346) hC (Or.inl ⟨rfl, rfl, rfl⟩) k_41 (dAt dd_X11_init 180 rfl) rfl (fun a117 h118 => ?_)
  refine x_putR (p' := 349) hC fk_RX11_128 tk_RX11 rfl (Or.inr ⟨_, rfl⟩) (Or.inr ⟨rfl, rfl, rfl⟩) (dAt dd_X11_init 181 rfl) rfl (fun h119 => ?_)
  refine x_aload_n (p' := 350) hC 0 (dAt dd_X11_init 182 rfl) rfl rfl rfl ?_
  refine x_sipush (v := 3600) (p' := 353) hC (dAt dd_X11_init 183 rfl) (by decide) rfl ?_
  refine x_newarray 13 1 (p' := 355) hC (Or.inr ⟨rfl, rfl, rfl⟩) k_905 (dAt dd_X11_init 184 rfl) rfl (fun a120 h121 => ?_)
  refine x_putR (p' := 358) hC fk_RX11_131 tk_RX11 rfl (Or.inr ⟨_, rfl⟩) (Or.inr ⟨rfl, rfl, rfl⟩) (dAt dd_X11_init 185 rfl) rfl (fun h122 => ?_)
  refine x_aload_n (p' := 359) hC 0 (dAt dd_X11_init 186 rfl) rfl rfl rfl ?_
  refine x_sipush (v := 3600) (p' := 362) hC (dAt dd_X11_init 187 rfl) (by decide) rfl ?_
  refine x_newarray 12 0 (p' := 364) hC (Or.inl ⟨rfl, rfl, rfl⟩) k_41 (dAt dd_X11_init 188 rfl) rfl (fun a123 h124 => ?_)
  refine x_putR (p' := 367) hC fk_RX11_134 tk_RX11 rfl (Or.inr ⟨_, rfl⟩) (Or.inr ⟨rfl, rfl, rfl⟩) (dAt dd_X11_init 189 rfl) rfl (fun h125 => ?_)
  refine x_aload_n (p' := 368) hC 0 (dAt dd_X11_init 190 rfl) rfl rfl rfl ?_
  refine x_ldc (v := 216000) (p' := 370) hC (dAt dd_X11_init 191 rfl) k_750 rfl ?_
  refine x_newarray 12 0 (p' := 372) hC (Or.inl ⟨rfl, rfl, rfl⟩) k_41 (dAt dd_X11_init 192 rfl) rfl (fun a126 h127 => ?_)
  refine x_putR (p' := 375) hC fk_RX11_138 tk_RX11 rfl (Or.inr ⟨_, rfl⟩) (Or.inr ⟨rfl, rfl, rfl⟩) (dAt dd_X11_init 193 rfl) rfl (fun h128 => ?_)
  refine x_aload_n (p' := 376) hC 0 (dAt dd_X11_init 194 rfl) rfl rfl rfl ?_
  refine x_ldc (v := 216000) (p' := 378) hC (dAt dd_X11_init 195 rfl) k_750 rfl ?_
  refine x_newarray 12 0 (p' := 380) hC (Or.inl ⟨rfl, rfl, rfl⟩) k_41 (dAt dd_X11_init 196 rfl) rfl (fun a129 h130 => ?_)
  refine x_putR (p' := 383) hC fk_RX11_141 tk_RX11 rfl (Or.inr ⟨_, rfl⟩) (Or.inr ⟨rfl, rfl, rfl⟩) (dAt dd_X11_init 197 rfl) rfl (fun h131 => ?_)
  refine x_aload_n (p' := 384) hC 0 (dAt dd_X11_init 198 rfl) rfl rfl rfl ?_
  refine x_bipush (v := 16) (p' := 386) hC (dAt dd_X11_init 199 rfl) (by decide) rfl ?_
  refine x_newarray 12 0 (p' := 388) hC (Or.inl ⟨rfl, rfl, rfl⟩) k_41 (dAt dd_X11_init 200 rfl) rfl (fun a132 h133 => ?_)
  refine x_putR (p' := 391) hC fk_RX11_144 tk_RX11 rfl (Or.inr ⟨_, rfl⟩) (Or.inr ⟨rfl, rfl, rfl⟩) (dAt dd_X11_init 201 rfl) rfl (fun h134 => ?_)
  refine x_aload_n (p' := 392) hC 0 (dAt dd_X11_init 202 rfl) rfl rfl rfl ?_
  refine x_iload_n (p' := 393) hC 1 (dAt dd_X11_init 203 rfl) rfl rfl rfl ?_
  refine x_bipush (v := 7) (p' := 395) hC (dAt dd_X11_init 204 rfl) (by decide) rfl ?_
  refine x_iand (p' := 396) hC (dAt dd_X11_init 205 rfl) rfl ?_
  refine x_putI (p' := 399) hC fk_RX11_147 tk_RX11 rfl rfl (Or.inr ⟨rfl, rfl, rfl⟩) (dAt dd_X11_init 206 rfl) rfl (fun h135 => ?_)
  exact x_return hC (dAt dd_X11_init 207 rfl)
set_option maxHeartbeats 4000000 in
set_option maxRecDepth 100000 in
theorem c_X11_isRow (l : Launch) (D : va_G) (cy : Nat → ClassId) (h : AH) (p0 : Int32) : MX rvI l yX11_isRow (Cond.code yX11_isRow cX11_isRow 1 (some .boolean) :: LW) 1 25 D cy h [.int p0] (f_X11_isRow h p0) := by
  refine MX.of (lv := [(0, .int p0)]) (by decide) (Nat.le_of_ble_eq_true rfl) rfl (fun C hC _ => ?_)
  unfold f_X11_isRow
  refine x_iload_n (p' := 1) hC 0 (dAt dd_X11_isRow 0 rfl) rfl rfl rfl ?_
  refine x_i2l (p' := 2) hC (dAt dd_X11_isRow 1 rfl) rfl ?_
  refine x_lconst (v := 0) (p' := 3) hC (dAt dd_X11_isRow 2 rfl) (by decide) rfl ?_
  refine x_ldc2_w (v := 7) (p' := 6) hC (dAt dd_X11_isRow 3 rfl) k_913 rfl ?_
  refine x_callSI (As := [.long (Int32.toInt64 p0), .long 0, .long 7]) (p' := 9) hC (c_X11_in _ _ _ h (Int32.toInt64 p0) 0 7) k_914 k_915 k_9 k_916 hd_X11_in ⟨by decide, by decide⟩ rfl (Nat.le_of_ble_eq_true rfl) rfl (dAt dd_X11_isRow 4 rfl) rfl (fun v1 h2 => ?_)
  exact x_zreturn hC (dAt dd_X11_isRow 5 rfl)
set_option maxHeartbeats 4000000 in
set_option maxRecDepth 100000 in
theorem t_X11_row_L65 {C : CT} (hC : OKC C yX11_row cX11_row 5 (some .int) 2 45)   : ∀ (n : Nat) (x0 : Nat) (x1 : Int32) (x3 : Int32) (x4 : Int32) (h : AH), WX rvI C 65 [(0, va_rf (some x0)), (1, .int x1), (3, .int x3), (4, .int x4)] [] h (f_X11_row_L65 n x0 x1 x3 x4 h) := by
  intro n
  induction n with
  | zero => intro _ _ _ _ _; exact x_none
  | succ n ih =>
    intro x0 x1 x3 x4 h
    rw [f_X11_row_L65]
    refine x_iload (p' := 67) hC 3 (dAt dd_X11_row 38 rfl) rfl rfl ?_
    refine x_bipush (v := 60) (p' := 69) hC (dAt dd_X11_row 39 rfl) (by decide) rfl ?_
    refine x_icmp_ge (tgt := 91) (p' := 72) hC (dAt dd_X11_row 40 rfl) (by decide) rfl ?_ ?_
    · refine x_iload_n (p' := 92) hC 2 (dAt dd_X11_row 52 rfl) rfl rfl rfl ?_
      exact x_ireturn hC (dAt dd_X11_row 53 rfl)
    · refine x_aload_n (p' := 73) hC 0 (dAt dd_X11_row 41 rfl) rfl rfl rfl ?_
      refine x_getR (p' := 76) hC fk_RX11_24 rfl (dAt dd_X11_row 42 rfl) rfl (fun r11 => ?_)
      refine x_bipush (v := 60) (p' := 78) hC (dAt dd_X11_row 43 rfl) (by decide) rfl ?_
      refine x_iload_n (p' := 79) hC 1 (dAt dd_X11_row 44 rfl) rfl rfl rfl ?_
      refine x_imul (p' := 80) hC (dAt dd_X11_row 45 rfl) rfl ?_
      refine x_iload (p' := 82) hC 3 (dAt dd_X11_row 46 rfl) rfl rfl ?_
      refine x_iadd (p' := 83) hC (dAt dd_X11_row 47 rfl) rfl ?_
      refine x_iconst (v := 0) (p' := 84) hC (dAt dd_X11_row 48 rfl) (by decide) rfl ?_
      refine x_iastore (p' := 85) hC (dAt dd_X11_row 49 rfl) rfl (fun h12 => ?_)
      refine x_iinc (w := (x4 + 1)) (lv' := [(4, .int (x4 + 1)), (0, va_rf (some x0)), (1, .int x1), (3, .int x3)]) (p' := 88) hC 3 (dAt dd_X11_row 50 rfl) rfl rfl (by decide) rfl rfl ?_
      refine x_goto (tgt := 65) hC (dAt dd_X11_row 51 rfl) (by decide) ?_
      refine x_sub [1, 2, 3, 0] rfl ?_
      exact ih x0 x1 x3 (x4 + 1) h12
set_option maxHeartbeats 4000000 in
set_option maxRecDepth 100000 in
theorem c_X11_row (l : Launch) (D : va_G) (cy : Nat → ClassId) (h : AH) (a0 : Nat) (p1 : Int32) (p2 : Int32) (p3 : Int32) : MX rvI l yX11_row (Cond.code yX11_row cX11_row 5 (some .int) :: LW) 2 45 D cy h [va_rf (some a0), .int p1, .int p2, .int p3] (f_X11_row h a0 p1 p2 p3) := by
  refine MX.of (lv := [(0, va_rf (some a0)), (1, .int p1), (2, .int p2), (3, .int p3)]) (by decide) (Nat.le_of_ble_eq_true rfl) rfl (fun C hC _ => ?_)
  unfold f_X11_row
  refine x_aload_n (p' := 1) hC 0 (dAt dd_X11_row 0 rfl) rfl rfl rfl ?_
  refine x_iconst (v := 0) (p' := 2) hC (dAt dd_X11_row 1 rfl) (by decide) rfl ?_
  refine x_putI (p' := 5) hC fk_RX11_1 tk_RX11 rfl rfl (Or.inl rfl) (dAt dd_X11_row 2 rfl) rfl (fun h1 => ?_)
  refine x_iload_n (p' := 6) hC 1 (dAt dd_X11_row 3 rfl) rfl rfl rfl ?_
  refine x_callSI (As := [.int p1]) (p' := 9) hC (c_X11_isRow _ _ _ h1 p1) k_910 k_911 k_9 k_912 hd_X11_isRow ⟨by decide, by decide⟩ rfl (Nat.le_of_ble_eq_true rfl) rfl (dAt dd_X11_row 4 rfl) rfl (fun v2 h3 => ?_)
  refine x_if_eq (tgt := 30) (p' := 12) hC (dAt dd_X11_row 5 rfl) (by decide) rfl ?_ ?_
  · refine x_ldc (v := (-1000001)) (p' := 32) hC (dAt dd_X11_row 15 rfl) k_918 rfl ?_
    exact x_ireturn hC (dAt dd_X11_row 16 rfl)
  · refine x_iload_n (p' := 13) hC 2 (dAt dd_X11_row 6 rfl) rfl rfl rfl ?_
    refine x_i2l (p' := 14) hC (dAt dd_X11_row 7 rfl) rfl ?_
    refine x_lconst (v := 0) (p' := 15) hC (dAt dd_X11_row 8 rfl) (by decide) rfl ?_
    refine x_ldc2_w (v := 2) (p' := 18) hC (dAt dd_X11_row 9 rfl) k_917 rfl ?_
    refine x_callSI (As := [.long (Int32.toInt64 p2), .long 0, .long 2]) (p' := 21) hC (c_X11_in _ _ _ h3 (Int32.toInt64 p2) 0 2) k_914 k_915 k_9 k_916 hd_X11_in ⟨by decide, by decide⟩ rfl (Nat.le_of_ble_eq_true rfl) rfl (dAt dd_X11_row 10 rfl) rfl (fun v4 h5 => ?_)
    refine x_if_eq (tgt := 30) (p' := 24) hC (dAt dd_X11_row 11 rfl) (by decide) rfl ?_ ?_
    · refine x_ldc (v := (-1000001)) (p' := 32) hC (dAt dd_X11_row 15 rfl) k_918 rfl ?_
      exact x_ireturn hC (dAt dd_X11_row 16 rfl)
    · refine x_iload_n (p' := 25) hC 3 (dAt dd_X11_row 12 rfl) rfl rfl rfl ?_
      refine x_bipush (v := 60) (p' := 27) hC (dAt dd_X11_row 13 rfl) (by decide) rfl ?_
      refine x_icmp_le (tgt := 33) (p' := 30) hC (dAt dd_X11_row 14 rfl) (by decide) rfl ?_ ?_
      · refine x_aload_n (p' := 34) hC 0 (dAt dd_X11_row 17 rfl) rfl rfl rfl ?_
        refine x_iconst (v := 0) (p' := 35) hC (dAt dd_X11_row 18 rfl) (by decide) rfl ?_
        refine x_putI (p' := 38) hC fk_RX11_7 tk_RX11 rfl rfl (Or.inl rfl) (dAt dd_X11_row 19 rfl) rfl (fun h6 => ?_)
        refine x_iload_n (p' := 39) hC 3 (dAt dd_X11_row 20 rfl) rfl rfl rfl ?_
        refine x_if_ge (tgt := 48) (p' := 42) hC (dAt dd_X11_row 21 rfl) (by decide) rfl ?_ ?_
        · refine x_aload_n (p' := 49) hC 0 (dAt dd_X11_row 26 rfl) rfl rfl rfl ?_
          refine x_getR (p' := 52) hC fk_RX11_17 rfl (dAt dd_X11_row 27 rfl) rfl (fun r7 => ?_)
          refine x_iload_n (p' := 53) hC 1 (dAt dd_X11_row 28 rfl) rfl rfl rfl ?_
          refine x_iload_n (p' := 54) hC 2 (dAt dd_X11_row 29 rfl) rfl rfl rfl ?_
          refine x_iastore (p' := 55) hC (dAt dd_X11_row 30 rfl) rfl (fun h8 => ?_)
          refine x_aload_n (p' := 56) hC 0 (dAt dd_X11_row 31 rfl) rfl rfl rfl ?_
          refine x_getR (p' := 59) hC fk_RX11_21 rfl (dAt dd_X11_row 32 rfl) rfl (fun r9 => ?_)
          refine x_iload_n (p' := 60) hC 1 (dAt dd_X11_row 33 rfl) rfl rfl rfl ?_
          refine x_iload_n (p' := 61) hC 3 (dAt dd_X11_row 34 rfl) rfl rfl rfl ?_
          refine x_iastore (p' := 62) hC (dAt dd_X11_row 35 rfl) rfl (fun h10 => ?_)
          refine x_iconst (v := 0) (p' := 63) hC (dAt dd_X11_row 36 rfl) (by decide) rfl ?_
          refine x_istore (lv' := [(4, .int 0), (0, va_rf (some a0)), (1, .int p1), (2, .int p2), (3, .int p3)]) (p' := 65) hC (dAt dd_X11_row 37 rfl) (by decide) rfl rfl ?_
          refine x_sub [1, 2, 4, 0] rfl ?_
          exact t_X11_row_L65 hC FU a0 p1 p3 0 h10
        · refine x_aload_n (p' := 43) hC 0 (dAt dd_X11_row 22 rfl) rfl rfl rfl ?_
          refine x_iconst (v := 4) (p' := 44) hC (dAt dd_X11_row 23 rfl) (by decide) rfl ?_
          refine x_callVI (As := [.int 4]) (z := fun b => f_X11_found h6 b 4) (p' := 47) hC (fun b => c_X11_found _ _ _ h6 b 4) k_919 k_921 (k_sl 36 rfl) k_9 k_922 hd_X11_found ⟨by decide, by decide⟩ (ci := 10) rfl rfl (by decide) rfl (Nat.le_of_ble_eq_true rfl) rfl (dAt dd_X11_row 24 rfl) rfl (fun v13 h14 => ?_)
          exact x_ireturn hC (dAt dd_X11_row 25 rfl)
      · refine x_ldc (v := (-1000001)) (p' := 32) hC (dAt dd_X11_row 15 rfl) k_918 rfl ?_
        exact x_ireturn hC (dAt dd_X11_row 16 rfl)
set_option maxHeartbeats 4000000 in
set_option maxRecDepth 100000 in
theorem t_X11_set_J99 {C : CT} (hC : OKC C yX11_set cX11_set 4 (some .int) 2 45)   : ∀ (x0 : Nat) (x1 : Int32) (x2 : Int32) (s0 : Int32) (s1 : Int32) (s2 : Option Nat) (h : AH), WX rvI C 99 [(0, va_rf (some x0)), (1, .int x1), (2, .int x2)] [.int s0, .int s1, va_rf s2] h (f_X11_set_J99 x0 x1 x2 s0 s1 s2 h) := by
  intro x0 x1 x2 s0 s1 s2 h
  unfold f_X11_set_J99
  refine x_iastore (p' := 100) hC (dAt dd_X11_set 61 rfl) rfl (fun h16 => ?_)
  refine x_aload_n (p' := 101) hC 0 (dAt dd_X11_set 62 rfl) rfl rfl rfl ?_
  refine x_getR (p' := 104) hC fk_RX11_24 rfl (dAt dd_X11_set 63 rfl) rfl (fun r17 => ?_)
  refine x_bipush (v := 60) (p' := 106) hC (dAt dd_X11_set 64 rfl) (by decide) rfl ?_
  refine x_iload_n (p' := 107) hC 1 (dAt dd_X11_set 65 rfl) rfl rfl rfl ?_
  refine x_imul (p' := 108) hC (dAt dd_X11_set 66 rfl) rfl ?_
  refine x_iload_n (p' := 109) hC 2 (dAt dd_X11_set 67 rfl) rfl rfl rfl ?_
  refine x_iadd (p' := 110) hC (dAt dd_X11_set 68 rfl) rfl ?_
  refine x_iaload (p' := 111) hC (dAt dd_X11_set 69 rfl) rfl (fun v18 => ?_)
  exact x_ireturn hC (dAt dd_X11_set 70 rfl)
set_option maxHeartbeats 4000000 in
set_option maxRecDepth 100000 in
theorem c_X11_set (l : Launch) (D : va_G) (cy : Nat → ClassId) (h : AH) (a0 : Nat) (p1 : Int32) (p2 : Int32) (p3 : Int32) : MX rvI l yX11_set (Cond.code yX11_set cX11_set 4 (some .int) :: LW) 2 45 D cy h [va_rf (some a0), .int p1, .int p2, .int p3] (f_X11_set h a0 p1 p2 p3) := by
  refine MX.of (lv := [(0, va_rf (some a0)), (1, .int p1), (2, .int p2), (3, .int p3)]) (by decide) (Nat.le_of_ble_eq_true rfl) rfl (fun C hC _ => ?_)
  unfold f_X11_set
  refine x_aload_n (p' := 1) hC 0 (dAt dd_X11_set 0 rfl) rfl rfl rfl ?_
  refine x_iconst (v := 0) (p' := 2) hC (dAt dd_X11_set 1 rfl) (by decide) rfl ?_
  refine x_putI (p' := 5) hC fk_RX11_1 tk_RX11 rfl rfl (Or.inl rfl) (dAt dd_X11_set 2 rfl) rfl (fun h1 => ?_)
  refine x_iload_n (p' := 6) hC 1 (dAt dd_X11_set 3 rfl) rfl rfl rfl ?_
  refine x_callSI (As := [.int p1]) (p' := 9) hC (c_X11_isRow _ _ _ h1 p1) k_910 k_911 k_9 k_912 hd_X11_isRow ⟨by decide, by decide⟩ rfl (Nat.le_of_ble_eq_true rfl) rfl (dAt dd_X11_set 4 rfl) rfl (fun v2 h3 => ?_)
  refine x_if_ne (tgt := 15) (p' := 12) hC (dAt dd_X11_set 5 rfl) (by decide) rfl ?_ ?_
  · refine x_aload_n (p' := 16) hC 0 (dAt dd_X11_set 8 rfl) rfl rfl rfl ?_
    refine x_iconst (v := 0) (p' := 17) hC (dAt dd_X11_set 9 rfl) (by decide) rfl ?_
    refine x_putI (p' := 20) hC fk_RX11_7 tk_RX11 rfl rfl (Or.inl rfl) (dAt dd_X11_set 10 rfl) rfl (fun h4 => ?_)
    refine x_aload_n (p' := 21) hC 0 (dAt dd_X11_set 11 rfl) rfl rfl rfl ?_
    refine x_getR (p' := 24) hC fk_RX11_17 rfl (dAt dd_X11_set 12 rfl) rfl (fun r5 => ?_)
    refine x_iload_n (p' := 25) hC 1 (dAt dd_X11_set 13 rfl) rfl rfl rfl ?_
    refine x_iaload (p' := 26) hC (dAt dd_X11_set 14 rfl) rfl (fun v6 => ?_)
    refine x_if_ge (tgt := 35) (p' := 29) hC (dAt dd_X11_set 15 rfl) (by decide) rfl ?_ ?_
    · refine x_iload_n (p' := 36) hC 2 (dAt dd_X11_set 20 rfl) rfl rfl rfl ?_
      refine x_i2l (p' := 37) hC (dAt dd_X11_set 21 rfl) rfl ?_
      refine x_lconst (v := 0) (p' := 38) hC (dAt dd_X11_set 22 rfl) (by decide) rfl ?_
      refine x_aload_n (p' := 39) hC 0 (dAt dd_X11_set 23 rfl) rfl rfl rfl ?_
      refine x_getR (p' := 42) hC fk_RX11_21 rfl (dAt dd_X11_set 24 rfl) rfl (fun r7 => ?_)
      refine x_iload_n (p' := 43) hC 1 (dAt dd_X11_set 25 rfl) rfl rfl rfl ?_
      refine x_iaload (p' := 44) hC (dAt dd_X11_set 26 rfl) rfl (fun v8 => ?_)
      refine x_iconst (v := 1) (p' := 45) hC (dAt dd_X11_set 27 rfl) (by decide) rfl ?_
      refine x_isub (p' := 46) hC (dAt dd_X11_set 28 rfl) rfl ?_
      refine x_i2l (p' := 47) hC (dAt dd_X11_set 29 rfl) rfl ?_
      refine x_callSI (As := [.long (Int32.toInt64 p2), .long 0, .long (Int32.toInt64 (v8 - 1))]) (p' := 50) hC (c_X11_in _ _ _ h4 (Int32.toInt64 p2) 0 (Int32.toInt64 (v8 - 1))) k_914 k_915 k_9 k_916 hd_X11_in ⟨by decide, by decide⟩ rfl (Nat.le_of_ble_eq_true rfl) rfl (dAt dd_X11_set 30 rfl) rfl (fun v9 h10 => ?_)
      refine x_if_ne (tgt := 59) (p' := 53) hC (dAt dd_X11_set 31 rfl) (by decide) rfl ?_ ?_
      · refine x_aload_n (p' := 60) hC 0 (dAt dd_X11_set 36 rfl) rfl rfl rfl ?_
        refine x_getR (p' := 63) hC fk_RX11_24 rfl (dAt dd_X11_set 37 rfl) rfl (fun r11 => ?_)
        refine x_bipush (v := 60) (p' := 65) hC (dAt dd_X11_set 38 rfl) (by decide) rfl ?_
        refine x_iload_n (p' := 66) hC 1 (dAt dd_X11_set 39 rfl) rfl rfl rfl ?_
        refine x_imul (p' := 67) hC (dAt dd_X11_set 40 rfl) rfl ?_
        refine x_iload_n (p' := 68) hC 2 (dAt dd_X11_set 41 rfl) rfl rfl rfl ?_
        refine x_iadd (p' := 69) hC (dAt dd_X11_set 42 rfl) rfl ?_
        refine x_aload_n (p' := 70) hC 0 (dAt dd_X11_set 43 rfl) rfl rfl rfl ?_
        refine x_getR (p' := 73) hC fk_RX11_17 rfl (dAt dd_X11_set 44 rfl) rfl (fun r12 => ?_)
        refine x_iload_n (p' := 74) hC 1 (dAt dd_X11_set 45 rfl) rfl rfl rfl ?_
        refine x_iaload (p' := 75) hC (dAt dd_X11_set 46 rfl) rfl (fun v13 => ?_)
        refine x_if_ne (tgt := 83) (p' := 78) hC (dAt dd_X11_set 47 rfl) (by decide) rfl ?_ ?_
        · refine x_aload_n (p' := 84) hC 0 (dAt dd_X11_set 51 rfl) rfl rfl rfl ?_
          refine x_getR (p' := 87) hC fk_RX11_17 rfl (dAt dd_X11_set 52 rfl) rfl (fun r14 => ?_)
          refine x_iload_n (p' := 88) hC 1 (dAt dd_X11_set 53 rfl) rfl rfl rfl ?_
          refine x_iaload (p' := 89) hC (dAt dd_X11_set 54 rfl) rfl (fun v15 => ?_)
          refine x_iconst (v := 1) (p' := 90) hC (dAt dd_X11_set 55 rfl) (by decide) rfl ?_
          refine x_icmp_ne (tgt := 98) (p' := 93) hC (dAt dd_X11_set 56 rfl) (by decide) rfl ?_ ?_
          · refine x_iload_n (p' := 99) hC 3 (dAt dd_X11_set 60 rfl) rfl rfl rfl ?_
            refine x_sub [0, 1, 2] rfl ?_
            exact t_X11_set_J99 hC a0 p1 p2 p3 ((60 * p1) + p2) r11 h10
          · refine x_iload_n (p' := 94) hC 3 (dAt dd_X11_set 57 rfl) rfl rfl rfl ?_
            refine x_i2s (p' := 95) hC (dAt dd_X11_set 58 rfl) rfl ?_
            refine x_goto (tgt := 99) hC (dAt dd_X11_set 59 rfl) (by decide) ?_
            refine x_sub [0, 1, 2] rfl ?_
            exact t_X11_set_J99 hC a0 p1 p2 (Int16.toInt32 (Int32.toInt16 p3)) ((60 * p1) + p2) r11 h10
        · refine x_iload_n (p' := 79) hC 3 (dAt dd_X11_set 48 rfl) rfl rfl rfl ?_
          refine x_i2b (p' := 80) hC (dAt dd_X11_set 49 rfl) rfl ?_
          refine x_goto (tgt := 99) hC (dAt dd_X11_set 50 rfl) (by decide) ?_
          refine x_sub [0, 1, 2] rfl ?_
          exact t_X11_set_J99 hC a0 p1 p2 (Int8.toInt32 (Int32.toInt8 p3)) ((60 * p1) + p2) r11 h10
      · refine x_aload_n (p' := 54) hC 0 (dAt dd_X11_set 32 rfl) rfl rfl rfl ?_
        refine x_iconst (v := 2) (p' := 55) hC (dAt dd_X11_set 33 rfl) (by decide) rfl ?_
        refine x_callVI (As := [.int 2]) (z := fun b => f_X11_found h10 b 2) (p' := 58) hC (fun b => c_X11_found _ _ _ h10 b 2) k_919 k_921 (k_sl 36 rfl) k_9 k_922 hd_X11_found ⟨by decide, by decide⟩ (ci := 10) rfl rfl (by decide) rfl (Nat.le_of_ble_eq_true rfl) rfl (dAt dd_X11_set 34 rfl) rfl (fun v19 h20 => ?_)
        exact x_ireturn hC (dAt dd_X11_set 35 rfl)
    · refine x_aload_n (p' := 30) hC 0 (dAt dd_X11_set 16 rfl) rfl rfl rfl ?_
      refine x_iconst (v := 1) (p' := 31) hC (dAt dd_X11_set 17 rfl) (by decide) rfl ?_
      refine x_callVI (As := [.int 1]) (z := fun b => f_X11_found h4 b 1) (p' := 34) hC (fun b => c_X11_found _ _ _ h4 b 1) k_919 k_921 (k_sl 36 rfl) k_9 k_922 hd_X11_found ⟨by decide, by decide⟩ (ci := 10) rfl rfl (by decide) rfl (Nat.le_of_ble_eq_true rfl) rfl (dAt dd_X11_set 18 rfl) rfl (fun v21 h22 => ?_)
      exact x_ireturn hC (dAt dd_X11_set 19 rfl)
  · refine x_ldc (v := (-1000001)) (p' := 14) hC (dAt dd_X11_set 6 rfl) k_918 rfl ?_
    exact x_ireturn hC (dAt dd_X11_set 7 rfl)
set_option maxHeartbeats 4000000 in
set_option maxRecDepth 100000 in
theorem t_X11_copy_J45 {C : CT} (hC : OKC C yX11_copy cX11_copy 9 (some .int) 2 45)   : ∀ (x0 : Nat) (h : AH), WX rvI C 45 [(0, va_rf (some x0))] [] h (f_X11_copy_J45 x0 h) := by
  intro x0 h
  unfold f_X11_copy_J45
  refine x_aload_n (p' := 46) hC 0 (dAt dd_X11_copy 24 rfl) rfl rfl rfl ?_
  refine x_iconst (v := 1) (p' := 47) hC (dAt dd_X11_copy 25 rfl) (by decide) rfl ?_
  refine x_callVI (As := [.int 1]) (z := fun b => f_X11_found h b 1) (p' := 50) hC (fun b => c_X11_found _ _ _ h b 1) k_919 k_921 (k_sl 36 rfl) k_9 k_922 hd_X11_found ⟨by decide, by decide⟩ (ci := 10) rfl rfl (by decide) rfl (Nat.le_of_ble_eq_true rfl) rfl (dAt dd_X11_copy 26 rfl) rfl (fun v9 h10 => ?_)
  exact x_ireturn hC (dAt dd_X11_copy 27 rfl)
set_option maxHeartbeats 4000000 in
set_option maxRecDepth 100000 in
theorem t_X11_copy_J121 {C : CT} (hC : OKC C yX11_copy cX11_copy 9 (some .int) 2 45)   : ∀ (x0 : Nat) (h : AH), WX rvI C 121 [(0, va_rf (some x0))] [] h (f_X11_copy_J121 x0 h) := by
  intro x0 h
  unfold f_X11_copy_J121
  refine x_aload_n (p' := 122) hC 0 (dAt dd_X11_copy 71 rfl) rfl rfl rfl ?_
  refine x_iconst (v := 2) (p' := 123) hC (dAt dd_X11_copy 72 rfl) (by decide) rfl ?_
  refine x_callVI (As := [.int 2]) (z := fun b => f_X11_found h b 2) (p' := 126) hC (fun b => c_X11_found _ _ _ h b 2) k_919 k_921 (k_sl 36 rfl) k_9 k_922 hd_X11_found ⟨by decide, by decide⟩ (ci := 10) rfl rfl (by decide) rfl (Nat.le_of_ble_eq_true rfl) rfl (dAt dd_X11_copy 73 rfl) rfl (fun v17 h18 => ?_)
  exact x_ireturn hC (dAt dd_X11_copy 74 rfl)
set_option maxHeartbeats 4000000 in
set_option maxRecDepth 100000 in
theorem t_X11_copy_J167 {C : CT} (hC : OKC C yX11_copy cX11_copy 9 (some .int) 2 45) (k143 : Nat → Int32 → Int32 → Int32 → Int32 → Int32 → Int32 → Int32 → AH → RX Int32) (hk143 : ∀ (x0 : Nat) (x1 : Int32) (x2 : Int32) (x3 : Int32) (x4 : Int32) (x5 : Int32) (x6 : Int32) (x7 : Int32) (h : AH), WX rvI C 143 [(0, va_rf (some x0)), (1, .int x1), (2, .int x2), (3, .int x3), (4, .int x4), (5, .int x5), (6, .int x6), (7, .int x7)] [] h (k143 x0 x1 x2 x3 x4 x5 x6 x7 h)) : ∀ (x0 : Nat) (x1 : Int32) (x2 : Int32) (x3 : Int32) (x4 : Int32) (x5 : Int32) (x6 : Int32) (x7 : Int32) (s0 : Int32) (h : AH), WX rvI C 167 [(0, va_rf (some x0)), (1, .int x1), (2, .int x2), (3, .int x3), (4, .int x4), (5, .int x5), (6, .int x6), (7, .int x7)] [.int s0] h (f_X11_copy_J167 k143 x0 x1 x2 x3 x4 x5 x6 x7 s0 h) := by
  intro x0 x1 x2 x3 x4 x5 x6 x7 s0 h
  unfold f_X11_copy_J167
  refine x_istore (lv' := [(8, .int s0), (0, va_rf (some x0)), (1, .int x1), (2, .int x2), (3, .int x3), (4, .int x4), (5, .int x5), (6, .int x6), (7, .int x7)]) (p' := 169) hC (dAt dd_X11_copy 96 rfl) (by decide) rfl rfl ?_
  refine x_aload_n (p' := 170) hC 1 (dAt dd_X11_copy 97 rfl) rfl rfl rfl ?_
  refine x_getR (p' := 173) hC fk_RX11_24 rfl (dAt dd_X11_copy 98 rfl) rfl (fun r23 => ?_)
  refine x_bipush (v := 60) (p' := 175) hC (dAt dd_X11_copy 99 rfl) (by decide) rfl ?_
  refine x_iload_n (p' := 176) hC 4 (dAt dd_X11_copy 100 rfl) rfl rfl rfl ?_
  refine x_imul (p' := 177) hC (dAt dd_X11_copy 101 rfl) rfl ?_
  refine x_iload (p' := 179) hC 5 (dAt dd_X11_copy 102 rfl) rfl rfl ?_
  refine x_iadd (p' := 180) hC (dAt dd_X11_copy 103 rfl) rfl ?_
  refine x_iload (p' := 182) hC 0 (dAt dd_X11_copy 104 rfl) rfl rfl ?_
  refine x_iadd (p' := 183) hC (dAt dd_X11_copy 105 rfl) rfl ?_
  refine x_aload_n (p' := 184) hC 1 (dAt dd_X11_copy 106 rfl) rfl rfl rfl ?_
  refine x_getR (p' := 187) hC fk_RX11_24 rfl (dAt dd_X11_copy 107 rfl) rfl (fun r24 => ?_)
  refine x_bipush (v := 60) (p' := 189) hC (dAt dd_X11_copy 108 rfl) (by decide) rfl ?_
  refine x_iload_n (p' := 190) hC 2 (dAt dd_X11_copy 109 rfl) rfl rfl rfl ?_
  refine x_imul (p' := 191) hC (dAt dd_X11_copy 110 rfl) rfl ?_
  refine x_iload_n (p' := 192) hC 3 (dAt dd_X11_copy 111 rfl) rfl rfl rfl ?_
  refine x_iadd (p' := 193) hC (dAt dd_X11_copy 112 rfl) rfl ?_
  refine x_iload (p' := 195) hC 0 (dAt dd_X11_copy 113 rfl) rfl rfl ?_
  refine x_iadd (p' := 196) hC (dAt dd_X11_copy 114 rfl) rfl ?_
  refine x_iaload (p' := 197) hC (dAt dd_X11_copy 115 rfl) rfl (fun v25 => ?_)
  refine x_iastore (p' := 198) hC (dAt dd_X11_copy 116 rfl) rfl (fun h26 => ?_)
  refine x_iinc (w := (x7 + 1)) (lv' := [(7, .int (x7 + 1)), (8, .int s0), (0, va_rf (some x0)), (1, .int x1), (2, .int x2), (3, .int x3), (4, .int x4), (5, .int x5), (6, .int x6)]) (p' := 201) hC 8 (dAt dd_X11_copy 117 rfl) rfl rfl (by decide) rfl rfl ?_
  refine x_goto (tgt := 143) hC (dAt dd_X11_copy 118 rfl) (by decide) ?_
  refine x_sub [2, 3, 4, 5, 6, 7, 8, 0] rfl ?_
  exact hk143 x0 x1 x2 x3 x4 x5 x6 (x7 + 1) h26
set_option maxHeartbeats 4000000 in
set_option maxRecDepth 100000 in
theorem t_X11_copy_L143 {C : CT} (hC : OKC C yX11_copy cX11_copy 9 (some .int) 2 45)   : ∀ (n : Nat) (x0 : Nat) (x1 : Int32) (x2 : Int32) (x3 : Int32) (x4 : Int32) (x5 : Int32) (x6 : Int32) (x7 : Int32) (h : AH), WX rvI C 143 [(0, va_rf (some x0)), (1, .int x1), (2, .int x2), (3, .int x3), (4, .int x4), (5, .int x5), (6, .int x6), (7, .int x7)] [] h (f_X11_copy_L143 n x0 x1 x2 x3 x4 x5 x6 x7 h) := by
  intro n
  induction n with
  | zero => intro _ _ _ _ _ _ _ _ _; exact x_none
  | succ n ih =>
    intro x0 x1 x2 x3 x4 x5 x6 x7 h
    rw [f_X11_copy_L143]
    refine x_iload (p' := 145) hC 7 (dAt dd_X11_copy 84 rfl) rfl rfl ?_
    refine x_iload (p' := 147) hC 5 (dAt dd_X11_copy 85 rfl) rfl rfl ?_
    refine x_icmp_ge (tgt := 204) (p' := 150) hC (dAt dd_X11_copy 86 rfl) (by decide) rfl ?_ ?_
    · refine x_iload (p' := 206) hC 5 (dAt dd_X11_copy 119 rfl) rfl rfl ?_
      exact x_ireturn hC (dAt dd_X11_copy 120 rfl)
    · refine x_iload (p' := 152) hC 6 (dAt dd_X11_copy 87 rfl) rfl rfl ?_
      refine x_if_eq (tgt := 160) (p' := 155) hC (dAt dd_X11_copy 88 rfl) (by decide) rfl ?_ ?_
      · refine x_iload (p' := 162) hC 5 (dAt dd_X11_copy 91 rfl) rfl rfl ?_
        refine x_iconst (v := 1) (p' := 163) hC (dAt dd_X11_copy 92 rfl) (by decide) rfl ?_
        refine x_isub (p' := 164) hC (dAt dd_X11_copy 93 rfl) rfl ?_
        refine x_iload (p' := 166) hC 7 (dAt dd_X11_copy 94 rfl) rfl rfl ?_
        refine x_isub (p' := 167) hC (dAt dd_X11_copy 95 rfl) rfl ?_
        exact t_X11_copy_J167 hC (f_X11_copy_L143 n) ih x0 x1 x2 x3 x4 x5 x6 x7 ((x5 - 1) - x7) h
      · refine x_iload (p' := 157) hC 7 (dAt dd_X11_copy 89 rfl) rfl rfl ?_
        refine x_goto (tgt := 167) hC (dAt dd_X11_copy 90 rfl) (by decide) ?_
        exact t_X11_copy_J167 hC (f_X11_copy_L143 n) ih x0 x1 x2 x3 x4 x5 x6 x7 x7 h
set_option maxHeartbeats 4000000 in
set_option maxRecDepth 100000 in
theorem c_X11_copy (l : Launch) (D : va_G) (cy : Nat → ClassId) (h : AH) (a0 : Nat) (p1 : Int32) (p2 : Int32) (p3 : Int32) (p4 : Int32) (p5 : Int32) : MX rvI l yX11_copy (Cond.code yX11_copy cX11_copy 9 (some .int) :: LW) 2 45 D cy h [va_rf (some a0), .int p1, .int p2, .int p3, .int p4, .int p5] (f_X11_copy h a0 p1 p2 p3 p4 p5) := by
  refine MX.of (lv := [(0, va_rf (some a0)), (1, .int p1), (2, .int p2), (3, .int p3), (4, .int p4), (5, .int p5)]) (by decide) (Nat.le_of_ble_eq_true rfl) rfl (fun C hC _ => ?_)
  unfold f_X11_copy
  refine x_aload_n (p' := 1) hC 0 (dAt dd_X11_copy 0 rfl) rfl rfl rfl ?_
  refine x_iconst (v := 0) (p' := 2) hC (dAt dd_X11_copy 1 rfl) (by decide) rfl ?_
  refine x_putI (p' := 5) hC fk_RX11_1 tk_RX11 rfl rfl (Or.inl rfl) (dAt dd_X11_copy 2 rfl) rfl (fun h1 => ?_)
  refine x_iload_n (p' := 6) hC 1 (dAt dd_X11_copy 3 rfl) rfl rfl rfl ?_
  refine x_callSI (As := [.int p1]) (p' := 9) hC (c_X11_isRow _ _ _ h1 p1) k_910 k_911 k_9 k_912 hd_X11_isRow ⟨by decide, by decide⟩ rfl (Nat.le_of_ble_eq_true rfl) rfl (dAt dd_X11_copy 4 rfl) rfl (fun v2 h3 => ?_)
  refine x_if_eq (tgt := 19) (p' := 12) hC (dAt dd_X11_copy 5 rfl) (by decide) rfl ?_ ?_
  · refine x_ldc (v := (-1000001)) (p' := 21) hC (dAt dd_X11_copy 9 rfl) k_918 rfl ?_
    exact x_ireturn hC (dAt dd_X11_copy 10 rfl)
  · refine x_iload_n (p' := 13) hC 3 (dAt dd_X11_copy 6 rfl) rfl rfl rfl ?_
    refine x_callSI (As := [.int p3]) (p' := 16) hC (c_X11_isRow _ _ _ h3 p3) k_910 k_911 k_9 k_912 hd_X11_isRow ⟨by decide, by decide⟩ rfl (Nat.le_of_ble_eq_true rfl) rfl (dAt dd_X11_copy 7 rfl) rfl (fun v4 h5 => ?_)
    refine x_if_ne (tgt := 22) (p' := 19) hC (dAt dd_X11_copy 8 rfl) (by decide) rfl ?_ ?_
    · refine x_aload_n (p' := 23) hC 0 (dAt dd_X11_copy 11 rfl) rfl rfl rfl ?_
      refine x_iconst (v := 0) (p' := 24) hC (dAt dd_X11_copy 12 rfl) (by decide) rfl ?_
      refine x_putI (p' := 27) hC fk_RX11_7 tk_RX11 rfl rfl (Or.inl rfl) (dAt dd_X11_copy 13 rfl) rfl (fun h6 => ?_)
      refine x_aload_n (p' := 28) hC 0 (dAt dd_X11_copy 14 rfl) rfl rfl rfl ?_
      refine x_getR (p' := 31) hC fk_RX11_17 rfl (dAt dd_X11_copy 15 rfl) rfl (fun r7 => ?_)
      refine x_iload_n (p' := 32) hC 1 (dAt dd_X11_copy 16 rfl) rfl rfl rfl ?_
      refine x_iaload (p' := 33) hC (dAt dd_X11_copy 17 rfl) rfl (fun v8 => ?_)
      refine x_if_lt (tgt := 45) (p' := 36) hC (dAt dd_X11_copy 18 rfl) (by decide) rfl ?_ ?_
      · refine x_sub [0] rfl ?_
        exact t_X11_copy_J45 hC a0 h6
      · refine x_aload_n (p' := 37) hC 0 (dAt dd_X11_copy 19 rfl) rfl rfl rfl ?_
        refine x_getR (p' := 40) hC fk_RX11_17 rfl (dAt dd_X11_copy 20 rfl) rfl (fun r11 => ?_)
        refine x_iload_n (p' := 41) hC 3 (dAt dd_X11_copy 21 rfl) rfl rfl rfl ?_
        refine x_iaload (p' := 42) hC (dAt dd_X11_copy 22 rfl) rfl (fun v12 => ?_)
        refine x_if_ge (tgt := 51) (p' := 45) hC (dAt dd_X11_copy 23 rfl) (by decide) rfl ?_ ?_
        · refine x_aload_n (p' := 52) hC 0 (dAt dd_X11_copy 28 rfl) rfl rfl rfl ?_
          refine x_getR (p' := 55) hC fk_RX11_17 rfl (dAt dd_X11_copy 29 rfl) rfl (fun r13 => ?_)
          refine x_iload_n (p' := 56) hC 1 (dAt dd_X11_copy 30 rfl) rfl rfl rfl ?_
          refine x_iaload (p' := 57) hC (dAt dd_X11_copy 31 rfl) rfl (fun v14 => ?_)
          refine x_aload_n (p' := 58) hC 0 (dAt dd_X11_copy 32 rfl) rfl rfl rfl ?_
          refine x_getR (p' := 61) hC fk_RX11_17 rfl (dAt dd_X11_copy 33 rfl) rfl (fun r15 => ?_)
          refine x_iload_n (p' := 62) hC 3 (dAt dd_X11_copy 34 rfl) rfl rfl rfl ?_
          refine x_iaload (p' := 63) hC (dAt dd_X11_copy 35 rfl) rfl (fun v16 => ?_)
          refine x_icmp_eq (tgt := 72) (p' := 66) hC (dAt dd_X11_copy 36 rfl) (by decide) rfl ?_ ?_
          · refine x_iload_n (p' := 73) hC 2 (dAt dd_X11_copy 41 rfl) rfl rfl rfl ?_
            refine x_if_lt (tgt := 121) (p' := 76) hC (dAt dd_X11_copy 42 rfl) (by decide) rfl ?_ ?_
            · refine x_sub [0] rfl ?_
              exact t_X11_copy_J121 hC a0 h6
            · refine x_iload (p' := 78) hC 4 (dAt dd_X11_copy 43 rfl) rfl rfl ?_
              refine x_if_lt (tgt := 121) (p' := 81) hC (dAt dd_X11_copy 44 rfl) (by decide) rfl ?_ ?_
              · refine x_sub [0] rfl ?_
                exact t_X11_copy_J121 hC a0 h6
              · refine x_iload (p' := 83) hC 5 (dAt dd_X11_copy 45 rfl) rfl rfl ?_
                refine x_if_lt (tgt := 121) (p' := 86) hC (dAt dd_X11_copy 46 rfl) (by decide) rfl ?_ ?_
                · refine x_sub [0] rfl ?_
                  exact t_X11_copy_J121 hC a0 h6
                · refine x_iload_n (p' := 87) hC 2 (dAt dd_X11_copy 47 rfl) rfl rfl rfl ?_
                  refine x_i2l (p' := 88) hC (dAt dd_X11_copy 48 rfl) rfl ?_
                  refine x_iload (p' := 90) hC 5 (dAt dd_X11_copy 49 rfl) rfl rfl ?_
                  refine x_i2l (p' := 91) hC (dAt dd_X11_copy 50 rfl) rfl ?_
                  refine x_ladd (p' := 92) hC (dAt dd_X11_copy 51 rfl) rfl ?_
                  refine x_aload_n (p' := 93) hC 0 (dAt dd_X11_copy 52 rfl) rfl rfl rfl ?_
                  refine x_getR (p' := 96) hC fk_RX11_21 rfl (dAt dd_X11_copy 53 rfl) rfl (fun r19 => ?_)
                  refine x_iload_n (p' := 97) hC 1 (dAt dd_X11_copy 54 rfl) rfl rfl rfl ?_
                  refine x_iaload (p' := 98) hC (dAt dd_X11_copy 55 rfl) rfl (fun v20 => ?_)
                  refine x_i2l (p' := 99) hC (dAt dd_X11_copy 56 rfl) rfl ?_
                  refine x_lcmp (p' := 100) hC (dAt dd_X11_copy 57 rfl) rfl ?_
                  refine x_if_gt (tgt := 121) (p' := 103) hC (dAt dd_X11_copy 58 rfl) (by decide) rfl ?_ ?_
                  · refine x_sub [0] rfl ?_
                    exact t_X11_copy_J121 hC a0 h6
                  · refine x_iload (p' := 105) hC 4 (dAt dd_X11_copy 59 rfl) rfl rfl ?_
                    refine x_i2l (p' := 106) hC (dAt dd_X11_copy 60 rfl) rfl ?_
                    refine x_iload (p' := 108) hC 5 (dAt dd_X11_copy 61 rfl) rfl rfl ?_
                    refine x_i2l (p' := 109) hC (dAt dd_X11_copy 62 rfl) rfl ?_
                    refine x_ladd (p' := 110) hC (dAt dd_X11_copy 63 rfl) rfl ?_
                    refine x_aload_n (p' := 111) hC 0 (dAt dd_X11_copy 64 rfl) rfl rfl rfl ?_
                    refine x_getR (p' := 114) hC fk_RX11_21 rfl (dAt dd_X11_copy 65 rfl) rfl (fun r21 => ?_)
                    refine x_iload_n (p' := 115) hC 3 (dAt dd_X11_copy 66 rfl) rfl rfl rfl ?_
                    refine x_iaload (p' := 116) hC (dAt dd_X11_copy 67 rfl) rfl (fun v22 => ?_)
                    refine x_i2l (p' := 117) hC (dAt dd_X11_copy 68 rfl) rfl ?_
                    refine x_lcmp (p' := 118) hC (dAt dd_X11_copy 69 rfl) rfl ?_
                    refine x_if_le (tgt := 127) (p' := 121) hC (dAt dd_X11_copy 70 rfl) (by decide) rfl ?_ ?_
                    · refine x_iload_n (p' := 128) hC 2 (dAt dd_X11_copy 75 rfl) rfl rfl rfl ?_
                      refine x_iload (p' := 130) hC 4 (dAt dd_X11_copy 76 rfl) rfl rfl ?_
                      refine x_icmp_lt (tgt := 137) (p' := 133) hC (dAt dd_X11_copy 77 rfl) (by decide) rfl ?_ ?_
                      · refine x_iconst (v := 0) (p' := 138) hC (dAt dd_X11_copy 80 rfl) (by decide) rfl ?_
                        refine x_istore (lv' := [(6, .int 0), (0, va_rf (some a0)), (1, .int p1), (2, .int p2), (3, .int p3), (4, .int p4), (5, .int p5)]) (p' := 140) hC (dAt dd_X11_copy 81 rfl) (by decide) rfl rfl ?_
                        refine x_iconst (v := 0) (p' := 141) hC (dAt dd_X11_copy 82 rfl) (by decide) rfl ?_
                        refine x_istore (lv' := [(7, .int 0), (6, .int 0), (0, va_rf (some a0)), (1, .int p1), (2, .int p2), (3, .int p3), (4, .int p4), (5, .int p5)]) (p' := 143) hC (dAt dd_X11_copy 83 rfl) (by decide) rfl rfl ?_
                        refine x_sub [2, 3, 4, 5, 6, 7, 1, 0] rfl ?_
                        exact t_X11_copy_L143 hC FU a0 p1 p2 p3 p4 p5 0 0 h6
                      · refine x_iconst (v := 1) (p' := 134) hC (dAt dd_X11_copy 78 rfl) (by decide) rfl ?_
                        refine x_goto (tgt := 138) hC (dAt dd_X11_copy 79 rfl) (by decide) ?_
                        refine x_istore (lv' := [(6, .int 1), (0, va_rf (some a0)), (1, .int p1), (2, .int p2), (3, .int p3), (4, .int p4), (5, .int p5)]) (p' := 140) hC (dAt dd_X11_copy 81 rfl) (by decide) rfl rfl ?_
                        refine x_iconst (v := 0) (p' := 141) hC (dAt dd_X11_copy 82 rfl) (by decide) rfl ?_
                        refine x_istore (lv' := [(7, .int 0), (6, .int 1), (0, va_rf (some a0)), (1, .int p1), (2, .int p2), (3, .int p3), (4, .int p4), (5, .int p5)]) (p' := 143) hC (dAt dd_X11_copy 83 rfl) (by decide) rfl rfl ?_
                        refine x_sub [2, 3, 4, 5, 6, 7, 1, 0] rfl ?_
                        exact t_X11_copy_L143 hC FU a0 p1 p2 p3 p4 p5 1 0 h6
                    · refine x_sub [0] rfl ?_
                      exact t_X11_copy_J121 hC a0 h6
          · refine x_aload_n (p' := 67) hC 0 (dAt dd_X11_copy 37 rfl) rfl rfl rfl ?_
            refine x_iconst (v := 5) (p' := 68) hC (dAt dd_X11_copy 38 rfl) (by decide) rfl ?_
            refine x_callVI (As := [.int 5]) (z := fun b => f_X11_found h6 b 5) (p' := 71) hC (fun b => c_X11_found _ _ _ h6 b 5) k_919 k_921 (k_sl 36 rfl) k_9 k_922 hd_X11_found ⟨by decide, by decide⟩ (ci := 10) rfl rfl (by decide) rfl (Nat.le_of_ble_eq_true rfl) rfl (dAt dd_X11_copy 39 rfl) rfl (fun v27 h28 => ?_)
            exact x_ireturn hC (dAt dd_X11_copy 40 rfl)
        · refine x_sub [0] rfl ?_
          exact t_X11_copy_J45 hC a0 h6
    · refine x_ldc (v := (-1000001)) (p' := 21) hC (dAt dd_X11_copy 9 rfl) k_918 rfl ?_
      exact x_ireturn hC (dAt dd_X11_copy 10 rfl)
set_option maxHeartbeats 4000000 in
set_option maxRecDepth 100000 in
theorem c_X11_drop (l : Launch) (D : va_G) (cy : Nat → ClassId) (h : AH) (a0 : Nat) (p1 : Int32) : MX rvI l yX11_drop (Cond.code yX11_drop cX11_drop 2 (some .int) :: LW) 2 45 D cy h [va_rf (some a0), .int p1] (f_X11_drop h a0 p1) := by
  refine MX.of (lv := [(0, va_rf (some a0)), (1, .int p1)]) (by decide) (Nat.le_of_ble_eq_true rfl) rfl (fun C hC _ => ?_)
  unfold f_X11_drop
  refine x_aload_n (p' := 1) hC 0 (dAt dd_X11_drop 0 rfl) rfl rfl rfl ?_
  refine x_iconst (v := 0) (p' := 2) hC (dAt dd_X11_drop 1 rfl) (by decide) rfl ?_
  refine x_putI (p' := 5) hC fk_RX11_1 tk_RX11 rfl rfl (Or.inl rfl) (dAt dd_X11_drop 2 rfl) rfl (fun h1 => ?_)
  refine x_iload_n (p' := 6) hC 1 (dAt dd_X11_drop 3 rfl) rfl rfl rfl ?_
  refine x_callSI (As := [.int p1]) (p' := 9) hC (c_X11_isRow _ _ _ h1 p1) k_910 k_911 k_9 k_912 hd_X11_isRow ⟨by decide, by decide⟩ rfl (Nat.le_of_ble_eq_true rfl) rfl (dAt dd_X11_drop 4 rfl) rfl (fun v2 h3 => ?_)
  refine x_if_ne (tgt := 15) (p' := 12) hC (dAt dd_X11_drop 5 rfl) (by decide) rfl ?_ ?_
  · refine x_aload_n (p' := 16) hC 0 (dAt dd_X11_drop 8 rfl) rfl rfl rfl ?_
    refine x_iconst (v := 0) (p' := 17) hC (dAt dd_X11_drop 9 rfl) (by decide) rfl ?_
    refine x_putI (p' := 20) hC fk_RX11_7 tk_RX11 rfl rfl (Or.inl rfl) (dAt dd_X11_drop 10 rfl) rfl (fun h4 => ?_)
    refine x_aload_n (p' := 21) hC 0 (dAt dd_X11_drop 11 rfl) rfl rfl rfl ?_
    refine x_getR (p' := 24) hC fk_RX11_17 rfl (dAt dd_X11_drop 12 rfl) rfl (fun r5 => ?_)
    refine x_iload_n (p' := 25) hC 1 (dAt dd_X11_drop 13 rfl) rfl rfl rfl ?_
    refine x_iaload (p' := 26) hC (dAt dd_X11_drop 14 rfl) rfl (fun v6 => ?_)
    refine x_if_ge (tgt := 35) (p' := 29) hC (dAt dd_X11_drop 15 rfl) (by decide) rfl ?_ ?_
    · refine x_aload_n (p' := 36) hC 0 (dAt dd_X11_drop 20 rfl) rfl rfl rfl ?_
      refine x_getR (p' := 39) hC fk_RX11_17 rfl (dAt dd_X11_drop 21 rfl) rfl (fun r7 => ?_)
      refine x_iload_n (p' := 40) hC 1 (dAt dd_X11_drop 22 rfl) rfl rfl rfl ?_
      refine x_iconst (v := (-1)) (p' := 41) hC (dAt dd_X11_drop 23 rfl) (by decide) rfl ?_
      refine x_iastore (p' := 42) hC (dAt dd_X11_drop 24 rfl) rfl (fun h8 => ?_)
      refine x_aload_n (p' := 43) hC 0 (dAt dd_X11_drop 25 rfl) rfl rfl rfl ?_
      refine x_getR (p' := 46) hC fk_RX11_21 rfl (dAt dd_X11_drop 26 rfl) rfl (fun r9 => ?_)
      refine x_iload_n (p' := 47) hC 1 (dAt dd_X11_drop 27 rfl) rfl rfl rfl ?_
      refine x_iaload (p' := 48) hC (dAt dd_X11_drop 28 rfl) rfl (fun v10 => ?_)
      exact x_ireturn hC (dAt dd_X11_drop 29 rfl)
    · refine x_aload_n (p' := 30) hC 0 (dAt dd_X11_drop 16 rfl) rfl rfl rfl ?_
      refine x_iconst (v := 1) (p' := 31) hC (dAt dd_X11_drop 17 rfl) (by decide) rfl ?_
      refine x_callVI (As := [.int 1]) (z := fun b => f_X11_found h4 b 1) (p' := 34) hC (fun b => c_X11_found _ _ _ h4 b 1) k_919 k_921 (k_sl 36 rfl) k_9 k_922 hd_X11_found ⟨by decide, by decide⟩ (ci := 10) rfl rfl (by decide) rfl (Nat.le_of_ble_eq_true rfl) rfl (dAt dd_X11_drop 18 rfl) rfl (fun v11 h12 => ?_)
      exact x_ireturn hC (dAt dd_X11_drop 19 rfl)
  · refine x_ldc (v := (-1000001)) (p' := 14) hC (dAt dd_X11_drop 6 rfl) k_918 rfl ?_
    exact x_ireturn hC (dAt dd_X11_drop 7 rfl)
set_option maxHeartbeats 4000000 in
set_option maxRecDepth 100000 in
theorem t_X11_isAnswer_J61 {C : CT} (hC : OKC C yX11_isAnswer cX11_isAnswer 7 (some .boolean) 1 25) (k18 : Option Nat → Int32 → Int32 → Int32 → Int32 → Int32 → AH → RX Int32) (hk18 : ∀ (x0 : Option Nat) (x1 : Int32) (x2 : Int32) (x3 : Int32) (x4 : Int32) (x5 : Int32) (h : AH), WX rvI C 18 [(0, va_rf x0), (1, .int x1), (2, .int x2), (3, .int x3), (4, .int x4), (5, .int x5)] [] h (k18 x0 x1 x2 x3 x4 x5 h)) : ∀ (x0 : Option Nat) (x1 : Int32) (x2 : Int32) (x5 : Int32) (x6 : Int32) (s0 : Int32) (s1 : Int32) (h : AH), WX rvI C 61 [(0, va_rf x0), (1, .int x1), (2, .int x2), (5, .int x5), (6, .int x6)] [.int s0, .int s1] h (f_X11_isAnswer_J61 k18 x0 x1 x2 x5 x6 s0 s1 h) := by
  intro x0 x1 x2 x5 x6 s0 s1 h
  unfold f_X11_isAnswer_J61
  refine x_iadd (p' := 62) hC (dAt dd_X11_isAnswer 34 rfl) rfl ?_
  refine x_istore_n (j := 3) (lv' := [(3, .int (s1 + s0)), (0, va_rf x0), (1, .int x1), (2, .int x2), (5, .int x5), (6, .int x6)]) (p' := 63) hC (dAt dd_X11_isAnswer 35 rfl) rfl (by decide) rfl rfl ?_
  refine x_iload (p' := 65) hC 5 (dAt dd_X11_isAnswer 36 rfl) rfl rfl ?_
  refine x_i2l (p' := 66) hC (dAt dd_X11_isAnswer 37 rfl) rfl ?_
  refine x_lconst (v := 0) (p' := 67) hC (dAt dd_X11_isAnswer 38 rfl) (by decide) rfl ?_
  refine x_ldc2_w (v := 121) (p' := 70) hC (dAt dd_X11_isAnswer 39 rfl) k_943 rfl ?_
  refine x_callSI (As := [.long (Int32.toInt64 x6), .long 0, .long 121]) (p' := 73) hC (c_X11_in _ _ _ h (Int32.toInt64 x6) 0 121) k_914 k_915 k_9 k_916 hd_X11_in ⟨by decide, by decide⟩ rfl (Nat.le_of_ble_eq_true rfl) rfl (dAt dd_X11_isAnswer 40 rfl) rfl (fun v2 h3 => ?_)
  refine x_if_eq (tgt := 84) (p' := 76) hC (dAt dd_X11_isAnswer 41 rfl) (by decide) rfl ?_ ?_
  · refine x_iconst (v := 0) (p' := 85) hC (dAt dd_X11_isAnswer 46 rfl) (by decide) rfl ?_
    refine x_istore (lv' := [(4, .int 0), (3, .int (s1 + s0)), (0, va_rf x0), (1, .int x1), (2, .int x2), (5, .int x5), (6, .int x6)]) (p' := 87) hC (dAt dd_X11_isAnswer 47 rfl) (by decide) rfl rfl ?_
    refine x_iinc (w := (x5 + 1)) (lv' := [(5, .int (x5 + 1)), (4, .int 0), (3, .int (s1 + s0)), (0, va_rf x0), (1, .int x1), (2, .int x2), (6, .int x6)]) (p' := 90) hC 5 (dAt dd_X11_isAnswer 48 rfl) rfl rfl (by decide) rfl rfl ?_
    refine x_goto (tgt := 18) hC (dAt dd_X11_isAnswer 49 rfl) (by decide) ?_
    refine x_sub [3, 4, 5, 2, 1, 0] rfl ?_
    exact hk18 x0 x1 x2 (s1 + s0) 0 (x5 + 1) h3
  · refine x_iload_n (p' := 77) hC 0 (dAt dd_X11_isAnswer 42 rfl) rfl rfl rfl ?_
    refine x_if_lt (tgt := 84) (p' := 80) hC (dAt dd_X11_isAnswer 43 rfl) (by decide) rfl ?_ ?_
    · refine x_iconst (v := 0) (p' := 85) hC (dAt dd_X11_isAnswer 46 rfl) (by decide) rfl ?_
      refine x_istore (lv' := [(4, .int 0), (3, .int (s1 + s0)), (0, va_rf x0), (1, .int x1), (2, .int x2), (5, .int x5), (6, .int x6)]) (p' := 87) hC (dAt dd_X11_isAnswer 47 rfl) (by decide) rfl rfl ?_
      refine x_iinc (w := (x5 + 1)) (lv' := [(5, .int (x5 + 1)), (4, .int 0), (3, .int (s1 + s0)), (0, va_rf x0), (1, .int x1), (2, .int x2), (6, .int x6)]) (p' := 90) hC 5 (dAt dd_X11_isAnswer 48 rfl) rfl rfl (by decide) rfl rfl ?_
      refine x_goto (tgt := 18) hC (dAt dd_X11_isAnswer 49 rfl) (by decide) ?_
      refine x_sub [3, 4, 5, 2, 1, 0] rfl ?_
      exact hk18 x0 x1 x2 (s1 + s0) 0 (x5 + 1) h3
    · refine x_iconst (v := 1) (p' := 81) hC (dAt dd_X11_isAnswer 44 rfl) (by decide) rfl ?_
      refine x_goto (tgt := 85) hC (dAt dd_X11_isAnswer 45 rfl) (by decide) ?_
      refine x_istore (lv' := [(4, .int 1), (3, .int (s1 + s0)), (0, va_rf x0), (1, .int x1), (2, .int x2), (5, .int x5), (6, .int x6)]) (p' := 87) hC (dAt dd_X11_isAnswer 47 rfl) (by decide) rfl rfl ?_
      refine x_iinc (w := (x5 + 1)) (lv' := [(5, .int (x5 + 1)), (4, .int 1), (3, .int (s1 + s0)), (0, va_rf x0), (1, .int x1), (2, .int x2), (6, .int x6)]) (p' := 90) hC 5 (dAt dd_X11_isAnswer 48 rfl) rfl rfl (by decide) rfl rfl ?_
      refine x_goto (tgt := 18) hC (dAt dd_X11_isAnswer 49 rfl) (by decide) ?_
      refine x_sub [3, 4, 5, 2, 1, 0] rfl ?_
      exact hk18 x0 x1 x2 (s1 + s0) 1 (x5 + 1) h3
set_option maxHeartbeats 4000000 in
set_option maxRecDepth 100000 in
theorem t_X11_isAnswer_L18 {C : CT} (hC : OKC C yX11_isAnswer cX11_isAnswer 7 (some .boolean) 1 25) (k93 : Int32 → Int32 → AH → RX Int32) (hk93 : ∀ (x3 : Int32) (x4 : Int32) (h : AH), WX rvI C 93 [(3, .int x3), (4, .int x4)] [] h (k93 x3 x4 h)) : ∀ (n : Nat) (x0 : Option Nat) (x1 : Int32) (x2 : Int32) (x3 : Int32) (x4 : Int32) (x5 : Int32) (h : AH), WX rvI C 18 [(0, va_rf x0), (1, .int x1), (2, .int x2), (3, .int x3), (4, .int x4), (5, .int x5)] [] h (f_X11_isAnswer_L18 k93 n x0 x1 x2 x3 x4 x5 h) := by
  intro n
  induction n with
  | zero => intro _ _ _ _ _ _ _; exact x_none
  | succ n ih =>
    intro x0 x1 x2 x3 x4 x5 h
    rw [f_X11_isAnswer_L18]
    refine x_iload (p' := 20) hC 5 (dAt dd_X11_isAnswer 11 rfl) rfl rfl ?_
    refine x_iload_n (p' := 21) hC 2 (dAt dd_X11_isAnswer 12 rfl) rfl rfl rfl ?_
    refine x_icmp_ge (tgt := 93) (p' := 24) hC (dAt dd_X11_isAnswer 13 rfl) (by decide) rfl ?_ ?_
    · refine x_sub [3, 4] rfl ?_
      exact hk93 x3 x4 h
    · refine x_iload (p' := 26) hC 4 (dAt dd_X11_isAnswer 14 rfl) rfl rfl ?_
      refine x_if_eq (tgt := 93) (p' := 29) hC (dAt dd_X11_isAnswer 15 rfl) (by decide) rfl ?_ ?_
      · refine x_sub [3, 4] rfl ?_
        exact hk93 x3 x4 h
      · refine x_aload_n (p' := 30) hC 0 (dAt dd_X11_isAnswer 16 rfl) rfl rfl rfl ?_
        refine x_iload_n (p' := 31) hC 1 (dAt dd_X11_isAnswer 17 rfl) rfl rfl rfl ?_
        refine x_iload (p' := 33) hC 5 (dAt dd_X11_isAnswer 18 rfl) rfl rfl ?_
        refine x_iadd (p' := 34) hC (dAt dd_X11_isAnswer 19 rfl) rfl ?_
        refine x_iaload (p' := 35) hC (dAt dd_X11_isAnswer 20 rfl) rfl (fun v1 => ?_)
        refine x_istore (lv' := [(6, .int v1), (0, va_rf x0), (1, .int x1), (2, .int x2), (3, .int x3), (4, .int x4), (5, .int x5)]) (p' := 37) hC (dAt dd_X11_isAnswer 21 rfl) (by decide) rfl rfl ?_
        refine x_iload_n (p' := 38) hC 4 (dAt dd_X11_isAnswer 22 rfl) rfl rfl rfl ?_
        refine x_iload (p' := 40) hC 0 (dAt dd_X11_isAnswer 23 rfl) rfl rfl ?_
        refine x_bipush (v := 120) (p' := 42) hC (dAt dd_X11_isAnswer 24 rfl) (by decide) rfl ?_
        refine x_icmp_ne (tgt := 49) (p' := 45) hC (dAt dd_X11_isAnswer 25 rfl) (by decide) rfl ?_ ?_
        · refine x_iload (p' := 51) hC 0 (dAt dd_X11_isAnswer 28 rfl) rfl rfl ?_
          refine x_bipush (v := 121) (p' := 53) hC (dAt dd_X11_isAnswer 29 rfl) (by decide) rfl ?_
          refine x_icmp_ne (tgt := 60) (p' := 56) hC (dAt dd_X11_isAnswer 30 rfl) (by decide) rfl ?_ ?_
          · refine x_iconst (v := 0) (p' := 61) hC (dAt dd_X11_isAnswer 33 rfl) (by decide) rfl ?_
            refine x_sub [1, 2, 3, 6, 0] rfl ?_
            exact t_X11_isAnswer_J61 hC (f_X11_isAnswer_L18 k93 n) ih x0 x1 x2 x5 v1 0 x3 h
          · refine x_iconst (v := (-1)) (p' := 57) hC (dAt dd_X11_isAnswer 31 rfl) (by decide) rfl ?_
            refine x_goto (tgt := 61) hC (dAt dd_X11_isAnswer 32 rfl) (by decide) ?_
            refine x_sub [1, 2, 3, 6, 0] rfl ?_
            exact t_X11_isAnswer_J61 hC (f_X11_isAnswer_L18 k93 n) ih x0 x1 x2 x5 v1 (-1) x3 h
        · refine x_iconst (v := 1) (p' := 46) hC (dAt dd_X11_isAnswer 26 rfl) (by decide) rfl ?_
          refine x_goto (tgt := 61) hC (dAt dd_X11_isAnswer 27 rfl) (by decide) ?_
          refine x_sub [1, 2, 3, 6, 0] rfl ?_
          exact t_X11_isAnswer_J61 hC (f_X11_isAnswer_L18 k93 n) ih x0 x1 x2 x5 v1 1 x3 h
set_option maxHeartbeats 4000000 in
set_option maxRecDepth 100000 in
theorem t_X11_isAnswer_J93 {C : CT} (hC : OKC C yX11_isAnswer cX11_isAnswer 7 (some .boolean) 1 25)   : ∀ (x3 : Int32) (x4 : Int32) (h : AH), WX rvI C 93 [(3, .int x3), (4, .int x4)] [] h (f_X11_isAnswer_J93 x3 x4 h) := by
  intro x3 x4 h
  unfold f_X11_isAnswer_J93
  refine x_iload (p' := 95) hC 1 (dAt dd_X11_isAnswer 50 rfl) rfl rfl ?_
  refine x_if_eq (tgt := 106) (p' := 98) hC (dAt dd_X11_isAnswer 51 rfl) (by decide) rfl ?_ ?_
  · refine x_iconst (v := 0) (p' := 107) hC (dAt dd_X11_isAnswer 56 rfl) (by decide) rfl ?_
    exact x_zreturn hC (dAt dd_X11_isAnswer 57 rfl)
  · refine x_iload_n (p' := 99) hC 0 (dAt dd_X11_isAnswer 52 rfl) rfl rfl rfl ?_
    refine x_if_ne (tgt := 106) (p' := 102) hC (dAt dd_X11_isAnswer 53 rfl) (by decide) rfl ?_ ?_
    · refine x_iconst (v := 0) (p' := 107) hC (dAt dd_X11_isAnswer 56 rfl) (by decide) rfl ?_
      exact x_zreturn hC (dAt dd_X11_isAnswer 57 rfl)
    · refine x_iconst (v := 1) (p' := 103) hC (dAt dd_X11_isAnswer 54 rfl) (by decide) rfl ?_
      refine x_goto (tgt := 107) hC (dAt dd_X11_isAnswer 55 rfl) (by decide) ?_
      exact x_zreturn hC (dAt dd_X11_isAnswer 57 rfl)
set_option maxHeartbeats 4000000 in
set_option maxRecDepth 100000 in
theorem c_X11_isAnswer (l : Launch) (D : va_G) (cy : Nat → ClassId) (h : AH) (p0 : Option Nat) (p1 : Int32) (p2 : Int32) : MX rvI l yX11_isAnswer (Cond.code yX11_isAnswer cX11_isAnswer 7 (some .boolean) :: LW) 1 25 D cy h [va_rf p0, .int p1, .int p2] (f_X11_isAnswer h p0 p1 p2) := by
  refine MX.of (lv := [(0, va_rf p0), (1, .int p1), (2, .int p2)]) (by decide) (by cases p0 <;> exact Nat.le_of_ble_eq_true rfl) (by cases p0 <;> rfl) (fun C hC _ => ?_)
  unfold f_X11_isAnswer
  refine x_iconst (v := 0) (p' := 1) hC (dAt dd_X11_isAnswer 0 rfl) (by decide) rfl ?_
  refine x_istore_n (j := 3) (lv' := [(3, .int 0), (0, va_rf p0), (1, .int p1), (2, .int p2)]) (p' := 2) hC (dAt dd_X11_isAnswer 1 rfl) rfl (by decide) rfl rfl ?_
  refine x_iload_n (p' := 3) hC 3 (dAt dd_X11_isAnswer 2 rfl) rfl rfl rfl ?_
  refine x_bipush (v := 60) (p' := 5) hC (dAt dd_X11_isAnswer 3 rfl) (by decide) rfl ?_
  refine x_icmp_gt (tgt := 12) (p' := 8) hC (dAt dd_X11_isAnswer 4 rfl) (by decide) rfl ?_ ?_
  · refine x_iconst (v := 0) (p' := 13) hC (dAt dd_X11_isAnswer 7 rfl) (by decide) rfl ?_
    refine x_istore (lv' := [(4, .int 0), (3, .int 0), (0, va_rf p0), (1, .int p1), (2, .int p2)]) (p' := 15) hC (dAt dd_X11_isAnswer 8 rfl) (by decide) rfl rfl ?_
    refine x_iconst (v := 0) (p' := 16) hC (dAt dd_X11_isAnswer 9 rfl) (by decide) rfl ?_
    refine x_istore (lv' := [(5, .int 0), (4, .int 0), (3, .int 0), (0, va_rf p0), (1, .int p1), (2, .int p2)]) (p' := 18) hC (dAt dd_X11_isAnswer 10 rfl) (by decide) rfl rfl ?_
    refine x_sub [3, 4, 5, 2, 1, 0] rfl ?_
    exact t_X11_isAnswer_L18 hC f_X11_isAnswer_J93 (t_X11_isAnswer_J93 hC) FU p0 p1 p2 0 0 0 h
  · refine x_iconst (v := 1) (p' := 9) hC (dAt dd_X11_isAnswer 5 rfl) (by decide) rfl ?_
    refine x_goto (tgt := 13) hC (dAt dd_X11_isAnswer 6 rfl) (by decide) ?_
    refine x_istore (lv' := [(4, .int 1), (3, .int 0), (0, va_rf p0), (1, .int p1), (2, .int p2)]) (p' := 15) hC (dAt dd_X11_isAnswer 8 rfl) (by decide) rfl rfl ?_
    refine x_iconst (v := 0) (p' := 16) hC (dAt dd_X11_isAnswer 9 rfl) (by decide) rfl ?_
    refine x_istore (lv' := [(5, .int 0), (4, .int 1), (3, .int 0), (0, va_rf p0), (1, .int p1), (2, .int p2)]) (p' := 18) hC (dAt dd_X11_isAnswer 10 rfl) (by decide) rfl rfl ?_
    refine x_sub [3, 4, 5, 2, 1, 0] rfl ?_
    exact t_X11_isAnswer_L18 hC f_X11_isAnswer_J93 (t_X11_isAnswer_J93 hC) FU p0 p1 p2 0 1 0 h
set_option maxHeartbeats 4000000 in
set_option maxRecDepth 100000 in
theorem c_X11_keyAt (l : Launch) (D : va_G) (cy : Nat → ClassId) (h : AH) (a0 : Nat) (p1 : Int32) : MX rvI l yX11_keyAt (Cond.code yX11_keyAt cX11_keyAt 3 (some .int) :: LW) 0 0 D cy h [va_rf (some a0), .int p1] (f_X11_keyAt h a0 p1) := by
  refine MX.of (lv := [(0, va_rf (some a0)), (1, .int p1)]) (by decide) (Nat.le_of_ble_eq_true rfl) rfl (fun C hC _ => ?_)
  unfold f_X11_keyAt
  refine x_aload_n (p' := 1) hC 0 (dAt dd_X11_keyAt 0 rfl) rfl rfl rfl ?_
  refine x_getR (p' := 4) hC fk_RX11_27 rfl (dAt dd_X11_keyAt 1 rfl) rfl (fun r1 => ?_)
  refine x_iload_n (p' := 5) hC 1 (dAt dd_X11_keyAt 2 rfl) rfl rfl rfl ?_
  refine x_iaload (p' := 6) hC (dAt dd_X11_keyAt 3 rfl) rfl (fun v2 => ?_)
  refine x_istore_n (j := 2) (lv' := [(2, .int v2), (0, va_rf (some a0)), (1, .int p1)]) (p' := 7) hC (dAt dd_X11_keyAt 4 rfl) rfl (by decide) rfl rfl ?_
  refine x_iload_n (p' := 8) hC 0 (dAt dd_X11_keyAt 5 rfl) rfl rfl rfl ?_
  refine x_bipush (v := 110) (p' := 10) hC (dAt dd_X11_keyAt 6 rfl) (by decide) rfl ?_
  refine x_icmp_lt (tgt := 24) (p' := 13) hC (dAt dd_X11_keyAt 7 rfl) (by decide) rfl ?_ ?_
  · refine x_iload_n (p' := 25) hC 0 (dAt dd_X11_keyAt 13 rfl) rfl rfl rfl ?_
    exact x_ireturn hC (dAt dd_X11_keyAt 14 rfl)
  · refine x_iload_n (p' := 14) hC 0 (dAt dd_X11_keyAt 8 rfl) rfl rfl rfl ?_
    refine x_bipush (v := 119) (p' := 16) hC (dAt dd_X11_keyAt 9 rfl) (by decide) rfl ?_
    refine x_icmp_gt (tgt := 24) (p' := 19) hC (dAt dd_X11_keyAt 10 rfl) (by decide) rfl ?_ ?_
    · refine x_iload_n (p' := 25) hC 0 (dAt dd_X11_keyAt 13 rfl) rfl rfl rfl ?_
      exact x_ireturn hC (dAt dd_X11_keyAt 14 rfl)
    · refine x_bipush (v := 110) (p' := 21) hC (dAt dd_X11_keyAt 11 rfl) (by decide) rfl ?_
      refine x_goto (tgt := 25) hC (dAt dd_X11_keyAt 12 rfl) (by decide) ?_
      exact x_ireturn hC (dAt dd_X11_keyAt 14 rfl)
set_option maxHeartbeats 4000000 in
set_option maxRecDepth 100000 in
theorem t_X11_isAhead_L34 {C : CT} (hC : OKC C yX11_isAhead cX11_isAhead 7 (some .boolean) 1 22) (k96 : Nat → Int32 → Int32 → AH → RX Int32) (k77 : Int32 → Int32 → AH → RX Int32) (hk96 : ∀ (x0 : Nat) (x1 : Int32) (x2 : Int32) (h : AH), WX rvI C 96 [(0, va_rf (some x0)), (1, .int x1), (2, .int x2)] [] h (k96 x0 x1 x2 h)) (hk77 : ∀ (x5 : Int32) (x6 : Int32) (h : AH), WX rvI C 77 [(5, .int x5), (6, .int x6)] [] h (k77 x5 x6 h)) : ∀ (n : Nat) (x0 : Nat) (x1 : Int32) (x2 : Int32) (x3 : Int32) (x4 : Int32) (h : AH), WX rvI C 34 [(0, va_rf (some x0)), (1, .int x1), (2, .int x2), (3, .int x3), (4, .int x4)] [] h (f_X11_isAhead_L34 k96 k77 n x0 x1 x2 x3 x4 h) := by
  intro n
  induction n with
  | zero => intro _ _ _ _ _ _; exact x_none
  | succ n ih =>
    intro x0 x1 x2 x3 x4 h
    rw [f_X11_isAhead_L34]
    refine x_iload (p' := 36) hC 4 (dAt dd_X11_isAhead 21 rfl) rfl rfl ?_
    refine x_iload_n (p' := 37) hC 3 (dAt dd_X11_isAhead 22 rfl) rfl rfl rfl ?_
    refine x_icmp_ge (tgt := 96) (p' := 40) hC (dAt dd_X11_isAhead 23 rfl) (by decide) rfl ?_ ?_
    · refine x_sub [0, 1, 2] rfl ?_
      exact hk96 x0 x1 x2 h
    · refine x_aload_n (p' := 41) hC 0 (dAt dd_X11_isAhead 24 rfl) rfl rfl rfl ?_
      refine x_aload_n (p' := 42) hC 0 (dAt dd_X11_isAhead 25 rfl) rfl rfl rfl ?_
      refine x_getR (p' := 45) hC fk_RX11_36 rfl (dAt dd_X11_isAhead 26 rfl) rfl (fun r7 => ?_)
      refine x_iload_n (p' := 46) hC 1 (dAt dd_X11_isAhead 27 rfl) rfl rfl rfl ?_
      refine x_iaload (p' := 47) hC (dAt dd_X11_isAhead 28 rfl) rfl (fun v8 => ?_)
      refine x_iload (p' := 49) hC 4 (dAt dd_X11_isAhead 29 rfl) rfl rfl ?_
      refine x_iadd (p' := 50) hC (dAt dd_X11_isAhead 30 rfl) rfl ?_
      refine x_callVI (As := [.int (v8 + x4)]) (z := fun b => f_X11_keyAt h b (v8 + x4)) (p' := 53) hC (fun b => c_X11_keyAt _ _ _ h b (v8 + x4)) k_957 k_959 (k_sl 40 rfl) k_9 k_960 hd_X11_keyAt ⟨by decide, by decide⟩ (ci := 10) rfl rfl (by decide) rfl (Nat.le_of_ble_eq_true rfl) rfl (dAt dd_X11_isAhead 31 rfl) rfl (fun v9 h10 => ?_)
      refine x_istore (lv' := [(5, .int v9), (0, va_rf (some x0)), (1, .int x1), (2, .int x2), (3, .int x3), (4, .int x4)]) (p' := 55) hC (dAt dd_X11_isAhead 32 rfl) (by decide) rfl rfl ?_
      refine x_aload_n (p' := 56) hC 1 (dAt dd_X11_isAhead 33 rfl) rfl rfl rfl ?_
      refine x_aload_n (p' := 57) hC 1 (dAt dd_X11_isAhead 34 rfl) rfl rfl rfl ?_
      refine x_getR (p' := 60) hC fk_RX11_36 rfl (dAt dd_X11_isAhead 35 rfl) rfl (fun r11 => ?_)
      refine x_iload_n (p' := 61) hC 3 (dAt dd_X11_isAhead 36 rfl) rfl rfl rfl ?_
      refine x_iaload (p' := 62) hC (dAt dd_X11_isAhead 37 rfl) rfl (fun v12 => ?_)
      refine x_iload (p' := 64) hC 5 (dAt dd_X11_isAhead 38 rfl) rfl rfl ?_
      refine x_iadd (p' := 65) hC (dAt dd_X11_isAhead 39 rfl) rfl ?_
      refine x_callVI (As := [.int (v12 + x4)]) (z := fun b => f_X11_keyAt h10 b (v12 + x4)) (p' := 68) hC (fun b => c_X11_keyAt _ _ _ h10 b (v12 + x4)) k_957 k_959 (k_sl 40 rfl) k_9 k_960 hd_X11_keyAt ⟨by decide, by decide⟩ (ci := 10) rfl rfl (by decide) rfl (Nat.le_of_ble_eq_true rfl) rfl (dAt dd_X11_isAhead 40 rfl) rfl (fun v13 h14 => ?_)
      refine x_istore (lv' := [(6, .int v13), (5, .int v9), (0, va_rf (some x0)), (1, .int x1), (2, .int x2), (3, .int x3), (4, .int x4)]) (p' := 70) hC (dAt dd_X11_isAhead 41 rfl) (by decide) rfl rfl ?_
      refine x_iload (p' := 72) hC 1 (dAt dd_X11_isAhead 42 rfl) rfl rfl ?_
      refine x_iload (p' := 74) hC 0 (dAt dd_X11_isAhead 43 rfl) rfl rfl ?_
      refine x_icmp_eq (tgt := 90) (p' := 77) hC (dAt dd_X11_isAhead 44 rfl) (by decide) rfl ?_ ?_
      · refine x_iinc (w := (x4 + 1)) (lv' := [(4, .int (x4 + 1)), (6, .int v13), (5, .int v9), (0, va_rf (some x0)), (1, .int x1), (2, .int x2), (3, .int x3)]) (p' := 93) hC 6 (dAt dd_X11_isAhead 52 rfl) rfl rfl (by decide) rfl rfl ?_
        refine x_goto (tgt := 34) hC (dAt dd_X11_isAhead 53 rfl) (by decide) ?_
        refine x_sub [3, 4, 5, 6, 0] rfl ?_
        exact ih x0 x1 x2 x3 (x4 + 1) h14
      · refine x_sub [1, 0] rfl ?_
        exact hk77 v9 v13 h14
set_option maxHeartbeats 4000000 in
set_option maxRecDepth 100000 in
theorem t_X11_isAhead_J96 {C : CT} (hC : OKC C yX11_isAhead cX11_isAhead 7 (some .boolean) 1 22)   : ∀ (x0 : Nat) (x1 : Int32) (x2 : Int32) (h : AH), WX rvI C 96 [(0, va_rf (some x0)), (1, .int x1), (2, .int x2)] [] h (f_X11_isAhead_J96 x0 x1 x2 h) := by
  intro x0 x1 x2 h
  unfold f_X11_isAhead_J96
  refine x_aload_n (p' := 97) hC 0 (dAt dd_X11_isAhead 54 rfl) rfl rfl rfl ?_
  refine x_getR (p' := 100) hC fk_RX11_39 rfl (dAt dd_X11_isAhead 55 rfl) rfl (fun r15 => ?_)
  refine x_iload_n (p' := 101) hC 1 (dAt dd_X11_isAhead 56 rfl) rfl rfl rfl ?_
  refine x_iaload (p' := 102) hC (dAt dd_X11_isAhead 57 rfl) rfl (fun v16 => ?_)
  refine x_aload_n (p' := 103) hC 0 (dAt dd_X11_isAhead 58 rfl) rfl rfl rfl ?_
  refine x_getR (p' := 106) hC fk_RX11_39 rfl (dAt dd_X11_isAhead 59 rfl) rfl (fun r17 => ?_)
  refine x_iload_n (p' := 107) hC 2 (dAt dd_X11_isAhead 60 rfl) rfl rfl rfl ?_
  refine x_iaload (p' := 108) hC (dAt dd_X11_isAhead 61 rfl) rfl (fun v18 => ?_)
  refine x_icmp_ge (tgt := 115) (p' := 111) hC (dAt dd_X11_isAhead 62 rfl) (by decide) rfl ?_ ?_
  · refine x_iconst (v := 0) (p' := 116) hC (dAt dd_X11_isAhead 65 rfl) (by decide) rfl ?_
    exact x_zreturn hC (dAt dd_X11_isAhead 66 rfl)
  · refine x_iconst (v := 1) (p' := 112) hC (dAt dd_X11_isAhead 63 rfl) (by decide) rfl ?_
    refine x_goto (tgt := 116) hC (dAt dd_X11_isAhead 64 rfl) (by decide) ?_
    exact x_zreturn hC (dAt dd_X11_isAhead 66 rfl)
set_option maxHeartbeats 4000000 in
set_option maxRecDepth 100000 in
theorem t_X11_isAhead_J77 {C : CT} (hC : OKC C yX11_isAhead cX11_isAhead 7 (some .boolean) 1 22)   : ∀ (x5 : Int32) (x6 : Int32) (h : AH), WX rvI C 77 [(5, .int x5), (6, .int x6)] [] h (f_X11_isAhead_J77 x5 x6 h) := by
  intro x5 x6 h
  unfold f_X11_isAhead_J77
  refine x_iload (p' := 79) hC 0 (dAt dd_X11_isAhead 45 rfl) rfl rfl ?_
  refine x_iload (p' := 81) hC 1 (dAt dd_X11_isAhead 46 rfl) rfl rfl ?_
  refine x_icmp_ge (tgt := 88) (p' := 84) hC (dAt dd_X11_isAhead 47 rfl) (by decide) rfl ?_ ?_
  · refine x_iconst (v := 0) (p' := 89) hC (dAt dd_X11_isAhead 50 rfl) (by decide) rfl ?_
    exact x_zreturn hC (dAt dd_X11_isAhead 51 rfl)
  · refine x_iconst (v := 1) (p' := 85) hC (dAt dd_X11_isAhead 48 rfl) (by decide) rfl ?_
    refine x_goto (tgt := 89) hC (dAt dd_X11_isAhead 49 rfl) (by decide) ?_
    exact x_zreturn hC (dAt dd_X11_isAhead 51 rfl)
set_option maxHeartbeats 4000000 in
set_option maxRecDepth 100000 in
theorem c_X11_isAhead (l : Launch) (D : va_G) (cy : Nat → ClassId) (h : AH) (a0 : Nat) (p1 : Int32) (p2 : Int32) : MX rvI l yX11_isAhead (Cond.code yX11_isAhead cX11_isAhead 7 (some .boolean) :: LW) 1 22 D cy h [va_rf (some a0), .int p1, .int p2] (f_X11_isAhead h a0 p1 p2) := by
  refine MX.of (lv := [(0, va_rf (some a0)), (1, .int p1), (2, .int p2)]) (by decide) (Nat.le_of_ble_eq_true rfl) rfl (fun C hC _ => ?_)
  unfold f_X11_isAhead
  refine x_aload_n (p' := 1) hC 0 (dAt dd_X11_isAhead 0 rfl) rfl rfl rfl ?_
  refine x_getR (p' := 4) hC fk_RX11_39 rfl (dAt dd_X11_isAhead 1 rfl) rfl (fun r1 => ?_)
  refine x_iload_n (p' := 5) hC 1 (dAt dd_X11_isAhead 2 rfl) rfl rfl rfl ?_
  refine x_iaload (p' := 6) hC (dAt dd_X11_isAhead 3 rfl) rfl (fun v2 => ?_)
  refine x_aload_n (p' := 7) hC 0 (dAt dd_X11_isAhead 4 rfl) rfl rfl rfl ?_
  refine x_getR (p' := 10) hC fk_RX11_39 rfl (dAt dd_X11_isAhead 5 rfl) rfl (fun r3 => ?_)
  refine x_iload_n (p' := 11) hC 2 (dAt dd_X11_isAhead 6 rfl) rfl rfl rfl ?_
  refine x_iaload (p' := 12) hC (dAt dd_X11_isAhead 7 rfl) rfl (fun v4 => ?_)
  refine x_icmp_ge (tgt := 24) (p' := 15) hC (dAt dd_X11_isAhead 8 rfl) (by decide) rfl ?_ ?_
  · refine x_aload_n (p' := 25) hC 0 (dAt dd_X11_isAhead 14 rfl) rfl rfl rfl ?_
    refine x_getR (p' := 28) hC fk_RX11_39 rfl (dAt dd_X11_isAhead 15 rfl) rfl (fun r5 => ?_)
    refine x_iload_n (p' := 29) hC 2 (dAt dd_X11_isAhead 16 rfl) rfl rfl rfl ?_
    refine x_iaload (p' := 30) hC (dAt dd_X11_isAhead 17 rfl) rfl (fun v6 => ?_)
    refine x_istore_n (j := 3) (lv' := [(3, .int v6), (0, va_rf (some a0)), (1, .int p1), (2, .int p2)]) (p' := 31) hC (dAt dd_X11_isAhead 18 rfl) rfl (by decide) rfl rfl ?_
    refine x_iconst (v := 0) (p' := 32) hC (dAt dd_X11_isAhead 19 rfl) (by decide) rfl ?_
    refine x_istore (lv' := [(4, .int 0), (3, .int v6), (0, va_rf (some a0)), (1, .int p1), (2, .int p2)]) (p' := 34) hC (dAt dd_X11_isAhead 20 rfl) (by decide) rfl rfl ?_
    refine x_sub [2, 3, 4, 1, 0] rfl ?_
    exact t_X11_isAhead_L34 hC f_X11_isAhead_J96 f_X11_isAhead_J77 (t_X11_isAhead_J96 hC) (t_X11_isAhead_J77 hC) FU a0 p1 p2 v6 0 h
  · refine x_aload_n (p' := 16) hC 0 (dAt dd_X11_isAhead 9 rfl) rfl rfl rfl ?_
    refine x_getR (p' := 19) hC fk_RX11_39 rfl (dAt dd_X11_isAhead 10 rfl) rfl (fun r19 => ?_)
    refine x_iload_n (p' := 20) hC 1 (dAt dd_X11_isAhead 11 rfl) rfl rfl rfl ?_
    refine x_iaload (p' := 21) hC (dAt dd_X11_isAhead 12 rfl) rfl (fun v20 => ?_)
    refine x_goto (tgt := 30) hC (dAt dd_X11_isAhead 13 rfl) (by decide) ?_
    refine x_istore_n (j := 3) (lv' := [(3, .int v20), (0, va_rf (some a0)), (1, .int p1), (2, .int p2)]) (p' := 31) hC (dAt dd_X11_isAhead 18 rfl) rfl (by decide) rfl rfl ?_
    refine x_iconst (v := 0) (p' := 32) hC (dAt dd_X11_isAhead 19 rfl) (by decide) rfl ?_
    refine x_istore (lv' := [(4, .int 0), (3, .int v20), (0, va_rf (some a0)), (1, .int p1), (2, .int p2)]) (p' := 34) hC (dAt dd_X11_isAhead 20 rfl) (by decide) rfl rfl ?_
    refine x_sub [2, 3, 4, 1, 0] rfl ?_
    exact t_X11_isAhead_L34 hC f_X11_isAhead_J96 f_X11_isAhead_J77 (t_X11_isAhead_J96 hC) (t_X11_isAhead_J77 hC) FU a0 p1 p2 v20 0 h
set_option maxHeartbeats 4000000 in
set_option maxRecDepth 100000 in
theorem t_X11_putInOrder_J61 {C : CT} (hC : OKC C yX11_putInOrder cX11_putInOrder 9 none 2 48) (k21 : Nat → Int32 → Int32 → Int32 → Int32 → Int32 → Int32 → Int32 → AH → RX Unit) (hk21 : ∀ (x0 : Nat) (x1 : Int32) (x2 : Int32) (x3 : Int32) (x4 : Int32) (x5 : Int32) (x6 : Int32) (x7 : Int32) (h : AH), WX rvV C 21 [(0, va_rf (some x0)), (1, .int x1), (2, .int x2), (3, .int x3), (4, .int x4), (5, .int x5), (6, .int x6), (7, .int x7)] [] h (k21 x0 x1 x2 x3 x4 x5 x6 x7 h)) : ∀ (x0 : Nat) (x1 : Int32) (x2 : Int32) (x3 : Int32) (x4 : Int32) (x6 : Int32) (s0 : Int32) (s1 : Int32) (h : AH), WX rvV C 61 [(0, va_rf (some x0)), (1, .int x1), (2, .int x2), (3, .int x3), (4, .int x4), (6, .int x6)] [.int s0, .int s1] h (f_X11_putInOrder_J61 k21 x0 x1 x2 x3 x4 x6 s0 s1 h) := by
  intro x0 x1 x2 x3 x4 x6 s0 s1 h
  unfold f_X11_putInOrder_J61
  refine x_iadd (p' := 62) hC (dAt dd_X11_putInOrder 33 rfl) rfl ?_
  refine x_istore (lv' := [(5, .int (s1 + s0)), (0, va_rf (some x0)), (1, .int x1), (2, .int x2), (3, .int x3), (4, .int x4), (6, .int x6)]) (p' := 64) hC (dAt dd_X11_putInOrder 34 rfl) (by decide) rfl rfl ?_
  refine x_iinc (w := (x4 + 1)) (lv' := [(4, .int (x4 + 1)), (5, .int (s1 + s0)), (0, va_rf (some x0)), (1, .int x1), (2, .int x2), (3, .int x3), (6, .int x6)]) (p' := 67) hC 5 (dAt dd_X11_putInOrder 35 rfl) rfl rfl (by decide) rfl rfl ?_
  refine x_iload (p' := 69) hC 1 (dAt dd_X11_putInOrder 36 rfl) rfl rfl ?_
  refine x_if_le (tgt := 76) (p' := 72) hC (dAt dd_X11_putInOrder 37 rfl) (by decide) rfl ?_ ?_
  · refine x_iconst (v := 0) (p' := 77) hC (dAt dd_X11_putInOrder 40 rfl) (by decide) rfl ?_
    refine x_istore (lv' := [(7, .int 0), (4, .int (x4 + 1)), (5, .int (s1 + s0)), (0, va_rf (some x0)), (1, .int x1), (2, .int x2), (3, .int x3), (6, .int x6)]) (p' := 79) hC (dAt dd_X11_putInOrder 41 rfl) (by decide) rfl rfl ?_
    refine x_goto (tgt := 21) hC (dAt dd_X11_putInOrder 42 rfl) (by decide) ?_
    refine x_sub [3, 4, 5, 6, 1, 2, 7, 0] rfl ?_
    exact hk21 x0 x1 x2 x3 (x4 + 1) (s1 + s0) x6 0 h
  · refine x_iconst (v := 1) (p' := 73) hC (dAt dd_X11_putInOrder 38 rfl) (by decide) rfl ?_
    refine x_goto (tgt := 77) hC (dAt dd_X11_putInOrder 39 rfl) (by decide) ?_
    refine x_istore (lv' := [(7, .int 1), (4, .int (x4 + 1)), (5, .int (s1 + s0)), (0, va_rf (some x0)), (1, .int x1), (2, .int x2), (3, .int x3), (6, .int x6)]) (p' := 79) hC (dAt dd_X11_putInOrder 41 rfl) (by decide) rfl rfl ?_
    refine x_goto (tgt := 21) hC (dAt dd_X11_putInOrder 42 rfl) (by decide) ?_
    refine x_sub [3, 4, 5, 6, 1, 2, 7, 0] rfl ?_
    exact hk21 x0 x1 x2 x3 (x4 + 1) (s1 + s0) x6 1 h
set_option maxHeartbeats 4000000 in
set_option maxRecDepth 100000 in
theorem t_X11_putInOrder_L21 {C : CT} (hC : OKC C yX11_putInOrder cX11_putInOrder 9 none 2 48) (k82 : Nat → Int32 → Int32 → Int32 → Int32 → Int32 → AH → RX Unit) (hk82 : ∀ (x0 : Nat) (x1 : Int32) (x2 : Int32) (x3 : Int32) (x4 : Int32) (x6 : Int32) (h : AH), WX rvV C 82 [(0, va_rf (some x0)), (1, .int x1), (2, .int x2), (3, .int x3), (4, .int x4), (6, .int x6)] [] h (k82 x0 x1 x2 x3 x4 x6 h)) : ∀ (n : Nat) (x0 : Nat) (x1 : Int32) (x2 : Int32) (x3 : Int32) (x4 : Int32) (x5 : Int32) (x6 : Int32) (x7 : Int32) (h : AH), WX rvV C 21 [(0, va_rf (some x0)), (1, .int x1), (2, .int x2), (3, .int x3), (4, .int x4), (5, .int x5), (6, .int x6), (7, .int x7)] [] h (f_X11_putInOrder_L21 k82 n x0 x1 x2 x3 x4 x5 x6 x7 h) := by
  intro n
  induction n with
  | zero => intro _ _ _ _ _ _ _ _ _; exact x_none
  | succ n ih =>
    intro x0 x1 x2 x3 x4 x5 x6 x7 h
    rw [f_X11_putInOrder_L21]
    refine x_iload (p' := 23) hC 7 (dAt dd_X11_putInOrder 13 rfl) rfl rfl ?_
    refine x_if_eq (tgt := 82) (p' := 26) hC (dAt dd_X11_putInOrder 14 rfl) (by decide) rfl ?_ ?_
    · refine x_sub [0, 1, 2, 3, 4, 6] rfl ?_
      exact hk82 x0 x1 x2 x3 x4 x6 h
    · refine x_iload (p' := 28) hC 5 (dAt dd_X11_putInOrder 15 rfl) rfl rfl ?_
      refine x_aload_n (p' := 29) hC 0 (dAt dd_X11_putInOrder 16 rfl) rfl rfl rfl ?_
      refine x_getR (p' := 32) hC fk_RX11_27 rfl (dAt dd_X11_putInOrder 17 rfl) rfl (fun r1 => ?_)
      refine x_iload (p' := 34) hC 4 (dAt dd_X11_putInOrder 18 rfl) rfl rfl ?_
      refine x_iaload (p' := 35) hC (dAt dd_X11_putInOrder 19 rfl) rfl (fun v2 => ?_)
      refine x_bipush (v := 120) (p' := 37) hC (dAt dd_X11_putInOrder 20 rfl) (by decide) rfl ?_
      refine x_icmp_ne (tgt := 44) (p' := 40) hC (dAt dd_X11_putInOrder 21 rfl) (by decide) rfl ?_ ?_
      · refine x_aload_n (p' := 45) hC 0 (dAt dd_X11_putInOrder 24 rfl) rfl rfl rfl ?_
        refine x_getR (p' := 48) hC fk_RX11_27 rfl (dAt dd_X11_putInOrder 25 rfl) rfl (fun r3 => ?_)
        refine x_iload (p' := 50) hC 4 (dAt dd_X11_putInOrder 26 rfl) rfl rfl ?_
        refine x_iaload (p' := 51) hC (dAt dd_X11_putInOrder 27 rfl) rfl (fun v4 => ?_)
        refine x_bipush (v := 121) (p' := 53) hC (dAt dd_X11_putInOrder 28 rfl) (by decide) rfl ?_
        refine x_icmp_ne (tgt := 60) (p' := 56) hC (dAt dd_X11_putInOrder 29 rfl) (by decide) rfl ?_ ?_
        · refine x_iconst (v := 0) (p' := 61) hC (dAt dd_X11_putInOrder 32 rfl) (by decide) rfl ?_
          refine x_sub [0, 1, 2, 3, 4, 6] rfl ?_
          exact t_X11_putInOrder_J61 hC (f_X11_putInOrder_L21 k82 n) ih x0 x1 x2 x3 x4 x6 0 x5 h
        · refine x_iconst (v := (-1)) (p' := 57) hC (dAt dd_X11_putInOrder 30 rfl) (by decide) rfl ?_
          refine x_goto (tgt := 61) hC (dAt dd_X11_putInOrder 31 rfl) (by decide) ?_
          refine x_sub [0, 1, 2, 3, 4, 6] rfl ?_
          exact t_X11_putInOrder_J61 hC (f_X11_putInOrder_L21 k82 n) ih x0 x1 x2 x3 x4 x6 (-1) x5 h
      · refine x_iconst (v := 1) (p' := 41) hC (dAt dd_X11_putInOrder 22 rfl) (by decide) rfl ?_
        refine x_goto (tgt := 61) hC (dAt dd_X11_putInOrder 23 rfl) (by decide) ?_
        refine x_sub [0, 1, 2, 3, 4, 6] rfl ?_
        exact t_X11_putInOrder_J61 hC (f_X11_putInOrder_L21 k82 n) ih x0 x1 x2 x3 x4 x6 1 x5 h
set_option maxHeartbeats 4000000 in
set_option maxRecDepth 100000 in
theorem t_X11_putInOrder_L106 {C : CT} (hC : OKC C yX11_putInOrder cX11_putInOrder 9 none 2 48) (k162 : Nat → Int32 → Int32 → Int32 → Int32 → Int32 → Int32 → AH → RX Unit) (hk162 : ∀ (x0 : Nat) (x1 : Int32) (x2 : Int32) (x3 : Int32) (x4 : Int32) (x6 : Int32) (x8 : Int32) (h : AH), WX rvV C 162 [(0, va_rf (some x0)), (1, .int x1), (2, .int x2), (3, .int x3), (4, .int x4), (6, .int x6), (8, .int x8)] [] h (k162 x0 x1 x2 x3 x4 x6 x8 h)) : ∀ (n : Nat) (x0 : Nat) (x1 : Int32) (x2 : Int32) (x3 : Int32) (x4 : Int32) (x6 : Int32) (x8 : Int32) (h : AH), WX rvV C 106 [(0, va_rf (some x0)), (1, .int x1), (2, .int x2), (3, .int x3), (4, .int x4), (6, .int x6), (8, .int x8)] [] h (f_X11_putInOrder_L106 k162 n x0 x1 x2 x3 x4 x6 x8 h) := by
  intro n
  induction n with
  | zero => intro _ _ _ _ _ _ _ _; exact x_none
  | succ n ih =>
    intro x0 x1 x2 x3 x4 x6 x8 h
    rw [f_X11_putInOrder_L106]
    refine x_iload (p' := 108) hC 6 (dAt dd_X11_putInOrder 57 rfl) rfl rfl ?_
    refine x_if_le (tgt := 162) (p' := 111) hC (dAt dd_X11_putInOrder 58 rfl) (by decide) rfl ?_ ?_
    · exact hk162 x0 x1 x2 x3 x4 x6 x8 h
    · refine x_aload_n (p' := 112) hC 0 (dAt dd_X11_putInOrder 59 rfl) rfl rfl rfl ?_
      refine x_bipush (v := 59) (p' := 114) hC (dAt dd_X11_putInOrder 60 rfl) (by decide) rfl ?_
      refine x_iload (p' := 116) hC 6 (dAt dd_X11_putInOrder 61 rfl) rfl rfl ?_
      refine x_iconst (v := 1) (p' := 117) hC (dAt dd_X11_putInOrder 62 rfl) (by decide) rfl ?_
      refine x_isub (p' := 118) hC (dAt dd_X11_putInOrder 63 rfl) rfl ?_
      refine x_callVI (As := [.int 59, .int (x8 - 1)]) (z := fun b => f_X11_isAhead h b 59 (x8 - 1)) (p' := 121) hC (fun b => c_X11_isAhead _ _ _ h b 59 (x8 - 1)) k_953 k_955 (k_sl 39 rfl) k_9 k_956 hd_X11_isAhead ⟨by decide, by decide⟩ (ci := 10) rfl rfl (by decide) rfl (Nat.le_of_ble_eq_true rfl) rfl (dAt dd_X11_putInOrder 64 rfl) rfl (fun v9 h10 => ?_)
      refine x_if_eq (tgt := 162) (p' := 124) hC (dAt dd_X11_putInOrder 65 rfl) (by decide) rfl ?_ ?_
      · exact hk162 x0 x1 x2 x3 x4 x6 x8 h10
      · refine x_aload_n (p' := 125) hC 0 (dAt dd_X11_putInOrder 66 rfl) rfl rfl rfl ?_
        refine x_getR (p' := 128) hC fk_RX11_36 rfl (dAt dd_X11_putInOrder 67 rfl) rfl (fun r11 => ?_)
        refine x_iload (p' := 130) hC 6 (dAt dd_X11_putInOrder 68 rfl) rfl rfl ?_
        refine x_aload_n (p' := 131) hC 0 (dAt dd_X11_putInOrder 69 rfl) rfl rfl rfl ?_
        refine x_getR (p' := 134) hC fk_RX11_36 rfl (dAt dd_X11_putInOrder 70 rfl) rfl (fun r12 => ?_)
        refine x_iload (p' := 136) hC 6 (dAt dd_X11_putInOrder 71 rfl) rfl rfl ?_
        refine x_iconst (v := 1) (p' := 137) hC (dAt dd_X11_putInOrder 72 rfl) (by decide) rfl ?_
        refine x_isub (p' := 138) hC (dAt dd_X11_putInOrder 73 rfl) rfl ?_
        refine x_iaload (p' := 139) hC (dAt dd_X11_putInOrder 74 rfl) rfl (fun v13 => ?_)
        refine x_iastore (p' := 140) hC (dAt dd_X11_putInOrder 75 rfl) rfl (fun h14 => ?_)
        refine x_aload_n (p' := 141) hC 0 (dAt dd_X11_putInOrder 76 rfl) rfl rfl rfl ?_
        refine x_getR (p' := 144) hC fk_RX11_39 rfl (dAt dd_X11_putInOrder 77 rfl) rfl (fun r15 => ?_)
        refine x_iload (p' := 146) hC 6 (dAt dd_X11_putInOrder 78 rfl) rfl rfl ?_
        refine x_aload_n (p' := 147) hC 0 (dAt dd_X11_putInOrder 79 rfl) rfl rfl rfl ?_
        refine x_getR (p' := 150) hC fk_RX11_39 rfl (dAt dd_X11_putInOrder 80 rfl) rfl (fun r16 => ?_)
        refine x_iload (p' := 152) hC 6 (dAt dd_X11_putInOrder 81 rfl) rfl rfl ?_
        refine x_iconst (v := 1) (p' := 153) hC (dAt dd_X11_putInOrder 82 rfl) (by decide) rfl ?_
        refine x_isub (p' := 154) hC (dAt dd_X11_putInOrder 83 rfl) rfl ?_
        refine x_iaload (p' := 155) hC (dAt dd_X11_putInOrder 84 rfl) rfl (fun v17 => ?_)
        refine x_iastore (p' := 156) hC (dAt dd_X11_putInOrder 85 rfl) rfl (fun h18 => ?_)
        refine x_iinc (w := (x8 + (-1))) (lv' := [(8, .int (x8 + (-1))), (0, va_rf (some x0)), (1, .int x1), (2, .int x2), (3, .int x3), (4, .int x4), (6, .int x6)]) (p' := 159) hC 6 (dAt dd_X11_putInOrder 86 rfl) rfl rfl (by decide) rfl rfl ?_
        refine x_goto (tgt := 106) hC (dAt dd_X11_putInOrder 87 rfl) (by decide) ?_
        refine x_sub [1, 2, 3, 4, 5, 6, 0] rfl ?_
        exact ih x0 x1 x2 x3 x4 x6 (x8 + (-1)) h18
set_option maxHeartbeats 4000000 in
set_option maxRecDepth 100000 in
theorem t_X11_putInOrder_J162 {C : CT} (hC : OKC C yX11_putInOrder cX11_putInOrder 9 none 2 48) (k5 : Nat → Int32 → Int32 → Int32 → Int32 → AH → RX Unit) (hk5 : ∀ (x0 : Nat) (x1 : Int32) (x2 : Int32) (x3 : Int32) (x4 : Int32) (h : AH), WX rvV C 5 [(0, va_rf (some x0)), (1, .int x1), (2, .int x2), (3, .int x3), (4, .int x4)] [] h (k5 x0 x1 x2 x3 x4 h)) : ∀ (x0 : Nat) (x1 : Int32) (x2 : Int32) (x3 : Int32) (x4 : Int32) (x6 : Int32) (x8 : Int32) (h : AH), WX rvV C 162 [(0, va_rf (some x0)), (1, .int x1), (2, .int x2), (3, .int x3), (4, .int x4), (6, .int x6), (8, .int x8)] [] h (f_X11_putInOrder_J162 k5 x0 x1 x2 x3 x4 x6 x8 h) := by
  intro x0 x1 x2 x3 x4 x6 x8 h
  unfold f_X11_putInOrder_J162
  refine x_aload_n (p' := 163) hC 0 (dAt dd_X11_putInOrder 88 rfl) rfl rfl rfl ?_
  refine x_getR (p' := 166) hC fk_RX11_36 rfl (dAt dd_X11_putInOrder 89 rfl) rfl (fun r19 => ?_)
  refine x_iload (p' := 168) hC 6 (dAt dd_X11_putInOrder 90 rfl) rfl rfl ?_
  refine x_iload (p' := 170) hC 5 (dAt dd_X11_putInOrder 91 rfl) rfl rfl ?_
  refine x_iastore (p' := 171) hC (dAt dd_X11_putInOrder 92 rfl) rfl (fun h20 => ?_)
  refine x_aload_n (p' := 172) hC 0 (dAt dd_X11_putInOrder 93 rfl) rfl rfl rfl ?_
  refine x_getR (p' := 175) hC fk_RX11_39 rfl (dAt dd_X11_putInOrder 94 rfl) rfl (fun r21 => ?_)
  refine x_iload (p' := 177) hC 6 (dAt dd_X11_putInOrder 95 rfl) rfl rfl ?_
  refine x_iload (p' := 179) hC 4 (dAt dd_X11_putInOrder 96 rfl) rfl rfl ?_
  refine x_iload (p' := 181) hC 5 (dAt dd_X11_putInOrder 97 rfl) rfl rfl ?_
  refine x_isub (p' := 182) hC (dAt dd_X11_putInOrder 98 rfl) rfl ?_
  refine x_iastore (p' := 183) hC (dAt dd_X11_putInOrder 99 rfl) rfl (fun h22 => ?_)
  refine x_iinc (w := (x3 + 1)) (lv' := [(3, .int (x3 + 1)), (0, va_rf (some x0)), (1, .int x1), (2, .int x2), (4, .int x4), (6, .int x6), (8, .int x8)]) (p' := 186) hC 3 (dAt dd_X11_putInOrder 100 rfl) rfl rfl (by decide) rfl rfl ?_
  refine x_goto (tgt := 5) hC (dAt dd_X11_putInOrder 101 rfl) (by decide) ?_
  refine x_sub [1, 2, 3, 0, 4] rfl ?_
  exact hk5 x0 x1 x2 (x3 + 1) x4 h22
set_option maxHeartbeats 4000000 in
set_option maxRecDepth 100000 in
theorem t_X11_putInOrder_J82 {C : CT} (hC : OKC C yX11_putInOrder cX11_putInOrder 9 none 2 48) (k5 : Nat → Int32 → Int32 → Int32 → Int32 → AH → RX Unit) (hk5 : ∀ (x0 : Nat) (x1 : Int32) (x2 : Int32) (x3 : Int32) (x4 : Int32) (h : AH), WX rvV C 5 [(0, va_rf (some x0)), (1, .int x1), (2, .int x2), (3, .int x3), (4, .int x4)] [] h (k5 x0 x1 x2 x3 x4 h)) : ∀ (x0 : Nat) (x1 : Int32) (x2 : Int32) (x3 : Int32) (x4 : Int32) (x6 : Int32) (h : AH), WX rvV C 82 [(0, va_rf (some x0)), (1, .int x1), (2, .int x2), (3, .int x3), (4, .int x4), (6, .int x6)] [] h (f_X11_putInOrder_J82 k5 x0 x1 x2 x3 x4 x6 h) := by
  intro x0 x1 x2 x3 x4 x6 h
  unfold f_X11_putInOrder_J82
  refine x_iload_n (p' := 83) hC 3 (dAt dd_X11_putInOrder 43 rfl) rfl rfl rfl ?_
  refine x_istore (lv' := [(8, .int x3), (0, va_rf (some x0)), (1, .int x1), (2, .int x2), (3, .int x3), (4, .int x4), (6, .int x6)]) (p' := 85) hC (dAt dd_X11_putInOrder 44 rfl) (by decide) rfl rfl ?_
  refine x_aload_n (p' := 86) hC 1 (dAt dd_X11_putInOrder 45 rfl) rfl rfl rfl ?_
  refine x_getR (p' := 89) hC fk_RX11_36 rfl (dAt dd_X11_putInOrder 46 rfl) rfl (fun r5 => ?_)
  refine x_bipush (v := 59) (p' := 91) hC (dAt dd_X11_putInOrder 47 rfl) (by decide) rfl ?_
  refine x_iload (p' := 93) hC 6 (dAt dd_X11_putInOrder 48 rfl) rfl rfl ?_
  refine x_iastore (p' := 94) hC (dAt dd_X11_putInOrder 49 rfl) rfl (fun h6 => ?_)
  refine x_aload_n (p' := 95) hC 1 (dAt dd_X11_putInOrder 50 rfl) rfl rfl rfl ?_
  refine x_getR (p' := 98) hC fk_RX11_39 rfl (dAt dd_X11_putInOrder 51 rfl) rfl (fun r7 => ?_)
  refine x_bipush (v := 59) (p' := 100) hC (dAt dd_X11_putInOrder 52 rfl) (by decide) rfl ?_
  refine x_iload (p' := 102) hC 5 (dAt dd_X11_putInOrder 53 rfl) rfl rfl ?_
  refine x_iload (p' := 104) hC 6 (dAt dd_X11_putInOrder 54 rfl) rfl rfl ?_
  refine x_isub (p' := 105) hC (dAt dd_X11_putInOrder 55 rfl) rfl ?_
  refine x_iastore (p' := 106) hC (dAt dd_X11_putInOrder 56 rfl) rfl (fun h8 => ?_)
  refine x_sub [1, 2, 3, 4, 5, 6, 0] rfl ?_
  exact t_X11_putInOrder_L106 hC (f_X11_putInOrder_J162 k5) (t_X11_putInOrder_J162 hC k5 hk5) FU x0 x1 x2 x3 x4 x6 x3 h8
set_option maxHeartbeats 4000000 in
set_option maxRecDepth 100000 in
theorem t_X11_putInOrder_L5 {C : CT} (hC : OKC C yX11_putInOrder cX11_putInOrder 9 none 2 48) (k189 : Nat → Int32 → Int32 → AH → RX Unit) (hk189 : ∀ (x0 : Nat) (x1 : Int32) (x3 : Int32) (h : AH), WX rvV C 189 [(0, va_rf (some x0)), (1, .int x1), (3, .int x3)] [] h (k189 x0 x1 x3 h)) : ∀ (n : Nat) (x0 : Nat) (x1 : Int32) (x2 : Int32) (x3 : Int32) (x4 : Int32) (h : AH), WX rvV C 5 [(0, va_rf (some x0)), (1, .int x1), (2, .int x2), (3, .int x3), (4, .int x4)] [] h (f_X11_putInOrder_L5 k189 n x0 x1 x2 x3 x4 h) := by
  intro n
  induction n with
  | zero => intro _ _ _ _ _ _; exact x_none
  | succ n ih =>
    intro x0 x1 x2 x3 x4 h
    rw [f_X11_putInOrder_L5]
    refine x_iload (p' := 7) hC 4 (dAt dd_X11_putInOrder 4 rfl) rfl rfl ?_
    refine x_iload_n (p' := 8) hC 2 (dAt dd_X11_putInOrder 5 rfl) rfl rfl rfl ?_
    refine x_icmp_ge (tgt := 189) (p' := 11) hC (dAt dd_X11_putInOrder 6 rfl) (by decide) rfl ?_ ?_
    · refine x_sub [0, 1, 3] rfl ?_
      exact hk189 x0 x1 x3 h
    · refine x_iconst (v := 0) (p' := 12) hC (dAt dd_X11_putInOrder 7 rfl) (by decide) rfl ?_
      refine x_istore (lv' := [(5, .int 0), (0, va_rf (some x0)), (1, .int x1), (2, .int x2), (3, .int x3), (4, .int x4)]) (p' := 14) hC (dAt dd_X11_putInOrder 8 rfl) (by decide) rfl rfl ?_
      refine x_iload (p' := 16) hC 5 (dAt dd_X11_putInOrder 9 rfl) rfl rfl ?_
      refine x_istore (lv' := [(6, .int x4), (5, .int 0), (0, va_rf (some x0)), (1, .int x1), (2, .int x2), (3, .int x3), (4, .int x4)]) (p' := 18) hC (dAt dd_X11_putInOrder 10 rfl) (by decide) rfl rfl ?_
      refine x_iconst (v := 1) (p' := 19) hC (dAt dd_X11_putInOrder 11 rfl) (by decide) rfl ?_
      refine x_istore (lv' := [(7, .int 1), (6, .int x4), (5, .int 0), (0, va_rf (some x0)), (1, .int x1), (2, .int x2), (3, .int x3), (4, .int x4)]) (p' := 21) hC (dAt dd_X11_putInOrder 12 rfl) (by decide) rfl rfl ?_
      refine x_sub [3, 4, 5, 6, 7, 2, 1, 0] rfl ?_
      exact t_X11_putInOrder_L21 hC (f_X11_putInOrder_J82 (f_X11_putInOrder_L5 k189 n)) (t_X11_putInOrder_J82 hC (f_X11_putInOrder_L5 k189 n) ih) FU x0 x1 x2 x3 x4 0 x4 1 h
set_option maxHeartbeats 4000000 in
set_option maxRecDepth 100000 in
theorem t_X11_putInOrder_L204 {C : CT} (hC : OKC C yX11_putInOrder cX11_putInOrder 9 none 2 48) (k247 : Nat → Int32 → Int32 → Int32 → Int32 → AH → RX Unit) (hk247 : ∀ (x0 : Nat) (x1 : Int32) (x3 : Int32) (x5 : Int32) (x6 : Int32) (h : AH), WX rvV C 247 [(0, va_rf (some x0)), (1, .int x1), (3, .int x3), (5, .int x5), (6, .int x6)] [] h (k247 x0 x1 x3 x5 x6 h)) : ∀ (n : Nat) (x0 : Nat) (x1 : Int32) (x3 : Int32) (x5 : Int32) (x6 : Int32) (x7 : Int32) (h : AH), WX rvV C 204 [(0, va_rf (some x0)), (1, .int x1), (3, .int x3), (5, .int x5), (6, .int x6), (7, .int x7)] [] h (f_X11_putInOrder_L204 k247 n x0 x1 x3 x5 x6 x7 h) := by
  intro n
  induction n with
  | zero => intro _ _ _ _ _ _ _; exact x_none
  | succ n ih =>
    intro x0 x1 x3 x5 x6 x7 h
    rw [f_X11_putInOrder_L204]
    refine x_iload (p' := 206) hC 5 (dAt dd_X11_putInOrder 111 rfl) rfl rfl ?_
    refine x_aload_n (p' := 207) hC 0 (dAt dd_X11_putInOrder 112 rfl) rfl rfl rfl ?_
    refine x_getR (p' := 210) hC fk_RX11_39 rfl (dAt dd_X11_putInOrder 113 rfl) rfl (fun r23 => ?_)
    refine x_iload (p' := 212) hC 4 (dAt dd_X11_putInOrder 114 rfl) rfl rfl ?_
    refine x_iaload (p' := 213) hC (dAt dd_X11_putInOrder 115 rfl) rfl (fun v24 => ?_)
    refine x_icmp_ge (tgt := 247) (p' := 216) hC (dAt dd_X11_putInOrder 116 rfl) (by decide) rfl ?_ ?_
    · refine x_sub [0, 1, 2, 3, 4] rfl ?_
      exact hk247 x0 x1 x3 x5 x6 h
    · refine x_aload_n (p' := 217) hC 0 (dAt dd_X11_putInOrder 117 rfl) rfl rfl rfl ?_
      refine x_getR (p' := 220) hC fk_RX11_30 rfl (dAt dd_X11_putInOrder 118 rfl) rfl (fun r25 => ?_)
      refine x_iload (p' := 222) hC 3 (dAt dd_X11_putInOrder 119 rfl) rfl rfl ?_
      refine x_aload_n (p' := 223) hC 0 (dAt dd_X11_putInOrder 120 rfl) rfl rfl rfl ?_
      refine x_getR (p' := 226) hC fk_RX11_27 rfl (dAt dd_X11_putInOrder 121 rfl) rfl (fun r26 => ?_)
      refine x_aload_n (p' := 227) hC 0 (dAt dd_X11_putInOrder 122 rfl) rfl rfl rfl ?_
      refine x_getR (p' := 230) hC fk_RX11_36 rfl (dAt dd_X11_putInOrder 123 rfl) rfl (fun r27 => ?_)
      refine x_iload (p' := 232) hC 4 (dAt dd_X11_putInOrder 124 rfl) rfl rfl ?_
      refine x_iaload (p' := 233) hC (dAt dd_X11_putInOrder 125 rfl) rfl (fun v28 => ?_)
      refine x_iload (p' := 235) hC 5 (dAt dd_X11_putInOrder 126 rfl) rfl rfl ?_
      refine x_iadd (p' := 236) hC (dAt dd_X11_putInOrder 127 rfl) rfl ?_
      refine x_iaload (p' := 237) hC (dAt dd_X11_putInOrder 128 rfl) rfl (fun v29 => ?_)
      refine x_iastore (p' := 238) hC (dAt dd_X11_putInOrder 129 rfl) rfl (fun h30 => ?_)
      refine x_iinc (w := (x5 + 1)) (lv' := [(5, .int (x5 + 1)), (0, va_rf (some x0)), (1, .int x1), (3, .int x3), (6, .int x6), (7, .int x7)]) (p' := 241) hC 3 (dAt dd_X11_putInOrder 130 rfl) rfl rfl (by decide) rfl rfl ?_
      refine x_iinc (w := (x7 + 1)) (lv' := [(7, .int (x7 + 1)), (5, .int (x5 + 1)), (0, va_rf (some x0)), (1, .int x1), (3, .int x3), (6, .int x6)]) (p' := 244) hC 5 (dAt dd_X11_putInOrder 131 rfl) rfl rfl (by decide) rfl rfl ?_
      refine x_goto (tgt := 204) hC (dAt dd_X11_putInOrder 132 rfl) (by decide) ?_
      refine x_sub [2, 3, 4, 1, 5, 0] rfl ?_
      exact ih x0 x1 x3 (x5 + 1) x6 (x7 + 1) h30
set_option maxHeartbeats 4000000 in
set_option maxRecDepth 100000 in
theorem t_X11_putInOrder_J247 {C : CT} (hC : OKC C yX11_putInOrder cX11_putInOrder 9 none 2 48) (k195 : Nat → Int32 → Int32 → Int32 → Int32 → AH → RX Unit) (hk195 : ∀ (x0 : Nat) (x1 : Int32) (x3 : Int32) (x5 : Int32) (x6 : Int32) (h : AH), WX rvV C 195 [(0, va_rf (some x0)), (1, .int x1), (3, .int x3), (5, .int x5), (6, .int x6)] [] h (k195 x0 x1 x3 x5 x6 h)) : ∀ (x0 : Nat) (x1 : Int32) (x3 : Int32) (x5 : Int32) (x6 : Int32) (h : AH), WX rvV C 247 [(0, va_rf (some x0)), (1, .int x1), (3, .int x3), (5, .int x5), (6, .int x6)] [] h (f_X11_putInOrder_J247 k195 x0 x1 x3 x5 x6 h) := by
  intro x0 x1 x3 x5 x6 h
  unfold f_X11_putInOrder_J247
  refine x_iinc (w := (x6 + 1)) (lv' := [(6, .int (x6 + 1)), (0, va_rf (some x0)), (1, .int x1), (3, .int x3), (5, .int x5)]) (p' := 250) hC 4 (dAt dd_X11_putInOrder 133 rfl) rfl rfl (by decide) rfl rfl ?_
  refine x_goto (tgt := 195) hC (dAt dd_X11_putInOrder 134 rfl) (by decide) ?_
  refine x_sub [1, 2, 3, 4, 0] rfl ?_
  exact hk195 x0 x1 x3 x5 (x6 + 1) h
set_option maxHeartbeats 4000000 in
set_option maxRecDepth 100000 in
theorem t_X11_putInOrder_L195 {C : CT} (hC : OKC C yX11_putInOrder cX11_putInOrder 9 none 2 48) (k253 : Nat → Int32 → Int32 → AH → RX Unit) (hk253 : ∀ (x0 : Nat) (x1 : Int32) (x5 : Int32) (h : AH), WX rvV C 253 [(0, va_rf (some x0)), (1, .int x1), (5, .int x5)] [] h (k253 x0 x1 x5 h)) : ∀ (n : Nat) (x0 : Nat) (x1 : Int32) (x3 : Int32) (x5 : Int32) (x6 : Int32) (h : AH), WX rvV C 195 [(0, va_rf (some x0)), (1, .int x1), (3, .int x3), (5, .int x5), (6, .int x6)] [] h (f_X11_putInOrder_L195 k253 n x0 x1 x3 x5 x6 h) := by
  intro n
  induction n with
  | zero => intro _ _ _ _ _ _; exact x_none
  | succ n ih =>
    intro x0 x1 x3 x5 x6 h
    rw [f_X11_putInOrder_L195]
    refine x_iload (p' := 197) hC 4 (dAt dd_X11_putInOrder 106 rfl) rfl rfl ?_
    refine x_iload_n (p' := 198) hC 2 (dAt dd_X11_putInOrder 107 rfl) rfl rfl rfl ?_
    refine x_icmp_ge (tgt := 253) (p' := 201) hC (dAt dd_X11_putInOrder 108 rfl) (by decide) rfl ?_ ?_
    · refine x_sub [0, 1, 3] rfl ?_
      exact hk253 x0 x1 x5 h
    · refine x_iconst (v := 0) (p' := 202) hC (dAt dd_X11_putInOrder 109 rfl) (by decide) rfl ?_
      refine x_istore (lv' := [(7, .int 0), (0, va_rf (some x0)), (1, .int x1), (3, .int x3), (5, .int x5), (6, .int x6)]) (p' := 204) hC (dAt dd_X11_putInOrder 110 rfl) (by decide) rfl rfl ?_
      refine x_sub [1, 2, 3, 4, 5, 0] rfl ?_
      exact t_X11_putInOrder_L204 hC (f_X11_putInOrder_J247 (f_X11_putInOrder_L195 k253 n)) (t_X11_putInOrder_J247 hC (f_X11_putInOrder_L195 k253 n) ih) FU x0 x1 x3 x5 x6 0 h
set_option maxHeartbeats 4000000 in
set_option maxRecDepth 100000 in
theorem t_X11_putInOrder_L256 {C : CT} (hC : OKC C yX11_putInOrder cX11_putInOrder 9 none 2 48)   : ∀ (n : Nat) (x0 : Nat) (x1 : Int32) (x5 : Int32) (x6 : Int32) (h : AH), WX rvV C 256 [(0, va_rf (some x0)), (1, .int x1), (5, .int x5), (6, .int x6)] [] h (f_X11_putInOrder_L256 n x0 x1 x5 x6 h) := by
  intro n
  induction n with
  | zero => intro _ _ _ _ _; exact x_none
  | succ n ih =>
    intro x0 x1 x5 x6 h
    rw [f_X11_putInOrder_L256]
    refine x_iload (p' := 258) hC 3 (dAt dd_X11_putInOrder 137 rfl) rfl rfl ?_
    refine x_iload (p' := 260) hC 2 (dAt dd_X11_putInOrder 138 rfl) rfl rfl ?_
    refine x_icmp_ge (tgt := 285) (p' := 263) hC (dAt dd_X11_putInOrder 139 rfl) (by decide) rfl ?_ ?_
    · exact x_return hC (dAt dd_X11_putInOrder 152 rfl)
    · refine x_aload_n (p' := 264) hC 0 (dAt dd_X11_putInOrder 140 rfl) rfl rfl rfl ?_
      refine x_getR (p' := 267) hC fk_RX11_27 rfl (dAt dd_X11_putInOrder 141 rfl) rfl (fun r31 => ?_)
      refine x_iload_n (p' := 268) hC 1 (dAt dd_X11_putInOrder 142 rfl) rfl rfl rfl ?_
      refine x_iload (p' := 270) hC 3 (dAt dd_X11_putInOrder 143 rfl) rfl rfl ?_
      refine x_iadd (p' := 271) hC (dAt dd_X11_putInOrder 144 rfl) rfl ?_
      refine x_aload_n (p' := 272) hC 0 (dAt dd_X11_putInOrder 145 rfl) rfl rfl rfl ?_
      refine x_getR (p' := 275) hC fk_RX11_30 rfl (dAt dd_X11_putInOrder 146 rfl) rfl (fun r32 => ?_)
      refine x_iload (p' := 277) hC 3 (dAt dd_X11_putInOrder 147 rfl) rfl rfl ?_
      refine x_iaload (p' := 278) hC (dAt dd_X11_putInOrder 148 rfl) rfl (fun v33 => ?_)
      refine x_iastore (p' := 279) hC (dAt dd_X11_putInOrder 149 rfl) rfl (fun h34 => ?_)
      refine x_iinc (w := (x6 + 1)) (lv' := [(6, .int (x6 + 1)), (0, va_rf (some x0)), (1, .int x1), (5, .int x5)]) (p' := 282) hC 3 (dAt dd_X11_putInOrder 150 rfl) rfl rfl (by decide) rfl rfl ?_
      refine x_goto (tgt := 256) hC (dAt dd_X11_putInOrder 151 rfl) (by decide) ?_
      refine x_sub [1, 2, 3, 0] rfl ?_
      exact ih x0 x1 x5 (x6 + 1) h34
set_option maxHeartbeats 4000000 in
set_option maxRecDepth 100000 in
theorem t_X11_putInOrder_J253 {C : CT} (hC : OKC C yX11_putInOrder cX11_putInOrder 9 none 2 48)   : ∀ (x0 : Nat) (x1 : Int32) (x5 : Int32) (h : AH), WX rvV C 253 [(0, va_rf (some x0)), (1, .int x1), (5, .int x5)] [] h (f_X11_putInOrder_J253 x0 x1 x5 h) := by
  intro x0 x1 x5 h
  unfold f_X11_putInOrder_J253
  refine x_iconst (v := 0) (p' := 254) hC (dAt dd_X11_putInOrder 135 rfl) (by decide) rfl ?_
  refine x_istore (lv' := [(6, .int 0), (0, va_rf (some x0)), (1, .int x1), (5, .int x5)]) (p' := 256) hC (dAt dd_X11_putInOrder 136 rfl) (by decide) rfl rfl ?_
  refine x_sub [1, 2, 3, 0] rfl ?_
  exact t_X11_putInOrder_L256 hC FU x0 x1 x5 0 h
set_option maxHeartbeats 4000000 in
set_option maxRecDepth 100000 in
theorem t_X11_putInOrder_J189 {C : CT} (hC : OKC C yX11_putInOrder cX11_putInOrder 9 none 2 48)   : ∀ (x0 : Nat) (x1 : Int32) (x3 : Int32) (h : AH), WX rvV C 189 [(0, va_rf (some x0)), (1, .int x1), (3, .int x3)] [] h (f_X11_putInOrder_J189 x0 x1 x3 h) := by
  intro x0 x1 x3 h
  unfold f_X11_putInOrder_J189
  refine x_iconst (v := 0) (p' := 190) hC (dAt dd_X11_putInOrder 102 rfl) (by decide) rfl ?_
  refine x_istore (lv' := [(5, .int 0), (0, va_rf (some x0)), (1, .int x1), (3, .int x3)]) (p' := 192) hC (dAt dd_X11_putInOrder 103 rfl) (by decide) rfl rfl ?_
  refine x_iconst (v := 0) (p' := 193) hC (dAt dd_X11_putInOrder 104 rfl) (by decide) rfl ?_
  refine x_istore (lv' := [(6, .int 0), (5, .int 0), (0, va_rf (some x0)), (1, .int x1), (3, .int x3)]) (p' := 195) hC (dAt dd_X11_putInOrder 105 rfl) (by decide) rfl rfl ?_
  refine x_sub [2, 3, 4, 1, 0] rfl ?_
  exact t_X11_putInOrder_L195 hC f_X11_putInOrder_J253 (t_X11_putInOrder_J253 hC) FU x0 x1 x3 0 0 h
set_option maxHeartbeats 4000000 in
set_option maxRecDepth 100000 in
theorem c_X11_putInOrder (l : Launch) (D : va_G) (cy : Nat → ClassId) (h : AH) (a0 : Nat) (p1 : Int32) (p2 : Int32) : MX rvV l yX11_putInOrder (Cond.code yX11_putInOrder cX11_putInOrder 9 none :: LW) 2 48 D cy h [va_rf (some a0), .int p1, .int p2] (f_X11_putInOrder h a0 p1 p2) := by
  refine MX.of (lv := [(0, va_rf (some a0)), (1, .int p1), (2, .int p2)]) (by decide) (Nat.le_of_ble_eq_true rfl) rfl (fun C hC _ => ?_)
  unfold f_X11_putInOrder
  refine x_iconst (v := 0) (p' := 1) hC (dAt dd_X11_putInOrder 0 rfl) (by decide) rfl ?_
  refine x_istore_n (j := 3) (lv' := [(3, .int 0), (0, va_rf (some a0)), (1, .int p1), (2, .int p2)]) (p' := 2) hC (dAt dd_X11_putInOrder 1 rfl) rfl (by decide) rfl rfl ?_
  refine x_iload_n (p' := 3) hC 2 (dAt dd_X11_putInOrder 2 rfl) rfl rfl rfl ?_
  refine x_istore (lv' := [(4, .int p1), (3, .int 0), (0, va_rf (some a0)), (1, .int p1), (2, .int p2)]) (p' := 5) hC (dAt dd_X11_putInOrder 3 rfl) (by decide) rfl rfl ?_
  refine x_sub [2, 3, 4, 1, 0] rfl ?_
  exact t_X11_putInOrder_L5 hC f_X11_putInOrder_J189 (t_X11_putInOrder_J189 hC) FU a0 p1 p2 0 p1 h
set_option maxHeartbeats 4000000 in
set_option maxRecDepth 100000 in
theorem t_X11_foldRow_L3 {C : CT} (hC : OKC C yX11_foldRow cX11_foldRow 8 none 3 76) (k61 : Nat → Int32 → AH → RX Unit) (hk61 : ∀ (x0 : Nat) (x3 : Int32) (h : AH), WX rvV C 61 [(0, va_rf (some x0)), (3, .int x3)] [] h (k61 x0 x3 h)) : ∀ (n : Nat) (x0 : Nat) (x1 : Option Nat) (x2 : Int32) (x3 : Int32) (x4 : Int32) (h : AH), WX rvV C 3 [(0, va_rf (some x0)), (1, va_rf x1), (2, .int x2), (3, .int x3), (4, .int x4)] [] h (f_X11_foldRow_L3 k61 n x0 x1 x2 x3 x4 h) := by
  intro n
  induction n with
  | zero => intro _ _ _ _ _ _; exact x_none
  | succ n ih =>
    intro x0 x1 x2 x3 x4 h
    rw [f_X11_foldRow_L3]
    refine x_iload (p' := 5) hC 4 (dAt dd_X11_foldRow 2 rfl) rfl rfl ?_
    refine x_iload_n (p' := 6) hC 3 (dAt dd_X11_foldRow 3 rfl) rfl rfl rfl ?_
    refine x_icmp_ge (tgt := 61) (p' := 9) hC (dAt dd_X11_foldRow 4 rfl) (by decide) rfl ?_ ?_
    · refine x_sub [0, 3] rfl ?_
      exact hk61 x0 x3 h
    · refine x_aload_n (p' := 10) hC 1 (dAt dd_X11_foldRow 5 rfl) rfl rfl rfl ?_
      refine x_iload_n (p' := 11) hC 2 (dAt dd_X11_foldRow 6 rfl) rfl rfl rfl ?_
      refine x_iload (p' := 13) hC 4 (dAt dd_X11_foldRow 7 rfl) rfl rfl ?_
      refine x_iadd (p' := 14) hC (dAt dd_X11_foldRow 8 rfl) rfl ?_
      refine x_iaload (p' := 15) hC (dAt dd_X11_foldRow 9 rfl) rfl (fun v1 => ?_)
      refine x_istore (lv' := [(5, .int v1), (0, va_rf (some x0)), (1, va_rf x1), (2, .int x2), (3, .int x3), (4, .int x4)]) (p' := 17) hC (dAt dd_X11_foldRow 10 rfl) (by decide) rfl rfl ?_
      refine x_aload_n (p' := 18) hC 1 (dAt dd_X11_foldRow 11 rfl) rfl rfl rfl ?_
      refine x_getR (p' := 21) hC fk_RX11_27 rfl (dAt dd_X11_foldRow 12 rfl) rfl (fun r2 => ?_)
      refine x_iload (p' := 23) hC 5 (dAt dd_X11_foldRow 13 rfl) rfl rfl ?_
      refine x_aload_n (p' := 24) hC 1 (dAt dd_X11_foldRow 14 rfl) rfl rfl rfl ?_
      refine x_getI (p' := 27) hC fk_RX11_147 rfl (dAt dd_X11_foldRow 15 rfl) rfl (fun v3 => ?_)
      refine x_iconst (v := 1) (p' := 28) hC (dAt dd_X11_foldRow 16 rfl) (by decide) rfl ?_
      refine x_iand (p' := 29) hC (dAt dd_X11_foldRow 17 rfl) rfl ?_
      refine x_iconst (v := 1) (p' := 30) hC (dAt dd_X11_foldRow 18 rfl) (by decide) rfl ?_
      refine x_icmp_ne (tgt := 52) (p' := 33) hC (dAt dd_X11_foldRow 19 rfl) (by decide) rfl ?_ ?_
      · refine x_iload (p' := 54) hC 0 (dAt dd_X11_foldRow 28 rfl) rfl rfl ?_
        refine x_iastore (p' := 55) hC (dAt dd_X11_foldRow 29 rfl) rfl (fun h4 => ?_)
        refine x_iinc (w := (x4 + 1)) (lv' := [(4, .int (x4 + 1)), (5, .int v1), (0, va_rf (some x0)), (1, va_rf x1), (2, .int x2), (3, .int x3)]) (p' := 58) hC 5 (dAt dd_X11_foldRow 30 rfl) rfl rfl (by decide) rfl rfl ?_
        refine x_goto (tgt := 3) hC (dAt dd_X11_foldRow 31 rfl) (by decide) ?_
        refine x_sub [2, 3, 4, 5, 0] rfl ?_
        exact ih x0 x1 x2 x3 (x4 + 1) h4
      · refine x_iload (p' := 35) hC 0 (dAt dd_X11_foldRow 20 rfl) rfl rfl ?_
        refine x_bipush (v := 100) (p' := 37) hC (dAt dd_X11_foldRow 21 rfl) (by decide) rfl ?_
        refine x_icmp_lt (tgt := 52) (p' := 40) hC (dAt dd_X11_foldRow 22 rfl) (by decide) rfl ?_ ?_
        · refine x_iload (p' := 54) hC 0 (dAt dd_X11_foldRow 28 rfl) rfl rfl ?_
          refine x_iastore (p' := 55) hC (dAt dd_X11_foldRow 29 rfl) rfl (fun h5 => ?_)
          refine x_iinc (w := (x4 + 1)) (lv' := [(4, .int (x4 + 1)), (5, .int v1), (0, va_rf (some x0)), (1, va_rf x1), (2, .int x2), (3, .int x3)]) (p' := 58) hC 5 (dAt dd_X11_foldRow 30 rfl) rfl rfl (by decide) rfl rfl ?_
          refine x_goto (tgt := 3) hC (dAt dd_X11_foldRow 31 rfl) (by decide) ?_
          refine x_sub [2, 3, 4, 5, 0] rfl ?_
          exact ih x0 x1 x2 x3 (x4 + 1) h5
        · refine x_iload (p' := 42) hC 0 (dAt dd_X11_foldRow 23 rfl) rfl rfl ?_
          refine x_bipush (v := 109) (p' := 44) hC (dAt dd_X11_foldRow 24 rfl) (by decide) rfl ?_
          refine x_icmp_gt (tgt := 52) (p' := 47) hC (dAt dd_X11_foldRow 25 rfl) (by decide) rfl ?_ ?_
          · refine x_iload (p' := 54) hC 0 (dAt dd_X11_foldRow 28 rfl) rfl rfl ?_
            refine x_iastore (p' := 55) hC (dAt dd_X11_foldRow 29 rfl) rfl (fun h6 => ?_)
            refine x_iinc (w := (x4 + 1)) (lv' := [(4, .int (x4 + 1)), (5, .int v1), (0, va_rf (some x0)), (1, va_rf x1), (2, .int x2), (3, .int x3)]) (p' := 58) hC 5 (dAt dd_X11_foldRow 30 rfl) rfl rfl (by decide) rfl rfl ?_
            refine x_goto (tgt := 3) hC (dAt dd_X11_foldRow 31 rfl) (by decide) ?_
            refine x_sub [2, 3, 4, 5, 0] rfl ?_
            exact ih x0 x1 x2 x3 (x4 + 1) h6
          · refine x_bipush (v := 100) (p' := 49) hC (dAt dd_X11_foldRow 26 rfl) (by decide) rfl ?_
            refine x_goto (tgt := 54) hC (dAt dd_X11_foldRow 27 rfl) (by decide) ?_
            refine x_iastore (p' := 55) hC (dAt dd_X11_foldRow 29 rfl) rfl (fun h7 => ?_)
            refine x_iinc (w := (x4 + 1)) (lv' := [(4, .int (x4 + 1)), (5, .int v1), (0, va_rf (some x0)), (1, va_rf x1), (2, .int x2), (3, .int x3)]) (p' := 58) hC 5 (dAt dd_X11_foldRow 30 rfl) rfl rfl (by decide) rfl rfl ?_
            refine x_goto (tgt := 3) hC (dAt dd_X11_foldRow 31 rfl) (by decide) ?_
            refine x_sub [2, 3, 4, 5, 0] rfl ?_
            exact ih x0 x1 x2 x3 (x4 + 1) h7
set_option maxHeartbeats 4000000 in
set_option maxRecDepth 100000 in
theorem t_X11_foldRow_L67 {C : CT} (hC : OKC C yX11_foldRow cX11_foldRow 8 none 3 76) (k146 : Nat → Int32 → AH → RX Unit) (hk146 : ∀ (x0 : Nat) (x3 : Int32) (h : AH), WX rvV C 146 [(0, va_rf (some x0)), (3, .int x3)] [] h (k146 x0 x3 h)) : ∀ (n : Nat) (x0 : Nat) (x3 : Int32) (x4 : Int32) (x5 : Int32) (h : AH), WX rvV C 67 [(0, va_rf (some x0)), (3, .int x3), (4, .int x4), (5, .int x5)] [] h (f_X11_foldRow_L67 k146 n x0 x3 x4 x5 h) := by
  intro n
  induction n with
  | zero => intro _ _ _ _ _; exact x_none
  | succ n ih =>
    intro x0 x3 x4 x5 h
    rw [f_X11_foldRow_L67]
    refine x_iload (p' := 69) hC 3 (dAt dd_X11_foldRow 36 rfl) rfl rfl ?_
    refine x_iload_n (p' := 70) hC 1 (dAt dd_X11_foldRow 37 rfl) rfl rfl rfl ?_
    refine x_icmp_ge (tgt := 146) (p' := 73) hC (dAt dd_X11_foldRow 38 rfl) (by decide) rfl ?_ ?_
    · refine x_sub [0, 1] rfl ?_
      exact hk146 x0 x3 h
    · refine x_aload_n (p' := 74) hC 0 (dAt dd_X11_foldRow 39 rfl) rfl rfl rfl ?_
      refine x_getI (p' := 77) hC fk_RX11_147 rfl (dAt dd_X11_foldRow 40 rfl) rfl (fun v8 => ?_)
      refine x_iconst (v := 4) (p' := 78) hC (dAt dd_X11_foldRow 41 rfl) (by decide) rfl ?_
      refine x_iand (p' := 79) hC (dAt dd_X11_foldRow 42 rfl) rfl ?_
      refine x_iconst (v := 4) (p' := 80) hC (dAt dd_X11_foldRow 43 rfl) (by decide) rfl ?_
      refine x_icmp_ne (tgt := 146) (p' := 83) hC (dAt dd_X11_foldRow 44 rfl) (by decide) rfl ?_ ?_
      · refine x_sub [0, 1] rfl ?_
        exact hk146 x0 x3 h
      · refine x_aload_n (p' := 84) hC 0 (dAt dd_X11_foldRow 45 rfl) rfl rfl rfl ?_
        refine x_getR (p' := 87) hC fk_RX11_27 rfl (dAt dd_X11_foldRow 46 rfl) rfl (fun r9 => ?_)
        refine x_iload (p' := 89) hC 3 (dAt dd_X11_foldRow 47 rfl) rfl rfl ?_
        refine x_iaload (p' := 90) hC (dAt dd_X11_foldRow 48 rfl) rfl (fun v10 => ?_)
        refine x_bipush (v := 120) (p' := 92) hC (dAt dd_X11_foldRow 49 rfl) (by decide) rfl ?_
        refine x_icmp_ne (tgt := 110) (p' := 95) hC (dAt dd_X11_foldRow 50 rfl) (by decide) rfl ?_ ?_
        · refine x_aload_n (p' := 111) hC 0 (dAt dd_X11_foldRow 58 rfl) rfl rfl rfl ?_
          refine x_getR (p' := 114) hC fk_RX11_27 rfl (dAt dd_X11_foldRow 59 rfl) rfl (fun r11 => ?_)
          refine x_iload (p' := 116) hC 3 (dAt dd_X11_foldRow 60 rfl) rfl rfl ?_
          refine x_iaload (p' := 117) hC (dAt dd_X11_foldRow 61 rfl) rfl (fun v12 => ?_)
          refine x_bipush (v := 121) (p' := 119) hC (dAt dd_X11_foldRow 62 rfl) (by decide) rfl ?_
          refine x_icmp_ne (tgt := 140) (p' := 122) hC (dAt dd_X11_foldRow 63 rfl) (by decide) rfl ?_ ?_
          · refine x_iinc (w := (x5 + 1)) (lv' := [(5, .int (x5 + 1)), (0, va_rf (some x0)), (3, .int x3), (4, .int x4)]) (p' := 143) hC 3 (dAt dd_X11_foldRow 74 rfl) rfl rfl (by decide) rfl rfl ?_
            refine x_goto (tgt := 67) hC (dAt dd_X11_foldRow 75 rfl) (by decide) ?_
            refine x_sub [1, 2, 3, 0] rfl ?_
            exact ih x0 x3 x4 (x5 + 1) h
          · refine x_iinc (w := (x4 + (-1))) (lv' := [(4, .int (x4 + (-1))), (0, va_rf (some x0)), (3, .int x3), (5, .int x5)]) (p' := 125) hC 2 (dAt dd_X11_foldRow 64 rfl) rfl rfl (by decide) rfl rfl ?_
            refine x_aload_n (p' := 126) hC 1 (dAt dd_X11_foldRow 65 rfl) rfl rfl rfl ?_
            refine x_aload_n (p' := 127) hC 1 (dAt dd_X11_foldRow 66 rfl) rfl rfl rfl ?_
            refine x_getR (p' := 130) hC fk_RX11_33 rfl (dAt dd_X11_foldRow 67 rfl) rfl (fun r13 => ?_)
            refine x_iload (p' := 132) hC 0 (dAt dd_X11_foldRow 68 rfl) rfl rfl ?_
            refine x_iaload (p' := 133) hC (dAt dd_X11_foldRow 69 rfl) rfl (fun v14 => ?_)
            refine x_iconst (v := 1) (p' := 134) hC (dAt dd_X11_foldRow 70 rfl) (by decide) rfl ?_
            refine x_iadd (p' := 135) hC (dAt dd_X11_foldRow 71 rfl) rfl ?_
            refine x_iload (p' := 137) hC 3 (dAt dd_X11_foldRow 72 rfl) rfl rfl ?_
            refine x_callVV (As := [.int (v14 + 1), .int x5]) (z := fun b => f_X11_putInOrder h b (v14 + 1) x5) (p' := 140) hC (fun b => c_X11_putInOrder _ _ _ h b (v14 + 1) x5) k_949 k_951 (k_sl 38 rfl) k_9 k_952 hd_X11_putInOrder ⟨by decide, by decide⟩ (ci := 10) rfl rfl (by decide) rfl (Nat.le_of_ble_eq_true rfl) rfl (dAt dd_X11_foldRow 73 rfl) rfl (fun u15 h16 => ?_)
            refine x_iinc (w := (x5 + 1)) (lv' := [(5, .int (x5 + 1)), (4, .int (x4 + (-1))), (0, va_rf (some x0)), (3, .int x3)]) (p' := 143) hC 3 (dAt dd_X11_foldRow 74 rfl) rfl rfl (by decide) rfl rfl ?_
            refine x_goto (tgt := 67) hC (dAt dd_X11_foldRow 75 rfl) (by decide) ?_
            refine x_sub [2, 3, 1, 0] rfl ?_
            exact ih x0 x3 (x4 + (-1)) (x5 + 1) h16
        · refine x_aload_n (p' := 96) hC 0 (dAt dd_X11_foldRow 51 rfl) rfl rfl rfl ?_
          refine x_getR (p' := 99) hC fk_RX11_33 rfl (dAt dd_X11_foldRow 52 rfl) rfl (fun r17 => ?_)
          refine x_iload (p' := 101) hC 2 (dAt dd_X11_foldRow 53 rfl) rfl rfl ?_
          refine x_iload (p' := 103) hC 3 (dAt dd_X11_foldRow 54 rfl) rfl rfl ?_
          refine x_iastore (p' := 104) hC (dAt dd_X11_foldRow 55 rfl) rfl (fun h18 => ?_)
          refine x_iinc (w := (x4 + 1)) (lv' := [(4, .int (x4 + 1)), (0, va_rf (some x0)), (3, .int x3), (5, .int x5)]) (p' := 107) hC 2 (dAt dd_X11_foldRow 56 rfl) rfl rfl (by decide) rfl rfl ?_
          refine x_goto (tgt := 140) hC (dAt dd_X11_foldRow 57 rfl) (by decide) ?_
          refine x_iinc (w := (x5 + 1)) (lv' := [(5, .int (x5 + 1)), (4, .int (x4 + 1)), (0, va_rf (some x0)), (3, .int x3)]) (p' := 143) hC 3 (dAt dd_X11_foldRow 74 rfl) rfl rfl (by decide) rfl rfl ?_
          refine x_goto (tgt := 67) hC (dAt dd_X11_foldRow 75 rfl) (by decide) ?_
          refine x_sub [2, 3, 1, 0] rfl ?_
          exact ih x0 x3 (x4 + 1) (x5 + 1) h18
set_option maxHeartbeats 4000000 in
set_option maxRecDepth 100000 in
theorem t_X11_foldRow_L149 {C : CT} (hC : OKC C yX11_foldRow cX11_foldRow 8 none 3 76) (k171 : Nat → Int32 → AH → RX Unit) (hk171 : ∀ (x0 : Nat) (x3 : Int32) (h : AH), WX rvV C 171 [(0, va_rf (some x0)), (3, .int x3)] [] h (k171 x0 x3 h)) : ∀ (n : Nat) (x0 : Nat) (x3 : Int32) (x5 : Int32) (h : AH), WX rvV C 149 [(0, va_rf (some x0)), (3, .int x3), (5, .int x5)] [] h (f_X11_foldRow_L149 k171 n x0 x3 x5 h) := by
  intro n
  induction n with
  | zero => intro _ _ _ _; exact x_none
  | succ n ih =>
    intro x0 x3 x5 h
    rw [f_X11_foldRow_L149]
    refine x_iload (p' := 151) hC 2 (dAt dd_X11_foldRow 78 rfl) rfl rfl ?_
    refine x_bipush (v := 10) (p' := 153) hC (dAt dd_X11_foldRow 79 rfl) (by decide) rfl ?_
    refine x_icmp_ge (tgt := 171) (p' := 156) hC (dAt dd_X11_foldRow 80 rfl) (by decide) rfl ?_ ?_
    · refine x_sub [0, 1] rfl ?_
      exact hk171 x0 x3 h
    · refine x_aload_n (p' := 157) hC 0 (dAt dd_X11_foldRow 81 rfl) rfl rfl rfl ?_
      refine x_getR (p' := 160) hC fk_RX11_42 rfl (dAt dd_X11_foldRow 82 rfl) rfl (fun r19 => ?_)
      refine x_iload (p' := 162) hC 2 (dAt dd_X11_foldRow 83 rfl) rfl rfl ?_
      refine x_ldc (v := (-1000000)) (p' := 164) hC (dAt dd_X11_foldRow 84 rfl) k_961 rfl ?_
      refine x_iastore (p' := 165) hC (dAt dd_X11_foldRow 85 rfl) rfl (fun h20 => ?_)
      refine x_iinc (w := (x5 + 1)) (lv' := [(5, .int (x5 + 1)), (0, va_rf (some x0)), (3, .int x3)]) (p' := 168) hC 2 (dAt dd_X11_foldRow 86 rfl) rfl rfl (by decide) rfl rfl ?_
      refine x_goto (tgt := 149) hC (dAt dd_X11_foldRow 87 rfl) (by decide) ?_
      refine x_sub [1, 2, 0] rfl ?_
      exact ih x0 x3 (x5 + 1) h20
set_option maxHeartbeats 4000000 in
set_option maxRecDepth 100000 in
theorem t_X11_foldRow_J249 {C : CT} (hC : OKC C yX11_foldRow cX11_foldRow 8 none 3 76) (k177 : Nat → Int32 → Int32 → Int32 → AH → RX Unit) (hk177 : ∀ (x0 : Nat) (x3 : Int32) (x5 : Int32) (x6 : Int32) (h : AH), WX rvV C 177 [(0, va_rf (some x0)), (3, .int x3), (5, .int x5), (6, .int x6)] [] h (k177 x0 x3 x5 x6 h)) : ∀ (x0 : Nat) (x3 : Int32) (x5 : Int32) (x6 : Int32) (x7 : Int32) (h : AH), WX rvV C 249 [(0, va_rf (some x0)), (3, .int x3), (5, .int x5), (6, .int x6), (7, .int x7)] [] h (f_X11_foldRow_J249 k177 x0 x3 x5 x6 x7 h) := by
  intro x0 x3 x5 x6 x7 h
  unfold f_X11_foldRow_J249
  refine x_aload_n (p' := 250) hC 0 (dAt dd_X11_foldRow 130 rfl) rfl rfl rfl ?_
  refine x_getR (p' := 253) hC fk_RX11_27 rfl (dAt dd_X11_foldRow 131 rfl) rfl (fun r26 => ?_)
  refine x_iload (p' := 255) hC 3 (dAt dd_X11_foldRow 132 rfl) rfl rfl ?_
  refine x_aload_n (p' := 256) hC 0 (dAt dd_X11_foldRow 133 rfl) rfl rfl rfl ?_
  refine x_getR (p' := 259) hC fk_RX11_42 rfl (dAt dd_X11_foldRow 134 rfl) rfl (fun r27 => ?_)
  refine x_iload (p' := 261) hC 4 (dAt dd_X11_foldRow 135 rfl) rfl rfl ?_
  refine x_bipush (v := 110) (p' := 263) hC (dAt dd_X11_foldRow 136 rfl) (by decide) rfl ?_
  refine x_isub (p' := 264) hC (dAt dd_X11_foldRow 137 rfl) rfl ?_
  refine x_iaload (p' := 265) hC (dAt dd_X11_foldRow 138 rfl) rfl (fun v28 => ?_)
  refine x_iastore (p' := 266) hC (dAt dd_X11_foldRow 139 rfl) rfl (fun h29 => ?_)
  refine x_iinc (w := (x6 + 1)) (lv' := [(6, .int (x6 + 1)), (0, va_rf (some x0)), (3, .int x3), (5, .int x5), (7, .int x7)]) (p' := 269) hC 3 (dAt dd_X11_foldRow 140 rfl) rfl rfl (by decide) rfl rfl ?_
  refine x_goto (tgt := 177) hC (dAt dd_X11_foldRow 141 rfl) (by decide) ?_
  refine x_sub [1, 2, 3, 0] rfl ?_
  exact hk177 x0 x3 x5 (x6 + 1) h29
set_option maxHeartbeats 4000000 in
set_option maxRecDepth 100000 in
theorem t_X11_foldRow_L177 {C : CT} (hC : OKC C yX11_foldRow cX11_foldRow 8 none 3 76)   : ∀ (n : Nat) (x0 : Nat) (x3 : Int32) (x5 : Int32) (x6 : Int32) (h : AH), WX rvV C 177 [(0, va_rf (some x0)), (3, .int x3), (5, .int x5), (6, .int x6)] [] h (f_X11_foldRow_L177 n x0 x3 x5 x6 h) := by
  intro n
  induction n with
  | zero => intro _ _ _ _ _; exact x_none
  | succ n ih =>
    intro x0 x3 x5 x6 h
    rw [f_X11_foldRow_L177]
    refine x_iload (p' := 179) hC 3 (dAt dd_X11_foldRow 92 rfl) rfl rfl ?_
    refine x_iload_n (p' := 180) hC 1 (dAt dd_X11_foldRow 93 rfl) rfl rfl rfl ?_
    refine x_icmp_ge (tgt := 272) (p' := 183) hC (dAt dd_X11_foldRow 94 rfl) (by decide) rfl ?_ ?_
    · exact x_return hC (dAt dd_X11_foldRow 142 rfl)
    · refine x_aload_n (p' := 184) hC 0 (dAt dd_X11_foldRow 95 rfl) rfl rfl rfl ?_
      refine x_getI (p' := 187) hC fk_RX11_147 rfl (dAt dd_X11_foldRow 96 rfl) rfl (fun v21 => ?_)
      refine x_iconst (v := 2) (p' := 188) hC (dAt dd_X11_foldRow 97 rfl) (by decide) rfl ?_
      refine x_iand (p' := 189) hC (dAt dd_X11_foldRow 98 rfl) rfl ?_
      refine x_iconst (v := 2) (p' := 190) hC (dAt dd_X11_foldRow 99 rfl) (by decide) rfl ?_
      refine x_icmp_ne (tgt := 272) (p' := 193) hC (dAt dd_X11_foldRow 100 rfl) (by decide) rfl ?_ ?_
      · exact x_return hC (dAt dd_X11_foldRow 142 rfl)
      · refine x_aload_n (p' := 194) hC 0 (dAt dd_X11_foldRow 101 rfl) rfl rfl rfl ?_
        refine x_getR (p' := 197) hC fk_RX11_27 rfl (dAt dd_X11_foldRow 102 rfl) rfl (fun r22 => ?_)
        refine x_iload (p' := 199) hC 3 (dAt dd_X11_foldRow 103 rfl) rfl rfl ?_
        refine x_iaload (p' := 200) hC (dAt dd_X11_foldRow 104 rfl) rfl (fun v23 => ?_)
        refine x_istore (lv' := [(7, .int v23), (0, va_rf (some x0)), (3, .int x3), (5, .int x5), (6, .int x6)]) (p' := 202) hC (dAt dd_X11_foldRow 105 rfl) (by decide) rfl rfl ?_
        refine x_iload (p' := 204) hC 0 (dAt dd_X11_foldRow 106 rfl) rfl rfl ?_
        refine x_bipush (v := 110) (p' := 206) hC (dAt dd_X11_foldRow 107 rfl) (by decide) rfl ?_
        refine x_icmp_lt (tgt := 266) (p' := 209) hC (dAt dd_X11_foldRow 108 rfl) (by decide) rfl ?_ ?_
        · refine x_iinc (w := (x6 + 1)) (lv' := [(6, .int (x6 + 1)), (7, .int v23), (0, va_rf (some x0)), (3, .int x3), (5, .int x5)]) (p' := 269) hC 4 (dAt dd_X11_foldRow 140 rfl) rfl rfl (by decide) rfl rfl ?_
          refine x_goto (tgt := 177) hC (dAt dd_X11_foldRow 141 rfl) (by decide) ?_
          refine x_sub [2, 3, 4, 0] rfl ?_
          exact ih x0 x3 x5 (x6 + 1) h
        · refine x_iload (p' := 211) hC 0 (dAt dd_X11_foldRow 109 rfl) rfl rfl ?_
          refine x_bipush (v := 119) (p' := 213) hC (dAt dd_X11_foldRow 110 rfl) (by decide) rfl ?_
          refine x_icmp_gt (tgt := 266) (p' := 216) hC (dAt dd_X11_foldRow 111 rfl) (by decide) rfl ?_ ?_
          · refine x_iinc (w := (x6 + 1)) (lv' := [(6, .int (x6 + 1)), (7, .int v23), (0, va_rf (some x0)), (3, .int x3), (5, .int x5)]) (p' := 269) hC 4 (dAt dd_X11_foldRow 140 rfl) rfl rfl (by decide) rfl rfl ?_
            refine x_goto (tgt := 177) hC (dAt dd_X11_foldRow 141 rfl) (by decide) ?_
            refine x_sub [2, 3, 4, 0] rfl ?_
            exact ih x0 x3 x5 (x6 + 1) h
          · refine x_aload_n (p' := 217) hC 1 (dAt dd_X11_foldRow 112 rfl) rfl rfl rfl ?_
            refine x_getR (p' := 220) hC fk_RX11_42 rfl (dAt dd_X11_foldRow 113 rfl) rfl (fun r24 => ?_)
            refine x_iload (p' := 222) hC 0 (dAt dd_X11_foldRow 114 rfl) rfl rfl ?_
            refine x_bipush (v := 110) (p' := 224) hC (dAt dd_X11_foldRow 115 rfl) (by decide) rfl ?_
            refine x_isub (p' := 225) hC (dAt dd_X11_foldRow 116 rfl) rfl ?_
            refine x_iaload (p' := 226) hC (dAt dd_X11_foldRow 117 rfl) rfl (fun v25 => ?_)
            refine x_ldc (v := (-1000000)) (p' := 228) hC (dAt dd_X11_foldRow 118 rfl) k_961 rfl ?_
            refine x_icmp_ne (tgt := 249) (p' := 231) hC (dAt dd_X11_foldRow 119 rfl) (by decide) rfl ?_ ?_
            · refine x_sub [1, 2, 3, 4, 0] rfl ?_
              exact t_X11_foldRow_J249 hC (f_X11_foldRow_L177 n) ih x0 x3 x5 x6 v23 h
            · refine x_aload_n (p' := 232) hC 1 (dAt dd_X11_foldRow 120 rfl) rfl rfl rfl ?_
              refine x_getR (p' := 235) hC fk_RX11_42 rfl (dAt dd_X11_foldRow 121 rfl) rfl (fun r30 => ?_)
              refine x_iload (p' := 237) hC 0 (dAt dd_X11_foldRow 122 rfl) rfl rfl ?_
              refine x_bipush (v := 110) (p' := 239) hC (dAt dd_X11_foldRow 123 rfl) (by decide) rfl ?_
              refine x_isub (p' := 240) hC (dAt dd_X11_foldRow 124 rfl) rfl ?_
              refine x_bipush (v := 110) (p' := 242) hC (dAt dd_X11_foldRow 125 rfl) (by decide) rfl ?_
              refine x_iload (p' := 244) hC 3 (dAt dd_X11_foldRow 126 rfl) rfl rfl ?_
              refine x_iadd (p' := 245) hC (dAt dd_X11_foldRow 127 rfl) rfl ?_
              refine x_iastore (p' := 246) hC (dAt dd_X11_foldRow 128 rfl) rfl (fun h31 => ?_)
              refine x_iinc (w := (x5 + 1)) (lv' := [(5, .int (x5 + 1)), (7, .int v23), (0, va_rf (some x0)), (3, .int x3), (6, .int x6)]) (p' := 249) hC 3 (dAt dd_X11_foldRow 129 rfl) rfl rfl (by decide) rfl rfl ?_
              refine x_sub [2, 3, 0, 4, 1] rfl ?_
              exact t_X11_foldRow_J249 hC (f_X11_foldRow_L177 n) ih x0 x3 (x5 + 1) x6 v23 h31
set_option maxHeartbeats 4000000 in
set_option maxRecDepth 100000 in
theorem t_X11_foldRow_J171 {C : CT} (hC : OKC C yX11_foldRow cX11_foldRow 8 none 3 76)   : ∀ (x0 : Nat) (x3 : Int32) (h : AH), WX rvV C 171 [(0, va_rf (some x0)), (3, .int x3)] [] h (f_X11_foldRow_J171 x0 x3 h) := by
  intro x0 x3 h
  unfold f_X11_foldRow_J171
  refine x_iconst (v := 0) (p' := 172) hC (dAt dd_X11_foldRow 88 rfl) (by decide) rfl ?_
  refine x_istore (lv' := [(5, .int 0), (0, va_rf (some x0)), (3, .int x3)]) (p' := 174) hC (dAt dd_X11_foldRow 89 rfl) (by decide) rfl rfl ?_
  refine x_iconst (v := 0) (p' := 175) hC (dAt dd_X11_foldRow 90 rfl) (by decide) rfl ?_
  refine x_istore (lv' := [(6, .int 0), (5, .int 0), (0, va_rf (some x0)), (3, .int x3)]) (p' := 177) hC (dAt dd_X11_foldRow 91 rfl) (by decide) rfl rfl ?_
  refine x_sub [2, 3, 1, 0] rfl ?_
  exact t_X11_foldRow_L177 hC FU x0 x3 0 0 h
set_option maxHeartbeats 4000000 in
set_option maxRecDepth 100000 in
theorem t_X11_foldRow_J146 {C : CT} (hC : OKC C yX11_foldRow cX11_foldRow 8 none 3 76)   : ∀ (x0 : Nat) (x3 : Int32) (h : AH), WX rvV C 146 [(0, va_rf (some x0)), (3, .int x3)] [] h (f_X11_foldRow_J146 x0 x3 h) := by
  intro x0 x3 h
  unfold f_X11_foldRow_J146
  refine x_iconst (v := 0) (p' := 147) hC (dAt dd_X11_foldRow 76 rfl) (by decide) rfl ?_
  refine x_istore (lv' := [(5, .int 0), (0, va_rf (some x0)), (3, .int x3)]) (p' := 149) hC (dAt dd_X11_foldRow 77 rfl) (by decide) rfl rfl ?_
  refine x_sub [1, 2, 0] rfl ?_
  exact t_X11_foldRow_L149 hC f_X11_foldRow_J171 (t_X11_foldRow_J171 hC) FU x0 x3 0 h
set_option maxHeartbeats 4000000 in
set_option maxRecDepth 100000 in
theorem t_X11_foldRow_J61 {C : CT} (hC : OKC C yX11_foldRow cX11_foldRow 8 none 3 76)   : ∀ (x0 : Nat) (x3 : Int32) (h : AH), WX rvV C 61 [(0, va_rf (some x0)), (3, .int x3)] [] h (f_X11_foldRow_J61 x0 x3 h) := by
  intro x0 x3 h
  unfold f_X11_foldRow_J61
  refine x_iconst (v := 0) (p' := 62) hC (dAt dd_X11_foldRow 32 rfl) (by decide) rfl ?_
  refine x_istore (lv' := [(4, .int 0), (0, va_rf (some x0)), (3, .int x3)]) (p' := 64) hC (dAt dd_X11_foldRow 33 rfl) (by decide) rfl rfl ?_
  refine x_iconst (v := 0) (p' := 65) hC (dAt dd_X11_foldRow 34 rfl) (by decide) rfl ?_
  refine x_istore (lv' := [(5, .int 0), (4, .int 0), (0, va_rf (some x0)), (3, .int x3)]) (p' := 67) hC (dAt dd_X11_foldRow 35 rfl) (by decide) rfl rfl ?_
  refine x_sub [2, 3, 1, 0] rfl ?_
  exact t_X11_foldRow_L67 hC f_X11_foldRow_J146 (t_X11_foldRow_J146 hC) FU x0 x3 0 0 h
set_option maxHeartbeats 4000000 in
set_option maxRecDepth 100000 in
theorem c_X11_foldRow (l : Launch) (D : va_G) (cy : Nat → ClassId) (h : AH) (a0 : Nat) (p1 : Option Nat) (p2 : Int32) (p3 : Int32) : MX rvV l yX11_foldRow (Cond.code yX11_foldRow cX11_foldRow 8 none :: LW) 3 76 D cy h [va_rf (some a0), va_rf p1, .int p2, .int p3] (f_X11_foldRow h a0 p1 p2 p3) := by
  refine MX.of (lv := [(0, va_rf (some a0)), (1, va_rf p1), (2, .int p2), (3, .int p3)]) (by decide) (by cases p1 <;> exact Nat.le_of_ble_eq_true rfl) (by cases p1 <;> rfl) (fun C hC _ => ?_)
  unfold f_X11_foldRow
  refine x_iconst (v := 0) (p' := 1) hC (dAt dd_X11_foldRow 0 rfl) (by decide) rfl ?_
  refine x_istore (lv' := [(4, .int 0), (0, va_rf (some a0)), (1, va_rf p1), (2, .int p2), (3, .int p3)]) (p' := 3) hC (dAt dd_X11_foldRow 1 rfl) (by decide) rfl rfl ?_
  refine x_sub [1, 2, 3, 4, 0] rfl ?_
  exact t_X11_foldRow_L3 hC f_X11_foldRow_J61 (t_X11_foldRow_J61 hC) FU a0 p1 p2 p3 0 h
set_option maxHeartbeats 4000000 in
set_option maxRecDepth 100000 in
theorem c_X11_fold (l : Launch) (D : va_G) (cy : Nat → ClassId) (h : AH) (a0 : Nat) (p1 : Int32) (p2 : Int32) : MX rvI l yX11_fold (Cond.code yX11_fold cX11_fold 3 (some .int) :: LW) 4 103 D cy h [va_rf (some a0), .int p1, .int p2] (f_X11_fold h a0 p1 p2) := by
  refine MX.of (lv := [(0, va_rf (some a0)), (1, .int p1), (2, .int p2)]) (by decide) (Nat.le_of_ble_eq_true rfl) rfl (fun C hC _ => ?_)
  unfold f_X11_fold
  refine x_aload_n (p' := 1) hC 0 (dAt dd_X11_fold 0 rfl) rfl rfl rfl ?_
  refine x_iconst (v := 0) (p' := 2) hC (dAt dd_X11_fold 1 rfl) (by decide) rfl ?_
  refine x_putI (p' := 5) hC fk_RX11_1 tk_RX11 rfl rfl (Or.inl rfl) (dAt dd_X11_fold 2 rfl) rfl (fun h1 => ?_)
  refine x_iload_n (p' := 6) hC 1 (dAt dd_X11_fold 3 rfl) rfl rfl rfl ?_
  refine x_callSI (As := [.int p1]) (p' := 9) hC (c_X11_isRow _ _ _ h1 p1) k_910 k_911 k_9 k_912 hd_X11_isRow ⟨by decide, by decide⟩ rfl (Nat.le_of_ble_eq_true rfl) rfl (dAt dd_X11_fold 4 rfl) rfl (fun v2 h3 => ?_)
  refine x_if_ne (tgt := 15) (p' := 12) hC (dAt dd_X11_fold 5 rfl) (by decide) rfl ?_ ?_
  · refine x_aload_n (p' := 16) hC 0 (dAt dd_X11_fold 8 rfl) rfl rfl rfl ?_
    refine x_getR (p' := 19) hC fk_RX11_17 rfl (dAt dd_X11_fold 9 rfl) rfl (fun r4 => ?_)
    refine x_iload_n (p' := 20) hC 1 (dAt dd_X11_fold 10 rfl) rfl rfl rfl ?_
    refine x_iaload (p' := 21) hC (dAt dd_X11_fold 11 rfl) rfl (fun v5 => ?_)
    refine x_if_ge (tgt := 30) (p' := 24) hC (dAt dd_X11_fold 12 rfl) (by decide) rfl ?_ ?_
    · refine x_aload_n (p' := 31) hC 0 (dAt dd_X11_fold 17 rfl) rfl rfl rfl ?_
      refine x_getR (p' := 34) hC fk_RX11_24 rfl (dAt dd_X11_fold 18 rfl) rfl (fun r6 => ?_)
      refine x_bipush (v := 60) (p' := 36) hC (dAt dd_X11_fold 19 rfl) (by decide) rfl ?_
      refine x_iload_n (p' := 37) hC 1 (dAt dd_X11_fold 20 rfl) rfl rfl rfl ?_
      refine x_imul (p' := 38) hC (dAt dd_X11_fold 21 rfl) rfl ?_
      refine x_aload_n (p' := 39) hC 0 (dAt dd_X11_fold 22 rfl) rfl rfl rfl ?_
      refine x_getR (p' := 42) hC fk_RX11_21 rfl (dAt dd_X11_fold 23 rfl) rfl (fun r7 => ?_)
      refine x_iload_n (p' := 43) hC 1 (dAt dd_X11_fold 24 rfl) rfl rfl rfl ?_
      refine x_iaload (p' := 44) hC (dAt dd_X11_fold 25 rfl) rfl (fun v8 => ?_)
      refine x_callSI (As := [va_rf r6, .int (60 * p1), .int v8]) (p' := 47) hC (c_X11_isAnswer _ _ _ h3 r6 (60 * p1) v8) k_940 k_941 k_9 k_942 hd_X11_isAnswer ⟨by decide, by decide⟩ rfl (Nat.le_of_ble_eq_true rfl) rfl (dAt dd_X11_fold 26 rfl) rfl (fun v9 h10 => ?_)
      refine x_if_ne (tgt := 53) (p' := 50) hC (dAt dd_X11_fold 27 rfl) (by decide) rfl ?_ ?_
      · refine x_aload_n (p' := 54) hC 0 (dAt dd_X11_fold 30 rfl) rfl rfl rfl ?_
        refine x_iconst (v := 0) (p' := 55) hC (dAt dd_X11_fold 31 rfl) (by decide) rfl ?_
        refine x_putI (p' := 58) hC fk_RX11_7 tk_RX11 rfl rfl (Or.inl rfl) (dAt dd_X11_fold 32 rfl) rfl (fun h11 => ?_)
        refine x_aload_n (p' := 59) hC 0 (dAt dd_X11_fold 33 rfl) rfl rfl rfl ?_
        refine x_aload_n (p' := 60) hC 0 (dAt dd_X11_fold 34 rfl) rfl rfl rfl ?_
        refine x_getR (p' := 63) hC fk_RX11_24 rfl (dAt dd_X11_fold 35 rfl) rfl (fun r12 => ?_)
        refine x_bipush (v := 60) (p' := 65) hC (dAt dd_X11_fold 36 rfl) (by decide) rfl ?_
        refine x_iload_n (p' := 66) hC 1 (dAt dd_X11_fold 37 rfl) rfl rfl rfl ?_
        refine x_imul (p' := 67) hC (dAt dd_X11_fold 38 rfl) rfl ?_
        refine x_aload_n (p' := 68) hC 0 (dAt dd_X11_fold 39 rfl) rfl rfl rfl ?_
        refine x_getR (p' := 71) hC fk_RX11_21 rfl (dAt dd_X11_fold 40 rfl) rfl (fun r13 => ?_)
        refine x_iload_n (p' := 72) hC 1 (dAt dd_X11_fold 41 rfl) rfl rfl rfl ?_
        refine x_iaload (p' := 73) hC (dAt dd_X11_fold 42 rfl) rfl (fun v14 => ?_)
        refine x_callVV (As := [va_rf r12, .int (60 * p1), .int v14]) (z := fun b => f_X11_foldRow h11 b r12 (60 * p1) v14) (p' := 76) hC (fun b => c_X11_foldRow _ _ _ h11 b r12 (60 * p1) v14) k_945 k_947 (k_sl 37 rfl) k_9 k_948 hd_X11_foldRow ⟨by decide, by decide⟩ (ci := 10) rfl rfl (by decide) rfl (Nat.le_of_ble_eq_true rfl) rfl (dAt dd_X11_fold 43 rfl) rfl (fun u15 h16 => ?_)
        refine x_iload_n (p' := 77) hC 2 (dAt dd_X11_fold 44 rfl) rfl rfl rfl ?_
        refine x_i2l (p' := 78) hC (dAt dd_X11_fold 45 rfl) rfl ?_
        refine x_lconst (v := 0) (p' := 79) hC (dAt dd_X11_fold 46 rfl) (by decide) rfl ?_
        refine x_aload_n (p' := 80) hC 0 (dAt dd_X11_fold 47 rfl) rfl rfl rfl ?_
        refine x_getR (p' := 83) hC fk_RX11_21 rfl (dAt dd_X11_fold 48 rfl) rfl (fun r17 => ?_)
        refine x_iload_n (p' := 84) hC 1 (dAt dd_X11_fold 49 rfl) rfl rfl rfl ?_
        refine x_iaload (p' := 85) hC (dAt dd_X11_fold 50 rfl) rfl (fun v18 => ?_)
        refine x_iconst (v := 1) (p' := 86) hC (dAt dd_X11_fold 51 rfl) (by decide) rfl ?_
        refine x_isub (p' := 87) hC (dAt dd_X11_fold 52 rfl) rfl ?_
        refine x_i2l (p' := 88) hC (dAt dd_X11_fold 53 rfl) rfl ?_
        refine x_callSI (As := [.long (Int32.toInt64 p2), .long 0, .long (Int32.toInt64 (v18 - 1))]) (p' := 91) hC (c_X11_in _ _ _ h16 (Int32.toInt64 p2) 0 (Int32.toInt64 (v18 - 1))) k_914 k_915 k_9 k_916 hd_X11_in ⟨by decide, by decide⟩ rfl (Nat.le_of_ble_eq_true rfl) rfl (dAt dd_X11_fold 54 rfl) rfl (fun v19 h20 => ?_)
        refine x_if_eq (tgt := 103) (p' := 94) hC (dAt dd_X11_fold 55 rfl) (by decide) rfl ?_ ?_
        · refine x_ldc (v := (-1000000)) (p' := 105) hC (dAt dd_X11_fold 61 rfl) k_961 rfl ?_
          exact x_ireturn hC (dAt dd_X11_fold 62 rfl)
        · refine x_aload_n (p' := 95) hC 0 (dAt dd_X11_fold 56 rfl) rfl rfl rfl ?_
          refine x_getR (p' := 98) hC fk_RX11_27 rfl (dAt dd_X11_fold 57 rfl) rfl (fun r21 => ?_)
          refine x_iload_n (p' := 99) hC 2 (dAt dd_X11_fold 58 rfl) rfl rfl rfl ?_
          refine x_iaload (p' := 100) hC (dAt dd_X11_fold 59 rfl) rfl (fun v22 => ?_)
          refine x_goto (tgt := 105) hC (dAt dd_X11_fold 60 rfl) (by decide) ?_
          exact x_ireturn hC (dAt dd_X11_fold 62 rfl)
      · refine x_ldc (v := (-1000002)) (p' := 52) hC (dAt dd_X11_fold 28 rfl) k_944 rfl ?_
        exact x_ireturn hC (dAt dd_X11_fold 29 rfl)
    · refine x_aload_n (p' := 25) hC 0 (dAt dd_X11_fold 13 rfl) rfl rfl rfl ?_
      refine x_iconst (v := 1) (p' := 26) hC (dAt dd_X11_fold 14 rfl) (by decide) rfl ?_
      refine x_callVI (As := [.int 1]) (z := fun b => f_X11_found h3 b 1) (p' := 29) hC (fun b => c_X11_found _ _ _ h3 b 1) k_919 k_921 (k_sl 36 rfl) k_9 k_922 hd_X11_found ⟨by decide, by decide⟩ (ci := 10) rfl rfl (by decide) rfl (Nat.le_of_ble_eq_true rfl) rfl (dAt dd_X11_fold 15 rfl) rfl (fun v23 h24 => ?_)
      exact x_ireturn hC (dAt dd_X11_fold 16 rfl)
  · refine x_ldc (v := (-1000001)) (p' := 14) hC (dAt dd_X11_fold 6 rfl) k_918 rfl ?_
    exact x_ireturn hC (dAt dd_X11_fold 7 rfl)
set_option maxHeartbeats 4000000 in
set_option maxRecDepth 100000 in
theorem c_X11_isSlot (l : Launch) (D : va_G) (cy : Nat → ClassId) (h : AH) (p0 : Int32) (p1 : Int32) : MX rvI l yX11_isSlot (Cond.code yX11_isSlot cX11_isSlot 2 (some .boolean) :: LW) 1 25 D cy h [.int p0, .int p1] (f_X11_isSlot h p0 p1) := by
  refine MX.of (lv := [(0, .int p0), (1, .int p1)]) (by decide) (Nat.le_of_ble_eq_true rfl) rfl (fun C hC _ => ?_)
  unfold f_X11_isSlot
  refine x_iload_n (p' := 1) hC 0 (dAt dd_X11_isSlot 0 rfl) rfl rfl rfl ?_
  refine x_i2l (p' := 2) hC (dAt dd_X11_isSlot 1 rfl) rfl ?_
  refine x_lconst (v := 0) (p' := 3) hC (dAt dd_X11_isSlot 2 rfl) (by decide) rfl ?_
  refine x_ldc2_w (v := 11) (p' := 6) hC (dAt dd_X11_isSlot 3 rfl) k_969 rfl ?_
  refine x_callSI (As := [.long (Int32.toInt64 p0), .long 0, .long 11]) (p' := 9) hC (c_X11_in _ _ _ h (Int32.toInt64 p0) 0 11) k_914 k_915 k_9 k_916 hd_X11_in ⟨by decide, by decide⟩ rfl (Nat.le_of_ble_eq_true rfl) rfl (dAt dd_X11_isSlot 4 rfl) rfl (fun v1 h2 => ?_)
  refine x_if_eq (tgt := 28) (p' := 12) hC (dAt dd_X11_isSlot 5 rfl) (by decide) rfl ?_ ?_
  · refine x_iconst (v := 0) (p' := 29) hC (dAt dd_X11_isSlot 14 rfl) (by decide) rfl ?_
    exact x_zreturn hC (dAt dd_X11_isSlot 15 rfl)
  · refine x_iload_n (p' := 13) hC 1 (dAt dd_X11_isSlot 6 rfl) rfl rfl rfl ?_
    refine x_i2l (p' := 14) hC (dAt dd_X11_isSlot 7 rfl) rfl ?_
    refine x_lconst (v := 0) (p' := 15) hC (dAt dd_X11_isSlot 8 rfl) (by decide) rfl ?_
    refine x_ldc2_w (v := 2) (p' := 18) hC (dAt dd_X11_isSlot 9 rfl) k_917 rfl ?_
    refine x_callSI (As := [.long (Int32.toInt64 p1), .long 0, .long 2]) (p' := 21) hC (c_X11_in _ _ _ h2 (Int32.toInt64 p1) 0 2) k_914 k_915 k_9 k_916 hd_X11_in ⟨by decide, by decide⟩ rfl (Nat.le_of_ble_eq_true rfl) rfl (dAt dd_X11_isSlot 10 rfl) rfl (fun v3 h4 => ?_)
    refine x_if_eq (tgt := 28) (p' := 24) hC (dAt dd_X11_isSlot 11 rfl) (by decide) rfl ?_ ?_
    · refine x_iconst (v := 0) (p' := 29) hC (dAt dd_X11_isSlot 14 rfl) (by decide) rfl ?_
      exact x_zreturn hC (dAt dd_X11_isSlot 15 rfl)
    · refine x_iconst (v := 1) (p' := 25) hC (dAt dd_X11_isSlot 12 rfl) (by decide) rfl ?_
      refine x_goto (tgt := 29) hC (dAt dd_X11_isSlot 13 rfl) (by decide) ?_
      exact x_zreturn hC (dAt dd_X11_isSlot 15 rfl)
set_option maxHeartbeats 4000000 in
set_option maxRecDepth 100000 in
theorem t_X11_lay_L26 {C : CT} (hC : OKC C yX11_lay cX11_lay 6 none 4 103)   : ∀ (n : Nat) (x0 : Nat) (x1 : Int32) (x2 : Option Nat) (x3 : Int32) (x4 : Int32) (x5 : Int32) (h : AH), WX rvV C 26 [(0, va_rf (some x0)), (1, .int x1), (2, va_rf x2), (3, .int x3), (4, .int x4), (5, .int x5)] [] h (f_X11_lay_L26 n x0 x1 x2 x3 x4 x5 h) := by
  intro n
  induction n with
  | zero => intro _ _ _ _ _ _ _; exact x_none
  | succ n ih =>
    intro x0 x1 x2 x3 x4 x5 h
    rw [f_X11_lay_L26]
    refine x_iload (p' := 28) hC 5 (dAt dd_X11_lay 17 rfl) rfl rfl ?_
    refine x_iload (p' := 30) hC 4 (dAt dd_X11_lay 18 rfl) rfl rfl ?_
    refine x_icmp_ge (tgt := 76) (p' := 33) hC (dAt dd_X11_lay 19 rfl) (by decide) rfl ?_ ?_
    · exact x_return hC (dAt dd_X11_lay 47 rfl)
    · refine x_aload_n (p' := 34) hC 0 (dAt dd_X11_lay 20 rfl) rfl rfl rfl ?_
      refine x_getR (p' := 37) hC fk_RX11_49 rfl (dAt dd_X11_lay 21 rfl) rfl (fun r7 => ?_)
      refine x_bipush (v := 60) (p' := 39) hC (dAt dd_X11_lay 22 rfl) (by decide) rfl ?_
      refine x_iload_n (p' := 40) hC 1 (dAt dd_X11_lay 23 rfl) rfl rfl rfl ?_
      refine x_imul (p' := 41) hC (dAt dd_X11_lay 24 rfl) rfl ?_
      refine x_iload (p' := 43) hC 5 (dAt dd_X11_lay 25 rfl) rfl rfl ?_
      refine x_iadd (p' := 44) hC (dAt dd_X11_lay 26 rfl) rfl ?_
      refine x_aload_n (p' := 45) hC 2 (dAt dd_X11_lay 27 rfl) rfl rfl rfl ?_
      refine x_iload_n (p' := 46) hC 3 (dAt dd_X11_lay 28 rfl) rfl rfl rfl ?_
      refine x_iload (p' := 48) hC 5 (dAt dd_X11_lay 29 rfl) rfl rfl ?_
      refine x_iadd (p' := 49) hC (dAt dd_X11_lay 30 rfl) rfl ?_
      refine x_iaload (p' := 50) hC (dAt dd_X11_lay 31 rfl) rfl (fun v8 => ?_)
      refine x_iastore (p' := 51) hC (dAt dd_X11_lay 32 rfl) rfl (fun h9 => ?_)
      refine x_aload_n (p' := 52) hC 0 (dAt dd_X11_lay 33 rfl) rfl rfl rfl ?_
      refine x_getR (p' := 55) hC fk_RX11_52 rfl (dAt dd_X11_lay 34 rfl) rfl (fun r10 => ?_)
      refine x_bipush (v := 60) (p' := 57) hC (dAt dd_X11_lay 35 rfl) (by decide) rfl ?_
      refine x_iload_n (p' := 58) hC 1 (dAt dd_X11_lay 36 rfl) rfl rfl rfl ?_
      refine x_imul (p' := 59) hC (dAt dd_X11_lay 37 rfl) rfl ?_
      refine x_iload (p' := 61) hC 5 (dAt dd_X11_lay 38 rfl) rfl rfl ?_
      refine x_iadd (p' := 62) hC (dAt dd_X11_lay 39 rfl) rfl ?_
      refine x_aload_n (p' := 63) hC 0 (dAt dd_X11_lay 40 rfl) rfl rfl rfl ?_
      refine x_getR (p' := 66) hC fk_RX11_27 rfl (dAt dd_X11_lay 41 rfl) rfl (fun r11 => ?_)
      refine x_iload (p' := 68) hC 5 (dAt dd_X11_lay 42 rfl) rfl rfl ?_
      refine x_iaload (p' := 69) hC (dAt dd_X11_lay 43 rfl) rfl (fun v12 => ?_)
      refine x_iastore (p' := 70) hC (dAt dd_X11_lay 44 rfl) rfl (fun h13 => ?_)
      refine x_iinc (w := (x5 + 1)) (lv' := [(5, .int (x5 + 1)), (0, va_rf (some x0)), (1, .int x1), (2, va_rf x2), (3, .int x3), (4, .int x4)]) (p' := 73) hC 5 (dAt dd_X11_lay 45 rfl) rfl rfl (by decide) rfl rfl ?_
      refine x_goto (tgt := 26) hC (dAt dd_X11_lay 46 rfl) (by decide) ?_
      refine x_sub [1, 2, 3, 4, 5, 0] rfl ?_
      exact ih x0 x1 x2 x3 x4 (x5 + 1) h13
set_option maxHeartbeats 4000000 in
set_option maxRecDepth 100000 in
theorem c_X11_lay (l : Launch) (D : va_G) (cy : Nat → ClassId) (h : AH) (a0 : Nat) (p1 : Int32) (p2 : Option Nat) (p3 : Int32) (p4 : Int32) : MX rvV l yX11_lay (Cond.code yX11_lay cX11_lay 6 none :: LW) 4 103 D cy h [va_rf (some a0), .int p1, va_rf p2, .int p3, .int p4] (f_X11_lay h a0 p1 p2 p3 p4) := by
  refine MX.of (lv := [(0, va_rf (some a0)), (1, .int p1), (2, va_rf p2), (3, .int p3), (4, .int p4)]) (by decide) (by cases p2 <;> exact Nat.le_of_ble_eq_true rfl) (by cases p2 <;> rfl) (fun C hC _ => ?_)
  unfold f_X11_lay
  refine x_aload_n (p' := 1) hC 0 (dAt dd_X11_lay 0 rfl) rfl rfl rfl ?_
  refine x_aload_n (p' := 2) hC 2 (dAt dd_X11_lay 1 rfl) rfl rfl rfl ?_
  refine x_iload_n (p' := 3) hC 3 (dAt dd_X11_lay 2 rfl) rfl rfl rfl ?_
  refine x_iload (p' := 5) hC 4 (dAt dd_X11_lay 3 rfl) rfl rfl ?_
  refine x_callVV (As := [va_rf p2, .int p3, .int p4]) (z := fun b => f_X11_foldRow h b p2 p3 p4) (p' := 8) hC (fun b => c_X11_foldRow _ _ _ h b p2 p3 p4) k_945 k_947 (k_sl 37 rfl) k_9 k_948 hd_X11_foldRow ⟨by decide, by decide⟩ (ci := 10) rfl rfl (by decide) rfl (Nat.le_of_ble_eq_true rfl) rfl (dAt dd_X11_lay 4 rfl) rfl (fun u1 h2 => ?_)
  refine x_aload_n (p' := 9) hC 0 (dAt dd_X11_lay 5 rfl) rfl rfl rfl ?_
  refine x_getR (p' := 12) hC fk_RX11_45 rfl (dAt dd_X11_lay 6 rfl) rfl (fun r3 => ?_)
  refine x_iload_n (p' := 13) hC 1 (dAt dd_X11_lay 7 rfl) rfl rfl rfl ?_
  refine x_iconst (v := 1) (p' := 14) hC (dAt dd_X11_lay 8 rfl) (by decide) rfl ?_
  refine x_bastore (p' := 15) hC (dAt dd_X11_lay 9 rfl) rfl (fun h4 => ?_)
  refine x_aload_n (p' := 16) hC 0 (dAt dd_X11_lay 10 rfl) rfl rfl rfl ?_
  refine x_getR (p' := 19) hC fk_RX11_55 rfl (dAt dd_X11_lay 11 rfl) rfl (fun r5 => ?_)
  refine x_iload_n (p' := 20) hC 1 (dAt dd_X11_lay 12 rfl) rfl rfl rfl ?_
  refine x_iload (p' := 22) hC 4 (dAt dd_X11_lay 13 rfl) rfl rfl ?_
  refine x_iastore (p' := 23) hC (dAt dd_X11_lay 14 rfl) rfl (fun h6 => ?_)
  refine x_iconst (v := 0) (p' := 24) hC (dAt dd_X11_lay 15 rfl) (by decide) rfl ?_
  refine x_istore (lv' := [(5, .int 0), (0, va_rf (some a0)), (1, .int p1), (2, va_rf p2), (3, .int p3), (4, .int p4)]) (p' := 26) hC (dAt dd_X11_lay 16 rfl) (by decide) rfl rfl ?_
  refine x_sub [1, 2, 3, 4, 5, 0] rfl ?_
  exact t_X11_lay_L26 hC FU a0 p1 p2 p3 p4 0 h6
set_option maxHeartbeats 4000000 in
set_option maxRecDepth 100000 in
theorem c_X11_come (l : Launch) (D : va_G) (cy : Nat → ClassId) (h : AH) (a0 : Nat) (p1 : Int32) (p2 : Int32) : MX rvI l yX11_come (Cond.code yX11_come cX11_come 3 (some .int) :: LW) 5 128 D cy h [va_rf (some a0), .int p1, .int p2] (f_X11_come h a0 p1 p2) := by
  refine MX.of (lv := [(0, va_rf (some a0)), (1, .int p1), (2, .int p2)]) (by decide) (Nat.le_of_ble_eq_true rfl) rfl (fun C hC _ => ?_)
  unfold f_X11_come
  refine x_aload_n (p' := 1) hC 0 (dAt dd_X11_come 0 rfl) rfl rfl rfl ?_
  refine x_getR (p' := 4) hC fk_RX11_17 rfl (dAt dd_X11_come 1 rfl) rfl (fun r1 => ?_)
  refine x_iload_n (p' := 5) hC 2 (dAt dd_X11_come 2 rfl) rfl rfl rfl ?_
  refine x_iaload (p' := 6) hC (dAt dd_X11_come 3 rfl) rfl (fun v2 => ?_)
  refine x_if_ge (tgt := 15) (p' := 9) hC (dAt dd_X11_come 4 rfl) (by decide) rfl ?_ ?_
  · refine x_aload_n (p' := 16) hC 0 (dAt dd_X11_come 9 rfl) rfl rfl rfl ?_
    refine x_getR (p' := 19) hC fk_RX11_24 rfl (dAt dd_X11_come 10 rfl) rfl (fun r3 => ?_)
    refine x_bipush (v := 60) (p' := 21) hC (dAt dd_X11_come 11 rfl) (by decide) rfl ?_
    refine x_iload_n (p' := 22) hC 2 (dAt dd_X11_come 12 rfl) rfl rfl rfl ?_
    refine x_imul (p' := 23) hC (dAt dd_X11_come 13 rfl) rfl ?_
    refine x_aload_n (p' := 24) hC 0 (dAt dd_X11_come 14 rfl) rfl rfl rfl ?_
    refine x_getR (p' := 27) hC fk_RX11_21 rfl (dAt dd_X11_come 15 rfl) rfl (fun r4 => ?_)
    refine x_iload_n (p' := 28) hC 2 (dAt dd_X11_come 16 rfl) rfl rfl rfl ?_
    refine x_iaload (p' := 29) hC (dAt dd_X11_come 17 rfl) rfl (fun v5 => ?_)
    refine x_callSI (As := [va_rf r3, .int (60 * p2), .int v5]) (p' := 32) hC (c_X11_isAnswer _ _ _ h r3 (60 * p2) v5) k_940 k_941 k_9 k_942 hd_X11_isAnswer ⟨by decide, by decide⟩ rfl (Nat.le_of_ble_eq_true rfl) rfl (dAt dd_X11_come 18 rfl) rfl (fun v6 h7 => ?_)
    refine x_if_ne (tgt := 38) (p' := 35) hC (dAt dd_X11_come 19 rfl) (by decide) rfl ?_ ?_
    · refine x_aload_n (p' := 39) hC 0 (dAt dd_X11_come 22 rfl) rfl rfl rfl ?_
      refine x_iconst (v := 0) (p' := 40) hC (dAt dd_X11_come 23 rfl) (by decide) rfl ?_
      refine x_putI (p' := 43) hC fk_RX11_7 tk_RX11 rfl rfl (Or.inl rfl) (dAt dd_X11_come 24 rfl) rfl (fun h8 => ?_)
      refine x_aload_n (p' := 44) hC 0 (dAt dd_X11_come 25 rfl) rfl rfl rfl ?_
      refine x_iload_n (p' := 45) hC 1 (dAt dd_X11_come 26 rfl) rfl rfl rfl ?_
      refine x_aload_n (p' := 46) hC 0 (dAt dd_X11_come 27 rfl) rfl rfl rfl ?_
      refine x_getR (p' := 49) hC fk_RX11_24 rfl (dAt dd_X11_come 28 rfl) rfl (fun r9 => ?_)
      refine x_bipush (v := 60) (p' := 51) hC (dAt dd_X11_come 29 rfl) (by decide) rfl ?_
      refine x_iload_n (p' := 52) hC 2 (dAt dd_X11_come 30 rfl) rfl rfl rfl ?_
      refine x_imul (p' := 53) hC (dAt dd_X11_come 31 rfl) rfl ?_
      refine x_aload_n (p' := 54) hC 0 (dAt dd_X11_come 32 rfl) rfl rfl rfl ?_
      refine x_getR (p' := 57) hC fk_RX11_21 rfl (dAt dd_X11_come 33 rfl) rfl (fun r10 => ?_)
      refine x_iload_n (p' := 58) hC 2 (dAt dd_X11_come 34 rfl) rfl rfl rfl ?_
      refine x_iaload (p' := 59) hC (dAt dd_X11_come 35 rfl) rfl (fun v11 => ?_)
      refine x_callVV (As := [.int p1, va_rf r9, .int (60 * p2), .int v11]) (z := fun b => f_X11_lay h8 b p1 r9 (60 * p2) v11) (p' := 62) hC (fun b => c_X11_lay _ _ _ h8 b p1 r9 (60 * p2) v11) k_974 k_976 (k_sl 42 rfl) k_9 k_977 hd_X11_lay ⟨by decide, by decide⟩ (ci := 10) rfl rfl (by decide) rfl (Nat.le_of_ble_eq_true rfl) rfl (dAt dd_X11_come 36 rfl) rfl (fun u12 h13 => ?_)
      refine x_aload_n (p' := 63) hC 0 (dAt dd_X11_come 37 rfl) rfl rfl rfl ?_
      refine x_getR (p' := 66) hC fk_RX11_21 rfl (dAt dd_X11_come 38 rfl) rfl (fun r14 => ?_)
      refine x_iload_n (p' := 67) hC 2 (dAt dd_X11_come 39 rfl) rfl rfl rfl ?_
      refine x_iaload (p' := 68) hC (dAt dd_X11_come 40 rfl) rfl (fun v15 => ?_)
      exact x_ireturn hC (dAt dd_X11_come 41 rfl)
    · refine x_ldc (v := (-1000002)) (p' := 37) hC (dAt dd_X11_come 20 rfl) k_944 rfl ?_
      exact x_ireturn hC (dAt dd_X11_come 21 rfl)
  · refine x_aload_n (p' := 10) hC 0 (dAt dd_X11_come 5 rfl) rfl rfl rfl ?_
    refine x_iconst (v := 1) (p' := 11) hC (dAt dd_X11_come 6 rfl) (by decide) rfl ?_
    refine x_callVI (As := [.int 1]) (z := fun b => f_X11_found h b 1) (p' := 14) hC (fun b => c_X11_found _ _ _ h b 1) k_919 k_921 (k_sl 36 rfl) k_9 k_922 hd_X11_found ⟨by decide, by decide⟩ (ci := 10) rfl rfl (by decide) rfl (Nat.le_of_ble_eq_true rfl) rfl (dAt dd_X11_come 7 rfl) rfl (fun v16 h17 => ?_)
    exact x_ireturn hC (dAt dd_X11_come 8 rfl)
set_option maxHeartbeats 4000000 in
set_option maxRecDepth 100000 in
theorem c_X11_keep (l : Launch) (D : va_G) (cy : Nat → ClassId) (h : AH) (a0 : Nat) (p1 : Int32) (p2 : Int32) (p3 : Int32) : MX rvI l yX11_keep (Cond.code yX11_keep cX11_keep 4 (some .int) :: LW) 6 150 D cy h [va_rf (some a0), .int p1, .int p2, .int p3] (f_X11_keep h a0 p1 p2 p3) := by
  refine MX.of (lv := [(0, va_rf (some a0)), (1, .int p1), (2, .int p2), (3, .int p3)]) (by decide) (Nat.le_of_ble_eq_true rfl) rfl (fun C hC _ => ?_)
  unfold f_X11_keep
  refine x_aload_n (p' := 1) hC 0 (dAt dd_X11_keep 0 rfl) rfl rfl rfl ?_
  refine x_iconst (v := 0) (p' := 2) hC (dAt dd_X11_keep 1 rfl) (by decide) rfl ?_
  refine x_putI (p' := 5) hC fk_RX11_1 tk_RX11 rfl rfl (Or.inl rfl) (dAt dd_X11_keep 2 rfl) rfl (fun h1 => ?_)
  refine x_iload_n (p' := 6) hC 1 (dAt dd_X11_keep 3 rfl) rfl rfl rfl ?_
  refine x_iload_n (p' := 7) hC 2 (dAt dd_X11_keep 4 rfl) rfl rfl rfl ?_
  refine x_callSI (As := [.int p1, .int p2]) (p' := 10) hC (c_X11_isSlot _ _ _ h1 p1 p2) k_966 k_967 k_9 k_968 hd_X11_isSlot ⟨by decide, by decide⟩ rfl (Nat.le_of_ble_eq_true rfl) rfl (dAt dd_X11_keep 5 rfl) rfl (fun v2 h3 => ?_)
  refine x_if_eq (tgt := 20) (p' := 13) hC (dAt dd_X11_keep 6 rfl) (by decide) rfl ?_ ?_
  · refine x_ldc (v := (-1000001)) (p' := 22) hC (dAt dd_X11_keep 10 rfl) k_918 rfl ?_
    refine x_goto (tgt := 35) hC (dAt dd_X11_keep 11 rfl) (by decide) ?_
    exact x_ireturn hC (dAt dd_X11_keep 20 rfl)
  · refine x_iload_n (p' := 14) hC 3 (dAt dd_X11_keep 7 rfl) rfl rfl rfl ?_
    refine x_callSI (As := [.int p3]) (p' := 17) hC (c_X11_isRow _ _ _ h3 p3) k_910 k_911 k_9 k_912 hd_X11_isRow ⟨by decide, by decide⟩ rfl (Nat.le_of_ble_eq_true rfl) rfl (dAt dd_X11_keep 8 rfl) rfl (fun v4 h5 => ?_)
    refine x_if_ne (tgt := 25) (p' := 20) hC (dAt dd_X11_keep 9 rfl) (by decide) rfl ?_ ?_
    · refine x_aload_n (p' := 26) hC 0 (dAt dd_X11_keep 12 rfl) rfl rfl rfl ?_
      refine x_iconst (v := 3) (p' := 27) hC (dAt dd_X11_keep 13 rfl) (by decide) rfl ?_
      refine x_iload_n (p' := 28) hC 1 (dAt dd_X11_keep 14 rfl) rfl rfl rfl ?_
      refine x_imul (p' := 29) hC (dAt dd_X11_keep 15 rfl) rfl ?_
      refine x_iload_n (p' := 30) hC 2 (dAt dd_X11_keep 16 rfl) rfl rfl rfl ?_
      refine x_iadd (p' := 31) hC (dAt dd_X11_keep 17 rfl) rfl ?_
      refine x_iload_n (p' := 32) hC 3 (dAt dd_X11_keep 18 rfl) rfl rfl rfl ?_
      refine x_callVI (As := [.int ((3 * p1) + p2), .int p3]) (z := fun b => f_X11_come h5 b ((3 * p1) + p2) p3) (p' := 35) hC (fun b => c_X11_come _ _ _ h5 b ((3 * p1) + p2) p3) k_970 k_972 (k_sl 41 rfl) k_9 k_973 hd_X11_come ⟨by decide, by decide⟩ (ci := 10) rfl rfl (by decide) rfl (Nat.le_of_ble_eq_true rfl) rfl (dAt dd_X11_keep 19 rfl) rfl (fun v6 h7 => ?_)
      exact x_ireturn hC (dAt dd_X11_keep 20 rfl)
    · refine x_ldc (v := (-1000001)) (p' := 22) hC (dAt dd_X11_keep 10 rfl) k_918 rfl ?_
      refine x_goto (tgt := 35) hC (dAt dd_X11_keep 11 rfl) (by decide) ?_
      exact x_ireturn hC (dAt dd_X11_keep 20 rfl)
set_option maxHeartbeats 4000000 in
set_option maxRecDepth 100000 in
theorem t_X11_endLooks_L2 {C : CT} (hC : OKC C yX11_endLooks cX11_endLooks 3 none 0 0)   : ∀ (n : Nat) (x0 : Nat) (x1 : Int32) (x2 : Int32) (h : AH), WX rvV C 2 [(0, va_rf (some x0)), (1, .int x1), (2, .int x2)] [] h (f_X11_endLooks_L2 n x0 x1 x2 h) := by
  intro n
  induction n with
  | zero => intro _ _ _ _; exact x_none
  | succ n ih =>
    intro x0 x1 x2 h
    rw [f_X11_endLooks_L2]
    refine x_iload_n (p' := 3) hC 2 (dAt dd_X11_endLooks 2 rfl) rfl rfl rfl ?_
    refine x_iconst (v := 4) (p' := 4) hC (dAt dd_X11_endLooks 3 rfl) (by decide) rfl ?_
    refine x_icmp_ge (tgt := 25) (p' := 7) hC (dAt dd_X11_endLooks 4 rfl) (by decide) rfl ?_ ?_
    · exact x_return hC (dAt dd_X11_endLooks 16 rfl)
    · refine x_aload_n (p' := 8) hC 0 (dAt dd_X11_endLooks 5 rfl) rfl rfl rfl ?_
      refine x_getR (p' := 11) hC fk_RX11_58 rfl (dAt dd_X11_endLooks 6 rfl) rfl (fun r1 => ?_)
      refine x_bipush (v := 36) (p' := 13) hC (dAt dd_X11_endLooks 7 rfl) (by decide) rfl ?_
      refine x_iload_n (p' := 14) hC 2 (dAt dd_X11_endLooks 8 rfl) rfl rfl rfl ?_
      refine x_imul (p' := 15) hC (dAt dd_X11_endLooks 9 rfl) rfl ?_
      refine x_iload_n (p' := 16) hC 1 (dAt dd_X11_endLooks 10 rfl) rfl rfl rfl ?_
      refine x_iadd (p' := 17) hC (dAt dd_X11_endLooks 11 rfl) rfl ?_
      refine x_iconst (v := 0) (p' := 18) hC (dAt dd_X11_endLooks 12 rfl) (by decide) rfl ?_
      refine x_iastore (p' := 19) hC (dAt dd_X11_endLooks 13 rfl) rfl (fun h2 => ?_)
      refine x_iinc (w := (x2 + 1)) (lv' := [(2, .int (x2 + 1)), (0, va_rf (some x0)), (1, .int x1)]) (p' := 22) hC 2 (dAt dd_X11_endLooks 14 rfl) rfl rfl (by decide) rfl rfl ?_
      refine x_goto (tgt := 2) hC (dAt dd_X11_endLooks 15 rfl) (by decide) ?_
      refine x_sub [1, 2, 0] rfl ?_
      exact ih x0 x1 (x2 + 1) h2
set_option maxHeartbeats 4000000 in
set_option maxRecDepth 100000 in
theorem c_X11_endLooks (l : Launch) (D : va_G) (cy : Nat → ClassId) (h : AH) (a0 : Nat) (p1 : Int32) : MX rvV l yX11_endLooks (Cond.code yX11_endLooks cX11_endLooks 3 none :: LW) 0 0 D cy h [va_rf (some a0), .int p1] (f_X11_endLooks h a0 p1) := by
  refine MX.of (lv := [(0, va_rf (some a0)), (1, .int p1)]) (by decide) (Nat.le_of_ble_eq_true rfl) rfl (fun C hC _ => ?_)
  unfold f_X11_endLooks
  refine x_iconst (v := 0) (p' := 1) hC (dAt dd_X11_endLooks 0 rfl) (by decide) rfl ?_
  refine x_istore_n (j := 2) (lv' := [(2, .int 0), (0, va_rf (some a0)), (1, .int p1)]) (p' := 2) hC (dAt dd_X11_endLooks 1 rfl) rfl (by decide) rfl rfl ?_
  refine x_sub [1, 2, 0] rfl ?_
  exact t_X11_endLooks_L2 hC FU a0 p1 0 h
set_option maxHeartbeats 4000000 in
set_option maxRecDepth 100000 in
theorem t_X11_areAlike_L24 {C : CT} (hC : OKC C yX11_areAlike cX11_areAlike 5 (some .boolean) 0 0)   : ∀ (n : Nat) (x0 : Nat) (x1 : Int32) (x2 : Int32) (x3 : Int32) (x4 : Int32) (h : AH), WX rvI C 24 [(0, va_rf (some x0)), (1, .int x1), (2, .int x2), (3, .int x3), (4, .int x4)] [] h (f_X11_areAlike_L24 n x0 x1 x2 x3 x4 h) := by
  intro n
  induction n with
  | zero => intro _ _ _ _ _ _; exact x_none
  | succ n ih =>
    intro x0 x1 x2 x3 x4 h
    rw [f_X11_areAlike_L24]
    refine x_iload (p' := 26) hC 4 (dAt dd_X11_areAlike 15 rfl) rfl rfl ?_
    refine x_aload_n (p' := 27) hC 0 (dAt dd_X11_areAlike 16 rfl) rfl rfl rfl ?_
    refine x_getR (p' := 30) hC fk_RX11_55 rfl (dAt dd_X11_areAlike 17 rfl) rfl (fun r5 => ?_)
    refine x_iload_n (p' := 31) hC 1 (dAt dd_X11_areAlike 18 rfl) rfl rfl rfl ?_
    refine x_iaload (p' := 32) hC (dAt dd_X11_areAlike 19 rfl) rfl (fun v6 => ?_)
    refine x_icmp_ge (tgt := 78) (p' := 35) hC (dAt dd_X11_areAlike 20 rfl) (by decide) rfl ?_ ?_
    · refine x_iload_n (p' := 79) hC 3 (dAt dd_X11_areAlike 46 rfl) rfl rfl rfl ?_
      exact x_zreturn hC (dAt dd_X11_areAlike 47 rfl)
    · refine x_iload_n (p' := 36) hC 3 (dAt dd_X11_areAlike 21 rfl) rfl rfl rfl ?_
      refine x_if_eq (tgt := 78) (p' := 39) hC (dAt dd_X11_areAlike 22 rfl) (by decide) rfl ?_ ?_
      · refine x_iload_n (p' := 79) hC 3 (dAt dd_X11_areAlike 46 rfl) rfl rfl rfl ?_
        exact x_zreturn hC (dAt dd_X11_areAlike 47 rfl)
      · refine x_aload_n (p' := 40) hC 0 (dAt dd_X11_areAlike 23 rfl) rfl rfl rfl ?_
        refine x_getR (p' := 43) hC fk_RX11_52 rfl (dAt dd_X11_areAlike 24 rfl) rfl (fun r7 => ?_)
        refine x_bipush (v := 60) (p' := 45) hC (dAt dd_X11_areAlike 25 rfl) (by decide) rfl ?_
        refine x_iload_n (p' := 46) hC 1 (dAt dd_X11_areAlike 26 rfl) rfl rfl rfl ?_
        refine x_imul (p' := 47) hC (dAt dd_X11_areAlike 27 rfl) rfl ?_
        refine x_iload (p' := 49) hC 4 (dAt dd_X11_areAlike 28 rfl) rfl rfl ?_
        refine x_iadd (p' := 50) hC (dAt dd_X11_areAlike 29 rfl) rfl ?_
        refine x_iaload (p' := 51) hC (dAt dd_X11_areAlike 30 rfl) rfl (fun v8 => ?_)
        refine x_aload_n (p' := 52) hC 0 (dAt dd_X11_areAlike 31 rfl) rfl rfl rfl ?_
        refine x_getR (p' := 55) hC fk_RX11_52 rfl (dAt dd_X11_areAlike 32 rfl) rfl (fun r9 => ?_)
        refine x_bipush (v := 60) (p' := 57) hC (dAt dd_X11_areAlike 33 rfl) (by decide) rfl ?_
        refine x_iload_n (p' := 58) hC 2 (dAt dd_X11_areAlike 34 rfl) rfl rfl rfl ?_
        refine x_imul (p' := 59) hC (dAt dd_X11_areAlike 35 rfl) rfl ?_
        refine x_iload (p' := 61) hC 4 (dAt dd_X11_areAlike 36 rfl) rfl rfl ?_
        refine x_iadd (p' := 62) hC (dAt dd_X11_areAlike 37 rfl) rfl ?_
        refine x_iaload (p' := 63) hC (dAt dd_X11_areAlike 38 rfl) rfl (fun v10 => ?_)
        refine x_icmp_ne (tgt := 70) (p' := 66) hC (dAt dd_X11_areAlike 39 rfl) (by decide) rfl ?_ ?_
        · refine x_iconst (v := 0) (p' := 71) hC (dAt dd_X11_areAlike 42 rfl) (by decide) rfl ?_
          refine x_istore_n (j := 3) (lv' := [(3, .int 0), (0, va_rf (some x0)), (1, .int x1), (2, .int x2), (4, .int x4)]) (p' := 72) hC (dAt dd_X11_areAlike 43 rfl) rfl (by decide) rfl rfl ?_
          refine x_iinc (w := (x4 + 1)) (lv' := [(4, .int (x4 + 1)), (3, .int 0), (0, va_rf (some x0)), (1, .int x1), (2, .int x2)]) (p' := 75) hC 4 (dAt dd_X11_areAlike 44 rfl) rfl rfl (by decide) rfl rfl ?_
          refine x_goto (tgt := 24) hC (dAt dd_X11_areAlike 45 rfl) (by decide) ?_
          refine x_sub [2, 3, 4, 1, 0] rfl ?_
          exact ih x0 x1 x2 0 (x4 + 1) h
        · refine x_iconst (v := 1) (p' := 67) hC (dAt dd_X11_areAlike 40 rfl) (by decide) rfl ?_
          refine x_goto (tgt := 71) hC (dAt dd_X11_areAlike 41 rfl) (by decide) ?_
          refine x_istore_n (j := 3) (lv' := [(3, .int 1), (0, va_rf (some x0)), (1, .int x1), (2, .int x2), (4, .int x4)]) (p' := 72) hC (dAt dd_X11_areAlike 43 rfl) rfl (by decide) rfl rfl ?_
          refine x_iinc (w := (x4 + 1)) (lv' := [(4, .int (x4 + 1)), (3, .int 1), (0, va_rf (some x0)), (1, .int x1), (2, .int x2)]) (p' := 75) hC 4 (dAt dd_X11_areAlike 44 rfl) rfl rfl (by decide) rfl rfl ?_
          refine x_goto (tgt := 24) hC (dAt dd_X11_areAlike 45 rfl) (by decide) ?_
          refine x_sub [2, 3, 4, 1, 0] rfl ?_
          exact ih x0 x1 x2 1 (x4 + 1) h
set_option maxHeartbeats 4000000 in
set_option maxRecDepth 100000 in
theorem c_X11_areAlike (l : Launch) (D : va_G) (cy : Nat → ClassId) (h : AH) (a0 : Nat) (p1 : Int32) (p2 : Int32) : MX rvI l yX11_areAlike (Cond.code yX11_areAlike cX11_areAlike 5 (some .boolean) :: LW) 0 0 D cy h [va_rf (some a0), .int p1, .int p2] (f_X11_areAlike h a0 p1 p2) := by
  refine MX.of (lv := [(0, va_rf (some a0)), (1, .int p1), (2, .int p2)]) (by decide) (Nat.le_of_ble_eq_true rfl) rfl (fun C hC _ => ?_)
  unfold f_X11_areAlike
  refine x_aload_n (p' := 1) hC 0 (dAt dd_X11_areAlike 0 rfl) rfl rfl rfl ?_
  refine x_getR (p' := 4) hC fk_RX11_55 rfl (dAt dd_X11_areAlike 1 rfl) rfl (fun r1 => ?_)
  refine x_iload_n (p' := 5) hC 1 (dAt dd_X11_areAlike 2 rfl) rfl rfl rfl ?_
  refine x_iaload (p' := 6) hC (dAt dd_X11_areAlike 3 rfl) rfl (fun v2 => ?_)
  refine x_aload_n (p' := 7) hC 0 (dAt dd_X11_areAlike 4 rfl) rfl rfl rfl ?_
  refine x_getR (p' := 10) hC fk_RX11_55 rfl (dAt dd_X11_areAlike 5 rfl) rfl (fun r3 => ?_)
  refine x_iload_n (p' := 11) hC 2 (dAt dd_X11_areAlike 6 rfl) rfl rfl rfl ?_
  refine x_iaload (p' := 12) hC (dAt dd_X11_areAlike 7 rfl) rfl (fun v4 => ?_)
  refine x_icmp_ne (tgt := 19) (p' := 15) hC (dAt dd_X11_areAlike 8 rfl) (by decide) rfl ?_ ?_
  · refine x_iconst (v := 0) (p' := 20) hC (dAt dd_X11_areAlike 11 rfl) (by decide) rfl ?_
    refine x_istore_n (j := 3) (lv' := [(3, .int 0), (0, va_rf (some a0)), (1, .int p1), (2, .int p2)]) (p' := 21) hC (dAt dd_X11_areAlike 12 rfl) rfl (by decide) rfl rfl ?_
    refine x_iconst (v := 0) (p' := 22) hC (dAt dd_X11_areAlike 13 rfl) (by decide) rfl ?_
    refine x_istore (lv' := [(4, .int 0), (3, .int 0), (0, va_rf (some a0)), (1, .int p1), (2, .int p2)]) (p' := 24) hC (dAt dd_X11_areAlike 14 rfl) (by decide) rfl rfl ?_
    refine x_sub [2, 3, 4, 1, 0] rfl ?_
    exact t_X11_areAlike_L24 hC FU a0 p1 p2 0 0 h
  · refine x_iconst (v := 1) (p' := 16) hC (dAt dd_X11_areAlike 9 rfl) (by decide) rfl ?_
    refine x_goto (tgt := 20) hC (dAt dd_X11_areAlike 10 rfl) (by decide) ?_
    refine x_istore_n (j := 3) (lv' := [(3, .int 1), (0, va_rf (some a0)), (1, .int p1), (2, .int p2)]) (p' := 21) hC (dAt dd_X11_areAlike 12 rfl) rfl (by decide) rfl rfl ?_
    refine x_iconst (v := 0) (p' := 22) hC (dAt dd_X11_areAlike 13 rfl) (by decide) rfl ?_
    refine x_istore (lv' := [(4, .int 0), (3, .int 1), (0, va_rf (some a0)), (1, .int p1), (2, .int p2)]) (p' := 24) hC (dAt dd_X11_areAlike 14 rfl) (by decide) rfl rfl ?_
    refine x_sub [2, 3, 4, 1, 0] rfl ?_
    exact t_X11_areAlike_L24 hC FU a0 p1 p2 1 0 h
set_option maxHeartbeats 4000000 in
set_option maxRecDepth 100000 in
theorem t_X11_stateOf_J21 {C : CT} (hC : OKC C yX11_stateOf cX11_stateOf 2 (some .int) 1 24)   : ∀ (x0 : Nat) (x1 : Int32) (h : AH), WX rvI C 21 [(0, va_rf (some x0)), (1, .int x1)] [] h (f_X11_stateOf_J21 x0 x1 h) := by
  intro x0 x1 h
  unfold f_X11_stateOf_J21
  refine x_aload_n (p' := 22) hC 0 (dAt dd_X11_stateOf 12 rfl) rfl rfl rfl ?_
  refine x_getR (p' := 25) hC fk_RX11_45 rfl (dAt dd_X11_stateOf 13 rfl) rfl (fun r3 => ?_)
  refine x_iload_n (p' := 26) hC 1 (dAt dd_X11_stateOf 14 rfl) rfl rfl rfl ?_
  refine x_baload (p' := 27) hC (dAt dd_X11_stateOf 15 rfl) rfl (fun v4 => ?_)
  refine x_if_eq (tgt := 34) (p' := 30) hC (dAt dd_X11_stateOf 16 rfl) (by decide) rfl ?_ ?_
  · refine x_aload_n (p' := 35) hC 0 (dAt dd_X11_stateOf 19 rfl) rfl rfl rfl ?_
    refine x_getR (p' := 38) hC fk_RX11_45 rfl (dAt dd_X11_stateOf 20 rfl) rfl (fun r5 => ?_)
    refine x_bipush (v := 36) (p' := 40) hC (dAt dd_X11_stateOf 21 rfl) (by decide) rfl ?_
    refine x_iload_n (p' := 41) hC 1 (dAt dd_X11_stateOf 22 rfl) rfl rfl rfl ?_
    refine x_iadd (p' := 42) hC (dAt dd_X11_stateOf 23 rfl) rfl ?_
    refine x_baload (p' := 43) hC (dAt dd_X11_stateOf 24 rfl) rfl (fun v6 => ?_)
    refine x_if_eq (tgt := 50) (p' := 46) hC (dAt dd_X11_stateOf 25 rfl) (by decide) rfl ?_ ?_
    · refine x_iconst (v := 0) (p' := 51) hC (dAt dd_X11_stateOf 28 rfl) (by decide) rfl ?_
      exact x_ireturn hC (dAt dd_X11_stateOf 29 rfl)
    · refine x_iconst (v := 1) (p' := 47) hC (dAt dd_X11_stateOf 26 rfl) (by decide) rfl ?_
      refine x_goto (tgt := 51) hC (dAt dd_X11_stateOf 27 rfl) (by decide) ?_
      exact x_ireturn hC (dAt dd_X11_stateOf 29 rfl)
  · refine x_iconst (v := 4) (p' := 31) hC (dAt dd_X11_stateOf 17 rfl) (by decide) rfl ?_
    refine x_goto (tgt := 51) hC (dAt dd_X11_stateOf 18 rfl) (by decide) ?_
    exact x_ireturn hC (dAt dd_X11_stateOf 29 rfl)
set_option maxHeartbeats 4000000 in
set_option maxRecDepth 100000 in
theorem c_X11_stateOf (l : Launch) (D : va_G) (cy : Nat → ClassId) (h : AH) (a0 : Nat) (p1 : Int32) : MX rvI l yX11_stateOf (Cond.code yX11_stateOf cX11_stateOf 2 (some .int) :: LW) 1 24 D cy h [va_rf (some a0), .int p1] (f_X11_stateOf h a0 p1) := by
  refine MX.of (lv := [(0, va_rf (some a0)), (1, .int p1)]) (by decide) (Nat.le_of_ble_eq_true rfl) rfl (fun C hC _ => ?_)
  unfold f_X11_stateOf
  refine x_aload_n (p' := 1) hC 0 (dAt dd_X11_stateOf 0 rfl) rfl rfl rfl ?_
  refine x_getR (p' := 4) hC fk_RX11_45 rfl (dAt dd_X11_stateOf 1 rfl) rfl (fun r1 => ?_)
  refine x_iload_n (p' := 5) hC 1 (dAt dd_X11_stateOf 2 rfl) rfl rfl rfl ?_
  refine x_baload (p' := 6) hC (dAt dd_X11_stateOf 3 rfl) rfl (fun v2 => ?_)
  refine x_if_eq (tgt := 21) (p' := 9) hC (dAt dd_X11_stateOf 4 rfl) (by decide) rfl ?_ ?_
  · exact t_X11_stateOf_J21 hC a0 p1 h
  · refine x_aload_n (p' := 10) hC 0 (dAt dd_X11_stateOf 5 rfl) rfl rfl rfl ?_
    refine x_getR (p' := 13) hC fk_RX11_45 rfl (dAt dd_X11_stateOf 6 rfl) rfl (fun r7 => ?_)
    refine x_bipush (v := 36) (p' := 15) hC (dAt dd_X11_stateOf 7 rfl) (by decide) rfl ?_
    refine x_iload_n (p' := 16) hC 1 (dAt dd_X11_stateOf 8 rfl) rfl rfl rfl ?_
    refine x_iadd (p' := 17) hC (dAt dd_X11_stateOf 9 rfl) rfl ?_
    refine x_baload (p' := 18) hC (dAt dd_X11_stateOf 10 rfl) rfl (fun v8 => ?_)
    refine x_if_ne (tgt := 52) (p' := 21) hC (dAt dd_X11_stateOf 11 rfl) (by decide) rfl ?_ ?_
    · refine x_aload_n (p' := 53) hC 0 (dAt dd_X11_stateOf 30 rfl) rfl rfl rfl ?_
      refine x_iload_n (p' := 54) hC 1 (dAt dd_X11_stateOf 31 rfl) rfl rfl rfl ?_
      refine x_bipush (v := 36) (p' := 56) hC (dAt dd_X11_stateOf 32 rfl) (by decide) rfl ?_
      refine x_iload_n (p' := 57) hC 1 (dAt dd_X11_stateOf 33 rfl) rfl rfl rfl ?_
      refine x_iadd (p' := 58) hC (dAt dd_X11_stateOf 34 rfl) rfl ?_
      refine x_callVI (As := [.int p1, .int (36 + p1)]) (z := fun b => f_X11_areAlike h b p1 (36 + p1)) (p' := 61) hC (fun b => c_X11_areAlike _ _ _ h b p1 (36 + p1)) k_990 k_992 (k_sl 45 rfl) k_9 k_993 hd_X11_areAlike ⟨by decide, by decide⟩ (ci := 10) rfl rfl (by decide) rfl (Nat.le_of_ble_eq_true rfl) rfl (dAt dd_X11_stateOf 35 rfl) rfl (fun v9 h10 => ?_)
      refine x_if_eq (tgt := 68) (p' := 64) hC (dAt dd_X11_stateOf 36 rfl) (by decide) rfl ?_ ?_
      · refine x_iconst (v := 3) (p' := 69) hC (dAt dd_X11_stateOf 39 rfl) (by decide) rfl ?_
        exact x_ireturn hC (dAt dd_X11_stateOf 40 rfl)
      · refine x_iconst (v := 2) (p' := 65) hC (dAt dd_X11_stateOf 37 rfl) (by decide) rfl ?_
        refine x_goto (tgt := 69) hC (dAt dd_X11_stateOf 38 rfl) (by decide) ?_
        exact x_ireturn hC (dAt dd_X11_stateOf 40 rfl)
    · exact t_X11_stateOf_J21 hC a0 p1 h
set_option maxHeartbeats 4000000 in
set_option maxRecDepth 100000 in
theorem c_X11_give (l : Launch) (D : va_G) (cy : Nat → ClassId) (h : AH) (a0 : Nat) (p1 : Int32) (p2 : Int32) (p3 : Int32) : MX rvI l yX11_give (Cond.code yX11_give cX11_give 6 (some .int) :: LW) 6 150 D cy h [va_rf (some a0), .int p1, .int p2, .int p3] (f_X11_give h a0 p1 p2 p3) := by
  refine MX.of (lv := [(0, va_rf (some a0)), (1, .int p1), (2, .int p2), (3, .int p3)]) (by decide) (Nat.le_of_ble_eq_true rfl) rfl (fun C hC _ => ?_)
  unfold f_X11_give
  refine x_aload_n (p' := 1) hC 0 (dAt dd_X11_give 0 rfl) rfl rfl rfl ?_
  refine x_iconst (v := 0) (p' := 2) hC (dAt dd_X11_give 1 rfl) (by decide) rfl ?_
  refine x_putI (p' := 5) hC fk_RX11_1 tk_RX11 rfl rfl (Or.inl rfl) (dAt dd_X11_give 2 rfl) rfl (fun h1 => ?_)
  refine x_iload_n (p' := 6) hC 1 (dAt dd_X11_give 3 rfl) rfl rfl rfl ?_
  refine x_iload_n (p' := 7) hC 2 (dAt dd_X11_give 4 rfl) rfl rfl rfl ?_
  refine x_callSI (As := [.int p1, .int p2]) (p' := 10) hC (c_X11_isSlot _ _ _ h1 p1 p2) k_966 k_967 k_9 k_968 hd_X11_isSlot ⟨by decide, by decide⟩ rfl (Nat.le_of_ble_eq_true rfl) rfl (dAt dd_X11_give 5 rfl) rfl (fun v2 h3 => ?_)
  refine x_if_eq (tgt := 20) (p' := 13) hC (dAt dd_X11_give 6 rfl) (by decide) rfl ?_ ?_
  · refine x_ldc (v := (-1000001)) (p' := 22) hC (dAt dd_X11_give 10 rfl) k_918 rfl ?_
    exact x_ireturn hC (dAt dd_X11_give 11 rfl)
  · refine x_iload_n (p' := 14) hC 3 (dAt dd_X11_give 7 rfl) rfl rfl rfl ?_
    refine x_callSI (As := [.int p3]) (p' := 17) hC (c_X11_isRow _ _ _ h3 p3) k_910 k_911 k_9 k_912 hd_X11_isRow ⟨by decide, by decide⟩ rfl (Nat.le_of_ble_eq_true rfl) rfl (dAt dd_X11_give 8 rfl) rfl (fun v4 h5 => ?_)
    refine x_if_ne (tgt := 23) (p' := 20) hC (dAt dd_X11_give 9 rfl) (by decide) rfl ?_ ?_
    · refine x_iconst (v := 3) (p' := 24) hC (dAt dd_X11_give 12 rfl) (by decide) rfl ?_
      refine x_iload_n (p' := 25) hC 1 (dAt dd_X11_give 13 rfl) rfl rfl rfl ?_
      refine x_imul (p' := 26) hC (dAt dd_X11_give 14 rfl) rfl ?_
      refine x_iload_n (p' := 27) hC 2 (dAt dd_X11_give 15 rfl) rfl rfl rfl ?_
      refine x_iadd (p' := 28) hC (dAt dd_X11_give 16 rfl) rfl ?_
      refine x_istore (lv' := [(4, .int ((3 * p1) + p2)), (0, va_rf (some a0)), (1, .int p1), (2, .int p2), (3, .int p3)]) (p' := 30) hC (dAt dd_X11_give 17 rfl) (by decide) rfl rfl ?_
      refine x_aload_n (p' := 31) hC 1 (dAt dd_X11_give 18 rfl) rfl rfl rfl ?_
      refine x_bipush (v := 36) (p' := 33) hC (dAt dd_X11_give 19 rfl) (by decide) rfl ?_
      refine x_iload (p' := 35) hC 0 (dAt dd_X11_give 20 rfl) rfl rfl ?_
      refine x_iadd (p' := 36) hC (dAt dd_X11_give 21 rfl) rfl ?_
      refine x_iload_n (p' := 37) hC 4 (dAt dd_X11_give 22 rfl) rfl rfl rfl ?_
      refine x_callVI (As := [.int (36 + ((3 * p1) + p2)), .int p3]) (z := fun b => f_X11_come h5 b (36 + ((3 * p1) + p2)) p3) (p' := 40) hC (fun b => c_X11_come _ _ _ h5 b (36 + ((3 * p1) + p2)) p3) k_970 k_972 (k_sl 41 rfl) k_9 k_973 hd_X11_come ⟨by decide, by decide⟩ (ci := 10) rfl rfl (by decide) rfl (Nat.le_of_ble_eq_true rfl) rfl (dAt dd_X11_give 23 rfl) rfl (fun v6 h7 => ?_)
      refine x_istore (lv' := [(5, .int v6), (4, .int ((3 * p1) + p2)), (0, va_rf (some a0)), (1, .int p1), (2, .int p2), (3, .int p3)]) (p' := 42) hC (dAt dd_X11_give 24 rfl) (by decide) rfl rfl ?_
      refine x_iload (p' := 44) hC 0 (dAt dd_X11_give 25 rfl) rfl rfl ?_
      refine x_if_ge (tgt := 50) (p' := 47) hC (dAt dd_X11_give 26 rfl) (by decide) rfl ?_ ?_
      · refine x_aload_n (p' := 51) hC 2 (dAt dd_X11_give 29 rfl) rfl rfl rfl ?_
        refine x_iload (p' := 53) hC 1 (dAt dd_X11_give 30 rfl) rfl rfl ?_
        refine x_callVV (As := [.int ((3 * p1) + p2)]) (z := fun b => f_X11_endLooks h7 b ((3 * p1) + p2)) (p' := 56) hC (fun b => c_X11_endLooks _ _ _ h7 b ((3 * p1) + p2)) k_982 k_984 (k_sl 43 rfl) k_9 k_985 hd_X11_endLooks ⟨by decide, by decide⟩ (ci := 10) rfl rfl (by decide) rfl (Nat.le_of_ble_eq_true rfl) rfl (dAt dd_X11_give 31 rfl) rfl (fun u8 h9 => ?_)
        refine x_aload_n (p' := 57) hC 2 (dAt dd_X11_give 32 rfl) rfl rfl rfl ?_
        refine x_iload (p' := 59) hC 1 (dAt dd_X11_give 33 rfl) rfl rfl ?_
        refine x_callVI (As := [.int ((3 * p1) + p2)]) (z := fun b => f_X11_stateOf h9 b ((3 * p1) + p2)) (p' := 62) hC (fun b => c_X11_stateOf _ _ _ h9 b ((3 * p1) + p2)) k_986 k_988 (k_sl 44 rfl) k_9 k_989 hd_X11_stateOf ⟨by decide, by decide⟩ (ci := 10) rfl rfl (by decide) rfl (Nat.le_of_ble_eq_true rfl) rfl (dAt dd_X11_give 34 rfl) rfl (fun v10 h11 => ?_)
        exact x_ireturn hC (dAt dd_X11_give 35 rfl)
      · refine x_iload (p' := 49) hC 0 (dAt dd_X11_give 27 rfl) rfl rfl ?_
        exact x_ireturn hC (dAt dd_X11_give 28 rfl)
    · refine x_ldc (v := (-1000001)) (p' := 22) hC (dAt dd_X11_give 10 rfl) k_918 rfl ?_
      exact x_ireturn hC (dAt dd_X11_give 11 rfl)
set_option maxHeartbeats 4000000 in
set_option maxRecDepth 100000 in
theorem t_X11_begin_J31 {C : CT} (hC : OKC C yX11_begin cX11_begin 3 (some .int) 1 22) (k10 : Nat → Int32 → Int32 → AH → RX Int32) (hk10 : ∀ (x0 : Nat) (x1 : Int32) (x2 : Int32) (h : AH), WX rvI C 10 [(0, va_rf (some x0)), (1, .int x1), (2, .int x2)] [] h (k10 x0 x1 x2 h)) : ∀ (x0 : Nat) (x2 : Int32) (s0 : Int32) (s1 : Int32) (h : AH), WX rvI C 31 [(0, va_rf (some x0)), (2, .int x2)] [.int s0, .int s1] h (f_X11_begin_J31 k10 x0 x2 s0 s1 h) := by
  intro x0 x2 s0 s1 h
  unfold f_X11_begin_J31
  refine x_iadd (p' := 32) hC (dAt dd_X11_begin 19 rfl) rfl ?_
  refine x_istore_n (j := 1) (lv' := [(1, .int (s1 + s0)), (0, va_rf (some x0)), (2, .int x2)]) (p' := 33) hC (dAt dd_X11_begin 20 rfl) rfl (by decide) rfl rfl ?_
  refine x_aload_n (p' := 34) hC 1 (dAt dd_X11_begin 21 rfl) rfl rfl rfl ?_
  refine x_getR (p' := 37) hC fk_RX11_45 rfl (dAt dd_X11_begin 22 rfl) rfl (fun r4 => ?_)
  refine x_iload_n (p' := 38) hC 2 (dAt dd_X11_begin 23 rfl) rfl rfl rfl ?_
  refine x_iconst (v := 0) (p' := 39) hC (dAt dd_X11_begin 24 rfl) (by decide) rfl ?_
  refine x_bastore (p' := 40) hC (dAt dd_X11_begin 25 rfl) rfl (fun h5 => ?_)
  refine x_aload_n (p' := 41) hC 1 (dAt dd_X11_begin 26 rfl) rfl rfl rfl ?_
  refine x_iload_n (p' := 42) hC 2 (dAt dd_X11_begin 27 rfl) rfl rfl rfl ?_
  refine x_bipush (v := 36) (p' := 44) hC (dAt dd_X11_begin 28 rfl) (by decide) rfl ?_
  refine x_isub (p' := 45) hC (dAt dd_X11_begin 29 rfl) rfl ?_
  refine x_callVV (As := [.int (x2 - 36)]) (z := fun b => f_X11_endLooks h5 b (x2 - 36)) (p' := 48) hC (fun b => c_X11_endLooks _ _ _ h5 b (x2 - 36)) k_982 k_984 (k_sl 43 rfl) k_9 k_985 hd_X11_endLooks ⟨by decide, by decide⟩ (ci := 10) rfl rfl (by decide) rfl (Nat.le_of_ble_eq_true rfl) rfl (dAt dd_X11_begin 30 rfl) rfl (fun u6 h7 => ?_)
  refine x_iinc (w := (x2 + 1)) (lv' := [(2, .int (x2 + 1)), (1, .int (s1 + s0)), (0, va_rf (some x0))]) (p' := 51) hC 2 (dAt dd_X11_begin 31 rfl) rfl rfl (by decide) rfl rfl ?_
  refine x_goto (tgt := 10) hC (dAt dd_X11_begin 32 rfl) (by decide) ?_
  refine x_sub [2, 1, 0] rfl ?_
  exact hk10 x0 (s1 + s0) (x2 + 1) h7
set_option maxHeartbeats 4000000 in
set_option maxRecDepth 100000 in
theorem t_X11_begin_L10 {C : CT} (hC : OKC C yX11_begin cX11_begin 3 (some .int) 1 22)   : ∀ (n : Nat) (x0 : Nat) (x1 : Int32) (x2 : Int32) (h : AH), WX rvI C 10 [(0, va_rf (some x0)), (1, .int x1), (2, .int x2)] [] h (f_X11_begin_L10 n x0 x1 x2 h) := by
  intro n
  induction n with
  | zero => intro _ _ _ _; exact x_none
  | succ n ih =>
    intro x0 x1 x2 h
    rw [f_X11_begin_L10]
    refine x_iload_n (p' := 11) hC 2 (dAt dd_X11_begin 7 rfl) rfl rfl rfl ?_
    refine x_bipush (v := 72) (p' := 13) hC (dAt dd_X11_begin 8 rfl) (by decide) rfl ?_
    refine x_icmp_ge (tgt := 54) (p' := 16) hC (dAt dd_X11_begin 9 rfl) (by decide) rfl ?_ ?_
    · refine x_iload_n (p' := 55) hC 1 (dAt dd_X11_begin 33 rfl) rfl rfl rfl ?_
      exact x_ireturn hC (dAt dd_X11_begin 34 rfl)
    · refine x_iload_n (p' := 17) hC 1 (dAt dd_X11_begin 10 rfl) rfl rfl rfl ?_
      refine x_aload_n (p' := 18) hC 0 (dAt dd_X11_begin 11 rfl) rfl rfl rfl ?_
      refine x_getR (p' := 21) hC fk_RX11_45 rfl (dAt dd_X11_begin 12 rfl) rfl (fun r2 => ?_)
      refine x_iload_n (p' := 22) hC 2 (dAt dd_X11_begin 13 rfl) rfl rfl rfl ?_
      refine x_baload (p' := 23) hC (dAt dd_X11_begin 14 rfl) rfl (fun v3 => ?_)
      refine x_if_eq (tgt := 30) (p' := 26) hC (dAt dd_X11_begin 15 rfl) (by decide) rfl ?_ ?_
      · refine x_iconst (v := 0) (p' := 31) hC (dAt dd_X11_begin 18 rfl) (by decide) rfl ?_
        refine x_sub [0, 2] rfl ?_
        exact t_X11_begin_J31 hC (f_X11_begin_L10 n) ih x0 x2 0 x1 h
      · refine x_iconst (v := 1) (p' := 27) hC (dAt dd_X11_begin 16 rfl) (by decide) rfl ?_
        refine x_goto (tgt := 31) hC (dAt dd_X11_begin 17 rfl) (by decide) ?_
        refine x_sub [0, 2] rfl ?_
        exact t_X11_begin_J31 hC (f_X11_begin_L10 n) ih x0 x2 1 x1 h
set_option maxHeartbeats 4000000 in
set_option maxRecDepth 100000 in
theorem c_X11_begin (l : Launch) (D : va_G) (cy : Nat → ClassId) (h : AH) (a0 : Nat) : MX rvI l yX11_begin (Cond.code yX11_begin cX11_begin 3 (some .int) :: LW) 1 22 D cy h [va_rf (some a0)] (f_X11_begin h a0) := by
  refine MX.of (lv := [(0, va_rf (some a0))]) (by decide) (Nat.le_of_ble_eq_true rfl) rfl (fun C hC _ => ?_)
  unfold f_X11_begin
  refine x_aload_n (p' := 1) hC 0 (dAt dd_X11_begin 0 rfl) rfl rfl rfl ?_
  refine x_iconst (v := 0) (p' := 2) hC (dAt dd_X11_begin 1 rfl) (by decide) rfl ?_
  refine x_putI (p' := 5) hC fk_RX11_1 tk_RX11 rfl rfl (Or.inl rfl) (dAt dd_X11_begin 2 rfl) rfl (fun h1 => ?_)
  refine x_iconst (v := 0) (p' := 6) hC (dAt dd_X11_begin 3 rfl) (by decide) rfl ?_
  refine x_istore_n (j := 1) (lv' := [(1, .int 0), (0, va_rf (some a0))]) (p' := 7) hC (dAt dd_X11_begin 4 rfl) rfl (by decide) rfl rfl ?_
  refine x_bipush (v := 36) (p' := 9) hC (dAt dd_X11_begin 5 rfl) (by decide) rfl ?_
  refine x_istore_n (j := 2) (lv' := [(2, .int 36), (1, .int 0), (0, va_rf (some a0))]) (p' := 10) hC (dAt dd_X11_begin 6 rfl) rfl (by decide) rfl rfl ?_
  refine x_sub [2, 1, 0] rfl ?_
  exact t_X11_begin_L10 hC FU a0 0 36 h1
set_option maxHeartbeats 4000000 in
set_option maxRecDepth 100000 in
theorem c_X11_forget (l : Launch) (D : va_G) (cy : Nat → ClassId) (h : AH) (a0 : Nat) (p1 : Int32) (p2 : Int32) : MX rvI l yX11_forget (Cond.code yX11_forget cX11_forget 4 (some .int) :: LW) 2 46 D cy h [va_rf (some a0), .int p1, .int p2] (f_X11_forget h a0 p1 p2) := by
  refine MX.of (lv := [(0, va_rf (some a0)), (1, .int p1), (2, .int p2)]) (by decide) (Nat.le_of_ble_eq_true rfl) rfl (fun C hC _ => ?_)
  unfold f_X11_forget
  refine x_aload_n (p' := 1) hC 0 (dAt dd_X11_forget 0 rfl) rfl rfl rfl ?_
  refine x_iconst (v := 0) (p' := 2) hC (dAt dd_X11_forget 1 rfl) (by decide) rfl ?_
  refine x_putI (p' := 5) hC fk_RX11_1 tk_RX11 rfl rfl (Or.inl rfl) (dAt dd_X11_forget 2 rfl) rfl (fun h1 => ?_)
  refine x_iload_n (p' := 6) hC 1 (dAt dd_X11_forget 3 rfl) rfl rfl rfl ?_
  refine x_iload_n (p' := 7) hC 2 (dAt dd_X11_forget 4 rfl) rfl rfl rfl ?_
  refine x_callSI (As := [.int p1, .int p2]) (p' := 10) hC (c_X11_isSlot _ _ _ h1 p1 p2) k_966 k_967 k_9 k_968 hd_X11_isSlot ⟨by decide, by decide⟩ rfl (Nat.le_of_ble_eq_true rfl) rfl (dAt dd_X11_forget 5 rfl) rfl (fun v2 h3 => ?_)
  refine x_if_ne (tgt := 16) (p' := 13) hC (dAt dd_X11_forget 6 rfl) (by decide) rfl ?_ ?_
  · refine x_aload_n (p' := 17) hC 0 (dAt dd_X11_forget 9 rfl) rfl rfl rfl ?_
    refine x_getR (p' := 20) hC fk_RX11_45 rfl (dAt dd_X11_forget 10 rfl) rfl (fun r4 => ?_)
    refine x_iconst (v := 3) (p' := 21) hC (dAt dd_X11_forget 11 rfl) (by decide) rfl ?_
    refine x_iload_n (p' := 22) hC 1 (dAt dd_X11_forget 12 rfl) rfl rfl rfl ?_
    refine x_imul (p' := 23) hC (dAt dd_X11_forget 13 rfl) rfl ?_
    refine x_iload_n (p' := 24) hC 2 (dAt dd_X11_forget 14 rfl) rfl rfl rfl ?_
    refine x_iadd (p' := 25) hC (dAt dd_X11_forget 15 rfl) rfl ?_
    refine x_baload (p' := 26) hC (dAt dd_X11_forget 16 rfl) rfl (fun v5 => ?_)
    refine x_istore_n (j := 3) (lv' := [(3, .int v5), (0, va_rf (some a0)), (1, .int p1), (2, .int p2)]) (p' := 27) hC (dAt dd_X11_forget 17 rfl) rfl (by decide) rfl rfl ?_
    refine x_aload_n (p' := 28) hC 1 (dAt dd_X11_forget 18 rfl) rfl rfl rfl ?_
    refine x_getR (p' := 31) hC fk_RX11_45 rfl (dAt dd_X11_forget 19 rfl) rfl (fun r6 => ?_)
    refine x_iconst (v := 3) (p' := 32) hC (dAt dd_X11_forget 20 rfl) (by decide) rfl ?_
    refine x_iload_n (p' := 33) hC 2 (dAt dd_X11_forget 21 rfl) rfl rfl rfl ?_
    refine x_imul (p' := 34) hC (dAt dd_X11_forget 22 rfl) rfl ?_
    refine x_iload_n (p' := 35) hC 3 (dAt dd_X11_forget 23 rfl) rfl rfl rfl ?_
    refine x_iadd (p' := 36) hC (dAt dd_X11_forget 24 rfl) rfl ?_
    refine x_iconst (v := 0) (p' := 37) hC (dAt dd_X11_forget 25 rfl) (by decide) rfl ?_
    refine x_bastore (p' := 38) hC (dAt dd_X11_forget 26 rfl) rfl (fun h7 => ?_)
    refine x_iload_n (p' := 39) hC 0 (dAt dd_X11_forget 27 rfl) rfl rfl rfl ?_
    refine x_if_eq (tgt := 46) (p' := 42) hC (dAt dd_X11_forget 28 rfl) (by decide) rfl ?_ ?_
    · refine x_iconst (v := 0) (p' := 47) hC (dAt dd_X11_forget 31 rfl) (by decide) rfl ?_
      exact x_ireturn hC (dAt dd_X11_forget 32 rfl)
    · refine x_iconst (v := 1) (p' := 43) hC (dAt dd_X11_forget 29 rfl) (by decide) rfl ?_
      refine x_goto (tgt := 47) hC (dAt dd_X11_forget 30 rfl) (by decide) ?_
      exact x_ireturn hC (dAt dd_X11_forget 32 rfl)
  · refine x_ldc (v := (-1000001)) (p' := 15) hC (dAt dd_X11_forget 7 rfl) k_918 rfl ?_
    exact x_ireturn hC (dAt dd_X11_forget 8 rfl)
set_option maxHeartbeats 4000000 in
set_option maxRecDepth 100000 in
theorem c_X11_state (l : Launch) (D : va_G) (cy : Nat → ClassId) (h : AH) (a0 : Nat) (p1 : Int32) (p2 : Int32) : MX rvI l yX11_state (Cond.code yX11_state cX11_state 3 (some .int) :: LW) 2 46 D cy h [va_rf (some a0), .int p1, .int p2] (f_X11_state h a0 p1 p2) := by
  refine MX.of (lv := [(0, va_rf (some a0)), (1, .int p1), (2, .int p2)]) (by decide) (Nat.le_of_ble_eq_true rfl) rfl (fun C hC _ => ?_)
  unfold f_X11_state
  refine x_aload_n (p' := 1) hC 0 (dAt dd_X11_state 0 rfl) rfl rfl rfl ?_
  refine x_iconst (v := 0) (p' := 2) hC (dAt dd_X11_state 1 rfl) (by decide) rfl ?_
  refine x_putI (p' := 5) hC fk_RX11_1 tk_RX11 rfl rfl (Or.inl rfl) (dAt dd_X11_state 2 rfl) rfl (fun h1 => ?_)
  refine x_iload_n (p' := 6) hC 1 (dAt dd_X11_state 3 rfl) rfl rfl rfl ?_
  refine x_iload_n (p' := 7) hC 2 (dAt dd_X11_state 4 rfl) rfl rfl rfl ?_
  refine x_callSI (As := [.int p1, .int p2]) (p' := 10) hC (c_X11_isSlot _ _ _ h1 p1 p2) k_966 k_967 k_9 k_968 hd_X11_isSlot ⟨by decide, by decide⟩ rfl (Nat.le_of_ble_eq_true rfl) rfl (dAt dd_X11_state 5 rfl) rfl (fun v2 h3 => ?_)
  refine x_if_eq (tgt := 25) (p' := 13) hC (dAt dd_X11_state 6 rfl) (by decide) rfl ?_ ?_
  · refine x_ldc (v := (-1000001)) (p' := 27) hC (dAt dd_X11_state 15 rfl) k_918 rfl ?_
    exact x_ireturn hC (dAt dd_X11_state 16 rfl)
  · refine x_aload_n (p' := 14) hC 0 (dAt dd_X11_state 7 rfl) rfl rfl rfl ?_
    refine x_iconst (v := 3) (p' := 15) hC (dAt dd_X11_state 8 rfl) (by decide) rfl ?_
    refine x_iload_n (p' := 16) hC 1 (dAt dd_X11_state 9 rfl) rfl rfl rfl ?_
    refine x_imul (p' := 17) hC (dAt dd_X11_state 10 rfl) rfl ?_
    refine x_iload_n (p' := 18) hC 2 (dAt dd_X11_state 11 rfl) rfl rfl rfl ?_
    refine x_iadd (p' := 19) hC (dAt dd_X11_state 12 rfl) rfl ?_
    refine x_callVI (As := [.int ((3 * p1) + p2)]) (z := fun b => f_X11_stateOf h3 b ((3 * p1) + p2)) (p' := 22) hC (fun b => c_X11_stateOf _ _ _ h3 b ((3 * p1) + p2)) k_986 k_988 (k_sl 44 rfl) k_9 k_989 hd_X11_stateOf ⟨by decide, by decide⟩ (ci := 10) rfl rfl (by decide) rfl (Nat.le_of_ble_eq_true rfl) rfl (dAt dd_X11_state 13 rfl) rfl (fun v4 h5 => ?_)
    refine x_goto (tgt := 27) hC (dAt dd_X11_state 14 rfl) (by decide) ?_
    exact x_ireturn hC (dAt dd_X11_state 16 rfl)
set_option maxHeartbeats 4000000 in
set_option maxRecDepth 100000 in
theorem t_X11_states_L24 {C : CT} (hC : OKC C yX11_states cX11_states 4 (some .int) 2 45)   : ∀ (n : Nat) (x0 : Nat) (x1 : Int32) (x2 : Int32) (x3 : Int32) (h : AH), WX rvI C 24 [(0, va_rf (some x0)), (1, .int x1), (2, .int x2), (3, .int x3)] [] h (f_X11_states_L24 n x0 x1 x2 x3 h) := by
  intro n
  induction n with
  | zero => intro _ _ _ _ _; exact x_none
  | succ n ih =>
    intro x0 x1 x2 x3 h
    rw [f_X11_states_L24]
    refine x_iload_n (p' := 25) hC 3 (dAt dd_X11_states 15 rfl) rfl rfl rfl ?_
    refine x_bipush (v := 36) (p' := 27) hC (dAt dd_X11_states 16 rfl) (by decide) rfl ?_
    refine x_icmp_ge (tgt := 53) (p' := 30) hC (dAt dd_X11_states 17 rfl) (by decide) rfl ?_ ?_
    · refine x_iload_n (p' := 54) hC 2 (dAt dd_X11_states 31 rfl) rfl rfl rfl ?_
      exact x_ireturn hC (dAt dd_X11_states 32 rfl)
    · refine x_iload_n (p' := 31) hC 2 (dAt dd_X11_states 18 rfl) rfl rfl rfl ?_
      refine x_aload_n (p' := 32) hC 0 (dAt dd_X11_states 19 rfl) rfl rfl rfl ?_
      refine x_iload_n (p' := 33) hC 3 (dAt dd_X11_states 20 rfl) rfl rfl rfl ?_
      refine x_callVI (As := [.int x3]) (z := fun b => f_X11_stateOf h b x3) (p' := 36) hC (fun b => c_X11_stateOf _ _ _ h b x3) k_986 k_988 (k_sl 44 rfl) k_9 k_989 hd_X11_stateOf ⟨by decide, by decide⟩ (ci := 10) rfl rfl (by decide) rfl (Nat.le_of_ble_eq_true rfl) rfl (dAt dd_X11_states 21 rfl) rfl (fun v4 h5 => ?_)
      refine x_iload_n (p' := 37) hC 1 (dAt dd_X11_states 22 rfl) rfl rfl rfl ?_
      refine x_icmp_ne (tgt := 44) (p' := 40) hC (dAt dd_X11_states 23 rfl) (by decide) rfl ?_ ?_
      · refine x_iconst (v := 0) (p' := 45) hC (dAt dd_X11_states 26 rfl) (by decide) rfl ?_
        refine x_iadd (p' := 46) hC (dAt dd_X11_states 27 rfl) rfl ?_
        refine x_istore_n (j := 2) (lv' := [(2, .int (x2 + 0)), (0, va_rf (some x0)), (1, .int x1), (3, .int x3)]) (p' := 47) hC (dAt dd_X11_states 28 rfl) rfl (by decide) rfl rfl ?_
        refine x_iinc (w := (x3 + 1)) (lv' := [(3, .int (x3 + 1)), (2, .int (x2 + 0)), (0, va_rf (some x0)), (1, .int x1)]) (p' := 50) hC 3 (dAt dd_X11_states 29 rfl) rfl rfl (by decide) rfl rfl ?_
        refine x_goto (tgt := 24) hC (dAt dd_X11_states 30 rfl) (by decide) ?_
        refine x_sub [2, 3, 1, 0] rfl ?_
        exact ih x0 x1 (x2 + 0) (x3 + 1) h5
      · refine x_iconst (v := 1) (p' := 41) hC (dAt dd_X11_states 24 rfl) (by decide) rfl ?_
        refine x_goto (tgt := 45) hC (dAt dd_X11_states 25 rfl) (by decide) ?_
        refine x_iadd (p' := 46) hC (dAt dd_X11_states 27 rfl) rfl ?_
        refine x_istore_n (j := 2) (lv' := [(2, .int (x2 + 1)), (0, va_rf (some x0)), (1, .int x1), (3, .int x3)]) (p' := 47) hC (dAt dd_X11_states 28 rfl) rfl (by decide) rfl rfl ?_
        refine x_iinc (w := (x3 + 1)) (lv' := [(3, .int (x3 + 1)), (2, .int (x2 + 1)), (0, va_rf (some x0)), (1, .int x1)]) (p' := 50) hC 3 (dAt dd_X11_states 29 rfl) rfl rfl (by decide) rfl rfl ?_
        refine x_goto (tgt := 24) hC (dAt dd_X11_states 30 rfl) (by decide) ?_
        refine x_sub [2, 3, 1, 0] rfl ?_
        exact ih x0 x1 (x2 + 1) (x3 + 1) h5
set_option maxHeartbeats 4000000 in
set_option maxRecDepth 100000 in
theorem c_X11_states (l : Launch) (D : va_G) (cy : Nat → ClassId) (h : AH) (a0 : Nat) (p1 : Int32) : MX rvI l yX11_states (Cond.code yX11_states cX11_states 4 (some .int) :: LW) 2 45 D cy h [va_rf (some a0), .int p1] (f_X11_states h a0 p1) := by
  refine MX.of (lv := [(0, va_rf (some a0)), (1, .int p1)]) (by decide) (Nat.le_of_ble_eq_true rfl) rfl (fun C hC _ => ?_)
  unfold f_X11_states
  refine x_aload_n (p' := 1) hC 0 (dAt dd_X11_states 0 rfl) rfl rfl rfl ?_
  refine x_iconst (v := 0) (p' := 2) hC (dAt dd_X11_states 1 rfl) (by decide) rfl ?_
  refine x_putI (p' := 5) hC fk_RX11_1 tk_RX11 rfl rfl (Or.inl rfl) (dAt dd_X11_states 2 rfl) rfl (fun h1 => ?_)
  refine x_iload_n (p' := 6) hC 1 (dAt dd_X11_states 3 rfl) rfl rfl rfl ?_
  refine x_i2l (p' := 7) hC (dAt dd_X11_states 4 rfl) rfl ?_
  refine x_lconst (v := 0) (p' := 8) hC (dAt dd_X11_states 5 rfl) (by decide) rfl ?_
  refine x_ldc2_w (v := 4) (p' := 11) hC (dAt dd_X11_states 6 rfl) k_1010 rfl ?_
  refine x_callSI (As := [.long (Int32.toInt64 p1), .long 0, .long 4]) (p' := 14) hC (c_X11_in _ _ _ h1 (Int32.toInt64 p1) 0 4) k_914 k_915 k_9 k_916 hd_X11_in ⟨by decide, by decide⟩ rfl (Nat.le_of_ble_eq_true rfl) rfl (dAt dd_X11_states 7 rfl) rfl (fun v2 h3 => ?_)
  refine x_if_ne (tgt := 20) (p' := 17) hC (dAt dd_X11_states 8 rfl) (by decide) rfl ?_ ?_
  · refine x_iconst (v := 0) (p' := 21) hC (dAt dd_X11_states 11 rfl) (by decide) rfl ?_
    refine x_istore_n (j := 2) (lv' := [(2, .int 0), (0, va_rf (some a0)), (1, .int p1)]) (p' := 22) hC (dAt dd_X11_states 12 rfl) rfl (by decide) rfl rfl ?_
    refine x_iconst (v := 0) (p' := 23) hC (dAt dd_X11_states 13 rfl) (by decide) rfl ?_
    refine x_istore_n (j := 3) (lv' := [(3, .int 0), (2, .int 0), (0, va_rf (some a0)), (1, .int p1)]) (p' := 24) hC (dAt dd_X11_states 14 rfl) rfl (by decide) rfl rfl ?_
    refine x_sub [2, 3, 1, 0] rfl ?_
    exact t_X11_states_L24 hC FU a0 p1 0 0 h3
  · refine x_ldc (v := (-1000001)) (p' := 19) hC (dAt dd_X11_states 9 rfl) k_918 rfl ?_
    exact x_ireturn hC (dAt dd_X11_states 10 rfl)
set_option maxHeartbeats 4000000 in
set_option maxRecDepth 100000 in
theorem t_X11_token_J44 {C : CT} (hC : OKC C yX11_token cX11_token 6 (some .int) 2 46)   : ∀ (x0 : Nat) (x3 : Int32) (x4 : Int32) (s0 : Int32) (s1 : Int32) (h : AH), WX rvI C 44 [(0, va_rf (some x0)), (3, .int x3), (4, .int x4)] [.int s0, .int s1] h (f_X11_token_J44 x0 x3 x4 s0 s1 h) := by
  intro x0 x3 x4 s0 s1 h
  unfold f_X11_token_J44
  refine x_iadd (p' := 45) hC (dAt dd_X11_token 26 rfl) rfl ?_
  refine x_istore (lv' := [(5, .int (s1 + s0)), (0, va_rf (some x0)), (3, .int x3), (4, .int x4)]) (p' := 47) hC (dAt dd_X11_token 27 rfl) (by decide) rfl rfl ?_
  refine x_aload_n (p' := 48) hC 1 (dAt dd_X11_token 28 rfl) rfl rfl rfl ?_
  refine x_getR (p' := 51) hC fk_RX11_45 rfl (dAt dd_X11_token 29 rfl) rfl (fun r6 => ?_)
  refine x_iload (p' := 53) hC 0 (dAt dd_X11_token 30 rfl) rfl rfl ?_
  refine x_baload (p' := 54) hC (dAt dd_X11_token 31 rfl) rfl (fun v7 => ?_)
  refine x_if_ne (tgt := 60) (p' := 57) hC (dAt dd_X11_token 32 rfl) (by decide) rfl ?_ ?_
  · refine x_iload (p' := 62) hC 3 (dAt dd_X11_token 35 rfl) rfl rfl ?_
    refine x_i2l (p' := 63) hC (dAt dd_X11_token 36 rfl) rfl ?_
    refine x_lconst (v := 0) (p' := 64) hC (dAt dd_X11_token 37 rfl) (by decide) rfl ?_
    refine x_aload_n (p' := 65) hC 1 (dAt dd_X11_token 38 rfl) rfl rfl rfl ?_
    refine x_getR (p' := 68) hC fk_RX11_55 rfl (dAt dd_X11_token 39 rfl) rfl (fun r8 => ?_)
    refine x_iload (p' := 70) hC 0 (dAt dd_X11_token 40 rfl) rfl rfl ?_
    refine x_iaload (p' := 71) hC (dAt dd_X11_token 41 rfl) rfl (fun v9 => ?_)
    refine x_iconst (v := 1) (p' := 72) hC (dAt dd_X11_token 42 rfl) (by decide) rfl ?_
    refine x_isub (p' := 73) hC (dAt dd_X11_token 43 rfl) rfl ?_
    refine x_i2l (p' := 74) hC (dAt dd_X11_token 44 rfl) rfl ?_
    refine x_callSI (As := [.long (Int32.toInt64 x4), .long 0, .long (Int32.toInt64 (v9 - 1))]) (p' := 77) hC (c_X11_in _ _ _ h (Int32.toInt64 x4) 0 (Int32.toInt64 (v9 - 1))) k_914 k_915 k_9 k_916 hd_X11_in ⟨by decide, by decide⟩ rfl (Nat.le_of_ble_eq_true rfl) rfl (dAt dd_X11_token 45 rfl) rfl (fun v10 h11 => ?_)
    refine x_if_ne (tgt := 85) (p' := 80) hC (dAt dd_X11_token 46 rfl) (by decide) rfl ?_ ?_
    · refine x_iload_n (p' := 86) hC 2 (dAt dd_X11_token 49 rfl) rfl rfl rfl ?_
      refine x_iconst (v := 2) (p' := 87) hC (dAt dd_X11_token 50 rfl) (by decide) rfl ?_
      refine x_irem (p' := 88) hC (dAt dd_X11_token 51 rfl) rfl ?_
      refine x_if_ne (tgt := 107) (p' := 91) hC (dAt dd_X11_token 52 rfl) (by decide) rfl ?_ ?_
      · refine x_aload_n (p' := 108) hC 1 (dAt dd_X11_token 62 rfl) rfl rfl rfl ?_
        refine x_getR (p' := 111) hC fk_RX11_49 rfl (dAt dd_X11_token 63 rfl) rfl (fun r12 => ?_)
        refine x_bipush (v := 60) (p' := 113) hC (dAt dd_X11_token 64 rfl) (by decide) rfl ?_
        refine x_iload (p' := 115) hC 0 (dAt dd_X11_token 65 rfl) rfl rfl ?_
        refine x_imul (p' := 116) hC (dAt dd_X11_token 66 rfl) rfl ?_
        refine x_iload (p' := 118) hC 3 (dAt dd_X11_token 67 rfl) rfl rfl ?_
        refine x_iadd (p' := 119) hC (dAt dd_X11_token 68 rfl) rfl ?_
        refine x_iaload (p' := 120) hC (dAt dd_X11_token 69 rfl) rfl (fun v13 => ?_)
        exact x_ireturn hC (dAt dd_X11_token 70 rfl)
      · refine x_aload_n (p' := 92) hC 1 (dAt dd_X11_token 53 rfl) rfl rfl rfl ?_
        refine x_getR (p' := 95) hC fk_RX11_52 rfl (dAt dd_X11_token 54 rfl) rfl (fun r14 => ?_)
        refine x_bipush (v := 60) (p' := 97) hC (dAt dd_X11_token 55 rfl) (by decide) rfl ?_
        refine x_iload (p' := 99) hC 0 (dAt dd_X11_token 56 rfl) rfl rfl ?_
        refine x_imul (p' := 100) hC (dAt dd_X11_token 57 rfl) rfl ?_
        refine x_iload (p' := 102) hC 3 (dAt dd_X11_token 58 rfl) rfl rfl ?_
        refine x_iadd (p' := 103) hC (dAt dd_X11_token 59 rfl) rfl ?_
        refine x_iaload (p' := 104) hC (dAt dd_X11_token 60 rfl) rfl (fun v15 => ?_)
        refine x_goto (tgt := 120) hC (dAt dd_X11_token 61 rfl) (by decide) ?_
        exact x_ireturn hC (dAt dd_X11_token 70 rfl)
    · refine x_ldc (v := (-1000000)) (p' := 82) hC (dAt dd_X11_token 47 rfl) k_961 rfl ?_
      refine x_goto (tgt := 120) hC (dAt dd_X11_token 48 rfl) (by decide) ?_
      exact x_ireturn hC (dAt dd_X11_token 70 rfl)
  · refine x_ldc (v := (-1000002)) (p' := 59) hC (dAt dd_X11_token 33 rfl) k_944 rfl ?_
    exact x_ireturn hC (dAt dd_X11_token 34 rfl)
set_option maxHeartbeats 4000000 in
set_option maxRecDepth 100000 in
theorem c_X11_token (l : Launch) (D : va_G) (cy : Nat → ClassId) (h : AH) (a0 : Nat) (p1 : Int32) (p2 : Int32) (p3 : Int32) (p4 : Int32) : MX rvI l yX11_token (Cond.code yX11_token cX11_token 6 (some .int) :: LW) 2 46 D cy h [va_rf (some a0), .int p1, .int p2, .int p3, .int p4] (f_X11_token h a0 p1 p2 p3 p4) := by
  refine MX.of (lv := [(0, va_rf (some a0)), (1, .int p1), (2, .int p2), (3, .int p3), (4, .int p4)]) (by decide) (Nat.le_of_ble_eq_true rfl) rfl (fun C hC _ => ?_)
  unfold f_X11_token
  refine x_aload_n (p' := 1) hC 0 (dAt dd_X11_token 0 rfl) rfl rfl rfl ?_
  refine x_iconst (v := 0) (p' := 2) hC (dAt dd_X11_token 1 rfl) (by decide) rfl ?_
  refine x_putI (p' := 5) hC fk_RX11_1 tk_RX11 rfl rfl (Or.inl rfl) (dAt dd_X11_token 2 rfl) rfl (fun h1 => ?_)
  refine x_iload_n (p' := 6) hC 1 (dAt dd_X11_token 3 rfl) rfl rfl rfl ?_
  refine x_iload_n (p' := 7) hC 2 (dAt dd_X11_token 4 rfl) rfl rfl rfl ?_
  refine x_callSI (As := [.int p1, .int p2]) (p' := 10) hC (c_X11_isSlot _ _ _ h1 p1 p2) k_966 k_967 k_9 k_968 hd_X11_isSlot ⟨by decide, by decide⟩ rfl (Nat.le_of_ble_eq_true rfl) rfl (dAt dd_X11_token 5 rfl) rfl (fun v2 h3 => ?_)
  refine x_if_eq (tgt := 25) (p' := 13) hC (dAt dd_X11_token 6 rfl) (by decide) rfl ?_ ?_
  · refine x_ldc (v := (-1000001)) (p' := 27) hC (dAt dd_X11_token 13 rfl) k_918 rfl ?_
    exact x_ireturn hC (dAt dd_X11_token 14 rfl)
  · refine x_iload_n (p' := 14) hC 3 (dAt dd_X11_token 7 rfl) rfl rfl rfl ?_
    refine x_i2l (p' := 15) hC (dAt dd_X11_token 8 rfl) rfl ?_
    refine x_lconst (v := 0) (p' := 16) hC (dAt dd_X11_token 9 rfl) (by decide) rfl ?_
    refine x_ldc2_w (v := 3) (p' := 19) hC (dAt dd_X11_token 10 rfl) k_1015 rfl ?_
    refine x_callSI (As := [.long (Int32.toInt64 p3), .long 0, .long 3]) (p' := 22) hC (c_X11_in _ _ _ h3 (Int32.toInt64 p3) 0 3) k_914 k_915 k_9 k_916 hd_X11_in ⟨by decide, by decide⟩ rfl (Nat.le_of_ble_eq_true rfl) rfl (dAt dd_X11_token 11 rfl) rfl (fun v4 h5 => ?_)
    refine x_if_ne (tgt := 28) (p' := 25) hC (dAt dd_X11_token 12 rfl) (by decide) rfl ?_ ?_
    · refine x_iconst (v := 3) (p' := 29) hC (dAt dd_X11_token 15 rfl) (by decide) rfl ?_
      refine x_iload_n (p' := 30) hC 1 (dAt dd_X11_token 16 rfl) rfl rfl rfl ?_
      refine x_imul (p' := 31) hC (dAt dd_X11_token 17 rfl) rfl ?_
      refine x_iload_n (p' := 32) hC 2 (dAt dd_X11_token 18 rfl) rfl rfl rfl ?_
      refine x_iadd (p' := 33) hC (dAt dd_X11_token 19 rfl) rfl ?_
      refine x_iload_n (p' := 34) hC 3 (dAt dd_X11_token 20 rfl) rfl rfl rfl ?_
      refine x_iconst (v := 1) (p' := 35) hC (dAt dd_X11_token 21 rfl) (by decide) rfl ?_
      refine x_icmp_le (tgt := 43) (p' := 38) hC (dAt dd_X11_token 22 rfl) (by decide) rfl ?_ ?_
      · refine x_iconst (v := 0) (p' := 44) hC (dAt dd_X11_token 25 rfl) (by decide) rfl ?_
        refine x_sub [0, 3, 4] rfl ?_
        exact t_X11_token_J44 hC a0 p3 p4 0 ((3 * p1) + p2) h5
      · refine x_bipush (v := 36) (p' := 40) hC (dAt dd_X11_token 23 rfl) (by decide) rfl ?_
        refine x_goto (tgt := 44) hC (dAt dd_X11_token 24 rfl) (by decide) ?_
        refine x_sub [0, 3, 4] rfl ?_
        exact t_X11_token_J44 hC a0 p3 p4 36 ((3 * p1) + p2) h5
    · refine x_ldc (v := (-1000001)) (p' := 27) hC (dAt dd_X11_token 13 rfl) k_918 rfl ?_
      exact x_ireturn hC (dAt dd_X11_token 14 rfl)
set_option maxHeartbeats 4000000 in
set_option maxRecDepth 100000 in
theorem t_X11_compare_J135 {C : CT} (hC : OKC C yX11_compare cX11_compare 8 (some .int) 0 0) (k11 : Nat → Int32 → Int32 → Int32 → Int32 → AH → RX Int32) (hk11 : ∀ (x0 : Nat) (x1 : Int32) (x2 : Int32) (x3 : Int32) (x4 : Int32) (h : AH), WX rvI C 11 [(0, va_rf (some x0)), (1, .int x1), (2, .int x2), (3, .int x3), (4, .int x4)] [] h (k11 x0 x1 x2 x3 x4 h)) : ∀ (x0 : Nat) (x1 : Int32) (x2 : Int32) (x3 : Int32) (x4 : Int32) (x5 : Int32) (h : AH), WX rvI C 135 [(0, va_rf (some x0)), (1, .int x1), (2, .int x2), (3, .int x3), (4, .int x4), (5, .int x5)] [] h (f_X11_compare_J135 k11 x0 x1 x2 x3 x4 x5 h) := by
  intro x0 x1 x2 x3 x4 x5 h
  unfold f_X11_compare_J135
  refine x_aload_n (p' := 136) hC 0 (dAt dd_X11_compare 83 rfl) rfl rfl rfl ?_
  refine x_getR (p' := 139) hC fk_RX11_65 rfl (dAt dd_X11_compare 84 rfl) rfl (fun r5 => ?_)
  refine x_bipush (v := 61) (p' := 141) hC (dAt dd_X11_compare 85 rfl) (by decide) rfl ?_
  refine x_iload_n (p' := 142) hC 3 (dAt dd_X11_compare 86 rfl) rfl rfl rfl ?_
  refine x_imul (p' := 143) hC (dAt dd_X11_compare 87 rfl) rfl ?_
  refine x_iload (p' := 145) hC 4 (dAt dd_X11_compare 88 rfl) rfl rfl ?_
  refine x_iadd (p' := 146) hC (dAt dd_X11_compare 89 rfl) rfl ?_
  refine x_iload (p' := 148) hC 5 (dAt dd_X11_compare 90 rfl) rfl rfl ?_
  refine x_iastore (p' := 149) hC (dAt dd_X11_compare 91 rfl) rfl (fun h6 => ?_)
  refine x_iinc (w := (x4 + (-1))) (lv' := [(4, .int (x4 + (-1))), (0, va_rf (some x0)), (1, .int x1), (2, .int x2), (3, .int x3), (5, .int x5)]) (p' := 152) hC 4 (dAt dd_X11_compare 92 rfl) rfl rfl (by decide) rfl rfl ?_
  refine x_goto (tgt := 11) hC (dAt dd_X11_compare 93 rfl) (by decide) ?_
  refine x_sub [1, 2, 3, 4, 0] rfl ?_
  exact hk11 x0 x1 x2 x3 (x4 + (-1)) h6
set_option maxHeartbeats 4000000 in
set_option maxRecDepth 100000 in
theorem t_X11_compare_J133 {C : CT} (hC : OKC C yX11_compare cX11_compare 8 (some .int) 0 0) (k11 : Nat → Int32 → Int32 → Int32 → Int32 → AH → RX Int32) (hk11 : ∀ (x0 : Nat) (x1 : Int32) (x2 : Int32) (x3 : Int32) (x4 : Int32) (h : AH), WX rvI C 11 [(0, va_rf (some x0)), (1, .int x1), (2, .int x2), (3, .int x3), (4, .int x4)] [] h (k11 x0 x1 x2 x3 x4 h)) : ∀ (x0 : Nat) (x1 : Int32) (x2 : Int32) (x3 : Int32) (x4 : Int32) (s0 : Int32) (h : AH), WX rvI C 133 [(0, va_rf (some x0)), (1, .int x1), (2, .int x2), (3, .int x3), (4, .int x4)] [.int s0] h (f_X11_compare_J133 k11 x0 x1 x2 x3 x4 s0 h) := by
  intro x0 x1 x2 x3 x4 s0 h
  unfold f_X11_compare_J133
  refine x_istore (lv' := [(5, .int s0), (0, va_rf (some x0)), (1, .int x1), (2, .int x2), (3, .int x3), (4, .int x4)]) (p' := 135) hC (dAt dd_X11_compare 82 rfl) (by decide) rfl rfl ?_
  refine x_sub [1, 2, 3, 4, 5, 0] rfl ?_
  exact t_X11_compare_J135 hC k11 hk11 x0 x1 x2 x3 x4 s0 h
set_option maxHeartbeats 4000000 in
set_option maxRecDepth 100000 in
theorem t_X11_compare_L11 {C : CT} (hC : OKC C yX11_compare cX11_compare 8 (some .int) 0 0) (k155 : Nat → Int32 → Int32 → Int32 → AH → RX Int32) (hk155 : ∀ (x0 : Nat) (x1 : Int32) (x2 : Int32) (x3 : Int32) (h : AH), WX rvI C 155 [(0, va_rf (some x0)), (1, .int x1), (2, .int x2), (3, .int x3)] [] h (k155 x0 x1 x2 x3 h)) : ∀ (n : Nat) (x0 : Nat) (x1 : Int32) (x2 : Int32) (x3 : Int32) (x4 : Int32) (h : AH), WX rvI C 11 [(0, va_rf (some x0)), (1, .int x1), (2, .int x2), (3, .int x3), (4, .int x4)] [] h (f_X11_compare_L11 k155 n x0 x1 x2 x3 x4 h) := by
  intro n
  induction n with
  | zero => intro _ _ _ _ _ _; exact x_none
  | succ n ih =>
    intro x0 x1 x2 x3 x4 h
    rw [f_X11_compare_L11]
    refine x_iload (p' := 13) hC 4 (dAt dd_X11_compare 6 rfl) rfl rfl ?_
    refine x_if_lt (tgt := 155) (p' := 16) hC (dAt dd_X11_compare 7 rfl) (by decide) rfl ?_ ?_
    · refine x_sub [0, 1, 2, 3] rfl ?_
      exact hk155 x0 x1 x2 x3 h
    · refine x_iconst (v := 0) (p' := 17) hC (dAt dd_X11_compare 8 rfl) (by decide) rfl ?_
      refine x_istore (lv' := [(5, .int 0), (0, va_rf (some x0)), (1, .int x1), (2, .int x2), (3, .int x3), (4, .int x4)]) (p' := 19) hC (dAt dd_X11_compare 9 rfl) (by decide) rfl rfl ?_
      refine x_iload_n (p' := 20) hC 4 (dAt dd_X11_compare 10 rfl) rfl rfl rfl ?_
      refine x_aload_n (p' := 21) hC 1 (dAt dd_X11_compare 11 rfl) rfl rfl rfl ?_
      refine x_getR (p' := 24) hC fk_RX11_55 rfl (dAt dd_X11_compare 12 rfl) rfl (fun r3 => ?_)
      refine x_iload_n (p' := 25) hC 2 (dAt dd_X11_compare 13 rfl) rfl rfl rfl ?_
      refine x_iaload (p' := 26) hC (dAt dd_X11_compare 14 rfl) rfl (fun v4 => ?_)
      refine x_icmp_ge (tgt := 135) (p' := 29) hC (dAt dd_X11_compare 15 rfl) (by decide) rfl ?_ ?_
      · refine x_sub [1, 2, 3, 4, 5, 0] rfl ?_
        exact t_X11_compare_J135 hC (f_X11_compare_L11 k155 n) ih x0 x1 x2 x3 x4 0 h
      · refine x_iload (p' := 31) hC 5 (dAt dd_X11_compare 16 rfl) rfl rfl ?_
        refine x_aload_n (p' := 32) hC 1 (dAt dd_X11_compare 17 rfl) rfl rfl rfl ?_
        refine x_getR (p' := 35) hC fk_RX11_55 rfl (dAt dd_X11_compare 18 rfl) rfl (fun r7 => ?_)
        refine x_iload_n (p' := 36) hC 3 (dAt dd_X11_compare 19 rfl) rfl rfl rfl ?_
        refine x_iaload (p' := 37) hC (dAt dd_X11_compare 20 rfl) rfl (fun v8 => ?_)
        refine x_icmp_ge (tgt := 135) (p' := 40) hC (dAt dd_X11_compare 21 rfl) (by decide) rfl ?_ ?_
        · refine x_sub [1, 2, 3, 4, 5, 0] rfl ?_
          exact t_X11_compare_J135 hC (f_X11_compare_L11 k155 n) ih x0 x1 x2 x3 x4 0 h
        · refine x_aload_n (p' := 41) hC 1 (dAt dd_X11_compare 22 rfl) rfl rfl rfl ?_
          refine x_getR (p' := 44) hC fk_RX11_65 rfl (dAt dd_X11_compare 23 rfl) rfl (fun r9 => ?_)
          refine x_bipush (v := 61) (p' := 46) hC (dAt dd_X11_compare 24 rfl) (by decide) rfl ?_
          refine x_iload_n (p' := 47) hC 4 (dAt dd_X11_compare 25 rfl) rfl rfl rfl ?_
          refine x_iconst (v := 1) (p' := 48) hC (dAt dd_X11_compare 26 rfl) (by decide) rfl ?_
          refine x_iadd (p' := 49) hC (dAt dd_X11_compare 27 rfl) rfl ?_
          refine x_imul (p' := 50) hC (dAt dd_X11_compare 28 rfl) rfl ?_
          refine x_iload (p' := 52) hC 5 (dAt dd_X11_compare 29 rfl) rfl rfl ?_
          refine x_iadd (p' := 53) hC (dAt dd_X11_compare 30 rfl) rfl ?_
          refine x_iaload (p' := 54) hC (dAt dd_X11_compare 31 rfl) rfl (fun v10 => ?_)
          refine x_istore (lv' := [(6, .int v10), (5, .int 0), (0, va_rf (some x0)), (1, .int x1), (2, .int x2), (3, .int x3), (4, .int x4)]) (p' := 56) hC (dAt dd_X11_compare 32 rfl) (by decide) rfl rfl ?_
          refine x_aload_n (p' := 57) hC 2 (dAt dd_X11_compare 33 rfl) rfl rfl rfl ?_
          refine x_getR (p' := 60) hC fk_RX11_65 rfl (dAt dd_X11_compare 34 rfl) rfl (fun r11 => ?_)
          refine x_bipush (v := 61) (p' := 62) hC (dAt dd_X11_compare 35 rfl) (by decide) rfl ?_
          refine x_iload_n (p' := 63) hC 5 (dAt dd_X11_compare 36 rfl) rfl rfl rfl ?_
          refine x_imul (p' := 64) hC (dAt dd_X11_compare 37 rfl) rfl ?_
          refine x_iload (p' := 66) hC 6 (dAt dd_X11_compare 38 rfl) rfl rfl ?_
          refine x_iadd (p' := 67) hC (dAt dd_X11_compare 39 rfl) rfl ?_
          refine x_iconst (v := 1) (p' := 68) hC (dAt dd_X11_compare 40 rfl) (by decide) rfl ?_
          refine x_iadd (p' := 69) hC (dAt dd_X11_compare 41 rfl) rfl ?_
          refine x_iaload (p' := 70) hC (dAt dd_X11_compare 42 rfl) rfl (fun v12 => ?_)
          refine x_istore (lv' := [(7, .int v12), (6, .int v10), (5, .int 0), (0, va_rf (some x0)), (1, .int x1), (2, .int x2), (3, .int x3), (4, .int x4)]) (p' := 72) hC (dAt dd_X11_compare 43 rfl) (by decide) rfl rfl ?_
          refine x_aload_n (p' := 73) hC 3 (dAt dd_X11_compare 44 rfl) rfl rfl rfl ?_
          refine x_getR (p' := 76) hC fk_RX11_52 rfl (dAt dd_X11_compare 45 rfl) rfl (fun r13 => ?_)
          refine x_bipush (v := 60) (p' := 78) hC (dAt dd_X11_compare 46 rfl) (by decide) rfl ?_
          refine x_iload_n (p' := 79) hC 4 (dAt dd_X11_compare 47 rfl) rfl rfl rfl ?_
          refine x_imul (p' := 80) hC (dAt dd_X11_compare 48 rfl) rfl ?_
          refine x_iload_n (p' := 81) hC 6 (dAt dd_X11_compare 49 rfl) rfl rfl rfl ?_
          refine x_iadd (p' := 82) hC (dAt dd_X11_compare 50 rfl) rfl ?_
          refine x_iaload (p' := 83) hC (dAt dd_X11_compare 51 rfl) rfl (fun v14 => ?_)
          refine x_aload_n (p' := 84) hC 3 (dAt dd_X11_compare 52 rfl) rfl rfl rfl ?_
          refine x_getR (p' := 87) hC fk_RX11_52 rfl (dAt dd_X11_compare 53 rfl) rfl (fun r15 => ?_)
          refine x_bipush (v := 60) (p' := 89) hC (dAt dd_X11_compare 54 rfl) (by decide) rfl ?_
          refine x_iload_n (p' := 90) hC 5 (dAt dd_X11_compare 55 rfl) rfl rfl rfl ?_
          refine x_imul (p' := 91) hC (dAt dd_X11_compare 56 rfl) rfl ?_
          refine x_iload (p' := 93) hC 7 (dAt dd_X11_compare 57 rfl) rfl rfl ?_
          refine x_iadd (p' := 94) hC (dAt dd_X11_compare 58 rfl) rfl ?_
          refine x_iaload (p' := 95) hC (dAt dd_X11_compare 59 rfl) rfl (fun v16 => ?_)
          refine x_icmp_ne (tgt := 119) (p' := 98) hC (dAt dd_X11_compare 60 rfl) (by decide) rfl ?_ ?_
          · refine x_iload (p' := 121) hC 1 (dAt dd_X11_compare 76 rfl) rfl rfl ?_
            refine x_iload (p' := 123) hC 0 (dAt dd_X11_compare 77 rfl) rfl rfl ?_
            refine x_icmp_le (tgt := 131) (p' := 126) hC (dAt dd_X11_compare 78 rfl) (by decide) rfl ?_ ?_
            · refine x_iload (p' := 133) hC 0 (dAt dd_X11_compare 81 rfl) rfl rfl ?_
              refine x_sub [3, 4, 5, 6, 7] rfl ?_
              exact t_X11_compare_J133 hC (f_X11_compare_L11 k155 n) ih x0 x1 x2 x3 x4 v12 h
            · refine x_iload (p' := 128) hC 1 (dAt dd_X11_compare 79 rfl) rfl rfl ?_
              refine x_goto (tgt := 133) hC (dAt dd_X11_compare 80 rfl) (by decide) ?_
              refine x_sub [3, 4, 5, 6, 7] rfl ?_
              exact t_X11_compare_J133 hC (f_X11_compare_L11 k155 n) ih x0 x1 x2 x3 x4 v10 h
          · refine x_aload_n (p' := 99) hC 3 (dAt dd_X11_compare 61 rfl) rfl rfl rfl ?_
            refine x_getR (p' := 102) hC fk_RX11_65 rfl (dAt dd_X11_compare 62 rfl) rfl (fun r17 => ?_)
            refine x_bipush (v := 61) (p' := 104) hC (dAt dd_X11_compare 63 rfl) (by decide) rfl ?_
            refine x_iload_n (p' := 105) hC 6 (dAt dd_X11_compare 64 rfl) rfl rfl rfl ?_
            refine x_iconst (v := 1) (p' := 106) hC (dAt dd_X11_compare 65 rfl) (by decide) rfl ?_
            refine x_iadd (p' := 107) hC (dAt dd_X11_compare 66 rfl) rfl ?_
            refine x_imul (p' := 108) hC (dAt dd_X11_compare 67 rfl) rfl ?_
            refine x_iload (p' := 110) hC 7 (dAt dd_X11_compare 68 rfl) rfl rfl ?_
            refine x_iadd (p' := 111) hC (dAt dd_X11_compare 69 rfl) rfl ?_
            refine x_iconst (v := 1) (p' := 112) hC (dAt dd_X11_compare 70 rfl) (by decide) rfl ?_
            refine x_iadd (p' := 113) hC (dAt dd_X11_compare 71 rfl) rfl ?_
            refine x_iaload (p' := 114) hC (dAt dd_X11_compare 72 rfl) rfl (fun v18 => ?_)
            refine x_iconst (v := 1) (p' := 115) hC (dAt dd_X11_compare 73 rfl) (by decide) rfl ?_
            refine x_iadd (p' := 116) hC (dAt dd_X11_compare 74 rfl) rfl ?_
            refine x_goto (tgt := 133) hC (dAt dd_X11_compare 75 rfl) (by decide) ?_
            refine x_sub [3, 4, 5, 6, 7] rfl ?_
            exact t_X11_compare_J133 hC (f_X11_compare_L11 k155 n) ih x0 x1 x2 x3 x4 (v18 + 1) h
set_option maxHeartbeats 4000000 in
set_option maxRecDepth 100000 in
theorem t_X11_compare_J155 {C : CT} (hC : OKC C yX11_compare cX11_compare 8 (some .int) 0 0) (k3 : Nat → Int32 → Int32 → Int32 → AH → RX Int32) (hk3 : ∀ (x0 : Nat) (x1 : Int32) (x2 : Int32) (x3 : Int32) (h : AH), WX rvI C 3 [(0, va_rf (some x0)), (1, .int x1), (2, .int x2), (3, .int x3)] [] h (k3 x0 x1 x2 x3 h)) : ∀ (x0 : Nat) (x1 : Int32) (x2 : Int32) (x3 : Int32) (h : AH), WX rvI C 155 [(0, va_rf (some x0)), (1, .int x1), (2, .int x2), (3, .int x3)] [] h (f_X11_compare_J155 k3 x0 x1 x2 x3 h) := by
  intro x0 x1 x2 x3 h
  unfold f_X11_compare_J155
  refine x_iinc (w := (x3 + (-1))) (lv' := [(3, .int (x3 + (-1))), (0, va_rf (some x0)), (1, .int x1), (2, .int x2)]) (p' := 158) hC 3 (dAt dd_X11_compare 94 rfl) rfl rfl (by decide) rfl rfl ?_
  refine x_goto (tgt := 3) hC (dAt dd_X11_compare 95 rfl) (by decide) ?_
  refine x_sub [1, 2, 3, 0] rfl ?_
  exact hk3 x0 x1 x2 (x3 + (-1)) h
set_option maxHeartbeats 4000000 in
set_option maxRecDepth 100000 in
theorem t_X11_compare_L3 {C : CT} (hC : OKC C yX11_compare cX11_compare 8 (some .int) 0 0)   : ∀ (n : Nat) (x0 : Nat) (x1 : Int32) (x2 : Int32) (x3 : Int32) (h : AH), WX rvI C 3 [(0, va_rf (some x0)), (1, .int x1), (2, .int x2), (3, .int x3)] [] h (f_X11_compare_L3 n x0 x1 x2 x3 h) := by
  intro n
  induction n with
  | zero => intro _ _ _ _ _; exact x_none
  | succ n ih =>
    intro x0 x1 x2 x3 h
    rw [f_X11_compare_L3]
    refine x_iload_n (p' := 4) hC 3 (dAt dd_X11_compare 2 rfl) rfl rfl rfl ?_
    refine x_if_lt (tgt := 161) (p' := 7) hC (dAt dd_X11_compare 3 rfl) (by decide) rfl ?_ ?_
    · refine x_aload_n (p' := 162) hC 0 (dAt dd_X11_compare 96 rfl) rfl rfl rfl ?_
      refine x_getR (p' := 165) hC fk_RX11_65 rfl (dAt dd_X11_compare 97 rfl) rfl (fun r1 => ?_)
      refine x_iconst (v := 0) (p' := 166) hC (dAt dd_X11_compare 98 rfl) (by decide) rfl ?_
      refine x_iaload (p' := 167) hC (dAt dd_X11_compare 99 rfl) rfl (fun v2 => ?_)
      exact x_ireturn hC (dAt dd_X11_compare 100 rfl)
    · refine x_bipush (v := 60) (p' := 9) hC (dAt dd_X11_compare 4 rfl) (by decide) rfl ?_
      refine x_istore (lv' := [(4, .int 60), (0, va_rf (some x0)), (1, .int x1), (2, .int x2), (3, .int x3)]) (p' := 11) hC (dAt dd_X11_compare 5 rfl) (by decide) rfl rfl ?_
      refine x_sub [1, 2, 3, 4, 0] rfl ?_
      exact t_X11_compare_L11 hC (f_X11_compare_J155 (f_X11_compare_L3 n)) (t_X11_compare_J155 hC (f_X11_compare_L3 n) ih) FU x0 x1 x2 x3 60 h
set_option maxHeartbeats 4000000 in
set_option maxRecDepth 100000 in
theorem c_X11_compare (l : Launch) (D : va_G) (cy : Nat → ClassId) (h : AH) (a0 : Nat) (p1 : Int32) (p2 : Int32) : MX rvI l yX11_compare (Cond.code yX11_compare cX11_compare 8 (some .int) :: LW) 0 0 D cy h [va_rf (some a0), .int p1, .int p2] (f_X11_compare h a0 p1 p2) := by
  refine MX.of (lv := [(0, va_rf (some a0)), (1, .int p1), (2, .int p2)]) (by decide) (Nat.le_of_ble_eq_true rfl) rfl (fun C hC _ => ?_)
  unfold f_X11_compare
  refine x_bipush (v := 60) (p' := 2) hC (dAt dd_X11_compare 0 rfl) (by decide) rfl ?_
  refine x_istore_n (j := 3) (lv' := [(3, .int 60), (0, va_rf (some a0)), (1, .int p1), (2, .int p2)]) (p' := 3) hC (dAt dd_X11_compare 1 rfl) rfl (by decide) rfl rfl ?_
  refine x_sub [1, 2, 3, 0] rfl ?_
  exact t_X11_compare_L3 hC FU a0 p1 p2 60 h
set_option maxHeartbeats 4000000 in
set_option maxRecDepth 100000 in
theorem t_X11_findChanges_J252 {C : CT} (hC : OKC C yX11_findChanges cX11_findChanges 10 none 2 45) (k39 : Nat → Int32 → Int32 → Int32 → Int32 → Int32 → AH → RX Unit) (hk39 : ∀ (x0 : Nat) (x2 : Int32) (x3 : Int32) (x5 : Int32) (x6 : Int32) (x7 : Int32) (h : AH), WX rvV C 39 [(0, va_rf (some x0)), (2, .int x2), (3, .int x3), (5, .int x5), (6, .int x6), (7, .int x7)] [] h (k39 x0 x2 x3 x5 x6 x7 h)) : ∀ (x0 : Nat) (x2 : Int32) (x3 : Int32) (x5 : Int32) (x6 : Int32) (x7 : Int32) (s0 : Int32) (h : AH), WX rvV C 252 [(0, va_rf (some x0)), (2, .int x2), (3, .int x3), (5, .int x5), (6, .int x6), (7, .int x7)] [.int s0] h (f_X11_findChanges_J252 k39 x0 x2 x3 x5 x6 x7 s0 h) := by
  intro x0 x2 x3 x5 x6 x7 s0 h
  unfold f_X11_findChanges_J252
  refine x_istore (lv' := [(9, .int s0), (0, va_rf (some x0)), (2, .int x2), (3, .int x3), (5, .int x5), (6, .int x6), (7, .int x7)]) (p' := 254) hC (dAt dd_X11_findChanges 146 rfl) (by decide) rfl rfl ?_
  refine x_iload (p' := 256) hC 0 (dAt dd_X11_findChanges 147 rfl) rfl rfl ?_
  refine x_if_eq (tgt := 280) (p' := 259) hC (dAt dd_X11_findChanges 148 rfl) (by decide) rfl ?_ ?_
  · refine x_aload_n (p' := 281) hC 1 (dAt dd_X11_findChanges 162 rfl) rfl rfl rfl ?_
    refine x_getR (p' := 284) hC fk_RX11_77 rfl (dAt dd_X11_findChanges 163 rfl) rfl (fun r12 => ?_)
    refine x_aload_n (p' := 285) hC 1 (dAt dd_X11_findChanges 164 rfl) rfl rfl rfl ?_
    refine x_getI (p' := 288) hC fk_RX11_217 rfl (dAt dd_X11_findChanges 165 rfl) rfl (fun v13 => ?_)
    refine x_iconst (v := 1) (p' := 289) hC (dAt dd_X11_findChanges 166 rfl) (by decide) rfl ?_
    refine x_isub (p' := 290) hC (dAt dd_X11_findChanges 167 rfl) rfl ?_
    refine x_dup2 (p' := 291) hC (dAt dd_X11_findChanges 168 rfl) rfl (x_cat _) rfl ?_
    refine x_iaload (p' := 292) hC (dAt dd_X11_findChanges 169 rfl) rfl (fun v14 => ?_)
    refine x_iconst (v := 1) (p' := 293) hC (dAt dd_X11_findChanges 170 rfl) (by decide) rfl ?_
    refine x_iadd (p' := 294) hC (dAt dd_X11_findChanges 171 rfl) rfl ?_
    refine x_iastore (p' := 295) hC (dAt dd_X11_findChanges 172 rfl) rfl (fun h15 => ?_)
    refine x_iinc (w := (x6 + 1)) (lv' := [(6, .int (x6 + 1)), (9, .int s0), (0, va_rf (some x0)), (2, .int x2), (3, .int x3), (5, .int x5), (7, .int x7)]) (p' := 298) hC 5 (dAt dd_X11_findChanges 173 rfl) rfl rfl (by decide) rfl rfl ?_
    refine x_goto (tgt := 39) hC (dAt dd_X11_findChanges 174 rfl) (by decide) ?_
    refine x_sub [2, 3, 4, 5, 0, 6] rfl ?_
    exact hk39 x0 x2 x3 x5 (x6 + 1) x7 h15
  · refine x_aload_n (p' := 260) hC 1 (dAt dd_X11_findChanges 149 rfl) rfl rfl rfl ?_
    refine x_getR (p' := 263) hC fk_RX11_71 rfl (dAt dd_X11_findChanges 150 rfl) rfl (fun r16 => ?_)
    refine x_aload_n (p' := 264) hC 1 (dAt dd_X11_findChanges 151 rfl) rfl rfl rfl ?_
    refine x_getI (p' := 267) hC fk_RX11_217 rfl (dAt dd_X11_findChanges 152 rfl) rfl (fun v17 => ?_)
    refine x_iconst (v := 1) (p' := 268) hC (dAt dd_X11_findChanges 153 rfl) (by decide) rfl ?_
    refine x_isub (p' := 269) hC (dAt dd_X11_findChanges 154 rfl) rfl ?_
    refine x_dup2 (p' := 270) hC (dAt dd_X11_findChanges 155 rfl) rfl (x_cat _) rfl ?_
    refine x_iaload (p' := 271) hC (dAt dd_X11_findChanges 156 rfl) rfl (fun v18 => ?_)
    refine x_iconst (v := 1) (p' := 272) hC (dAt dd_X11_findChanges 157 rfl) (by decide) rfl ?_
    refine x_iadd (p' := 273) hC (dAt dd_X11_findChanges 158 rfl) rfl ?_
    refine x_iastore (p' := 274) hC (dAt dd_X11_findChanges 159 rfl) rfl (fun h19 => ?_)
    refine x_iinc (w := (x5 + 1)) (lv' := [(5, .int (x5 + 1)), (9, .int s0), (0, va_rf (some x0)), (2, .int x2), (3, .int x3), (6, .int x6), (7, .int x7)]) (p' := 277) hC 4 (dAt dd_X11_findChanges 160 rfl) rfl rfl (by decide) rfl rfl ?_
    refine x_goto (tgt := 298) hC (dAt dd_X11_findChanges 161 rfl) (by decide) ?_
    refine x_goto (tgt := 39) hC (dAt dd_X11_findChanges 174 rfl) (by decide) ?_
    refine x_sub [2, 3, 4, 0, 5, 6] rfl ?_
    exact hk39 x0 x2 x3 (x5 + 1) x6 x7 h19
set_option maxHeartbeats 4000000 in
set_option maxRecDepth 100000 in
theorem t_X11_findChanges_J251 {C : CT} (hC : OKC C yX11_findChanges cX11_findChanges 10 none 2 45) (k39 : Nat → Int32 → Int32 → Int32 → Int32 → Int32 → AH → RX Unit) (hk39 : ∀ (x0 : Nat) (x2 : Int32) (x3 : Int32) (x5 : Int32) (x6 : Int32) (x7 : Int32) (h : AH), WX rvV C 39 [(0, va_rf (some x0)), (2, .int x2), (3, .int x3), (5, .int x5), (6, .int x6), (7, .int x7)] [] h (k39 x0 x2 x3 x5 x6 x7 h)) : ∀ (x0 : Nat) (x2 : Int32) (x3 : Int32) (x5 : Int32) (x6 : Int32) (x7 : Int32) (h : AH), WX rvV C 251 [(0, va_rf (some x0)), (2, .int x2), (3, .int x3), (5, .int x5), (6, .int x6), (7, .int x7)] [] h (f_X11_findChanges_J251 k39 x0 x2 x3 x5 x6 x7 h) := by
  intro x0 x2 x3 x5 x6 x7 h
  unfold f_X11_findChanges_J251
  refine x_iconst (v := 0) (p' := 252) hC (dAt dd_X11_findChanges 145 rfl) (by decide) rfl ?_
  exact t_X11_findChanges_J252 hC k39 hk39 x0 x2 x3 x5 x6 x7 0 h
set_option maxHeartbeats 4000000 in
set_option maxRecDepth 100000 in
theorem t_X11_findChanges_J247 {C : CT} (hC : OKC C yX11_findChanges cX11_findChanges 10 none 2 45) (k39 : Nat → Int32 → Int32 → Int32 → Int32 → Int32 → AH → RX Unit) (hk39 : ∀ (x0 : Nat) (x2 : Int32) (x3 : Int32) (x5 : Int32) (x6 : Int32) (x7 : Int32) (h : AH), WX rvV C 39 [(0, va_rf (some x0)), (2, .int x2), (3, .int x3), (5, .int x5), (6, .int x6), (7, .int x7)] [] h (k39 x0 x2 x3 x5 x6 x7 h)) : ∀ (x0 : Nat) (x2 : Int32) (x3 : Int32) (x5 : Int32) (x6 : Int32) (x7 : Int32) (h : AH), WX rvV C 247 [(0, va_rf (some x0)), (2, .int x2), (3, .int x3), (5, .int x5), (6, .int x6), (7, .int x7)] [] h (f_X11_findChanges_J247 k39 x0 x2 x3 x5 x6 x7 h) := by
  intro x0 x2 x3 x5 x6 x7 h
  unfold f_X11_findChanges_J247
  refine x_iconst (v := 1) (p' := 248) hC (dAt dd_X11_findChanges 143 rfl) (by decide) rfl ?_
  refine x_goto (tgt := 252) hC (dAt dd_X11_findChanges 144 rfl) (by decide) ?_
  exact t_X11_findChanges_J252 hC k39 hk39 x0 x2 x3 x5 x6 x7 1 h
set_option maxHeartbeats 4000000 in
set_option maxRecDepth 100000 in
theorem t_X11_findChanges_J194 {C : CT} (hC : OKC C yX11_findChanges cX11_findChanges 10 none 2 45) (k39 : Nat → Int32 → Int32 → Int32 → Int32 → Int32 → AH → RX Unit) (hk39 : ∀ (x0 : Nat) (x2 : Int32) (x3 : Int32) (x5 : Int32) (x6 : Int32) (x7 : Int32) (h : AH), WX rvV C 39 [(0, va_rf (some x0)), (2, .int x2), (3, .int x3), (5, .int x5), (6, .int x6), (7, .int x7)] [] h (k39 x0 x2 x3 x5 x6 x7 h)) : ∀ (x0 : Nat) (x2 : Int32) (x3 : Int32) (x5 : Int32) (x6 : Int32) (x7 : Int32) (h : AH), WX rvV C 194 [(0, va_rf (some x0)), (2, .int x2), (3, .int x3), (5, .int x5), (6, .int x6), (7, .int x7)] [] h (f_X11_findChanges_J194 k39 x0 x2 x3 x5 x6 x7 h) := by
  intro x0 x2 x3 x5 x6 x7 h
  unfold f_X11_findChanges_J194
  refine x_iload (p' := 196) hC 3 (dAt dd_X11_findChanges 112 rfl) rfl rfl ?_
  refine x_aload_n (p' := 197) hC 0 (dAt dd_X11_findChanges 113 rfl) rfl rfl rfl ?_
  refine x_getR (p' := 200) hC fk_RX11_55 rfl (dAt dd_X11_findChanges 114 rfl) rfl (fun r10 => ?_)
  refine x_iload_n (p' := 201) hC 1 (dAt dd_X11_findChanges 115 rfl) rfl rfl rfl ?_
  refine x_iaload (p' := 202) hC (dAt dd_X11_findChanges 116 rfl) rfl (fun v11 => ?_)
  refine x_icmp_ge (tgt := 251) (p' := 205) hC (dAt dd_X11_findChanges 117 rfl) (by decide) rfl ?_ ?_
  · exact t_X11_findChanges_J251 hC k39 hk39 x0 x2 x3 x5 x6 x7 h
  · refine x_iload (p' := 207) hC 4 (dAt dd_X11_findChanges 118 rfl) rfl rfl ?_
    refine x_aload_n (p' := 208) hC 0 (dAt dd_X11_findChanges 119 rfl) rfl rfl rfl ?_
    refine x_getR (p' := 211) hC fk_RX11_55 rfl (dAt dd_X11_findChanges 120 rfl) rfl (fun r20 => ?_)
    refine x_iload_n (p' := 212) hC 2 (dAt dd_X11_findChanges 121 rfl) rfl rfl rfl ?_
    refine x_iaload (p' := 213) hC (dAt dd_X11_findChanges 122 rfl) rfl (fun v21 => ?_)
    refine x_icmp_eq (tgt := 247) (p' := 216) hC (dAt dd_X11_findChanges 123 rfl) (by decide) rfl ?_ ?_
    · exact t_X11_findChanges_J247 hC k39 hk39 x0 x2 x3 x5 x6 x7 h
    · refine x_aload_n (p' := 217) hC 0 (dAt dd_X11_findChanges 124 rfl) rfl rfl rfl ?_
      refine x_getR (p' := 220) hC fk_RX11_65 rfl (dAt dd_X11_findChanges 125 rfl) rfl (fun r22 => ?_)
      refine x_bipush (v := 61) (p' := 222) hC (dAt dd_X11_findChanges 126 rfl) (by decide) rfl ?_
      refine x_iload (p' := 224) hC 3 (dAt dd_X11_findChanges 127 rfl) rfl rfl ?_
      refine x_iconst (v := 1) (p' := 225) hC (dAt dd_X11_findChanges 128 rfl) (by decide) rfl ?_
      refine x_iadd (p' := 226) hC (dAt dd_X11_findChanges 129 rfl) rfl ?_
      refine x_imul (p' := 227) hC (dAt dd_X11_findChanges 130 rfl) rfl ?_
      refine x_iload (p' := 229) hC 4 (dAt dd_X11_findChanges 131 rfl) rfl rfl ?_
      refine x_iadd (p' := 230) hC (dAt dd_X11_findChanges 132 rfl) rfl ?_
      refine x_iaload (p' := 231) hC (dAt dd_X11_findChanges 133 rfl) rfl (fun v23 => ?_)
      refine x_aload_n (p' := 232) hC 0 (dAt dd_X11_findChanges 134 rfl) rfl rfl rfl ?_
      refine x_getR (p' := 235) hC fk_RX11_65 rfl (dAt dd_X11_findChanges 135 rfl) rfl (fun r24 => ?_)
      refine x_bipush (v := 61) (p' := 237) hC (dAt dd_X11_findChanges 136 rfl) (by decide) rfl ?_
      refine x_iload (p' := 239) hC 3 (dAt dd_X11_findChanges 137 rfl) rfl rfl ?_
      refine x_imul (p' := 240) hC (dAt dd_X11_findChanges 138 rfl) rfl ?_
      refine x_iload (p' := 242) hC 4 (dAt dd_X11_findChanges 139 rfl) rfl rfl ?_
      refine x_iadd (p' := 243) hC (dAt dd_X11_findChanges 140 rfl) rfl ?_
      refine x_iaload (p' := 244) hC (dAt dd_X11_findChanges 141 rfl) rfl (fun v25 => ?_)
      refine x_icmp_ne (tgt := 251) (p' := 247) hC (dAt dd_X11_findChanges 142 rfl) (by decide) rfl ?_ ?_
      · exact t_X11_findChanges_J251 hC k39 hk39 x0 x2 x3 x5 x6 x7 h
      · exact t_X11_findChanges_J247 hC k39 hk39 x0 x2 x3 x5 x6 x7 h
set_option maxHeartbeats 4000000 in
set_option maxRecDepth 100000 in
theorem t_X11_findChanges_J115 {C : CT} (hC : OKC C yX11_findChanges cX11_findChanges 10 none 2 45) (k39 : Nat → Int32 → Int32 → Int32 → Int32 → Int32 → AH → RX Unit) (hk39 : ∀ (x0 : Nat) (x2 : Int32) (x3 : Int32) (x5 : Int32) (x6 : Int32) (x7 : Int32) (h : AH), WX rvV C 39 [(0, va_rf (some x0)), (2, .int x2), (3, .int x3), (5, .int x5), (6, .int x6), (7, .int x7)] [] h (k39 x0 x2 x3 x5 x6 x7 h)) : ∀ (x0 : Nat) (x2 : Int32) (x3 : Int32) (x5 : Int32) (x6 : Int32) (x7 : Int32) (s0 : Int32) (h : AH), WX rvV C 115 [(0, va_rf (some x0)), (2, .int x2), (3, .int x3), (5, .int x5), (6, .int x6), (7, .int x7)] [.int s0] h (f_X11_findChanges_J115 k39 x0 x2 x3 x5 x6 x7 s0 h) := by
  intro x0 x2 x3 x5 x6 x7 s0 h
  unfold f_X11_findChanges_J115
  refine x_istore (lv' := [(8, .int s0), (0, va_rf (some x0)), (2, .int x2), (3, .int x3), (5, .int x5), (6, .int x6), (7, .int x7)]) (p' := 117) hC (dAt dd_X11_findChanges 70 rfl) (by decide) rfl rfl ?_
  refine x_iload (p' := 119) hC 0 (dAt dd_X11_findChanges 71 rfl) rfl rfl ?_
  refine x_if_eq (tgt := 134) (p' := 122) hC (dAt dd_X11_findChanges 72 rfl) (by decide) rfl ?_ ?_
  · refine x_iload (p' := 136) hC 6 (dAt dd_X11_findChanges 78 rfl) rfl rfl ?_
    refine x_if_ne (tgt := 194) (p' := 139) hC (dAt dd_X11_findChanges 79 rfl) (by decide) rfl ?_ ?_
    · refine x_sub [1, 2, 3, 4, 5, 6] rfl ?_
      exact t_X11_findChanges_J194 hC k39 hk39 x0 x2 x3 x5 x6 x7 h
    · refine x_aload_n (p' := 140) hC 1 (dAt dd_X11_findChanges 80 rfl) rfl rfl rfl ?_
      refine x_getR (p' := 143) hC fk_RX11_68 rfl (dAt dd_X11_findChanges 81 rfl) rfl (fun r26 => ?_)
      refine x_aload_n (p' := 144) hC 1 (dAt dd_X11_findChanges 82 rfl) rfl rfl rfl ?_
      refine x_getI (p' := 147) hC fk_RX11_217 rfl (dAt dd_X11_findChanges 83 rfl) rfl (fun v27 => ?_)
      refine x_iload (p' := 149) hC 4 (dAt dd_X11_findChanges 84 rfl) rfl rfl ?_
      refine x_iastore (p' := 150) hC (dAt dd_X11_findChanges 85 rfl) rfl (fun h28 => ?_)
      refine x_aload_n (p' := 151) hC 1 (dAt dd_X11_findChanges 86 rfl) rfl rfl rfl ?_
      refine x_getR (p' := 154) hC fk_RX11_74 rfl (dAt dd_X11_findChanges 87 rfl) rfl (fun r29 => ?_)
      refine x_aload_n (p' := 155) hC 1 (dAt dd_X11_findChanges 88 rfl) rfl rfl rfl ?_
      refine x_getI (p' := 158) hC fk_RX11_217 rfl (dAt dd_X11_findChanges 89 rfl) rfl (fun v30 => ?_)
      refine x_iload (p' := 160) hC 5 (dAt dd_X11_findChanges 90 rfl) rfl rfl ?_
      refine x_iastore (p' := 161) hC (dAt dd_X11_findChanges 91 rfl) rfl (fun h31 => ?_)
      refine x_aload_n (p' := 162) hC 1 (dAt dd_X11_findChanges 92 rfl) rfl rfl rfl ?_
      refine x_getR (p' := 165) hC fk_RX11_71 rfl (dAt dd_X11_findChanges 93 rfl) rfl (fun r32 => ?_)
      refine x_aload_n (p' := 166) hC 1 (dAt dd_X11_findChanges 94 rfl) rfl rfl rfl ?_
      refine x_getI (p' := 169) hC fk_RX11_217 rfl (dAt dd_X11_findChanges 95 rfl) rfl (fun v33 => ?_)
      refine x_iconst (v := 0) (p' := 170) hC (dAt dd_X11_findChanges 96 rfl) (by decide) rfl ?_
      refine x_iastore (p' := 171) hC (dAt dd_X11_findChanges 97 rfl) rfl (fun h34 => ?_)
      refine x_aload_n (p' := 172) hC 1 (dAt dd_X11_findChanges 98 rfl) rfl rfl rfl ?_
      refine x_getR (p' := 175) hC fk_RX11_77 rfl (dAt dd_X11_findChanges 99 rfl) rfl (fun r35 => ?_)
      refine x_aload_n (p' := 176) hC 1 (dAt dd_X11_findChanges 100 rfl) rfl rfl rfl ?_
      refine x_getI (p' := 179) hC fk_RX11_217 rfl (dAt dd_X11_findChanges 101 rfl) rfl (fun v36 => ?_)
      refine x_iconst (v := 0) (p' := 180) hC (dAt dd_X11_findChanges 102 rfl) (by decide) rfl ?_
      refine x_iastore (p' := 181) hC (dAt dd_X11_findChanges 103 rfl) rfl (fun h37 => ?_)
      refine x_aload_n (p' := 182) hC 1 (dAt dd_X11_findChanges 104 rfl) rfl rfl rfl ?_
      refine x_dup (p' := 183) hC (dAt dd_X11_findChanges 105 rfl) (x_cat _) rfl ?_
      refine x_getI (p' := 186) hC fk_RX11_217 rfl (dAt dd_X11_findChanges 106 rfl) rfl (fun v38 => ?_)
      refine x_iconst (v := 1) (p' := 187) hC (dAt dd_X11_findChanges 107 rfl) (by decide) rfl ?_
      refine x_iadd (p' := 188) hC (dAt dd_X11_findChanges 108 rfl) rfl ?_
      refine x_putI (p' := 191) hC fk_RX11_217 tk_RX11 rfl rfl (Or.inl rfl) (dAt dd_X11_findChanges 109 rfl) rfl (fun h39 => ?_)
      refine x_iconst (v := 1) (p' := 192) hC (dAt dd_X11_findChanges 110 rfl) (by decide) rfl ?_
      refine x_istore (lv' := [(7, .int 1), (8, .int s0), (0, va_rf (some x0)), (2, .int x2), (3, .int x3), (5, .int x5), (6, .int x6)]) (p' := 194) hC (dAt dd_X11_findChanges 111 rfl) (by decide) rfl rfl ?_
      refine x_sub [2, 3, 4, 5, 6, 0] rfl ?_
      exact t_X11_findChanges_J194 hC k39 hk39 x0 x2 x3 x5 x6 1 h39
  · refine x_iconst (v := 0) (p' := 123) hC (dAt dd_X11_findChanges 73 rfl) (by decide) rfl ?_
    refine x_istore (lv' := [(7, .int 0), (8, .int s0), (0, va_rf (some x0)), (2, .int x2), (3, .int x3), (5, .int x5), (6, .int x6)]) (p' := 125) hC (dAt dd_X11_findChanges 74 rfl) (by decide) rfl rfl ?_
    refine x_iinc (w := (x5 + 1)) (lv' := [(5, .int (x5 + 1)), (7, .int 0), (8, .int s0), (0, va_rf (some x0)), (2, .int x2), (3, .int x3), (6, .int x6)]) (p' := 128) hC 5 (dAt dd_X11_findChanges 75 rfl) rfl rfl (by decide) rfl rfl ?_
    refine x_iinc (w := (x6 + 1)) (lv' := [(6, .int (x6 + 1)), (5, .int (x5 + 1)), (7, .int 0), (8, .int s0), (0, va_rf (some x0)), (2, .int x2), (3, .int x3)]) (p' := 131) hC 6 (dAt dd_X11_findChanges 76 rfl) rfl rfl (by decide) rfl rfl ?_
    refine x_goto (tgt := 298) hC (dAt dd_X11_findChanges 77 rfl) (by decide) ?_
    refine x_goto (tgt := 39) hC (dAt dd_X11_findChanges 174 rfl) (by decide) ?_
    refine x_sub [4, 5, 6, 1, 0, 2] rfl ?_
    exact hk39 x0 x2 x3 (x5 + 1) (x6 + 1) 0 h
set_option maxHeartbeats 4000000 in
set_option maxRecDepth 100000 in
theorem t_X11_findChanges_J114 {C : CT} (hC : OKC C yX11_findChanges cX11_findChanges 10 none 2 45) (k39 : Nat → Int32 → Int32 → Int32 → Int32 → Int32 → AH → RX Unit) (hk39 : ∀ (x0 : Nat) (x2 : Int32) (x3 : Int32) (x5 : Int32) (x6 : Int32) (x7 : Int32) (h : AH), WX rvV C 39 [(0, va_rf (some x0)), (2, .int x2), (3, .int x3), (5, .int x5), (6, .int x6), (7, .int x7)] [] h (k39 x0 x2 x3 x5 x6 x7 h)) : ∀ (x0 : Nat) (x2 : Int32) (x3 : Int32) (x5 : Int32) (x6 : Int32) (x7 : Int32) (h : AH), WX rvV C 114 [(0, va_rf (some x0)), (2, .int x2), (3, .int x3), (5, .int x5), (6, .int x6), (7, .int x7)] [] h (f_X11_findChanges_J114 k39 x0 x2 x3 x5 x6 x7 h) := by
  intro x0 x2 x3 x5 x6 x7 h
  unfold f_X11_findChanges_J114
  refine x_iconst (v := 0) (p' := 115) hC (dAt dd_X11_findChanges 69 rfl) (by decide) rfl ?_
  exact t_X11_findChanges_J115 hC k39 hk39 x0 x2 x3 x5 x6 x7 0 h
set_option maxHeartbeats 4000000 in
set_option maxRecDepth 100000 in
theorem t_X11_findChanges_J61 {C : CT} (hC : OKC C yX11_findChanges cX11_findChanges 10 none 2 45) (k39 : Nat → Int32 → Int32 → Int32 → Int32 → Int32 → AH → RX Unit) (hk39 : ∀ (x0 : Nat) (x2 : Int32) (x3 : Int32) (x5 : Int32) (x6 : Int32) (x7 : Int32) (h : AH), WX rvV C 39 [(0, va_rf (some x0)), (2, .int x2), (3, .int x3), (5, .int x5), (6, .int x6), (7, .int x7)] [] h (k39 x0 x2 x3 x5 x6 x7 h)) : ∀ (x0 : Nat) (x2 : Int32) (x3 : Int32) (x5 : Int32) (x6 : Int32) (x7 : Int32) (h : AH), WX rvV C 61 [(0, va_rf (some x0)), (2, .int x2), (3, .int x3), (5, .int x5), (6, .int x6), (7, .int x7)] [] h (f_X11_findChanges_J61 k39 x0 x2 x3 x5 x6 x7 h) := by
  intro x0 x2 x3 x5 x6 x7 h
  unfold f_X11_findChanges_J61
  refine x_iload (p' := 63) hC 3 (dAt dd_X11_findChanges 38 rfl) rfl rfl ?_
  refine x_aload_n (p' := 64) hC 0 (dAt dd_X11_findChanges 39 rfl) rfl rfl rfl ?_
  refine x_getR (p' := 67) hC fk_RX11_55 rfl (dAt dd_X11_findChanges 40 rfl) rfl (fun r8 => ?_)
  refine x_iload_n (p' := 68) hC 1 (dAt dd_X11_findChanges 41 rfl) rfl rfl rfl ?_
  refine x_iaload (p' := 69) hC (dAt dd_X11_findChanges 42 rfl) rfl (fun v9 => ?_)
  refine x_icmp_ge (tgt := 114) (p' := 72) hC (dAt dd_X11_findChanges 43 rfl) (by decide) rfl ?_ ?_
  · exact t_X11_findChanges_J114 hC k39 hk39 x0 x2 x3 x5 x6 x7 h
  · refine x_iload (p' := 74) hC 4 (dAt dd_X11_findChanges 44 rfl) rfl rfl ?_
    refine x_aload_n (p' := 75) hC 0 (dAt dd_X11_findChanges 45 rfl) rfl rfl rfl ?_
    refine x_getR (p' := 78) hC fk_RX11_55 rfl (dAt dd_X11_findChanges 46 rfl) rfl (fun r40 => ?_)
    refine x_iload_n (p' := 79) hC 2 (dAt dd_X11_findChanges 47 rfl) rfl rfl rfl ?_
    refine x_iaload (p' := 80) hC (dAt dd_X11_findChanges 48 rfl) rfl (fun v41 => ?_)
    refine x_icmp_ge (tgt := 114) (p' := 83) hC (dAt dd_X11_findChanges 49 rfl) (by decide) rfl ?_ ?_
    · exact t_X11_findChanges_J114 hC k39 hk39 x0 x2 x3 x5 x6 x7 h
    · refine x_aload_n (p' := 84) hC 0 (dAt dd_X11_findChanges 50 rfl) rfl rfl rfl ?_
      refine x_getR (p' := 87) hC fk_RX11_52 rfl (dAt dd_X11_findChanges 51 rfl) rfl (fun r42 => ?_)
      refine x_bipush (v := 60) (p' := 89) hC (dAt dd_X11_findChanges 52 rfl) (by decide) rfl ?_
      refine x_iload_n (p' := 90) hC 1 (dAt dd_X11_findChanges 53 rfl) rfl rfl rfl ?_
      refine x_imul (p' := 91) hC (dAt dd_X11_findChanges 54 rfl) rfl ?_
      refine x_iload (p' := 93) hC 3 (dAt dd_X11_findChanges 55 rfl) rfl rfl ?_
      refine x_iadd (p' := 94) hC (dAt dd_X11_findChanges 56 rfl) rfl ?_
      refine x_iaload (p' := 95) hC (dAt dd_X11_findChanges 57 rfl) rfl (fun v43 => ?_)
      refine x_aload_n (p' := 96) hC 0 (dAt dd_X11_findChanges 58 rfl) rfl rfl rfl ?_
      refine x_getR (p' := 99) hC fk_RX11_52 rfl (dAt dd_X11_findChanges 59 rfl) rfl (fun r44 => ?_)
      refine x_bipush (v := 60) (p' := 101) hC (dAt dd_X11_findChanges 60 rfl) (by decide) rfl ?_
      refine x_iload_n (p' := 102) hC 2 (dAt dd_X11_findChanges 61 rfl) rfl rfl rfl ?_
      refine x_imul (p' := 103) hC (dAt dd_X11_findChanges 62 rfl) rfl ?_
      refine x_iload (p' := 105) hC 4 (dAt dd_X11_findChanges 63 rfl) rfl rfl ?_
      refine x_iadd (p' := 106) hC (dAt dd_X11_findChanges 64 rfl) rfl ?_
      refine x_iaload (p' := 107) hC (dAt dd_X11_findChanges 65 rfl) rfl (fun v45 => ?_)
      refine x_icmp_ne (tgt := 114) (p' := 110) hC (dAt dd_X11_findChanges 66 rfl) (by decide) rfl ?_ ?_
      · exact t_X11_findChanges_J114 hC k39 hk39 x0 x2 x3 x5 x6 x7 h
      · refine x_iconst (v := 1) (p' := 111) hC (dAt dd_X11_findChanges 67 rfl) (by decide) rfl ?_
        refine x_goto (tgt := 115) hC (dAt dd_X11_findChanges 68 rfl) (by decide) ?_
        exact t_X11_findChanges_J115 hC k39 hk39 x0 x2 x3 x5 x6 x7 1 h
set_option maxHeartbeats 4000000 in
set_option maxRecDepth 100000 in
theorem t_X11_findChanges_L39 {C : CT} (hC : OKC C yX11_findChanges cX11_findChanges 10 none 2 45)   : ∀ (n : Nat) (x0 : Nat) (x2 : Int32) (x3 : Int32) (x5 : Int32) (x6 : Int32) (x7 : Int32) (h : AH), WX rvV C 39 [(0, va_rf (some x0)), (2, .int x2), (3, .int x3), (5, .int x5), (6, .int x6), (7, .int x7)] [] h (f_X11_findChanges_L39 n x0 x2 x3 x5 x6 x7 h) := by
  intro n
  induction n with
  | zero => intro _ _ _ _ _ _ _; exact x_none
  | succ n ih =>
    intro x0 x2 x3 x5 x6 x7 h
    rw [f_X11_findChanges_L39]
    refine x_iload (p' := 41) hC 3 (dAt dd_X11_findChanges 26 rfl) rfl rfl ?_
    refine x_aload_n (p' := 42) hC 0 (dAt dd_X11_findChanges 27 rfl) rfl rfl rfl ?_
    refine x_getR (p' := 45) hC fk_RX11_55 rfl (dAt dd_X11_findChanges 28 rfl) rfl (fun r6 => ?_)
    refine x_iload_n (p' := 46) hC 1 (dAt dd_X11_findChanges 29 rfl) rfl rfl rfl ?_
    refine x_iaload (p' := 47) hC (dAt dd_X11_findChanges 30 rfl) rfl (fun v7 => ?_)
    refine x_icmp_lt (tgt := 61) (p' := 50) hC (dAt dd_X11_findChanges 31 rfl) (by decide) rfl ?_ ?_
    · exact t_X11_findChanges_J61 hC (f_X11_findChanges_L39 n) ih x0 x2 x3 x5 x6 x7 h
    · refine x_iload (p' := 52) hC 4 (dAt dd_X11_findChanges 32 rfl) rfl rfl ?_
      refine x_aload_n (p' := 53) hC 0 (dAt dd_X11_findChanges 33 rfl) rfl rfl rfl ?_
      refine x_getR (p' := 56) hC fk_RX11_55 rfl (dAt dd_X11_findChanges 34 rfl) rfl (fun r46 => ?_)
      refine x_iload_n (p' := 57) hC 2 (dAt dd_X11_findChanges 35 rfl) rfl rfl rfl ?_
      refine x_iaload (p' := 58) hC (dAt dd_X11_findChanges 36 rfl) rfl (fun v47 => ?_)
      refine x_icmp_ge (tgt := 301) (p' := 61) hC (dAt dd_X11_findChanges 37 rfl) (by decide) rfl ?_ ?_
      · exact x_return hC (dAt dd_X11_findChanges 175 rfl)
      · exact t_X11_findChanges_J61 hC (f_X11_findChanges_L39 n) ih x0 x2 x3 x5 x6 x7 h
set_option maxHeartbeats 4000000 in
set_option maxRecDepth 100000 in
theorem c_X11_findChanges (l : Launch) (D : va_G) (cy : Nat → ClassId) (h : AH) (a0 : Nat) (p1 : Int32) : MX rvV l yX11_findChanges (Cond.code yX11_findChanges cX11_findChanges 10 none :: LW) 2 45 D cy h [va_rf (some a0), .int p1] (f_X11_findChanges h a0 p1) := by
  refine MX.of (lv := [(0, va_rf (some a0)), (1, .int p1)]) (by decide) (Nat.le_of_ble_eq_true rfl) rfl (fun C hC _ => ?_)
  unfold f_X11_findChanges
  refine x_aload_n (p' := 1) hC 0 (dAt dd_X11_findChanges 0 rfl) rfl rfl rfl ?_
  refine x_iconst (v := 0) (p' := 2) hC (dAt dd_X11_findChanges 1 rfl) (by decide) rfl ?_
  refine x_putI (p' := 5) hC fk_RX11_217 tk_RX11 rfl rfl (Or.inl rfl) (dAt dd_X11_findChanges 2 rfl) rfl (fun h1 => ?_)
  refine x_aload_n (p' := 6) hC 0 (dAt dd_X11_findChanges 3 rfl) rfl rfl rfl ?_
  refine x_iload_n (p' := 7) hC 1 (dAt dd_X11_findChanges 4 rfl) rfl rfl rfl ?_
  refine x_callVI (As := [.int p1]) (z := fun b => f_X11_stateOf h1 b p1) (p' := 10) hC (fun b => c_X11_stateOf _ _ _ h1 b p1) k_986 k_988 (k_sl 44 rfl) k_9 k_989 hd_X11_stateOf ⟨by decide, by decide⟩ (ci := 10) rfl rfl (by decide) rfl (Nat.le_of_ble_eq_true rfl) rfl (dAt dd_X11_findChanges 5 rfl) rfl (fun v2 h3 => ?_)
  refine x_iconst (v := 3) (p' := 11) hC (dAt dd_X11_findChanges 6 rfl) (by decide) rfl ?_
  refine x_icmp_eq (tgt := 15) (p' := 14) hC (dAt dd_X11_findChanges 7 rfl) (by decide) rfl ?_ ?_
  · refine x_iload_n (p' := 16) hC 1 (dAt dd_X11_findChanges 9 rfl) rfl rfl rfl ?_
    refine x_istore_n (j := 2) (lv' := [(2, .int p1), (0, va_rf (some a0)), (1, .int p1)]) (p' := 17) hC (dAt dd_X11_findChanges 10 rfl) rfl (by decide) rfl rfl ?_
    refine x_bipush (v := 36) (p' := 19) hC (dAt dd_X11_findChanges 11 rfl) (by decide) rfl ?_
    refine x_iload_n (p' := 20) hC 2 (dAt dd_X11_findChanges 12 rfl) rfl rfl rfl ?_
    refine x_iadd (p' := 21) hC (dAt dd_X11_findChanges 13 rfl) rfl ?_
    refine x_istore_n (j := 3) (lv' := [(3, .int (36 + p1)), (2, .int p1), (0, va_rf (some a0)), (1, .int p1)]) (p' := 22) hC (dAt dd_X11_findChanges 14 rfl) rfl (by decide) rfl rfl ?_
    refine x_aload_n (p' := 23) hC 2 (dAt dd_X11_findChanges 15 rfl) rfl rfl rfl ?_
    refine x_iload_n (p' := 24) hC 1 (dAt dd_X11_findChanges 16 rfl) rfl rfl rfl ?_
    refine x_iload_n (p' := 25) hC 0 (dAt dd_X11_findChanges 17 rfl) rfl rfl rfl ?_
    refine x_callVI (As := [.int p1, .int (36 + p1)]) (z := fun b => f_X11_compare h3 b p1 (36 + p1)) (p' := 28) hC (fun b => c_X11_compare _ _ _ h3 b p1 (36 + p1)) k_1020 k_1022 (k_sl 46 rfl) k_9 k_1023 hd_X11_compare ⟨by decide, by decide⟩ (ci := 10) rfl rfl (by decide) rfl (Nat.le_of_ble_eq_true rfl) rfl (dAt dd_X11_findChanges 18 rfl) rfl (fun v4 h5 => ?_)
    refine x_istore (lv' := [(4, .int v4), (3, .int (36 + p1)), (2, .int p1), (0, va_rf (some a0)), (1, .int p1)]) (p' := 30) hC (dAt dd_X11_findChanges 19 rfl) (by decide) rfl rfl ?_
    refine x_iconst (v := 0) (p' := 31) hC (dAt dd_X11_findChanges 20 rfl) (by decide) rfl ?_
    refine x_istore (lv' := [(5, .int 0), (4, .int v4), (3, .int (36 + p1)), (2, .int p1), (0, va_rf (some a0)), (1, .int p1)]) (p' := 33) hC (dAt dd_X11_findChanges 21 rfl) (by decide) rfl rfl ?_
    refine x_iconst (v := 0) (p' := 34) hC (dAt dd_X11_findChanges 22 rfl) (by decide) rfl ?_
    refine x_istore (lv' := [(6, .int 0), (5, .int 0), (4, .int v4), (3, .int (36 + p1)), (2, .int p1), (0, va_rf (some a0)), (1, .int p1)]) (p' := 36) hC (dAt dd_X11_findChanges 23 rfl) (by decide) rfl rfl ?_
    refine x_iconst (v := 0) (p' := 37) hC (dAt dd_X11_findChanges 24 rfl) (by decide) rfl ?_
    refine x_istore (lv' := [(7, .int 0), (6, .int 0), (5, .int 0), (4, .int v4), (3, .int (36 + p1)), (2, .int p1), (0, va_rf (some a0)), (1, .int p1)]) (p' := 39) hC (dAt dd_X11_findChanges 25 rfl) (by decide) rfl rfl ?_
    refine x_sub [6, 5, 4, 2, 1, 0] rfl ?_
    exact t_X11_findChanges_L39 hC FU a0 p1 (36 + p1) 0 0 0 h5
  · exact x_return hC (dAt dd_X11_findChanges 8 rfl)
set_option maxHeartbeats 4000000 in
set_option maxRecDepth 100000 in
theorem c_X11_cost (l : Launch) (D : va_G) (cy : Nat → ClassId) (h : AH) (a0 : Nat) (p1 : Int32) (p2 : Int32) : MX rvI l yX11_cost (Cond.code yX11_cost cX11_cost 4 (some .int) :: LW) 2 46 D cy h [va_rf (some a0), .int p1, .int p2] (f_X11_cost h a0 p1 p2) := by
  refine MX.of (lv := [(0, va_rf (some a0)), (1, .int p1), (2, .int p2)]) (by decide) (Nat.le_of_ble_eq_true rfl) rfl (fun C hC _ => ?_)
  unfold f_X11_cost
  refine x_aload_n (p' := 1) hC 0 (dAt dd_X11_cost 0 rfl) rfl rfl rfl ?_
  refine x_iconst (v := 0) (p' := 2) hC (dAt dd_X11_cost 1 rfl) (by decide) rfl ?_
  refine x_putI (p' := 5) hC fk_RX11_1 tk_RX11 rfl rfl (Or.inl rfl) (dAt dd_X11_cost 2 rfl) rfl (fun h1 => ?_)
  refine x_iload_n (p' := 6) hC 1 (dAt dd_X11_cost 3 rfl) rfl rfl rfl ?_
  refine x_iload_n (p' := 7) hC 2 (dAt dd_X11_cost 4 rfl) rfl rfl rfl ?_
  refine x_callSI (As := [.int p1, .int p2]) (p' := 10) hC (c_X11_isSlot _ _ _ h1 p1 p2) k_966 k_967 k_9 k_968 hd_X11_isSlot ⟨by decide, by decide⟩ rfl (Nat.le_of_ble_eq_true rfl) rfl (dAt dd_X11_cost 5 rfl) rfl (fun v2 h3 => ?_)
  refine x_if_ne (tgt := 16) (p' := 13) hC (dAt dd_X11_cost 6 rfl) (by decide) rfl ?_ ?_
  · refine x_iconst (v := 3) (p' := 17) hC (dAt dd_X11_cost 9 rfl) (by decide) rfl ?_
    refine x_iload_n (p' := 18) hC 1 (dAt dd_X11_cost 10 rfl) rfl rfl rfl ?_
    refine x_imul (p' := 19) hC (dAt dd_X11_cost 11 rfl) rfl ?_
    refine x_iload_n (p' := 20) hC 2 (dAt dd_X11_cost 12 rfl) rfl rfl rfl ?_
    refine x_iadd (p' := 21) hC (dAt dd_X11_cost 13 rfl) rfl ?_
    refine x_istore_n (j := 3) (lv' := [(3, .int ((3 * p1) + p2)), (0, va_rf (some a0)), (1, .int p1), (2, .int p2)]) (p' := 22) hC (dAt dd_X11_cost 14 rfl) rfl (by decide) rfl rfl ?_
    refine x_aload_n (p' := 23) hC 1 (dAt dd_X11_cost 15 rfl) rfl rfl rfl ?_
    refine x_iload_n (p' := 24) hC 0 (dAt dd_X11_cost 16 rfl) rfl rfl rfl ?_
    refine x_callVI (As := [.int ((3 * p1) + p2)]) (z := fun b => f_X11_stateOf h3 b ((3 * p1) + p2)) (p' := 27) hC (fun b => c_X11_stateOf _ _ _ h3 b ((3 * p1) + p2)) k_986 k_988 (k_sl 44 rfl) k_9 k_989 hd_X11_stateOf ⟨by decide, by decide⟩ (ci := 10) rfl rfl (by decide) rfl (Nat.le_of_ble_eq_true rfl) rfl (dAt dd_X11_cost 17 rfl) rfl (fun v4 h5 => ?_)
    refine x_iconst (v := 3) (p' := 28) hC (dAt dd_X11_cost 18 rfl) (by decide) rfl ?_
    refine x_icmp_eq (tgt := 35) (p' := 31) hC (dAt dd_X11_cost 19 rfl) (by decide) rfl ?_ ?_
    · refine x_aload_n (p' := 36) hC 1 (dAt dd_X11_cost 22 rfl) rfl rfl rfl ?_
      refine x_getR (p' := 39) hC fk_RX11_55 rfl (dAt dd_X11_cost 23 rfl) rfl (fun r6 => ?_)
      refine x_iload_n (p' := 40) hC 0 (dAt dd_X11_cost 24 rfl) rfl rfl rfl ?_
      refine x_iaload (p' := 41) hC (dAt dd_X11_cost 25 rfl) rfl (fun v7 => ?_)
      refine x_aload_n (p' := 42) hC 1 (dAt dd_X11_cost 26 rfl) rfl rfl rfl ?_
      refine x_getR (p' := 45) hC fk_RX11_55 rfl (dAt dd_X11_cost 27 rfl) rfl (fun r8 => ?_)
      refine x_bipush (v := 36) (p' := 47) hC (dAt dd_X11_cost 28 rfl) (by decide) rfl ?_
      refine x_iload_n (p' := 48) hC 0 (dAt dd_X11_cost 29 rfl) rfl rfl rfl ?_
      refine x_iadd (p' := 49) hC (dAt dd_X11_cost 30 rfl) rfl ?_
      refine x_iaload (p' := 50) hC (dAt dd_X11_cost 31 rfl) rfl (fun v9 => ?_)
      refine x_iadd (p' := 51) hC (dAt dd_X11_cost 32 rfl) rfl ?_
      refine x_iconst (v := 2) (p' := 52) hC (dAt dd_X11_cost 33 rfl) (by decide) rfl ?_
      refine x_aload_n (p' := 53) hC 1 (dAt dd_X11_cost 34 rfl) rfl rfl rfl ?_
      refine x_iload_n (p' := 54) hC 0 (dAt dd_X11_cost 35 rfl) rfl rfl rfl ?_
      refine x_bipush (v := 36) (p' := 56) hC (dAt dd_X11_cost 36 rfl) (by decide) rfl ?_
      refine x_iload_n (p' := 57) hC 0 (dAt dd_X11_cost 37 rfl) rfl rfl rfl ?_
      refine x_iadd (p' := 58) hC (dAt dd_X11_cost 38 rfl) rfl ?_
      refine x_callVI (As := [.int ((3 * p1) + p2), .int (36 + ((3 * p1) + p2))]) (z := fun b => f_X11_compare h5 b ((3 * p1) + p2) (36 + ((3 * p1) + p2))) (p' := 61) hC (fun b => c_X11_compare _ _ _ h5 b ((3 * p1) + p2) (36 + ((3 * p1) + p2))) k_1020 k_1022 (k_sl 46 rfl) k_9 k_1023 hd_X11_compare ⟨by decide, by decide⟩ (ci := 10) rfl rfl (by decide) rfl (Nat.le_of_ble_eq_true rfl) rfl (dAt dd_X11_cost 39 rfl) rfl (fun v10 h11 => ?_)
      refine x_imul (p' := 62) hC (dAt dd_X11_cost 40 rfl) rfl ?_
      refine x_isub (p' := 63) hC (dAt dd_X11_cost 41 rfl) rfl ?_
      exact x_ireturn hC (dAt dd_X11_cost 42 rfl)
    · refine x_iconst (v := 0) (p' := 32) hC (dAt dd_X11_cost 20 rfl) (by decide) rfl ?_
      refine x_goto (tgt := 63) hC (dAt dd_X11_cost 21 rfl) (by decide) ?_
      exact x_ireturn hC (dAt dd_X11_cost 42 rfl)
  · refine x_ldc (v := (-1000001)) (p' := 15) hC (dAt dd_X11_cost 7 rfl) k_918 rfl ?_
    exact x_ireturn hC (dAt dd_X11_cost 8 rfl)
set_option maxHeartbeats 4000000 in
set_option maxRecDepth 100000 in
theorem t_X11_nearest_J117 {C : CT} (hC : OKC C yX11_nearest cX11_nearest 9 (some .int) 2 46) (k47 : Nat → Int32 → Int32 → Int32 → Int32 → Int32 → Int32 → AH → RX Int32) (hk47 : ∀ (x0 : Nat) (x1 : Int32) (x2 : Int32) (x3 : Int32) (x4 : Int32) (x5 : Int32) (x6 : Int32) (h : AH), WX rvI C 47 [(0, va_rf (some x0)), (1, .int x1), (2, .int x2), (3, .int x3), (4, .int x4), (5, .int x5), (6, .int x6)] [] h (k47 x0 x1 x2 x3 x4 x5 x6 h)) : ∀ (x0 : Nat) (x1 : Int32) (x2 : Int32) (x3 : Int32) (x6 : Int32) (x8 : Int32) (h : AH), WX rvI C 117 [(0, va_rf (some x0)), (1, .int x1), (2, .int x2), (3, .int x3), (6, .int x6), (8, .int x8)] [] h (f_X11_nearest_J117 k47 x0 x1 x2 x3 x6 x8 h) := by
  intro x0 x1 x2 x3 x6 x8 h
  unfold f_X11_nearest_J117
  refine x_iload (p' := 119) hC 4 (dAt dd_X11_nearest 70 rfl) rfl rfl ?_
  refine x_istore (lv' := [(4, .int x6), (0, va_rf (some x0)), (1, .int x1), (2, .int x2), (3, .int x3), (6, .int x6), (8, .int x8)]) (p' := 121) hC (dAt dd_X11_nearest 71 rfl) (by decide) rfl rfl ?_
  refine x_iload (p' := 123) hC 6 (dAt dd_X11_nearest 72 rfl) rfl rfl ?_
  refine x_istore (lv' := [(5, .int x8), (4, .int x6), (0, va_rf (some x0)), (1, .int x1), (2, .int x2), (3, .int x3), (6, .int x6), (8, .int x8)]) (p' := 125) hC (dAt dd_X11_nearest 73 rfl) (by decide) rfl rfl ?_
  refine x_iinc (w := (x6 + 1)) (lv' := [(6, .int (x6 + 1)), (5, .int x8), (4, .int x6), (0, va_rf (some x0)), (1, .int x1), (2, .int x2), (3, .int x3), (8, .int x8)]) (p' := 128) hC 6 (dAt dd_X11_nearest 74 rfl) rfl rfl (by decide) rfl rfl ?_
  refine x_goto (tgt := 47) hC (dAt dd_X11_nearest 75 rfl) (by decide) ?_
  refine x_sub [3, 4, 5, 6, 2, 1, 0] rfl ?_
  exact hk47 x0 x1 x2 x3 x6 x8 (x6 + 1) h
set_option maxHeartbeats 4000000 in
set_option maxRecDepth 100000 in
theorem t_X11_nearest_L47 {C : CT} (hC : OKC C yX11_nearest cX11_nearest 9 (some .int) 2 46)   : ∀ (n : Nat) (x0 : Nat) (x1 : Int32) (x2 : Int32) (x3 : Int32) (x4 : Int32) (x5 : Int32) (x6 : Int32) (h : AH), WX rvI C 47 [(0, va_rf (some x0)), (1, .int x1), (2, .int x2), (3, .int x3), (4, .int x4), (5, .int x5), (6, .int x6)] [] h (f_X11_nearest_L47 n x0 x1 x2 x3 x4 x5 x6 h) := by
  intro n
  induction n with
  | zero => intro _ _ _ _ _ _ _ _; exact x_none
  | succ n ih =>
    intro x0 x1 x2 x3 x4 x5 x6 h
    rw [f_X11_nearest_L47]
    refine x_iload (p' := 49) hC 6 (dAt dd_X11_nearest 30 rfl) rfl rfl ?_
    refine x_iconst (v := 3) (p' := 50) hC (dAt dd_X11_nearest 31 rfl) (by decide) rfl ?_
    refine x_icmp_ge (tgt := 131) (p' := 53) hC (dAt dd_X11_nearest 32 rfl) (by decide) rfl ?_ ?_
    · refine x_iload (p' := 133) hC 4 (dAt dd_X11_nearest 76 rfl) rfl rfl ?_
      exact x_ireturn hC (dAt dd_X11_nearest 77 rfl)
    · refine x_iconst (v := 3) (p' := 54) hC (dAt dd_X11_nearest 33 rfl) (by decide) rfl ?_
      refine x_iload_n (p' := 55) hC 1 (dAt dd_X11_nearest 34 rfl) rfl rfl rfl ?_
      refine x_imul (p' := 56) hC (dAt dd_X11_nearest 35 rfl) rfl ?_
      refine x_iload (p' := 58) hC 6 (dAt dd_X11_nearest 36 rfl) rfl rfl ?_
      refine x_iadd (p' := 59) hC (dAt dd_X11_nearest 37 rfl) rfl ?_
      refine x_istore (lv' := [(7, .int ((3 * x1) + x6)), (0, va_rf (some x0)), (1, .int x1), (2, .int x2), (3, .int x3), (4, .int x4), (5, .int x5), (6, .int x6)]) (p' := 61) hC (dAt dd_X11_nearest 38 rfl) (by decide) rfl rfl ?_
      refine x_iload (p' := 63) hC 7 (dAt dd_X11_nearest 39 rfl) rfl rfl ?_
      refine x_iload_n (p' := 64) hC 3 (dAt dd_X11_nearest 40 rfl) rfl rfl rfl ?_
      refine x_icmp_eq (tgt := 125) (p' := 67) hC (dAt dd_X11_nearest 41 rfl) (by decide) rfl ?_ ?_
      · refine x_iinc (w := (x6 + 1)) (lv' := [(6, .int (x6 + 1)), (7, .int ((3 * x1) + x6)), (0, va_rf (some x0)), (1, .int x1), (2, .int x2), (3, .int x3), (4, .int x4), (5, .int x5)]) (p' := 128) hC 7 (dAt dd_X11_nearest 74 rfl) rfl rfl (by decide) rfl rfl ?_
        refine x_goto (tgt := 47) hC (dAt dd_X11_nearest 75 rfl) (by decide) ?_
        refine x_sub [2, 3, 4, 5, 6, 7, 0] rfl ?_
        exact ih x0 x1 x2 x3 x4 x5 (x6 + 1) h
      · refine x_aload_n (p' := 68) hC 1 (dAt dd_X11_nearest 42 rfl) rfl rfl rfl ?_
        refine x_getR (p' := 71) hC fk_RX11_45 rfl (dAt dd_X11_nearest 43 rfl) rfl (fun r6 => ?_)
        refine x_iload (p' := 73) hC 0 (dAt dd_X11_nearest 44 rfl) rfl rfl ?_
        refine x_baload (p' := 74) hC (dAt dd_X11_nearest 45 rfl) rfl (fun v7 => ?_)
        refine x_if_eq (tgt := 125) (p' := 77) hC (dAt dd_X11_nearest 46 rfl) (by decide) rfl ?_ ?_
        · refine x_iinc (w := (x6 + 1)) (lv' := [(6, .int (x6 + 1)), (7, .int ((3 * x1) + x6)), (0, va_rf (some x0)), (1, .int x1), (2, .int x2), (3, .int x3), (4, .int x4), (5, .int x5)]) (p' := 128) hC 7 (dAt dd_X11_nearest 74 rfl) rfl rfl (by decide) rfl rfl ?_
          refine x_goto (tgt := 47) hC (dAt dd_X11_nearest 75 rfl) (by decide) ?_
          refine x_sub [2, 3, 4, 5, 6, 7, 0] rfl ?_
          exact ih x0 x1 x2 x3 x4 x5 (x6 + 1) h
        · refine x_aload_n (p' := 78) hC 1 (dAt dd_X11_nearest 47 rfl) rfl rfl rfl ?_
          refine x_getR (p' := 81) hC fk_RX11_55 rfl (dAt dd_X11_nearest 48 rfl) rfl (fun r8 => ?_)
          refine x_iload (p' := 83) hC 0 (dAt dd_X11_nearest 49 rfl) rfl rfl ?_
          refine x_iaload (p' := 84) hC (dAt dd_X11_nearest 50 rfl) rfl (fun v9 => ?_)
          refine x_aload_n (p' := 85) hC 1 (dAt dd_X11_nearest 51 rfl) rfl rfl rfl ?_
          refine x_getR (p' := 88) hC fk_RX11_55 rfl (dAt dd_X11_nearest 52 rfl) rfl (fun r10 => ?_)
          refine x_iload_n (p' := 89) hC 4 (dAt dd_X11_nearest 53 rfl) rfl rfl rfl ?_
          refine x_iaload (p' := 90) hC (dAt dd_X11_nearest 54 rfl) rfl (fun v11 => ?_)
          refine x_iadd (p' := 91) hC (dAt dd_X11_nearest 55 rfl) rfl ?_
          refine x_iconst (v := 2) (p' := 92) hC (dAt dd_X11_nearest 56 rfl) (by decide) rfl ?_
          refine x_aload_n (p' := 93) hC 1 (dAt dd_X11_nearest 57 rfl) rfl rfl rfl ?_
          refine x_iload (p' := 95) hC 0 (dAt dd_X11_nearest 58 rfl) rfl rfl ?_
          refine x_iload_n (p' := 96) hC 4 (dAt dd_X11_nearest 59 rfl) rfl rfl rfl ?_
          refine x_callVI (As := [.int ((3 * x1) + x6), .int x3]) (z := fun b => f_X11_compare h b ((3 * x1) + x6) x3) (p' := 99) hC (fun b => c_X11_compare _ _ _ h b ((3 * x1) + x6) x3) k_1020 k_1022 (k_sl 46 rfl) k_9 k_1023 hd_X11_compare ⟨by decide, by decide⟩ (ci := 10) rfl rfl (by decide) rfl (Nat.le_of_ble_eq_true rfl) rfl (dAt dd_X11_nearest 60 rfl) rfl (fun v12 h13 => ?_)
          refine x_imul (p' := 100) hC (dAt dd_X11_nearest 61 rfl) rfl ?_
          refine x_isub (p' := 101) hC (dAt dd_X11_nearest 62 rfl) rfl ?_
          refine x_istore (lv' := [(8, .int ((v9 + v11) - (2 * v12))), (7, .int ((3 * x1) + x6)), (0, va_rf (some x0)), (1, .int x1), (2, .int x2), (3, .int x3), (4, .int x4), (5, .int x5), (6, .int x6)]) (p' := 103) hC (dAt dd_X11_nearest 63 rfl) (by decide) rfl rfl ?_
          refine x_iload (p' := 105) hC 6 (dAt dd_X11_nearest 64 rfl) rfl rfl ?_
          refine x_ldc (v := (-1000000)) (p' := 107) hC (dAt dd_X11_nearest 65 rfl) k_961 rfl ?_
          refine x_icmp_eq (tgt := 117) (p' := 110) hC (dAt dd_X11_nearest 66 rfl) (by decide) rfl ?_ ?_
          · refine x_sub [2, 3, 4, 5, 8, 0] rfl ?_
            exact t_X11_nearest_J117 hC (f_X11_nearest_L47 n) ih x0 x1 x2 x3 x6 ((v9 + v11) - (2 * v12)) h13
          · refine x_iload (p' := 112) hC 0 (dAt dd_X11_nearest 67 rfl) rfl rfl ?_
            refine x_iload (p' := 114) hC 7 (dAt dd_X11_nearest 68 rfl) rfl rfl ?_
            refine x_icmp_ge (tgt := 125) (p' := 117) hC (dAt dd_X11_nearest 69 rfl) (by decide) rfl ?_ ?_
            · refine x_iinc (w := (x6 + 1)) (lv' := [(6, .int (x6 + 1)), (8, .int ((v9 + v11) - (2 * v12))), (7, .int ((3 * x1) + x6)), (0, va_rf (some x0)), (1, .int x1), (2, .int x2), (3, .int x3), (4, .int x4), (5, .int x5)]) (p' := 128) hC 8 (dAt dd_X11_nearest 74 rfl) rfl rfl (by decide) rfl rfl ?_
              refine x_goto (tgt := 47) hC (dAt dd_X11_nearest 75 rfl) (by decide) ?_
              refine x_sub [3, 4, 5, 6, 7, 8, 0] rfl ?_
              exact ih x0 x1 x2 x3 x4 x5 (x6 + 1) h13
            · refine x_sub [2, 3, 4, 5, 8, 0] rfl ?_
              exact t_X11_nearest_J117 hC (f_X11_nearest_L47 n) ih x0 x1 x2 x3 x6 ((v9 + v11) - (2 * v12)) h13
set_option maxHeartbeats 4000000 in
set_option maxRecDepth 100000 in
theorem c_X11_nearest (l : Launch) (D : va_G) (cy : Nat → ClassId) (h : AH) (a0 : Nat) (p1 : Int32) (p2 : Int32) : MX rvI l yX11_nearest (Cond.code yX11_nearest cX11_nearest 9 (some .int) :: LW) 2 46 D cy h [va_rf (some a0), .int p1, .int p2] (f_X11_nearest h a0 p1 p2) := by
  refine MX.of (lv := [(0, va_rf (some a0)), (1, .int p1), (2, .int p2)]) (by decide) (Nat.le_of_ble_eq_true rfl) rfl (fun C hC _ => ?_)
  unfold f_X11_nearest
  refine x_aload_n (p' := 1) hC 0 (dAt dd_X11_nearest 0 rfl) rfl rfl rfl ?_
  refine x_iconst (v := 0) (p' := 2) hC (dAt dd_X11_nearest 1 rfl) (by decide) rfl ?_
  refine x_putI (p' := 5) hC fk_RX11_1 tk_RX11 rfl rfl (Or.inl rfl) (dAt dd_X11_nearest 2 rfl) rfl (fun h1 => ?_)
  refine x_iload_n (p' := 6) hC 1 (dAt dd_X11_nearest 3 rfl) rfl rfl rfl ?_
  refine x_iload_n (p' := 7) hC 2 (dAt dd_X11_nearest 4 rfl) rfl rfl rfl ?_
  refine x_callSI (As := [.int p1, .int p2]) (p' := 10) hC (c_X11_isSlot _ _ _ h1 p1 p2) k_966 k_967 k_9 k_968 hd_X11_isSlot ⟨by decide, by decide⟩ rfl (Nat.le_of_ble_eq_true rfl) rfl (dAt dd_X11_nearest 5 rfl) rfl (fun v2 h3 => ?_)
  refine x_if_ne (tgt := 16) (p' := 13) hC (dAt dd_X11_nearest 6 rfl) (by decide) rfl ?_ ?_
  · refine x_bipush (v := 36) (p' := 18) hC (dAt dd_X11_nearest 9 rfl) (by decide) rfl ?_
    refine x_iconst (v := 3) (p' := 19) hC (dAt dd_X11_nearest 10 rfl) (by decide) rfl ?_
    refine x_iload_n (p' := 20) hC 1 (dAt dd_X11_nearest 11 rfl) rfl rfl rfl ?_
    refine x_imul (p' := 21) hC (dAt dd_X11_nearest 12 rfl) rfl ?_
    refine x_iadd (p' := 22) hC (dAt dd_X11_nearest 13 rfl) rfl ?_
    refine x_iload_n (p' := 23) hC 2 (dAt dd_X11_nearest 14 rfl) rfl rfl rfl ?_
    refine x_iadd (p' := 24) hC (dAt dd_X11_nearest 15 rfl) rfl ?_
    refine x_istore_n (j := 3) (lv' := [(3, .int ((36 + (3 * p1)) + p2)), (0, va_rf (some a0)), (1, .int p1), (2, .int p2)]) (p' := 25) hC (dAt dd_X11_nearest 16 rfl) rfl (by decide) rfl rfl ?_
    refine x_aload_n (p' := 26) hC 1 (dAt dd_X11_nearest 17 rfl) rfl rfl rfl ?_
    refine x_getR (p' := 29) hC fk_RX11_45 rfl (dAt dd_X11_nearest 18 rfl) rfl (fun r4 => ?_)
    refine x_iload_n (p' := 30) hC 0 (dAt dd_X11_nearest 19 rfl) rfl rfl rfl ?_
    refine x_baload (p' := 31) hC (dAt dd_X11_nearest 20 rfl) rfl (fun v5 => ?_)
    refine x_if_ne (tgt := 37) (p' := 34) hC (dAt dd_X11_nearest 21 rfl) (by decide) rfl ?_ ?_
    · refine x_ldc (v := (-1000000)) (p' := 39) hC (dAt dd_X11_nearest 24 rfl) k_961 rfl ?_
      refine x_istore (lv' := [(4, .int (-1000000)), (3, .int ((36 + (3 * p1)) + p2)), (0, va_rf (some a0)), (1, .int p1), (2, .int p2)]) (p' := 41) hC (dAt dd_X11_nearest 25 rfl) (by decide) rfl rfl ?_
      refine x_iconst (v := 0) (p' := 42) hC (dAt dd_X11_nearest 26 rfl) (by decide) rfl ?_
      refine x_istore (lv' := [(5, .int 0), (4, .int (-1000000)), (3, .int ((36 + (3 * p1)) + p2)), (0, va_rf (some a0)), (1, .int p1), (2, .int p2)]) (p' := 44) hC (dAt dd_X11_nearest 27 rfl) (by decide) rfl rfl ?_
      refine x_iconst (v := 0) (p' := 45) hC (dAt dd_X11_nearest 28 rfl) (by decide) rfl ?_
      refine x_istore (lv' := [(6, .int 0), (5, .int 0), (4, .int (-1000000)), (3, .int ((36 + (3 * p1)) + p2)), (0, va_rf (some a0)), (1, .int p1), (2, .int p2)]) (p' := 47) hC (dAt dd_X11_nearest 29 rfl) (by decide) rfl rfl ?_
      refine x_sub [4, 5, 6, 3, 2, 1, 0] rfl ?_
      exact t_X11_nearest_L47 hC FU a0 p1 p2 ((36 + (3 * p1)) + p2) (-1000000) 0 0 h3
    · refine x_ldc (v := (-1000002)) (p' := 36) hC (dAt dd_X11_nearest 22 rfl) k_944 rfl ?_
      exact x_ireturn hC (dAt dd_X11_nearest 23 rfl)
  · refine x_ldc (v := (-1000001)) (p' := 15) hC (dAt dd_X11_nearest 7 rfl) k_918 rfl ?_
    exact x_ireturn hC (dAt dd_X11_nearest 8 rfl)
set_option maxHeartbeats 4000000 in
set_option maxRecDepth 100000 in
theorem t_X11_isOfShape_L39 {C : CT} (hC : OKC C yX11_isOfShape cX11_isOfShape 5 (some .boolean) 0 0)   : ∀ (n : Nat) (x0 : Nat) (x1 : Int32) (x2 : Int32) (x3 : Int32) (x4 : Int32) (h : AH), WX rvI C 39 [(0, va_rf (some x0)), (1, .int x1), (2, .int x2), (3, .int x3), (4, .int x4)] [] h (f_X11_isOfShape_L39 n x0 x1 x2 x3 x4 h) := by
  intro n
  induction n with
  | zero => intro _ _ _ _ _ _; exact x_none
  | succ n ih =>
    intro x0 x1 x2 x3 x4 h
    rw [f_X11_isOfShape_L39]
    refine x_iload (p' := 41) hC 4 (dAt dd_X11_isOfShape 24 rfl) rfl rfl ?_
    refine x_aload_n (p' := 42) hC 0 (dAt dd_X11_isOfShape 25 rfl) rfl rfl rfl ?_
    refine x_getR (p' := 45) hC fk_RX11_86 rfl (dAt dd_X11_isOfShape 26 rfl) rfl (fun r5 => ?_)
    refine x_iload_n (p' := 46) hC 1 (dAt dd_X11_isOfShape 27 rfl) rfl rfl rfl ?_
    refine x_iaload (p' := 47) hC (dAt dd_X11_isOfShape 28 rfl) rfl (fun v6 => ?_)
    refine x_aload_n (p' := 48) hC 0 (dAt dd_X11_isOfShape 29 rfl) rfl rfl rfl ?_
    refine x_getR (p' := 51) hC fk_RX11_89 rfl (dAt dd_X11_isOfShape 30 rfl) rfl (fun r7 => ?_)
    refine x_iload_n (p' := 52) hC 1 (dAt dd_X11_isOfShape 31 rfl) rfl rfl rfl ?_
    refine x_iaload (p' := 53) hC (dAt dd_X11_isOfShape 32 rfl) rfl (fun v8 => ?_)
    refine x_iadd (p' := 54) hC (dAt dd_X11_isOfShape 33 rfl) rfl ?_
    refine x_icmp_ge (tgt := 104) (p' := 57) hC (dAt dd_X11_isOfShape 34 rfl) (by decide) rfl ?_ ?_
    · refine x_iload_n (p' := 105) hC 3 (dAt dd_X11_isOfShape 62 rfl) rfl rfl rfl ?_
      exact x_zreturn hC (dAt dd_X11_isOfShape 63 rfl)
    · refine x_iload_n (p' := 58) hC 3 (dAt dd_X11_isOfShape 35 rfl) rfl rfl rfl ?_
      refine x_if_eq (tgt := 104) (p' := 61) hC (dAt dd_X11_isOfShape 36 rfl) (by decide) rfl ?_ ?_
      · refine x_iload_n (p' := 105) hC 3 (dAt dd_X11_isOfShape 62 rfl) rfl rfl rfl ?_
        exact x_zreturn hC (dAt dd_X11_isOfShape 63 rfl)
      · refine x_aload_n (p' := 62) hC 0 (dAt dd_X11_isOfShape 37 rfl) rfl rfl rfl ?_
        refine x_getR (p' := 65) hC fk_RX11_98 rfl (dAt dd_X11_isOfShape 38 rfl) rfl (fun r9 => ?_)
        refine x_aload_n (p' := 66) hC 0 (dAt dd_X11_isOfShape 39 rfl) rfl rfl rfl ?_
        refine x_getR (p' := 69) hC fk_RX11_92 rfl (dAt dd_X11_isOfShape 40 rfl) rfl (fun r10 => ?_)
        refine x_iload_n (p' := 70) hC 1 (dAt dd_X11_isOfShape 41 rfl) rfl rfl rfl ?_
        refine x_iaload (p' := 71) hC (dAt dd_X11_isOfShape 42 rfl) rfl (fun v11 => ?_)
        refine x_iload (p' := 73) hC 4 (dAt dd_X11_isOfShape 43 rfl) rfl rfl ?_
        refine x_iadd (p' := 74) hC (dAt dd_X11_isOfShape 44 rfl) rfl ?_
        refine x_iaload (p' := 75) hC (dAt dd_X11_isOfShape 45 rfl) rfl (fun v12 => ?_)
        refine x_aload_n (p' := 76) hC 0 (dAt dd_X11_isOfShape 46 rfl) rfl rfl rfl ?_
        refine x_getR (p' := 79) hC fk_RX11_98 rfl (dAt dd_X11_isOfShape 47 rfl) rfl (fun r13 => ?_)
        refine x_aload_n (p' := 80) hC 0 (dAt dd_X11_isOfShape 48 rfl) rfl rfl rfl ?_
        refine x_getR (p' := 83) hC fk_RX11_92 rfl (dAt dd_X11_isOfShape 49 rfl) rfl (fun r14 => ?_)
        refine x_iload_n (p' := 84) hC 2 (dAt dd_X11_isOfShape 50 rfl) rfl rfl rfl ?_
        refine x_iaload (p' := 85) hC (dAt dd_X11_isOfShape 51 rfl) rfl (fun v15 => ?_)
        refine x_iload (p' := 87) hC 4 (dAt dd_X11_isOfShape 52 rfl) rfl rfl ?_
        refine x_iadd (p' := 88) hC (dAt dd_X11_isOfShape 53 rfl) rfl ?_
        refine x_iaload (p' := 89) hC (dAt dd_X11_isOfShape 54 rfl) rfl (fun v16 => ?_)
        refine x_icmp_ne (tgt := 96) (p' := 92) hC (dAt dd_X11_isOfShape 55 rfl) (by decide) rfl ?_ ?_
        · refine x_iconst (v := 0) (p' := 97) hC (dAt dd_X11_isOfShape 58 rfl) (by decide) rfl ?_
          refine x_istore_n (j := 3) (lv' := [(3, .int 0), (0, va_rf (some x0)), (1, .int x1), (2, .int x2), (4, .int x4)]) (p' := 98) hC (dAt dd_X11_isOfShape 59 rfl) rfl (by decide) rfl rfl ?_
          refine x_iinc (w := (x4 + 1)) (lv' := [(4, .int (x4 + 1)), (3, .int 0), (0, va_rf (some x0)), (1, .int x1), (2, .int x2)]) (p' := 101) hC 4 (dAt dd_X11_isOfShape 60 rfl) rfl rfl (by decide) rfl rfl ?_
          refine x_goto (tgt := 39) hC (dAt dd_X11_isOfShape 61 rfl) (by decide) ?_
          refine x_sub [2, 3, 4, 1, 0] rfl ?_
          exact ih x0 x1 x2 0 (x4 + 1) h
        · refine x_iconst (v := 1) (p' := 93) hC (dAt dd_X11_isOfShape 56 rfl) (by decide) rfl ?_
          refine x_goto (tgt := 97) hC (dAt dd_X11_isOfShape 57 rfl) (by decide) ?_
          refine x_istore_n (j := 3) (lv' := [(3, .int 1), (0, va_rf (some x0)), (1, .int x1), (2, .int x2), (4, .int x4)]) (p' := 98) hC (dAt dd_X11_isOfShape 59 rfl) rfl (by decide) rfl rfl ?_
          refine x_iinc (w := (x4 + 1)) (lv' := [(4, .int (x4 + 1)), (3, .int 1), (0, va_rf (some x0)), (1, .int x1), (2, .int x2)]) (p' := 101) hC 4 (dAt dd_X11_isOfShape 60 rfl) rfl rfl (by decide) rfl rfl ?_
          refine x_goto (tgt := 39) hC (dAt dd_X11_isOfShape 61 rfl) (by decide) ?_
          refine x_sub [2, 3, 4, 1, 0] rfl ?_
          exact ih x0 x1 x2 1 (x4 + 1) h
set_option maxHeartbeats 4000000 in
set_option maxRecDepth 100000 in
theorem c_X11_isOfShape (l : Launch) (D : va_G) (cy : Nat → ClassId) (h : AH) (a0 : Nat) (p1 : Int32) (p2 : Int32) : MX rvI l yX11_isOfShape (Cond.code yX11_isOfShape cX11_isOfShape 5 (some .boolean) :: LW) 0 0 D cy h [va_rf (some a0), .int p1, .int p2] (f_X11_isOfShape h a0 p1 p2) := by
  refine MX.of (lv := [(0, va_rf (some a0)), (1, .int p1), (2, .int p2)]) (by decide) (Nat.le_of_ble_eq_true rfl) rfl (fun C hC _ => ?_)
  unfold f_X11_isOfShape
  refine x_aload_n (p' := 1) hC 0 (dAt dd_X11_isOfShape 0 rfl) rfl rfl rfl ?_
  refine x_getR (p' := 4) hC fk_RX11_86 rfl (dAt dd_X11_isOfShape 1 rfl) rfl (fun r1 => ?_)
  refine x_iload_n (p' := 5) hC 1 (dAt dd_X11_isOfShape 2 rfl) rfl rfl rfl ?_
  refine x_iaload (p' := 6) hC (dAt dd_X11_isOfShape 3 rfl) rfl (fun v2 => ?_)
  refine x_aload_n (p' := 7) hC 0 (dAt dd_X11_isOfShape 4 rfl) rfl rfl rfl ?_
  refine x_getR (p' := 10) hC fk_RX11_86 rfl (dAt dd_X11_isOfShape 5 rfl) rfl (fun r3 => ?_)
  refine x_iload_n (p' := 11) hC 2 (dAt dd_X11_isOfShape 6 rfl) rfl rfl rfl ?_
  refine x_iaload (p' := 12) hC (dAt dd_X11_isOfShape 7 rfl) rfl (fun v4 => ?_)
  refine x_icmp_ne (tgt := 34) (p' := 15) hC (dAt dd_X11_isOfShape 8 rfl) (by decide) rfl ?_ ?_
  · refine x_iconst (v := 0) (p' := 35) hC (dAt dd_X11_isOfShape 20 rfl) (by decide) rfl ?_
    refine x_istore_n (j := 3) (lv' := [(3, .int 0), (0, va_rf (some a0)), (1, .int p1), (2, .int p2)]) (p' := 36) hC (dAt dd_X11_isOfShape 21 rfl) rfl (by decide) rfl rfl ?_
    refine x_iconst (v := 0) (p' := 37) hC (dAt dd_X11_isOfShape 22 rfl) (by decide) rfl ?_
    refine x_istore (lv' := [(4, .int 0), (3, .int 0), (0, va_rf (some a0)), (1, .int p1), (2, .int p2)]) (p' := 39) hC (dAt dd_X11_isOfShape 23 rfl) (by decide) rfl rfl ?_
    refine x_sub [2, 3, 4, 1, 0] rfl ?_
    exact t_X11_isOfShape_L39 hC FU a0 p1 p2 0 0 h
  · refine x_aload_n (p' := 16) hC 0 (dAt dd_X11_isOfShape 9 rfl) rfl rfl rfl ?_
    refine x_getR (p' := 19) hC fk_RX11_89 rfl (dAt dd_X11_isOfShape 10 rfl) rfl (fun r17 => ?_)
    refine x_iload_n (p' := 20) hC 1 (dAt dd_X11_isOfShape 11 rfl) rfl rfl rfl ?_
    refine x_iaload (p' := 21) hC (dAt dd_X11_isOfShape 12 rfl) rfl (fun v18 => ?_)
    refine x_aload_n (p' := 22) hC 0 (dAt dd_X11_isOfShape 13 rfl) rfl rfl rfl ?_
    refine x_getR (p' := 25) hC fk_RX11_89 rfl (dAt dd_X11_isOfShape 14 rfl) rfl (fun r19 => ?_)
    refine x_iload_n (p' := 26) hC 2 (dAt dd_X11_isOfShape 15 rfl) rfl rfl rfl ?_
    refine x_iaload (p' := 27) hC (dAt dd_X11_isOfShape 16 rfl) rfl (fun v20 => ?_)
    refine x_icmp_ne (tgt := 34) (p' := 30) hC (dAt dd_X11_isOfShape 17 rfl) (by decide) rfl ?_ ?_
    · refine x_iconst (v := 0) (p' := 35) hC (dAt dd_X11_isOfShape 20 rfl) (by decide) rfl ?_
      refine x_istore_n (j := 3) (lv' := [(3, .int 0), (0, va_rf (some a0)), (1, .int p1), (2, .int p2)]) (p' := 36) hC (dAt dd_X11_isOfShape 21 rfl) rfl (by decide) rfl rfl ?_
      refine x_iconst (v := 0) (p' := 37) hC (dAt dd_X11_isOfShape 22 rfl) (by decide) rfl ?_
      refine x_istore (lv' := [(4, .int 0), (3, .int 0), (0, va_rf (some a0)), (1, .int p1), (2, .int p2)]) (p' := 39) hC (dAt dd_X11_isOfShape 23 rfl) (by decide) rfl rfl ?_
      refine x_sub [2, 3, 4, 1, 0] rfl ?_
      exact t_X11_isOfShape_L39 hC FU a0 p1 p2 0 0 h
    · refine x_iconst (v := 1) (p' := 31) hC (dAt dd_X11_isOfShape 18 rfl) (by decide) rfl ?_
      refine x_goto (tgt := 35) hC (dAt dd_X11_isOfShape 19 rfl) (by decide) ?_
      refine x_istore_n (j := 3) (lv' := [(3, .int 1), (0, va_rf (some a0)), (1, .int p1), (2, .int p2)]) (p' := 36) hC (dAt dd_X11_isOfShape 21 rfl) rfl (by decide) rfl rfl ?_
      refine x_iconst (v := 0) (p' := 37) hC (dAt dd_X11_isOfShape 22 rfl) (by decide) rfl ?_
      refine x_istore (lv' := [(4, .int 0), (3, .int 1), (0, va_rf (some a0)), (1, .int p1), (2, .int p2)]) (p' := 39) hC (dAt dd_X11_isOfShape 23 rfl) (by decide) rfl rfl ?_
      refine x_sub [2, 3, 4, 1, 0] rfl ?_
      exact t_X11_isOfShape_L39 hC FU a0 p1 p2 1 0 h
set_option maxHeartbeats 4000000 in
set_option maxRecDepth 100000 in
theorem t_X11_findGroups_L98 {C : CT} (hC : OKC C yX11_findGroups cX11_findGroups 5 none 3 74) (k143 : Nat → Int32 → Int32 → Int32 → AH → RX Unit) (hk143 : ∀ (x0 : Nat) (x1 : Int32) (x2 : Int32) (x3 : Int32) (h : AH), WX rvV C 143 [(0, va_rf (some x0)), (1, .int x1), (2, .int x2), (3, .int x3)] [] h (k143 x0 x1 x2 x3 h)) : ∀ (n : Nat) (x0 : Nat) (x1 : Int32) (x2 : Int32) (x3 : Int32) (x4 : Int32) (h : AH), WX rvV C 98 [(0, va_rf (some x0)), (1, .int x1), (2, .int x2), (3, .int x3), (4, .int x4)] [] h (f_X11_findGroups_L98 k143 n x0 x1 x2 x3 x4 h) := by
  intro n
  induction n with
  | zero => intro _ _ _ _ _ _; exact x_none
  | succ n ih =>
    intro x0 x1 x2 x3 x4 h
    rw [f_X11_findGroups_L98]
    refine x_iload (p' := 100) hC 4 (dAt dd_X11_findGroups 60 rfl) rfl rfl ?_
    refine x_aload_n (p' := 101) hC 0 (dAt dd_X11_findGroups 61 rfl) rfl rfl rfl ?_
    refine x_getR (p' := 104) hC fk_RX11_71 rfl (dAt dd_X11_findGroups 62 rfl) rfl (fun r25 => ?_)
    refine x_iload_n (p' := 105) hC 3 (dAt dd_X11_findGroups 63 rfl) rfl rfl rfl ?_
    refine x_iaload (p' := 106) hC (dAt dd_X11_findGroups 64 rfl) rfl (fun v26 => ?_)
    refine x_icmp_ge (tgt := 143) (p' := 109) hC (dAt dd_X11_findGroups 65 rfl) (by decide) rfl ?_ ?_
    · refine x_sub [0, 1, 2, 3] rfl ?_
      exact hk143 x0 x1 x2 x3 h
    · refine x_aload_n (p' := 110) hC 0 (dAt dd_X11_findGroups 66 rfl) rfl rfl rfl ?_
      refine x_getR (p' := 113) hC fk_RX11_98 rfl (dAt dd_X11_findGroups 67 rfl) rfl (fun r27 => ?_)
      refine x_iload_n (p' := 114) hC 1 (dAt dd_X11_findGroups 68 rfl) rfl rfl rfl ?_
      refine x_aload_n (p' := 115) hC 0 (dAt dd_X11_findGroups 69 rfl) rfl rfl rfl ?_
      refine x_getR (p' := 118) hC fk_RX11_52 rfl (dAt dd_X11_findGroups 70 rfl) rfl (fun r28 => ?_)
      refine x_bipush (v := 60) (p' := 120) hC (dAt dd_X11_findGroups 71 rfl) (by decide) rfl ?_
      refine x_iload_n (p' := 121) hC 2 (dAt dd_X11_findGroups 72 rfl) rfl rfl rfl ?_
      refine x_imul (p' := 122) hC (dAt dd_X11_findGroups 73 rfl) rfl ?_
      refine x_aload_n (p' := 123) hC 0 (dAt dd_X11_findGroups 74 rfl) rfl rfl rfl ?_
      refine x_getR (p' := 126) hC fk_RX11_68 rfl (dAt dd_X11_findGroups 75 rfl) rfl (fun r29 => ?_)
      refine x_iload_n (p' := 127) hC 3 (dAt dd_X11_findGroups 76 rfl) rfl rfl rfl ?_
      refine x_iaload (p' := 128) hC (dAt dd_X11_findGroups 77 rfl) rfl (fun v30 => ?_)
      refine x_iadd (p' := 129) hC (dAt dd_X11_findGroups 78 rfl) rfl ?_
      refine x_iload (p' := 131) hC 4 (dAt dd_X11_findGroups 79 rfl) rfl rfl ?_
      refine x_iadd (p' := 132) hC (dAt dd_X11_findGroups 80 rfl) rfl ?_
      refine x_iaload (p' := 133) hC (dAt dd_X11_findGroups 81 rfl) rfl (fun v31 => ?_)
      refine x_iastore (p' := 134) hC (dAt dd_X11_findGroups 82 rfl) rfl (fun h32 => ?_)
      refine x_iinc (w := (x1 + 1)) (lv' := [(1, .int (x1 + 1)), (0, va_rf (some x0)), (2, .int x2), (3, .int x3), (4, .int x4)]) (p' := 137) hC 1 (dAt dd_X11_findGroups 83 rfl) rfl rfl (by decide) rfl rfl ?_
      refine x_iinc (w := (x4 + 1)) (lv' := [(4, .int (x4 + 1)), (1, .int (x1 + 1)), (0, va_rf (some x0)), (2, .int x2), (3, .int x3)]) (p' := 140) hC 4 (dAt dd_X11_findGroups 84 rfl) rfl rfl (by decide) rfl rfl ?_
      refine x_goto (tgt := 98) hC (dAt dd_X11_findGroups 85 rfl) (by decide) ?_
      refine x_sub [2, 1, 3, 4, 0] rfl ?_
      exact ih x0 (x1 + 1) x2 x3 (x4 + 1) h32
set_option maxHeartbeats 4000000 in
set_option maxRecDepth 100000 in
theorem t_X11_findGroups_L146 {C : CT} (hC : OKC C yX11_findGroups cX11_findGroups 5 none 3 74) (k194 : Nat → Int32 → Int32 → Int32 → AH → RX Unit) (hk194 : ∀ (x0 : Nat) (x1 : Int32) (x2 : Int32) (x3 : Int32) (h : AH), WX rvV C 194 [(0, va_rf (some x0)), (1, .int x1), (2, .int x2), (3, .int x3)] [] h (k194 x0 x1 x2 x3 h)) : ∀ (n : Nat) (x0 : Nat) (x1 : Int32) (x2 : Int32) (x3 : Int32) (x4 : Int32) (h : AH), WX rvV C 146 [(0, va_rf (some x0)), (1, .int x1), (2, .int x2), (3, .int x3), (4, .int x4)] [] h (f_X11_findGroups_L146 k194 n x0 x1 x2 x3 x4 h) := by
  intro n
  induction n with
  | zero => intro _ _ _ _ _ _; exact x_none
  | succ n ih =>
    intro x0 x1 x2 x3 x4 h
    rw [f_X11_findGroups_L146]
    refine x_iload (p' := 148) hC 4 (dAt dd_X11_findGroups 88 rfl) rfl rfl ?_
    refine x_aload_n (p' := 149) hC 0 (dAt dd_X11_findGroups 89 rfl) rfl rfl rfl ?_
    refine x_getR (p' := 152) hC fk_RX11_77 rfl (dAt dd_X11_findGroups 90 rfl) rfl (fun r33 => ?_)
    refine x_iload_n (p' := 153) hC 3 (dAt dd_X11_findGroups 91 rfl) rfl rfl rfl ?_
    refine x_iaload (p' := 154) hC (dAt dd_X11_findGroups 92 rfl) rfl (fun v34 => ?_)
    refine x_icmp_ge (tgt := 194) (p' := 157) hC (dAt dd_X11_findGroups 93 rfl) (by decide) rfl ?_ ?_
    · refine x_sub [0, 1, 2, 3] rfl ?_
      exact hk194 x0 x1 x2 x3 h
    · refine x_aload_n (p' := 158) hC 0 (dAt dd_X11_findGroups 94 rfl) rfl rfl rfl ?_
      refine x_getR (p' := 161) hC fk_RX11_98 rfl (dAt dd_X11_findGroups 95 rfl) rfl (fun r35 => ?_)
      refine x_iload_n (p' := 162) hC 1 (dAt dd_X11_findGroups 96 rfl) rfl rfl rfl ?_
      refine x_aload_n (p' := 163) hC 0 (dAt dd_X11_findGroups 97 rfl) rfl rfl rfl ?_
      refine x_getR (p' := 166) hC fk_RX11_52 rfl (dAt dd_X11_findGroups 98 rfl) rfl (fun r36 => ?_)
      refine x_bipush (v := 60) (p' := 168) hC (dAt dd_X11_findGroups 99 rfl) (by decide) rfl ?_
      refine x_bipush (v := 36) (p' := 170) hC (dAt dd_X11_findGroups 100 rfl) (by decide) rfl ?_
      refine x_iload_n (p' := 171) hC 2 (dAt dd_X11_findGroups 101 rfl) rfl rfl rfl ?_
      refine x_iadd (p' := 172) hC (dAt dd_X11_findGroups 102 rfl) rfl ?_
      refine x_imul (p' := 173) hC (dAt dd_X11_findGroups 103 rfl) rfl ?_
      refine x_aload_n (p' := 174) hC 0 (dAt dd_X11_findGroups 104 rfl) rfl rfl rfl ?_
      refine x_getR (p' := 177) hC fk_RX11_74 rfl (dAt dd_X11_findGroups 105 rfl) rfl (fun r37 => ?_)
      refine x_iload_n (p' := 178) hC 3 (dAt dd_X11_findGroups 106 rfl) rfl rfl rfl ?_
      refine x_iaload (p' := 179) hC (dAt dd_X11_findGroups 107 rfl) rfl (fun v38 => ?_)
      refine x_iadd (p' := 180) hC (dAt dd_X11_findGroups 108 rfl) rfl ?_
      refine x_iload (p' := 182) hC 4 (dAt dd_X11_findGroups 109 rfl) rfl rfl ?_
      refine x_iadd (p' := 183) hC (dAt dd_X11_findGroups 110 rfl) rfl ?_
      refine x_iaload (p' := 184) hC (dAt dd_X11_findGroups 111 rfl) rfl (fun v39 => ?_)
      refine x_iastore (p' := 185) hC (dAt dd_X11_findGroups 112 rfl) rfl (fun h40 => ?_)
      refine x_iinc (w := (x1 + 1)) (lv' := [(1, .int (x1 + 1)), (0, va_rf (some x0)), (2, .int x2), (3, .int x3), (4, .int x4)]) (p' := 188) hC 1 (dAt dd_X11_findGroups 113 rfl) rfl rfl (by decide) rfl rfl ?_
      refine x_iinc (w := (x4 + 1)) (lv' := [(4, .int (x4 + 1)), (1, .int (x1 + 1)), (0, va_rf (some x0)), (2, .int x2), (3, .int x3)]) (p' := 191) hC 4 (dAt dd_X11_findGroups 114 rfl) rfl rfl (by decide) rfl rfl ?_
      refine x_goto (tgt := 146) hC (dAt dd_X11_findGroups 115 rfl) (by decide) ?_
      refine x_sub [2, 1, 3, 4, 0] rfl ?_
      exact ih x0 (x1 + 1) x2 x3 (x4 + 1) h40
set_option maxHeartbeats 4000000 in
set_option maxRecDepth 100000 in
theorem t_X11_findGroups_L197 {C : CT} (hC : OKC C yX11_findGroups cX11_findGroups 5 none 3 74) (k230 : Nat → Int32 → Int32 → Int32 → Int32 → AH → RX Unit) (hk230 : ∀ (x0 : Nat) (x1 : Int32) (x2 : Int32) (x3 : Int32) (x4 : Int32) (h : AH), WX rvV C 230 [(0, va_rf (some x0)), (1, .int x1), (2, .int x2), (3, .int x3), (4, .int x4)] [] h (k230 x0 x1 x2 x3 x4 h)) : ∀ (n : Nat) (x0 : Nat) (x1 : Int32) (x2 : Int32) (x3 : Int32) (x4 : Int32) (h : AH), WX rvV C 197 [(0, va_rf (some x0)), (1, .int x1), (2, .int x2), (3, .int x3), (4, .int x4)] [] h (f_X11_findGroups_L197 k230 n x0 x1 x2 x3 x4 h) := by
  intro n
  induction n with
  | zero => intro _ _ _ _ _ _; exact x_none
  | succ n ih =>
    intro x0 x1 x2 x3 x4 h
    rw [f_X11_findGroups_L197]
    refine x_iload (p' := 199) hC 4 (dAt dd_X11_findGroups 118 rfl) rfl rfl ?_
    refine x_aload_n (p' := 200) hC 0 (dAt dd_X11_findGroups 119 rfl) rfl rfl rfl ?_
    refine x_getI (p' := 203) hC fk_RX11_226 rfl (dAt dd_X11_findGroups 120 rfl) rfl (fun v41 => ?_)
    refine x_icmp_ge (tgt := 230) (p' := 206) hC (dAt dd_X11_findGroups 121 rfl) (by decide) rfl ?_ ?_
    · exact hk230 x0 x1 x2 x3 x4 h
    · refine x_aload_n (p' := 207) hC 0 (dAt dd_X11_findGroups 122 rfl) rfl rfl rfl ?_
      refine x_aload_n (p' := 208) hC 0 (dAt dd_X11_findGroups 123 rfl) rfl rfl rfl ?_
      refine x_getR (p' := 211) hC fk_RX11_101 rfl (dAt dd_X11_findGroups 124 rfl) rfl (fun r42 => ?_)
      refine x_iload (p' := 213) hC 4 (dAt dd_X11_findGroups 125 rfl) rfl rfl ?_
      refine x_iaload (p' := 214) hC (dAt dd_X11_findGroups 126 rfl) rfl (fun v43 => ?_)
      refine x_aload_n (p' := 215) hC 0 (dAt dd_X11_findGroups 127 rfl) rfl rfl rfl ?_
      refine x_getI (p' := 218) hC fk_RX11_223 rfl (dAt dd_X11_findGroups 128 rfl) rfl (fun v44 => ?_)
      refine x_callVI (As := [.int v43, .int v44]) (z := fun b => f_X11_isOfShape h b v43 v44) (p' := 221) hC (fun b => c_X11_isOfShape _ _ _ h b v43 v44) k_1040 k_1042 (k_sl 49 rfl) k_9 k_1043 hd_X11_isOfShape ⟨by decide, by decide⟩ (ci := 10) rfl rfl (by decide) rfl (Nat.le_of_ble_eq_true rfl) rfl (dAt dd_X11_findGroups 129 rfl) rfl (fun v45 h46 => ?_)
      refine x_if_ne (tgt := 230) (p' := 224) hC (dAt dd_X11_findGroups 130 rfl) (by decide) rfl ?_ ?_
      · exact hk230 x0 x1 x2 x3 x4 h46
      · refine x_iinc (w := (x4 + 1)) (lv' := [(4, .int (x4 + 1)), (0, va_rf (some x0)), (1, .int x1), (2, .int x2), (3, .int x3)]) (p' := 227) hC 4 (dAt dd_X11_findGroups 131 rfl) rfl rfl (by decide) rfl rfl ?_
        refine x_goto (tgt := 197) hC (dAt dd_X11_findGroups 132 rfl) (by decide) ?_
        refine x_sub [1, 2, 3, 4, 0] rfl ?_
        exact ih x0 x1 x2 x3 (x4 + 1) h46
set_option maxHeartbeats 4000000 in
set_option maxRecDepth 100000 in
theorem t_X11_findGroups_J260 {C : CT} (hC : OKC C yX11_findGroups cX11_findGroups 5 none 3 74) (k27 : Nat → Int32 → Int32 → Int32 → AH → RX Unit) (hk27 : ∀ (x0 : Nat) (x1 : Int32) (x2 : Int32) (x3 : Int32) (h : AH), WX rvV C 27 [(0, va_rf (some x0)), (1, .int x1), (2, .int x2), (3, .int x3)] [] h (k27 x0 x1 x2 x3 h)) : ∀ (x0 : Nat) (x1 : Int32) (x2 : Int32) (x3 : Int32) (x4 : Int32) (h : AH), WX rvV C 260 [(0, va_rf (some x0)), (1, .int x1), (2, .int x2), (3, .int x3), (4, .int x4)] [] h (f_X11_findGroups_J260 k27 x0 x1 x2 x3 x4 h) := by
  intro x0 x1 x2 x3 x4 h
  unfold f_X11_findGroups_J260
  refine x_aload_n (p' := 261) hC 0 (dAt dd_X11_findGroups 149 rfl) rfl rfl rfl ?_
  refine x_getR (p' := 264) hC fk_RX11_95 rfl (dAt dd_X11_findGroups 150 rfl) rfl (fun r48 => ?_)
  refine x_aload_n (p' := 265) hC 0 (dAt dd_X11_findGroups 151 rfl) rfl rfl rfl ?_
  refine x_getI (p' := 268) hC fk_RX11_223 rfl (dAt dd_X11_findGroups 152 rfl) rfl (fun v49 => ?_)
  refine x_iload (p' := 270) hC 4 (dAt dd_X11_findGroups 153 rfl) rfl rfl ?_
  refine x_iastore (p' := 271) hC (dAt dd_X11_findGroups 154 rfl) rfl (fun h50 => ?_)
  refine x_aload_n (p' := 272) hC 0 (dAt dd_X11_findGroups 155 rfl) rfl rfl rfl ?_
  refine x_dup (p' := 273) hC (dAt dd_X11_findGroups 156 rfl) (x_cat _) rfl ?_
  refine x_getI (p' := 276) hC fk_RX11_223 rfl (dAt dd_X11_findGroups 157 rfl) rfl (fun v51 => ?_)
  refine x_iconst (v := 1) (p' := 277) hC (dAt dd_X11_findGroups 158 rfl) (by decide) rfl ?_
  refine x_iadd (p' := 278) hC (dAt dd_X11_findGroups 159 rfl) rfl ?_
  refine x_putI (p' := 281) hC fk_RX11_223 tk_RX11 rfl rfl (Or.inl rfl) (dAt dd_X11_findGroups 160 rfl) rfl (fun h52 => ?_)
  refine x_iinc (w := (x3 + 1)) (lv' := [(3, .int (x3 + 1)), (0, va_rf (some x0)), (1, .int x1), (2, .int x2), (4, .int x4)]) (p' := 284) hC 3 (dAt dd_X11_findGroups 161 rfl) rfl rfl (by decide) rfl rfl ?_
  refine x_goto (tgt := 27) hC (dAt dd_X11_findGroups 162 rfl) (by decide) ?_
  refine x_sub [1, 2, 3, 0] rfl ?_
  exact hk27 x0 x1 x2 (x3 + 1) h52
set_option maxHeartbeats 4000000 in
set_option maxRecDepth 100000 in
theorem t_X11_findGroups_J230 {C : CT} (hC : OKC C yX11_findGroups cX11_findGroups 5 none 3 74) (k27 : Nat → Int32 → Int32 → Int32 → AH → RX Unit) (hk27 : ∀ (x0 : Nat) (x1 : Int32) (x2 : Int32) (x3 : Int32) (h : AH), WX rvV C 27 [(0, va_rf (some x0)), (1, .int x1), (2, .int x2), (3, .int x3)] [] h (k27 x0 x1 x2 x3 h)) : ∀ (x0 : Nat) (x1 : Int32) (x2 : Int32) (x3 : Int32) (x4 : Int32) (h : AH), WX rvV C 230 [(0, va_rf (some x0)), (1, .int x1), (2, .int x2), (3, .int x3), (4, .int x4)] [] h (f_X11_findGroups_J230 k27 x0 x1 x2 x3 x4 h) := by
  intro x0 x1 x2 x3 x4 h
  unfold f_X11_findGroups_J230
  refine x_iload (p' := 232) hC 4 (dAt dd_X11_findGroups 133 rfl) rfl rfl ?_
  refine x_aload_n (p' := 233) hC 0 (dAt dd_X11_findGroups 134 rfl) rfl rfl rfl ?_
  refine x_getI (p' := 236) hC fk_RX11_226 rfl (dAt dd_X11_findGroups 135 rfl) rfl (fun v47 => ?_)
  refine x_icmp_ne (tgt := 260) (p' := 239) hC (dAt dd_X11_findGroups 136 rfl) (by decide) rfl ?_ ?_
  · exact t_X11_findGroups_J260 hC k27 hk27 x0 x1 x2 x3 x4 h
  · refine x_aload_n (p' := 240) hC 0 (dAt dd_X11_findGroups 137 rfl) rfl rfl rfl ?_
    refine x_getR (p' := 243) hC fk_RX11_101 rfl (dAt dd_X11_findGroups 138 rfl) rfl (fun r53 => ?_)
    refine x_iload (p' := 245) hC 4 (dAt dd_X11_findGroups 139 rfl) rfl rfl ?_
    refine x_aload_n (p' := 246) hC 0 (dAt dd_X11_findGroups 140 rfl) rfl rfl rfl ?_
    refine x_getI (p' := 249) hC fk_RX11_223 rfl (dAt dd_X11_findGroups 141 rfl) rfl (fun v54 => ?_)
    refine x_iastore (p' := 250) hC (dAt dd_X11_findGroups 142 rfl) rfl (fun h55 => ?_)
    refine x_aload_n (p' := 251) hC 0 (dAt dd_X11_findGroups 143 rfl) rfl rfl rfl ?_
    refine x_dup (p' := 252) hC (dAt dd_X11_findGroups 144 rfl) (x_cat _) rfl ?_
    refine x_getI (p' := 255) hC fk_RX11_226 rfl (dAt dd_X11_findGroups 145 rfl) rfl (fun v56 => ?_)
    refine x_iconst (v := 1) (p' := 256) hC (dAt dd_X11_findGroups 146 rfl) (by decide) rfl ?_
    refine x_iadd (p' := 257) hC (dAt dd_X11_findGroups 147 rfl) rfl ?_
    refine x_putI (p' := 260) hC fk_RX11_226 tk_RX11 rfl rfl (Or.inl rfl) (dAt dd_X11_findGroups 148 rfl) rfl (fun h57 => ?_)
    exact t_X11_findGroups_J260 hC k27 hk27 x0 x1 x2 x3 x4 h57
set_option maxHeartbeats 4000000 in
set_option maxRecDepth 100000 in
theorem t_X11_findGroups_J194 {C : CT} (hC : OKC C yX11_findGroups cX11_findGroups 5 none 3 74) (k27 : Nat → Int32 → Int32 → Int32 → AH → RX Unit) (hk27 : ∀ (x0 : Nat) (x1 : Int32) (x2 : Int32) (x3 : Int32) (h : AH), WX rvV C 27 [(0, va_rf (some x0)), (1, .int x1), (2, .int x2), (3, .int x3)] [] h (k27 x0 x1 x2 x3 h)) : ∀ (x0 : Nat) (x1 : Int32) (x2 : Int32) (x3 : Int32) (h : AH), WX rvV C 194 [(0, va_rf (some x0)), (1, .int x1), (2, .int x2), (3, .int x3)] [] h (f_X11_findGroups_J194 k27 x0 x1 x2 x3 h) := by
  intro x0 x1 x2 x3 h
  unfold f_X11_findGroups_J194
  refine x_iconst (v := 0) (p' := 195) hC (dAt dd_X11_findGroups 116 rfl) (by decide) rfl ?_
  refine x_istore (lv' := [(4, .int 0), (0, va_rf (some x0)), (1, .int x1), (2, .int x2), (3, .int x3)]) (p' := 197) hC (dAt dd_X11_findGroups 117 rfl) (by decide) rfl rfl ?_
  refine x_sub [1, 2, 3, 4, 0] rfl ?_
  exact t_X11_findGroups_L197 hC (f_X11_findGroups_J230 k27) (t_X11_findGroups_J230 hC k27 hk27) FU x0 x1 x2 x3 0 h
set_option maxHeartbeats 4000000 in
set_option maxRecDepth 100000 in
theorem t_X11_findGroups_J143 {C : CT} (hC : OKC C yX11_findGroups cX11_findGroups 5 none 3 74) (k27 : Nat → Int32 → Int32 → Int32 → AH → RX Unit) (hk27 : ∀ (x0 : Nat) (x1 : Int32) (x2 : Int32) (x3 : Int32) (h : AH), WX rvV C 27 [(0, va_rf (some x0)), (1, .int x1), (2, .int x2), (3, .int x3)] [] h (k27 x0 x1 x2 x3 h)) : ∀ (x0 : Nat) (x1 : Int32) (x2 : Int32) (x3 : Int32) (h : AH), WX rvV C 143 [(0, va_rf (some x0)), (1, .int x1), (2, .int x2), (3, .int x3)] [] h (f_X11_findGroups_J143 k27 x0 x1 x2 x3 h) := by
  intro x0 x1 x2 x3 h
  unfold f_X11_findGroups_J143
  refine x_iconst (v := 0) (p' := 144) hC (dAt dd_X11_findGroups 86 rfl) (by decide) rfl ?_
  refine x_istore (lv' := [(4, .int 0), (0, va_rf (some x0)), (1, .int x1), (2, .int x2), (3, .int x3)]) (p' := 146) hC (dAt dd_X11_findGroups 87 rfl) (by decide) rfl rfl ?_
  refine x_sub [1, 2, 3, 4, 0] rfl ?_
  exact t_X11_findGroups_L146 hC (f_X11_findGroups_J194 k27) (t_X11_findGroups_J194 hC k27 hk27) FU x0 x1 x2 x3 0 h
set_option maxHeartbeats 4000000 in
set_option maxRecDepth 100000 in
theorem t_X11_findGroups_L27 {C : CT} (hC : OKC C yX11_findGroups cX11_findGroups 5 none 3 74) (k287 : Nat → Int32 → Int32 → AH → RX Unit) (hk287 : ∀ (x0 : Nat) (x1 : Int32) (x2 : Int32) (h : AH), WX rvV C 287 [(0, va_rf (some x0)), (1, .int x1), (2, .int x2)] [] h (k287 x0 x1 x2 h)) : ∀ (n : Nat) (x0 : Nat) (x1 : Int32) (x2 : Int32) (x3 : Int32) (h : AH), WX rvV C 27 [(0, va_rf (some x0)), (1, .int x1), (2, .int x2), (3, .int x3)] [] h (f_X11_findGroups_L27 k287 n x0 x1 x2 x3 h) := by
  intro n
  induction n with
  | zero => intro _ _ _ _ _; exact x_none
  | succ n ih =>
    intro x0 x1 x2 x3 h
    rw [f_X11_findGroups_L27]
    refine x_iload_n (p' := 28) hC 3 (dAt dd_X11_findGroups 18 rfl) rfl rfl rfl ?_
    refine x_aload_n (p' := 29) hC 0 (dAt dd_X11_findGroups 19 rfl) rfl rfl rfl ?_
    refine x_getI (p' := 32) hC fk_RX11_217 rfl (dAt dd_X11_findGroups 20 rfl) rfl (fun v5 => ?_)
    refine x_icmp_ge (tgt := 287) (p' := 35) hC (dAt dd_X11_findGroups 21 rfl) (by decide) rfl ?_ ?_
    · refine x_sub [0, 1, 2] rfl ?_
      exact hk287 x0 x1 x2 h
    · refine x_aload_n (p' := 36) hC 0 (dAt dd_X11_findGroups 22 rfl) rfl rfl rfl ?_
      refine x_getR (p' := 39) hC fk_RX11_80 rfl (dAt dd_X11_findGroups 23 rfl) rfl (fun r6 => ?_)
      refine x_aload_n (p' := 40) hC 0 (dAt dd_X11_findGroups 24 rfl) rfl rfl rfl ?_
      refine x_getI (p' := 43) hC fk_RX11_223 rfl (dAt dd_X11_findGroups 25 rfl) rfl (fun v7 => ?_)
      refine x_iload_n (p' := 44) hC 2 (dAt dd_X11_findGroups 26 rfl) rfl rfl rfl ?_
      refine x_iastore (p' := 45) hC (dAt dd_X11_findGroups 27 rfl) rfl (fun h8 => ?_)
      refine x_aload_n (p' := 46) hC 0 (dAt dd_X11_findGroups 28 rfl) rfl rfl rfl ?_
      refine x_getR (p' := 49) hC fk_RX11_83 rfl (dAt dd_X11_findGroups 29 rfl) rfl (fun r9 => ?_)
      refine x_aload_n (p' := 50) hC 0 (dAt dd_X11_findGroups 30 rfl) rfl rfl rfl ?_
      refine x_getI (p' := 53) hC fk_RX11_223 rfl (dAt dd_X11_findGroups 31 rfl) rfl (fun v10 => ?_)
      refine x_iload_n (p' := 54) hC 3 (dAt dd_X11_findGroups 32 rfl) rfl rfl rfl ?_
      refine x_iastore (p' := 55) hC (dAt dd_X11_findGroups 33 rfl) rfl (fun h11 => ?_)
      refine x_aload_n (p' := 56) hC 0 (dAt dd_X11_findGroups 34 rfl) rfl rfl rfl ?_
      refine x_getR (p' := 59) hC fk_RX11_86 rfl (dAt dd_X11_findGroups 35 rfl) rfl (fun r12 => ?_)
      refine x_aload_n (p' := 60) hC 0 (dAt dd_X11_findGroups 36 rfl) rfl rfl rfl ?_
      refine x_getI (p' := 63) hC fk_RX11_223 rfl (dAt dd_X11_findGroups 37 rfl) rfl (fun v13 => ?_)
      refine x_aload_n (p' := 64) hC 0 (dAt dd_X11_findGroups 38 rfl) rfl rfl rfl ?_
      refine x_getR (p' := 67) hC fk_RX11_71 rfl (dAt dd_X11_findGroups 39 rfl) rfl (fun r14 => ?_)
      refine x_iload_n (p' := 68) hC 3 (dAt dd_X11_findGroups 40 rfl) rfl rfl rfl ?_
      refine x_iaload (p' := 69) hC (dAt dd_X11_findGroups 41 rfl) rfl (fun v15 => ?_)
      refine x_iastore (p' := 70) hC (dAt dd_X11_findGroups 42 rfl) rfl (fun h16 => ?_)
      refine x_aload_n (p' := 71) hC 0 (dAt dd_X11_findGroups 43 rfl) rfl rfl rfl ?_
      refine x_getR (p' := 74) hC fk_RX11_89 rfl (dAt dd_X11_findGroups 44 rfl) rfl (fun r17 => ?_)
      refine x_aload_n (p' := 75) hC 0 (dAt dd_X11_findGroups 45 rfl) rfl rfl rfl ?_
      refine x_getI (p' := 78) hC fk_RX11_223 rfl (dAt dd_X11_findGroups 46 rfl) rfl (fun v18 => ?_)
      refine x_aload_n (p' := 79) hC 0 (dAt dd_X11_findGroups 47 rfl) rfl rfl rfl ?_
      refine x_getR (p' := 82) hC fk_RX11_77 rfl (dAt dd_X11_findGroups 48 rfl) rfl (fun r19 => ?_)
      refine x_iload_n (p' := 83) hC 3 (dAt dd_X11_findGroups 49 rfl) rfl rfl rfl ?_
      refine x_iaload (p' := 84) hC (dAt dd_X11_findGroups 50 rfl) rfl (fun v20 => ?_)
      refine x_iastore (p' := 85) hC (dAt dd_X11_findGroups 51 rfl) rfl (fun h21 => ?_)
      refine x_aload_n (p' := 86) hC 0 (dAt dd_X11_findGroups 52 rfl) rfl rfl rfl ?_
      refine x_getR (p' := 89) hC fk_RX11_92 rfl (dAt dd_X11_findGroups 53 rfl) rfl (fun r22 => ?_)
      refine x_aload_n (p' := 90) hC 0 (dAt dd_X11_findGroups 54 rfl) rfl rfl rfl ?_
      refine x_getI (p' := 93) hC fk_RX11_223 rfl (dAt dd_X11_findGroups 55 rfl) rfl (fun v23 => ?_)
      refine x_iload_n (p' := 94) hC 1 (dAt dd_X11_findGroups 56 rfl) rfl rfl rfl ?_
      refine x_iastore (p' := 95) hC (dAt dd_X11_findGroups 57 rfl) rfl (fun h24 => ?_)
      refine x_iconst (v := 0) (p' := 96) hC (dAt dd_X11_findGroups 58 rfl) (by decide) rfl ?_
      refine x_istore (lv' := [(4, .int 0), (0, va_rf (some x0)), (1, .int x1), (2, .int x2), (3, .int x3)]) (p' := 98) hC (dAt dd_X11_findGroups 59 rfl) (by decide) rfl rfl ?_
      refine x_sub [1, 2, 3, 4, 0] rfl ?_
      exact t_X11_findGroups_L98 hC (f_X11_findGroups_J143 (f_X11_findGroups_L27 k287 n)) (t_X11_findGroups_J143 hC (f_X11_findGroups_L27 k287 n) ih) FU x0 x1 x2 x3 0 h24
set_option maxHeartbeats 4000000 in
set_option maxRecDepth 100000 in
theorem t_X11_findGroups_J287 {C : CT} (hC : OKC C yX11_findGroups cX11_findGroups 5 none 3 74) (k14 : Nat → Int32 → Int32 → AH → RX Unit) (hk14 : ∀ (x0 : Nat) (x1 : Int32) (x2 : Int32) (h : AH), WX rvV C 14 [(0, va_rf (some x0)), (1, .int x1), (2, .int x2)] [] h (k14 x0 x1 x2 h)) : ∀ (x0 : Nat) (x1 : Int32) (x2 : Int32) (h : AH), WX rvV C 287 [(0, va_rf (some x0)), (1, .int x1), (2, .int x2)] [] h (f_X11_findGroups_J287 k14 x0 x1 x2 h) := by
  intro x0 x1 x2 h
  unfold f_X11_findGroups_J287
  refine x_iinc (w := (x2 + 1)) (lv' := [(2, .int (x2 + 1)), (0, va_rf (some x0)), (1, .int x1)]) (p' := 290) hC 2 (dAt dd_X11_findGroups 163 rfl) rfl rfl (by decide) rfl rfl ?_
  refine x_goto (tgt := 14) hC (dAt dd_X11_findGroups 164 rfl) (by decide) ?_
  refine x_sub [1, 2, 0] rfl ?_
  exact hk14 x0 x1 (x2 + 1) h
set_option maxHeartbeats 4000000 in
set_option maxRecDepth 100000 in
theorem t_X11_findGroups_L14 {C : CT} (hC : OKC C yX11_findGroups cX11_findGroups 5 none 3 74)   : ∀ (n : Nat) (x0 : Nat) (x1 : Int32) (x2 : Int32) (h : AH), WX rvV C 14 [(0, va_rf (some x0)), (1, .int x1), (2, .int x2)] [] h (f_X11_findGroups_L14 n x0 x1 x2 h) := by
  intro n
  induction n with
  | zero => intro _ _ _ _; exact x_none
  | succ n ih =>
    intro x0 x1 x2 h
    rw [f_X11_findGroups_L14]
    refine x_iload_n (p' := 15) hC 2 (dAt dd_X11_findGroups 10 rfl) rfl rfl rfl ?_
    refine x_bipush (v := 36) (p' := 17) hC (dAt dd_X11_findGroups 11 rfl) (by decide) rfl ?_
    refine x_icmp_ge (tgt := 293) (p' := 20) hC (dAt dd_X11_findGroups 12 rfl) (by decide) rfl ?_ ?_
    · exact x_return hC (dAt dd_X11_findGroups 165 rfl)
    · refine x_aload_n (p' := 21) hC 0 (dAt dd_X11_findGroups 13 rfl) rfl rfl rfl ?_
      refine x_iload_n (p' := 22) hC 2 (dAt dd_X11_findGroups 14 rfl) rfl rfl rfl ?_
      refine x_callVV (As := [.int x2]) (z := fun b => f_X11_findChanges h b x2) (p' := 25) hC (fun b => c_X11_findChanges _ _ _ h b x2) k_1032 k_1034 (k_sl 47 rfl) k_9 k_1035 hd_X11_findChanges ⟨by decide, by decide⟩ (ci := 10) rfl rfl (by decide) rfl (Nat.le_of_ble_eq_true rfl) rfl (dAt dd_X11_findGroups 15 rfl) rfl (fun u3 h4 => ?_)
      refine x_iconst (v := 0) (p' := 26) hC (dAt dd_X11_findGroups 16 rfl) (by decide) rfl ?_
      refine x_istore_n (j := 3) (lv' := [(3, .int 0), (0, va_rf (some x0)), (1, .int x1), (2, .int x2)]) (p' := 27) hC (dAt dd_X11_findGroups 17 rfl) rfl (by decide) rfl rfl ?_
      refine x_sub [1, 2, 3, 0] rfl ?_
      exact t_X11_findGroups_L27 hC (f_X11_findGroups_J287 (f_X11_findGroups_L14 n)) (t_X11_findGroups_J287 hC (f_X11_findGroups_L14 n) ih) FU x0 x1 x2 0 h4
set_option maxHeartbeats 4000000 in
set_option maxRecDepth 100000 in
theorem c_X11_findGroups (l : Launch) (D : va_G) (cy : Nat → ClassId) (h : AH) (a0 : Nat) : MX rvV l yX11_findGroups (Cond.code yX11_findGroups cX11_findGroups 5 none :: LW) 3 74 D cy h [va_rf (some a0)] (f_X11_findGroups h a0) := by
  refine MX.of (lv := [(0, va_rf (some a0))]) (by decide) (Nat.le_of_ble_eq_true rfl) rfl (fun C hC _ => ?_)
  unfold f_X11_findGroups
  refine x_aload_n (p' := 1) hC 0 (dAt dd_X11_findGroups 0 rfl) rfl rfl rfl ?_
  refine x_iconst (v := 0) (p' := 2) hC (dAt dd_X11_findGroups 1 rfl) (by decide) rfl ?_
  refine x_putI (p' := 5) hC fk_RX11_223 tk_RX11 rfl rfl (Or.inl rfl) (dAt dd_X11_findGroups 2 rfl) rfl (fun h1 => ?_)
  refine x_aload_n (p' := 6) hC 0 (dAt dd_X11_findGroups 3 rfl) rfl rfl rfl ?_
  refine x_iconst (v := 0) (p' := 7) hC (dAt dd_X11_findGroups 4 rfl) (by decide) rfl ?_
  refine x_putI (p' := 10) hC fk_RX11_226 tk_RX11 rfl rfl (Or.inl rfl) (dAt dd_X11_findGroups 5 rfl) rfl (fun h2 => ?_)
  refine x_iconst (v := 0) (p' := 11) hC (dAt dd_X11_findGroups 6 rfl) (by decide) rfl ?_
  refine x_istore_n (j := 1) (lv' := [(1, .int 0), (0, va_rf (some a0))]) (p' := 12) hC (dAt dd_X11_findGroups 7 rfl) rfl (by decide) rfl rfl ?_
  refine x_iconst (v := 0) (p' := 13) hC (dAt dd_X11_findGroups 8 rfl) (by decide) rfl ?_
  refine x_istore_n (j := 2) (lv' := [(2, .int 0), (1, .int 0), (0, va_rf (some a0))]) (p' := 14) hC (dAt dd_X11_findGroups 9 rfl) rfl (by decide) rfl rfl ?_
  refine x_sub [2, 1, 0] rfl ?_
  exact t_X11_findGroups_L14 hC FU a0 0 0 h2
set_option maxHeartbeats 4000000 in
set_option maxRecDepth 100000 in
theorem t_X11_change_L125 {C : CT} (hC : OKC C yX11_change cX11_change 7 (some .int) 4 98)   : ∀ (n : Nat) (x0 : Nat) (x3 : Int32) (x5 : Int32) (x6 : Int32) (h : AH), WX rvI C 125 [(0, va_rf (some x0)), (3, .int x3), (5, .int x5), (6, .int x6)] [] h (f_X11_change_L125 n x0 x3 x5 x6 h) := by
  intro n
  induction n with
  | zero => intro _ _ _ _ _; exact x_none
  | succ n ih =>
    intro x0 x3 x5 x6 h
    rw [f_X11_change_L125]
    refine x_aload_n (p' := 126) hC 0 (dAt dd_X11_change 71 rfl) rfl rfl rfl ?_
    refine x_getR (p' := 129) hC fk_RX11_80 rfl (dAt dd_X11_change 72 rfl) rfl (fun r13 => ?_)
    refine x_iload (p' := 131) hC 3 (dAt dd_X11_change 73 rfl) rfl rfl ?_
    refine x_iaload (p' := 132) hC (dAt dd_X11_change 74 rfl) rfl (fun v14 => ?_)
    refine x_iload (p' := 134) hC 2 (dAt dd_X11_change 75 rfl) rfl rfl ?_
    refine x_icmp_ne (tgt := 148) (p' := 137) hC (dAt dd_X11_change 76 rfl) (by decide) rfl ?_ ?_
    · refine x_iinc (w := (x6 + 1)) (lv' := [(6, .int (x6 + 1)), (0, va_rf (some x0)), (3, .int x3), (5, .int x5)]) (p' := 151) hC 3 (dAt dd_X11_change 83 rfl) rfl rfl (by decide) rfl rfl ?_
      refine x_goto (tgt := 125) hC (dAt dd_X11_change 84 rfl) (by decide) ?_
      refine x_sub [1, 2, 3, 0] rfl ?_
      exact ih x0 x3 x5 (x6 + 1) h
    · refine x_aload_n (p' := 138) hC 0 (dAt dd_X11_change 77 rfl) rfl rfl rfl ?_
      refine x_getR (p' := 141) hC fk_RX11_83 rfl (dAt dd_X11_change 78 rfl) rfl (fun r15 => ?_)
      refine x_iload (p' := 143) hC 3 (dAt dd_X11_change 79 rfl) rfl rfl ?_
      refine x_iaload (p' := 144) hC (dAt dd_X11_change 80 rfl) rfl (fun v16 => ?_)
      refine x_iload_n (p' := 145) hC 1 (dAt dd_X11_change 81 rfl) rfl rfl rfl ?_
      refine x_icmp_eq (tgt := 154) (p' := 148) hC (dAt dd_X11_change 82 rfl) (by decide) rfl ?_ ?_
      · refine x_aload_n (p' := 155) hC 0 (dAt dd_X11_change 85 rfl) rfl rfl rfl ?_
        refine x_getR (p' := 158) hC fk_RX11_95 rfl (dAt dd_X11_change 86 rfl) rfl (fun r17 => ?_)
        refine x_iload (p' := 160) hC 3 (dAt dd_X11_change 87 rfl) rfl rfl ?_
        refine x_iaload (p' := 161) hC (dAt dd_X11_change 88 rfl) rfl (fun v18 => ?_)
        exact x_ireturn hC (dAt dd_X11_change 89 rfl)
      · refine x_iinc (w := (x6 + 1)) (lv' := [(6, .int (x6 + 1)), (0, va_rf (some x0)), (3, .int x3), (5, .int x5)]) (p' := 151) hC 3 (dAt dd_X11_change 83 rfl) rfl rfl (by decide) rfl rfl ?_
        refine x_goto (tgt := 125) hC (dAt dd_X11_change 84 rfl) (by decide) ?_
        refine x_sub [1, 2, 3, 0] rfl ?_
        exact ih x0 x3 x5 (x6 + 1) h
set_option maxHeartbeats 4000000 in
set_option maxRecDepth 100000 in
theorem c_X11_change (l : Launch) (D : va_G) (cy : Nat → ClassId) (h : AH) (a0 : Nat) (p1 : Int32) (p2 : Int32) (p3 : Int32) (p4 : Int32) : MX rvI l yX11_change (Cond.code yX11_change cX11_change 7 (some .int) :: LW) 4 98 D cy h [va_rf (some a0), .int p1, .int p2, .int p3, .int p4] (f_X11_change h a0 p1 p2 p3 p4) := by
  refine MX.of (lv := [(0, va_rf (some a0)), (1, .int p1), (2, .int p2), (3, .int p3), (4, .int p4)]) (by decide) (Nat.le_of_ble_eq_true rfl) rfl (fun C hC _ => ?_)
  unfold f_X11_change
  refine x_aload_n (p' := 1) hC 0 (dAt dd_X11_change 0 rfl) rfl rfl rfl ?_
  refine x_iconst (v := 0) (p' := 2) hC (dAt dd_X11_change 1 rfl) (by decide) rfl ?_
  refine x_putI (p' := 5) hC fk_RX11_1 tk_RX11 rfl rfl (Or.inl rfl) (dAt dd_X11_change 2 rfl) rfl (fun h1 => ?_)
  refine x_iload_n (p' := 6) hC 1 (dAt dd_X11_change 3 rfl) rfl rfl rfl ?_
  refine x_iload_n (p' := 7) hC 2 (dAt dd_X11_change 4 rfl) rfl rfl rfl ?_
  refine x_callSI (As := [.int p1, .int p2]) (p' := 10) hC (c_X11_isSlot _ _ _ h1 p1 p2) k_966 k_967 k_9 k_968 hd_X11_isSlot ⟨by decide, by decide⟩ rfl (Nat.le_of_ble_eq_true rfl) rfl (dAt dd_X11_change 5 rfl) rfl (fun v2 h3 => ?_)
  refine x_if_eq (tgt := 26) (p' := 13) hC (dAt dd_X11_change 6 rfl) (by decide) rfl ?_ ?_
  · refine x_ldc (v := (-1000001)) (p' := 28) hC (dAt dd_X11_change 13 rfl) k_918 rfl ?_
    exact x_ireturn hC (dAt dd_X11_change 14 rfl)
  · refine x_iload (p' := 15) hC 4 (dAt dd_X11_change 7 rfl) rfl rfl ?_
    refine x_i2l (p' := 16) hC (dAt dd_X11_change 8 rfl) rfl ?_
    refine x_lconst (v := 0) (p' := 17) hC (dAt dd_X11_change 9 rfl) (by decide) rfl ?_
    refine x_ldc2_w (v := 4) (p' := 20) hC (dAt dd_X11_change 10 rfl) k_1010 rfl ?_
    refine x_callSI (As := [.long (Int32.toInt64 p4), .long 0, .long 4]) (p' := 23) hC (c_X11_in _ _ _ h3 (Int32.toInt64 p4) 0 4) k_914 k_915 k_9 k_916 hd_X11_in ⟨by decide, by decide⟩ rfl (Nat.le_of_ble_eq_true rfl) rfl (dAt dd_X11_change 11 rfl) rfl (fun v4 h5 => ?_)
    refine x_if_ne (tgt := 29) (p' := 26) hC (dAt dd_X11_change 12 rfl) (by decide) rfl ?_ ?_
    · refine x_iconst (v := 3) (p' := 30) hC (dAt dd_X11_change 15 rfl) (by decide) rfl ?_
      refine x_iload_n (p' := 31) hC 1 (dAt dd_X11_change 16 rfl) rfl rfl rfl ?_
      refine x_imul (p' := 32) hC (dAt dd_X11_change 17 rfl) rfl ?_
      refine x_iload_n (p' := 33) hC 2 (dAt dd_X11_change 18 rfl) rfl rfl rfl ?_
      refine x_iadd (p' := 34) hC (dAt dd_X11_change 19 rfl) rfl ?_
      refine x_istore (lv' := [(5, .int ((3 * p1) + p2)), (0, va_rf (some a0)), (1, .int p1), (2, .int p2), (3, .int p3), (4, .int p4)]) (p' := 36) hC (dAt dd_X11_change 20 rfl) (by decide) rfl rfl ?_
      refine x_aload_n (p' := 37) hC 1 (dAt dd_X11_change 21 rfl) rfl rfl rfl ?_
      refine x_iload (p' := 39) hC 0 (dAt dd_X11_change 22 rfl) rfl rfl ?_
      refine x_callVV (As := [.int ((3 * p1) + p2)]) (z := fun b => f_X11_findChanges h5 b ((3 * p1) + p2)) (p' := 42) hC (fun b => c_X11_findChanges _ _ _ h5 b ((3 * p1) + p2)) k_1032 k_1034 (k_sl 47 rfl) k_9 k_1035 hd_X11_findChanges ⟨by decide, by decide⟩ (ci := 10) rfl rfl (by decide) rfl (Nat.le_of_ble_eq_true rfl) rfl (dAt dd_X11_change 23 rfl) rfl (fun u6 h7 => ?_)
      refine x_iload_n (p' := 43) hC 4 (dAt dd_X11_change 24 rfl) rfl rfl rfl ?_
      refine x_i2l (p' := 44) hC (dAt dd_X11_change 25 rfl) rfl ?_
      refine x_lconst (v := 0) (p' := 45) hC (dAt dd_X11_change 26 rfl) (by decide) rfl ?_
      refine x_aload_n (p' := 46) hC 1 (dAt dd_X11_change 27 rfl) rfl rfl rfl ?_
      refine x_getI (p' := 49) hC fk_RX11_217 rfl (dAt dd_X11_change 28 rfl) rfl (fun v8 => ?_)
      refine x_iconst (v := 1) (p' := 50) hC (dAt dd_X11_change 29 rfl) (by decide) rfl ?_
      refine x_isub (p' := 51) hC (dAt dd_X11_change 30 rfl) rfl ?_
      refine x_i2l (p' := 52) hC (dAt dd_X11_change 31 rfl) rfl ?_
      refine x_callSI (As := [.long (Int32.toInt64 p3), .long 0, .long (Int32.toInt64 (v8 - 1))]) (p' := 55) hC (c_X11_in _ _ _ h7 (Int32.toInt64 p3) 0 (Int32.toInt64 (v8 - 1))) k_914 k_915 k_9 k_916 hd_X11_in ⟨by decide, by decide⟩ rfl (Nat.le_of_ble_eq_true rfl) rfl (dAt dd_X11_change 32 rfl) rfl (fun v9 h10 => ?_)
      refine x_if_ne (tgt := 61) (p' := 58) hC (dAt dd_X11_change 33 rfl) (by decide) rfl ?_ ?_
      · refine x_iload (p' := 63) hC 5 (dAt dd_X11_change 36 rfl) rfl rfl ?_
        refine x_iconst (v := 4) (p' := 64) hC (dAt dd_X11_change 37 rfl) (by decide) rfl ?_
        refine x_icmp_ge (tgt := 118) (p' := 67) hC (dAt dd_X11_change 38 rfl) (by decide) rfl ?_ ?_
        · refine x_aload_n (p' := 119) hC 1 (dAt dd_X11_change 67 rfl) rfl rfl rfl ?_
          refine x_callVV (As := []) (z := fun b => f_X11_findGroups h10 b) (p' := 122) hC (fun b => c_X11_findGroups _ _ _ h10 b) k_1036 k_1038 (k_sl 48 rfl) k_9 k_1039 hd_X11_findGroups ⟨by decide, by decide⟩ (ci := 10) rfl rfl (by decide) rfl (Nat.le_of_ble_eq_true rfl) rfl (dAt dd_X11_change 68 rfl) rfl (fun u11 h12 => ?_)
          refine x_iconst (v := 0) (p' := 123) hC (dAt dd_X11_change 69 rfl) (by decide) rfl ?_
          refine x_istore (lv' := [(6, .int 0), (5, .int ((3 * p1) + p2)), (0, va_rf (some a0)), (1, .int p1), (2, .int p2), (3, .int p3), (4, .int p4)]) (p' := 125) hC (dAt dd_X11_change 70 rfl) (by decide) rfl rfl ?_
          refine x_sub [2, 5, 1, 0] rfl ?_
          exact t_X11_change_L125 hC FU a0 p3 ((3 * p1) + p2) 0 h12
        · refine x_iload (p' := 69) hC 5 (dAt dd_X11_change 39 rfl) rfl rfl ?_
          refine x_if_ne (tgt := 81) (p' := 72) hC (dAt dd_X11_change 40 rfl) (by decide) rfl ?_ ?_
          · refine x_iload (p' := 83) hC 5 (dAt dd_X11_change 46 rfl) rfl rfl ?_
            refine x_iconst (v := 1) (p' := 84) hC (dAt dd_X11_change 47 rfl) (by decide) rfl ?_
            refine x_icmp_ne (tgt := 96) (p' := 87) hC (dAt dd_X11_change 48 rfl) (by decide) rfl ?_ ?_
            · refine x_iload (p' := 98) hC 5 (dAt dd_X11_change 54 rfl) rfl rfl ?_
              refine x_iconst (v := 2) (p' := 99) hC (dAt dd_X11_change 55 rfl) (by decide) rfl ?_
              refine x_icmp_ne (tgt := 111) (p' := 102) hC (dAt dd_X11_change 56 rfl) (by decide) rfl ?_ ?_
              · refine x_aload_n (p' := 112) hC 1 (dAt dd_X11_change 62 rfl) rfl rfl rfl ?_
                refine x_getR (p' := 115) hC fk_RX11_77 rfl (dAt dd_X11_change 63 rfl) rfl (fun r19 => ?_)
                refine x_iload_n (p' := 116) hC 4 (dAt dd_X11_change 64 rfl) rfl rfl rfl ?_
                refine x_iaload (p' := 117) hC (dAt dd_X11_change 65 rfl) rfl (fun v20 => ?_)
                exact x_ireturn hC (dAt dd_X11_change 66 rfl)
              · refine x_aload_n (p' := 103) hC 1 (dAt dd_X11_change 57 rfl) rfl rfl rfl ?_
                refine x_getR (p' := 106) hC fk_RX11_74 rfl (dAt dd_X11_change 58 rfl) rfl (fun r21 => ?_)
                refine x_iload_n (p' := 107) hC 4 (dAt dd_X11_change 59 rfl) rfl rfl rfl ?_
                refine x_iaload (p' := 108) hC (dAt dd_X11_change 60 rfl) rfl (fun v22 => ?_)
                refine x_goto (tgt := 117) hC (dAt dd_X11_change 61 rfl) (by decide) ?_
                exact x_ireturn hC (dAt dd_X11_change 66 rfl)
            · refine x_aload_n (p' := 88) hC 1 (dAt dd_X11_change 49 rfl) rfl rfl rfl ?_
              refine x_getR (p' := 91) hC fk_RX11_71 rfl (dAt dd_X11_change 50 rfl) rfl (fun r23 => ?_)
              refine x_iload_n (p' := 92) hC 4 (dAt dd_X11_change 51 rfl) rfl rfl rfl ?_
              refine x_iaload (p' := 93) hC (dAt dd_X11_change 52 rfl) rfl (fun v24 => ?_)
              refine x_goto (tgt := 117) hC (dAt dd_X11_change 53 rfl) (by decide) ?_
              exact x_ireturn hC (dAt dd_X11_change 66 rfl)
          · refine x_aload_n (p' := 73) hC 1 (dAt dd_X11_change 41 rfl) rfl rfl rfl ?_
            refine x_getR (p' := 76) hC fk_RX11_68 rfl (dAt dd_X11_change 42 rfl) rfl (fun r25 => ?_)
            refine x_iload_n (p' := 77) hC 4 (dAt dd_X11_change 43 rfl) rfl rfl rfl ?_
            refine x_iaload (p' := 78) hC (dAt dd_X11_change 44 rfl) rfl (fun v26 => ?_)
            refine x_goto (tgt := 117) hC (dAt dd_X11_change 45 rfl) (by decide) ?_
            exact x_ireturn hC (dAt dd_X11_change 66 rfl)
      · refine x_ldc (v := (-1000000)) (p' := 60) hC (dAt dd_X11_change 34 rfl) k_961 rfl ?_
        exact x_ireturn hC (dAt dd_X11_change 35 rfl)
    · refine x_ldc (v := (-1000001)) (p' := 28) hC (dAt dd_X11_change 13 rfl) k_918 rfl ?_
      exact x_ireturn hC (dAt dd_X11_change 14 rfl)
set_option maxHeartbeats 4000000 in
set_option maxRecDepth 100000 in
theorem c_X11_groups (l : Launch) (D : va_G) (cy : Nat → ClassId) (h : AH) (a0 : Nat) : MX rvI l yX11_groups (Cond.code yX11_groups cX11_groups 1 (some .int) :: LW) 4 98 D cy h [va_rf (some a0)] (f_X11_groups h a0) := by
  refine MX.of (lv := [(0, va_rf (some a0))]) (by decide) (Nat.le_of_ble_eq_true rfl) rfl (fun C hC _ => ?_)
  unfold f_X11_groups
  refine x_aload_n (p' := 1) hC 0 (dAt dd_X11_groups 0 rfl) rfl rfl rfl ?_
  refine x_iconst (v := 0) (p' := 2) hC (dAt dd_X11_groups 1 rfl) (by decide) rfl ?_
  refine x_putI (p' := 5) hC fk_RX11_1 tk_RX11 rfl rfl (Or.inl rfl) (dAt dd_X11_groups 2 rfl) rfl (fun h1 => ?_)
  refine x_aload_n (p' := 6) hC 0 (dAt dd_X11_groups 3 rfl) rfl rfl rfl ?_
  refine x_callVV (As := []) (z := fun b => f_X11_findGroups h1 b) (p' := 9) hC (fun b => c_X11_findGroups _ _ _ h1 b) k_1036 k_1038 (k_sl 48 rfl) k_9 k_1039 hd_X11_findGroups ⟨by decide, by decide⟩ (ci := 10) rfl rfl (by decide) rfl (Nat.le_of_ble_eq_true rfl) rfl (dAt dd_X11_groups 4 rfl) rfl (fun u2 h3 => ?_)
  refine x_aload_n (p' := 10) hC 0 (dAt dd_X11_groups 5 rfl) rfl rfl rfl ?_
  refine x_getI (p' := 13) hC fk_RX11_226 rfl (dAt dd_X11_groups 6 rfl) rfl (fun v4 => ?_)
  exact x_ireturn hC (dAt dd_X11_groups 7 rfl)
set_option maxHeartbeats 4000000 in
set_option maxRecDepth 100000 in
theorem t_X11_group_L57 {C : CT} (hC : OKC C yX11_group cX11_group 6 (some .int) 4 98)   : ∀ (n : Nat) (x0 : Nat) (x1 : Int32) (x4 : Int32) (x5 : Int32) (h : AH), WX rvI C 57 [(0, va_rf (some x0)), (1, .int x1), (4, .int x4), (5, .int x5)] [] h (f_X11_group_L57 n x0 x1 x4 x5 h) := by
  intro n
  induction n with
  | zero => intro _ _ _ _ _; exact x_none
  | succ n ih =>
    intro x0 x1 x4 x5 h
    rw [f_X11_group_L57]
    refine x_iload (p' := 59) hC 3 (dAt dd_X11_group 34 rfl) rfl rfl ?_
    refine x_aload_n (p' := 60) hC 0 (dAt dd_X11_group 35 rfl) rfl rfl rfl ?_
    refine x_getI (p' := 63) hC fk_RX11_223 rfl (dAt dd_X11_group 36 rfl) rfl (fun v21 => ?_)
    refine x_icmp_ge (tgt := 93) (p' := 66) hC (dAt dd_X11_group 37 rfl) (by decide) rfl ?_ ?_
    · refine x_iload (p' := 95) hC 2 (dAt dd_X11_group 52 rfl) rfl rfl ?_
      exact x_ireturn hC (dAt dd_X11_group 53 rfl)
    · refine x_iload (p' := 68) hC 2 (dAt dd_X11_group 38 rfl) rfl rfl ?_
      refine x_aload_n (p' := 69) hC 0 (dAt dd_X11_group 39 rfl) rfl rfl rfl ?_
      refine x_getR (p' := 72) hC fk_RX11_95 rfl (dAt dd_X11_group 40 rfl) rfl (fun r22 => ?_)
      refine x_iload (p' := 74) hC 3 (dAt dd_X11_group 41 rfl) rfl rfl ?_
      refine x_iaload (p' := 75) hC (dAt dd_X11_group 42 rfl) rfl (fun v23 => ?_)
      refine x_iload_n (p' := 76) hC 1 (dAt dd_X11_group 43 rfl) rfl rfl rfl ?_
      refine x_icmp_ne (tgt := 83) (p' := 79) hC (dAt dd_X11_group 44 rfl) (by decide) rfl ?_ ?_
      · refine x_iconst (v := 0) (p' := 84) hC (dAt dd_X11_group 47 rfl) (by decide) rfl ?_
        refine x_iadd (p' := 85) hC (dAt dd_X11_group 48 rfl) rfl ?_
        refine x_istore (lv' := [(4, .int (x4 + 0)), (0, va_rf (some x0)), (1, .int x1), (5, .int x5)]) (p' := 87) hC (dAt dd_X11_group 49 rfl) (by decide) rfl rfl ?_
        refine x_iinc (w := (x5 + 1)) (lv' := [(5, .int (x5 + 1)), (4, .int (x4 + 0)), (0, va_rf (some x0)), (1, .int x1)]) (p' := 90) hC 3 (dAt dd_X11_group 50 rfl) rfl rfl (by decide) rfl rfl ?_
        refine x_goto (tgt := 57) hC (dAt dd_X11_group 51 rfl) (by decide) ?_
        refine x_sub [2, 3, 1, 0] rfl ?_
        exact ih x0 x1 (x4 + 0) (x5 + 1) h
      · refine x_iconst (v := 1) (p' := 80) hC (dAt dd_X11_group 45 rfl) (by decide) rfl ?_
        refine x_goto (tgt := 84) hC (dAt dd_X11_group 46 rfl) (by decide) ?_
        refine x_iadd (p' := 85) hC (dAt dd_X11_group 48 rfl) rfl ?_
        refine x_istore (lv' := [(4, .int (x4 + 1)), (0, va_rf (some x0)), (1, .int x1), (5, .int x5)]) (p' := 87) hC (dAt dd_X11_group 49 rfl) (by decide) rfl rfl ?_
        refine x_iinc (w := (x5 + 1)) (lv' := [(5, .int (x5 + 1)), (4, .int (x4 + 1)), (0, va_rf (some x0)), (1, .int x1)]) (p' := 90) hC 3 (dAt dd_X11_group 50 rfl) rfl rfl (by decide) rfl rfl ?_
        refine x_goto (tgt := 57) hC (dAt dd_X11_group 51 rfl) (by decide) ?_
        refine x_sub [2, 3, 1, 0] rfl ?_
        exact ih x0 x1 (x4 + 1) (x5 + 1) h
set_option maxHeartbeats 4000000 in
set_option maxRecDepth 100000 in
theorem c_X11_group (l : Launch) (D : va_G) (cy : Nat → ClassId) (h : AH) (a0 : Nat) (p1 : Int32) (p2 : Int32) : MX rvI l yX11_group (Cond.code yX11_group cX11_group 6 (some .int) :: LW) 4 98 D cy h [va_rf (some a0), .int p1, .int p2] (f_X11_group h a0 p1 p2) := by
  refine MX.of (lv := [(0, va_rf (some a0)), (1, .int p1), (2, .int p2)]) (by decide) (Nat.le_of_ble_eq_true rfl) rfl (fun C hC _ => ?_)
  unfold f_X11_group
  refine x_aload_n (p' := 1) hC 0 (dAt dd_X11_group 0 rfl) rfl rfl rfl ?_
  refine x_iconst (v := 0) (p' := 2) hC (dAt dd_X11_group 1 rfl) (by decide) rfl ?_
  refine x_putI (p' := 5) hC fk_RX11_1 tk_RX11 rfl rfl (Or.inl rfl) (dAt dd_X11_group 2 rfl) rfl (fun h1 => ?_)
  refine x_aload_n (p' := 6) hC 0 (dAt dd_X11_group 3 rfl) rfl rfl rfl ?_
  refine x_callVV (As := []) (z := fun b => f_X11_findGroups h1 b) (p' := 9) hC (fun b => c_X11_findGroups _ _ _ h1 b) k_1036 k_1038 (k_sl 48 rfl) k_9 k_1039 hd_X11_findGroups ⟨by decide, by decide⟩ (ci := 10) rfl rfl (by decide) rfl (Nat.le_of_ble_eq_true rfl) rfl (dAt dd_X11_group 4 rfl) rfl (fun u2 h3 => ?_)
  refine x_iload_n (p' := 10) hC 1 (dAt dd_X11_group 5 rfl) rfl rfl rfl ?_
  refine x_i2l (p' := 11) hC (dAt dd_X11_group 6 rfl) rfl ?_
  refine x_lconst (v := 0) (p' := 12) hC (dAt dd_X11_group 7 rfl) (by decide) rfl ?_
  refine x_aload_n (p' := 13) hC 0 (dAt dd_X11_group 8 rfl) rfl rfl rfl ?_
  refine x_getI (p' := 16) hC fk_RX11_226 rfl (dAt dd_X11_group 9 rfl) rfl (fun v4 => ?_)
  refine x_iconst (v := 1) (p' := 17) hC (dAt dd_X11_group 10 rfl) (by decide) rfl ?_
  refine x_isub (p' := 18) hC (dAt dd_X11_group 11 rfl) rfl ?_
  refine x_i2l (p' := 19) hC (dAt dd_X11_group 12 rfl) rfl ?_
  refine x_callSI (As := [.long (Int32.toInt64 p1), .long 0, .long (Int32.toInt64 (v4 - 1))]) (p' := 22) hC (c_X11_in _ _ _ h3 (Int32.toInt64 p1) 0 (Int32.toInt64 (v4 - 1))) k_914 k_915 k_9 k_916 hd_X11_in ⟨by decide, by decide⟩ rfl (Nat.le_of_ble_eq_true rfl) rfl (dAt dd_X11_group 13 rfl) rfl (fun v5 h6 => ?_)
  refine x_if_eq (tgt := 37) (p' := 25) hC (dAt dd_X11_group 14 rfl) (by decide) rfl ?_ ?_
  · refine x_ldc (v := (-1000001)) (p' := 39) hC (dAt dd_X11_group 21 rfl) k_918 rfl ?_
    exact x_ireturn hC (dAt dd_X11_group 22 rfl)
  · refine x_iload_n (p' := 26) hC 2 (dAt dd_X11_group 15 rfl) rfl rfl rfl ?_
    refine x_i2l (p' := 27) hC (dAt dd_X11_group 16 rfl) rfl ?_
    refine x_lconst (v := 0) (p' := 28) hC (dAt dd_X11_group 17 rfl) (by decide) rfl ?_
    refine x_ldc2_w (v := 5) (p' := 31) hC (dAt dd_X11_group 18 rfl) k_1052 rfl ?_
    refine x_callSI (As := [.long (Int32.toInt64 p2), .long 0, .long 5]) (p' := 34) hC (c_X11_in _ _ _ h6 (Int32.toInt64 p2) 0 5) k_914 k_915 k_9 k_916 hd_X11_in ⟨by decide, by decide⟩ rfl (Nat.le_of_ble_eq_true rfl) rfl (dAt dd_X11_group 19 rfl) rfl (fun v7 h8 => ?_)
    refine x_if_ne (tgt := 40) (p' := 37) hC (dAt dd_X11_group 20 rfl) (by decide) rfl ?_ ?_
    · refine x_aload_n (p' := 41) hC 0 (dAt dd_X11_group 23 rfl) rfl rfl rfl ?_
      refine x_getR (p' := 44) hC fk_RX11_101 rfl (dAt dd_X11_group 24 rfl) rfl (fun r9 => ?_)
      refine x_iload_n (p' := 45) hC 1 (dAt dd_X11_group 25 rfl) rfl rfl rfl ?_
      refine x_iaload (p' := 46) hC (dAt dd_X11_group 26 rfl) rfl (fun v10 => ?_)
      refine x_istore_n (j := 3) (lv' := [(3, .int v10), (0, va_rf (some a0)), (1, .int p1), (2, .int p2)]) (p' := 47) hC (dAt dd_X11_group 27 rfl) rfl (by decide) rfl rfl ?_
      refine x_iload_n (p' := 48) hC 3 (dAt dd_X11_group 28 rfl) rfl rfl rfl ?_
      refine x_if_ne (tgt := 96) (p' := 51) hC (dAt dd_X11_group 29 rfl) (by decide) rfl ?_ ?_
      · refine x_iload_n (p' := 97) hC 3 (dAt dd_X11_group 54 rfl) rfl rfl rfl ?_
        refine x_iconst (v := 1) (p' := 98) hC (dAt dd_X11_group 55 rfl) (by decide) rfl ?_
        refine x_icmp_ne (tgt := 110) (p' := 101) hC (dAt dd_X11_group 56 rfl) (by decide) rfl ?_ ?_
        · refine x_iload_n (p' := 111) hC 3 (dAt dd_X11_group 62 rfl) rfl rfl rfl ?_
          refine x_iconst (v := 2) (p' := 112) hC (dAt dd_X11_group 63 rfl) (by decide) rfl ?_
          refine x_icmp_ne (tgt := 124) (p' := 115) hC (dAt dd_X11_group 64 rfl) (by decide) rfl ?_ ?_
          · refine x_iload_n (p' := 125) hC 3 (dAt dd_X11_group 70 rfl) rfl rfl rfl ?_
            refine x_iconst (v := 3) (p' := 126) hC (dAt dd_X11_group 71 rfl) (by decide) rfl ?_
            refine x_icmp_ne (tgt := 140) (p' := 129) hC (dAt dd_X11_group 72 rfl) (by decide) rfl ?_ ?_
            · refine x_iload_n (p' := 141) hC 3 (dAt dd_X11_group 80 rfl) rfl rfl rfl ?_
              refine x_iconst (v := 4) (p' := 142) hC (dAt dd_X11_group 81 rfl) (by decide) rfl ?_
              refine x_icmp_ne (tgt := 156) (p' := 145) hC (dAt dd_X11_group 82 rfl) (by decide) rfl ?_ ?_
              · refine x_aload_n (p' := 157) hC 1 (dAt dd_X11_group 90 rfl) rfl rfl rfl ?_
                refine x_getR (p' := 160) hC fk_RX11_83 rfl (dAt dd_X11_group 91 rfl) rfl (fun r11 => ?_)
                refine x_iload_n (p' := 161) hC 0 (dAt dd_X11_group 92 rfl) rfl rfl rfl ?_
                refine x_iaload (p' := 162) hC (dAt dd_X11_group 93 rfl) rfl (fun v12 => ?_)
                exact x_ireturn hC (dAt dd_X11_group 94 rfl)
              · refine x_aload_n (p' := 146) hC 1 (dAt dd_X11_group 83 rfl) rfl rfl rfl ?_
                refine x_getR (p' := 149) hC fk_RX11_80 rfl (dAt dd_X11_group 84 rfl) rfl (fun r13 => ?_)
                refine x_iload_n (p' := 150) hC 0 (dAt dd_X11_group 85 rfl) rfl rfl rfl ?_
                refine x_iaload (p' := 151) hC (dAt dd_X11_group 86 rfl) rfl (fun v14 => ?_)
                refine x_iconst (v := 3) (p' := 152) hC (dAt dd_X11_group 87 rfl) (by decide) rfl ?_
                refine x_irem (p' := 153) hC (dAt dd_X11_group 88 rfl) rfl ?_
                refine x_goto (tgt := 162) hC (dAt dd_X11_group 89 rfl) (by decide) ?_
                exact x_ireturn hC (dAt dd_X11_group 94 rfl)
            · refine x_aload_n (p' := 130) hC 1 (dAt dd_X11_group 73 rfl) rfl rfl rfl ?_
              refine x_getR (p' := 133) hC fk_RX11_80 rfl (dAt dd_X11_group 74 rfl) rfl (fun r15 => ?_)
              refine x_iload_n (p' := 134) hC 0 (dAt dd_X11_group 75 rfl) rfl rfl rfl ?_
              refine x_iaload (p' := 135) hC (dAt dd_X11_group 76 rfl) rfl (fun v16 => ?_)
              refine x_iconst (v := 3) (p' := 136) hC (dAt dd_X11_group 77 rfl) (by decide) rfl ?_
              refine x_idiv (p' := 137) hC (dAt dd_X11_group 78 rfl) rfl ?_
              refine x_goto (tgt := 162) hC (dAt dd_X11_group 79 rfl) (by decide) ?_
              exact x_ireturn hC (dAt dd_X11_group 94 rfl)
          · refine x_aload_n (p' := 116) hC 1 (dAt dd_X11_group 65 rfl) rfl rfl rfl ?_
            refine x_getR (p' := 119) hC fk_RX11_89 rfl (dAt dd_X11_group 66 rfl) rfl (fun r17 => ?_)
            refine x_iload_n (p' := 120) hC 0 (dAt dd_X11_group 67 rfl) rfl rfl rfl ?_
            refine x_iaload (p' := 121) hC (dAt dd_X11_group 68 rfl) rfl (fun v18 => ?_)
            refine x_goto (tgt := 162) hC (dAt dd_X11_group 69 rfl) (by decide) ?_
            exact x_ireturn hC (dAt dd_X11_group 94 rfl)
        · refine x_aload_n (p' := 102) hC 1 (dAt dd_X11_group 57 rfl) rfl rfl rfl ?_
          refine x_getR (p' := 105) hC fk_RX11_86 rfl (dAt dd_X11_group 58 rfl) rfl (fun r19 => ?_)
          refine x_iload_n (p' := 106) hC 0 (dAt dd_X11_group 59 rfl) rfl rfl rfl ?_
          refine x_iaload (p' := 107) hC (dAt dd_X11_group 60 rfl) rfl (fun v20 => ?_)
          refine x_goto (tgt := 162) hC (dAt dd_X11_group 61 rfl) (by decide) ?_
          exact x_ireturn hC (dAt dd_X11_group 94 rfl)
      · refine x_iconst (v := 0) (p' := 52) hC (dAt dd_X11_group 30 rfl) (by decide) rfl ?_
        refine x_istore (lv' := [(4, .int 0), (3, .int v10), (0, va_rf (some a0)), (1, .int p1), (2, .int p2)]) (p' := 54) hC (dAt dd_X11_group 31 rfl) (by decide) rfl rfl ?_
        refine x_iconst (v := 0) (p' := 55) hC (dAt dd_X11_group 32 rfl) (by decide) rfl ?_
        refine x_istore (lv' := [(5, .int 0), (4, .int 0), (3, .int v10), (0, va_rf (some a0)), (1, .int p1), (2, .int p2)]) (p' := 57) hC (dAt dd_X11_group 33 rfl) (by decide) rfl rfl ?_
        refine x_sub [3, 4, 1, 0] rfl ?_
        exact t_X11_group_L57 hC FU a0 p1 0 0 h8
    · refine x_ldc (v := (-1000001)) (p' := 39) hC (dAt dd_X11_group 21 rfl) k_918 rfl ?_
      exact x_ireturn hC (dAt dd_X11_group 22 rfl)
set_option maxHeartbeats 4000000 in
set_option maxRecDepth 100000 in
theorem t_X11_shape_J70 {C : CT} (hC : OKC C yX11_shape cX11_shape 5 (some .int) 4 98)   : ∀ (x0 : Nat) (x2 : Int32) (x3 : Int32) (x4 : Int32) (s0 : Int32) (s1 : Int64) (s2 : Int64) (h : AH), WX rvI C 70 [(0, va_rf (some x0)), (2, .int x2), (3, .int x3), (4, .int x4)] [.int s0, .long s1, .long s2] h (f_X11_shape_J70 x0 x2 x3 x4 s0 s1 s2 h) := by
  intro x0 x2 x3 x4 s0 s1 s2 h
  unfold f_X11_shape_J70
  refine x_iconst (v := 1) (p' := 71) hC (dAt dd_X11_shape 42 rfl) (by decide) rfl ?_
  refine x_isub (p' := 72) hC (dAt dd_X11_shape 43 rfl) rfl ?_
  refine x_i2l (p' := 73) hC (dAt dd_X11_shape 44 rfl) rfl ?_
  refine x_callSI (As := [.long s2, .long s1, .long (Int32.toInt64 (s0 - 1))]) (p' := 76) hC (c_X11_in _ _ _ h s2 s1 (Int32.toInt64 (s0 - 1))) k_914 k_915 k_9 k_916 hd_X11_in ⟨by decide, by decide⟩ rfl (Nat.le_of_ble_eq_true rfl) rfl (dAt dd_X11_shape 45 rfl) rfl (fun v13 h14 => ?_)
  refine x_if_ne (tgt := 84) (p' := 79) hC (dAt dd_X11_shape 46 rfl) (by decide) rfl ?_ ?_
  · refine x_aload_n (p' := 85) hC 0 (dAt dd_X11_shape 49 rfl) rfl rfl rfl ?_
    refine x_getR (p' := 88) hC fk_RX11_98 rfl (dAt dd_X11_shape 50 rfl) rfl (fun r15 => ?_)
    refine x_aload_n (p' := 89) hC 0 (dAt dd_X11_shape 51 rfl) rfl rfl rfl ?_
    refine x_getR (p' := 92) hC fk_RX11_92 rfl (dAt dd_X11_shape 52 rfl) rfl (fun r16 => ?_)
    refine x_iload (p' := 94) hC 3 (dAt dd_X11_shape 53 rfl) rfl rfl ?_
    refine x_iaload (p' := 95) hC (dAt dd_X11_shape 54 rfl) rfl (fun v17 => ?_)
    refine x_iload_n (p' := 96) hC 1 (dAt dd_X11_shape 55 rfl) rfl rfl rfl ?_
    refine x_if_ne (tgt := 103) (p' := 99) hC (dAt dd_X11_shape 56 rfl) (by decide) rfl ?_ ?_
    · refine x_aload_n (p' := 104) hC 0 (dAt dd_X11_shape 59 rfl) rfl rfl rfl ?_
      refine x_getR (p' := 107) hC fk_RX11_86 rfl (dAt dd_X11_shape 60 rfl) rfl (fun r18 => ?_)
      refine x_iload (p' := 109) hC 3 (dAt dd_X11_shape 61 rfl) rfl rfl ?_
      refine x_iaload (p' := 110) hC (dAt dd_X11_shape 62 rfl) rfl (fun v19 => ?_)
      refine x_iload_n (p' := 111) hC 2 (dAt dd_X11_shape 63 rfl) rfl rfl rfl ?_
      refine x_iadd (p' := 112) hC (dAt dd_X11_shape 64 rfl) rfl ?_
      refine x_iadd (p' := 113) hC (dAt dd_X11_shape 65 rfl) rfl ?_
      refine x_iaload (p' := 114) hC (dAt dd_X11_shape 66 rfl) rfl (fun v20 => ?_)
      exact x_ireturn hC (dAt dd_X11_shape 67 rfl)
    · refine x_iload_n (p' := 100) hC 2 (dAt dd_X11_shape 57 rfl) rfl rfl rfl ?_
      refine x_goto (tgt := 112) hC (dAt dd_X11_shape 58 rfl) (by decide) ?_
      refine x_iadd (p' := 113) hC (dAt dd_X11_shape 65 rfl) rfl ?_
      refine x_iaload (p' := 114) hC (dAt dd_X11_shape 66 rfl) rfl (fun v21 => ?_)
      exact x_ireturn hC (dAt dd_X11_shape 67 rfl)
  · refine x_ldc (v := (-1000000)) (p' := 81) hC (dAt dd_X11_shape 47 rfl) k_961 rfl ?_
    refine x_goto (tgt := 114) hC (dAt dd_X11_shape 48 rfl) (by decide) ?_
    exact x_ireturn hC (dAt dd_X11_shape 67 rfl)
set_option maxHeartbeats 4000000 in
set_option maxRecDepth 100000 in
theorem c_X11_shape (l : Launch) (D : va_G) (cy : Nat → ClassId) (h : AH) (a0 : Nat) (p1 : Int32) (p2 : Int32) (p3 : Int32) : MX rvI l yX11_shape (Cond.code yX11_shape cX11_shape 5 (some .int) :: LW) 4 98 D cy h [va_rf (some a0), .int p1, .int p2, .int p3] (f_X11_shape h a0 p1 p2 p3) := by
  refine MX.of (lv := [(0, va_rf (some a0)), (1, .int p1), (2, .int p2), (3, .int p3)]) (by decide) (Nat.le_of_ble_eq_true rfl) rfl (fun C hC _ => ?_)
  unfold f_X11_shape
  refine x_aload_n (p' := 1) hC 0 (dAt dd_X11_shape 0 rfl) rfl rfl rfl ?_
  refine x_iconst (v := 0) (p' := 2) hC (dAt dd_X11_shape 1 rfl) (by decide) rfl ?_
  refine x_putI (p' := 5) hC fk_RX11_1 tk_RX11 rfl rfl (Or.inl rfl) (dAt dd_X11_shape 2 rfl) rfl (fun h1 => ?_)
  refine x_aload_n (p' := 6) hC 0 (dAt dd_X11_shape 3 rfl) rfl rfl rfl ?_
  refine x_callVV (As := []) (z := fun b => f_X11_findGroups h1 b) (p' := 9) hC (fun b => c_X11_findGroups _ _ _ h1 b) k_1036 k_1038 (k_sl 48 rfl) k_9 k_1039 hd_X11_findGroups ⟨by decide, by decide⟩ (ci := 10) rfl rfl (by decide) rfl (Nat.le_of_ble_eq_true rfl) rfl (dAt dd_X11_shape 4 rfl) rfl (fun u2 h3 => ?_)
  refine x_iload_n (p' := 10) hC 1 (dAt dd_X11_shape 5 rfl) rfl rfl rfl ?_
  refine x_i2l (p' := 11) hC (dAt dd_X11_shape 6 rfl) rfl ?_
  refine x_lconst (v := 0) (p' := 12) hC (dAt dd_X11_shape 7 rfl) (by decide) rfl ?_
  refine x_aload_n (p' := 13) hC 0 (dAt dd_X11_shape 8 rfl) rfl rfl rfl ?_
  refine x_getI (p' := 16) hC fk_RX11_226 rfl (dAt dd_X11_shape 9 rfl) rfl (fun v4 => ?_)
  refine x_iconst (v := 1) (p' := 17) hC (dAt dd_X11_shape 10 rfl) (by decide) rfl ?_
  refine x_isub (p' := 18) hC (dAt dd_X11_shape 11 rfl) rfl ?_
  refine x_i2l (p' := 19) hC (dAt dd_X11_shape 12 rfl) rfl ?_
  refine x_callSI (As := [.long (Int32.toInt64 p1), .long 0, .long (Int32.toInt64 (v4 - 1))]) (p' := 22) hC (c_X11_in _ _ _ h3 (Int32.toInt64 p1) 0 (Int32.toInt64 (v4 - 1))) k_914 k_915 k_9 k_916 hd_X11_in ⟨by decide, by decide⟩ rfl (Nat.le_of_ble_eq_true rfl) rfl (dAt dd_X11_shape 13 rfl) rfl (fun v5 h6 => ?_)
  refine x_if_eq (tgt := 35) (p' := 25) hC (dAt dd_X11_shape 14 rfl) (by decide) rfl ?_ ?_
  · refine x_ldc (v := (-1000001)) (p' := 37) hC (dAt dd_X11_shape 21 rfl) k_918 rfl ?_
    exact x_ireturn hC (dAt dd_X11_shape 22 rfl)
  · refine x_iload_n (p' := 26) hC 2 (dAt dd_X11_shape 15 rfl) rfl rfl rfl ?_
    refine x_i2l (p' := 27) hC (dAt dd_X11_shape 16 rfl) rfl ?_
    refine x_lconst (v := 0) (p' := 28) hC (dAt dd_X11_shape 17 rfl) (by decide) rfl ?_
    refine x_lconst (v := 1) (p' := 29) hC (dAt dd_X11_shape 18 rfl) (by decide) rfl ?_
    refine x_callSI (As := [.long (Int32.toInt64 p2), .long 0, .long 1]) (p' := 32) hC (c_X11_in _ _ _ h6 (Int32.toInt64 p2) 0 1) k_914 k_915 k_9 k_916 hd_X11_in ⟨by decide, by decide⟩ rfl (Nat.le_of_ble_eq_true rfl) rfl (dAt dd_X11_shape 19 rfl) rfl (fun v7 h8 => ?_)
    refine x_if_ne (tgt := 38) (p' := 35) hC (dAt dd_X11_shape 20 rfl) (by decide) rfl ?_ ?_
    · refine x_aload_n (p' := 39) hC 0 (dAt dd_X11_shape 23 rfl) rfl rfl rfl ?_
      refine x_getR (p' := 42) hC fk_RX11_101 rfl (dAt dd_X11_shape 24 rfl) rfl (fun r9 => ?_)
      refine x_iload_n (p' := 43) hC 1 (dAt dd_X11_shape 25 rfl) rfl rfl rfl ?_
      refine x_iaload (p' := 44) hC (dAt dd_X11_shape 26 rfl) rfl (fun v10 => ?_)
      refine x_istore (lv' := [(4, .int v10), (0, va_rf (some a0)), (1, .int p1), (2, .int p2), (3, .int p3)]) (p' := 46) hC (dAt dd_X11_shape 27 rfl) (by decide) rfl rfl ?_
      refine x_iload_n (p' := 47) hC 4 (dAt dd_X11_shape 28 rfl) rfl rfl rfl ?_
      refine x_i2l (p' := 48) hC (dAt dd_X11_shape 29 rfl) rfl ?_
      refine x_lconst (v := 0) (p' := 49) hC (dAt dd_X11_shape 30 rfl) (by decide) rfl ?_
      refine x_iload_n (p' := 50) hC 3 (dAt dd_X11_shape 31 rfl) rfl rfl rfl ?_
      refine x_if_ne (tgt := 63) (p' := 53) hC (dAt dd_X11_shape 32 rfl) (by decide) rfl ?_ ?_
      · refine x_aload_n (p' := 64) hC 1 (dAt dd_X11_shape 38 rfl) rfl rfl rfl ?_
        refine x_getR (p' := 67) hC fk_RX11_89 rfl (dAt dd_X11_shape 39 rfl) rfl (fun r11 => ?_)
        refine x_iload (p' := 69) hC 0 (dAt dd_X11_shape 40 rfl) rfl rfl ?_
        refine x_iaload (p' := 70) hC (dAt dd_X11_shape 41 rfl) rfl (fun v12 => ?_)
        refine x_sub [1, 3, 4, 0] rfl ?_
        exact t_X11_shape_J70 hC a0 p2 p3 v10 v12 0 (Int32.toInt64 p3) h8
      · refine x_aload_n (p' := 54) hC 1 (dAt dd_X11_shape 33 rfl) rfl rfl rfl ?_
        refine x_getR (p' := 57) hC fk_RX11_86 rfl (dAt dd_X11_shape 34 rfl) rfl (fun r22 => ?_)
        refine x_iload (p' := 59) hC 0 (dAt dd_X11_shape 35 rfl) rfl rfl ?_
        refine x_iaload (p' := 60) hC (dAt dd_X11_shape 36 rfl) rfl (fun v23 => ?_)
        refine x_goto (tgt := 70) hC (dAt dd_X11_shape 37 rfl) (by decide) ?_
        refine x_sub [1, 3, 4, 0] rfl ?_
        exact t_X11_shape_J70 hC a0 p2 p3 v10 v23 0 (Int32.toInt64 p3) h8
    · refine x_ldc (v := (-1000001)) (p' := 37) hC (dAt dd_X11_shape 21 rfl) k_918 rfl ?_
      exact x_ireturn hC (dAt dd_X11_shape 22 rfl)
set_option maxHeartbeats 4000000 in
set_option maxRecDepth 100000 in
theorem t_X11_isSeen_J68 {C : CT} (hC : OKC C yX11_isSeen cX11_isSeen 7 (some .boolean) 0 0) (k24 : Nat → Int32 → Int32 → Int32 → Int32 → Int32 → AH → RX Int32) (hk24 : ∀ (x0 : Nat) (x1 : Int32) (x2 : Int32) (x4 : Int32) (x5 : Int32) (x6 : Int32) (h : AH), WX rvI C 24 [(0, va_rf (some x0)), (1, .int x1), (2, .int x2), (4, .int x4), (5, .int x5), (6, .int x6)] [] h (k24 x0 x1 x2 x4 x5 x6 h)) : ∀ (x0 : Nat) (x1 : Int32) (x2 : Int32) (x4 : Int32) (x6 : Int32) (h : AH), WX rvI C 68 [(0, va_rf (some x0)), (1, .int x1), (2, .int x2), (4, .int x4), (6, .int x6)] [] h (f_X11_isSeen_J68 k24 x0 x1 x2 x4 x6 h) := by
  intro x0 x1 x2 x4 x6 h
  unfold f_X11_isSeen_J68
  refine x_iconst (v := 1) (p' := 69) hC (dAt dd_X11_isSeen 42 rfl) (by decide) rfl ?_
  refine x_goto (tgt := 73) hC (dAt dd_X11_isSeen 43 rfl) (by decide) ?_
  refine x_istore (lv' := [(5, .int 1), (0, va_rf (some x0)), (1, .int x1), (2, .int x2), (4, .int x4), (6, .int x6)]) (p' := 75) hC (dAt dd_X11_isSeen 45 rfl) (by decide) rfl rfl ?_
  refine x_iinc (w := (x6 + 1)) (lv' := [(6, .int (x6 + 1)), (5, .int 1), (0, va_rf (some x0)), (1, .int x1), (2, .int x2), (4, .int x4)]) (p' := 78) hC 5 (dAt dd_X11_isSeen 46 rfl) rfl rfl (by decide) rfl rfl ?_
  refine x_goto (tgt := 24) hC (dAt dd_X11_isSeen 47 rfl) (by decide) ?_
  refine x_sub [2, 3, 4, 5, 1, 0] rfl ?_
  exact hk24 x0 x1 x2 x4 1 (x6 + 1) h
set_option maxHeartbeats 4000000 in
set_option maxRecDepth 100000 in
theorem t_X11_isSeen_L24 {C : CT} (hC : OKC C yX11_isSeen cX11_isSeen 7 (some .boolean) 0 0)   : ∀ (n : Nat) (x0 : Nat) (x1 : Int32) (x2 : Int32) (x4 : Int32) (x5 : Int32) (x6 : Int32) (h : AH), WX rvI C 24 [(0, va_rf (some x0)), (1, .int x1), (2, .int x2), (4, .int x4), (5, .int x5), (6, .int x6)] [] h (f_X11_isSeen_L24 n x0 x1 x2 x4 x5 x6 h) := by
  intro n
  induction n with
  | zero => intro _ _ _ _ _ _ _; exact x_none
  | succ n ih =>
    intro x0 x1 x2 x4 x5 x6 h
    rw [f_X11_isSeen_L24]
    refine x_iload (p' := 26) hC 5 (dAt dd_X11_isSeen 16 rfl) rfl rfl ?_
    refine x_aload_n (p' := 27) hC 0 (dAt dd_X11_isSeen 17 rfl) rfl rfl rfl ?_
    refine x_getR (p' := 30) hC fk_RX11_58 rfl (dAt dd_X11_isSeen 18 rfl) rfl (fun r5 => ?_)
    refine x_bipush (v := 36) (p' := 32) hC (dAt dd_X11_isSeen 19 rfl) (by decide) rfl ?_
    refine x_iload_n (p' := 33) hC 1 (dAt dd_X11_isSeen 20 rfl) rfl rfl rfl ?_
    refine x_imul (p' := 34) hC (dAt dd_X11_isSeen 21 rfl) rfl ?_
    refine x_iload_n (p' := 35) hC 2 (dAt dd_X11_isSeen 22 rfl) rfl rfl rfl ?_
    refine x_iadd (p' := 36) hC (dAt dd_X11_isSeen 23 rfl) rfl ?_
    refine x_iaload (p' := 37) hC (dAt dd_X11_isSeen 24 rfl) rfl (fun v6 => ?_)
    refine x_icmp_ge (tgt := 81) (p' := 40) hC (dAt dd_X11_isSeen 25 rfl) (by decide) rfl ?_ ?_
    · refine x_iload (p' := 83) hC 4 (dAt dd_X11_isSeen 48 rfl) rfl rfl ?_
      exact x_zreturn hC (dAt dd_X11_isSeen 49 rfl)
    · refine x_iload (p' := 42) hC 4 (dAt dd_X11_isSeen 26 rfl) rfl rfl ?_
      refine x_if_ne (tgt := 68) (p' := 45) hC (dAt dd_X11_isSeen 27 rfl) (by decide) rfl ?_ ?_
      · refine x_sub [0, 1, 2, 3, 5] rfl ?_
        exact t_X11_isSeen_J68 hC (f_X11_isSeen_L24 n) ih x0 x1 x2 x4 x6 h
      · refine x_aload_n (p' := 46) hC 0 (dAt dd_X11_isSeen 28 rfl) rfl rfl rfl ?_
        refine x_getR (p' := 49) hC fk_RX11_62 rfl (dAt dd_X11_isSeen 29 rfl) rfl (fun r7 => ?_)
        refine x_sipush (v := 512) (p' := 52) hC (dAt dd_X11_isSeen 30 rfl) (by decide) rfl ?_
        refine x_bipush (v := 36) (p' := 54) hC (dAt dd_X11_isSeen 31 rfl) (by decide) rfl ?_
        refine x_iload_n (p' := 55) hC 1 (dAt dd_X11_isSeen 32 rfl) rfl rfl rfl ?_
        refine x_imul (p' := 56) hC (dAt dd_X11_isSeen 33 rfl) rfl ?_
        refine x_iload_n (p' := 57) hC 2 (dAt dd_X11_isSeen 34 rfl) rfl rfl rfl ?_
        refine x_iadd (p' := 58) hC (dAt dd_X11_isSeen 35 rfl) rfl ?_
        refine x_imul (p' := 59) hC (dAt dd_X11_isSeen 36 rfl) rfl ?_
        refine x_iload (p' := 61) hC 5 (dAt dd_X11_isSeen 37 rfl) rfl rfl ?_
        refine x_iadd (p' := 62) hC (dAt dd_X11_isSeen 38 rfl) rfl ?_
        refine x_iaload (p' := 63) hC (dAt dd_X11_isSeen 39 rfl) rfl (fun v8 => ?_)
        refine x_iload (p' := 65) hC 3 (dAt dd_X11_isSeen 40 rfl) rfl rfl ?_
        refine x_icmp_ne (tgt := 72) (p' := 68) hC (dAt dd_X11_isSeen 41 rfl) (by decide) rfl ?_ ?_
        · refine x_iconst (v := 0) (p' := 73) hC (dAt dd_X11_isSeen 44 rfl) (by decide) rfl ?_
          refine x_istore (lv' := [(5, .int 0), (0, va_rf (some x0)), (1, .int x1), (2, .int x2), (4, .int x4), (6, .int x6)]) (p' := 75) hC (dAt dd_X11_isSeen 45 rfl) (by decide) rfl rfl ?_
          refine x_iinc (w := (x6 + 1)) (lv' := [(6, .int (x6 + 1)), (5, .int 0), (0, va_rf (some x0)), (1, .int x1), (2, .int x2), (4, .int x4)]) (p' := 78) hC 5 (dAt dd_X11_isSeen 46 rfl) rfl rfl (by decide) rfl rfl ?_
          refine x_goto (tgt := 24) hC (dAt dd_X11_isSeen 47 rfl) (by decide) ?_
          refine x_sub [2, 3, 4, 5, 1, 0] rfl ?_
          exact ih x0 x1 x2 x4 0 (x6 + 1) h
        · refine x_sub [0, 1, 2, 3, 5] rfl ?_
          exact t_X11_isSeen_J68 hC (f_X11_isSeen_L24 n) ih x0 x1 x2 x4 x6 h
set_option maxHeartbeats 4000000 in
set_option maxRecDepth 100000 in
theorem c_X11_isSeen (l : Launch) (D : va_G) (cy : Nat → ClassId) (h : AH) (a0 : Nat) (p1 : Int32) (p2 : Int32) (p3 : Int32) : MX rvI l yX11_isSeen (Cond.code yX11_isSeen cX11_isSeen 7 (some .boolean) :: LW) 0 0 D cy h [va_rf (some a0), .int p1, .int p2, .int p3] (f_X11_isSeen h a0 p1 p2 p3) := by
  refine MX.of (lv := [(0, va_rf (some a0)), (1, .int p1), (2, .int p2), (3, .int p3)]) (by decide) (Nat.le_of_ble_eq_true rfl) rfl (fun C hC _ => ?_)
  unfold f_X11_isSeen
  refine x_bipush (v := 61) (p' := 2) hC (dAt dd_X11_isSeen 0 rfl) (by decide) rfl ?_
  refine x_aload_n (p' := 3) hC 0 (dAt dd_X11_isSeen 1 rfl) rfl rfl rfl ?_
  refine x_getR (p' := 6) hC fk_RX11_74 rfl (dAt dd_X11_isSeen 2 rfl) rfl (fun r1 => ?_)
  refine x_iload_n (p' := 7) hC 3 (dAt dd_X11_isSeen 3 rfl) rfl rfl rfl ?_
  refine x_iaload (p' := 8) hC (dAt dd_X11_isSeen 4 rfl) rfl (fun v2 => ?_)
  refine x_imul (p' := 9) hC (dAt dd_X11_isSeen 5 rfl) rfl ?_
  refine x_aload_n (p' := 10) hC 0 (dAt dd_X11_isSeen 6 rfl) rfl rfl rfl ?_
  refine x_getR (p' := 13) hC fk_RX11_77 rfl (dAt dd_X11_isSeen 7 rfl) rfl (fun r3 => ?_)
  refine x_iload_n (p' := 14) hC 3 (dAt dd_X11_isSeen 8 rfl) rfl rfl rfl ?_
  refine x_iaload (p' := 15) hC (dAt dd_X11_isSeen 9 rfl) rfl (fun v4 => ?_)
  refine x_iadd (p' := 16) hC (dAt dd_X11_isSeen 10 rfl) rfl ?_
  refine x_istore (lv' := [(4, .int ((61 * v2) + v4)), (0, va_rf (some a0)), (1, .int p1), (2, .int p2), (3, .int p3)]) (p' := 18) hC (dAt dd_X11_isSeen 11 rfl) (by decide) rfl rfl ?_
  refine x_iconst (v := 0) (p' := 19) hC (dAt dd_X11_isSeen 12 rfl) (by decide) rfl ?_
  refine x_istore (lv' := [(5, .int 0), (4, .int ((61 * v2) + v4)), (0, va_rf (some a0)), (1, .int p1), (2, .int p2), (3, .int p3)]) (p' := 21) hC (dAt dd_X11_isSeen 13 rfl) (by decide) rfl rfl ?_
  refine x_iconst (v := 0) (p' := 22) hC (dAt dd_X11_isSeen 14 rfl) (by decide) rfl ?_
  refine x_istore (lv' := [(6, .int 0), (5, .int 0), (4, .int ((61 * v2) + v4)), (0, va_rf (some a0)), (1, .int p1), (2, .int p2), (3, .int p3)]) (p' := 24) hC (dAt dd_X11_isSeen 15 rfl) (by decide) rfl rfl ?_
  refine x_sub [3, 4, 5, 2, 1, 0] rfl ?_
  exact t_X11_isSeen_L24 hC FU a0 p1 p2 ((61 * v2) + v4) 0 0 h
set_option maxHeartbeats 4000000 in
set_option maxRecDepth 100000 in
theorem c_X11_see (l : Launch) (D : va_G) (cy : Nat → ClassId) (h : AH) (a0 : Nat) (p1 : Int32) (p2 : Int32) (p3 : Int32) : MX rvV l yX11_see (Cond.code yX11_see cX11_see 5 none :: LW) 1 26 D cy h [va_rf (some a0), .int p1, .int p2, .int p3] (f_X11_see h a0 p1 p2 p3) := by
  refine MX.of (lv := [(0, va_rf (some a0)), (1, .int p1), (2, .int p2), (3, .int p3)]) (by decide) (Nat.le_of_ble_eq_true rfl) rfl (fun C hC _ => ?_)
  unfold f_X11_see
  refine x_bipush (v := 36) (p' := 2) hC (dAt dd_X11_see 0 rfl) (by decide) rfl ?_
  refine x_iload_n (p' := 3) hC 1 (dAt dd_X11_see 1 rfl) rfl rfl rfl ?_
  refine x_imul (p' := 4) hC (dAt dd_X11_see 2 rfl) rfl ?_
  refine x_iload_n (p' := 5) hC 2 (dAt dd_X11_see 3 rfl) rfl rfl rfl ?_
  refine x_iadd (p' := 6) hC (dAt dd_X11_see 4 rfl) rfl ?_
  refine x_istore (lv' := [(4, .int ((36 * p1) + p2)), (0, va_rf (some a0)), (1, .int p1), (2, .int p2), (3, .int p3)]) (p' := 8) hC (dAt dd_X11_see 5 rfl) (by decide) rfl rfl ?_
  refine x_aload_n (p' := 9) hC 1 (dAt dd_X11_see 6 rfl) rfl rfl rfl ?_
  refine x_iload_n (p' := 10) hC 2 (dAt dd_X11_see 7 rfl) rfl rfl rfl ?_
  refine x_iload_n (p' := 11) hC 3 (dAt dd_X11_see 8 rfl) rfl rfl rfl ?_
  refine x_iload_n (p' := 12) hC 4 (dAt dd_X11_see 9 rfl) rfl rfl rfl ?_
  refine x_callVI (As := [.int p1, .int p2, .int p3]) (z := fun b => f_X11_isSeen h b p1 p2 p3) (p' := 15) hC (fun b => c_X11_isSeen _ _ _ h b p1 p2 p3) k_1065 k_1067 (k_sl 51 rfl) k_9 k_1068 hd_X11_isSeen ⟨by decide, by decide⟩ (ci := 10) rfl rfl (by decide) rfl (Nat.le_of_ble_eq_true rfl) rfl (dAt dd_X11_see 10 rfl) rfl (fun v1 h2 => ?_)
  refine x_if_ne (tgt := 77) (p' := 18) hC (dAt dd_X11_see 11 rfl) (by decide) rfl ?_ ?_
  · exact x_return hC (dAt dd_X11_see 48 rfl)
  · refine x_aload_n (p' := 19) hC 1 (dAt dd_X11_see 12 rfl) rfl rfl rfl ?_
    refine x_getR (p' := 22) hC fk_RX11_58 rfl (dAt dd_X11_see 13 rfl) rfl (fun r3 => ?_)
    refine x_iload (p' := 24) hC 0 (dAt dd_X11_see 14 rfl) rfl rfl ?_
    refine x_iaload (p' := 25) hC (dAt dd_X11_see 15 rfl) rfl (fun v4 => ?_)
    refine x_sipush (v := 512) (p' := 28) hC (dAt dd_X11_see 16 rfl) (by decide) rfl ?_
    refine x_icmp_ge (tgt := 77) (p' := 31) hC (dAt dd_X11_see 17 rfl) (by decide) rfl ?_ ?_
    · exact x_return hC (dAt dd_X11_see 48 rfl)
    · refine x_aload_n (p' := 32) hC 1 (dAt dd_X11_see 18 rfl) rfl rfl rfl ?_
      refine x_getR (p' := 35) hC fk_RX11_62 rfl (dAt dd_X11_see 19 rfl) rfl (fun r5 => ?_)
      refine x_sipush (v := 512) (p' := 38) hC (dAt dd_X11_see 20 rfl) (by decide) rfl ?_
      refine x_iload (p' := 40) hC 0 (dAt dd_X11_see 21 rfl) rfl rfl ?_
      refine x_imul (p' := 41) hC (dAt dd_X11_see 22 rfl) rfl ?_
      refine x_aload_n (p' := 42) hC 1 (dAt dd_X11_see 23 rfl) rfl rfl rfl ?_
      refine x_getR (p' := 45) hC fk_RX11_58 rfl (dAt dd_X11_see 24 rfl) rfl (fun r6 => ?_)
      refine x_iload (p' := 47) hC 0 (dAt dd_X11_see 25 rfl) rfl rfl ?_
      refine x_iaload (p' := 48) hC (dAt dd_X11_see 26 rfl) rfl (fun v7 => ?_)
      refine x_iadd (p' := 49) hC (dAt dd_X11_see 27 rfl) rfl ?_
      refine x_bipush (v := 61) (p' := 51) hC (dAt dd_X11_see 28 rfl) (by decide) rfl ?_
      refine x_aload_n (p' := 52) hC 1 (dAt dd_X11_see 29 rfl) rfl rfl rfl ?_
      refine x_getR (p' := 55) hC fk_RX11_74 rfl (dAt dd_X11_see 30 rfl) rfl (fun r8 => ?_)
      refine x_iload_n (p' := 56) hC 4 (dAt dd_X11_see 31 rfl) rfl rfl rfl ?_
      refine x_iaload (p' := 57) hC (dAt dd_X11_see 32 rfl) rfl (fun v9 => ?_)
      refine x_imul (p' := 58) hC (dAt dd_X11_see 33 rfl) rfl ?_
      refine x_aload_n (p' := 59) hC 1 (dAt dd_X11_see 34 rfl) rfl rfl rfl ?_
      refine x_getR (p' := 62) hC fk_RX11_77 rfl (dAt dd_X11_see 35 rfl) rfl (fun r10 => ?_)
      refine x_iload_n (p' := 63) hC 4 (dAt dd_X11_see 36 rfl) rfl rfl rfl ?_
      refine x_iaload (p' := 64) hC (dAt dd_X11_see 37 rfl) rfl (fun v11 => ?_)
      refine x_iadd (p' := 65) hC (dAt dd_X11_see 38 rfl) rfl ?_
      refine x_iastore (p' := 66) hC (dAt dd_X11_see 39 rfl) rfl (fun h12 => ?_)
      refine x_aload_n (p' := 67) hC 1 (dAt dd_X11_see 40 rfl) rfl rfl rfl ?_
      refine x_getR (p' := 70) hC fk_RX11_58 rfl (dAt dd_X11_see 41 rfl) rfl (fun r13 => ?_)
      refine x_iload (p' := 72) hC 0 (dAt dd_X11_see 42 rfl) rfl rfl ?_
      refine x_dup2 (p' := 73) hC (dAt dd_X11_see 43 rfl) rfl (x_cat _) rfl ?_
      refine x_iaload (p' := 74) hC (dAt dd_X11_see 44 rfl) rfl (fun v14 => ?_)
      refine x_iconst (v := 1) (p' := 75) hC (dAt dd_X11_see 45 rfl) (by decide) rfl ?_
      refine x_iadd (p' := 76) hC (dAt dd_X11_see 46 rfl) rfl ?_
      refine x_iastore (p' := 77) hC (dAt dd_X11_see 47 rfl) rfl (fun h15 => ?_)
      exact x_return hC (dAt dd_X11_see 48 rfl)
set_option maxHeartbeats 4000000 in
set_option maxRecDepth 100000 in
theorem c_X11_look (l : Launch) (D : va_G) (cy : Nat → ClassId) (h : AH) (a0 : Nat) (p1 : Int32) (p2 : Int32) (p3 : Int32) (p4 : Int32) : MX rvI l yX11_look (Cond.code yX11_look cX11_look 6 (some .int) :: LW) 3 74 D cy h [va_rf (some a0), .int p1, .int p2, .int p3, .int p4] (f_X11_look h a0 p1 p2 p3 p4) := by
  refine MX.of (lv := [(0, va_rf (some a0)), (1, .int p1), (2, .int p2), (3, .int p3), (4, .int p4)]) (by decide) (Nat.le_of_ble_eq_true rfl) rfl (fun C hC _ => ?_)
  unfold f_X11_look
  refine x_aload_n (p' := 1) hC 0 (dAt dd_X11_look 0 rfl) rfl rfl rfl ?_
  refine x_iconst (v := 0) (p' := 2) hC (dAt dd_X11_look 1 rfl) (by decide) rfl ?_
  refine x_putI (p' := 5) hC fk_RX11_1 tk_RX11 rfl rfl (Or.inl rfl) (dAt dd_X11_look 2 rfl) rfl (fun h1 => ?_)
  refine x_iload_n (p' := 6) hC 1 (dAt dd_X11_look 3 rfl) rfl rfl rfl ?_
  refine x_i2l (p' := 7) hC (dAt dd_X11_look 4 rfl) rfl ?_
  refine x_lconst (v := 0) (p' := 8) hC (dAt dd_X11_look 5 rfl) (by decide) rfl ?_
  refine x_ldc2_w (v := 3) (p' := 11) hC (dAt dd_X11_look 6 rfl) k_1015 rfl ?_
  refine x_callSI (As := [.long (Int32.toInt64 p1), .long 0, .long 3]) (p' := 14) hC (c_X11_in _ _ _ h1 (Int32.toInt64 p1) 0 3) k_914 k_915 k_9 k_916 hd_X11_in ⟨by decide, by decide⟩ rfl (Nat.le_of_ble_eq_true rfl) rfl (dAt dd_X11_look 7 rfl) rfl (fun v2 h3 => ?_)
  refine x_if_eq (tgt := 25) (p' := 17) hC (dAt dd_X11_look 8 rfl) (by decide) rfl ?_ ?_
  · refine x_ldc (v := (-1000001)) (p' := 27) hC (dAt dd_X11_look 13 rfl) k_918 rfl ?_
    exact x_ireturn hC (dAt dd_X11_look 14 rfl)
  · refine x_iload_n (p' := 18) hC 2 (dAt dd_X11_look 9 rfl) rfl rfl rfl ?_
    refine x_iload_n (p' := 19) hC 3 (dAt dd_X11_look 10 rfl) rfl rfl rfl ?_
    refine x_callSI (As := [.int p2, .int p3]) (p' := 22) hC (c_X11_isSlot _ _ _ h3 p2 p3) k_966 k_967 k_9 k_968 hd_X11_isSlot ⟨by decide, by decide⟩ rfl (Nat.le_of_ble_eq_true rfl) rfl (dAt dd_X11_look 11 rfl) rfl (fun v4 h5 => ?_)
    refine x_if_ne (tgt := 28) (p' := 25) hC (dAt dd_X11_look 12 rfl) (by decide) rfl ?_ ?_
    · refine x_iconst (v := 3) (p' := 29) hC (dAt dd_X11_look 15 rfl) (by decide) rfl ?_
      refine x_iload_n (p' := 30) hC 2 (dAt dd_X11_look 16 rfl) rfl rfl rfl ?_
      refine x_imul (p' := 31) hC (dAt dd_X11_look 17 rfl) rfl ?_
      refine x_iload_n (p' := 32) hC 3 (dAt dd_X11_look 18 rfl) rfl rfl rfl ?_
      refine x_iadd (p' := 33) hC (dAt dd_X11_look 19 rfl) rfl ?_
      refine x_istore (lv' := [(5, .int ((3 * p2) + p3)), (0, va_rf (some a0)), (1, .int p1), (2, .int p2), (3, .int p3), (4, .int p4)]) (p' := 35) hC (dAt dd_X11_look 20 rfl) (by decide) rfl rfl ?_
      refine x_aload_n (p' := 36) hC 1 (dAt dd_X11_look 21 rfl) rfl rfl rfl ?_
      refine x_iload (p' := 38) hC 0 (dAt dd_X11_look 22 rfl) rfl rfl ?_
      refine x_callVV (As := [.int ((3 * p2) + p3)]) (z := fun b => f_X11_findChanges h5 b ((3 * p2) + p3)) (p' := 41) hC (fun b => c_X11_findChanges _ _ _ h5 b ((3 * p2) + p3)) k_1032 k_1034 (k_sl 47 rfl) k_9 k_1035 hd_X11_findChanges ⟨by decide, by decide⟩ (ci := 10) rfl rfl (by decide) rfl (Nat.le_of_ble_eq_true rfl) rfl (dAt dd_X11_look 23 rfl) rfl (fun u6 h7 => ?_)
      refine x_iload (p' := 43) hC 5 (dAt dd_X11_look 24 rfl) rfl rfl ?_
      refine x_i2l (p' := 44) hC (dAt dd_X11_look 25 rfl) rfl ?_
      refine x_lconst (v := 0) (p' := 45) hC (dAt dd_X11_look 26 rfl) (by decide) rfl ?_
      refine x_aload_n (p' := 46) hC 1 (dAt dd_X11_look 27 rfl) rfl rfl rfl ?_
      refine x_getI (p' := 49) hC fk_RX11_217 rfl (dAt dd_X11_look 28 rfl) rfl (fun v8 => ?_)
      refine x_iconst (v := 1) (p' := 50) hC (dAt dd_X11_look 29 rfl) (by decide) rfl ?_
      refine x_isub (p' := 51) hC (dAt dd_X11_look 30 rfl) rfl ?_
      refine x_i2l (p' := 52) hC (dAt dd_X11_look 31 rfl) rfl ?_
      refine x_callSI (As := [.long (Int32.toInt64 p4), .long 0, .long (Int32.toInt64 (v8 - 1))]) (p' := 55) hC (c_X11_in _ _ _ h7 (Int32.toInt64 p4) 0 (Int32.toInt64 (v8 - 1))) k_914 k_915 k_9 k_916 hd_X11_in ⟨by decide, by decide⟩ rfl (Nat.le_of_ble_eq_true rfl) rfl (dAt dd_X11_look 32 rfl) rfl (fun v9 h10 => ?_)
      refine x_if_ne (tgt := 61) (p' := 58) hC (dAt dd_X11_look 33 rfl) (by decide) rfl ?_ ?_
      · refine x_aload_n (p' := 62) hC 1 (dAt dd_X11_look 36 rfl) rfl rfl rfl ?_
        refine x_iload_n (p' := 63) hC 2 (dAt dd_X11_look 37 rfl) rfl rfl rfl ?_
        refine x_iload (p' := 65) hC 0 (dAt dd_X11_look 38 rfl) rfl rfl ?_
        refine x_iload (p' := 67) hC 5 (dAt dd_X11_look 39 rfl) rfl rfl ?_
        refine x_callVV (As := [.int p1, .int ((3 * p2) + p3), .int p4]) (z := fun b => f_X11_see h10 b p1 ((3 * p2) + p3) p4) (p' := 70) hC (fun b => c_X11_see _ _ _ h10 b p1 ((3 * p2) + p3) p4) k_1061 k_1063 (k_sl 50 rfl) k_9 k_1064 hd_X11_see ⟨by decide, by decide⟩ (ci := 10) rfl rfl (by decide) rfl (Nat.le_of_ble_eq_true rfl) rfl (dAt dd_X11_look 40 rfl) rfl (fun u11 h12 => ?_)
        refine x_aload_n (p' := 71) hC 1 (dAt dd_X11_look 41 rfl) rfl rfl rfl ?_
        refine x_getR (p' := 74) hC fk_RX11_58 rfl (dAt dd_X11_look 42 rfl) rfl (fun r13 => ?_)
        refine x_bipush (v := 36) (p' := 76) hC (dAt dd_X11_look 43 rfl) (by decide) rfl ?_
        refine x_iload_n (p' := 77) hC 2 (dAt dd_X11_look 44 rfl) rfl rfl rfl ?_
        refine x_imul (p' := 78) hC (dAt dd_X11_look 45 rfl) rfl ?_
        refine x_iload (p' := 80) hC 0 (dAt dd_X11_look 46 rfl) rfl rfl ?_
        refine x_iadd (p' := 81) hC (dAt dd_X11_look 47 rfl) rfl ?_
        refine x_iaload (p' := 82) hC (dAt dd_X11_look 48 rfl) rfl (fun v14 => ?_)
        exact x_ireturn hC (dAt dd_X11_look 49 rfl)
      · refine x_ldc (v := (-1000001)) (p' := 60) hC (dAt dd_X11_look 34 rfl) k_918 rfl ?_
        exact x_ireturn hC (dAt dd_X11_look 35 rfl)
    · refine x_ldc (v := (-1000001)) (p' := 27) hC (dAt dd_X11_look 13 rfl) k_918 rfl ?_
      exact x_ireturn hC (dAt dd_X11_look 14 rfl)
set_option maxHeartbeats 4000000 in
set_option maxRecDepth 100000 in
theorem t_X11_make_J196 {C : CT} (hC : OKC C yX11_make cX11_make 5 (some .boolean) 2 51) (k9 : Nat → Int32 → Int32 → Int32 → AH → RX Int32) (hk9 : ∀ (x0 : Nat) (x1 : Int32) (x2 : Int32) (x3 : Int32) (h : AH), WX rvI C 9 [(0, va_rf (some x0)), (1, .int x1), (2, .int x2), (3, .int x3)] [] h (k9 x0 x1 x2 x3 h)) : ∀ (x0 : Nat) (x1 : Int32) (x2 : Int32) (x3 : Int32) (h : AH), WX rvI C 196 [(0, va_rf (some x0)), (1, .int x1), (2, .int x2), (3, .int x3)] [] h (f_X11_make_J196 k9 x0 x1 x2 x3 h) := by
  intro x0 x1 x2 x3 h
  unfold f_X11_make_J196
  refine x_aload_n (p' := 197) hC 0 (dAt dd_X11_make 115 rfl) rfl rfl rfl ?_
  refine x_getR (p' := 200) hC fk_RX11_107 rfl (dAt dd_X11_make 116 rfl) rfl (fun r5 => ?_)
  refine x_aload_n (p' := 201) hC 0 (dAt dd_X11_make 117 rfl) rfl rfl rfl ?_
  refine x_getI (p' := 204) hC fk_RX11_248 rfl (dAt dd_X11_make 118 rfl) rfl (fun v6 => ?_)
  refine x_aload_n (p' := 205) hC 0 (dAt dd_X11_make 119 rfl) rfl rfl rfl ?_
  refine x_getR (p' := 208) hC fk_RX11_52 rfl (dAt dd_X11_make 120 rfl) rfl (fun r7 => ?_)
  refine x_bipush (v := 60) (p' := 210) hC (dAt dd_X11_make 121 rfl) (by decide) rfl ?_
  refine x_iload_n (p' := 211) hC 1 (dAt dd_X11_make 122 rfl) rfl rfl rfl ?_
  refine x_imul (p' := 212) hC (dAt dd_X11_make 123 rfl) rfl ?_
  refine x_iload_n (p' := 213) hC 3 (dAt dd_X11_make 124 rfl) rfl rfl rfl ?_
  refine x_iadd (p' := 214) hC (dAt dd_X11_make 125 rfl) rfl ?_
  refine x_iaload (p' := 215) hC (dAt dd_X11_make 126 rfl) rfl (fun v8 => ?_)
  refine x_iastore (p' := 216) hC (dAt dd_X11_make 127 rfl) rfl (fun h9 => ?_)
  refine x_aload_n (p' := 217) hC 0 (dAt dd_X11_make 128 rfl) rfl rfl rfl ?_
  refine x_dup (p' := 218) hC (dAt dd_X11_make 129 rfl) (x_cat _) rfl ?_
  refine x_getI (p' := 221) hC fk_RX11_248 rfl (dAt dd_X11_make 130 rfl) rfl (fun v10 => ?_)
  refine x_iconst (v := 1) (p' := 222) hC (dAt dd_X11_make 131 rfl) (by decide) rfl ?_
  refine x_iadd (p' := 223) hC (dAt dd_X11_make 132 rfl) rfl ?_
  refine x_putI (p' := 226) hC fk_RX11_248 tk_RX11 rfl rfl (Or.inl rfl) (dAt dd_X11_make 133 rfl) rfl (fun h11 => ?_)
  refine x_iinc (w := (x3 + 1)) (lv' := [(3, .int (x3 + 1)), (0, va_rf (some x0)), (1, .int x1), (2, .int x2)]) (p' := 229) hC 3 (dAt dd_X11_make 134 rfl) rfl rfl (by decide) rfl rfl ?_
  refine x_goto (tgt := 9) hC (dAt dd_X11_make 135 rfl) (by decide) ?_
  refine x_sub [1, 2, 3, 0] rfl ?_
  exact hk9 x0 x1 x2 (x3 + 1) h11
set_option maxHeartbeats 4000000 in
set_option maxRecDepth 100000 in
theorem t_X11_make_L131 {C : CT} (hC : OKC C yX11_make cX11_make 5 (some .boolean) 2 51) (k181 : Nat → Int32 → Int32 → Int32 → AH → RX Int32) (hk181 : ∀ (x0 : Nat) (x1 : Int32) (x2 : Int32) (x3 : Int32) (h : AH), WX rvI C 181 [(0, va_rf (some x0)), (1, .int x1), (2, .int x2), (3, .int x3)] [] h (k181 x0 x1 x2 x3 h)) : ∀ (n : Nat) (x0 : Nat) (x1 : Int32) (x2 : Int32) (x3 : Int32) (x4 : Int32) (h : AH), WX rvI C 131 [(0, va_rf (some x0)), (1, .int x1), (2, .int x2), (3, .int x3), (4, .int x4)] [] h (f_X11_make_L131 k181 n x0 x1 x2 x3 x4 h) := by
  intro n
  induction n with
  | zero => intro _ _ _ _ _ _; exact x_none
  | succ n ih =>
    intro x0 x1 x2 x3 x4 h
    rw [f_X11_make_L131]
    refine x_iload (p' := 133) hC 4 (dAt dd_X11_make 77 rfl) rfl rfl ?_
    refine x_aload_n (p' := 134) hC 0 (dAt dd_X11_make 78 rfl) rfl rfl rfl ?_
    refine x_getR (p' := 137) hC fk_RX11_71 rfl (dAt dd_X11_make 79 rfl) rfl (fun r16 => ?_)
    refine x_iload_n (p' := 138) hC 2 (dAt dd_X11_make 80 rfl) rfl rfl rfl ?_
    refine x_iaload (p' := 139) hC (dAt dd_X11_make 81 rfl) rfl (fun v17 => ?_)
    refine x_icmp_ge (tgt := 181) (p' := 142) hC (dAt dd_X11_make 82 rfl) (by decide) rfl ?_ ?_
    · refine x_sub [0, 1, 2, 3] rfl ?_
      exact hk181 x0 x1 x2 x3 h
    · refine x_aload_n (p' := 143) hC 0 (dAt dd_X11_make 83 rfl) rfl rfl rfl ?_
      refine x_getR (p' := 146) hC fk_RX11_107 rfl (dAt dd_X11_make 84 rfl) rfl (fun r18 => ?_)
      refine x_aload_n (p' := 147) hC 0 (dAt dd_X11_make 85 rfl) rfl rfl rfl ?_
      refine x_getI (p' := 150) hC fk_RX11_248 rfl (dAt dd_X11_make 86 rfl) rfl (fun v19 => ?_)
      refine x_aload_n (p' := 151) hC 0 (dAt dd_X11_make 87 rfl) rfl rfl rfl ?_
      refine x_getR (p' := 154) hC fk_RX11_52 rfl (dAt dd_X11_make 88 rfl) rfl (fun r20 => ?_)
      refine x_bipush (v := 60) (p' := 156) hC (dAt dd_X11_make 89 rfl) (by decide) rfl ?_
      refine x_iload_n (p' := 157) hC 1 (dAt dd_X11_make 90 rfl) rfl rfl rfl ?_
      refine x_imul (p' := 158) hC (dAt dd_X11_make 91 rfl) rfl ?_
      refine x_iload_n (p' := 159) hC 3 (dAt dd_X11_make 92 rfl) rfl rfl rfl ?_
      refine x_iadd (p' := 160) hC (dAt dd_X11_make 93 rfl) rfl ?_
      refine x_iload (p' := 162) hC 4 (dAt dd_X11_make 94 rfl) rfl rfl ?_
      refine x_iadd (p' := 163) hC (dAt dd_X11_make 95 rfl) rfl ?_
      refine x_iaload (p' := 164) hC (dAt dd_X11_make 96 rfl) rfl (fun v21 => ?_)
      refine x_iastore (p' := 165) hC (dAt dd_X11_make 97 rfl) rfl (fun h22 => ?_)
      refine x_aload_n (p' := 166) hC 0 (dAt dd_X11_make 98 rfl) rfl rfl rfl ?_
      refine x_dup (p' := 167) hC (dAt dd_X11_make 99 rfl) (x_cat _) rfl ?_
      refine x_getI (p' := 170) hC fk_RX11_248 rfl (dAt dd_X11_make 100 rfl) rfl (fun v23 => ?_)
      refine x_iconst (v := 1) (p' := 171) hC (dAt dd_X11_make 101 rfl) (by decide) rfl ?_
      refine x_iadd (p' := 172) hC (dAt dd_X11_make 102 rfl) rfl ?_
      refine x_putI (p' := 175) hC fk_RX11_248 tk_RX11 rfl rfl (Or.inl rfl) (dAt dd_X11_make 103 rfl) rfl (fun h24 => ?_)
      refine x_iinc (w := (x4 + 1)) (lv' := [(4, .int (x4 + 1)), (0, va_rf (some x0)), (1, .int x1), (2, .int x2), (3, .int x3)]) (p' := 178) hC 4 (dAt dd_X11_make 104 rfl) rfl rfl (by decide) rfl rfl ?_
      refine x_goto (tgt := 131) hC (dAt dd_X11_make 105 rfl) (by decide) ?_
      refine x_sub [1, 2, 3, 4, 0] rfl ?_
      exact ih x0 x1 x2 x3 (x4 + 1) h24
set_option maxHeartbeats 4000000 in
set_option maxRecDepth 100000 in
theorem t_X11_make_J181 {C : CT} (hC : OKC C yX11_make cX11_make 5 (some .boolean) 2 51) (k9 : Nat → Int32 → Int32 → Int32 → AH → RX Int32) (hk9 : ∀ (x0 : Nat) (x1 : Int32) (x2 : Int32) (x3 : Int32) (h : AH), WX rvI C 9 [(0, va_rf (some x0)), (1, .int x1), (2, .int x2), (3, .int x3)] [] h (k9 x0 x1 x2 x3 h)) : ∀ (x0 : Nat) (x1 : Int32) (x2 : Int32) (x3 : Int32) (h : AH), WX rvI C 181 [(0, va_rf (some x0)), (1, .int x1), (2, .int x2), (3, .int x3)] [] h (f_X11_make_J181 k9 x0 x1 x2 x3 h) := by
  intro x0 x1 x2 x3 h
  unfold f_X11_make_J181
  refine x_iload_n (p' := 182) hC 3 (dAt dd_X11_make 106 rfl) rfl rfl rfl ?_
  refine x_aload_n (p' := 183) hC 0 (dAt dd_X11_make 107 rfl) rfl rfl rfl ?_
  refine x_getR (p' := 186) hC fk_RX11_71 rfl (dAt dd_X11_make 108 rfl) rfl (fun r25 => ?_)
  refine x_iload_n (p' := 187) hC 2 (dAt dd_X11_make 109 rfl) rfl rfl rfl ?_
  refine x_iaload (p' := 188) hC (dAt dd_X11_make 110 rfl) rfl (fun v26 => ?_)
  refine x_iadd (p' := 189) hC (dAt dd_X11_make 111 rfl) rfl ?_
  refine x_istore_n (j := 3) (lv' := [(3, .int (x3 + v26)), (0, va_rf (some x0)), (1, .int x1), (2, .int x2)]) (p' := 190) hC (dAt dd_X11_make 112 rfl) rfl (by decide) rfl rfl ?_
  refine x_iinc (w := (x2 + 1)) (lv' := [(2, .int (x2 + 1)), (3, .int (x3 + v26)), (0, va_rf (some x0)), (1, .int x1)]) (p' := 193) hC 3 (dAt dd_X11_make 113 rfl) rfl rfl (by decide) rfl rfl ?_
  refine x_goto (tgt := 9) hC (dAt dd_X11_make 114 rfl) (by decide) ?_
  refine x_sub [2, 3, 0, 1] rfl ?_
  exact hk9 x0 x1 (x2 + 1) (x3 + v26) h
set_option maxHeartbeats 4000000 in
set_option maxRecDepth 100000 in
theorem t_X11_make_L67 {C : CT} (hC : OKC C yX11_make cX11_make 5 (some .boolean) 2 51) (k125 : Nat → Int32 → Int32 → Int32 → AH → RX Int32) (hk125 : ∀ (x0 : Nat) (x1 : Int32) (x2 : Int32) (x3 : Int32) (h : AH), WX rvI C 125 [(0, va_rf (some x0)), (1, .int x1), (2, .int x2), (3, .int x3)] [] h (k125 x0 x1 x2 x3 h)) : ∀ (n : Nat) (x0 : Nat) (x1 : Int32) (x2 : Int32) (x3 : Int32) (x4 : Int32) (h : AH), WX rvI C 67 [(0, va_rf (some x0)), (1, .int x1), (2, .int x2), (3, .int x3), (4, .int x4)] [] h (f_X11_make_L67 k125 n x0 x1 x2 x3 x4 h) := by
  intro n
  induction n with
  | zero => intro _ _ _ _ _ _; exact x_none
  | succ n ih =>
    intro x0 x1 x2 x3 x4 h
    rw [f_X11_make_L67]
    refine x_iload (p' := 69) hC 4 (dAt dd_X11_make 40 rfl) rfl rfl ?_
    refine x_aload_n (p' := 70) hC 0 (dAt dd_X11_make 41 rfl) rfl rfl rfl ?_
    refine x_getR (p' := 73) hC fk_RX11_77 rfl (dAt dd_X11_make 42 rfl) rfl (fun r27 => ?_)
    refine x_iload_n (p' := 74) hC 2 (dAt dd_X11_make 43 rfl) rfl rfl rfl ?_
    refine x_iaload (p' := 75) hC (dAt dd_X11_make 44 rfl) rfl (fun v28 => ?_)
    refine x_icmp_ge (tgt := 125) (p' := 78) hC (dAt dd_X11_make 45 rfl) (by decide) rfl ?_ ?_
    · refine x_sub [0, 1, 2, 3] rfl ?_
      exact hk125 x0 x1 x2 x3 h
    · refine x_aload_n (p' := 79) hC 0 (dAt dd_X11_make 46 rfl) rfl rfl rfl ?_
      refine x_getR (p' := 82) hC fk_RX11_107 rfl (dAt dd_X11_make 47 rfl) rfl (fun r29 => ?_)
      refine x_aload_n (p' := 83) hC 0 (dAt dd_X11_make 48 rfl) rfl rfl rfl ?_
      refine x_getI (p' := 86) hC fk_RX11_248 rfl (dAt dd_X11_make 49 rfl) rfl (fun v30 => ?_)
      refine x_aload_n (p' := 87) hC 0 (dAt dd_X11_make 50 rfl) rfl rfl rfl ?_
      refine x_getR (p' := 90) hC fk_RX11_52 rfl (dAt dd_X11_make 51 rfl) rfl (fun r31 => ?_)
      refine x_bipush (v := 60) (p' := 92) hC (dAt dd_X11_make 52 rfl) (by decide) rfl ?_
      refine x_bipush (v := 36) (p' := 94) hC (dAt dd_X11_make 53 rfl) (by decide) rfl ?_
      refine x_iload_n (p' := 95) hC 1 (dAt dd_X11_make 54 rfl) rfl rfl rfl ?_
      refine x_iadd (p' := 96) hC (dAt dd_X11_make 55 rfl) rfl ?_
      refine x_imul (p' := 97) hC (dAt dd_X11_make 56 rfl) rfl ?_
      refine x_aload_n (p' := 98) hC 0 (dAt dd_X11_make 57 rfl) rfl rfl rfl ?_
      refine x_getR (p' := 101) hC fk_RX11_74 rfl (dAt dd_X11_make 58 rfl) rfl (fun r32 => ?_)
      refine x_iload_n (p' := 102) hC 2 (dAt dd_X11_make 59 rfl) rfl rfl rfl ?_
      refine x_iaload (p' := 103) hC (dAt dd_X11_make 60 rfl) rfl (fun v33 => ?_)
      refine x_iadd (p' := 104) hC (dAt dd_X11_make 61 rfl) rfl ?_
      refine x_iload (p' := 106) hC 4 (dAt dd_X11_make 62 rfl) rfl rfl ?_
      refine x_iadd (p' := 107) hC (dAt dd_X11_make 63 rfl) rfl ?_
      refine x_iaload (p' := 108) hC (dAt dd_X11_make 64 rfl) rfl (fun v34 => ?_)
      refine x_iastore (p' := 109) hC (dAt dd_X11_make 65 rfl) rfl (fun h35 => ?_)
      refine x_aload_n (p' := 110) hC 0 (dAt dd_X11_make 66 rfl) rfl rfl rfl ?_
      refine x_dup (p' := 111) hC (dAt dd_X11_make 67 rfl) (x_cat _) rfl ?_
      refine x_getI (p' := 114) hC fk_RX11_248 rfl (dAt dd_X11_make 68 rfl) rfl (fun v36 => ?_)
      refine x_iconst (v := 1) (p' := 115) hC (dAt dd_X11_make 69 rfl) (by decide) rfl ?_
      refine x_iadd (p' := 116) hC (dAt dd_X11_make 70 rfl) rfl ?_
      refine x_putI (p' := 119) hC fk_RX11_248 tk_RX11 rfl rfl (Or.inl rfl) (dAt dd_X11_make 71 rfl) rfl (fun h37 => ?_)
      refine x_iinc (w := (x4 + 1)) (lv' := [(4, .int (x4 + 1)), (0, va_rf (some x0)), (1, .int x1), (2, .int x2), (3, .int x3)]) (p' := 122) hC 4 (dAt dd_X11_make 72 rfl) rfl rfl (by decide) rfl rfl ?_
      refine x_goto (tgt := 67) hC (dAt dd_X11_make 73 rfl) (by decide) ?_
      refine x_sub [1, 2, 3, 4, 0] rfl ?_
      exact ih x0 x1 x2 x3 (x4 + 1) h37
set_option maxHeartbeats 4000000 in
set_option maxRecDepth 100000 in
theorem t_X11_make_J125 {C : CT} (hC : OKC C yX11_make cX11_make 5 (some .boolean) 2 51) (k9 : Nat → Int32 → Int32 → Int32 → AH → RX Int32) (hk9 : ∀ (x0 : Nat) (x1 : Int32) (x2 : Int32) (x3 : Int32) (h : AH), WX rvI C 9 [(0, va_rf (some x0)), (1, .int x1), (2, .int x2), (3, .int x3)] [] h (k9 x0 x1 x2 x3 h)) : ∀ (x0 : Nat) (x1 : Int32) (x2 : Int32) (x3 : Int32) (h : AH), WX rvI C 125 [(0, va_rf (some x0)), (1, .int x1), (2, .int x2), (3, .int x3)] [] h (f_X11_make_J125 k9 x0 x1 x2 x3 h) := by
  intro x0 x1 x2 x3 h
  unfold f_X11_make_J125
  refine x_goto (tgt := 181) hC (dAt dd_X11_make 74 rfl) (by decide) ?_
  exact t_X11_make_J181 hC k9 hk9 x0 x1 x2 x3 h
set_option maxHeartbeats 4000000 in
set_option maxRecDepth 100000 in
theorem t_X11_make_J37 {C : CT} (hC : OKC C yX11_make cX11_make 5 (some .boolean) 2 51) (k9 : Nat → Int32 → Int32 → Int32 → AH → RX Int32) (hk9 : ∀ (x0 : Nat) (x1 : Int32) (x2 : Int32) (x3 : Int32) (h : AH), WX rvI C 9 [(0, va_rf (some x0)), (1, .int x1), (2, .int x2), (3, .int x3)] [] h (k9 x0 x1 x2 x3 h)) : ∀ (x0 : Nat) (x1 : Int32) (x2 : Int32) (x3 : Int32) (h : AH), WX rvI C 37 [(0, va_rf (some x0)), (1, .int x1), (2, .int x2), (3, .int x3)] [] h (f_X11_make_J37 k9 x0 x1 x2 x3 h) := by
  intro x0 x1 x2 x3 h
  unfold f_X11_make_J37
  refine x_iload_n (p' := 38) hC 2 (dAt dd_X11_make 23 rfl) rfl rfl rfl ?_
  refine x_aload_n (p' := 39) hC 0 (dAt dd_X11_make 24 rfl) rfl rfl rfl ?_
  refine x_getI (p' := 42) hC fk_RX11_217 rfl (dAt dd_X11_make 25 rfl) rfl (fun v4 => ?_)
  refine x_icmp_ge (tgt := 196) (p' := 45) hC (dAt dd_X11_make 26 rfl) (by decide) rfl ?_ ?_
  · exact t_X11_make_J196 hC k9 hk9 x0 x1 x2 x3 h
  · refine x_aload_n (p' := 46) hC 0 (dAt dd_X11_make 27 rfl) rfl rfl rfl ?_
    refine x_getR (p' := 49) hC fk_RX11_68 rfl (dAt dd_X11_make 28 rfl) rfl (fun r12 => ?_)
    refine x_iload_n (p' := 50) hC 2 (dAt dd_X11_make 29 rfl) rfl rfl rfl ?_
    refine x_iaload (p' := 51) hC (dAt dd_X11_make 30 rfl) rfl (fun v13 => ?_)
    refine x_iload_n (p' := 52) hC 3 (dAt dd_X11_make 31 rfl) rfl rfl rfl ?_
    refine x_icmp_ne (tgt := 196) (p' := 55) hC (dAt dd_X11_make 32 rfl) (by decide) rfl ?_ ?_
    · exact t_X11_make_J196 hC k9 hk9 x0 x1 x2 x3 h
    · refine x_aload_n (p' := 56) hC 0 (dAt dd_X11_make 33 rfl) rfl rfl rfl ?_
      refine x_getR (p' := 59) hC fk_RX11_104 rfl (dAt dd_X11_make 34 rfl) rfl (fun r14 => ?_)
      refine x_iload_n (p' := 60) hC 2 (dAt dd_X11_make 35 rfl) rfl rfl rfl ?_
      refine x_baload (p' := 61) hC (dAt dd_X11_make 36 rfl) rfl (fun v15 => ?_)
      refine x_if_eq (tgt := 128) (p' := 64) hC (dAt dd_X11_make 37 rfl) (by decide) rfl ?_ ?_
      · refine x_iconst (v := 0) (p' := 129) hC (dAt dd_X11_make 75 rfl) (by decide) rfl ?_
        refine x_istore (lv' := [(4, .int 0), (0, va_rf (some x0)), (1, .int x1), (2, .int x2), (3, .int x3)]) (p' := 131) hC (dAt dd_X11_make 76 rfl) (by decide) rfl rfl ?_
        refine x_sub [1, 2, 3, 4, 0] rfl ?_
        exact t_X11_make_L131 hC (f_X11_make_J181 k9) (t_X11_make_J181 hC k9 hk9) FU x0 x1 x2 x3 0 h
      · refine x_iconst (v := 0) (p' := 65) hC (dAt dd_X11_make 38 rfl) (by decide) rfl ?_
        refine x_istore (lv' := [(4, .int 0), (0, va_rf (some x0)), (1, .int x1), (2, .int x2), (3, .int x3)]) (p' := 67) hC (dAt dd_X11_make 39 rfl) (by decide) rfl rfl ?_
        refine x_sub [1, 2, 3, 4, 0] rfl ?_
        exact t_X11_make_L67 hC (f_X11_make_J125 k9) (t_X11_make_J125 hC k9 hk9) FU x0 x1 x2 x3 0 h
set_option maxHeartbeats 4000000 in
set_option maxRecDepth 100000 in
theorem t_X11_make_L9 {C : CT} (hC : OKC C yX11_make cX11_make 5 (some .boolean) 2 51) (k232 : Nat → AH → RX Int32) (hk232 : ∀ (x0 : Nat) (h : AH), WX rvI C 232 [(0, va_rf (some x0))] [] h (k232 x0 h)) : ∀ (n : Nat) (x0 : Nat) (x1 : Int32) (x2 : Int32) (x3 : Int32) (h : AH), WX rvI C 9 [(0, va_rf (some x0)), (1, .int x1), (2, .int x2), (3, .int x3)] [] h (f_X11_make_L9 k232 n x0 x1 x2 x3 h) := by
  intro n
  induction n with
  | zero => intro _ _ _ _ _; exact x_none
  | succ n ih =>
    intro x0 x1 x2 x3 h
    rw [f_X11_make_L9]
    refine x_iload_n (p' := 10) hC 3 (dAt dd_X11_make 7 rfl) rfl rfl rfl ?_
    refine x_aload_n (p' := 11) hC 0 (dAt dd_X11_make 8 rfl) rfl rfl rfl ?_
    refine x_getR (p' := 14) hC fk_RX11_55 rfl (dAt dd_X11_make 9 rfl) rfl (fun r2 => ?_)
    refine x_iload_n (p' := 15) hC 1 (dAt dd_X11_make 10 rfl) rfl rfl rfl ?_
    refine x_iaload (p' := 16) hC (dAt dd_X11_make 11 rfl) rfl (fun v3 => ?_)
    refine x_icmp_lt (tgt := 37) (p' := 19) hC (dAt dd_X11_make 12 rfl) (by decide) rfl ?_ ?_
    · exact t_X11_make_J37 hC (f_X11_make_L9 k232 n) ih x0 x1 x2 x3 h
    · refine x_iload_n (p' := 20) hC 2 (dAt dd_X11_make 13 rfl) rfl rfl rfl ?_
      refine x_aload_n (p' := 21) hC 0 (dAt dd_X11_make 14 rfl) rfl rfl rfl ?_
      refine x_getI (p' := 24) hC fk_RX11_217 rfl (dAt dd_X11_make 15 rfl) rfl (fun v38 => ?_)
      refine x_icmp_ge (tgt := 232) (p' := 27) hC (dAt dd_X11_make 16 rfl) (by decide) rfl ?_ ?_
      · refine x_sub [0] rfl ?_
        exact hk232 x0 h
      · refine x_aload_n (p' := 28) hC 0 (dAt dd_X11_make 17 rfl) rfl rfl rfl ?_
        refine x_getR (p' := 31) hC fk_RX11_68 rfl (dAt dd_X11_make 18 rfl) rfl (fun r39 => ?_)
        refine x_iload_n (p' := 32) hC 2 (dAt dd_X11_make 19 rfl) rfl rfl rfl ?_
        refine x_iaload (p' := 33) hC (dAt dd_X11_make 20 rfl) rfl (fun v40 => ?_)
        refine x_iload_n (p' := 34) hC 3 (dAt dd_X11_make 21 rfl) rfl rfl rfl ?_
        refine x_icmp_ne (tgt := 232) (p' := 37) hC (dAt dd_X11_make 22 rfl) (by decide) rfl ?_ ?_
        · refine x_sub [0] rfl ?_
          exact hk232 x0 h
        · exact t_X11_make_J37 hC (f_X11_make_L9 k232 n) ih x0 x1 x2 x3 h
set_option maxHeartbeats 4000000 in
set_option maxRecDepth 100000 in
theorem t_X11_make_J232 {C : CT} (hC : OKC C yX11_make cX11_make 5 (some .boolean) 2 51)   : ∀ (x0 : Nat) (h : AH), WX rvI C 232 [(0, va_rf (some x0))] [] h (f_X11_make_J232 x0 h) := by
  intro x0 h
  unfold f_X11_make_J232
  refine x_aload_n (p' := 233) hC 0 (dAt dd_X11_make 136 rfl) rfl rfl rfl ?_
  refine x_getR (p' := 236) hC fk_RX11_107 rfl (dAt dd_X11_make 137 rfl) rfl (fun r41 => ?_)
  refine x_iconst (v := 0) (p' := 237) hC (dAt dd_X11_make 138 rfl) (by decide) rfl ?_
  refine x_aload_n (p' := 238) hC 0 (dAt dd_X11_make 139 rfl) rfl rfl rfl ?_
  refine x_getI (p' := 241) hC fk_RX11_248 rfl (dAt dd_X11_make 140 rfl) rfl (fun v42 => ?_)
  refine x_callSI (As := [va_rf r41, .int 0, .int v42]) (p' := 244) hC (c_X11_isAnswer _ _ _ h r41 0 v42) k_940 k_941 k_9 k_942 hd_X11_isAnswer ⟨by decide, by decide⟩ rfl (Nat.le_of_ble_eq_true rfl) rfl (dAt dd_X11_make 141 rfl) rfl (fun v43 h44 => ?_)
  exact x_zreturn hC (dAt dd_X11_make 142 rfl)
set_option maxHeartbeats 4000000 in
set_option maxRecDepth 100000 in
theorem c_X11_make (l : Launch) (D : va_G) (cy : Nat → ClassId) (h : AH) (a0 : Nat) (p1 : Int32) : MX rvI l yX11_make (Cond.code yX11_make cX11_make 5 (some .boolean) :: LW) 2 51 D cy h [va_rf (some a0), .int p1] (f_X11_make h a0 p1) := by
  refine MX.of (lv := [(0, va_rf (some a0)), (1, .int p1)]) (by decide) (Nat.le_of_ble_eq_true rfl) rfl (fun C hC _ => ?_)
  unfold f_X11_make
  refine x_aload_n (p' := 1) hC 0 (dAt dd_X11_make 0 rfl) rfl rfl rfl ?_
  refine x_iconst (v := 0) (p' := 2) hC (dAt dd_X11_make 1 rfl) (by decide) rfl ?_
  refine x_putI (p' := 5) hC fk_RX11_248 tk_RX11 rfl rfl (Or.inl rfl) (dAt dd_X11_make 2 rfl) rfl (fun h1 => ?_)
  refine x_iconst (v := 0) (p' := 6) hC (dAt dd_X11_make 3 rfl) (by decide) rfl ?_
  refine x_istore_n (j := 2) (lv' := [(2, .int 0), (0, va_rf (some a0)), (1, .int p1)]) (p' := 7) hC (dAt dd_X11_make 4 rfl) rfl (by decide) rfl rfl ?_
  refine x_iconst (v := 0) (p' := 8) hC (dAt dd_X11_make 5 rfl) (by decide) rfl ?_
  refine x_istore_n (j := 3) (lv' := [(3, .int 0), (2, .int 0), (0, va_rf (some a0)), (1, .int p1)]) (p' := 9) hC (dAt dd_X11_make 6 rfl) rfl (by decide) rfl rfl ?_
  refine x_sub [2, 3, 1, 0] rfl ?_
  exact t_X11_make_L9 hC f_X11_make_J232 (t_X11_make_J232 hC) FU a0 p1 0 0 h1
set_option maxHeartbeats 4000000 in
set_option maxRecDepth 100000 in
theorem c_X11_begins (l : Launch) (D : va_G) (cy : Nat → ClassId) (h : AH) (a0 : Nat) (p1 : Int32) (p2 : Int32) : MX rvV l yX11_begins (Cond.code yX11_begins cX11_begins 3 none :: LW) 0 0 D cy h [va_rf (some a0), .int p1, .int p2] (f_X11_begins h a0 p1 p2) := by
  refine MX.of (lv := [(0, va_rf (some a0)), (1, .int p1), (2, .int p2)]) (by decide) (Nat.le_of_ble_eq_true rfl) rfl (fun C hC _ => ?_)
  unfold f_X11_begins
  refine x_aload_n (p' := 1) hC 0 (dAt dd_X11_begins 0 rfl) rfl rfl rfl ?_
  refine x_getR (p' := 4) hC fk_RX11_110 rfl (dAt dd_X11_begins 1 rfl) rfl (fun r1 => ?_)
  refine x_aload_n (p' := 5) hC 0 (dAt dd_X11_begins 2 rfl) rfl rfl rfl ?_
  refine x_getI (p' := 8) hC fk_RX11_251 rfl (dAt dd_X11_begins 3 rfl) rfl (fun v2 => ?_)
  refine x_iload_n (p' := 9) hC 1 (dAt dd_X11_begins 4 rfl) rfl rfl rfl ?_
  refine x_iastore (p' := 10) hC (dAt dd_X11_begins 5 rfl) rfl (fun h3 => ?_)
  refine x_aload_n (p' := 11) hC 0 (dAt dd_X11_begins 6 rfl) rfl rfl rfl ?_
  refine x_getR (p' := 14) hC fk_RX11_113 rfl (dAt dd_X11_begins 7 rfl) rfl (fun r4 => ?_)
  refine x_aload_n (p' := 15) hC 0 (dAt dd_X11_begins 8 rfl) rfl rfl rfl ?_
  refine x_getI (p' := 18) hC fk_RX11_251 rfl (dAt dd_X11_begins 9 rfl) rfl (fun v5 => ?_)
  refine x_iload_n (p' := 19) hC 2 (dAt dd_X11_begins 10 rfl) rfl rfl rfl ?_
  refine x_iastore (p' := 20) hC (dAt dd_X11_begins 11 rfl) rfl (fun h6 => ?_)
  refine x_aload_n (p' := 21) hC 0 (dAt dd_X11_begins 12 rfl) rfl rfl rfl ?_
  refine x_getR (p' := 24) hC fk_RX11_116 rfl (dAt dd_X11_begins 13 rfl) rfl (fun r7 => ?_)
  refine x_aload_n (p' := 25) hC 0 (dAt dd_X11_begins 14 rfl) rfl rfl rfl ?_
  refine x_getI (p' := 28) hC fk_RX11_251 rfl (dAt dd_X11_begins 15 rfl) rfl (fun v8 => ?_)
  refine x_iconst (v := 0) (p' := 29) hC (dAt dd_X11_begins 16 rfl) (by decide) rfl ?_
  refine x_iastore (p' := 30) hC (dAt dd_X11_begins 17 rfl) rfl (fun h9 => ?_)
  refine x_aload_n (p' := 31) hC 0 (dAt dd_X11_begins 18 rfl) rfl rfl rfl ?_
  refine x_getR (p' := 34) hC fk_RX11_119 rfl (dAt dd_X11_begins 19 rfl) rfl (fun r10 => ?_)
  refine x_aload_n (p' := 35) hC 0 (dAt dd_X11_begins 20 rfl) rfl rfl rfl ?_
  refine x_getI (p' := 38) hC fk_RX11_251 rfl (dAt dd_X11_begins 21 rfl) rfl (fun v11 => ?_)
  refine x_iconst (v := 0) (p' := 39) hC (dAt dd_X11_begins 22 rfl) (by decide) rfl ?_
  refine x_iastore (p' := 40) hC (dAt dd_X11_begins 23 rfl) rfl (fun h12 => ?_)
  refine x_aload_n (p' := 41) hC 0 (dAt dd_X11_begins 24 rfl) rfl rfl rfl ?_
  refine x_getR (p' := 44) hC fk_RX11_122 rfl (dAt dd_X11_begins 25 rfl) rfl (fun r13 => ?_)
  refine x_aload_n (p' := 45) hC 0 (dAt dd_X11_begins 26 rfl) rfl rfl rfl ?_
  refine x_getI (p' := 48) hC fk_RX11_251 rfl (dAt dd_X11_begins 27 rfl) rfl (fun v14 => ?_)
  refine x_iconst (v := 0) (p' := 49) hC (dAt dd_X11_begins 28 rfl) (by decide) rfl ?_
  refine x_bastore (p' := 50) hC (dAt dd_X11_begins 29 rfl) rfl (fun h15 => ?_)
  refine x_aload_n (p' := 51) hC 0 (dAt dd_X11_begins 30 rfl) rfl rfl rfl ?_
  refine x_getR (p' := 54) hC fk_RX11_125 rfl (dAt dd_X11_begins 31 rfl) rfl (fun r16 => ?_)
  refine x_aload_n (p' := 55) hC 0 (dAt dd_X11_begins 32 rfl) rfl rfl rfl ?_
  refine x_getI (p' := 58) hC fk_RX11_251 rfl (dAt dd_X11_begins 33 rfl) rfl (fun v17 => ?_)
  refine x_iconst (v := 0) (p' := 59) hC (dAt dd_X11_begins 34 rfl) (by decide) rfl ?_
  refine x_iastore (p' := 60) hC (dAt dd_X11_begins 35 rfl) rfl (fun h18 => ?_)
  exact x_return hC (dAt dd_X11_begins 36 rfl)
set_option maxHeartbeats 4000000 in
set_option maxRecDepth 100000 in
theorem t_X11_becomes_L64 {C : CT} (hC : OKC C yX11_becomes cX11_becomes 4 none 0 0) (k120 : Nat → Int32 → AH → RX Unit) (hk120 : ∀ (x0 : Nat) (x1 : Int32) (h : AH), WX rvV C 120 [(0, va_rf (some x0)), (1, .int x1)] [] h (k120 x0 x1 h)) : ∀ (n : Nat) (x0 : Nat) (x1 : Int32) (x2 : Int32) (x3 : Int32) (h : AH), WX rvV C 64 [(0, va_rf (some x0)), (1, .int x1), (2, .int x2), (3, .int x3)] [] h (f_X11_becomes_L64 k120 n x0 x1 x2 x3 h) := by
  intro n
  induction n with
  | zero => intro _ _ _ _ _; exact x_none
  | succ n ih =>
    intro x0 x1 x2 x3 h
    rw [f_X11_becomes_L64]
    refine x_iload_n (p' := 65) hC 3 (dAt dd_X11_becomes 43 rfl) rfl rfl rfl ?_
    refine x_bipush (v := 60) (p' := 67) hC (dAt dd_X11_becomes 44 rfl) (by decide) rfl ?_
    refine x_icmp_ge (tgt := 120) (p' := 70) hC (dAt dd_X11_becomes 45 rfl) (by decide) rfl ?_ ?_
    · refine x_sub [0, 1] rfl ?_
      exact hk120 x0 x1 h
    · refine x_aload_n (p' := 71) hC 0 (dAt dd_X11_becomes 46 rfl) rfl rfl rfl ?_
      refine x_getR (p' := 74) hC fk_RX11_138 rfl (dAt dd_X11_becomes 47 rfl) rfl (fun r19 => ?_)
      refine x_bipush (v := 60) (p' := 76) hC (dAt dd_X11_becomes 48 rfl) (by decide) rfl ?_
      refine x_iload_n (p' := 77) hC 2 (dAt dd_X11_becomes 49 rfl) rfl rfl rfl ?_
      refine x_imul (p' := 78) hC (dAt dd_X11_becomes 50 rfl) rfl ?_
      refine x_iload_n (p' := 79) hC 3 (dAt dd_X11_becomes 51 rfl) rfl rfl rfl ?_
      refine x_iadd (p' := 80) hC (dAt dd_X11_becomes 52 rfl) rfl ?_
      refine x_aload_n (p' := 81) hC 0 (dAt dd_X11_becomes 53 rfl) rfl rfl rfl ?_
      refine x_getR (p' := 84) hC fk_RX11_49 rfl (dAt dd_X11_becomes 54 rfl) rfl (fun r20 => ?_)
      refine x_bipush (v := 60) (p' := 86) hC (dAt dd_X11_becomes 55 rfl) (by decide) rfl ?_
      refine x_iload_n (p' := 87) hC 1 (dAt dd_X11_becomes 56 rfl) rfl rfl rfl ?_
      refine x_imul (p' := 88) hC (dAt dd_X11_becomes 57 rfl) rfl ?_
      refine x_iload_n (p' := 89) hC 3 (dAt dd_X11_becomes 58 rfl) rfl rfl rfl ?_
      refine x_iadd (p' := 90) hC (dAt dd_X11_becomes 59 rfl) rfl ?_
      refine x_iaload (p' := 91) hC (dAt dd_X11_becomes 60 rfl) rfl (fun v21 => ?_)
      refine x_iastore (p' := 92) hC (dAt dd_X11_becomes 61 rfl) rfl (fun h22 => ?_)
      refine x_aload_n (p' := 93) hC 0 (dAt dd_X11_becomes 62 rfl) rfl rfl rfl ?_
      refine x_getR (p' := 96) hC fk_RX11_141 rfl (dAt dd_X11_becomes 63 rfl) rfl (fun r23 => ?_)
      refine x_bipush (v := 60) (p' := 98) hC (dAt dd_X11_becomes 64 rfl) (by decide) rfl ?_
      refine x_iload_n (p' := 99) hC 2 (dAt dd_X11_becomes 65 rfl) rfl rfl rfl ?_
      refine x_imul (p' := 100) hC (dAt dd_X11_becomes 66 rfl) rfl ?_
      refine x_iload_n (p' := 101) hC 3 (dAt dd_X11_becomes 67 rfl) rfl rfl rfl ?_
      refine x_iadd (p' := 102) hC (dAt dd_X11_becomes 68 rfl) rfl ?_
      refine x_aload_n (p' := 103) hC 0 (dAt dd_X11_becomes 69 rfl) rfl rfl rfl ?_
      refine x_getR (p' := 106) hC fk_RX11_52 rfl (dAt dd_X11_becomes 70 rfl) rfl (fun r24 => ?_)
      refine x_bipush (v := 60) (p' := 108) hC (dAt dd_X11_becomes 71 rfl) (by decide) rfl ?_
      refine x_iload_n (p' := 109) hC 1 (dAt dd_X11_becomes 72 rfl) rfl rfl rfl ?_
      refine x_imul (p' := 110) hC (dAt dd_X11_becomes 73 rfl) rfl ?_
      refine x_iload_n (p' := 111) hC 3 (dAt dd_X11_becomes 74 rfl) rfl rfl rfl ?_
      refine x_iadd (p' := 112) hC (dAt dd_X11_becomes 75 rfl) rfl ?_
      refine x_iaload (p' := 113) hC (dAt dd_X11_becomes 76 rfl) rfl (fun v25 => ?_)
      refine x_iastore (p' := 114) hC (dAt dd_X11_becomes 77 rfl) rfl (fun h26 => ?_)
      refine x_iinc (w := (x3 + 1)) (lv' := [(3, .int (x3 + 1)), (0, va_rf (some x0)), (1, .int x1), (2, .int x2)]) (p' := 117) hC 3 (dAt dd_X11_becomes 78 rfl) rfl rfl (by decide) rfl rfl ?_
      refine x_goto (tgt := 64) hC (dAt dd_X11_becomes 79 rfl) (by decide) ?_
      refine x_sub [1, 2, 3, 0] rfl ?_
      exact ih x0 x1 x2 (x3 + 1) h26
set_option maxHeartbeats 4000000 in
set_option maxRecDepth 100000 in
theorem t_X11_becomes_L132 {C : CT} (hC : OKC C yX11_becomes cX11_becomes 4 none 0 0)   : ∀ (n : Nat) (x0 : Nat) (x1 : Int32) (x3 : Int32) (h : AH), WX rvV C 132 [(0, va_rf (some x0)), (1, .int x1), (3, .int x3)] [] h (f_X11_becomes_L132 n x0 x1 x3 h) := by
  intro n
  induction n with
  | zero => intro _ _ _ _; exact x_none
  | succ n ih =>
    intro x0 x1 x3 h
    rw [f_X11_becomes_L132]
    refine x_iload_n (p' := 133) hC 2 (dAt dd_X11_becomes 88 rfl) rfl rfl rfl ?_
    refine x_aload_n (p' := 134) hC 0 (dAt dd_X11_becomes 89 rfl) rfl rfl rfl ?_
    refine x_getI (p' := 137) hC fk_RX11_248 rfl (dAt dd_X11_becomes 90 rfl) rfl (fun v30 => ?_)
    refine x_icmp_ge (tgt := 180) (p' := 140) hC (dAt dd_X11_becomes 91 rfl) (by decide) rfl ?_ ?_
    · exact x_return hC (dAt dd_X11_becomes 118 rfl)
    · refine x_aload_n (p' := 141) hC 0 (dAt dd_X11_becomes 92 rfl) rfl rfl rfl ?_
      refine x_getR (p' := 144) hC fk_RX11_49 rfl (dAt dd_X11_becomes 93 rfl) rfl (fun r31 => ?_)
      refine x_bipush (v := 60) (p' := 146) hC (dAt dd_X11_becomes 94 rfl) (by decide) rfl ?_
      refine x_iload_n (p' := 147) hC 1 (dAt dd_X11_becomes 95 rfl) rfl rfl rfl ?_
      refine x_imul (p' := 148) hC (dAt dd_X11_becomes 96 rfl) rfl ?_
      refine x_iload_n (p' := 149) hC 2 (dAt dd_X11_becomes 97 rfl) rfl rfl rfl ?_
      refine x_iadd (p' := 150) hC (dAt dd_X11_becomes 98 rfl) rfl ?_
      refine x_aload_n (p' := 151) hC 0 (dAt dd_X11_becomes 99 rfl) rfl rfl rfl ?_
      refine x_getR (p' := 154) hC fk_RX11_107 rfl (dAt dd_X11_becomes 100 rfl) rfl (fun r32 => ?_)
      refine x_iload_n (p' := 155) hC 2 (dAt dd_X11_becomes 101 rfl) rfl rfl rfl ?_
      refine x_iaload (p' := 156) hC (dAt dd_X11_becomes 102 rfl) rfl (fun v33 => ?_)
      refine x_iastore (p' := 157) hC (dAt dd_X11_becomes 103 rfl) rfl (fun h34 => ?_)
      refine x_aload_n (p' := 158) hC 0 (dAt dd_X11_becomes 104 rfl) rfl rfl rfl ?_
      refine x_getR (p' := 161) hC fk_RX11_52 rfl (dAt dd_X11_becomes 105 rfl) rfl (fun r35 => ?_)
      refine x_bipush (v := 60) (p' := 163) hC (dAt dd_X11_becomes 106 rfl) (by decide) rfl ?_
      refine x_iload_n (p' := 164) hC 1 (dAt dd_X11_becomes 107 rfl) rfl rfl rfl ?_
      refine x_imul (p' := 165) hC (dAt dd_X11_becomes 108 rfl) rfl ?_
      refine x_iload_n (p' := 166) hC 2 (dAt dd_X11_becomes 109 rfl) rfl rfl rfl ?_
      refine x_iadd (p' := 167) hC (dAt dd_X11_becomes 110 rfl) rfl ?_
      refine x_aload_n (p' := 168) hC 0 (dAt dd_X11_becomes 111 rfl) rfl rfl rfl ?_
      refine x_getR (p' := 171) hC fk_RX11_107 rfl (dAt dd_X11_becomes 112 rfl) rfl (fun r36 => ?_)
      refine x_iload_n (p' := 172) hC 2 (dAt dd_X11_becomes 113 rfl) rfl rfl rfl ?_
      refine x_iaload (p' := 173) hC (dAt dd_X11_becomes 114 rfl) rfl (fun v37 => ?_)
      refine x_iastore (p' := 174) hC (dAt dd_X11_becomes 115 rfl) rfl (fun h38 => ?_)
      refine x_iinc (w := (x3 + 1)) (lv' := [(3, .int (x3 + 1)), (0, va_rf (some x0)), (1, .int x1)]) (p' := 177) hC 2 (dAt dd_X11_becomes 116 rfl) rfl rfl (by decide) rfl rfl ?_
      refine x_goto (tgt := 132) hC (dAt dd_X11_becomes 117 rfl) (by decide) ?_
      refine x_sub [1, 2, 0] rfl ?_
      exact ih x0 x1 (x3 + 1) h38
set_option maxHeartbeats 4000000 in
set_option maxRecDepth 100000 in
theorem t_X11_becomes_J120 {C : CT} (hC : OKC C yX11_becomes cX11_becomes 4 none 0 0)   : ∀ (x0 : Nat) (x1 : Int32) (h : AH), WX rvV C 120 [(0, va_rf (some x0)), (1, .int x1)] [] h (f_X11_becomes_J120 x0 x1 h) := by
  intro x0 x1 h
  unfold f_X11_becomes_J120
  refine x_aload_n (p' := 121) hC 0 (dAt dd_X11_becomes 80 rfl) rfl rfl rfl ?_
  refine x_getR (p' := 124) hC fk_RX11_55 rfl (dAt dd_X11_becomes 81 rfl) rfl (fun r27 => ?_)
  refine x_iload_n (p' := 125) hC 1 (dAt dd_X11_becomes 82 rfl) rfl rfl rfl ?_
  refine x_aload_n (p' := 126) hC 0 (dAt dd_X11_becomes 83 rfl) rfl rfl rfl ?_
  refine x_getI (p' := 129) hC fk_RX11_248 rfl (dAt dd_X11_becomes 84 rfl) rfl (fun v28 => ?_)
  refine x_iastore (p' := 130) hC (dAt dd_X11_becomes 85 rfl) rfl (fun h29 => ?_)
  refine x_iconst (v := 0) (p' := 131) hC (dAt dd_X11_becomes 86 rfl) (by decide) rfl ?_
  refine x_istore_n (j := 3) (lv' := [(3, .int 0), (0, va_rf (some x0)), (1, .int x1)]) (p' := 132) hC (dAt dd_X11_becomes 87 rfl) rfl (by decide) rfl rfl ?_
  refine x_sub [1, 2, 0] rfl ?_
  exact t_X11_becomes_L132 hC FU x0 x1 0 h29
set_option maxHeartbeats 4000000 in
set_option maxRecDepth 100000 in
theorem c_X11_becomes (l : Launch) (D : va_G) (cy : Nat → ClassId) (h : AH) (a0 : Nat) (p1 : Int32) : MX rvV l yX11_becomes (Cond.code yX11_becomes cX11_becomes 4 none :: LW) 0 0 D cy h [va_rf (some a0), .int p1] (f_X11_becomes h a0 p1) := by
  refine MX.of (lv := [(0, va_rf (some a0)), (1, .int p1)]) (by decide) (Nat.le_of_ble_eq_true rfl) rfl (fun C hC _ => ?_)
  unfold f_X11_becomes
  refine x_bipush (v := 36) (p' := 2) hC (dAt dd_X11_becomes 0 rfl) (by decide) rfl ?_
  refine x_aload_n (p' := 3) hC 0 (dAt dd_X11_becomes 1 rfl) rfl rfl rfl ?_
  refine x_getI (p' := 6) hC fk_RX11_251 rfl (dAt dd_X11_becomes 2 rfl) rfl (fun v1 => ?_)
  refine x_imul (p' := 7) hC (dAt dd_X11_becomes 3 rfl) rfl ?_
  refine x_aload_n (p' := 8) hC 0 (dAt dd_X11_becomes 4 rfl) rfl rfl rfl ?_
  refine x_getR (p' := 11) hC fk_RX11_125 rfl (dAt dd_X11_becomes 5 rfl) rfl (fun r2 => ?_)
  refine x_aload_n (p' := 12) hC 0 (dAt dd_X11_becomes 6 rfl) rfl rfl rfl ?_
  refine x_getI (p' := 15) hC fk_RX11_251 rfl (dAt dd_X11_becomes 7 rfl) rfl (fun v3 => ?_)
  refine x_iaload (p' := 16) hC (dAt dd_X11_becomes 8 rfl) rfl (fun v4 => ?_)
  refine x_iadd (p' := 17) hC (dAt dd_X11_becomes 9 rfl) rfl ?_
  refine x_istore_n (j := 2) (lv' := [(2, .int ((36 * v1) + v4)), (0, va_rf (some a0)), (1, .int p1)]) (p' := 18) hC (dAt dd_X11_becomes 10 rfl) rfl (by decide) rfl rfl ?_
  refine x_aload_n (p' := 19) hC 1 (dAt dd_X11_becomes 11 rfl) rfl rfl rfl ?_
  refine x_getR (p' := 22) hC fk_RX11_125 rfl (dAt dd_X11_becomes 12 rfl) rfl (fun r5 => ?_)
  refine x_aload_n (p' := 23) hC 1 (dAt dd_X11_becomes 13 rfl) rfl rfl rfl ?_
  refine x_getI (p' := 26) hC fk_RX11_251 rfl (dAt dd_X11_becomes 14 rfl) rfl (fun v6 => ?_)
  refine x_dup2 (p' := 27) hC (dAt dd_X11_becomes 15 rfl) rfl (x_cat _) rfl ?_
  refine x_iaload (p' := 28) hC (dAt dd_X11_becomes 16 rfl) rfl (fun v7 => ?_)
  refine x_iconst (v := 1) (p' := 29) hC (dAt dd_X11_becomes 17 rfl) (by decide) rfl ?_
  refine x_iadd (p' := 30) hC (dAt dd_X11_becomes 18 rfl) rfl ?_
  refine x_iastore (p' := 31) hC (dAt dd_X11_becomes 19 rfl) rfl (fun h8 => ?_)
  refine x_aload_n (p' := 32) hC 1 (dAt dd_X11_becomes 20 rfl) rfl rfl rfl ?_
  refine x_getR (p' := 35) hC fk_RX11_128 rfl (dAt dd_X11_becomes 21 rfl) rfl (fun r9 => ?_)
  refine x_iload_n (p' := 36) hC 0 (dAt dd_X11_becomes 22 rfl) rfl rfl rfl ?_
  refine x_iload_n (p' := 37) hC 2 (dAt dd_X11_becomes 23 rfl) rfl rfl rfl ?_
  refine x_iastore (p' := 38) hC (dAt dd_X11_becomes 24 rfl) rfl (fun h10 => ?_)
  refine x_aload_n (p' := 39) hC 1 (dAt dd_X11_becomes 25 rfl) rfl rfl rfl ?_
  refine x_getR (p' := 42) hC fk_RX11_131 rfl (dAt dd_X11_becomes 26 rfl) rfl (fun r11 => ?_)
  refine x_iload_n (p' := 43) hC 0 (dAt dd_X11_becomes 27 rfl) rfl rfl rfl ?_
  refine x_aload_n (p' := 44) hC 1 (dAt dd_X11_becomes 28 rfl) rfl rfl rfl ?_
  refine x_getR (p' := 47) hC fk_RX11_45 rfl (dAt dd_X11_becomes 29 rfl) rfl (fun r12 => ?_)
  refine x_iload_n (p' := 48) hC 2 (dAt dd_X11_becomes 30 rfl) rfl rfl rfl ?_
  refine x_baload (p' := 49) hC (dAt dd_X11_becomes 31 rfl) rfl (fun v13 => ?_)
  refine x_bastore (p' := 50) hC (dAt dd_X11_becomes 32 rfl) rfl (fun h14 => ?_)
  refine x_aload_n (p' := 51) hC 1 (dAt dd_X11_becomes 33 rfl) rfl rfl rfl ?_
  refine x_getR (p' := 54) hC fk_RX11_134 rfl (dAt dd_X11_becomes 34 rfl) rfl (fun r15 => ?_)
  refine x_iload_n (p' := 55) hC 0 (dAt dd_X11_becomes 35 rfl) rfl rfl rfl ?_
  refine x_aload_n (p' := 56) hC 1 (dAt dd_X11_becomes 36 rfl) rfl rfl rfl ?_
  refine x_getR (p' := 59) hC fk_RX11_55 rfl (dAt dd_X11_becomes 37 rfl) rfl (fun r16 => ?_)
  refine x_iload_n (p' := 60) hC 2 (dAt dd_X11_becomes 38 rfl) rfl rfl rfl ?_
  refine x_iaload (p' := 61) hC (dAt dd_X11_becomes 39 rfl) rfl (fun v17 => ?_)
  refine x_iastore (p' := 62) hC (dAt dd_X11_becomes 40 rfl) rfl (fun h18 => ?_)
  refine x_iconst (v := 0) (p' := 63) hC (dAt dd_X11_becomes 41 rfl) (by decide) rfl ?_
  refine x_istore_n (j := 3) (lv' := [(3, .int 0), (2, .int ((36 * v1) + v4)), (0, va_rf (some a0)), (1, .int p1)]) (p' := 64) hC (dAt dd_X11_becomes 42 rfl) rfl (by decide) rfl rfl ?_
  refine x_sub [2, 3, 1, 0] rfl ?_
  exact t_X11_becomes_L64 hC f_X11_becomes_J120 (t_X11_becomes_J120 hC) FU a0 p1 ((36 * v1) + v4) 0 h18
set_option maxHeartbeats 4000000 in
set_option maxRecDepth 100000 in
theorem t_X11_approve_L75 {C : CT} (hC : OKC C yX11_approve cX11_approve 8 (some .int) 3 75) (k109 : Nat → Int32 → Int32 → Int32 → Int32 → AH → RX Int32) (hk109 : ∀ (x0 : Nat) (x1 : Int32) (x4 : Int32) (x5 : Int32) (x6 : Int32) (h : AH), WX rvI C 109 [(0, va_rf (some x0)), (1, .int x1), (4, .int x4), (5, .int x5), (6, .int x6)] [] h (k109 x0 x1 x4 x5 x6 h)) : ∀ (n : Nat) (x0 : Nat) (x1 : Int32) (x4 : Int32) (x5 : Int32) (x6 : Int32) (x7 : Int32) (h : AH), WX rvI C 75 [(0, va_rf (some x0)), (1, .int x1), (4, .int x4), (5, .int x5), (6, .int x6), (7, .int x7)] [] h (f_X11_approve_L75 k109 n x0 x1 x4 x5 x6 x7 h) := by
  intro n
  induction n with
  | zero => intro _ _ _ _ _ _ _; exact x_none
  | succ n ih =>
    intro x0 x1 x4 x5 x6 x7 h
    rw [f_X11_approve_L75]
    refine x_iload (p' := 77) hC 5 (dAt dd_X11_approve 44 rfl) rfl rfl ?_
    refine x_aload_n (p' := 78) hC 0 (dAt dd_X11_approve 45 rfl) rfl rfl rfl ?_
    refine x_getI (p' := 81) hC fk_RX11_217 rfl (dAt dd_X11_approve 46 rfl) rfl (fun v13 => ?_)
    refine x_icmp_ge (tgt := 109) (p' := 84) hC (dAt dd_X11_approve 47 rfl) (by decide) rfl ?_ ?_
    · refine x_sub [0, 1, 2, 3, 4] rfl ?_
      exact hk109 x0 x1 x4 x5 x6 h
    · refine x_aload_n (p' := 85) hC 0 (dAt dd_X11_approve 48 rfl) rfl rfl rfl ?_
      refine x_getR (p' := 88) hC fk_RX11_104 rfl (dAt dd_X11_approve 49 rfl) rfl (fun r14 => ?_)
      refine x_iload (p' := 90) hC 5 (dAt dd_X11_approve 50 rfl) rfl rfl ?_
      refine x_iload (p' := 92) hC 5 (dAt dd_X11_approve 51 rfl) rfl rfl ?_
      refine x_iload (p' := 94) hC 2 (dAt dd_X11_approve 52 rfl) rfl rfl ?_
      refine x_icmp_ne (tgt := 101) (p' := 97) hC (dAt dd_X11_approve 53 rfl) (by decide) rfl ?_ ?_
      · refine x_iconst (v := 0) (p' := 102) hC (dAt dd_X11_approve 56 rfl) (by decide) rfl ?_
        refine x_bastore (p' := 103) hC (dAt dd_X11_approve 57 rfl) rfl (fun h15 => ?_)
        refine x_iinc (w := (x7 + 1)) (lv' := [(7, .int (x7 + 1)), (0, va_rf (some x0)), (1, .int x1), (4, .int x4), (5, .int x5), (6, .int x6)]) (p' := 106) hC 5 (dAt dd_X11_approve 58 rfl) rfl rfl (by decide) rfl rfl ?_
        refine x_goto (tgt := 75) hC (dAt dd_X11_approve 59 rfl) (by decide) ?_
        refine x_sub [1, 2, 3, 4, 5, 0] rfl ?_
        exact ih x0 x1 x4 x5 x6 (x7 + 1) h15
      · refine x_iconst (v := 1) (p' := 98) hC (dAt dd_X11_approve 54 rfl) (by decide) rfl ?_
        refine x_goto (tgt := 102) hC (dAt dd_X11_approve 55 rfl) (by decide) ?_
        refine x_bastore (p' := 103) hC (dAt dd_X11_approve 57 rfl) rfl (fun h16 => ?_)
        refine x_iinc (w := (x7 + 1)) (lv' := [(7, .int (x7 + 1)), (0, va_rf (some x0)), (1, .int x1), (4, .int x4), (5, .int x5), (6, .int x6)]) (p' := 106) hC 5 (dAt dd_X11_approve 58 rfl) rfl rfl (by decide) rfl rfl ?_
        refine x_goto (tgt := 75) hC (dAt dd_X11_approve 59 rfl) (by decide) ?_
        refine x_sub [1, 2, 3, 4, 5, 0] rfl ?_
        exact ih x0 x1 x4 x5 x6 (x7 + 1) h16
set_option maxHeartbeats 4000000 in
set_option maxRecDepth 100000 in
theorem t_X11_approve_J109 {C : CT} (hC : OKC C yX11_approve cX11_approve 8 (some .int) 3 75)   : ∀ (x0 : Nat) (x1 : Int32) (x4 : Int32) (x5 : Int32) (x6 : Int32) (h : AH), WX rvI C 109 [(0, va_rf (some x0)), (1, .int x1), (4, .int x4), (5, .int x5), (6, .int x6)] [] h (f_X11_approve_J109 x0 x1 x4 x5 x6 h) := by
  intro x0 x1 x4 x5 x6 h
  unfold f_X11_approve_J109
  refine x_aload_n (p' := 110) hC 0 (dAt dd_X11_approve 60 rfl) rfl rfl rfl ?_
  refine x_iload (p' := 112) hC 4 (dAt dd_X11_approve 61 rfl) rfl rfl ?_
  refine x_callVI (As := [.int x6]) (z := fun b => f_X11_make h b x6) (p' := 115) hC (fun b => c_X11_make _ _ _ h b x6) k_1073 k_1075 (k_sl 52 rfl) k_9 k_1076 hd_X11_make ⟨by decide, by decide⟩ (ci := 10) rfl rfl (by decide) rfl (Nat.le_of_ble_eq_true rfl) rfl (dAt dd_X11_approve 62 rfl) rfl (fun v17 h18 => ?_)
  refine x_if_ne (tgt := 121) (p' := 118) hC (dAt dd_X11_approve 63 rfl) (by decide) rfl ?_ ?_
  · refine x_aload_n (p' := 122) hC 0 (dAt dd_X11_approve 66 rfl) rfl rfl rfl ?_
    refine x_getI (p' := 125) hC fk_RX11_251 rfl (dAt dd_X11_approve 67 rfl) rfl (fun v19 => ?_)
    refine x_bipush (v := 100) (p' := 127) hC (dAt dd_X11_approve 68 rfl) (by decide) rfl ?_
    refine x_icmp_ne (tgt := 134) (p' := 130) hC (dAt dd_X11_approve 69 rfl) (by decide) rfl ?_ ?_
    · refine x_aload_n (p' := 135) hC 0 (dAt dd_X11_approve 72 rfl) rfl rfl rfl ?_
      refine x_iload_n (p' := 136) hC 1 (dAt dd_X11_approve 73 rfl) rfl rfl rfl ?_
      refine x_iload (p' := 138) hC 4 (dAt dd_X11_approve 74 rfl) rfl rfl ?_
      refine x_iload (p' := 140) hC 2 (dAt dd_X11_approve 75 rfl) rfl rfl ?_
      refine x_callVV (As := [.int x1, .int x6, .int x4]) (z := fun b => f_X11_see h18 b x1 x6 x4) (p' := 143) hC (fun b => c_X11_see _ _ _ h18 b x1 x6 x4) k_1061 k_1063 (k_sl 50 rfl) k_9 k_1064 hd_X11_see ⟨by decide, by decide⟩ (ci := 10) rfl rfl (by decide) rfl (Nat.le_of_ble_eq_true rfl) rfl (dAt dd_X11_approve 76 rfl) rfl (fun u20 h21 => ?_)
      refine x_aload_n (p' := 144) hC 0 (dAt dd_X11_approve 77 rfl) rfl rfl rfl ?_
      refine x_iload_n (p' := 145) hC 1 (dAt dd_X11_approve 78 rfl) rfl rfl rfl ?_
      refine x_iload (p' := 147) hC 3 (dAt dd_X11_approve 79 rfl) rfl rfl ?_
      refine x_callVV (As := [.int x1, .int x5]) (z := fun b => f_X11_begins h21 b x1 x5) (p' := 150) hC (fun b => c_X11_begins _ _ _ h21 b x1 x5) k_1078 k_1080 (k_sl 53 rfl) k_9 k_1081 hd_X11_begins ⟨by decide, by decide⟩ (ci := 10) rfl rfl (by decide) rfl (Nat.le_of_ble_eq_true rfl) rfl (dAt dd_X11_approve 80 rfl) rfl (fun u22 h23 => ?_)
      refine x_aload_n (p' := 151) hC 0 (dAt dd_X11_approve 81 rfl) rfl rfl rfl ?_
      refine x_getR (p' := 154) hC fk_RX11_116 rfl (dAt dd_X11_approve 82 rfl) rfl (fun r24 => ?_)
      refine x_aload_n (p' := 155) hC 0 (dAt dd_X11_approve 83 rfl) rfl rfl rfl ?_
      refine x_getI (p' := 158) hC fk_RX11_251 rfl (dAt dd_X11_approve 84 rfl) rfl (fun v25 => ?_)
      refine x_iconst (v := 1) (p' := 159) hC (dAt dd_X11_approve 85 rfl) (by decide) rfl ?_
      refine x_iastore (p' := 160) hC (dAt dd_X11_approve 86 rfl) rfl (fun h26 => ?_)
      refine x_aload_n (p' := 161) hC 0 (dAt dd_X11_approve 87 rfl) rfl rfl rfl ?_
      refine x_iload (p' := 163) hC 4 (dAt dd_X11_approve 88 rfl) rfl rfl ?_
      refine x_callVV (As := [.int x6]) (z := fun b => f_X11_becomes h26 b x6) (p' := 166) hC (fun b => c_X11_becomes _ _ _ h26 b x6) k_1082 k_1084 (k_sl 54 rfl) k_9 k_1085 hd_X11_becomes ⟨by decide, by decide⟩ (ci := 10) rfl rfl (by decide) rfl (Nat.le_of_ble_eq_true rfl) rfl (dAt dd_X11_approve 89 rfl) rfl (fun u27 h28 => ?_)
      refine x_aload_n (p' := 167) hC 0 (dAt dd_X11_approve 90 rfl) rfl rfl rfl ?_
      refine x_dup (p' := 168) hC (dAt dd_X11_approve 91 rfl) (x_cat _) rfl ?_
      refine x_getI (p' := 171) hC fk_RX11_251 rfl (dAt dd_X11_approve 92 rfl) rfl (fun v29 => ?_)
      refine x_iconst (v := 1) (p' := 172) hC (dAt dd_X11_approve 93 rfl) (by decide) rfl ?_
      refine x_iadd (p' := 173) hC (dAt dd_X11_approve 94 rfl) rfl ?_
      refine x_putI (p' := 176) hC fk_RX11_251 tk_RX11 rfl rfl (Or.inl rfl) (dAt dd_X11_approve 95 rfl) rfl (fun h30 => ?_)
      refine x_aload_n (p' := 177) hC 0 (dAt dd_X11_approve 96 rfl) rfl rfl rfl ?_
      refine x_getI (p' := 180) hC fk_RX11_251 rfl (dAt dd_X11_approve 97 rfl) rfl (fun v31 => ?_)
      refine x_iconst (v := 1) (p' := 181) hC (dAt dd_X11_approve 98 rfl) (by decide) rfl ?_
      refine x_isub (p' := 182) hC (dAt dd_X11_approve 99 rfl) rfl ?_
      exact x_ireturn hC (dAt dd_X11_approve 100 rfl)
    · refine x_ldc_w (v := (-1000003)) (p' := 133) hC (dAt dd_X11_approve 70 rfl) k_1077 rfl ?_
      exact x_ireturn hC (dAt dd_X11_approve 71 rfl)
  · refine x_ldc (v := (-1000002)) (p' := 120) hC (dAt dd_X11_approve 64 rfl) k_944 rfl ?_
    exact x_ireturn hC (dAt dd_X11_approve 65 rfl)
set_option maxHeartbeats 4000000 in
set_option maxRecDepth 100000 in
theorem c_X11_approve (l : Launch) (D : va_G) (cy : Nat → ClassId) (h : AH) (a0 : Nat) (p1 : Int32) (p2 : Int32) (p3 : Int32) (p4 : Int32) (p5 : Int32) : MX rvI l yX11_approve (Cond.code yX11_approve cX11_approve 8 (some .int) :: LW) 3 75 D cy h [va_rf (some a0), .int p1, .int p2, .int p3, .int p4, .int p5] (f_X11_approve h a0 p1 p2 p3 p4 p5) := by
  refine MX.of (lv := [(0, va_rf (some a0)), (1, .int p1), (2, .int p2), (3, .int p3), (4, .int p4), (5, .int p5)]) (by decide) (Nat.le_of_ble_eq_true rfl) rfl (fun C hC _ => ?_)
  unfold f_X11_approve
  refine x_aload_n (p' := 1) hC 0 (dAt dd_X11_approve 0 rfl) rfl rfl rfl ?_
  refine x_iconst (v := 0) (p' := 2) hC (dAt dd_X11_approve 1 rfl) (by decide) rfl ?_
  refine x_putI (p' := 5) hC fk_RX11_1 tk_RX11 rfl rfl (Or.inl rfl) (dAt dd_X11_approve 2 rfl) rfl (fun h1 => ?_)
  refine x_iload_n (p' := 6) hC 1 (dAt dd_X11_approve 3 rfl) rfl rfl rfl ?_
  refine x_i2l (p' := 7) hC (dAt dd_X11_approve 4 rfl) rfl ?_
  refine x_lconst (v := 0) (p' := 8) hC (dAt dd_X11_approve 5 rfl) (by decide) rfl ?_
  refine x_ldc2_w (v := 3) (p' := 11) hC (dAt dd_X11_approve 6 rfl) k_1015 rfl ?_
  refine x_callSI (As := [.long (Int32.toInt64 p1), .long 0, .long 3]) (p' := 14) hC (c_X11_in _ _ _ h1 (Int32.toInt64 p1) 0 3) k_914 k_915 k_9 k_916 hd_X11_in ⟨by decide, by decide⟩ rfl (Nat.le_of_ble_eq_true rfl) rfl (dAt dd_X11_approve 7 rfl) rfl (fun v2 h3 => ?_)
  refine x_if_eq (tgt := 36) (p' := 17) hC (dAt dd_X11_approve 8 rfl) (by decide) rfl ?_ ?_
  · refine x_ldc (v := (-1000001)) (p' := 38) hC (dAt dd_X11_approve 19 rfl) k_918 rfl ?_
    exact x_ireturn hC (dAt dd_X11_approve 20 rfl)
  · refine x_iload_n (p' := 18) hC 2 (dAt dd_X11_approve 9 rfl) rfl rfl rfl ?_
    refine x_iload_n (p' := 19) hC 3 (dAt dd_X11_approve 10 rfl) rfl rfl rfl ?_
    refine x_callSI (As := [.int p2, .int p3]) (p' := 22) hC (c_X11_isSlot _ _ _ h3 p2 p3) k_966 k_967 k_9 k_968 hd_X11_isSlot ⟨by decide, by decide⟩ rfl (Nat.le_of_ble_eq_true rfl) rfl (dAt dd_X11_approve 11 rfl) rfl (fun v4 h5 => ?_)
    refine x_if_eq (tgt := 36) (p' := 25) hC (dAt dd_X11_approve 12 rfl) (by decide) rfl ?_ ?_
    · refine x_ldc (v := (-1000001)) (p' := 38) hC (dAt dd_X11_approve 19 rfl) k_918 rfl ?_
      exact x_ireturn hC (dAt dd_X11_approve 20 rfl)
    · refine x_iload (p' := 27) hC 5 (dAt dd_X11_approve 13 rfl) rfl rfl ?_
      refine x_i2l (p' := 28) hC (dAt dd_X11_approve 14 rfl) rfl ?_
      refine x_lconst (v := 0) (p' := 29) hC (dAt dd_X11_approve 15 rfl) (by decide) rfl ?_
      refine x_lconst (v := 1) (p' := 30) hC (dAt dd_X11_approve 16 rfl) (by decide) rfl ?_
      refine x_callSI (As := [.long (Int32.toInt64 p5), .long 0, .long 1]) (p' := 33) hC (c_X11_in _ _ _ h5 (Int32.toInt64 p5) 0 1) k_914 k_915 k_9 k_916 hd_X11_in ⟨by decide, by decide⟩ rfl (Nat.le_of_ble_eq_true rfl) rfl (dAt dd_X11_approve 17 rfl) rfl (fun v6 h7 => ?_)
      refine x_if_ne (tgt := 39) (p' := 36) hC (dAt dd_X11_approve 18 rfl) (by decide) rfl ?_ ?_
      · refine x_iconst (v := 3) (p' := 40) hC (dAt dd_X11_approve 21 rfl) (by decide) rfl ?_
        refine x_iload_n (p' := 41) hC 2 (dAt dd_X11_approve 22 rfl) rfl rfl rfl ?_
        refine x_imul (p' := 42) hC (dAt dd_X11_approve 23 rfl) rfl ?_
        refine x_iload_n (p' := 43) hC 3 (dAt dd_X11_approve 24 rfl) rfl rfl rfl ?_
        refine x_iadd (p' := 44) hC (dAt dd_X11_approve 25 rfl) rfl ?_
        refine x_istore (lv' := [(6, .int ((3 * p2) + p3)), (0, va_rf (some a0)), (1, .int p1), (2, .int p2), (3, .int p3), (4, .int p4), (5, .int p5)]) (p' := 46) hC (dAt dd_X11_approve 26 rfl) (by decide) rfl rfl ?_
        refine x_aload_n (p' := 47) hC 1 (dAt dd_X11_approve 27 rfl) rfl rfl rfl ?_
        refine x_iload (p' := 49) hC 0 (dAt dd_X11_approve 28 rfl) rfl rfl ?_
        refine x_callVV (As := [.int ((3 * p2) + p3)]) (z := fun b => f_X11_findChanges h7 b ((3 * p2) + p3)) (p' := 52) hC (fun b => c_X11_findChanges _ _ _ h7 b ((3 * p2) + p3)) k_1032 k_1034 (k_sl 47 rfl) k_9 k_1035 hd_X11_findChanges ⟨by decide, by decide⟩ (ci := 10) rfl rfl (by decide) rfl (Nat.le_of_ble_eq_true rfl) rfl (dAt dd_X11_approve 29 rfl) rfl (fun u8 h9 => ?_)
        refine x_iload (p' := 54) hC 5 (dAt dd_X11_approve 30 rfl) rfl rfl ?_
        refine x_i2l (p' := 55) hC (dAt dd_X11_approve 31 rfl) rfl ?_
        refine x_lconst (v := 0) (p' := 56) hC (dAt dd_X11_approve 32 rfl) (by decide) rfl ?_
        refine x_aload_n (p' := 57) hC 1 (dAt dd_X11_approve 33 rfl) rfl rfl rfl ?_
        refine x_getI (p' := 60) hC fk_RX11_217 rfl (dAt dd_X11_approve 34 rfl) rfl (fun v10 => ?_)
        refine x_iconst (v := 1) (p' := 61) hC (dAt dd_X11_approve 35 rfl) (by decide) rfl ?_
        refine x_isub (p' := 62) hC (dAt dd_X11_approve 36 rfl) rfl ?_
        refine x_i2l (p' := 63) hC (dAt dd_X11_approve 37 rfl) rfl ?_
        refine x_callSI (As := [.long (Int32.toInt64 p4), .long 0, .long (Int32.toInt64 (v10 - 1))]) (p' := 66) hC (c_X11_in _ _ _ h9 (Int32.toInt64 p4) 0 (Int32.toInt64 (v10 - 1))) k_914 k_915 k_9 k_916 hd_X11_in ⟨by decide, by decide⟩ rfl (Nat.le_of_ble_eq_true rfl) rfl (dAt dd_X11_approve 38 rfl) rfl (fun v11 h12 => ?_)
        refine x_if_ne (tgt := 72) (p' := 69) hC (dAt dd_X11_approve 39 rfl) (by decide) rfl ?_ ?_
        · refine x_iconst (v := 0) (p' := 73) hC (dAt dd_X11_approve 42 rfl) (by decide) rfl ?_
          refine x_istore (lv' := [(7, .int 0), (6, .int ((3 * p2) + p3)), (0, va_rf (some a0)), (1, .int p1), (2, .int p2), (3, .int p3), (4, .int p4), (5, .int p5)]) (p' := 75) hC (dAt dd_X11_approve 43 rfl) (by decide) rfl rfl ?_
          refine x_sub [2, 3, 6, 7, 1, 0] rfl ?_
          exact t_X11_approve_L75 hC f_X11_approve_J109 (t_X11_approve_J109 hC) FU a0 p1 p4 p5 ((3 * p2) + p3) 0 h12
        · refine x_ldc (v := (-1000001)) (p' := 71) hC (dAt dd_X11_approve 40 rfl) k_918 rfl ?_
          exact x_ireturn hC (dAt dd_X11_approve 41 rfl)
      · refine x_ldc (v := (-1000001)) (p' := 38) hC (dAt dd_X11_approve 19 rfl) k_918 rfl ?_
        exact x_ireturn hC (dAt dd_X11_approve 20 rfl)
set_option maxHeartbeats 4000000 in
set_option maxRecDepth 100000 in
theorem t_X11_choose_L7 {C : CT} (hC : OKC C yX11_choose cX11_choose 5 (some .int) 3 74) (k28 : Nat → Int32 → Int32 → AH → RX Int32) (hk28 : ∀ (x0 : Nat) (x1 : Int32) (x2 : Int32) (h : AH), WX rvI C 28 [(0, va_rf (some x0)), (1, .int x1), (2, .int x2)] [] h (k28 x0 x1 x2 h)) : ∀ (n : Nat) (x0 : Nat) (x1 : Int32) (x2 : Int32) (x3 : Int32) (h : AH), WX rvI C 7 [(0, va_rf (some x0)), (1, .int x1), (2, .int x2), (3, .int x3)] [] h (f_X11_choose_L7 k28 n x0 x1 x2 x3 h) := by
  intro n
  induction n with
  | zero => intro _ _ _ _ _; exact x_none
  | succ n ih =>
    intro x0 x1 x2 x3 h
    rw [f_X11_choose_L7]
    refine x_iload_n (p' := 8) hC 3 (dAt dd_X11_choose 5 rfl) rfl rfl rfl ?_
    refine x_aload_n (p' := 9) hC 0 (dAt dd_X11_choose 6 rfl) rfl rfl rfl ?_
    refine x_getI (p' := 12) hC fk_RX11_217 rfl (dAt dd_X11_choose 7 rfl) rfl (fun v3 => ?_)
    refine x_icmp_ge (tgt := 28) (p' := 15) hC (dAt dd_X11_choose 8 rfl) (by decide) rfl ?_ ?_
    · refine x_sub [0, 1, 2] rfl ?_
      exact hk28 x0 x1 x2 h
    · refine x_aload_n (p' := 16) hC 0 (dAt dd_X11_choose 9 rfl) rfl rfl rfl ?_
      refine x_getR (p' := 19) hC fk_RX11_104 rfl (dAt dd_X11_choose 10 rfl) rfl (fun r4 => ?_)
      refine x_iload_n (p' := 20) hC 3 (dAt dd_X11_choose 11 rfl) rfl rfl rfl ?_
      refine x_iconst (v := 0) (p' := 21) hC (dAt dd_X11_choose 12 rfl) (by decide) rfl ?_
      refine x_bastore (p' := 22) hC (dAt dd_X11_choose 13 rfl) rfl (fun h5 => ?_)
      refine x_iinc (w := (x3 + 1)) (lv' := [(3, .int (x3 + 1)), (0, va_rf (some x0)), (1, .int x1), (2, .int x2)]) (p' := 25) hC 3 (dAt dd_X11_choose 14 rfl) rfl rfl (by decide) rfl rfl ?_
      refine x_goto (tgt := 7) hC (dAt dd_X11_choose 15 rfl) (by decide) ?_
      refine x_sub [1, 2, 3, 0] rfl ?_
      exact ih x0 x1 x2 (x3 + 1) h5
set_option maxHeartbeats 4000000 in
set_option maxRecDepth 100000 in
theorem t_X11_choose_L33 {C : CT} (hC : OKC C yX11_choose cX11_choose 5 (some .int) 3 74)   : ∀ (n : Nat) (x0 : Nat) (x1 : Int32) (x2 : Int32) (x3 : Int32) (x4 : Int32) (h : AH), WX rvI C 33 [(0, va_rf (some x0)), (1, .int x1), (2, .int x2), (3, .int x3), (4, .int x4)] [] h (f_X11_choose_L33 n x0 x1 x2 x3 x4 h) := by
  intro n
  induction n with
  | zero => intro _ _ _ _ _ _; exact x_none
  | succ n ih =>
    intro x0 x1 x2 x3 x4 h
    rw [f_X11_choose_L33]
    refine x_iload (p' := 35) hC 4 (dAt dd_X11_choose 20 rfl) rfl rfl ?_
    refine x_aload_n (p' := 36) hC 0 (dAt dd_X11_choose 21 rfl) rfl rfl rfl ?_
    refine x_getI (p' := 39) hC fk_RX11_223 rfl (dAt dd_X11_choose 22 rfl) rfl (fun v6 => ?_)
    refine x_icmp_ge (tgt := 86) (p' := 42) hC (dAt dd_X11_choose 23 rfl) (by decide) rfl ?_ ?_
    · refine x_iload_n (p' := 87) hC 3 (dAt dd_X11_choose 47 rfl) rfl rfl rfl ?_
      exact x_ireturn hC (dAt dd_X11_choose 48 rfl)
    · refine x_aload_n (p' := 43) hC 0 (dAt dd_X11_choose 24 rfl) rfl rfl rfl ?_
      refine x_getR (p' := 46) hC fk_RX11_80 rfl (dAt dd_X11_choose 25 rfl) rfl (fun r7 => ?_)
      refine x_iload (p' := 48) hC 4 (dAt dd_X11_choose 26 rfl) rfl rfl ?_
      refine x_iaload (p' := 49) hC (dAt dd_X11_choose 27 rfl) rfl (fun v8 => ?_)
      refine x_iload_n (p' := 50) hC 1 (dAt dd_X11_choose 28 rfl) rfl rfl rfl ?_
      refine x_icmp_ne (tgt := 80) (p' := 53) hC (dAt dd_X11_choose 29 rfl) (by decide) rfl ?_ ?_
      · refine x_iinc (w := (x4 + 1)) (lv' := [(4, .int (x4 + 1)), (0, va_rf (some x0)), (1, .int x1), (2, .int x2), (3, .int x3)]) (p' := 83) hC 4 (dAt dd_X11_choose 45 rfl) rfl rfl (by decide) rfl rfl ?_
        refine x_goto (tgt := 33) hC (dAt dd_X11_choose 46 rfl) (by decide) ?_
        refine x_sub [1, 2, 3, 4, 0] rfl ?_
        exact ih x0 x1 x2 x3 (x4 + 1) h
      · refine x_aload_n (p' := 54) hC 0 (dAt dd_X11_choose 30 rfl) rfl rfl rfl ?_
        refine x_getR (p' := 57) hC fk_RX11_95 rfl (dAt dd_X11_choose 31 rfl) rfl (fun r9 => ?_)
        refine x_iload (p' := 59) hC 4 (dAt dd_X11_choose 32 rfl) rfl rfl ?_
        refine x_iaload (p' := 60) hC (dAt dd_X11_choose 33 rfl) rfl (fun v10 => ?_)
        refine x_iload_n (p' := 61) hC 2 (dAt dd_X11_choose 34 rfl) rfl rfl rfl ?_
        refine x_icmp_ne (tgt := 80) (p' := 64) hC (dAt dd_X11_choose 35 rfl) (by decide) rfl ?_ ?_
        · refine x_iinc (w := (x4 + 1)) (lv' := [(4, .int (x4 + 1)), (0, va_rf (some x0)), (1, .int x1), (2, .int x2), (3, .int x3)]) (p' := 83) hC 4 (dAt dd_X11_choose 45 rfl) rfl rfl (by decide) rfl rfl ?_
          refine x_goto (tgt := 33) hC (dAt dd_X11_choose 46 rfl) (by decide) ?_
          refine x_sub [1, 2, 3, 4, 0] rfl ?_
          exact ih x0 x1 x2 x3 (x4 + 1) h
        · refine x_aload_n (p' := 65) hC 0 (dAt dd_X11_choose 36 rfl) rfl rfl rfl ?_
          refine x_getR (p' := 68) hC fk_RX11_104 rfl (dAt dd_X11_choose 37 rfl) rfl (fun r11 => ?_)
          refine x_aload_n (p' := 69) hC 0 (dAt dd_X11_choose 38 rfl) rfl rfl rfl ?_
          refine x_getR (p' := 72) hC fk_RX11_83 rfl (dAt dd_X11_choose 39 rfl) rfl (fun r12 => ?_)
          refine x_iload (p' := 74) hC 4 (dAt dd_X11_choose 40 rfl) rfl rfl ?_
          refine x_iaload (p' := 75) hC (dAt dd_X11_choose 41 rfl) rfl (fun v13 => ?_)
          refine x_iconst (v := 1) (p' := 76) hC (dAt dd_X11_choose 42 rfl) (by decide) rfl ?_
          refine x_bastore (p' := 77) hC (dAt dd_X11_choose 43 rfl) rfl (fun h14 => ?_)
          refine x_iinc (w := (x3 + 1)) (lv' := [(3, .int (x3 + 1)), (0, va_rf (some x0)), (1, .int x1), (2, .int x2), (4, .int x4)]) (p' := 80) hC 3 (dAt dd_X11_choose 44 rfl) rfl rfl (by decide) rfl rfl ?_
          refine x_iinc (w := (x4 + 1)) (lv' := [(4, .int (x4 + 1)), (3, .int (x3 + 1)), (0, va_rf (some x0)), (1, .int x1), (2, .int x2)]) (p' := 83) hC 4 (dAt dd_X11_choose 45 rfl) rfl rfl (by decide) rfl rfl ?_
          refine x_goto (tgt := 33) hC (dAt dd_X11_choose 46 rfl) (by decide) ?_
          refine x_sub [2, 3, 4, 1, 0] rfl ?_
          exact ih x0 x1 x2 (x3 + 1) (x4 + 1) h14
set_option maxHeartbeats 4000000 in
set_option maxRecDepth 100000 in
theorem t_X11_choose_J28 {C : CT} (hC : OKC C yX11_choose cX11_choose 5 (some .int) 3 74)   : ∀ (x0 : Nat) (x1 : Int32) (x2 : Int32) (h : AH), WX rvI C 28 [(0, va_rf (some x0)), (1, .int x1), (2, .int x2)] [] h (f_X11_choose_J28 x0 x1 x2 h) := by
  intro x0 x1 x2 h
  unfold f_X11_choose_J28
  refine x_iconst (v := 0) (p' := 29) hC (dAt dd_X11_choose 16 rfl) (by decide) rfl ?_
  refine x_istore_n (j := 3) (lv' := [(3, .int 0), (0, va_rf (some x0)), (1, .int x1), (2, .int x2)]) (p' := 30) hC (dAt dd_X11_choose 17 rfl) rfl (by decide) rfl rfl ?_
  refine x_iconst (v := 0) (p' := 31) hC (dAt dd_X11_choose 18 rfl) (by decide) rfl ?_
  refine x_istore (lv' := [(4, .int 0), (3, .int 0), (0, va_rf (some x0)), (1, .int x1), (2, .int x2)]) (p' := 33) hC (dAt dd_X11_choose 19 rfl) (by decide) rfl rfl ?_
  refine x_sub [2, 3, 4, 1, 0] rfl ?_
  exact t_X11_choose_L33 hC FU x0 x1 x2 0 0 h
set_option maxHeartbeats 4000000 in
set_option maxRecDepth 100000 in
theorem c_X11_choose (l : Launch) (D : va_G) (cy : Nat → ClassId) (h : AH) (a0 : Nat) (p1 : Int32) (p2 : Int32) : MX rvI l yX11_choose (Cond.code yX11_choose cX11_choose 5 (some .int) :: LW) 3 74 D cy h [va_rf (some a0), .int p1, .int p2] (f_X11_choose h a0 p1 p2) := by
  refine MX.of (lv := [(0, va_rf (some a0)), (1, .int p1), (2, .int p2)]) (by decide) (Nat.le_of_ble_eq_true rfl) rfl (fun C hC _ => ?_)
  unfold f_X11_choose
  refine x_aload_n (p' := 1) hC 0 (dAt dd_X11_choose 0 rfl) rfl rfl rfl ?_
  refine x_iload_n (p' := 2) hC 1 (dAt dd_X11_choose 1 rfl) rfl rfl rfl ?_
  refine x_callVV (As := [.int p1]) (z := fun b => f_X11_findChanges h b p1) (p' := 5) hC (fun b => c_X11_findChanges _ _ _ h b p1) k_1032 k_1034 (k_sl 47 rfl) k_9 k_1035 hd_X11_findChanges ⟨by decide, by decide⟩ (ci := 10) rfl rfl (by decide) rfl (Nat.le_of_ble_eq_true rfl) rfl (dAt dd_X11_choose 2 rfl) rfl (fun u1 h2 => ?_)
  refine x_iconst (v := 0) (p' := 6) hC (dAt dd_X11_choose 3 rfl) (by decide) rfl ?_
  refine x_istore_n (j := 3) (lv' := [(3, .int 0), (0, va_rf (some a0)), (1, .int p1), (2, .int p2)]) (p' := 7) hC (dAt dd_X11_choose 4 rfl) rfl (by decide) rfl rfl ?_
  refine x_sub [1, 2, 3, 0] rfl ?_
  exact t_X11_choose_L7 hC f_X11_choose_J28 (t_X11_choose_J28 hC) FU a0 p1 p2 0 h2
set_option maxHeartbeats 4000000 in
set_option maxRecDepth 100000 in
theorem t_X11_approveAll_L53 {C : CT} (hC : OKC C yX11_approveAll cX11_approveAll 7 (some .int) 4 98) (k88 : Nat → Int32 → Int32 → Int32 → AH → RX Int32) (hk88 : ∀ (x0 : Nat) (x1 : Int32) (x2 : Int32) (x3 : Int32) (h : AH), WX rvI C 88 [(0, va_rf (some x0)), (1, .int x1), (2, .int x2), (3, .int x3)] [] h (k88 x0 x1 x2 x3 h)) : ∀ (n : Nat) (x0 : Nat) (x1 : Int32) (x2 : Int32) (x3 : Int32) (x4 : Int32) (h : AH), WX rvI C 53 [(0, va_rf (some x0)), (1, .int x1), (2, .int x2), (3, .int x3), (4, .int x4)] [] h (f_X11_approveAll_L53 k88 n x0 x1 x2 x3 x4 h) := by
  intro n
  induction n with
  | zero => intro _ _ _ _ _ _; exact x_none
  | succ n ih =>
    intro x0 x1 x2 x3 x4 h
    rw [f_X11_approveAll_L53]
    refine x_iload (p' := 55) hC 4 (dAt dd_X11_approveAll 31 rfl) rfl rfl ?_
    refine x_bipush (v := 36) (p' := 57) hC (dAt dd_X11_approveAll 32 rfl) (by decide) rfl ?_
    refine x_icmp_ge (tgt := 88) (p' := 60) hC (dAt dd_X11_approveAll 33 rfl) (by decide) rfl ?_ ?_
    · refine x_sub [0, 1, 2, 3] rfl ?_
      exact hk88 x0 x1 x2 x3 h
    · refine x_aload_n (p' := 61) hC 0 (dAt dd_X11_approveAll 34 rfl) rfl rfl rfl ?_
      refine x_iload (p' := 63) hC 4 (dAt dd_X11_approveAll 35 rfl) rfl rfl ?_
      refine x_iload_n (p' := 64) hC 2 (dAt dd_X11_approveAll 36 rfl) rfl rfl rfl ?_
      refine x_callVI (As := [.int x4, .int x2]) (z := fun b => f_X11_choose h b x4 x2) (p' := 67) hC (fun b => c_X11_choose _ _ _ h b x4 x2) k_1090 k_1092 (k_sl 55 rfl) k_9 k_1093 hd_X11_choose ⟨by decide, by decide⟩ (ci := 10) rfl rfl (by decide) rfl (Nat.le_of_ble_eq_true rfl) rfl (dAt dd_X11_approveAll 37 rfl) rfl (fun v11 h12 => ?_)
      refine x_if_le (tgt := 82) (p' := 70) hC (dAt dd_X11_approveAll 38 rfl) (by decide) rfl ?_ ?_
      · refine x_iinc (w := (x4 + 1)) (lv' := [(4, .int (x4 + 1)), (0, va_rf (some x0)), (1, .int x1), (2, .int x2), (3, .int x3)]) (p' := 85) hC 4 (dAt dd_X11_approveAll 45 rfl) rfl rfl (by decide) rfl rfl ?_
        refine x_goto (tgt := 53) hC (dAt dd_X11_approveAll 46 rfl) (by decide) ?_
        refine x_sub [1, 2, 3, 4, 0] rfl ?_
        exact ih x0 x1 x2 x3 (x4 + 1) h12
      · refine x_aload_n (p' := 71) hC 0 (dAt dd_X11_approveAll 39 rfl) rfl rfl rfl ?_
        refine x_iload (p' := 73) hC 4 (dAt dd_X11_approveAll 40 rfl) rfl rfl ?_
        refine x_callVI (As := [.int x4]) (z := fun b => f_X11_make h12 b x4) (p' := 76) hC (fun b => c_X11_make _ _ _ h12 b x4) k_1073 k_1075 (k_sl 52 rfl) k_9 k_1076 hd_X11_make ⟨by decide, by decide⟩ (ci := 10) rfl rfl (by decide) rfl (Nat.le_of_ble_eq_true rfl) rfl (dAt dd_X11_approveAll 41 rfl) rfl (fun v13 h14 => ?_)
        refine x_if_ne (tgt := 82) (p' := 79) hC (dAt dd_X11_approveAll 42 rfl) (by decide) rfl ?_ ?_
        · refine x_iinc (w := (x4 + 1)) (lv' := [(4, .int (x4 + 1)), (0, va_rf (some x0)), (1, .int x1), (2, .int x2), (3, .int x3)]) (p' := 85) hC 4 (dAt dd_X11_approveAll 45 rfl) rfl rfl (by decide) rfl rfl ?_
          refine x_goto (tgt := 53) hC (dAt dd_X11_approveAll 46 rfl) (by decide) ?_
          refine x_sub [1, 2, 3, 4, 0] rfl ?_
          exact ih x0 x1 x2 x3 (x4 + 1) h14
        · refine x_ldc (v := (-1000002)) (p' := 81) hC (dAt dd_X11_approveAll 43 rfl) k_944 rfl ?_
          exact x_ireturn hC (dAt dd_X11_approveAll 44 rfl)
set_option maxHeartbeats 4000000 in
set_option maxRecDepth 100000 in
theorem t_X11_approveAll_J193 {C : CT} (hC : OKC C yX11_approveAll cX11_approveAll 7 (some .int) 4 98) (k148 : Nat → Int32 → Int32 → Int32 → Int32 → AH → RX Int32) (hk148 : ∀ (x0 : Nat) (x1 : Int32) (x2 : Int32) (x4 : Int32) (x6 : Int32) (h : AH), WX rvI C 148 [(0, va_rf (some x0)), (1, .int x1), (2, .int x2), (4, .int x4), (6, .int x6)] [] h (k148 x0 x1 x2 x4 x6 h)) : ∀ (x0 : Nat) (x1 : Int32) (x2 : Int32) (x4 : Int32) (x6 : Int32) (s0 : Int32) (s1 : Int32) (s2 : Option Nat) (h : AH), WX rvI C 193 [(0, va_rf (some x0)), (1, .int x1), (2, .int x2), (4, .int x4), (6, .int x6)] [.int s0, .int s1, va_rf s2] h (f_X11_approveAll_J193 k148 x0 x1 x2 x4 x6 s0 s1 s2 h) := by
  intro x0 x1 x2 x4 x6 s0 s1 s2 h
  unfold f_X11_approveAll_J193
  refine x_iconst (v := 0) (p' := 194) hC (dAt dd_X11_approveAll 103 rfl) (by decide) rfl ?_
  refine x_iadd (p' := 195) hC (dAt dd_X11_approveAll 104 rfl) rfl ?_
  refine x_iastore (p' := 196) hC (dAt dd_X11_approveAll 105 rfl) rfl (fun h30 => ?_)
  refine x_iinc (w := (x6 + 1)) (lv' := [(6, .int (x6 + 1)), (0, va_rf (some x0)), (1, .int x1), (2, .int x2), (4, .int x4)]) (p' := 199) hC 4 (dAt dd_X11_approveAll 106 rfl) rfl rfl (by decide) rfl rfl ?_
  refine x_goto (tgt := 148) hC (dAt dd_X11_approveAll 107 rfl) (by decide) ?_
  refine x_sub [1, 2, 3, 4, 0] rfl ?_
  exact hk148 x0 x1 x2 x4 (x6 + 1) h30
set_option maxHeartbeats 4000000 in
set_option maxRecDepth 100000 in
theorem t_X11_approveAll_L148 {C : CT} (hC : OKC C yX11_approveAll cX11_approveAll 7 (some .int) 4 98) (k202 : Nat → Int32 → Int32 → Int32 → AH → RX Int32) (hk202 : ∀ (x0 : Nat) (x1 : Int32) (x2 : Int32) (x4 : Int32) (h : AH), WX rvI C 202 [(0, va_rf (some x0)), (1, .int x1), (2, .int x2), (4, .int x4)] [] h (k202 x0 x1 x2 x4 h)) : ∀ (n : Nat) (x0 : Nat) (x1 : Int32) (x2 : Int32) (x4 : Int32) (x6 : Int32) (h : AH), WX rvI C 148 [(0, va_rf (some x0)), (1, .int x1), (2, .int x2), (4, .int x4), (6, .int x6)] [] h (f_X11_approveAll_L148 k202 n x0 x1 x2 x4 x6 h) := by
  intro n
  induction n with
  | zero => intro _ _ _ _ _ _; exact x_none
  | succ n ih =>
    intro x0 x1 x2 x4 x6 h
    rw [f_X11_approveAll_L148]
    refine x_iload (p' := 150) hC 4 (dAt dd_X11_approveAll 80 rfl) rfl rfl ?_
    refine x_aload_n (p' := 151) hC 0 (dAt dd_X11_approveAll 81 rfl) rfl rfl rfl ?_
    refine x_getI (p' := 154) hC fk_RX11_217 rfl (dAt dd_X11_approveAll 82 rfl) rfl (fun v24 => ?_)
    refine x_icmp_ge (tgt := 202) (p' := 157) hC (dAt dd_X11_approveAll 83 rfl) (by decide) rfl ?_ ?_
    · refine x_sub [0, 1, 2, 3] rfl ?_
      exact hk202 x0 x1 x2 x4 h
    · refine x_aload_n (p' := 158) hC 0 (dAt dd_X11_approveAll 84 rfl) rfl rfl rfl ?_
      refine x_getR (p' := 161) hC fk_RX11_119 rfl (dAt dd_X11_approveAll 85 rfl) rfl (fun r25 => ?_)
      refine x_aload_n (p' := 162) hC 0 (dAt dd_X11_approveAll 86 rfl) rfl rfl rfl ?_
      refine x_getI (p' := 165) hC fk_RX11_251 rfl (dAt dd_X11_approveAll 87 rfl) rfl (fun v26 => ?_)
      refine x_dup2 (p' := 166) hC (dAt dd_X11_approveAll 88 rfl) rfl (x_cat _) rfl ?_
      refine x_iaload (p' := 167) hC (dAt dd_X11_approveAll 89 rfl) rfl (fun v27 => ?_)
      refine x_aload_n (p' := 168) hC 0 (dAt dd_X11_approveAll 90 rfl) rfl rfl rfl ?_
      refine x_getR (p' := 171) hC fk_RX11_104 rfl (dAt dd_X11_approveAll 91 rfl) rfl (fun r28 => ?_)
      refine x_iload (p' := 173) hC 4 (dAt dd_X11_approveAll 92 rfl) rfl rfl ?_
      refine x_baload (p' := 174) hC (dAt dd_X11_approveAll 93 rfl) rfl (fun v29 => ?_)
      refine x_if_eq (tgt := 193) (p' := 177) hC (dAt dd_X11_approveAll 94 rfl) (by decide) rfl ?_ ?_
      · exact t_X11_approveAll_J193 hC (f_X11_approveAll_L148 k202 n) ih x0 x1 x2 x4 x6 v27 v26 r25 h
      · refine x_aload_n (p' := 178) hC 0 (dAt dd_X11_approveAll 95 rfl) rfl rfl rfl ?_
        refine x_iload_n (p' := 179) hC 1 (dAt dd_X11_approveAll 96 rfl) rfl rfl rfl ?_
        refine x_iload (p' := 181) hC 3 (dAt dd_X11_approveAll 97 rfl) rfl rfl ?_
        refine x_iload (p' := 183) hC 4 (dAt dd_X11_approveAll 98 rfl) rfl rfl ?_
        refine x_callVI (As := [.int x1, .int x4, .int x6]) (z := fun b => f_X11_isSeen h b x1 x4 x6) (p' := 186) hC (fun b => c_X11_isSeen _ _ _ h b x1 x4 x6) k_1065 k_1067 (k_sl 51 rfl) k_9 k_1068 hd_X11_isSeen ⟨by decide, by decide⟩ (ci := 10) rfl rfl (by decide) rfl (by cases r25 <;> exact Nat.le_of_ble_eq_true rfl) rfl (dAt dd_X11_approveAll 99 rfl) rfl (fun v31 h32 => ?_)
        refine x_if_ne (tgt := 193) (p' := 189) hC (dAt dd_X11_approveAll 100 rfl) (by decide) rfl ?_ ?_
        · exact t_X11_approveAll_J193 hC (f_X11_approveAll_L148 k202 n) ih x0 x1 x2 x4 x6 v27 v26 r25 h32
        · refine x_iconst (v := 1) (p' := 190) hC (dAt dd_X11_approveAll 101 rfl) (by decide) rfl ?_
          refine x_goto (tgt := 194) hC (dAt dd_X11_approveAll 102 rfl) (by decide) ?_
          refine x_iadd (p' := 195) hC (dAt dd_X11_approveAll 104 rfl) rfl ?_
          refine x_iastore (p' := 196) hC (dAt dd_X11_approveAll 105 rfl) rfl (fun h33 => ?_)
          refine x_iinc (w := (x6 + 1)) (lv' := [(6, .int (x6 + 1)), (0, va_rf (some x0)), (1, .int x1), (2, .int x2), (4, .int x4)]) (p' := 199) hC 4 (dAt dd_X11_approveAll 106 rfl) rfl rfl (by decide) rfl rfl ?_
          refine x_goto (tgt := 148) hC (dAt dd_X11_approveAll 107 rfl) (by decide) ?_
          refine x_sub [1, 2, 3, 4, 0] rfl ?_
          exact ih x0 x1 x2 x4 (x6 + 1) h33
set_option maxHeartbeats 4000000 in
set_option maxRecDepth 100000 in
theorem t_X11_approveAll_J202 {C : CT} (hC : OKC C yX11_approveAll cX11_approveAll 7 (some .int) 4 98) (k110 : Nat → Int32 → Int32 → Int32 → AH → RX Int32) (hk110 : ∀ (x0 : Nat) (x1 : Int32) (x2 : Int32) (x4 : Int32) (h : AH), WX rvI C 110 [(0, va_rf (some x0)), (1, .int x1), (2, .int x2), (4, .int x4)] [] h (k110 x0 x1 x2 x4 h)) : ∀ (x0 : Nat) (x1 : Int32) (x2 : Int32) (x4 : Int32) (h : AH), WX rvI C 202 [(0, va_rf (some x0)), (1, .int x1), (2, .int x2), (4, .int x4)] [] h (f_X11_approveAll_J202 k110 x0 x1 x2 x4 h) := by
  intro x0 x1 x2 x4 h
  unfold f_X11_approveAll_J202
  refine x_aload_n (p' := 203) hC 0 (dAt dd_X11_approveAll 108 rfl) rfl rfl rfl ?_
  refine x_iload (p' := 205) hC 3 (dAt dd_X11_approveAll 109 rfl) rfl rfl ?_
  refine x_callVI (As := [.int x4]) (z := fun b => f_X11_make h b x4) (p' := 208) hC (fun b => c_X11_make _ _ _ h b x4) k_1073 k_1075 (k_sl 52 rfl) k_9 k_1076 hd_X11_make ⟨by decide, by decide⟩ (ci := 10) rfl rfl (by decide) rfl (Nat.le_of_ble_eq_true rfl) rfl (dAt dd_X11_approveAll 110 rfl) rfl (fun v34 h35 => ?_)
  refine x_istore (lv' := [(6, .int v34), (0, va_rf (some x0)), (1, .int x1), (2, .int x2), (4, .int x4)]) (p' := 210) hC (dAt dd_X11_approveAll 111 rfl) (by decide) rfl rfl ?_
  refine x_aload_n (p' := 211) hC 1 (dAt dd_X11_approveAll 112 rfl) rfl rfl rfl ?_
  refine x_iload (p' := 213) hC 4 (dAt dd_X11_approveAll 113 rfl) rfl rfl ?_
  refine x_callVV (As := [.int x4]) (z := fun b => f_X11_becomes h35 b x4) (p' := 216) hC (fun b => c_X11_becomes _ _ _ h35 b x4) k_1082 k_1084 (k_sl 54 rfl) k_9 k_1085 hd_X11_becomes ⟨by decide, by decide⟩ (ci := 10) rfl rfl (by decide) rfl (Nat.le_of_ble_eq_true rfl) rfl (dAt dd_X11_approveAll 114 rfl) rfl (fun u36 h37 => ?_)
  refine x_iinc (w := (x4 + 1)) (lv' := [(4, .int (x4 + 1)), (6, .int v34), (0, va_rf (some x0)), (1, .int x1), (2, .int x2)]) (p' := 219) hC 4 (dAt dd_X11_approveAll 115 rfl) rfl rfl (by decide) rfl rfl ?_
  refine x_goto (tgt := 110) hC (dAt dd_X11_approveAll 116 rfl) (by decide) ?_
  refine x_sub [2, 3, 4, 0] rfl ?_
  exact hk110 x0 x1 x2 (x4 + 1) h37
set_option maxHeartbeats 4000000 in
set_option maxRecDepth 100000 in
theorem t_X11_approveAll_L110 {C : CT} (hC : OKC C yX11_approveAll cX11_approveAll 7 (some .int) 4 98) (k222 : Nat → AH → RX Int32) (hk222 : ∀ (x0 : Nat) (h : AH), WX rvI C 222 [(0, va_rf (some x0))] [] h (k222 x0 h)) : ∀ (n : Nat) (x0 : Nat) (x1 : Int32) (x2 : Int32) (x4 : Int32) (h : AH), WX rvI C 110 [(0, va_rf (some x0)), (1, .int x1), (2, .int x2), (4, .int x4)] [] h (f_X11_approveAll_L110 k222 n x0 x1 x2 x4 h) := by
  intro n
  induction n with
  | zero => intro _ _ _ _ _; exact x_none
  | succ n ih =>
    intro x0 x1 x2 x4 h
    rw [f_X11_approveAll_L110]
    refine x_iload (p' := 112) hC 3 (dAt dd_X11_approveAll 59 rfl) rfl rfl ?_
    refine x_bipush (v := 36) (p' := 114) hC (dAt dd_X11_approveAll 60 rfl) (by decide) rfl ?_
    refine x_icmp_ge (tgt := 222) (p' := 117) hC (dAt dd_X11_approveAll 61 rfl) (by decide) rfl ?_ ?_
    · refine x_sub [0] rfl ?_
      exact hk222 x0 h
    · refine x_aload_n (p' := 118) hC 0 (dAt dd_X11_approveAll 62 rfl) rfl rfl rfl ?_
      refine x_iload (p' := 120) hC 3 (dAt dd_X11_approveAll 63 rfl) rfl rfl ?_
      refine x_iload_n (p' := 121) hC 2 (dAt dd_X11_approveAll 64 rfl) rfl rfl rfl ?_
      refine x_callVI (As := [.int x4, .int x2]) (z := fun b => f_X11_choose h b x4 x2) (p' := 124) hC (fun b => c_X11_choose _ _ _ h b x4 x2) k_1090 k_1092 (k_sl 55 rfl) k_9 k_1093 hd_X11_choose ⟨by decide, by decide⟩ (ci := 10) rfl rfl (by decide) rfl (Nat.le_of_ble_eq_true rfl) rfl (dAt dd_X11_approveAll 65 rfl) rfl (fun v18 h19 => ?_)
      refine x_istore (lv' := [(5, .int v18), (0, va_rf (some x0)), (1, .int x1), (2, .int x2), (4, .int x4)]) (p' := 126) hC (dAt dd_X11_approveAll 66 rfl) (by decide) rfl rfl ?_
      refine x_iload (p' := 128) hC 0 (dAt dd_X11_approveAll 67 rfl) rfl rfl ?_
      refine x_if_le (tgt := 216) (p' := 131) hC (dAt dd_X11_approveAll 68 rfl) (by decide) rfl ?_ ?_
      · refine x_iinc (w := (x4 + 1)) (lv' := [(4, .int (x4 + 1)), (5, .int v18), (0, va_rf (some x0)), (1, .int x1), (2, .int x2)]) (p' := 219) hC 4 (dAt dd_X11_approveAll 115 rfl) rfl rfl (by decide) rfl rfl ?_
        refine x_goto (tgt := 110) hC (dAt dd_X11_approveAll 116 rfl) (by decide) ?_
        refine x_sub [2, 3, 4, 0] rfl ?_
        exact ih x0 x1 x2 (x4 + 1) h19
      · refine x_aload_n (p' := 132) hC 1 (dAt dd_X11_approveAll 69 rfl) rfl rfl rfl ?_
        refine x_getR (p' := 135) hC fk_RX11_116 rfl (dAt dd_X11_approveAll 70 rfl) rfl (fun r20 => ?_)
        refine x_aload_n (p' := 136) hC 1 (dAt dd_X11_approveAll 71 rfl) rfl rfl rfl ?_
        refine x_getI (p' := 139) hC fk_RX11_251 rfl (dAt dd_X11_approveAll 72 rfl) rfl (fun v21 => ?_)
        refine x_dup2 (p' := 140) hC (dAt dd_X11_approveAll 73 rfl) rfl (x_cat _) rfl ?_
        refine x_iaload (p' := 141) hC (dAt dd_X11_approveAll 74 rfl) rfl (fun v22 => ?_)
        refine x_iload (p' := 143) hC 0 (dAt dd_X11_approveAll 75 rfl) rfl rfl ?_
        refine x_iadd (p' := 144) hC (dAt dd_X11_approveAll 76 rfl) rfl ?_
        refine x_iastore (p' := 145) hC (dAt dd_X11_approveAll 77 rfl) rfl (fun h23 => ?_)
        refine x_iconst (v := 0) (p' := 146) hC (dAt dd_X11_approveAll 78 rfl) (by decide) rfl ?_
        refine x_istore (lv' := [(6, .int 0), (5, .int v18), (0, va_rf (some x0)), (1, .int x1), (2, .int x2), (4, .int x4)]) (p' := 148) hC (dAt dd_X11_approveAll 79 rfl) (by decide) rfl rfl ?_
        refine x_sub [2, 3, 4, 5, 0] rfl ?_
        exact t_X11_approveAll_L148 hC (f_X11_approveAll_J202 (f_X11_approveAll_L110 k222 n)) (t_X11_approveAll_J202 hC (f_X11_approveAll_L110 k222 n) ih) FU x0 x1 x2 x4 0 h23
set_option maxHeartbeats 4000000 in
set_option maxRecDepth 100000 in
theorem t_X11_approveAll_J222 {C : CT} (hC : OKC C yX11_approveAll cX11_approveAll 7 (some .int) 4 98)   : ∀ (x0 : Nat) (h : AH), WX rvI C 222 [(0, va_rf (some x0))] [] h (f_X11_approveAll_J222 x0 h) := by
  intro x0 h
  unfold f_X11_approveAll_J222
  refine x_aload_n (p' := 223) hC 0 (dAt dd_X11_approveAll 117 rfl) rfl rfl rfl ?_
  refine x_dup (p' := 224) hC (dAt dd_X11_approveAll 118 rfl) (x_cat _) rfl ?_
  refine x_getI (p' := 227) hC fk_RX11_251 rfl (dAt dd_X11_approveAll 119 rfl) rfl (fun v38 => ?_)
  refine x_iconst (v := 1) (p' := 228) hC (dAt dd_X11_approveAll 120 rfl) (by decide) rfl ?_
  refine x_iadd (p' := 229) hC (dAt dd_X11_approveAll 121 rfl) rfl ?_
  refine x_putI (p' := 232) hC fk_RX11_251 tk_RX11 rfl rfl (Or.inl rfl) (dAt dd_X11_approveAll 122 rfl) rfl (fun h39 => ?_)
  refine x_aload_n (p' := 233) hC 0 (dAt dd_X11_approveAll 123 rfl) rfl rfl rfl ?_
  refine x_getI (p' := 236) hC fk_RX11_251 rfl (dAt dd_X11_approveAll 124 rfl) rfl (fun v40 => ?_)
  refine x_iconst (v := 1) (p' := 237) hC (dAt dd_X11_approveAll 125 rfl) (by decide) rfl ?_
  refine x_isub (p' := 238) hC (dAt dd_X11_approveAll 126 rfl) rfl ?_
  exact x_ireturn hC (dAt dd_X11_approveAll 127 rfl)
set_option maxHeartbeats 4000000 in
set_option maxRecDepth 100000 in
theorem t_X11_approveAll_J88 {C : CT} (hC : OKC C yX11_approveAll cX11_approveAll 7 (some .int) 4 98)   : ∀ (x0 : Nat) (x1 : Int32) (x2 : Int32) (x3 : Int32) (h : AH), WX rvI C 88 [(0, va_rf (some x0)), (1, .int x1), (2, .int x2), (3, .int x3)] [] h (f_X11_approveAll_J88 x0 x1 x2 x3 h) := by
  intro x0 x1 x2 x3 h
  unfold f_X11_approveAll_J88
  refine x_aload_n (p' := 89) hC 0 (dAt dd_X11_approveAll 47 rfl) rfl rfl rfl ?_
  refine x_getI (p' := 92) hC fk_RX11_251 rfl (dAt dd_X11_approveAll 48 rfl) rfl (fun v15 => ?_)
  refine x_bipush (v := 100) (p' := 94) hC (dAt dd_X11_approveAll 49 rfl) (by decide) rfl ?_
  refine x_icmp_ne (tgt := 101) (p' := 97) hC (dAt dd_X11_approveAll 50 rfl) (by decide) rfl ?_ ?_
  · refine x_aload_n (p' := 102) hC 0 (dAt dd_X11_approveAll 53 rfl) rfl rfl rfl ?_
    refine x_iload_n (p' := 103) hC 1 (dAt dd_X11_approveAll 54 rfl) rfl rfl rfl ?_
    refine x_iload_n (p' := 104) hC 3 (dAt dd_X11_approveAll 55 rfl) rfl rfl rfl ?_
    refine x_callVV (As := [.int x1, .int x3]) (z := fun b => f_X11_begins h b x1 x3) (p' := 107) hC (fun b => c_X11_begins _ _ _ h b x1 x3) k_1078 k_1080 (k_sl 53 rfl) k_9 k_1081 hd_X11_begins ⟨by decide, by decide⟩ (ci := 10) rfl rfl (by decide) rfl (Nat.le_of_ble_eq_true rfl) rfl (dAt dd_X11_approveAll 56 rfl) rfl (fun u16 h17 => ?_)
    refine x_iconst (v := 0) (p' := 108) hC (dAt dd_X11_approveAll 57 rfl) (by decide) rfl ?_
    refine x_istore (lv' := [(4, .int 0), (0, va_rf (some x0)), (1, .int x1), (2, .int x2), (3, .int x3)]) (p' := 110) hC (dAt dd_X11_approveAll 58 rfl) (by decide) rfl rfl ?_
    refine x_sub [1, 2, 3, 0] rfl ?_
    exact t_X11_approveAll_L110 hC f_X11_approveAll_J222 (t_X11_approveAll_J222 hC) FU x0 x1 x2 0 h17
  · refine x_ldc_w (v := (-1000003)) (p' := 100) hC (dAt dd_X11_approveAll 51 rfl) k_1077 rfl ?_
    exact x_ireturn hC (dAt dd_X11_approveAll 52 rfl)
set_option maxHeartbeats 4000000 in
set_option maxRecDepth 100000 in
theorem c_X11_approveAll (l : Launch) (D : va_G) (cy : Nat → ClassId) (h : AH) (a0 : Nat) (p1 : Int32) (p2 : Int32) (p3 : Int32) : MX rvI l yX11_approveAll (Cond.code yX11_approveAll cX11_approveAll 7 (some .int) :: LW) 4 98 D cy h [va_rf (some a0), .int p1, .int p2, .int p3] (f_X11_approveAll h a0 p1 p2 p3) := by
  refine MX.of (lv := [(0, va_rf (some a0)), (1, .int p1), (2, .int p2), (3, .int p3)]) (by decide) (Nat.le_of_ble_eq_true rfl) rfl (fun C hC _ => ?_)
  unfold f_X11_approveAll
  refine x_aload_n (p' := 1) hC 0 (dAt dd_X11_approveAll 0 rfl) rfl rfl rfl ?_
  refine x_iconst (v := 0) (p' := 2) hC (dAt dd_X11_approveAll 1 rfl) (by decide) rfl ?_
  refine x_putI (p' := 5) hC fk_RX11_1 tk_RX11 rfl rfl (Or.inl rfl) (dAt dd_X11_approveAll 2 rfl) rfl (fun h1 => ?_)
  refine x_aload_n (p' := 6) hC 0 (dAt dd_X11_approveAll 3 rfl) rfl rfl rfl ?_
  refine x_callVV (As := []) (z := fun b => f_X11_findGroups h1 b) (p' := 9) hC (fun b => c_X11_findGroups _ _ _ h1 b) k_1036 k_1038 (k_sl 48 rfl) k_9 k_1039 hd_X11_findGroups ⟨by decide, by decide⟩ (ci := 10) rfl rfl (by decide) rfl (Nat.le_of_ble_eq_true rfl) rfl (dAt dd_X11_approveAll 4 rfl) rfl (fun u2 h3 => ?_)
  refine x_iload_n (p' := 10) hC 1 (dAt dd_X11_approveAll 5 rfl) rfl rfl rfl ?_
  refine x_i2l (p' := 11) hC (dAt dd_X11_approveAll 6 rfl) rfl ?_
  refine x_lconst (v := 0) (p' := 12) hC (dAt dd_X11_approveAll 7 rfl) (by decide) rfl ?_
  refine x_ldc2_w (v := 3) (p' := 15) hC (dAt dd_X11_approveAll 8 rfl) k_1015 rfl ?_
  refine x_callSI (As := [.long (Int32.toInt64 p1), .long 0, .long 3]) (p' := 18) hC (c_X11_in _ _ _ h3 (Int32.toInt64 p1) 0 3) k_914 k_915 k_9 k_916 hd_X11_in ⟨by decide, by decide⟩ rfl (Nat.le_of_ble_eq_true rfl) rfl (dAt dd_X11_approveAll 9 rfl) rfl (fun v4 h5 => ?_)
  refine x_if_eq (tgt := 47) (p' := 21) hC (dAt dd_X11_approveAll 10 rfl) (by decide) rfl ?_ ?_
  · refine x_ldc (v := (-1000001)) (p' := 49) hC (dAt dd_X11_approveAll 27 rfl) k_918 rfl ?_
    exact x_ireturn hC (dAt dd_X11_approveAll 28 rfl)
  · refine x_iload_n (p' := 22) hC 2 (dAt dd_X11_approveAll 11 rfl) rfl rfl rfl ?_
    refine x_i2l (p' := 23) hC (dAt dd_X11_approveAll 12 rfl) rfl ?_
    refine x_lconst (v := 0) (p' := 24) hC (dAt dd_X11_approveAll 13 rfl) (by decide) rfl ?_
    refine x_aload_n (p' := 25) hC 0 (dAt dd_X11_approveAll 14 rfl) rfl rfl rfl ?_
    refine x_getI (p' := 28) hC fk_RX11_226 rfl (dAt dd_X11_approveAll 15 rfl) rfl (fun v6 => ?_)
    refine x_iconst (v := 1) (p' := 29) hC (dAt dd_X11_approveAll 16 rfl) (by decide) rfl ?_
    refine x_isub (p' := 30) hC (dAt dd_X11_approveAll 17 rfl) rfl ?_
    refine x_i2l (p' := 31) hC (dAt dd_X11_approveAll 18 rfl) rfl ?_
    refine x_callSI (As := [.long (Int32.toInt64 p2), .long 0, .long (Int32.toInt64 (v6 - 1))]) (p' := 34) hC (c_X11_in _ _ _ h5 (Int32.toInt64 p2) 0 (Int32.toInt64 (v6 - 1))) k_914 k_915 k_9 k_916 hd_X11_in ⟨by decide, by decide⟩ rfl (Nat.le_of_ble_eq_true rfl) rfl (dAt dd_X11_approveAll 19 rfl) rfl (fun v7 h8 => ?_)
    refine x_if_eq (tgt := 47) (p' := 37) hC (dAt dd_X11_approveAll 20 rfl) (by decide) rfl ?_ ?_
    · refine x_ldc (v := (-1000001)) (p' := 49) hC (dAt dd_X11_approveAll 27 rfl) k_918 rfl ?_
      exact x_ireturn hC (dAt dd_X11_approveAll 28 rfl)
    · refine x_iload_n (p' := 38) hC 3 (dAt dd_X11_approveAll 21 rfl) rfl rfl rfl ?_
      refine x_i2l (p' := 39) hC (dAt dd_X11_approveAll 22 rfl) rfl ?_
      refine x_lconst (v := 0) (p' := 40) hC (dAt dd_X11_approveAll 23 rfl) (by decide) rfl ?_
      refine x_lconst (v := 1) (p' := 41) hC (dAt dd_X11_approveAll 24 rfl) (by decide) rfl ?_
      refine x_callSI (As := [.long (Int32.toInt64 p3), .long 0, .long 1]) (p' := 44) hC (c_X11_in _ _ _ h8 (Int32.toInt64 p3) 0 1) k_914 k_915 k_9 k_916 hd_X11_in ⟨by decide, by decide⟩ rfl (Nat.le_of_ble_eq_true rfl) rfl (dAt dd_X11_approveAll 25 rfl) rfl (fun v9 h10 => ?_)
      refine x_if_ne (tgt := 50) (p' := 47) hC (dAt dd_X11_approveAll 26 rfl) (by decide) rfl ?_ ?_
      · refine x_iconst (v := 0) (p' := 51) hC (dAt dd_X11_approveAll 29 rfl) (by decide) rfl ?_
        refine x_istore (lv' := [(4, .int 0), (0, va_rf (some a0)), (1, .int p1), (2, .int p2), (3, .int p3)]) (p' := 53) hC (dAt dd_X11_approveAll 30 rfl) (by decide) rfl rfl ?_
        refine x_sub [1, 2, 3, 4, 0] rfl ?_
        exact t_X11_approveAll_L53 hC f_X11_approveAll_J88 (t_X11_approveAll_J88 hC) FU a0 p1 p2 p3 0 h10
      · refine x_ldc (v := (-1000001)) (p' := 49) hC (dAt dd_X11_approveAll 27 rfl) k_918 rfl ?_
        exact x_ireturn hC (dAt dd_X11_approveAll 28 rfl)
set_option maxHeartbeats 4000000 in
set_option maxRecDepth 100000 in
theorem t_X11_undo_L12 {C : CT} (hC : OKC C yX11_undo cX11_undo 6 (some .int) 0 0) (k31 : Nat → Int32 → AH → RX Int32) (hk31 : ∀ (x0 : Nat) (x1 : Int32) (h : AH), WX rvI C 31 [(0, va_rf (some x0)), (1, .int x1)] [] h (k31 x0 x1 h)) : ∀ (n : Nat) (x0 : Nat) (x1 : Int32) (h : AH), WX rvI C 12 [(0, va_rf (some x0)), (1, .int x1)] [] h (f_X11_undo_L12 k31 n x0 x1 h) := by
  intro n
  induction n with
  | zero => intro _ _ _; exact x_none
  | succ n ih =>
    intro x0 x1 h
    rw [f_X11_undo_L12]
    refine x_iload_n (p' := 13) hC 1 (dAt dd_X11_undo 8 rfl) rfl rfl rfl ?_
    refine x_if_lt (tgt := 31) (p' := 16) hC (dAt dd_X11_undo 9 rfl) (by decide) rfl ?_ ?_
    · exact hk31 x0 x1 h
    · refine x_aload_n (p' := 17) hC 0 (dAt dd_X11_undo 10 rfl) rfl rfl rfl ?_
      refine x_getR (p' := 20) hC fk_RX11_122 rfl (dAt dd_X11_undo 11 rfl) rfl (fun r3 => ?_)
      refine x_iload_n (p' := 21) hC 1 (dAt dd_X11_undo 12 rfl) rfl rfl rfl ?_
      refine x_baload (p' := 22) hC (dAt dd_X11_undo 13 rfl) rfl (fun v4 => ?_)
      refine x_if_eq (tgt := 31) (p' := 25) hC (dAt dd_X11_undo 14 rfl) (by decide) rfl ?_ ?_
      · exact hk31 x0 x1 h
      · refine x_iinc (w := (x1 + (-1))) (lv' := [(1, .int (x1 + (-1))), (0, va_rf (some x0))]) (p' := 28) hC 1 (dAt dd_X11_undo 15 rfl) rfl rfl (by decide) rfl rfl ?_
        refine x_goto (tgt := 12) hC (dAt dd_X11_undo 16 rfl) (by decide) ?_
        refine x_sub [1, 0] rfl ?_
        exact ih x0 (x1 + (-1)) h
set_option maxHeartbeats 4000000 in
set_option maxRecDepth 100000 in
theorem t_X11_undo_L101 {C : CT} (hC : OKC C yX11_undo cX11_undo 6 (some .int) 0 0) (k164 : Nat → Int32 → Int32 → AH → RX Int32) (hk164 : ∀ (x0 : Nat) (x1 : Int32) (x2 : Int32) (h : AH), WX rvI C 164 [(0, va_rf (some x0)), (1, .int x1), (2, .int x2)] [] h (k164 x0 x1 x2 h)) : ∀ (n : Nat) (x0 : Nat) (x1 : Int32) (x2 : Int32) (x3 : Int32) (x4 : Int32) (x5 : Int32) (h : AH), WX rvI C 101 [(0, va_rf (some x0)), (1, .int x1), (2, .int x2), (3, .int x3), (4, .int x4), (5, .int x5)] [] h (f_X11_undo_L101 k164 n x0 x1 x2 x3 x4 x5 h) := by
  intro n
  induction n with
  | zero => intro _ _ _ _ _ _ _; exact x_none
  | succ n ih =>
    intro x0 x1 x2 x3 x4 x5 h
    rw [f_X11_undo_L101]
    refine x_iload (p' := 103) hC 5 (dAt dd_X11_undo 63 rfl) rfl rfl ?_
    refine x_bipush (v := 60) (p' := 105) hC (dAt dd_X11_undo 64 rfl) (by decide) rfl ?_
    refine x_icmp_ge (tgt := 164) (p' := 108) hC (dAt dd_X11_undo 65 rfl) (by decide) rfl ?_ ?_
    · refine x_sub [0, 1, 2] rfl ?_
      exact hk164 x0 x1 x2 h
    · refine x_aload_n (p' := 109) hC 0 (dAt dd_X11_undo 66 rfl) rfl rfl rfl ?_
      refine x_getR (p' := 112) hC fk_RX11_49 rfl (dAt dd_X11_undo 67 rfl) rfl (fun r19 => ?_)
      refine x_bipush (v := 60) (p' := 114) hC (dAt dd_X11_undo 68 rfl) (by decide) rfl ?_
      refine x_iload (p' := 116) hC 4 (dAt dd_X11_undo 69 rfl) rfl rfl ?_
      refine x_imul (p' := 117) hC (dAt dd_X11_undo 70 rfl) rfl ?_
      refine x_iload (p' := 119) hC 5 (dAt dd_X11_undo 71 rfl) rfl rfl ?_
      refine x_iadd (p' := 120) hC (dAt dd_X11_undo 72 rfl) rfl ?_
      refine x_aload_n (p' := 121) hC 0 (dAt dd_X11_undo 73 rfl) rfl rfl rfl ?_
      refine x_getR (p' := 124) hC fk_RX11_138 rfl (dAt dd_X11_undo 74 rfl) rfl (fun r20 => ?_)
      refine x_bipush (v := 60) (p' := 126) hC (dAt dd_X11_undo 75 rfl) (by decide) rfl ?_
      refine x_iload_n (p' := 127) hC 3 (dAt dd_X11_undo 76 rfl) rfl rfl rfl ?_
      refine x_imul (p' := 128) hC (dAt dd_X11_undo 77 rfl) rfl ?_
      refine x_iload (p' := 130) hC 5 (dAt dd_X11_undo 78 rfl) rfl rfl ?_
      refine x_iadd (p' := 131) hC (dAt dd_X11_undo 79 rfl) rfl ?_
      refine x_iaload (p' := 132) hC (dAt dd_X11_undo 80 rfl) rfl (fun v21 => ?_)
      refine x_iastore (p' := 133) hC (dAt dd_X11_undo 81 rfl) rfl (fun h22 => ?_)
      refine x_aload_n (p' := 134) hC 0 (dAt dd_X11_undo 82 rfl) rfl rfl rfl ?_
      refine x_getR (p' := 137) hC fk_RX11_52 rfl (dAt dd_X11_undo 83 rfl) rfl (fun r23 => ?_)
      refine x_bipush (v := 60) (p' := 139) hC (dAt dd_X11_undo 84 rfl) (by decide) rfl ?_
      refine x_iload (p' := 141) hC 4 (dAt dd_X11_undo 85 rfl) rfl rfl ?_
      refine x_imul (p' := 142) hC (dAt dd_X11_undo 86 rfl) rfl ?_
      refine x_iload (p' := 144) hC 5 (dAt dd_X11_undo 87 rfl) rfl rfl ?_
      refine x_iadd (p' := 145) hC (dAt dd_X11_undo 88 rfl) rfl ?_
      refine x_aload_n (p' := 146) hC 0 (dAt dd_X11_undo 89 rfl) rfl rfl rfl ?_
      refine x_getR (p' := 149) hC fk_RX11_141 rfl (dAt dd_X11_undo 90 rfl) rfl (fun r24 => ?_)
      refine x_bipush (v := 60) (p' := 151) hC (dAt dd_X11_undo 91 rfl) (by decide) rfl ?_
      refine x_iload_n (p' := 152) hC 3 (dAt dd_X11_undo 92 rfl) rfl rfl rfl ?_
      refine x_imul (p' := 153) hC (dAt dd_X11_undo 93 rfl) rfl ?_
      refine x_iload (p' := 155) hC 5 (dAt dd_X11_undo 94 rfl) rfl rfl ?_
      refine x_iadd (p' := 156) hC (dAt dd_X11_undo 95 rfl) rfl ?_
      refine x_iaload (p' := 157) hC (dAt dd_X11_undo 96 rfl) rfl (fun v25 => ?_)
      refine x_iastore (p' := 158) hC (dAt dd_X11_undo 97 rfl) rfl (fun h26 => ?_)
      refine x_iinc (w := (x5 + 1)) (lv' := [(5, .int (x5 + 1)), (0, va_rf (some x0)), (1, .int x1), (2, .int x2), (3, .int x3), (4, .int x4)]) (p' := 161) hC 5 (dAt dd_X11_undo 98 rfl) rfl rfl (by decide) rfl rfl ?_
      refine x_goto (tgt := 101) hC (dAt dd_X11_undo 99 rfl) (by decide) ?_
      refine x_sub [1, 2, 3, 4, 5, 0] rfl ?_
      exact ih x0 x1 x2 x3 x4 (x5 + 1) h26
set_option maxHeartbeats 4000000 in
set_option maxRecDepth 100000 in
theorem t_X11_undo_J164 {C : CT} (hC : OKC C yX11_undo cX11_undo 6 (some .int) 0 0) (k47 : Nat → Int32 → Int32 → AH → RX Int32) (hk47 : ∀ (x0 : Nat) (x1 : Int32) (x2 : Int32) (h : AH), WX rvI C 47 [(0, va_rf (some x0)), (1, .int x1), (2, .int x2)] [] h (k47 x0 x1 x2 h)) : ∀ (x0 : Nat) (x1 : Int32) (x2 : Int32) (h : AH), WX rvI C 164 [(0, va_rf (some x0)), (1, .int x1), (2, .int x2)] [] h (f_X11_undo_J164 k47 x0 x1 x2 h) := by
  intro x0 x1 x2 h
  unfold f_X11_undo_J164
  refine x_iinc (w := (x2 + 1)) (lv' := [(2, .int (x2 + 1)), (0, va_rf (some x0)), (1, .int x1)]) (p' := 167) hC 2 (dAt dd_X11_undo 100 rfl) rfl rfl (by decide) rfl rfl ?_
  refine x_goto (tgt := 47) hC (dAt dd_X11_undo 101 rfl) (by decide) ?_
  refine x_sub [1, 2, 0] rfl ?_
  exact hk47 x0 x1 (x2 + 1) h
set_option maxHeartbeats 4000000 in
set_option maxRecDepth 100000 in
theorem t_X11_undo_L47 {C : CT} (hC : OKC C yX11_undo cX11_undo 6 (some .int) 0 0)   : ∀ (n : Nat) (x0 : Nat) (x1 : Int32) (x2 : Int32) (h : AH), WX rvI C 47 [(0, va_rf (some x0)), (1, .int x1), (2, .int x2)] [] h (f_X11_undo_L47 n x0 x1 x2 h) := by
  intro n
  induction n with
  | zero => intro _ _ _ _; exact x_none
  | succ n ih =>
    intro x0 x1 x2 h
    rw [f_X11_undo_L47]
    refine x_iload_n (p' := 48) hC 2 (dAt dd_X11_undo 28 rfl) rfl rfl rfl ?_
    refine x_aload_n (p' := 49) hC 0 (dAt dd_X11_undo 29 rfl) rfl rfl rfl ?_
    refine x_getR (p' := 52) hC fk_RX11_125 rfl (dAt dd_X11_undo 30 rfl) rfl (fun r7 => ?_)
    refine x_iload_n (p' := 53) hC 1 (dAt dd_X11_undo 31 rfl) rfl rfl rfl ?_
    refine x_iaload (p' := 54) hC (dAt dd_X11_undo 32 rfl) rfl (fun v8 => ?_)
    refine x_icmp_ge (tgt := 170) (p' := 57) hC (dAt dd_X11_undo 33 rfl) (by decide) rfl ?_ ?_
    · refine x_iload_n (p' := 171) hC 1 (dAt dd_X11_undo 102 rfl) rfl rfl rfl ?_
      exact x_ireturn hC (dAt dd_X11_undo 103 rfl)
    · refine x_bipush (v := 36) (p' := 59) hC (dAt dd_X11_undo 34 rfl) (by decide) rfl ?_
      refine x_iload_n (p' := 60) hC 1 (dAt dd_X11_undo 35 rfl) rfl rfl rfl ?_
      refine x_imul (p' := 61) hC (dAt dd_X11_undo 36 rfl) rfl ?_
      refine x_iload_n (p' := 62) hC 2 (dAt dd_X11_undo 37 rfl) rfl rfl rfl ?_
      refine x_iadd (p' := 63) hC (dAt dd_X11_undo 38 rfl) rfl ?_
      refine x_istore_n (j := 3) (lv' := [(3, .int ((36 * x1) + x2)), (0, va_rf (some x0)), (1, .int x1), (2, .int x2)]) (p' := 64) hC (dAt dd_X11_undo 39 rfl) rfl (by decide) rfl rfl ?_
      refine x_aload_n (p' := 65) hC 1 (dAt dd_X11_undo 40 rfl) rfl rfl rfl ?_
      refine x_getR (p' := 68) hC fk_RX11_128 rfl (dAt dd_X11_undo 41 rfl) rfl (fun r9 => ?_)
      refine x_iload_n (p' := 69) hC 0 (dAt dd_X11_undo 42 rfl) rfl rfl rfl ?_
      refine x_iaload (p' := 70) hC (dAt dd_X11_undo 43 rfl) rfl (fun v10 => ?_)
      refine x_istore (lv' := [(4, .int v10), (3, .int ((36 * x1) + x2)), (0, va_rf (some x0)), (1, .int x1), (2, .int x2)]) (p' := 72) hC (dAt dd_X11_undo 44 rfl) (by decide) rfl rfl ?_
      refine x_aload_n (p' := 73) hC 2 (dAt dd_X11_undo 45 rfl) rfl rfl rfl ?_
      refine x_getR (p' := 76) hC fk_RX11_45 rfl (dAt dd_X11_undo 46 rfl) rfl (fun r11 => ?_)
      refine x_iload (p' := 78) hC 0 (dAt dd_X11_undo 47 rfl) rfl rfl ?_
      refine x_aload_n (p' := 79) hC 2 (dAt dd_X11_undo 48 rfl) rfl rfl rfl ?_
      refine x_getR (p' := 82) hC fk_RX11_131 rfl (dAt dd_X11_undo 49 rfl) rfl (fun r12 => ?_)
      refine x_iload_n (p' := 83) hC 1 (dAt dd_X11_undo 50 rfl) rfl rfl rfl ?_
      refine x_baload (p' := 84) hC (dAt dd_X11_undo 51 rfl) rfl (fun v13 => ?_)
      refine x_bastore (p' := 85) hC (dAt dd_X11_undo 52 rfl) rfl (fun h14 => ?_)
      refine x_aload_n (p' := 86) hC 2 (dAt dd_X11_undo 53 rfl) rfl rfl rfl ?_
      refine x_getR (p' := 89) hC fk_RX11_55 rfl (dAt dd_X11_undo 54 rfl) rfl (fun r15 => ?_)
      refine x_iload (p' := 91) hC 0 (dAt dd_X11_undo 55 rfl) rfl rfl ?_
      refine x_aload_n (p' := 92) hC 2 (dAt dd_X11_undo 56 rfl) rfl rfl rfl ?_
      refine x_getR (p' := 95) hC fk_RX11_134 rfl (dAt dd_X11_undo 57 rfl) rfl (fun r16 => ?_)
      refine x_iload_n (p' := 96) hC 1 (dAt dd_X11_undo 58 rfl) rfl rfl rfl ?_
      refine x_iaload (p' := 97) hC (dAt dd_X11_undo 59 rfl) rfl (fun v17 => ?_)
      refine x_iastore (p' := 98) hC (dAt dd_X11_undo 60 rfl) rfl (fun h18 => ?_)
      refine x_iconst (v := 0) (p' := 99) hC (dAt dd_X11_undo 61 rfl) (by decide) rfl ?_
      refine x_istore (lv' := [(5, .int 0), (4, .int v10), (3, .int ((36 * x1) + x2)), (0, va_rf (some x0)), (1, .int x1), (2, .int x2)]) (p' := 101) hC (dAt dd_X11_undo 62 rfl) (by decide) rfl rfl ?_
      refine x_sub [3, 4, 5, 2, 1, 0] rfl ?_
      exact t_X11_undo_L101 hC (f_X11_undo_J164 (f_X11_undo_L47 n)) (t_X11_undo_J164 hC (f_X11_undo_L47 n) ih) FU x0 x1 x2 ((36 * x1) + x2) v10 0 h18
set_option maxHeartbeats 4000000 in
set_option maxRecDepth 100000 in
theorem t_X11_undo_J31 {C : CT} (hC : OKC C yX11_undo cX11_undo 6 (some .int) 0 0)   : ∀ (x0 : Nat) (x1 : Int32) (h : AH), WX rvI C 31 [(0, va_rf (some x0)), (1, .int x1)] [] h (f_X11_undo_J31 x0 x1 h) := by
  intro x0 x1 h
  unfold f_X11_undo_J31
  refine x_iload_n (p' := 32) hC 1 (dAt dd_X11_undo 17 rfl) rfl rfl rfl ?_
  refine x_if_ge (tgt := 38) (p' := 35) hC (dAt dd_X11_undo 18 rfl) (by decide) rfl ?_ ?_
  · refine x_aload_n (p' := 39) hC 0 (dAt dd_X11_undo 21 rfl) rfl rfl rfl ?_
    refine x_getR (p' := 42) hC fk_RX11_122 rfl (dAt dd_X11_undo 22 rfl) rfl (fun r5 => ?_)
    refine x_iload_n (p' := 43) hC 1 (dAt dd_X11_undo 23 rfl) rfl rfl rfl ?_
    refine x_iconst (v := 1) (p' := 44) hC (dAt dd_X11_undo 24 rfl) (by decide) rfl ?_
    refine x_bastore (p' := 45) hC (dAt dd_X11_undo 25 rfl) rfl (fun h6 => ?_)
    refine x_iconst (v := 0) (p' := 46) hC (dAt dd_X11_undo 26 rfl) (by decide) rfl ?_
    refine x_istore_n (j := 2) (lv' := [(2, .int 0), (0, va_rf (some x0)), (1, .int x1)]) (p' := 47) hC (dAt dd_X11_undo 27 rfl) rfl (by decide) rfl rfl ?_
    refine x_sub [1, 2, 0] rfl ?_
    exact t_X11_undo_L47 hC FU x0 x1 0 h6
  · refine x_ldc (v := (-1000000)) (p' := 37) hC (dAt dd_X11_undo 19 rfl) k_961 rfl ?_
    exact x_ireturn hC (dAt dd_X11_undo 20 rfl)
set_option maxHeartbeats 4000000 in
set_option maxRecDepth 100000 in
theorem c_X11_undo (l : Launch) (D : va_G) (cy : Nat → ClassId) (h : AH) (a0 : Nat) : MX rvI l yX11_undo (Cond.code yX11_undo cX11_undo 6 (some .int) :: LW) 0 0 D cy h [va_rf (some a0)] (f_X11_undo h a0) := by
  refine MX.of (lv := [(0, va_rf (some a0))]) (by decide) (Nat.le_of_ble_eq_true rfl) rfl (fun C hC _ => ?_)
  unfold f_X11_undo
  refine x_aload_n (p' := 1) hC 0 (dAt dd_X11_undo 0 rfl) rfl rfl rfl ?_
  refine x_iconst (v := 0) (p' := 2) hC (dAt dd_X11_undo 1 rfl) (by decide) rfl ?_
  refine x_putI (p' := 5) hC fk_RX11_1 tk_RX11 rfl rfl (Or.inl rfl) (dAt dd_X11_undo 2 rfl) rfl (fun h1 => ?_)
  refine x_aload_n (p' := 6) hC 0 (dAt dd_X11_undo 3 rfl) rfl rfl rfl ?_
  refine x_getI (p' := 9) hC fk_RX11_251 rfl (dAt dd_X11_undo 4 rfl) rfl (fun v2 => ?_)
  refine x_iconst (v := 1) (p' := 10) hC (dAt dd_X11_undo 5 rfl) (by decide) rfl ?_
  refine x_isub (p' := 11) hC (dAt dd_X11_undo 6 rfl) rfl ?_
  refine x_istore_n (j := 1) (lv' := [(1, .int (v2 - 1)), (0, va_rf (some a0))]) (p' := 12) hC (dAt dd_X11_undo 7 rfl) rfl (by decide) rfl rfl ?_
  refine x_sub [1, 0] rfl ?_
  exact t_X11_undo_L12 hC f_X11_undo_J31 (t_X11_undo_J31 hC) FU a0 (v2 - 1) h1
set_option maxHeartbeats 4000000 in
set_option maxRecDepth 100000 in
theorem c_X11_entry (l : Launch) (D : va_G) (cy : Nat → ClassId) (h : AH) (a0 : Nat) (p1 : Int32) (p2 : Int32) : MX rvI l yX11_entry (Cond.code yX11_entry cX11_entry 3 (some .int) :: LW) 1 25 D cy h [va_rf (some a0), .int p1, .int p2] (f_X11_entry h a0 p1 p2) := by
  refine MX.of (lv := [(0, va_rf (some a0)), (1, .int p1), (2, .int p2)]) (by decide) (Nat.le_of_ble_eq_true rfl) rfl (fun C hC _ => ?_)
  unfold f_X11_entry
  refine x_aload_n (p' := 1) hC 0 (dAt dd_X11_entry 0 rfl) rfl rfl rfl ?_
  refine x_iconst (v := 0) (p' := 2) hC (dAt dd_X11_entry 1 rfl) (by decide) rfl ?_
  refine x_putI (p' := 5) hC fk_RX11_1 tk_RX11 rfl rfl (Or.inl rfl) (dAt dd_X11_entry 2 rfl) rfl (fun h1 => ?_)
  refine x_iload_n (p' := 6) hC 2 (dAt dd_X11_entry 3 rfl) rfl rfl rfl ?_
  refine x_i2l (p' := 7) hC (dAt dd_X11_entry 4 rfl) rfl ?_
  refine x_lconst (v := 0) (p' := 8) hC (dAt dd_X11_entry 5 rfl) (by decide) rfl ?_
  refine x_ldc2_w (v := 5) (p' := 11) hC (dAt dd_X11_entry 6 rfl) k_1052 rfl ?_
  refine x_callSI (As := [.long (Int32.toInt64 p2), .long 0, .long 5]) (p' := 14) hC (c_X11_in _ _ _ h1 (Int32.toInt64 p2) 0 5) k_914 k_915 k_9 k_916 hd_X11_in ⟨by decide, by decide⟩ rfl (Nat.le_of_ble_eq_true rfl) rfl (dAt dd_X11_entry 7 rfl) rfl (fun v2 h3 => ?_)
  refine x_if_ne (tgt := 20) (p' := 17) hC (dAt dd_X11_entry 8 rfl) (by decide) rfl ?_ ?_
  · refine x_iload_n (p' := 21) hC 1 (dAt dd_X11_entry 11 rfl) rfl rfl rfl ?_
    refine x_i2l (p' := 22) hC (dAt dd_X11_entry 12 rfl) rfl ?_
    refine x_lconst (v := 0) (p' := 23) hC (dAt dd_X11_entry 13 rfl) (by decide) rfl ?_
    refine x_aload_n (p' := 24) hC 0 (dAt dd_X11_entry 14 rfl) rfl rfl rfl ?_
    refine x_getI (p' := 27) hC fk_RX11_251 rfl (dAt dd_X11_entry 15 rfl) rfl (fun v4 => ?_)
    refine x_iconst (v := 1) (p' := 28) hC (dAt dd_X11_entry 16 rfl) (by decide) rfl ?_
    refine x_isub (p' := 29) hC (dAt dd_X11_entry 17 rfl) rfl ?_
    refine x_i2l (p' := 30) hC (dAt dd_X11_entry 18 rfl) rfl ?_
    refine x_callSI (As := [.long (Int32.toInt64 p1), .long 0, .long (Int32.toInt64 (v4 - 1))]) (p' := 33) hC (c_X11_in _ _ _ h3 (Int32.toInt64 p1) 0 (Int32.toInt64 (v4 - 1))) k_914 k_915 k_9 k_916 hd_X11_in ⟨by decide, by decide⟩ rfl (Nat.le_of_ble_eq_true rfl) rfl (dAt dd_X11_entry 19 rfl) rfl (fun v5 h6 => ?_)
    refine x_if_ne (tgt := 39) (p' := 36) hC (dAt dd_X11_entry 20 rfl) (by decide) rfl ?_ ?_
    · refine x_iload_n (p' := 40) hC 2 (dAt dd_X11_entry 23 rfl) rfl rfl rfl ?_
      refine x_if_ne (tgt := 52) (p' := 43) hC (dAt dd_X11_entry 24 rfl) (by decide) rfl ?_ ?_
      · refine x_iload_n (p' := 53) hC 2 (dAt dd_X11_entry 30 rfl) rfl rfl rfl ?_
        refine x_iconst (v := 1) (p' := 54) hC (dAt dd_X11_entry 31 rfl) (by decide) rfl ?_
        refine x_icmp_ne (tgt := 66) (p' := 57) hC (dAt dd_X11_entry 32 rfl) (by decide) rfl ?_ ?_
        · refine x_iload_n (p' := 67) hC 2 (dAt dd_X11_entry 38 rfl) rfl rfl rfl ?_
          refine x_iconst (v := 2) (p' := 68) hC (dAt dd_X11_entry 39 rfl) (by decide) rfl ?_
          refine x_icmp_ne (tgt := 80) (p' := 71) hC (dAt dd_X11_entry 40 rfl) (by decide) rfl ?_ ?_
          · refine x_iload_n (p' := 81) hC 2 (dAt dd_X11_entry 46 rfl) rfl rfl rfl ?_
            refine x_iconst (v := 3) (p' := 82) hC (dAt dd_X11_entry 47 rfl) (by decide) rfl ?_
            refine x_icmp_ne (tgt := 94) (p' := 85) hC (dAt dd_X11_entry 48 rfl) (by decide) rfl ?_ ?_
            · refine x_iload_n (p' := 95) hC 2 (dAt dd_X11_entry 54 rfl) rfl rfl rfl ?_
              refine x_iconst (v := 4) (p' := 96) hC (dAt dd_X11_entry 55 rfl) (by decide) rfl ?_
              refine x_icmp_ne (tgt := 116) (p' := 99) hC (dAt dd_X11_entry 56 rfl) (by decide) rfl ?_ ?_
              · refine x_aload_n (p' := 117) hC 0 (dAt dd_X11_entry 66 rfl) rfl rfl rfl ?_
                refine x_getR (p' := 120) hC fk_RX11_125 rfl (dAt dd_X11_entry 67 rfl) rfl (fun r7 => ?_)
                refine x_iload_n (p' := 121) hC 1 (dAt dd_X11_entry 68 rfl) rfl rfl rfl ?_
                refine x_iaload (p' := 122) hC (dAt dd_X11_entry 69 rfl) rfl (fun v8 => ?_)
                exact x_ireturn hC (dAt dd_X11_entry 70 rfl)
              · refine x_aload_n (p' := 100) hC 0 (dAt dd_X11_entry 57 rfl) rfl rfl rfl ?_
                refine x_getR (p' := 103) hC fk_RX11_122 rfl (dAt dd_X11_entry 58 rfl) rfl (fun r9 => ?_)
                refine x_iload_n (p' := 104) hC 1 (dAt dd_X11_entry 59 rfl) rfl rfl rfl ?_
                refine x_baload (p' := 105) hC (dAt dd_X11_entry 60 rfl) rfl (fun v10 => ?_)
                refine x_if_eq (tgt := 112) (p' := 108) hC (dAt dd_X11_entry 61 rfl) (by decide) rfl ?_ ?_
                · refine x_iconst (v := 0) (p' := 113) hC (dAt dd_X11_entry 64 rfl) (by decide) rfl ?_
                  refine x_goto (tgt := 122) hC (dAt dd_X11_entry 65 rfl) (by decide) ?_
                  exact x_ireturn hC (dAt dd_X11_entry 70 rfl)
                · refine x_iconst (v := 1) (p' := 109) hC (dAt dd_X11_entry 62 rfl) (by decide) rfl ?_
                  refine x_goto (tgt := 122) hC (dAt dd_X11_entry 63 rfl) (by decide) ?_
                  exact x_ireturn hC (dAt dd_X11_entry 70 rfl)
            · refine x_aload_n (p' := 86) hC 0 (dAt dd_X11_entry 49 rfl) rfl rfl rfl ?_
              refine x_getR (p' := 89) hC fk_RX11_119 rfl (dAt dd_X11_entry 50 rfl) rfl (fun r11 => ?_)
              refine x_iload_n (p' := 90) hC 1 (dAt dd_X11_entry 51 rfl) rfl rfl rfl ?_
              refine x_iaload (p' := 91) hC (dAt dd_X11_entry 52 rfl) rfl (fun v12 => ?_)
              refine x_goto (tgt := 122) hC (dAt dd_X11_entry 53 rfl) (by decide) ?_
              exact x_ireturn hC (dAt dd_X11_entry 70 rfl)
          · refine x_aload_n (p' := 72) hC 0 (dAt dd_X11_entry 41 rfl) rfl rfl rfl ?_
            refine x_getR (p' := 75) hC fk_RX11_116 rfl (dAt dd_X11_entry 42 rfl) rfl (fun r13 => ?_)
            refine x_iload_n (p' := 76) hC 1 (dAt dd_X11_entry 43 rfl) rfl rfl rfl ?_
            refine x_iaload (p' := 77) hC (dAt dd_X11_entry 44 rfl) rfl (fun v14 => ?_)
            refine x_goto (tgt := 122) hC (dAt dd_X11_entry 45 rfl) (by decide) ?_
            exact x_ireturn hC (dAt dd_X11_entry 70 rfl)
        · refine x_aload_n (p' := 58) hC 0 (dAt dd_X11_entry 33 rfl) rfl rfl rfl ?_
          refine x_getR (p' := 61) hC fk_RX11_113 rfl (dAt dd_X11_entry 34 rfl) rfl (fun r15 => ?_)
          refine x_iload_n (p' := 62) hC 1 (dAt dd_X11_entry 35 rfl) rfl rfl rfl ?_
          refine x_iaload (p' := 63) hC (dAt dd_X11_entry 36 rfl) rfl (fun v16 => ?_)
          refine x_goto (tgt := 122) hC (dAt dd_X11_entry 37 rfl) (by decide) ?_
          exact x_ireturn hC (dAt dd_X11_entry 70 rfl)
      · refine x_aload_n (p' := 44) hC 0 (dAt dd_X11_entry 25 rfl) rfl rfl rfl ?_
        refine x_getR (p' := 47) hC fk_RX11_110 rfl (dAt dd_X11_entry 26 rfl) rfl (fun r17 => ?_)
        refine x_iload_n (p' := 48) hC 1 (dAt dd_X11_entry 27 rfl) rfl rfl rfl ?_
        refine x_iaload (p' := 49) hC (dAt dd_X11_entry 28 rfl) rfl (fun v18 => ?_)
        refine x_goto (tgt := 122) hC (dAt dd_X11_entry 29 rfl) (by decide) ?_
        exact x_ireturn hC (dAt dd_X11_entry 70 rfl)
    · refine x_ldc (v := (-1000000)) (p' := 38) hC (dAt dd_X11_entry 21 rfl) k_961 rfl ?_
      exact x_ireturn hC (dAt dd_X11_entry 22 rfl)
  · refine x_ldc (v := (-1000001)) (p' := 19) hC (dAt dd_X11_entry 9 rfl) k_918 rfl ?_
    exact x_ireturn hC (dAt dd_X11_entry 10 rfl)
set_option maxHeartbeats 4000000 in
set_option maxRecDepth 100000 in
theorem t_X11_isPlainFold_L4 {C : CT} (hC : OKC C yX11_isPlainFold cX11_isPlainFold 4 (some .boolean) 0 0)   : ∀ (n : Nat) (x0 : Nat) (x1 : Int32) (x2 : Int32) (x3 : Int32) (h : AH), WX rvI C 4 [(0, va_rf (some x0)), (1, .int x1), (2, .int x2), (3, .int x3)] [] h (f_X11_isPlainFold_L4 n x0 x1 x2 x3 h) := by
  intro n
  induction n with
  | zero => intro _ _ _ _ _; exact x_none
  | succ n ih =>
    intro x0 x1 x2 x3 h
    rw [f_X11_isPlainFold_L4]
    refine x_iload_n (p' := 5) hC 3 (dAt dd_X11_isPlainFold 4 rfl) rfl rfl rfl ?_
    refine x_aload_n (p' := 6) hC 0 (dAt dd_X11_isPlainFold 5 rfl) rfl rfl rfl ?_
    refine x_getR (p' := 9) hC fk_RX11_55 rfl (dAt dd_X11_isPlainFold 6 rfl) rfl (fun r1 => ?_)
    refine x_iload_n (p' := 10) hC 1 (dAt dd_X11_isPlainFold 7 rfl) rfl rfl rfl ?_
    refine x_iaload (p' := 11) hC (dAt dd_X11_isPlainFold 8 rfl) rfl (fun v2 => ?_)
    refine x_icmp_ge (tgt := 55) (p' := 14) hC (dAt dd_X11_isPlainFold 9 rfl) (by decide) rfl ?_ ?_
    · refine x_iload_n (p' := 56) hC 2 (dAt dd_X11_isPlainFold 35 rfl) rfl rfl rfl ?_
      exact x_zreturn hC (dAt dd_X11_isPlainFold 36 rfl)
    · refine x_iload_n (p' := 15) hC 2 (dAt dd_X11_isPlainFold 10 rfl) rfl rfl rfl ?_
      refine x_if_eq (tgt := 47) (p' := 18) hC (dAt dd_X11_isPlainFold 11 rfl) (by decide) rfl ?_ ?_
      · refine x_iconst (v := 0) (p' := 48) hC (dAt dd_X11_isPlainFold 31 rfl) (by decide) rfl ?_
        refine x_istore_n (j := 2) (lv' := [(2, .int 0), (0, va_rf (some x0)), (1, .int x1), (3, .int x3)]) (p' := 49) hC (dAt dd_X11_isPlainFold 32 rfl) rfl (by decide) rfl rfl ?_
        refine x_iinc (w := (x3 + 1)) (lv' := [(3, .int (x3 + 1)), (2, .int 0), (0, va_rf (some x0)), (1, .int x1)]) (p' := 52) hC 3 (dAt dd_X11_isPlainFold 33 rfl) rfl rfl (by decide) rfl rfl ?_
        refine x_goto (tgt := 4) hC (dAt dd_X11_isPlainFold 34 rfl) (by decide) ?_
        refine x_sub [2, 3, 1, 0] rfl ?_
        exact ih x0 x1 0 (x3 + 1) h
      · refine x_aload_n (p' := 19) hC 0 (dAt dd_X11_isPlainFold 12 rfl) rfl rfl rfl ?_
        refine x_getR (p' := 22) hC fk_RX11_49 rfl (dAt dd_X11_isPlainFold 13 rfl) rfl (fun r3 => ?_)
        refine x_bipush (v := 60) (p' := 24) hC (dAt dd_X11_isPlainFold 14 rfl) (by decide) rfl ?_
        refine x_iload_n (p' := 25) hC 1 (dAt dd_X11_isPlainFold 15 rfl) rfl rfl rfl ?_
        refine x_imul (p' := 26) hC (dAt dd_X11_isPlainFold 16 rfl) rfl ?_
        refine x_iload_n (p' := 27) hC 3 (dAt dd_X11_isPlainFold 17 rfl) rfl rfl rfl ?_
        refine x_iadd (p' := 28) hC (dAt dd_X11_isPlainFold 18 rfl) rfl ?_
        refine x_iaload (p' := 29) hC (dAt dd_X11_isPlainFold 19 rfl) rfl (fun v4 => ?_)
        refine x_aload_n (p' := 30) hC 0 (dAt dd_X11_isPlainFold 20 rfl) rfl rfl rfl ?_
        refine x_getR (p' := 33) hC fk_RX11_52 rfl (dAt dd_X11_isPlainFold 21 rfl) rfl (fun r5 => ?_)
        refine x_bipush (v := 60) (p' := 35) hC (dAt dd_X11_isPlainFold 22 rfl) (by decide) rfl ?_
        refine x_iload_n (p' := 36) hC 1 (dAt dd_X11_isPlainFold 23 rfl) rfl rfl rfl ?_
        refine x_imul (p' := 37) hC (dAt dd_X11_isPlainFold 24 rfl) rfl ?_
        refine x_iload_n (p' := 38) hC 3 (dAt dd_X11_isPlainFold 25 rfl) rfl rfl rfl ?_
        refine x_iadd (p' := 39) hC (dAt dd_X11_isPlainFold 26 rfl) rfl ?_
        refine x_iaload (p' := 40) hC (dAt dd_X11_isPlainFold 27 rfl) rfl (fun v6 => ?_)
        refine x_icmp_ne (tgt := 47) (p' := 43) hC (dAt dd_X11_isPlainFold 28 rfl) (by decide) rfl ?_ ?_
        · refine x_iconst (v := 0) (p' := 48) hC (dAt dd_X11_isPlainFold 31 rfl) (by decide) rfl ?_
          refine x_istore_n (j := 2) (lv' := [(2, .int 0), (0, va_rf (some x0)), (1, .int x1), (3, .int x3)]) (p' := 49) hC (dAt dd_X11_isPlainFold 32 rfl) rfl (by decide) rfl rfl ?_
          refine x_iinc (w := (x3 + 1)) (lv' := [(3, .int (x3 + 1)), (2, .int 0), (0, va_rf (some x0)), (1, .int x1)]) (p' := 52) hC 3 (dAt dd_X11_isPlainFold 33 rfl) rfl rfl (by decide) rfl rfl ?_
          refine x_goto (tgt := 4) hC (dAt dd_X11_isPlainFold 34 rfl) (by decide) ?_
          refine x_sub [2, 3, 1, 0] rfl ?_
          exact ih x0 x1 0 (x3 + 1) h
        · refine x_iconst (v := 1) (p' := 44) hC (dAt dd_X11_isPlainFold 29 rfl) (by decide) rfl ?_
          refine x_goto (tgt := 48) hC (dAt dd_X11_isPlainFold 30 rfl) (by decide) ?_
          refine x_istore_n (j := 2) (lv' := [(2, .int 1), (0, va_rf (some x0)), (1, .int x1), (3, .int x3)]) (p' := 49) hC (dAt dd_X11_isPlainFold 32 rfl) rfl (by decide) rfl rfl ?_
          refine x_iinc (w := (x3 + 1)) (lv' := [(3, .int (x3 + 1)), (2, .int 1), (0, va_rf (some x0)), (1, .int x1)]) (p' := 52) hC 3 (dAt dd_X11_isPlainFold 33 rfl) rfl rfl (by decide) rfl rfl ?_
          refine x_goto (tgt := 4) hC (dAt dd_X11_isPlainFold 34 rfl) (by decide) ?_
          refine x_sub [2, 3, 1, 0] rfl ?_
          exact ih x0 x1 1 (x3 + 1) h
set_option maxHeartbeats 4000000 in
set_option maxRecDepth 100000 in
theorem c_X11_isPlainFold (l : Launch) (D : va_G) (cy : Nat → ClassId) (h : AH) (a0 : Nat) (p1 : Int32) : MX rvI l yX11_isPlainFold (Cond.code yX11_isPlainFold cX11_isPlainFold 4 (some .boolean) :: LW) 0 0 D cy h [va_rf (some a0), .int p1] (f_X11_isPlainFold h a0 p1) := by
  refine MX.of (lv := [(0, va_rf (some a0)), (1, .int p1)]) (by decide) (Nat.le_of_ble_eq_true rfl) rfl (fun C hC _ => ?_)
  unfold f_X11_isPlainFold
  refine x_iconst (v := 1) (p' := 1) hC (dAt dd_X11_isPlainFold 0 rfl) (by decide) rfl ?_
  refine x_istore_n (j := 2) (lv' := [(2, .int 1), (0, va_rf (some a0)), (1, .int p1)]) (p' := 2) hC (dAt dd_X11_isPlainFold 1 rfl) rfl (by decide) rfl rfl ?_
  refine x_iconst (v := 0) (p' := 3) hC (dAt dd_X11_isPlainFold 2 rfl) (by decide) rfl ?_
  refine x_istore_n (j := 3) (lv' := [(3, .int 0), (2, .int 1), (0, va_rf (some a0)), (1, .int p1)]) (p' := 4) hC (dAt dd_X11_isPlainFold 3 rfl) rfl (by decide) rfl rfl ?_
  refine x_sub [2, 3, 1, 0] rfl ?_
  exact t_X11_isPlainFold_L4 hC FU a0 p1 1 0 h
set_option maxHeartbeats 4000000 in
set_option maxRecDepth 100000 in
theorem t_X11_isPlainAlike_L24 {C : CT} (hC : OKC C yX11_isPlainAlike cX11_isPlainAlike 5 (some .boolean) 0 0)   : ∀ (n : Nat) (x0 : Nat) (x1 : Int32) (x2 : Int32) (x3 : Int32) (x4 : Int32) (h : AH), WX rvI C 24 [(0, va_rf (some x0)), (1, .int x1), (2, .int x2), (3, .int x3), (4, .int x4)] [] h (f_X11_isPlainAlike_L24 n x0 x1 x2 x3 x4 h) := by
  intro n
  induction n with
  | zero => intro _ _ _ _ _ _; exact x_none
  | succ n ih =>
    intro x0 x1 x2 x3 x4 h
    rw [f_X11_isPlainAlike_L24]
    refine x_iload (p' := 26) hC 4 (dAt dd_X11_isPlainAlike 15 rfl) rfl rfl ?_
    refine x_aload_n (p' := 27) hC 0 (dAt dd_X11_isPlainAlike 16 rfl) rfl rfl rfl ?_
    refine x_getR (p' := 30) hC fk_RX11_55 rfl (dAt dd_X11_isPlainAlike 17 rfl) rfl (fun r5 => ?_)
    refine x_iload_n (p' := 31) hC 1 (dAt dd_X11_isPlainAlike 18 rfl) rfl rfl rfl ?_
    refine x_iaload (p' := 32) hC (dAt dd_X11_isPlainAlike 19 rfl) rfl (fun v6 => ?_)
    refine x_icmp_ge (tgt := 78) (p' := 35) hC (dAt dd_X11_isPlainAlike 20 rfl) (by decide) rfl ?_ ?_
    · refine x_iload_n (p' := 79) hC 3 (dAt dd_X11_isPlainAlike 46 rfl) rfl rfl rfl ?_
      exact x_zreturn hC (dAt dd_X11_isPlainAlike 47 rfl)
    · refine x_iload_n (p' := 36) hC 3 (dAt dd_X11_isPlainAlike 21 rfl) rfl rfl rfl ?_
      refine x_if_eq (tgt := 78) (p' := 39) hC (dAt dd_X11_isPlainAlike 22 rfl) (by decide) rfl ?_ ?_
      · refine x_iload_n (p' := 79) hC 3 (dAt dd_X11_isPlainAlike 46 rfl) rfl rfl rfl ?_
        exact x_zreturn hC (dAt dd_X11_isPlainAlike 47 rfl)
      · refine x_aload_n (p' := 40) hC 0 (dAt dd_X11_isPlainAlike 23 rfl) rfl rfl rfl ?_
        refine x_getR (p' := 43) hC fk_RX11_49 rfl (dAt dd_X11_isPlainAlike 24 rfl) rfl (fun r7 => ?_)
        refine x_bipush (v := 60) (p' := 45) hC (dAt dd_X11_isPlainAlike 25 rfl) (by decide) rfl ?_
        refine x_iload_n (p' := 46) hC 1 (dAt dd_X11_isPlainAlike 26 rfl) rfl rfl rfl ?_
        refine x_imul (p' := 47) hC (dAt dd_X11_isPlainAlike 27 rfl) rfl ?_
        refine x_iload (p' := 49) hC 4 (dAt dd_X11_isPlainAlike 28 rfl) rfl rfl ?_
        refine x_iadd (p' := 50) hC (dAt dd_X11_isPlainAlike 29 rfl) rfl ?_
        refine x_iaload (p' := 51) hC (dAt dd_X11_isPlainAlike 30 rfl) rfl (fun v8 => ?_)
        refine x_aload_n (p' := 52) hC 0 (dAt dd_X11_isPlainAlike 31 rfl) rfl rfl rfl ?_
        refine x_getR (p' := 55) hC fk_RX11_49 rfl (dAt dd_X11_isPlainAlike 32 rfl) rfl (fun r9 => ?_)
        refine x_bipush (v := 60) (p' := 57) hC (dAt dd_X11_isPlainAlike 33 rfl) (by decide) rfl ?_
        refine x_iload_n (p' := 58) hC 2 (dAt dd_X11_isPlainAlike 34 rfl) rfl rfl rfl ?_
        refine x_imul (p' := 59) hC (dAt dd_X11_isPlainAlike 35 rfl) rfl ?_
        refine x_iload (p' := 61) hC 4 (dAt dd_X11_isPlainAlike 36 rfl) rfl rfl ?_
        refine x_iadd (p' := 62) hC (dAt dd_X11_isPlainAlike 37 rfl) rfl ?_
        refine x_iaload (p' := 63) hC (dAt dd_X11_isPlainAlike 38 rfl) rfl (fun v10 => ?_)
        refine x_icmp_ne (tgt := 70) (p' := 66) hC (dAt dd_X11_isPlainAlike 39 rfl) (by decide) rfl ?_ ?_
        · refine x_iconst (v := 0) (p' := 71) hC (dAt dd_X11_isPlainAlike 42 rfl) (by decide) rfl ?_
          refine x_istore_n (j := 3) (lv' := [(3, .int 0), (0, va_rf (some x0)), (1, .int x1), (2, .int x2), (4, .int x4)]) (p' := 72) hC (dAt dd_X11_isPlainAlike 43 rfl) rfl (by decide) rfl rfl ?_
          refine x_iinc (w := (x4 + 1)) (lv' := [(4, .int (x4 + 1)), (3, .int 0), (0, va_rf (some x0)), (1, .int x1), (2, .int x2)]) (p' := 75) hC 4 (dAt dd_X11_isPlainAlike 44 rfl) rfl rfl (by decide) rfl rfl ?_
          refine x_goto (tgt := 24) hC (dAt dd_X11_isPlainAlike 45 rfl) (by decide) ?_
          refine x_sub [2, 3, 4, 1, 0] rfl ?_
          exact ih x0 x1 x2 0 (x4 + 1) h
        · refine x_iconst (v := 1) (p' := 67) hC (dAt dd_X11_isPlainAlike 40 rfl) (by decide) rfl ?_
          refine x_goto (tgt := 71) hC (dAt dd_X11_isPlainAlike 41 rfl) (by decide) ?_
          refine x_istore_n (j := 3) (lv' := [(3, .int 1), (0, va_rf (some x0)), (1, .int x1), (2, .int x2), (4, .int x4)]) (p' := 72) hC (dAt dd_X11_isPlainAlike 43 rfl) rfl (by decide) rfl rfl ?_
          refine x_iinc (w := (x4 + 1)) (lv' := [(4, .int (x4 + 1)), (3, .int 1), (0, va_rf (some x0)), (1, .int x1), (2, .int x2)]) (p' := 75) hC 4 (dAt dd_X11_isPlainAlike 44 rfl) rfl rfl (by decide) rfl rfl ?_
          refine x_goto (tgt := 24) hC (dAt dd_X11_isPlainAlike 45 rfl) (by decide) ?_
          refine x_sub [2, 3, 4, 1, 0] rfl ?_
          exact ih x0 x1 x2 1 (x4 + 1) h
set_option maxHeartbeats 4000000 in
set_option maxRecDepth 100000 in
theorem c_X11_isPlainAlike (l : Launch) (D : va_G) (cy : Nat → ClassId) (h : AH) (a0 : Nat) (p1 : Int32) (p2 : Int32) : MX rvI l yX11_isPlainAlike (Cond.code yX11_isPlainAlike cX11_isPlainAlike 5 (some .boolean) :: LW) 0 0 D cy h [va_rf (some a0), .int p1, .int p2] (f_X11_isPlainAlike h a0 p1 p2) := by
  refine MX.of (lv := [(0, va_rf (some a0)), (1, .int p1), (2, .int p2)]) (by decide) (Nat.le_of_ble_eq_true rfl) rfl (fun C hC _ => ?_)
  unfold f_X11_isPlainAlike
  refine x_aload_n (p' := 1) hC 0 (dAt dd_X11_isPlainAlike 0 rfl) rfl rfl rfl ?_
  refine x_getR (p' := 4) hC fk_RX11_55 rfl (dAt dd_X11_isPlainAlike 1 rfl) rfl (fun r1 => ?_)
  refine x_iload_n (p' := 5) hC 1 (dAt dd_X11_isPlainAlike 2 rfl) rfl rfl rfl ?_
  refine x_iaload (p' := 6) hC (dAt dd_X11_isPlainAlike 3 rfl) rfl (fun v2 => ?_)
  refine x_aload_n (p' := 7) hC 0 (dAt dd_X11_isPlainAlike 4 rfl) rfl rfl rfl ?_
  refine x_getR (p' := 10) hC fk_RX11_55 rfl (dAt dd_X11_isPlainAlike 5 rfl) rfl (fun r3 => ?_)
  refine x_iload_n (p' := 11) hC 2 (dAt dd_X11_isPlainAlike 6 rfl) rfl rfl rfl ?_
  refine x_iaload (p' := 12) hC (dAt dd_X11_isPlainAlike 7 rfl) rfl (fun v4 => ?_)
  refine x_icmp_ne (tgt := 19) (p' := 15) hC (dAt dd_X11_isPlainAlike 8 rfl) (by decide) rfl ?_ ?_
  · refine x_iconst (v := 0) (p' := 20) hC (dAt dd_X11_isPlainAlike 11 rfl) (by decide) rfl ?_
    refine x_istore_n (j := 3) (lv' := [(3, .int 0), (0, va_rf (some a0)), (1, .int p1), (2, .int p2)]) (p' := 21) hC (dAt dd_X11_isPlainAlike 12 rfl) rfl (by decide) rfl rfl ?_
    refine x_iconst (v := 0) (p' := 22) hC (dAt dd_X11_isPlainAlike 13 rfl) (by decide) rfl ?_
    refine x_istore (lv' := [(4, .int 0), (3, .int 0), (0, va_rf (some a0)), (1, .int p1), (2, .int p2)]) (p' := 24) hC (dAt dd_X11_isPlainAlike 14 rfl) (by decide) rfl rfl ?_
    refine x_sub [2, 3, 4, 1, 0] rfl ?_
    exact t_X11_isPlainAlike_L24 hC FU a0 p1 p2 0 0 h
  · refine x_iconst (v := 1) (p' := 16) hC (dAt dd_X11_isPlainAlike 9 rfl) (by decide) rfl ?_
    refine x_goto (tgt := 20) hC (dAt dd_X11_isPlainAlike 10 rfl) (by decide) ?_
    refine x_istore_n (j := 3) (lv' := [(3, .int 1), (0, va_rf (some a0)), (1, .int p1), (2, .int p2)]) (p' := 21) hC (dAt dd_X11_isPlainAlike 12 rfl) rfl (by decide) rfl rfl ?_
    refine x_iconst (v := 0) (p' := 22) hC (dAt dd_X11_isPlainAlike 13 rfl) (by decide) rfl ?_
    refine x_istore (lv' := [(4, .int 0), (3, .int 1), (0, va_rf (some a0)), (1, .int p1), (2, .int p2)]) (p' := 24) hC (dAt dd_X11_isPlainAlike 14 rfl) (by decide) rfl rfl ?_
    refine x_sub [2, 3, 4, 1, 0] rfl ?_
    exact t_X11_isPlainAlike_L24 hC FU a0 p1 p2 1 0 h
set_option maxHeartbeats 4000000 in
set_option maxRecDepth 100000 in
theorem t_X11_kindOf_J111 {C : CT} (hC : OKC C yX11_kindOf cX11_kindOf 6 (some .int) 1 24) (k7 : Nat → Int32 → Int32 → Int32 → Int32 → AH → RX Int32) (hk7 : ∀ (x0 : Nat) (x1 : Int32) (x2 : Int32) (x3 : Int32) (x4 : Int32) (h : AH), WX rvI C 7 [(0, va_rf (some x0)), (1, .int x1), (2, .int x2), (3, .int x3), (4, .int x4)] [] h (k7 x0 x1 x2 x3 x4 h)) : ∀ (x0 : Nat) (x1 : Int32) (x2 : Int32) (x4 : Int32) (h : AH), WX rvI C 111 [(0, va_rf (some x0)), (1, .int x1), (2, .int x2), (4, .int x4)] [] h (f_X11_kindOf_J111 k7 x0 x1 x2 x4 h) := by
  intro x0 x1 x2 x4 h
  unfold f_X11_kindOf_J111
  refine x_iconst (v := 1) (p' := 112) hC (dAt dd_X11_kindOf 60 rfl) (by decide) rfl ?_
  refine x_goto (tgt := 116) hC (dAt dd_X11_kindOf 61 rfl) (by decide) ?_
  refine x_istore_n (j := 3) (lv' := [(3, .int 1), (0, va_rf (some x0)), (1, .int x1), (2, .int x2), (4, .int x4)]) (p' := 117) hC (dAt dd_X11_kindOf 63 rfl) rfl (by decide) rfl rfl ?_
  refine x_iinc (w := (x4 + 1)) (lv' := [(4, .int (x4 + 1)), (3, .int 1), (0, va_rf (some x0)), (1, .int x1), (2, .int x2)]) (p' := 120) hC 4 (dAt dd_X11_kindOf 64 rfl) rfl rfl (by decide) rfl rfl ?_
  refine x_goto (tgt := 7) hC (dAt dd_X11_kindOf 65 rfl) (by decide) ?_
  refine x_sub [2, 3, 4, 1, 0] rfl ?_
  exact hk7 x0 x1 x2 1 (x4 + 1) h
set_option maxHeartbeats 4000000 in
set_option maxRecDepth 100000 in
theorem t_X11_kindOf_J75 {C : CT} (hC : OKC C yX11_kindOf cX11_kindOf 6 (some .int) 1 24) (k7 : Nat → Int32 → Int32 → Int32 → Int32 → AH → RX Int32) (hk7 : ∀ (x0 : Nat) (x1 : Int32) (x2 : Int32) (x3 : Int32) (x4 : Int32) (h : AH), WX rvI C 7 [(0, va_rf (some x0)), (1, .int x1), (2, .int x2), (3, .int x3), (4, .int x4)] [] h (k7 x0 x1 x2 x3 x4 h)) : ∀ (x0 : Nat) (x1 : Int32) (x3 : Int32) (x4 : Int32) (x5 : Int32) (s0 : Int32) (h : AH), WX rvI C 75 [(0, va_rf (some x0)), (1, .int x1), (3, .int x3), (4, .int x4), (5, .int x5)] [.int s0] h (f_X11_kindOf_J75 k7 x0 x1 x3 x4 x5 s0 h) := by
  intro x0 x1 x3 x4 x5 s0 h
  unfold f_X11_kindOf_J75
  refine x_istore_n (j := 2) (lv' := [(2, .int s0), (0, va_rf (some x0)), (1, .int x1), (3, .int x3), (4, .int x4), (5, .int x5)]) (p' := 76) hC (dAt dd_X11_kindOf 42 rfl) rfl (by decide) rfl rfl ?_
  refine x_iload_n (p' := 77) hC 3 (dAt dd_X11_kindOf 43 rfl) rfl rfl rfl ?_
  refine x_if_ne (tgt := 111) (p' := 80) hC (dAt dd_X11_kindOf 44 rfl) (by decide) rfl ?_ ?_
  · refine x_sub [1, 2, 0, 4] rfl ?_
    exact t_X11_kindOf_J111 hC k7 hk7 x0 x1 s0 x4 h
  · refine x_aload_n (p' := 81) hC 1 (dAt dd_X11_kindOf 45 rfl) rfl rfl rfl ?_
    refine x_getR (p' := 84) hC fk_RX11_45 rfl (dAt dd_X11_kindOf 46 rfl) rfl (fun r1 => ?_)
    refine x_iload (p' := 86) hC 4 (dAt dd_X11_kindOf 47 rfl) rfl rfl ?_
    refine x_baload (p' := 87) hC (dAt dd_X11_kindOf 48 rfl) rfl (fun v2 => ?_)
    refine x_if_eq (tgt := 115) (p' := 90) hC (dAt dd_X11_kindOf 49 rfl) (by decide) rfl ?_ ?_
    · refine x_iconst (v := 0) (p' := 116) hC (dAt dd_X11_kindOf 62 rfl) (by decide) rfl ?_
      refine x_istore_n (j := 3) (lv' := [(3, .int 0), (2, .int s0), (0, va_rf (some x0)), (1, .int x1), (4, .int x4), (5, .int x5)]) (p' := 117) hC (dAt dd_X11_kindOf 63 rfl) rfl (by decide) rfl rfl ?_
      refine x_iinc (w := (x4 + 1)) (lv' := [(4, .int (x4 + 1)), (3, .int 0), (2, .int s0), (0, va_rf (some x0)), (1, .int x1), (5, .int x5)]) (p' := 120) hC 4 (dAt dd_X11_kindOf 64 rfl) rfl rfl (by decide) rfl rfl ?_
      refine x_goto (tgt := 7) hC (dAt dd_X11_kindOf 65 rfl) (by decide) ?_
      refine x_sub [3, 4, 2, 1, 0] rfl ?_
      exact hk7 x0 x1 s0 0 (x4 + 1) h
    · refine x_iload (p' := 92) hC 5 (dAt dd_X11_kindOf 50 rfl) rfl rfl ?_
      refine x_if_eq (tgt := 115) (p' := 95) hC (dAt dd_X11_kindOf 51 rfl) (by decide) rfl ?_ ?_
      · refine x_iconst (v := 0) (p' := 116) hC (dAt dd_X11_kindOf 62 rfl) (by decide) rfl ?_
        refine x_istore_n (j := 3) (lv' := [(3, .int 0), (2, .int s0), (0, va_rf (some x0)), (1, .int x1), (4, .int x4), (5, .int x5)]) (p' := 117) hC (dAt dd_X11_kindOf 63 rfl) rfl (by decide) rfl rfl ?_
        refine x_iinc (w := (x4 + 1)) (lv' := [(4, .int (x4 + 1)), (3, .int 0), (2, .int s0), (0, va_rf (some x0)), (1, .int x1), (5, .int x5)]) (p' := 120) hC 4 (dAt dd_X11_kindOf 64 rfl) rfl rfl (by decide) rfl rfl ?_
        refine x_goto (tgt := 7) hC (dAt dd_X11_kindOf 65 rfl) (by decide) ?_
        refine x_sub [3, 4, 2, 1, 0] rfl ?_
        exact hk7 x0 x1 s0 0 (x4 + 1) h
      · refine x_iload (p' := 97) hC 4 (dAt dd_X11_kindOf 52 rfl) rfl rfl ?_
        refine x_iload_n (p' := 98) hC 2 (dAt dd_X11_kindOf 53 rfl) rfl rfl rfl ?_
        refine x_icmp_eq (tgt := 115) (p' := 101) hC (dAt dd_X11_kindOf 54 rfl) (by decide) rfl ?_ ?_
        · refine x_iconst (v := 0) (p' := 116) hC (dAt dd_X11_kindOf 62 rfl) (by decide) rfl ?_
          refine x_istore_n (j := 3) (lv' := [(3, .int 0), (2, .int s0), (0, va_rf (some x0)), (1, .int x1), (4, .int x4), (5, .int x5)]) (p' := 117) hC (dAt dd_X11_kindOf 63 rfl) rfl (by decide) rfl rfl ?_
          refine x_iinc (w := (x4 + 1)) (lv' := [(4, .int (x4 + 1)), (3, .int 0), (2, .int s0), (0, va_rf (some x0)), (1, .int x1), (5, .int x5)]) (p' := 120) hC 4 (dAt dd_X11_kindOf 64 rfl) rfl rfl (by decide) rfl rfl ?_
          refine x_goto (tgt := 7) hC (dAt dd_X11_kindOf 65 rfl) (by decide) ?_
          refine x_sub [3, 4, 2, 1, 0] rfl ?_
          exact hk7 x0 x1 s0 0 (x4 + 1) h
        · refine x_aload_n (p' := 102) hC 1 (dAt dd_X11_kindOf 55 rfl) rfl rfl rfl ?_
          refine x_iload (p' := 104) hC 4 (dAt dd_X11_kindOf 56 rfl) rfl rfl ?_
          refine x_iload_n (p' := 105) hC 2 (dAt dd_X11_kindOf 57 rfl) rfl rfl rfl ?_
          refine x_callVI (As := [.int x4, .int x1]) (z := fun b => f_X11_areAlike h b x4 x1) (p' := 108) hC (fun b => c_X11_areAlike _ _ _ h b x4 x1) k_990 k_992 (k_sl 45 rfl) k_9 k_993 hd_X11_areAlike ⟨by decide, by decide⟩ (ci := 10) rfl rfl (by decide) rfl (Nat.le_of_ble_eq_true rfl) rfl (dAt dd_X11_kindOf 58 rfl) rfl (fun v3 h4 => ?_)
          refine x_if_ne (tgt := 115) (p' := 111) hC (dAt dd_X11_kindOf 59 rfl) (by decide) rfl ?_ ?_
          · refine x_iconst (v := 0) (p' := 116) hC (dAt dd_X11_kindOf 62 rfl) (by decide) rfl ?_
            refine x_istore_n (j := 3) (lv' := [(3, .int 0), (2, .int s0), (0, va_rf (some x0)), (1, .int x1), (4, .int x4), (5, .int x5)]) (p' := 117) hC (dAt dd_X11_kindOf 63 rfl) rfl (by decide) rfl rfl ?_
            refine x_iinc (w := (x4 + 1)) (lv' := [(4, .int (x4 + 1)), (3, .int 0), (2, .int s0), (0, va_rf (some x0)), (1, .int x1), (5, .int x5)]) (p' := 120) hC 4 (dAt dd_X11_kindOf 64 rfl) rfl rfl (by decide) rfl rfl ?_
            refine x_goto (tgt := 7) hC (dAt dd_X11_kindOf 65 rfl) (by decide) ?_
            refine x_sub [3, 4, 2, 1, 0] rfl ?_
            exact hk7 x0 x1 s0 0 (x4 + 1) h4
          · refine x_sub [1, 2, 0, 4] rfl ?_
            exact t_X11_kindOf_J111 hC k7 hk7 x0 x1 s0 x4 h4
set_option maxHeartbeats 4000000 in
set_option maxRecDepth 100000 in
theorem t_X11_kindOf_J70 {C : CT} (hC : OKC C yX11_kindOf cX11_kindOf 6 (some .int) 1 24) (k7 : Nat → Int32 → Int32 → Int32 → Int32 → AH → RX Int32) (hk7 : ∀ (x0 : Nat) (x1 : Int32) (x2 : Int32) (x3 : Int32) (x4 : Int32) (h : AH), WX rvI C 7 [(0, va_rf (some x0)), (1, .int x1), (2, .int x2), (3, .int x3), (4, .int x4)] [] h (k7 x0 x1 x2 x3 x4 h)) : ∀ (x0 : Nat) (x1 : Int32) (x3 : Int32) (x4 : Int32) (x5 : Int32) (h : AH), WX rvI C 70 [(0, va_rf (some x0)), (1, .int x1), (3, .int x3), (4, .int x4), (5, .int x5)] [] h (f_X11_kindOf_J70 k7 x0 x1 x3 x4 x5 h) := by
  intro x0 x1 x3 x4 x5 h
  unfold f_X11_kindOf_J70
  refine x_iconst (v := 1) (p' := 71) hC (dAt dd_X11_kindOf 39 rfl) (by decide) rfl ?_
  refine x_goto (tgt := 75) hC (dAt dd_X11_kindOf 40 rfl) (by decide) ?_
  exact t_X11_kindOf_J75 hC k7 hk7 x0 x1 x3 x4 x5 1 h
set_option maxHeartbeats 4000000 in
set_option maxRecDepth 100000 in
theorem t_X11_kindOf_J74 {C : CT} (hC : OKC C yX11_kindOf cX11_kindOf 6 (some .int) 1 24) (k7 : Nat → Int32 → Int32 → Int32 → Int32 → AH → RX Int32) (hk7 : ∀ (x0 : Nat) (x1 : Int32) (x2 : Int32) (x3 : Int32) (x4 : Int32) (h : AH), WX rvI C 7 [(0, va_rf (some x0)), (1, .int x1), (2, .int x2), (3, .int x3), (4, .int x4)] [] h (k7 x0 x1 x2 x3 x4 h)) : ∀ (x0 : Nat) (x1 : Int32) (x3 : Int32) (x4 : Int32) (x5 : Int32) (h : AH), WX rvI C 74 [(0, va_rf (some x0)), (1, .int x1), (3, .int x3), (4, .int x4), (5, .int x5)] [] h (f_X11_kindOf_J74 k7 x0 x1 x3 x4 x5 h) := by
  intro x0 x1 x3 x4 x5 h
  unfold f_X11_kindOf_J74
  refine x_iconst (v := 0) (p' := 75) hC (dAt dd_X11_kindOf 41 rfl) (by decide) rfl ?_
  exact t_X11_kindOf_J75 hC k7 hk7 x0 x1 x3 x4 x5 0 h
set_option maxHeartbeats 4000000 in
set_option maxRecDepth 100000 in
theorem t_X11_kindOf_J29 {C : CT} (hC : OKC C yX11_kindOf cX11_kindOf 6 (some .int) 1 24) (k7 : Nat → Int32 → Int32 → Int32 → Int32 → AH → RX Int32) (hk7 : ∀ (x0 : Nat) (x1 : Int32) (x2 : Int32) (x3 : Int32) (x4 : Int32) (h : AH), WX rvI C 7 [(0, va_rf (some x0)), (1, .int x1), (2, .int x2), (3, .int x3), (4, .int x4)] [] h (k7 x0 x1 x2 x3 x4 h)) : ∀ (x0 : Nat) (x1 : Int32) (x2 : Int32) (x3 : Int32) (x4 : Int32) (s0 : Int32) (h : AH), WX rvI C 29 [(0, va_rf (some x0)), (1, .int x1), (2, .int x2), (3, .int x3), (4, .int x4)] [.int s0] h (f_X11_kindOf_J29 k7 x0 x1 x2 x3 x4 s0 h) := by
  intro x0 x1 x2 x3 x4 s0 h
  unfold f_X11_kindOf_J29
  refine x_istore (lv' := [(5, .int s0), (0, va_rf (some x0)), (1, .int x1), (2, .int x2), (3, .int x3), (4, .int x4)]) (p' := 31) hC (dAt dd_X11_kindOf 19 rfl) (by decide) rfl rfl ?_
  refine x_iload_n (p' := 32) hC 3 (dAt dd_X11_kindOf 20 rfl) rfl rfl rfl ?_
  refine x_if_ne (tgt := 70) (p' := 35) hC (dAt dd_X11_kindOf 21 rfl) (by decide) rfl ?_ ?_
  · refine x_sub [1, 2, 4, 5, 0] rfl ?_
    exact t_X11_kindOf_J70 hC k7 hk7 x0 x1 x3 x4 s0 h
  · refine x_aload_n (p' := 36) hC 1 (dAt dd_X11_kindOf 22 rfl) rfl rfl rfl ?_
    refine x_getR (p' := 39) hC fk_RX11_45 rfl (dAt dd_X11_kindOf 23 rfl) rfl (fun r5 => ?_)
    refine x_iload (p' := 41) hC 5 (dAt dd_X11_kindOf 24 rfl) rfl rfl ?_
    refine x_baload (p' := 42) hC (dAt dd_X11_kindOf 25 rfl) rfl (fun v6 => ?_)
    refine x_if_eq (tgt := 74) (p' := 45) hC (dAt dd_X11_kindOf 26 rfl) (by decide) rfl ?_ ?_
    · refine x_sub [1, 2, 4, 5, 0] rfl ?_
      exact t_X11_kindOf_J74 hC k7 hk7 x0 x1 x3 x4 s0 h
    · refine x_iload (p' := 47) hC 0 (dAt dd_X11_kindOf 27 rfl) rfl rfl ?_
      refine x_if_ne (tgt := 74) (p' := 50) hC (dAt dd_X11_kindOf 28 rfl) (by decide) rfl ?_ ?_
      · refine x_sub [1, 2, 4, 5, 0] rfl ?_
        exact t_X11_kindOf_J74 hC k7 hk7 x0 x1 x3 x4 s0 h
      · refine x_aload_n (p' := 51) hC 1 (dAt dd_X11_kindOf 29 rfl) rfl rfl rfl ?_
        refine x_iload (p' := 53) hC 5 (dAt dd_X11_kindOf 30 rfl) rfl rfl ?_
        refine x_iload_n (p' := 54) hC 2 (dAt dd_X11_kindOf 31 rfl) rfl rfl rfl ?_
        refine x_callVI (As := [.int x4, .int x1]) (z := fun b => f_X11_areAlike h b x4 x1) (p' := 57) hC (fun b => c_X11_areAlike _ _ _ h b x4 x1) k_990 k_992 (k_sl 45 rfl) k_9 k_993 hd_X11_areAlike ⟨by decide, by decide⟩ (ci := 10) rfl rfl (by decide) rfl (Nat.le_of_ble_eq_true rfl) rfl (dAt dd_X11_kindOf 32 rfl) rfl (fun v7 h8 => ?_)
        refine x_if_eq (tgt := 74) (p' := 60) hC (dAt dd_X11_kindOf 33 rfl) (by decide) rfl ?_ ?_
        · refine x_sub [1, 2, 4, 5, 0] rfl ?_
          exact t_X11_kindOf_J74 hC k7 hk7 x0 x1 x3 x4 s0 h8
        · refine x_aload_n (p' := 61) hC 1 (dAt dd_X11_kindOf 34 rfl) rfl rfl rfl ?_
          refine x_iload (p' := 63) hC 5 (dAt dd_X11_kindOf 35 rfl) rfl rfl ?_
          refine x_iload_n (p' := 64) hC 2 (dAt dd_X11_kindOf 36 rfl) rfl rfl rfl ?_
          refine x_callVI (As := [.int x4, .int x1]) (z := fun b => f_X11_isPlainAlike h8 b x4 x1) (p' := 67) hC (fun b => c_X11_isPlainAlike _ _ _ h8 b x4 x1) k_1110 k_1112 (k_sl 57 rfl) k_9 k_1113 hd_X11_isPlainAlike ⟨by decide, by decide⟩ (ci := 10) rfl rfl (by decide) rfl (Nat.le_of_ble_eq_true rfl) rfl (dAt dd_X11_kindOf 37 rfl) rfl (fun v9 h10 => ?_)
          refine x_if_ne (tgt := 74) (p' := 70) hC (dAt dd_X11_kindOf 38 rfl) (by decide) rfl ?_ ?_
          · refine x_sub [1, 2, 4, 5, 0] rfl ?_
            exact t_X11_kindOf_J74 hC k7 hk7 x0 x1 x3 x4 s0 h10
          · refine x_sub [1, 2, 4, 5, 0] rfl ?_
            exact t_X11_kindOf_J70 hC k7 hk7 x0 x1 x3 x4 s0 h10
set_option maxHeartbeats 4000000 in
set_option maxRecDepth 100000 in
theorem t_X11_kindOf_L7 {C : CT} (hC : OKC C yX11_kindOf cX11_kindOf 6 (some .int) 1 24) (k123 : Nat → Int32 → Int32 → Int32 → AH → RX Int32) (hk123 : ∀ (x0 : Nat) (x1 : Int32) (x2 : Int32) (x3 : Int32) (h : AH), WX rvI C 123 [(0, va_rf (some x0)), (1, .int x1), (2, .int x2), (3, .int x3)] [] h (k123 x0 x1 x2 x3 h)) : ∀ (n : Nat) (x0 : Nat) (x1 : Int32) (x2 : Int32) (x3 : Int32) (x4 : Int32) (h : AH), WX rvI C 7 [(0, va_rf (some x0)), (1, .int x1), (2, .int x2), (3, .int x3), (4, .int x4)] [] h (f_X11_kindOf_L7 k123 n x0 x1 x2 x3 x4 h) := by
  intro n
  induction n with
  | zero => intro _ _ _ _ _ _; exact x_none
  | succ n ih =>
    intro x0 x1 x2 x3 x4 h
    rw [f_X11_kindOf_L7]
    refine x_iload (p' := 9) hC 4 (dAt dd_X11_kindOf 6 rfl) rfl rfl ?_
    refine x_bipush (v := 36) (p' := 11) hC (dAt dd_X11_kindOf 7 rfl) (by decide) rfl ?_
    refine x_icmp_ge (tgt := 123) (p' := 14) hC (dAt dd_X11_kindOf 8 rfl) (by decide) rfl ?_ ?_
    · refine x_sub [0, 1, 2, 3] rfl ?_
      exact hk123 x0 x1 x2 x3 h
    · refine x_iload (p' := 16) hC 4 (dAt dd_X11_kindOf 9 rfl) rfl rfl ?_
      refine x_iconst (v := 3) (p' := 17) hC (dAt dd_X11_kindOf 10 rfl) (by decide) rfl ?_
      refine x_idiv (p' := 18) hC (dAt dd_X11_kindOf 11 rfl) rfl ?_
      refine x_iload_n (p' := 19) hC 1 (dAt dd_X11_kindOf 12 rfl) rfl rfl rfl ?_
      refine x_iconst (v := 3) (p' := 20) hC (dAt dd_X11_kindOf 13 rfl) (by decide) rfl ?_
      refine x_idiv (p' := 21) hC (dAt dd_X11_kindOf 14 rfl) rfl ?_
      refine x_icmp_ne (tgt := 28) (p' := 24) hC (dAt dd_X11_kindOf 15 rfl) (by decide) rfl ?_ ?_
      · refine x_iconst (v := 0) (p' := 29) hC (dAt dd_X11_kindOf 18 rfl) (by decide) rfl ?_
        exact t_X11_kindOf_J29 hC (f_X11_kindOf_L7 k123 n) ih x0 x1 x2 x3 x4 0 h
      · refine x_iconst (v := 1) (p' := 25) hC (dAt dd_X11_kindOf 16 rfl) (by decide) rfl ?_
        refine x_goto (tgt := 29) hC (dAt dd_X11_kindOf 17 rfl) (by decide) ?_
        exact t_X11_kindOf_J29 hC (f_X11_kindOf_L7 k123 n) ih x0 x1 x2 x3 x4 1 h
set_option maxHeartbeats 4000000 in
set_option maxRecDepth 100000 in
theorem t_X11_kindOf_J123 {C : CT} (hC : OKC C yX11_kindOf cX11_kindOf 6 (some .int) 1 24)   : ∀ (x0 : Nat) (x1 : Int32) (x2 : Int32) (x3 : Int32) (h : AH), WX rvI C 123 [(0, va_rf (some x0)), (1, .int x1), (2, .int x2), (3, .int x3)] [] h (f_X11_kindOf_J123 x0 x1 x2 x3 h) := by
  intro x0 x1 x2 x3 h
  unfold f_X11_kindOf_J123
  refine x_aload_n (p' := 124) hC 0 (dAt dd_X11_kindOf 66 rfl) rfl rfl rfl ?_
  refine x_iload_n (p' := 125) hC 1 (dAt dd_X11_kindOf 67 rfl) rfl rfl rfl ?_
  refine x_callVI (As := [.int x1]) (z := fun b => f_X11_isPlainFold h b x1) (p' := 128) hC (fun b => c_X11_isPlainFold _ _ _ h b x1) k_1114 k_1116 (k_sl 58 rfl) k_9 k_1117 hd_X11_isPlainFold ⟨by decide, by decide⟩ (ci := 10) rfl rfl (by decide) rfl (Nat.le_of_ble_eq_true rfl) rfl (dAt dd_X11_kindOf 68 rfl) rfl (fun v11 h12 => ?_)
  refine x_if_ne (tgt := 143) (p' := 131) hC (dAt dd_X11_kindOf 69 rfl) (by decide) rfl ?_ ?_
  · refine x_iload_n (p' := 144) hC 3 (dAt dd_X11_kindOf 76 rfl) rfl rfl rfl ?_
    refine x_if_eq (tgt := 151) (p' := 147) hC (dAt dd_X11_kindOf 77 rfl) (by decide) rfl ?_ ?_
    · refine x_iconst (v := 0) (p' := 152) hC (dAt dd_X11_kindOf 80 rfl) (by decide) rfl ?_
      exact x_ireturn hC (dAt dd_X11_kindOf 81 rfl)
    · refine x_iconst (v := 2) (p' := 148) hC (dAt dd_X11_kindOf 78 rfl) (by decide) rfl ?_
      refine x_goto (tgt := 152) hC (dAt dd_X11_kindOf 79 rfl) (by decide) ?_
      exact x_ireturn hC (dAt dd_X11_kindOf 81 rfl)
  · refine x_iload_n (p' := 132) hC 2 (dAt dd_X11_kindOf 70 rfl) rfl rfl rfl ?_
    refine x_if_eq (tgt := 139) (p' := 135) hC (dAt dd_X11_kindOf 71 rfl) (by decide) rfl ?_ ?_
    · refine x_iconst (v := 1) (p' := 140) hC (dAt dd_X11_kindOf 74 rfl) (by decide) rfl ?_
      refine x_goto (tgt := 152) hC (dAt dd_X11_kindOf 75 rfl) (by decide) ?_
      exact x_ireturn hC (dAt dd_X11_kindOf 81 rfl)
    · refine x_iconst (v := 3) (p' := 136) hC (dAt dd_X11_kindOf 72 rfl) (by decide) rfl ?_
      refine x_goto (tgt := 152) hC (dAt dd_X11_kindOf 73 rfl) (by decide) ?_
      exact x_ireturn hC (dAt dd_X11_kindOf 81 rfl)
set_option maxHeartbeats 4000000 in
set_option maxRecDepth 100000 in
theorem c_X11_kindOf (l : Launch) (D : va_G) (cy : Nat → ClassId) (h : AH) (a0 : Nat) (p1 : Int32) : MX rvI l yX11_kindOf (Cond.code yX11_kindOf cX11_kindOf 6 (some .int) :: LW) 1 24 D cy h [va_rf (some a0), .int p1] (f_X11_kindOf h a0 p1) := by
  refine MX.of (lv := [(0, va_rf (some a0)), (1, .int p1)]) (by decide) (Nat.le_of_ble_eq_true rfl) rfl (fun C hC _ => ?_)
  unfold f_X11_kindOf
  refine x_iconst (v := 0) (p' := 1) hC (dAt dd_X11_kindOf 0 rfl) (by decide) rfl ?_
  refine x_istore_n (j := 2) (lv' := [(2, .int 0), (0, va_rf (some a0)), (1, .int p1)]) (p' := 2) hC (dAt dd_X11_kindOf 1 rfl) rfl (by decide) rfl rfl ?_
  refine x_iconst (v := 0) (p' := 3) hC (dAt dd_X11_kindOf 2 rfl) (by decide) rfl ?_
  refine x_istore_n (j := 3) (lv' := [(3, .int 0), (2, .int 0), (0, va_rf (some a0)), (1, .int p1)]) (p' := 4) hC (dAt dd_X11_kindOf 3 rfl) rfl (by decide) rfl rfl ?_
  refine x_iconst (v := 0) (p' := 5) hC (dAt dd_X11_kindOf 4 rfl) (by decide) rfl ?_
  refine x_istore (lv' := [(4, .int 0), (3, .int 0), (2, .int 0), (0, va_rf (some a0)), (1, .int p1)]) (p' := 7) hC (dAt dd_X11_kindOf 5 rfl) (by decide) rfl rfl ?_
  refine x_sub [3, 4, 2, 1, 0] rfl ?_
  exact t_X11_kindOf_L7 hC f_X11_kindOf_J123 (t_X11_kindOf_J123 hC) FU a0 p1 0 0 0 h
set_option maxHeartbeats 4000000 in
set_option maxRecDepth 100000 in
theorem c_X11_kind (l : Launch) (D : va_G) (cy : Nat → ClassId) (h : AH) (a0 : Nat) (p1 : Int32) (p2 : Int32) : MX rvI l yX11_kind (Cond.code yX11_kind cX11_kind 3 (some .int) :: LW) 2 49 D cy h [va_rf (some a0), .int p1, .int p2] (f_X11_kind h a0 p1 p2) := by
  refine MX.of (lv := [(0, va_rf (some a0)), (1, .int p1), (2, .int p2)]) (by decide) (Nat.le_of_ble_eq_true rfl) rfl (fun C hC _ => ?_)
  unfold f_X11_kind
  refine x_aload_n (p' := 1) hC 0 (dAt dd_X11_kind 0 rfl) rfl rfl rfl ?_
  refine x_iconst (v := 0) (p' := 2) hC (dAt dd_X11_kind 1 rfl) (by decide) rfl ?_
  refine x_putI (p' := 5) hC fk_RX11_1 tk_RX11 rfl rfl (Or.inl rfl) (dAt dd_X11_kind 2 rfl) rfl (fun h1 => ?_)
  refine x_iload_n (p' := 6) hC 1 (dAt dd_X11_kind 3 rfl) rfl rfl rfl ?_
  refine x_iload_n (p' := 7) hC 2 (dAt dd_X11_kind 4 rfl) rfl rfl rfl ?_
  refine x_callSI (As := [.int p1, .int p2]) (p' := 10) hC (c_X11_isSlot _ _ _ h1 p1 p2) k_966 k_967 k_9 k_968 hd_X11_isSlot ⟨by decide, by decide⟩ rfl (Nat.le_of_ble_eq_true rfl) rfl (dAt dd_X11_kind 5 rfl) rfl (fun v2 h3 => ?_)
  refine x_if_ne (tgt := 16) (p' := 13) hC (dAt dd_X11_kind 6 rfl) (by decide) rfl ?_ ?_
  · refine x_aload_n (p' := 17) hC 0 (dAt dd_X11_kind 9 rfl) rfl rfl rfl ?_
    refine x_getR (p' := 20) hC fk_RX11_45 rfl (dAt dd_X11_kind 10 rfl) rfl (fun r4 => ?_)
    refine x_iconst (v := 3) (p' := 21) hC (dAt dd_X11_kind 11 rfl) (by decide) rfl ?_
    refine x_iload_n (p' := 22) hC 1 (dAt dd_X11_kind 12 rfl) rfl rfl rfl ?_
    refine x_imul (p' := 23) hC (dAt dd_X11_kind 13 rfl) rfl ?_
    refine x_iload_n (p' := 24) hC 2 (dAt dd_X11_kind 14 rfl) rfl rfl rfl ?_
    refine x_iadd (p' := 25) hC (dAt dd_X11_kind 15 rfl) rfl ?_
    refine x_baload (p' := 26) hC (dAt dd_X11_kind 16 rfl) rfl (fun v5 => ?_)
    refine x_if_eq (tgt := 41) (p' := 29) hC (dAt dd_X11_kind 17 rfl) (by decide) rfl ?_ ?_
    · refine x_ldc (v := (-1000002)) (p' := 43) hC (dAt dd_X11_kind 26 rfl) k_944 rfl ?_
      exact x_ireturn hC (dAt dd_X11_kind 27 rfl)
    · refine x_aload_n (p' := 30) hC 0 (dAt dd_X11_kind 18 rfl) rfl rfl rfl ?_
      refine x_iconst (v := 3) (p' := 31) hC (dAt dd_X11_kind 19 rfl) (by decide) rfl ?_
      refine x_iload_n (p' := 32) hC 1 (dAt dd_X11_kind 20 rfl) rfl rfl rfl ?_
      refine x_imul (p' := 33) hC (dAt dd_X11_kind 21 rfl) rfl ?_
      refine x_iload_n (p' := 34) hC 2 (dAt dd_X11_kind 22 rfl) rfl rfl rfl ?_
      refine x_iadd (p' := 35) hC (dAt dd_X11_kind 23 rfl) rfl ?_
      refine x_callVI (As := [.int ((3 * p1) + p2)]) (z := fun b => f_X11_kindOf h3 b ((3 * p1) + p2)) (p' := 38) hC (fun b => c_X11_kindOf _ _ _ h3 b ((3 * p1) + p2)) k_1106 k_1108 (k_sl 56 rfl) k_9 k_1109 hd_X11_kindOf ⟨by decide, by decide⟩ (ci := 10) rfl rfl (by decide) rfl (Nat.le_of_ble_eq_true rfl) rfl (dAt dd_X11_kind 24 rfl) rfl (fun v6 h7 => ?_)
      refine x_goto (tgt := 43) hC (dAt dd_X11_kind 25 rfl) (by decide) ?_
      exact x_ireturn hC (dAt dd_X11_kind 27 rfl)
  · refine x_ldc (v := (-1000001)) (p' := 15) hC (dAt dd_X11_kind 7 rfl) k_918 rfl ?_
    exact x_ireturn hC (dAt dd_X11_kind 8 rfl)
set_option maxHeartbeats 4000000 in
set_option maxRecDepth 100000 in
theorem t_X11_as_J82 {C : CT} (hC : OKC C yX11_as cX11_as 6 (some .int) 2 49)   : ∀ (x0 : Nat) (x4 : Int32) (h : AH), WX rvI C 82 [(0, va_rf (some x0)), (4, .int x4)] [] h (f_X11_as_J82 x0 x4 h) := by
  intro x0 x4 h
  unfold f_X11_as_J82
  refine x_aload_n (p' := 83) hC 0 (dAt dd_X11_as 46 rfl) rfl rfl rfl ?_
  refine x_getR (p' := 86) hC fk_RX11_55 rfl (dAt dd_X11_as 47 rfl) rfl (fun r11 => ?_)
  refine x_iload (p' := 88) hC 1 (dAt dd_X11_as 48 rfl) rfl rfl ?_
  refine x_iaload (p' := 89) hC (dAt dd_X11_as 49 rfl) rfl (fun v12 => ?_)
  refine x_goto (tgt := 97) hC (dAt dd_X11_as 50 rfl) (by decide) ?_
  exact x_ireturn hC (dAt dd_X11_as 54 rfl)
set_option maxHeartbeats 4000000 in
set_option maxRecDepth 100000 in
theorem t_X11_as_J92 {C : CT} (hC : OKC C yX11_as cX11_as 6 (some .int) 2 49)   : ∀ (x0 : Nat) (h : AH), WX rvI C 92 [(0, va_rf (some x0))] [] h (f_X11_as_J92 x0 h) := by
  intro x0 h
  unfold f_X11_as_J92
  refine x_aload_n (p' := 93) hC 0 (dAt dd_X11_as 51 rfl) rfl rfl rfl ?_
  refine x_iconst (v := 3) (p' := 94) hC (dAt dd_X11_as 52 rfl) (by decide) rfl ?_
  refine x_callVI (As := [.int 3]) (z := fun b => f_X11_found h b 3) (p' := 97) hC (fun b => c_X11_found _ _ _ h b 3) k_919 k_921 (k_sl 36 rfl) k_9 k_922 hd_X11_found ⟨by decide, by decide⟩ (ci := 10) rfl rfl (by decide) rfl (Nat.le_of_ble_eq_true rfl) rfl (dAt dd_X11_as 53 rfl) rfl (fun v13 h14 => ?_)
  exact x_ireturn hC (dAt dd_X11_as 54 rfl)
set_option maxHeartbeats 4000000 in
set_option maxRecDepth 100000 in
theorem c_X11_as (l : Launch) (D : va_G) (cy : Nat → ClassId) (h : AH) (a0 : Nat) (p1 : Int32) (p2 : Int32) (p3 : Int32) : MX rvI l yX11_as (Cond.code yX11_as cX11_as 6 (some .int) :: LW) 2 49 D cy h [va_rf (some a0), .int p1, .int p2, .int p3] (f_X11_as h a0 p1 p2 p3) := by
  refine MX.of (lv := [(0, va_rf (some a0)), (1, .int p1), (2, .int p2), (3, .int p3)]) (by decide) (Nat.le_of_ble_eq_true rfl) rfl (fun C hC _ => ?_)
  unfold f_X11_as
  refine x_aload_n (p' := 1) hC 0 (dAt dd_X11_as 0 rfl) rfl rfl rfl ?_
  refine x_iconst (v := 0) (p' := 2) hC (dAt dd_X11_as 1 rfl) (by decide) rfl ?_
  refine x_putI (p' := 5) hC fk_RX11_1 tk_RX11 rfl rfl (Or.inl rfl) (dAt dd_X11_as 2 rfl) rfl (fun h1 => ?_)
  refine x_iload_n (p' := 6) hC 1 (dAt dd_X11_as 3 rfl) rfl rfl rfl ?_
  refine x_iload_n (p' := 7) hC 2 (dAt dd_X11_as 4 rfl) rfl rfl rfl ?_
  refine x_callSI (As := [.int p1, .int p2]) (p' := 10) hC (c_X11_isSlot _ _ _ h1 p1 p2) k_966 k_967 k_9 k_968 hd_X11_isSlot ⟨by decide, by decide⟩ rfl (Nat.le_of_ble_eq_true rfl) rfl (dAt dd_X11_as 5 rfl) rfl (fun v2 h3 => ?_)
  refine x_if_eq (tgt := 25) (p' := 13) hC (dAt dd_X11_as 6 rfl) (by decide) rfl ?_ ?_
  · refine x_ldc (v := (-1000001)) (p' := 27) hC (dAt dd_X11_as 13 rfl) k_918 rfl ?_
    exact x_ireturn hC (dAt dd_X11_as 14 rfl)
  · refine x_iload_n (p' := 14) hC 3 (dAt dd_X11_as 7 rfl) rfl rfl rfl ?_
    refine x_i2l (p' := 15) hC (dAt dd_X11_as 8 rfl) rfl ?_
    refine x_lconst (v := 0) (p' := 16) hC (dAt dd_X11_as 9 rfl) (by decide) rfl ?_
    refine x_ldc2_w (v := 3) (p' := 19) hC (dAt dd_X11_as 10 rfl) k_1015 rfl ?_
    refine x_callSI (As := [.long (Int32.toInt64 p3), .long 0, .long 3]) (p' := 22) hC (c_X11_in _ _ _ h3 (Int32.toInt64 p3) 0 3) k_914 k_915 k_9 k_916 hd_X11_in ⟨by decide, by decide⟩ rfl (Nat.le_of_ble_eq_true rfl) rfl (dAt dd_X11_as 11 rfl) rfl (fun v4 h5 => ?_)
    refine x_if_ne (tgt := 28) (p' := 25) hC (dAt dd_X11_as 12 rfl) (by decide) rfl ?_ ?_
    · refine x_iconst (v := 3) (p' := 29) hC (dAt dd_X11_as 15 rfl) (by decide) rfl ?_
      refine x_iload_n (p' := 30) hC 1 (dAt dd_X11_as 16 rfl) rfl rfl rfl ?_
      refine x_imul (p' := 31) hC (dAt dd_X11_as 17 rfl) rfl ?_
      refine x_iload_n (p' := 32) hC 2 (dAt dd_X11_as 18 rfl) rfl rfl rfl ?_
      refine x_iadd (p' := 33) hC (dAt dd_X11_as 19 rfl) rfl ?_
      refine x_istore (lv' := [(4, .int ((3 * p1) + p2)), (0, va_rf (some a0)), (1, .int p1), (2, .int p2), (3, .int p3)]) (p' := 35) hC (dAt dd_X11_as 20 rfl) (by decide) rfl rfl ?_
      refine x_aload_n (p' := 36) hC 1 (dAt dd_X11_as 21 rfl) rfl rfl rfl ?_
      refine x_getR (p' := 39) hC fk_RX11_45 rfl (dAt dd_X11_as 22 rfl) rfl (fun r6 => ?_)
      refine x_iload (p' := 41) hC 0 (dAt dd_X11_as 23 rfl) rfl rfl ?_
      refine x_baload (p' := 42) hC (dAt dd_X11_as 24 rfl) rfl (fun v7 => ?_)
      refine x_if_ne (tgt := 48) (p' := 45) hC (dAt dd_X11_as 25 rfl) (by decide) rfl ?_ ?_
      · refine x_aload_n (p' := 49) hC 1 (dAt dd_X11_as 28 rfl) rfl rfl rfl ?_
        refine x_iconst (v := 0) (p' := 50) hC (dAt dd_X11_as 29 rfl) (by decide) rfl ?_
        refine x_putI (p' := 53) hC fk_RX11_7 tk_RX11 rfl rfl (Or.inl rfl) (dAt dd_X11_as 30 rfl) rfl (fun h8 => ?_)
        refine x_aload_n (p' := 54) hC 1 (dAt dd_X11_as 31 rfl) rfl rfl rfl ?_
        refine x_iload (p' := 56) hC 0 (dAt dd_X11_as 32 rfl) rfl rfl ?_
        refine x_callVI (As := [.int ((3 * p1) + p2)]) (z := fun b => f_X11_kindOf h8 b ((3 * p1) + p2)) (p' := 59) hC (fun b => c_X11_kindOf _ _ _ h8 b ((3 * p1) + p2)) k_1106 k_1108 (k_sl 56 rfl) k_9 k_1109 hd_X11_kindOf ⟨by decide, by decide⟩ (ci := 10) rfl rfl (by decide) rfl (Nat.le_of_ble_eq_true rfl) rfl (dAt dd_X11_as 33 rfl) rfl (fun v9 h10 => ?_)
        refine x_istore (lv' := [(5, .int v9), (4, .int ((3 * p1) + p2)), (0, va_rf (some a0)), (1, .int p1), (2, .int p2), (3, .int p3)]) (p' := 61) hC (dAt dd_X11_as 34 rfl) (by decide) rfl rfl ?_
        refine x_iload_n (p' := 62) hC 5 (dAt dd_X11_as 35 rfl) rfl rfl rfl ?_
        refine x_if_eq (tgt := 82) (p' := 65) hC (dAt dd_X11_as 36 rfl) (by decide) rfl ?_ ?_
        · refine x_sub [2, 1] rfl ?_
          exact t_X11_as_J82 hC a0 ((3 * p1) + p2) h10
        · refine x_iload (p' := 67) hC 0 (dAt dd_X11_as 37 rfl) rfl rfl ?_
          refine x_iload_n (p' := 68) hC 5 (dAt dd_X11_as 38 rfl) rfl rfl rfl ?_
          refine x_icmp_eq (tgt := 82) (p' := 71) hC (dAt dd_X11_as 39 rfl) (by decide) rfl ?_ ?_
          · refine x_sub [2, 1] rfl ?_
            exact t_X11_as_J82 hC a0 ((3 * p1) + p2) h10
          · refine x_iload_n (p' := 72) hC 5 (dAt dd_X11_as 40 rfl) rfl rfl rfl ?_
            refine x_iconst (v := 1) (p' := 73) hC (dAt dd_X11_as 41 rfl) (by decide) rfl ?_
            refine x_icmp_ne (tgt := 92) (p' := 76) hC (dAt dd_X11_as 42 rfl) (by decide) rfl ?_ ?_
            · refine x_sub [2] rfl ?_
              exact t_X11_as_J92 hC a0 h10
            · refine x_iload (p' := 78) hC 0 (dAt dd_X11_as 43 rfl) rfl rfl ?_
              refine x_iconst (v := 3) (p' := 79) hC (dAt dd_X11_as 44 rfl) (by decide) rfl ?_
              refine x_icmp_ne (tgt := 92) (p' := 82) hC (dAt dd_X11_as 45 rfl) (by decide) rfl ?_ ?_
              · refine x_sub [2] rfl ?_
                exact t_X11_as_J92 hC a0 h10
              · refine x_sub [2, 1] rfl ?_
                exact t_X11_as_J82 hC a0 ((3 * p1) + p2) h10
      · refine x_ldc (v := (-1000002)) (p' := 47) hC (dAt dd_X11_as 26 rfl) k_944 rfl ?_
        exact x_ireturn hC (dAt dd_X11_as 27 rfl)
    · refine x_ldc (v := (-1000001)) (p' := 27) hC (dAt dd_X11_as 13 rfl) k_918 rfl ?_
      exact x_ireturn hC (dAt dd_X11_as 14 rfl)
set_option maxHeartbeats 4000000 in
set_option maxRecDepth 100000 in
theorem c_X11_began (l : Launch) (D : va_G) (cy : Nat → ClassId) (h : AH) (a0 : Nat) (p1 : Int32) : MX rvV l yX11_began (Cond.code yX11_began cX11_began 2 none :: LW) 0 0 D cy h [va_rf (some a0), .int p1] (f_X11_began h a0 p1) := by
  refine MX.of (lv := [(0, va_rf (some a0)), (1, .int p1)]) (by decide) (Nat.le_of_ble_eq_true rfl) rfl (fun C hC _ => ?_)
  unfold f_X11_began
  refine x_aload_n (p' := 1) hC 0 (dAt dd_X11_began 0 rfl) rfl rfl rfl ?_
  refine x_getI (p' := 4) hC fk_RX11_276 rfl (dAt dd_X11_began 1 rfl) rfl (fun v1 => ?_)
  refine x_bipush (v := 16) (p' := 6) hC (dAt dd_X11_began 2 rfl) (by decide) rfl ?_
  refine x_icmp_ge (tgt := 29) (p' := 9) hC (dAt dd_X11_began 3 rfl) (by decide) rfl ?_ ?_
  · exact x_return hC (dAt dd_X11_began 16 rfl)
  · refine x_aload_n (p' := 10) hC 0 (dAt dd_X11_began 4 rfl) rfl rfl rfl ?_
    refine x_getR (p' := 13) hC fk_RX11_144 rfl (dAt dd_X11_began 5 rfl) rfl (fun r2 => ?_)
    refine x_aload_n (p' := 14) hC 0 (dAt dd_X11_began 6 rfl) rfl rfl rfl ?_
    refine x_getI (p' := 17) hC fk_RX11_276 rfl (dAt dd_X11_began 7 rfl) rfl (fun v3 => ?_)
    refine x_iload_n (p' := 18) hC 1 (dAt dd_X11_began 8 rfl) rfl rfl rfl ?_
    refine x_iastore (p' := 19) hC (dAt dd_X11_began 9 rfl) rfl (fun h4 => ?_)
    refine x_aload_n (p' := 20) hC 0 (dAt dd_X11_began 10 rfl) rfl rfl rfl ?_
    refine x_dup (p' := 21) hC (dAt dd_X11_began 11 rfl) (x_cat _) rfl ?_
    refine x_getI (p' := 24) hC fk_RX11_276 rfl (dAt dd_X11_began 12 rfl) rfl (fun v5 => ?_)
    refine x_iconst (v := 1) (p' := 25) hC (dAt dd_X11_began 13 rfl) (by decide) rfl ?_
    refine x_iadd (p' := 26) hC (dAt dd_X11_began 14 rfl) rfl ?_
    refine x_putI (p' := 29) hC fk_RX11_276 tk_RX11 rfl rfl (Or.inl rfl) (dAt dd_X11_began 15 rfl) rfl (fun h6 => ?_)
    exact x_return hC (dAt dd_X11_began 16 rfl)
set_option maxHeartbeats 4000000 in
set_option maxRecDepth 100000 in
theorem t_X11_marked_J30 {C : CT} (hC : OKC C yX11_marked cX11_marked 3 (some .int) 1 21)   : ∀ (x0 : Nat) (x1 : Int32) (x2 : Int32) (h : AH), WX rvI C 30 [(0, va_rf (some x0)), (1, .int x1), (2, .int x2)] [] h (f_X11_marked_J30 x0 x1 x2 h) := by
  intro x0 x1 x2 h
  unfold f_X11_marked_J30
  refine x_aload_n (p' := 31) hC 0 (dAt dd_X11_marked 16 rfl) rfl rfl rfl ?_
  refine x_bipush (v := 20) (p' := 33) hC (dAt dd_X11_marked 17 rfl) (by decide) rfl ?_
  refine x_callVV (As := [.int 20]) (z := fun b => f_X11_began h b 20) (p' := 36) hC (fun b => c_X11_began _ _ _ h b 20) k_1130 k_1132 (k_sl 60 rfl) k_9 k_1133 hd_X11_began ⟨by decide, by decide⟩ (ci := 10) rfl rfl (by decide) rfl (Nat.le_of_ble_eq_true rfl) rfl (dAt dd_X11_marked 18 rfl) rfl (fun u3 h4 => ?_)
  refine x_iload_n (p' := 37) hC 1 (dAt dd_X11_marked 19 rfl) rfl rfl rfl ?_
  refine x_iconst (v := 3) (p' := 38) hC (dAt dd_X11_marked 20 rfl) (by decide) rfl ?_
  refine x_idiv (p' := 39) hC (dAt dd_X11_marked 21 rfl) rfl ?_
  refine x_iload_n (p' := 40) hC 2 (dAt dd_X11_marked 22 rfl) rfl rfl rfl ?_
  refine x_iconst (v := 1) (p' := 41) hC (dAt dd_X11_marked 23 rfl) (by decide) rfl ?_
  refine x_icmp_eq (tgt := 49) (p' := 44) hC (dAt dd_X11_marked 24 rfl) (by decide) rfl ?_ ?_
  · refine x_bipush (v := 100) (p' := 51) hC (dAt dd_X11_marked 28 rfl) (by decide) rfl ?_
    refine x_goto (tgt := 69) hC (dAt dd_X11_marked 29 rfl) (by decide) ?_
    refine x_iadd (p' := 70) hC (dAt dd_X11_marked 40 rfl) rfl ?_
    exact x_ireturn hC (dAt dd_X11_marked 41 rfl)
  · refine x_iload_n (p' := 45) hC 2 (dAt dd_X11_marked 25 rfl) rfl rfl rfl ?_
    refine x_iconst (v := 3) (p' := 46) hC (dAt dd_X11_marked 26 rfl) (by decide) rfl ?_
    refine x_icmp_ne (tgt := 54) (p' := 49) hC (dAt dd_X11_marked 27 rfl) (by decide) rfl ?_ ?_
    · refine x_iload_n (p' := 55) hC 2 (dAt dd_X11_marked 30 rfl) rfl rfl rfl ?_
      refine x_iconst (v := 2) (p' := 56) hC (dAt dd_X11_marked 31 rfl) (by decide) rfl ?_
      refine x_icmp_ne (tgt := 68) (p' := 59) hC (dAt dd_X11_marked 32 rfl) (by decide) rfl ?_ ?_
      · refine x_iconst (v := 0) (p' := 69) hC (dAt dd_X11_marked 39 rfl) (by decide) rfl ?_
        refine x_iadd (p' := 70) hC (dAt dd_X11_marked 40 rfl) rfl ?_
        exact x_ireturn hC (dAt dd_X11_marked 41 rfl)
      · refine x_bipush (v := 10) (p' := 61) hC (dAt dd_X11_marked 33 rfl) (by decide) rfl ?_
        refine x_iload_n (p' := 62) hC 1 (dAt dd_X11_marked 34 rfl) rfl rfl rfl ?_
        refine x_iconst (v := 3) (p' := 63) hC (dAt dd_X11_marked 35 rfl) (by decide) rfl ?_
        refine x_irem (p' := 64) hC (dAt dd_X11_marked 36 rfl) rfl ?_
        refine x_imul (p' := 65) hC (dAt dd_X11_marked 37 rfl) rfl ?_
        refine x_goto (tgt := 69) hC (dAt dd_X11_marked 38 rfl) (by decide) ?_
        refine x_iadd (p' := 70) hC (dAt dd_X11_marked 40 rfl) rfl ?_
        exact x_ireturn hC (dAt dd_X11_marked 41 rfl)
    · refine x_bipush (v := 100) (p' := 51) hC (dAt dd_X11_marked 28 rfl) (by decide) rfl ?_
      refine x_goto (tgt := 69) hC (dAt dd_X11_marked 29 rfl) (by decide) ?_
      refine x_iadd (p' := 70) hC (dAt dd_X11_marked 40 rfl) rfl ?_
      exact x_ireturn hC (dAt dd_X11_marked 41 rfl)
set_option maxHeartbeats 4000000 in
set_option maxRecDepth 100000 in
theorem t_X11_marked_J10 {C : CT} (hC : OKC C yX11_marked cX11_marked 3 (some .int) 1 21)   : ∀ (x0 : Nat) (x1 : Int32) (x2 : Int32) (h : AH), WX rvI C 10 [(0, va_rf (some x0)), (1, .int x1), (2, .int x2)] [] h (f_X11_marked_J10 x0 x1 x2 h) := by
  intro x0 x1 x2 h
  unfold f_X11_marked_J10
  refine x_aload_n (p' := 11) hC 0 (dAt dd_X11_marked 6 rfl) rfl rfl rfl ?_
  refine x_bipush (v := 21) (p' := 13) hC (dAt dd_X11_marked 7 rfl) (by decide) rfl ?_
  refine x_callVV (As := [.int 21]) (z := fun b => f_X11_began h b 21) (p' := 16) hC (fun b => c_X11_began _ _ _ h b 21) k_1130 k_1132 (k_sl 60 rfl) k_9 k_1133 hd_X11_began ⟨by decide, by decide⟩ (ci := 10) rfl rfl (by decide) rfl (Nat.le_of_ble_eq_true rfl) rfl (dAt dd_X11_marked 8 rfl) rfl (fun u1 h2 => ?_)
  refine x_goto (tgt := 30) hC (dAt dd_X11_marked 9 rfl) (by decide) ?_
  exact t_X11_marked_J30 hC x0 x1 x2 h2
set_option maxHeartbeats 4000000 in
set_option maxRecDepth 100000 in
theorem c_X11_marked (l : Launch) (D : va_G) (cy : Nat → ClassId) (h : AH) (a0 : Nat) (p1 : Int32) (p2 : Int32) : MX rvI l yX11_marked (Cond.code yX11_marked cX11_marked 3 (some .int) :: LW) 1 21 D cy h [va_rf (some a0), .int p1, .int p2] (f_X11_marked h a0 p1 p2) := by
  refine MX.of (lv := [(0, va_rf (some a0)), (1, .int p1), (2, .int p2)]) (by decide) (Nat.le_of_ble_eq_true rfl) rfl (fun C hC _ => ?_)
  unfold f_X11_marked
  refine x_iload_n (p' := 1) hC 2 (dAt dd_X11_marked 0 rfl) rfl rfl rfl ?_
  refine x_iconst (v := 1) (p' := 2) hC (dAt dd_X11_marked 1 rfl) (by decide) rfl ?_
  refine x_icmp_eq (tgt := 10) (p' := 5) hC (dAt dd_X11_marked 2 rfl) (by decide) rfl ?_ ?_
  · exact t_X11_marked_J10 hC a0 p1 p2 h
  · refine x_iload_n (p' := 6) hC 2 (dAt dd_X11_marked 3 rfl) rfl rfl rfl ?_
    refine x_iconst (v := 3) (p' := 7) hC (dAt dd_X11_marked 4 rfl) (by decide) rfl ?_
    refine x_icmp_ne (tgt := 19) (p' := 10) hC (dAt dd_X11_marked 5 rfl) (by decide) rfl ?_ ?_
    · refine x_iload_n (p' := 20) hC 2 (dAt dd_X11_marked 10 rfl) rfl rfl rfl ?_
      refine x_iconst (v := 2) (p' := 21) hC (dAt dd_X11_marked 11 rfl) (by decide) rfl ?_
      refine x_icmp_ne (tgt := 30) (p' := 24) hC (dAt dd_X11_marked 12 rfl) (by decide) rfl ?_ ?_
      · exact t_X11_marked_J30 hC a0 p1 p2 h
      · refine x_aload_n (p' := 25) hC 0 (dAt dd_X11_marked 13 rfl) rfl rfl rfl ?_
        refine x_bipush (v := 22) (p' := 27) hC (dAt dd_X11_marked 14 rfl) (by decide) rfl ?_
        refine x_callVV (As := [.int 22]) (z := fun b => f_X11_began h b 22) (p' := 30) hC (fun b => c_X11_began _ _ _ h b 22) k_1130 k_1132 (k_sl 60 rfl) k_9 k_1133 hd_X11_began ⟨by decide, by decide⟩ (ci := 10) rfl rfl (by decide) rfl (Nat.le_of_ble_eq_true rfl) rfl (dAt dd_X11_marked 15 rfl) rfl (fun u5 h6 => ?_)
        exact t_X11_marked_J30 hC a0 p1 p2 h6
    · exact t_X11_marked_J10 hC a0 p1 p2 h
set_option maxHeartbeats 4000000 in
set_option maxRecDepth 100000 in
theorem t_X11_sized_J41 {C : CT} (hC : OKC C yX11_sized cX11_sized 4 (some .int) 2 43)   : ∀ (x0 : Nat) (x1 : Int32) (x2 : Int32) (h : AH), WX rvI C 41 [(0, va_rf (some x0)), (1, .int x1), (2, .int x2)] [] h (f_X11_sized_J41 x0 x1 x2 h) := by
  intro x0 x1 x2 h
  unfold f_X11_sized_J41
  refine x_aload_n (p' := 42) hC 0 (dAt dd_X11_sized 22 rfl) rfl rfl rfl ?_
  refine x_bipush (v := 10) (p' := 44) hC (dAt dd_X11_sized 23 rfl) (by decide) rfl ?_
  refine x_callVV (As := [.int 10]) (z := fun b => f_X11_began h b 10) (p' := 47) hC (fun b => c_X11_began _ _ _ h b 10) k_1130 k_1132 (k_sl 60 rfl) k_9 k_1133 hd_X11_began ⟨by decide, by decide⟩ (ci := 10) rfl rfl (by decide) rfl (Nat.le_of_ble_eq_true rfl) rfl (dAt dd_X11_sized 24 rfl) rfl (fun u3 h4 => ?_)
  refine x_aload_n (p' := 48) hC 0 (dAt dd_X11_sized 25 rfl) rfl rfl rfl ?_
  refine x_getR (p' := 51) hC fk_RX11_55 rfl (dAt dd_X11_sized 26 rfl) rfl (fun r5 => ?_)
  refine x_iload_n (p' := 52) hC 1 (dAt dd_X11_sized 27 rfl) rfl rfl rfl ?_
  refine x_iaload (p' := 53) hC (dAt dd_X11_sized 28 rfl) rfl (fun v6 => ?_)
  refine x_istore_n (j := 3) (lv' := [(3, .int v6), (0, va_rf (some x0)), (1, .int x1), (2, .int x2)]) (p' := 54) hC (dAt dd_X11_sized 29 rfl) rfl (by decide) rfl rfl ?_
  refine x_iload_n (p' := 55) hC 3 (dAt dd_X11_sized 30 rfl) rfl rfl rfl ?_
  refine x_if_ne (tgt := 62) (p' := 58) hC (dAt dd_X11_sized 31 rfl) (by decide) rfl ?_ ?_
  · refine x_iload_n (p' := 63) hC 3 (dAt dd_X11_sized 34 rfl) rfl rfl rfl ?_
    refine x_iconst (v := 1) (p' := 64) hC (dAt dd_X11_sized 35 rfl) (by decide) rfl ?_
    refine x_icmp_ne (tgt := 73) (p' := 67) hC (dAt dd_X11_sized 36 rfl) (by decide) rfl ?_ ?_
    · refine x_iload_n (p' := 74) hC 3 (dAt dd_X11_sized 41 rfl) rfl rfl rfl ?_
      refine x_iconst (v := 2) (p' := 75) hC (dAt dd_X11_sized 42 rfl) (by decide) rfl ?_
      refine x_icmp_ne (tgt := 84) (p' := 78) hC (dAt dd_X11_sized 43 rfl) (by decide) rfl ?_ ?_
      · refine x_iload_n (p' := 85) hC 0 (dAt dd_X11_sized 48 rfl) rfl rfl rfl ?_
        refine x_iconst (v := 1) (p' := 86) hC (dAt dd_X11_sized 49 rfl) (by decide) rfl ?_
        refine x_iadd (p' := 87) hC (dAt dd_X11_sized 50 rfl) rfl ?_
        refine x_aload_n (p' := 88) hC 1 (dAt dd_X11_sized 51 rfl) rfl rfl rfl ?_
        refine x_iload_n (p' := 89) hC 2 (dAt dd_X11_sized 52 rfl) rfl rfl rfl ?_
        refine x_iload_n (p' := 90) hC 3 (dAt dd_X11_sized 53 rfl) rfl rfl rfl ?_
        refine x_callVI (As := [.int x1, .int x2]) (z := fun b => f_X11_marked h4 b x1 x2) (p' := 93) hC (fun b => c_X11_marked _ _ _ h4 b x1 x2) k_1134 k_1136 (k_sl 61 rfl) k_9 k_1137 hd_X11_marked ⟨by decide, by decide⟩ (ci := 10) rfl rfl (by decide) rfl (Nat.le_of_ble_eq_true rfl) rfl (dAt dd_X11_sized 54 rfl) rfl (fun v7 h8 => ?_)
        refine x_iadd (p' := 94) hC (dAt dd_X11_sized 55 rfl) rfl ?_
        exact x_ireturn hC (dAt dd_X11_sized 56 rfl)
      · refine x_iconst (v := 2) (p' := 79) hC (dAt dd_X11_sized 44 rfl) (by decide) rfl ?_
        refine x_iload_n (p' := 80) hC 0 (dAt dd_X11_sized 45 rfl) rfl rfl rfl ?_
        refine x_imul (p' := 81) hC (dAt dd_X11_sized 46 rfl) rfl ?_
        refine x_goto (tgt := 94) hC (dAt dd_X11_sized 47 rfl) (by decide) ?_
        exact x_ireturn hC (dAt dd_X11_sized 56 rfl)
    · refine x_iload_n (p' := 68) hC 0 (dAt dd_X11_sized 37 rfl) rfl rfl rfl ?_
      refine x_iconst (v := 1) (p' := 69) hC (dAt dd_X11_sized 38 rfl) (by decide) rfl ?_
      refine x_iadd (p' := 70) hC (dAt dd_X11_sized 39 rfl) rfl ?_
      refine x_goto (tgt := 94) hC (dAt dd_X11_sized 40 rfl) (by decide) ?_
      exact x_ireturn hC (dAt dd_X11_sized 56 rfl)
  · refine x_iload_n (p' := 59) hC 0 (dAt dd_X11_sized 32 rfl) rfl rfl rfl ?_
    refine x_goto (tgt := 94) hC (dAt dd_X11_sized 33 rfl) (by decide) ?_
    exact x_ireturn hC (dAt dd_X11_sized 56 rfl)
set_option maxHeartbeats 4000000 in
set_option maxRecDepth 100000 in
theorem t_X11_sized_J21 {C : CT} (hC : OKC C yX11_sized cX11_sized 4 (some .int) 2 43)   : ∀ (x0 : Nat) (x1 : Int32) (x2 : Int32) (h : AH), WX rvI C 21 [(0, va_rf (some x0)), (1, .int x1), (2, .int x2)] [] h (f_X11_sized_J21 x0 x1 x2 h) := by
  intro x0 x1 x2 h
  unfold f_X11_sized_J21
  refine x_aload_n (p' := 22) hC 0 (dAt dd_X11_sized 12 rfl) rfl rfl rfl ?_
  refine x_bipush (v := 11) (p' := 24) hC (dAt dd_X11_sized 13 rfl) (by decide) rfl ?_
  refine x_callVV (As := [.int 11]) (z := fun b => f_X11_began h b 11) (p' := 27) hC (fun b => c_X11_began _ _ _ h b 11) k_1130 k_1132 (k_sl 60 rfl) k_9 k_1133 hd_X11_began ⟨by decide, by decide⟩ (ci := 10) rfl rfl (by decide) rfl (Nat.le_of_ble_eq_true rfl) rfl (dAt dd_X11_sized 14 rfl) rfl (fun u1 h2 => ?_)
  refine x_goto (tgt := 41) hC (dAt dd_X11_sized 15 rfl) (by decide) ?_
  exact t_X11_sized_J41 hC x0 x1 x2 h2
set_option maxHeartbeats 4000000 in
set_option maxRecDepth 100000 in
theorem t_X11_sized_J11 {C : CT} (hC : OKC C yX11_sized cX11_sized 4 (some .int) 2 43)   : ∀ (x0 : Nat) (x1 : Int32) (x2 : Int32) (h : AH), WX rvI C 11 [(0, va_rf (some x0)), (1, .int x1), (2, .int x2)] [] h (f_X11_sized_J11 x0 x1 x2 h) := by
  intro x0 x1 x2 h
  unfold f_X11_sized_J11
  refine x_iload_n (p' := 12) hC 2 (dAt dd_X11_sized 6 rfl) rfl rfl rfl ?_
  refine x_iconst (v := 1) (p' := 13) hC (dAt dd_X11_sized 7 rfl) (by decide) rfl ?_
  refine x_icmp_eq (tgt := 21) (p' := 16) hC (dAt dd_X11_sized 8 rfl) (by decide) rfl ?_ ?_
  · exact t_X11_sized_J21 hC x0 x1 x2 h
  · refine x_iload_n (p' := 17) hC 2 (dAt dd_X11_sized 9 rfl) rfl rfl rfl ?_
    refine x_iconst (v := 3) (p' := 18) hC (dAt dd_X11_sized 10 rfl) (by decide) rfl ?_
    refine x_icmp_ne (tgt := 30) (p' := 21) hC (dAt dd_X11_sized 11 rfl) (by decide) rfl ?_ ?_
    · refine x_iload_n (p' := 31) hC 2 (dAt dd_X11_sized 16 rfl) rfl rfl rfl ?_
      refine x_iconst (v := 2) (p' := 32) hC (dAt dd_X11_sized 17 rfl) (by decide) rfl ?_
      refine x_icmp_ne (tgt := 41) (p' := 35) hC (dAt dd_X11_sized 18 rfl) (by decide) rfl ?_ ?_
      · exact t_X11_sized_J41 hC x0 x1 x2 h
      · refine x_aload_n (p' := 36) hC 0 (dAt dd_X11_sized 19 rfl) rfl rfl rfl ?_
        refine x_bipush (v := 12) (p' := 38) hC (dAt dd_X11_sized 20 rfl) (by decide) rfl ?_
        refine x_callVV (As := [.int 12]) (z := fun b => f_X11_began h b 12) (p' := 41) hC (fun b => c_X11_began _ _ _ h b 12) k_1130 k_1132 (k_sl 60 rfl) k_9 k_1133 hd_X11_began ⟨by decide, by decide⟩ (ci := 10) rfl rfl (by decide) rfl (Nat.le_of_ble_eq_true rfl) rfl (dAt dd_X11_sized 21 rfl) rfl (fun u9 h10 => ?_)
        exact t_X11_sized_J41 hC x0 x1 x2 h10
    · exact t_X11_sized_J21 hC x0 x1 x2 h
set_option maxHeartbeats 4000000 in
set_option maxRecDepth 100000 in
theorem c_X11_sized (l : Launch) (D : va_G) (cy : Nat → ClassId) (h : AH) (a0 : Nat) (p1 : Int32) (p2 : Int32) : MX rvI l yX11_sized (Cond.code yX11_sized cX11_sized 4 (some .int) :: LW) 2 43 D cy h [va_rf (some a0), .int p1, .int p2] (f_X11_sized h a0 p1 p2) := by
  refine MX.of (lv := [(0, va_rf (some a0)), (1, .int p1), (2, .int p2)]) (by decide) (Nat.le_of_ble_eq_true rfl) rfl (fun C hC _ => ?_)
  unfold f_X11_sized
  refine x_iload_n (p' := 1) hC 2 (dAt dd_X11_sized 0 rfl) rfl rfl rfl ?_
  refine x_iconst (v := 3) (p' := 2) hC (dAt dd_X11_sized 1 rfl) (by decide) rfl ?_
  refine x_icmp_ne (tgt := 11) (p' := 5) hC (dAt dd_X11_sized 2 rfl) (by decide) rfl ?_ ?_
  · exact t_X11_sized_J11 hC a0 p1 p2 h
  · refine x_aload_n (p' := 6) hC 0 (dAt dd_X11_sized 3 rfl) rfl rfl rfl ?_
    refine x_bipush (v := 13) (p' := 8) hC (dAt dd_X11_sized 4 rfl) (by decide) rfl ?_
    refine x_callVV (As := [.int 13]) (z := fun b => f_X11_began h b 13) (p' := 11) hC (fun b => c_X11_began _ _ _ h b 13) k_1130 k_1132 (k_sl 60 rfl) k_9 k_1133 hd_X11_began ⟨by decide, by decide⟩ (ci := 10) rfl rfl (by decide) rfl (Nat.le_of_ble_eq_true rfl) rfl (dAt dd_X11_sized 5 rfl) rfl (fun u11 h12 => ?_)
    exact t_X11_sized_J11 hC a0 p1 p2 h12
set_option maxHeartbeats 4000000 in
set_option maxRecDepth 100000 in
theorem c_X11_ask (l : Launch) (D : va_G) (cy : Nat → ClassId) (h : AH) (a0 : Nat) (p1 : Int32) (p2 : Int32) (p3 : Int32) : MX rvI l yX11_ask (Cond.code yX11_ask cX11_ask 6 (some .int) :: LW) 3 66 D cy h [va_rf (some a0), .int p1, .int p2, .int p3] (f_X11_ask h a0 p1 p2 p3) := by
  refine MX.of (lv := [(0, va_rf (some a0)), (1, .int p1), (2, .int p2), (3, .int p3)]) (by decide) (Nat.le_of_ble_eq_true rfl) rfl (fun C hC _ => ?_)
  unfold f_X11_ask
  refine x_aload_n (p' := 1) hC 0 (dAt dd_X11_ask 0 rfl) rfl rfl rfl ?_
  refine x_iconst (v := 0) (p' := 2) hC (dAt dd_X11_ask 1 rfl) (by decide) rfl ?_
  refine x_putI (p' := 5) hC fk_RX11_1 tk_RX11 rfl rfl (Or.inl rfl) (dAt dd_X11_ask 2 rfl) rfl (fun h1 => ?_)
  refine x_iload_n (p' := 6) hC 1 (dAt dd_X11_ask 3 rfl) rfl rfl rfl ?_
  refine x_iload_n (p' := 7) hC 2 (dAt dd_X11_ask 4 rfl) rfl rfl rfl ?_
  refine x_callSI (As := [.int p1, .int p2]) (p' := 10) hC (c_X11_isSlot _ _ _ h1 p1 p2) k_966 k_967 k_9 k_968 hd_X11_isSlot ⟨by decide, by decide⟩ rfl (Nat.le_of_ble_eq_true rfl) rfl (dAt dd_X11_ask 5 rfl) rfl (fun v2 h3 => ?_)
  refine x_if_eq (tgt := 23) (p' := 13) hC (dAt dd_X11_ask 6 rfl) (by decide) rfl ?_ ?_
  · refine x_ldc (v := (-1000001)) (p' := 25) hC (dAt dd_X11_ask 13 rfl) k_918 rfl ?_
    exact x_ireturn hC (dAt dd_X11_ask 14 rfl)
  · refine x_iload_n (p' := 14) hC 3 (dAt dd_X11_ask 7 rfl) rfl rfl rfl ?_
    refine x_i2l (p' := 15) hC (dAt dd_X11_ask 8 rfl) rfl ?_
    refine x_lconst (v := 0) (p' := 16) hC (dAt dd_X11_ask 9 rfl) (by decide) rfl ?_
    refine x_lconst (v := 1) (p' := 17) hC (dAt dd_X11_ask 10 rfl) (by decide) rfl ?_
    refine x_callSI (As := [.long (Int32.toInt64 p3), .long 0, .long 1]) (p' := 20) hC (c_X11_in _ _ _ h3 (Int32.toInt64 p3) 0 1) k_914 k_915 k_9 k_916 hd_X11_in ⟨by decide, by decide⟩ rfl (Nat.le_of_ble_eq_true rfl) rfl (dAt dd_X11_ask 11 rfl) rfl (fun v4 h5 => ?_)
    refine x_if_ne (tgt := 26) (p' := 23) hC (dAt dd_X11_ask 12 rfl) (by decide) rfl ?_ ?_
    · refine x_aload_n (p' := 27) hC 0 (dAt dd_X11_ask 15 rfl) rfl rfl rfl ?_
      refine x_iconst (v := 0) (p' := 28) hC (dAt dd_X11_ask 16 rfl) (by decide) rfl ?_
      refine x_putI (p' := 31) hC fk_RX11_276 tk_RX11 rfl rfl (Or.inl rfl) (dAt dd_X11_ask 17 rfl) rfl (fun h6 => ?_)
      refine x_iconst (v := 3) (p' := 32) hC (dAt dd_X11_ask 18 rfl) (by decide) rfl ?_
      refine x_iload_n (p' := 33) hC 1 (dAt dd_X11_ask 19 rfl) rfl rfl rfl ?_
      refine x_imul (p' := 34) hC (dAt dd_X11_ask 20 rfl) rfl ?_
      refine x_iload_n (p' := 35) hC 2 (dAt dd_X11_ask 21 rfl) rfl rfl rfl ?_
      refine x_iadd (p' := 36) hC (dAt dd_X11_ask 22 rfl) rfl ?_
      refine x_istore (lv' := [(4, .int ((3 * p1) + p2)), (0, va_rf (some a0)), (1, .int p1), (2, .int p2), (3, .int p3)]) (p' := 38) hC (dAt dd_X11_ask 23 rfl) (by decide) rfl rfl ?_
      refine x_aload_n (p' := 39) hC 1 (dAt dd_X11_ask 24 rfl) rfl rfl rfl ?_
      refine x_getR (p' := 42) hC fk_RX11_45 rfl (dAt dd_X11_ask 25 rfl) rfl (fun r7 => ?_)
      refine x_iload (p' := 44) hC 0 (dAt dd_X11_ask 26 rfl) rfl rfl ?_
      refine x_baload (p' := 45) hC (dAt dd_X11_ask 27 rfl) rfl (fun v8 => ?_)
      refine x_if_ne (tgt := 51) (p' := 48) hC (dAt dd_X11_ask 28 rfl) (by decide) rfl ?_ ?_
      · refine x_aload_n (p' := 52) hC 1 (dAt dd_X11_ask 31 rfl) rfl rfl rfl ?_
        refine x_iload (p' := 54) hC 0 (dAt dd_X11_ask 32 rfl) rfl rfl ?_
        refine x_callVI (As := [.int ((3 * p1) + p2)]) (z := fun b => f_X11_kindOf h6 b ((3 * p1) + p2)) (p' := 57) hC (fun b => c_X11_kindOf _ _ _ h6 b ((3 * p1) + p2)) k_1106 k_1108 (k_sl 56 rfl) k_9 k_1109 hd_X11_kindOf ⟨by decide, by decide⟩ (ci := 10) rfl rfl (by decide) rfl (Nat.le_of_ble_eq_true rfl) rfl (dAt dd_X11_ask 33 rfl) rfl (fun v9 h10 => ?_)
        refine x_istore (lv' := [(5, .int v9), (4, .int ((3 * p1) + p2)), (0, va_rf (some a0)), (1, .int p1), (2, .int p2), (3, .int p3)]) (p' := 59) hC (dAt dd_X11_ask 34 rfl) (by decide) rfl rfl ?_
        refine x_iload_n (p' := 60) hC 5 (dAt dd_X11_ask 35 rfl) rfl rfl rfl ?_
        refine x_if_ne (tgt := 74) (p' := 63) hC (dAt dd_X11_ask 36 rfl) (by decide) rfl ?_ ?_
        · refine x_aload_n (p' := 75) hC 2 (dAt dd_X11_ask 42 rfl) rfl rfl rfl ?_
          refine x_iload (p' := 77) hC 1 (dAt dd_X11_ask 43 rfl) rfl rfl ?_
          refine x_iload (p' := 79) hC 0 (dAt dd_X11_ask 44 rfl) rfl rfl ?_
          refine x_callVI (As := [.int ((3 * p1) + p2), .int v9]) (z := fun b => f_X11_marked h10 b ((3 * p1) + p2) v9) (p' := 82) hC (fun b => c_X11_marked _ _ _ h10 b ((3 * p1) + p2) v9) k_1134 k_1136 (k_sl 61 rfl) k_9 k_1137 hd_X11_marked ⟨by decide, by decide⟩ (ci := 10) rfl rfl (by decide) rfl (Nat.le_of_ble_eq_true rfl) rfl (dAt dd_X11_ask 45 rfl) rfl (fun v11 h12 => ?_)
          exact x_ireturn hC (dAt dd_X11_ask 46 rfl)
        · refine x_aload_n (p' := 64) hC 2 (dAt dd_X11_ask 37 rfl) rfl rfl rfl ?_
          refine x_iload (p' := 66) hC 1 (dAt dd_X11_ask 38 rfl) rfl rfl ?_
          refine x_iload (p' := 68) hC 0 (dAt dd_X11_ask 39 rfl) rfl rfl ?_
          refine x_callVI (As := [.int ((3 * p1) + p2), .int v9]) (z := fun b => f_X11_sized h10 b ((3 * p1) + p2) v9) (p' := 71) hC (fun b => c_X11_sized _ _ _ h10 b ((3 * p1) + p2) v9) k_1126 k_1128 (k_sl 59 rfl) k_9 k_1129 hd_X11_sized ⟨by decide, by decide⟩ (ci := 10) rfl rfl (by decide) rfl (Nat.le_of_ble_eq_true rfl) rfl (dAt dd_X11_ask 40 rfl) rfl (fun v13 h14 => ?_)
          refine x_goto (tgt := 82) hC (dAt dd_X11_ask 41 rfl) (by decide) ?_
          exact x_ireturn hC (dAt dd_X11_ask 46 rfl)
      · refine x_ldc (v := (-1000002)) (p' := 50) hC (dAt dd_X11_ask 29 rfl) k_944 rfl ?_
        exact x_ireturn hC (dAt dd_X11_ask 30 rfl)
    · refine x_ldc (v := (-1000001)) (p' := 25) hC (dAt dd_X11_ask 13 rfl) k_918 rfl ?_
      exact x_ireturn hC (dAt dd_X11_ask 14 rfl)
set_option maxHeartbeats 4000000 in
set_option maxRecDepth 100000 in
theorem c_X11_trace (l : Launch) (D : va_G) (cy : Nat → ClassId) (h : AH) (a0 : Nat) (p1 : Int32) : MX rvI l yX11_trace (Cond.code yX11_trace cX11_trace 2 (some .int) :: LW) 1 25 D cy h [va_rf (some a0), .int p1] (f_X11_trace h a0 p1) := by
  refine MX.of (lv := [(0, va_rf (some a0)), (1, .int p1)]) (by decide) (Nat.le_of_ble_eq_true rfl) rfl (fun C hC _ => ?_)
  unfold f_X11_trace
  refine x_aload_n (p' := 1) hC 0 (dAt dd_X11_trace 0 rfl) rfl rfl rfl ?_
  refine x_iconst (v := 0) (p' := 2) hC (dAt dd_X11_trace 1 rfl) (by decide) rfl ?_
  refine x_putI (p' := 5) hC fk_RX11_1 tk_RX11 rfl rfl (Or.inl rfl) (dAt dd_X11_trace 2 rfl) rfl (fun h1 => ?_)
  refine x_iload_n (p' := 6) hC 1 (dAt dd_X11_trace 3 rfl) rfl rfl rfl ?_
  refine x_i2l (p' := 7) hC (dAt dd_X11_trace 4 rfl) rfl ?_
  refine x_lconst (v := 0) (p' := 8) hC (dAt dd_X11_trace 5 rfl) (by decide) rfl ?_
  refine x_aload_n (p' := 9) hC 0 (dAt dd_X11_trace 6 rfl) rfl rfl rfl ?_
  refine x_getI (p' := 12) hC fk_RX11_276 rfl (dAt dd_X11_trace 7 rfl) rfl (fun v2 => ?_)
  refine x_iconst (v := 1) (p' := 13) hC (dAt dd_X11_trace 8 rfl) (by decide) rfl ?_
  refine x_isub (p' := 14) hC (dAt dd_X11_trace 9 rfl) rfl ?_
  refine x_i2l (p' := 15) hC (dAt dd_X11_trace 10 rfl) rfl ?_
  refine x_callSI (As := [.long (Int32.toInt64 p1), .long 0, .long (Int32.toInt64 (v2 - 1))]) (p' := 18) hC (c_X11_in _ _ _ h1 (Int32.toInt64 p1) 0 (Int32.toInt64 (v2 - 1))) k_914 k_915 k_9 k_916 hd_X11_in ⟨by decide, by decide⟩ rfl (Nat.le_of_ble_eq_true rfl) rfl (dAt dd_X11_trace 11 rfl) rfl (fun v3 h4 => ?_)
  refine x_if_eq (tgt := 30) (p' := 21) hC (dAt dd_X11_trace 12 rfl) (by decide) rfl ?_ ?_
  · refine x_ldc (v := (-1000000)) (p' := 32) hC (dAt dd_X11_trace 18 rfl) k_961 rfl ?_
    exact x_ireturn hC (dAt dd_X11_trace 19 rfl)
  · refine x_aload_n (p' := 22) hC 0 (dAt dd_X11_trace 13 rfl) rfl rfl rfl ?_
    refine x_getR (p' := 25) hC fk_RX11_144 rfl (dAt dd_X11_trace 14 rfl) rfl (fun r5 => ?_)
    refine x_iload_n (p' := 26) hC 1 (dAt dd_X11_trace 15 rfl) rfl rfl rfl ?_
    refine x_iaload (p' := 27) hC (dAt dd_X11_trace 16 rfl) rfl (fun v6 => ?_)
    refine x_goto (tgt := 32) hC (dAt dd_X11_trace 17 rfl) (by decide) ?_
    exact x_ireturn hC (dAt dd_X11_trace 19 rfl)
set_option maxHeartbeats 4000000 in
set_option maxRecDepth 100000 in
theorem t_X11_count_L54 {C : CT} (hC : OKC C yX11_count cX11_count 4 (some .int) 4 98)   : ∀ (n : Nat) (x0 : Nat) (x2 : Int32) (x3 : Int32) (h : AH), WX rvI C 54 [(0, va_rf (some x0)), (2, .int x2), (3, .int x3)] [] h (f_X11_count_L54 n x0 x2 x3 h) := by
  intro n
  induction n with
  | zero => intro _ _ _ _; exact x_none
  | succ n ih =>
    intro x0 x2 x3 h
    rw [f_X11_count_L54]
    refine x_iload_n (p' := 55) hC 2 (dAt dd_X11_count 9 rfl) rfl rfl rfl ?_
    refine x_bipush (v := 8) (p' := 57) hC (dAt dd_X11_count 10 rfl) (by decide) rfl ?_
    refine x_icmp_ge (tgt := 83) (p' := 60) hC (dAt dd_X11_count 11 rfl) (by decide) rfl ?_ ?_
    · refine x_iload_n (p' := 84) hC 1 (dAt dd_X11_count 25 rfl) rfl rfl rfl ?_
      exact x_ireturn hC (dAt dd_X11_count 26 rfl)
    · refine x_iload_n (p' := 61) hC 1 (dAt dd_X11_count 12 rfl) rfl rfl rfl ?_
      refine x_aload_n (p' := 62) hC 0 (dAt dd_X11_count 13 rfl) rfl rfl rfl ?_
      refine x_getR (p' := 65) hC fk_RX11_17 rfl (dAt dd_X11_count 14 rfl) rfl (fun r2 => ?_)
      refine x_iload_n (p' := 66) hC 2 (dAt dd_X11_count 15 rfl) rfl rfl rfl ?_
      refine x_iaload (p' := 67) hC (dAt dd_X11_count 16 rfl) rfl (fun v3 => ?_)
      refine x_if_lt (tgt := 74) (p' := 70) hC (dAt dd_X11_count 17 rfl) (by decide) rfl ?_ ?_
      · refine x_iconst (v := 0) (p' := 75) hC (dAt dd_X11_count 20 rfl) (by decide) rfl ?_
        refine x_iadd (p' := 76) hC (dAt dd_X11_count 21 rfl) rfl ?_
        refine x_istore_n (j := 2) (lv' := [(2, .int (x2 + 0)), (0, va_rf (some x0)), (3, .int x3)]) (p' := 77) hC (dAt dd_X11_count 22 rfl) rfl (by decide) rfl rfl ?_
        refine x_iinc (w := (x3 + 1)) (lv' := [(3, .int (x3 + 1)), (2, .int (x2 + 0)), (0, va_rf (some x0))]) (p' := 80) hC 2 (dAt dd_X11_count 23 rfl) rfl rfl (by decide) rfl rfl ?_
        refine x_goto (tgt := 54) hC (dAt dd_X11_count 24 rfl) (by decide) ?_
        refine x_sub [2, 1, 0] rfl ?_
        exact ih x0 (x2 + 0) (x3 + 1) h
      · refine x_iconst (v := 1) (p' := 71) hC (dAt dd_X11_count 18 rfl) (by decide) rfl ?_
        refine x_goto (tgt := 75) hC (dAt dd_X11_count 19 rfl) (by decide) ?_
        refine x_iadd (p' := 76) hC (dAt dd_X11_count 21 rfl) rfl ?_
        refine x_istore_n (j := 2) (lv' := [(2, .int (x2 + 1)), (0, va_rf (some x0)), (3, .int x3)]) (p' := 77) hC (dAt dd_X11_count 22 rfl) rfl (by decide) rfl rfl ?_
        refine x_iinc (w := (x3 + 1)) (lv' := [(3, .int (x3 + 1)), (2, .int (x2 + 1)), (0, va_rf (some x0))]) (p' := 80) hC 2 (dAt dd_X11_count 23 rfl) rfl rfl (by decide) rfl rfl ?_
        refine x_goto (tgt := 54) hC (dAt dd_X11_count 24 rfl) (by decide) ?_
        refine x_sub [2, 1, 0] rfl ?_
        exact ih x0 (x2 + 1) (x3 + 1) h
set_option maxHeartbeats 4000000 in
set_option maxRecDepth 100000 in
theorem t_X11_count_L92 {C : CT} (hC : OKC C yX11_count cX11_count 4 (some .int) 4 98)   : ∀ (n : Nat) (x0 : Nat) (x1 : Int32) (x2 : Int32) (x3 : Int32) (h : AH), WX rvI C 92 [(0, va_rf (some x0)), (1, .int x1), (2, .int x2), (3, .int x3)] [] h (f_X11_count_L92 n x0 x1 x2 x3 h) := by
  intro n
  induction n with
  | zero => intro _ _ _ _ _; exact x_none
  | succ n ih =>
    intro x0 x1 x2 x3 h
    rw [f_X11_count_L92]
    refine x_iload_n (p' := 93) hC 3 (dAt dd_X11_count 33 rfl) rfl rfl rfl ?_
    refine x_bipush (v := 36) (p' := 95) hC (dAt dd_X11_count 34 rfl) (by decide) rfl ?_
    refine x_iload_n (p' := 96) hC 1 (dAt dd_X11_count 35 rfl) rfl rfl rfl ?_
    refine x_imul (p' := 97) hC (dAt dd_X11_count 36 rfl) rfl ?_
    refine x_icmp_ge (tgt := 123) (p' := 100) hC (dAt dd_X11_count 37 rfl) (by decide) rfl ?_ ?_
    · refine x_iload_n (p' := 124) hC 2 (dAt dd_X11_count 51 rfl) rfl rfl rfl ?_
      exact x_ireturn hC (dAt dd_X11_count 52 rfl)
    · refine x_iload_n (p' := 101) hC 2 (dAt dd_X11_count 38 rfl) rfl rfl rfl ?_
      refine x_aload_n (p' := 102) hC 0 (dAt dd_X11_count 39 rfl) rfl rfl rfl ?_
      refine x_getR (p' := 105) hC fk_RX11_45 rfl (dAt dd_X11_count 40 rfl) rfl (fun r4 => ?_)
      refine x_iload_n (p' := 106) hC 3 (dAt dd_X11_count 41 rfl) rfl rfl rfl ?_
      refine x_baload (p' := 107) hC (dAt dd_X11_count 42 rfl) rfl (fun v5 => ?_)
      refine x_if_eq (tgt := 114) (p' := 110) hC (dAt dd_X11_count 43 rfl) (by decide) rfl ?_ ?_
      · refine x_iconst (v := 0) (p' := 115) hC (dAt dd_X11_count 46 rfl) (by decide) rfl ?_
        refine x_iadd (p' := 116) hC (dAt dd_X11_count 47 rfl) rfl ?_
        refine x_istore_n (j := 2) (lv' := [(2, .int (x2 + 0)), (0, va_rf (some x0)), (1, .int x1), (3, .int x3)]) (p' := 117) hC (dAt dd_X11_count 48 rfl) rfl (by decide) rfl rfl ?_
        refine x_iinc (w := (x3 + 1)) (lv' := [(3, .int (x3 + 1)), (2, .int (x2 + 0)), (0, va_rf (some x0)), (1, .int x1)]) (p' := 120) hC 3 (dAt dd_X11_count 49 rfl) rfl rfl (by decide) rfl rfl ?_
        refine x_goto (tgt := 92) hC (dAt dd_X11_count 50 rfl) (by decide) ?_
        refine x_sub [2, 3, 1, 0] rfl ?_
        exact ih x0 x1 (x2 + 0) (x3 + 1) h
      · refine x_iconst (v := 1) (p' := 111) hC (dAt dd_X11_count 44 rfl) (by decide) rfl ?_
        refine x_goto (tgt := 115) hC (dAt dd_X11_count 45 rfl) (by decide) ?_
        refine x_iadd (p' := 116) hC (dAt dd_X11_count 47 rfl) rfl ?_
        refine x_istore_n (j := 2) (lv' := [(2, .int (x2 + 1)), (0, va_rf (some x0)), (1, .int x1), (3, .int x3)]) (p' := 117) hC (dAt dd_X11_count 48 rfl) rfl (by decide) rfl rfl ?_
        refine x_iinc (w := (x3 + 1)) (lv' := [(3, .int (x3 + 1)), (2, .int (x2 + 1)), (0, va_rf (some x0)), (1, .int x1)]) (p' := 120) hC 3 (dAt dd_X11_count 49 rfl) rfl rfl (by decide) rfl rfl ?_
        refine x_goto (tgt := 92) hC (dAt dd_X11_count 50 rfl) (by decide) ?_
        refine x_sub [2, 3, 1, 0] rfl ?_
        exact ih x0 x1 (x2 + 1) (x3 + 1) h
set_option maxHeartbeats 4000000 in
set_option maxRecDepth 100000 in
theorem t_X11_count_J85 {C : CT} (hC : OKC C yX11_count cX11_count 4 (some .int) 4 98)   : ∀ (x0 : Nat) (x1 : Int32) (x2 : Int32) (h : AH), WX rvI C 85 [(0, va_rf (some x0)), (1, .int x1), (2, .int x2)] [] h (f_X11_count_J85 x0 x1 x2 h) := by
  intro x0 x1 x2 h
  unfold f_X11_count_J85
  refine x_bipush (v := 36) (p' := 87) hC (dAt dd_X11_count 27 rfl) (by decide) rfl ?_
  refine x_iload_n (p' := 88) hC 1 (dAt dd_X11_count 28 rfl) rfl rfl rfl ?_
  refine x_iconst (v := 1) (p' := 89) hC (dAt dd_X11_count 29 rfl) (by decide) rfl ?_
  refine x_isub (p' := 90) hC (dAt dd_X11_count 30 rfl) rfl ?_
  refine x_imul (p' := 91) hC (dAt dd_X11_count 31 rfl) rfl ?_
  refine x_istore_n (j := 3) (lv' := [(3, .int (36 * (x1 - 1))), (0, va_rf (some x0)), (1, .int x1), (2, .int x2)]) (p' := 92) hC (dAt dd_X11_count 32 rfl) rfl (by decide) rfl rfl ?_
  refine x_sub [1, 2, 3, 0] rfl ?_
  exact t_X11_count_L92 hC FU x0 x1 x2 (36 * (x1 - 1)) h
set_option maxHeartbeats 4000000 in
set_option maxRecDepth 100000 in
theorem t_X11_count_L132 {C : CT} (hC : OKC C yX11_count cX11_count 4 (some .int) 4 98)   : ∀ (n : Nat) (x0 : Nat) (x2 : Int32) (x3 : Int32) (h : AH), WX rvI C 132 [(0, va_rf (some x0)), (2, .int x2), (3, .int x3)] [] h (f_X11_count_L132 n x0 x2 x3 h) := by
  intro n
  induction n with
  | zero => intro _ _ _ _; exact x_none
  | succ n ih =>
    intro x0 x2 x3 h
    rw [f_X11_count_L132]
    refine x_iload_n (p' := 133) hC 2 (dAt dd_X11_count 58 rfl) rfl rfl rfl ?_
    refine x_aload_n (p' := 134) hC 0 (dAt dd_X11_count 59 rfl) rfl rfl rfl ?_
    refine x_getI (p' := 137) hC fk_RX11_251 rfl (dAt dd_X11_count 60 rfl) rfl (fun v7 => ?_)
    refine x_icmp_ge (tgt := 163) (p' := 140) hC (dAt dd_X11_count 61 rfl) (by decide) rfl ?_ ?_
    · refine x_iload_n (p' := 164) hC 1 (dAt dd_X11_count 75 rfl) rfl rfl rfl ?_
      exact x_ireturn hC (dAt dd_X11_count 76 rfl)
    · refine x_iload_n (p' := 141) hC 1 (dAt dd_X11_count 62 rfl) rfl rfl rfl ?_
      refine x_aload_n (p' := 142) hC 0 (dAt dd_X11_count 63 rfl) rfl rfl rfl ?_
      refine x_getR (p' := 145) hC fk_RX11_122 rfl (dAt dd_X11_count 64 rfl) rfl (fun r8 => ?_)
      refine x_iload_n (p' := 146) hC 2 (dAt dd_X11_count 65 rfl) rfl rfl rfl ?_
      refine x_baload (p' := 147) hC (dAt dd_X11_count 66 rfl) rfl (fun v9 => ?_)
      refine x_if_eq (tgt := 154) (p' := 150) hC (dAt dd_X11_count 67 rfl) (by decide) rfl ?_ ?_
      · refine x_iconst (v := 1) (p' := 155) hC (dAt dd_X11_count 70 rfl) (by decide) rfl ?_
        refine x_iadd (p' := 156) hC (dAt dd_X11_count 71 rfl) rfl ?_
        refine x_istore_n (j := 2) (lv' := [(2, .int (x2 + 1)), (0, va_rf (some x0)), (3, .int x3)]) (p' := 157) hC (dAt dd_X11_count 72 rfl) rfl (by decide) rfl rfl ?_
        refine x_iinc (w := (x3 + 1)) (lv' := [(3, .int (x3 + 1)), (2, .int (x2 + 1)), (0, va_rf (some x0))]) (p' := 160) hC 2 (dAt dd_X11_count 73 rfl) rfl rfl (by decide) rfl rfl ?_
        refine x_goto (tgt := 132) hC (dAt dd_X11_count 74 rfl) (by decide) ?_
        refine x_sub [2, 1, 0] rfl ?_
        exact ih x0 (x2 + 1) (x3 + 1) h
      · refine x_iconst (v := 0) (p' := 151) hC (dAt dd_X11_count 68 rfl) (by decide) rfl ?_
        refine x_goto (tgt := 155) hC (dAt dd_X11_count 69 rfl) (by decide) ?_
        refine x_iadd (p' := 156) hC (dAt dd_X11_count 71 rfl) rfl ?_
        refine x_istore_n (j := 2) (lv' := [(2, .int (x2 + 0)), (0, va_rf (some x0)), (3, .int x3)]) (p' := 157) hC (dAt dd_X11_count 72 rfl) rfl (by decide) rfl rfl ?_
        refine x_iinc (w := (x3 + 1)) (lv' := [(3, .int (x3 + 1)), (2, .int (x2 + 0)), (0, va_rf (some x0))]) (p' := 160) hC 2 (dAt dd_X11_count 73 rfl) rfl rfl (by decide) rfl rfl ?_
        refine x_goto (tgt := 132) hC (dAt dd_X11_count 74 rfl) (by decide) ?_
        refine x_sub [2, 1, 0] rfl ?_
        exact ih x0 (x2 + 0) (x3 + 1) h
set_option maxHeartbeats 4000000 in
set_option maxRecDepth 100000 in
theorem c_X11_count (l : Launch) (D : va_G) (cy : Nat → ClassId) (h : AH) (a0 : Nat) (p1 : Int32) : MX rvI l yX11_count (Cond.code yX11_count cX11_count 4 (some .int) :: LW) 4 98 D cy h [va_rf (some a0), .int p1] (f_X11_count h a0 p1) := by
  refine MX.of (lv := [(0, va_rf (some a0)), (1, .int p1)]) (by decide) (Nat.le_of_ble_eq_true rfl) rfl (fun C hC _ => ?_)
  unfold f_X11_count
  refine x_aload_n (p' := 1) hC 0 (dAt dd_X11_count 0 rfl) rfl rfl rfl ?_
  refine x_iconst (v := 0) (p' := 2) hC (dAt dd_X11_count 1 rfl) (by decide) rfl ?_
  refine x_putI (p' := 5) hC fk_RX11_1 tk_RX11 rfl rfl (Or.inl rfl) (dAt dd_X11_count 2 rfl) rfl (fun h1 => ?_)
  refine x_iconst (v := 0) (p' := 6) hC (dAt dd_X11_count 3 rfl) (by decide) rfl ?_
  refine x_istore_n (j := 2) (lv' := [(2, .int 0), (0, va_rf (some a0)), (1, .int p1)]) (p' := 7) hC (dAt dd_X11_count 4 rfl) rfl (by decide) rfl rfl ?_
  refine x_iload_n (p' := 8) hC 2 (dAt dd_X11_count 5 rfl) rfl rfl rfl ?_
  refine x_case 0 (fun q0 => ?_) (fun q0 => ?_)
  · refine x_switch_in (tgt := 52) hC (dAt dd_X11_count 6 rfl) (by rw [q0]; decide) (by rw [q0]; decide) (by rw [q0]; rfl) (by decide) ?_
    refine x_iconst (v := 0) (p' := 53) hC (dAt dd_X11_count 7 rfl) (by decide) rfl ?_
    refine x_istore_n (j := 3) (lv' := [(3, .int 0), (2, .int 0), (0, va_rf (some a0)), (1, .int p1)]) (p' := 54) hC (dAt dd_X11_count 8 rfl) rfl (by decide) rfl rfl ?_
    refine x_sub [2, 1, 0] rfl ?_
    exact t_X11_count_L54 hC FU a0 0 0 h1
  refine x_case 1 (fun q1 => ?_) (fun q1 => ?_)
  · refine x_switch_in (tgt := 85) hC (dAt dd_X11_count 6 rfl) (by rw [q1]; decide) (by rw [q1]; decide) (by rw [q1]; rfl) (by decide) ?_
    refine x_sub [1, 2, 0] rfl ?_
    exact t_X11_count_J85 hC a0 p1 0 h1
  refine x_case 2 (fun q2 => ?_) (fun q2 => ?_)
  · refine x_switch_in (tgt := 85) hC (dAt dd_X11_count 6 rfl) (by rw [q2]; decide) (by rw [q2]; decide) (by rw [q2]; rfl) (by decide) ?_
    refine x_sub [1, 2, 0] rfl ?_
    exact t_X11_count_J85 hC a0 p1 0 h1
  refine x_case 3 (fun q3 => ?_) (fun q3 => ?_)
  · refine x_switch_in (tgt := 125) hC (dAt dd_X11_count 6 rfl) (by rw [q3]; decide) (by rw [q3]; decide) (by rw [q3]; rfl) (by decide) ?_
    refine x_aload_n (p' := 126) hC 1 (dAt dd_X11_count 53 rfl) rfl rfl rfl ?_
    refine x_getI (p' := 129) hC fk_RX11_251 rfl (dAt dd_X11_count 54 rfl) rfl (fun v6 => ?_)
    exact x_ireturn hC (dAt dd_X11_count 55 rfl)
  refine x_case 4 (fun q4 => ?_) (fun q4 => ?_)
  · refine x_switch_in (tgt := 130) hC (dAt dd_X11_count 6 rfl) (by rw [q4]; decide) (by rw [q4]; decide) (by rw [q4]; rfl) (by decide) ?_
    refine x_iconst (v := 0) (p' := 131) hC (dAt dd_X11_count 56 rfl) (by decide) rfl ?_
    refine x_istore_n (j := 3) (lv' := [(3, .int 0), (2, .int 0), (0, va_rf (some a0)), (1, .int p1)]) (p' := 132) hC (dAt dd_X11_count 57 rfl) rfl (by decide) rfl rfl ?_
    refine x_sub [2, 1, 0] rfl ?_
    exact t_X11_count_L132 hC FU a0 0 0 h1
  refine x_case 5 (fun q5 => ?_) (fun q5 => ?_)
  · refine x_switch_in (tgt := 165) hC (dAt dd_X11_count 6 rfl) (by rw [q5]; decide) (by rw [q5]; decide) (by rw [q5]; rfl) (by decide) ?_
    refine x_aload_n (p' := 166) hC 1 (dAt dd_X11_count 77 rfl) rfl rfl rfl ?_
    refine x_callVV (As := []) (z := fun b => f_X11_findGroups h1 b) (p' := 169) hC (fun b => c_X11_findGroups _ _ _ h1 b) k_1036 k_1038 (k_sl 48 rfl) k_9 k_1039 hd_X11_findGroups ⟨by decide, by decide⟩ (ci := 10) rfl rfl (by decide) rfl (Nat.le_of_ble_eq_true rfl) rfl (dAt dd_X11_count 78 rfl) rfl (fun u10 h11 => ?_)
    refine x_aload_n (p' := 170) hC 1 (dAt dd_X11_count 79 rfl) rfl rfl rfl ?_
    refine x_getI (p' := 173) hC fk_RX11_223 rfl (dAt dd_X11_count 80 rfl) rfl (fun v12 => ?_)
    exact x_ireturn hC (dAt dd_X11_count 81 rfl)
  refine x_case 6 (fun q6 => ?_) (fun q6 => ?_)
  · refine x_switch_in (tgt := 174) hC (dAt dd_X11_count 6 rfl) (by rw [q6]; decide) (by rw [q6]; decide) (by rw [q6]; rfl) (by decide) ?_
    refine x_aload_n (p' := 175) hC 1 (dAt dd_X11_count 82 rfl) rfl rfl rfl ?_
    refine x_getI (p' := 178) hC fk_RX11_147 rfl (dAt dd_X11_count 83 rfl) rfl (fun v13 => ?_)
    exact x_ireturn hC (dAt dd_X11_count 84 rfl)
  refine x_switch_out (tgt := 179) hC (dAt dd_X11_count 6 rfl) (by have z0 := lv_neT q0 (show (0 : Int32).toInt = 0 by decide); have z1 := lv_neT q1 (show (1 : Int32).toInt = 1 by decide); have z2 := lv_neT q2 (show (2 : Int32).toInt = 2 by decide); have z3 := lv_neT q3 (show (3 : Int32).toInt = 3 by decide); have z4 := lv_neT q4 (show (4 : Int32).toInt = 4 by decide); have z5 := lv_neT q5 (show (5 : Int32).toInt = 5 by decide); have z6 := lv_neT q6 (show (6 : Int32).toInt = 6 by decide); omega) (by decide) ?_
  refine x_ldc (v := (-1000001)) (p' := 181) hC (dAt dd_X11_count 85 rfl) k_918 rfl ?_
  exact x_ireturn hC (dAt dd_X11_count 86 rfl)
set_option maxHeartbeats 4000000 in
set_option maxRecDepth 100000 in
theorem c_X11_status (l : Launch) (D : va_G) (cy : Nat → ClassId) (h : AH) (a0 : Nat) : MX rvI l yX11_status (Cond.code yX11_status cX11_status 1 (some .int) :: LW) 0 0 D cy h [va_rf (some a0)] (f_X11_status h a0) := by
  refine MX.of (lv := [(0, va_rf (some a0))]) (by decide) (Nat.le_of_ble_eq_true rfl) rfl (fun C hC _ => ?_)
  unfold f_X11_status
  refine x_aload_n (p' := 1) hC 0 (dAt dd_X11_status 0 rfl) rfl rfl rfl ?_
  refine x_iconst (v := 0) (p' := 2) hC (dAt dd_X11_status 1 rfl) (by decide) rfl ?_
  refine x_putI (p' := 5) hC fk_RX11_1 tk_RX11 rfl rfl (Or.inl rfl) (dAt dd_X11_status 2 rfl) rfl (fun h1 => ?_)
  refine x_aload_n (p' := 6) hC 0 (dAt dd_X11_status 3 rfl) rfl rfl rfl ?_
  refine x_getI (p' := 9) hC fk_RX11_7 rfl (dAt dd_X11_status 4 rfl) rfl (fun v2 => ?_)
  exact x_ireturn hC (dAt dd_X11_status 5 rfl)
