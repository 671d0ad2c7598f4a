abbrev rm_Mod_reckon : Room := { frames := 1, cells := 0, slots := 0, locals := 21 }
def F_Mod_reckon (x0 : Nat) (x1 : Int32) (V : gx_M) : Option gx_M := ((F_Mod_pop x0 V).bind fun q1 => (if x1 = (11 : Int32) then (if q1.1 = 0 then ((F_Mod_push x0 (1 : Int32) q1.2).bind fun q13 => some q13) else ((F_Mod_push x0 (0 : Int32) q1.2).bind fun q12 => some q12)) else ((F_Mod_pop x0 q1.2).bind fun q2 => (if x1 = (5 : Int32) then ((F_Mod_push x0 (q2.1 + q1.1) q2.2).bind fun q11 => some q11) else (if x1 = (6 : Int32) then ((F_Mod_push x0 (q2.1 - q1.1) q2.2).bind fun q10 => some q10) else (if x1 = (7 : Int32) then ((F_Mod_push x0 (q2.1 * q1.1) q2.2).bind fun q9 => some q9) else (if x1 = (8 : Int32) then (if q1.1 = 0 then ((F_Mod_push x0 (0 : Int32) q2.2).bind fun q8 => some q8) else (if ¬ q1.1 = 0 then ((F_Mod_push x0 (q2.1 / q1.1) q2.2).bind fun q7 => some q7) else none)) else (if x1 = (9 : Int32) then (if q1.1 ≤ q2.1 then ((F_Mod_push x0 (0 : Int32) q2.2).bind fun q5 => some q5) else ((F_Mod_push x0 (1 : Int32) q2.2).bind fun q6 => some q6)) else (if q2.1 = q1.1 then ((F_Mod_push x0 (1 : Int32) q2.2).bind fun q4 => some q4) else ((F_Mod_push x0 (0 : Int32) q2.2).bind fun q3 => some q3))))))))))
set_option maxRecDepth 100000 in
set_option maxHeartbeats 8000000 in
theorem k_Mod_reckon (l : Launch) (dC : Nat → ClassId) (dI : Nat → Nat → Nat) (cI cR cZ : ClassId) (b tP tN : Nat) {x0 : Nat} {x1 : Int32} {V : gx_M} {q : gx_M} (hk0 : mx_kd x0 = 6) (h : F_Mod_reckon x0 x1 V = some q) : mx_C l dC dI cI cR cZ b tP tN y_Mod_reckon w_Mod_reckon rm_Mod_reckon [.ref (b + x0), .int x1] V none q := by
  refine gx_start (cc := b_Mod_reckon) (maxL := 4) (ret := rt_Mod_reckon) (by decide) rfl (Nat.le_of_ble_eq_true rfl) ?_
  intro p e s m args below meth c ls hx hb hr hts hown hlk hml hl hP hK hX hS
  have hts : ∀ w ∈ cx_tb, w.before args s = true := fun w hw => hts w (List.mem_cons_of_mem _ hw)
  have hown : s.vm.findClass "GasLedgerModel" = some m.cls := hown
  have hl : lv_has ls 4 [(0, .ref (b + x0)), (1, .int x1)] := hl
  unfold F_Mod_reckon at h
  refine lv_aload_n (pc := 0) hx hb d_Mod_reckon_0 rfl (lv_at hl 0 rfl) ?_
  obtain ⟨q1, g1, h⟩ := gx_bd h
  refine gx_ci (pc := 1) (va_runV (C := "GasLedgerModel") (As := []) (rest := []) ⟨hx, hb, hml, hown, hts⟩ (k_Mod_pop l dC dI cI cR cZ b tP tN hk0 g1) (gx_cw 0 hts cd_Mod_pop tb_50 tb_819 tb_821 tb_35 rfl rfl ⟨by decide, by decide, by decide +kernel⟩ ⟨Nat.le_of_ble_eq_true rfl, Nat.le_of_ble_eq_true rfl⟩) (gy_preV (mx_XX b) hX hK hP hS (mx_lt hk0 (by decide)) (sh_Mod cI cZ b hk0 _) rfl) rfl rfl hl.1 rfl (lv_room (Nat.le_of_ble_eq_true rfl)) d_Mod_reckon_1 ⟨Nat.zero_le _, Nat.zero_le _⟩) hS (fun H locs hP hS => ?_)
  refine lv_istore_n (pc := 4) (lv' := [(2, .int q1.1), (0, .ref (b + x0)), (1, .int x1)]) hx hb d_Mod_reckon_4 rfl hl (by decide) rfl (fun ls hl => ?_)
  refine lv_iload_n (pc := 5) hx hb d_Mod_reckon_5 rfl (lv_at hl 2 rfl) ?_
  refine lv_bipush (pc := 6) (v := (11 : Int32)) hx hb d_Mod_reckon_6 (by decide) ?_
  refine lv_icmp_ne (pc := 8) (tgt := 25) hx hb d_Mod_reckon_8 (by decide) (fun g2 => ?_) (fun g2 => ?_)
  · have h := gx_neg g2 h
    refine lv_aload_n (pc := 25) hx hb d_Mod_reckon_25 rfl (lv_at hl 1 rfl) ?_
    obtain ⟨q2, g3, h⟩ := gx_bd h
    refine gx_ci (pc := 26) (va_runV (C := "GasLedgerModel") (As := []) (rest := []) ⟨hx, hb, hml, hown, hts⟩ (k_Mod_pop l dC dI cI cR cZ b tP tN hk0 g3) (gx_cw 0 hts cd_Mod_pop tb_50 tb_819 tb_821 tb_35 rfl rfl ⟨by decide, by decide, by decide +kernel⟩ ⟨Nat.le_of_ble_eq_true rfl, Nat.le_of_ble_eq_true rfl⟩) (gy_preV (mx_XX b) hX hK hP hS (mx_lt hk0 (by decide)) (sh_Mod cI cZ b hk0 _) rfl) rfl rfl hl.1 rfl (lv_room (Nat.le_of_ble_eq_true rfl)) d_Mod_reckon_26 ⟨Nat.zero_le _, Nat.zero_le _⟩) hS (fun H locs hP hS => ?_)
    refine lv_istore_n (pc := 29) (lv' := [(3, .int q2.1), (2, .int q1.1), (0, .ref (b + x0)), (1, .int x1)]) hx hb d_Mod_reckon_29 rfl hl (by decide) rfl (fun ls hl => ?_)
    refine lv_aload_n (pc := 30) hx hb d_Mod_reckon_30 rfl (lv_at hl 2 rfl) ?_
    refine lv_iload_n (pc := 31) hx hb d_Mod_reckon_31 rfl (lv_at hl 3 rfl) ?_
    refine lv_iconst (pc := 32) (v := (5 : Int32)) hx hb d_Mod_reckon_32 (by decide) ?_
    refine lv_icmp_ne (pc := 33) (tgt := 42) hx hb d_Mod_reckon_33 (by decide) (fun g4 => ?_) (fun g4 => ?_)
    · have h := gx_neg g4 h
      refine lv_iload_n (pc := 42) hx hb d_Mod_reckon_42 rfl (lv_at hl 3 rfl) ?_
      refine lv_bipush (pc := 43) (v := (6 : Int32)) hx hb d_Mod_reckon_43 (by decide) ?_
      refine lv_icmp_ne (pc := 45) (tgt := 54) hx hb d_Mod_reckon_45 (by decide) (fun g5 => ?_) (fun g5 => ?_)
      · have h := gx_neg g5 h
        refine lv_iload_n (pc := 54) hx hb d_Mod_reckon_54 rfl (lv_at hl 3 rfl) ?_
        refine lv_bipush (pc := 55) (v := (7 : Int32)) hx hb d_Mod_reckon_55 (by decide) ?_
        refine lv_icmp_ne (pc := 57) (tgt := 66) hx hb d_Mod_reckon_57 (by decide) (fun g6 => ?_) (fun g6 => ?_)
        · have h := gx_neg g6 h
          refine lv_iload_n (pc := 66) hx hb d_Mod_reckon_66 rfl (lv_at hl 3 rfl) ?_
          refine lv_bipush (pc := 67) (v := (8 : Int32)) hx hb d_Mod_reckon_67 (by decide) ?_
          refine lv_icmp_ne (pc := 69) (tgt := 86) hx hb d_Mod_reckon_69 (by decide) (fun g7 => ?_) (fun g7 => ?_)
          · have h := gx_neg g7 h
            refine lv_iload_n (pc := 86) hx hb d_Mod_reckon_86 rfl (lv_at hl 3 rfl) ?_
            refine lv_bipush (pc := 87) (v := (9 : Int32)) hx hb d_Mod_reckon_87 (by decide) ?_
            refine lv_icmp_ne (pc := 89) (tgt := 105) hx hb d_Mod_reckon_89 (by decide) (fun g8 => ?_) (fun g8 => ?_)
            · have h := gx_neg g8 h
              refine lv_iload_n (pc := 105) hx hb d_Mod_reckon_105 rfl (lv_at hl 0 rfl) ?_
              refine lv_iload_n (pc := 106) hx hb d_Mod_reckon_106 rfl (lv_at hl 1 rfl) ?_
              refine lv_icmp_ne (pc := 107) (tgt := 114) hx hb d_Mod_reckon_107 (by decide) (fun g9 => ?_) (fun g9 => ?_)
              · have h := gx_neg g9 h
                refine lv_iconst (pc := 114) (v := (0 : Int32)) hx hb d_Mod_reckon_114 (by decide) ?_
                obtain ⟨q3, g10, h⟩ := gx_bd h
                refine gx_cv (pc := 115) (va_runV (C := "GasLedgerModel") (As := [.int (0 : Int32)]) (rest := []) ⟨hx, hb, hml, hown, hts⟩ (k_Mod_push l dC dI cI cR cZ b tP tN hk0 g10) (gx_cw 1 hts cd_Mod_push tb_50 tb_793 tb_795 tb_30 rfl rfl ⟨by decide, by decide, by decide +kernel⟩ ⟨Nat.le_of_ble_eq_true rfl, Nat.le_of_ble_eq_true rfl⟩) (gy_preV (mx_XX b) hX hK hP hS (mx_lt hk0 (by decide)) (sh_Mod cI cZ b hk0 _) rfl) rfl rfl hl.1 rfl (lv_room (Nat.le_of_ble_eq_true rfl)) d_Mod_reckon_115 ⟨Nat.zero_le _, Nat.zero_le _⟩) hS (fun H locs hP hS => ?_)
                exact gx_vret hx hb hr hlk hP hS d_Mod_reckon_118 (by cases h; rfl) (by cases h; rfl)
              · have h := gx_pos g9 h
                refine lv_iconst (pc := 110) (v := (1 : Int32)) hx hb d_Mod_reckon_110 (by decide) ?_
                refine lv_goto (pc := 111) (tgt := 115) hx hb d_Mod_reckon_111 (by decide) ?_
                obtain ⟨q4, g11, h⟩ := gx_bd h
                refine gx_cv (pc := 115) (va_runV (C := "GasLedgerModel") (As := [.int (1 : Int32)]) (rest := []) ⟨hx, hb, hml, hown, hts⟩ (k_Mod_push l dC dI cI cR cZ b tP tN hk0 g11) (gx_cw 1 hts cd_Mod_push tb_50 tb_793 tb_795 tb_30 rfl rfl ⟨by decide, by decide, by decide +kernel⟩ ⟨Nat.le_of_ble_eq_true rfl, Nat.le_of_ble_eq_true rfl⟩) (gy_preV (mx_XX b) hX hK hP hS (mx_lt hk0 (by decide)) (sh_Mod cI cZ b hk0 _) rfl) rfl rfl hl.1 rfl (lv_room (Nat.le_of_ble_eq_true rfl)) d_Mod_reckon_115 ⟨Nat.zero_le _, Nat.zero_le _⟩) hS (fun H locs hP hS => ?_)
                exact gx_vret hx hb hr hlk hP hS d_Mod_reckon_118 (by cases h; rfl) (by cases h; rfl)
            · have h := gx_pos g8 h
              refine lv_iload_n (pc := 92) hx hb d_Mod_reckon_92 rfl (lv_at hl 0 rfl) ?_
              refine lv_iload_n (pc := 93) hx hb d_Mod_reckon_93 rfl (lv_at hl 1 rfl) ?_
              refine lv_icmp_ge (pc := 94) (tgt := 101) hx hb d_Mod_reckon_94 (by decide) (fun g12 => ?_) (fun g12 => ?_)
              · have h := gx_pos g12 h
                refine lv_iconst (pc := 101) (v := (0 : Int32)) hx hb d_Mod_reckon_101 (by decide) ?_
                refine lv_goto (pc := 102) (tgt := 115) hx hb d_Mod_reckon_102 (by decide) ?_
                obtain ⟨q5, g13, h⟩ := gx_bd h
                refine gx_cv (pc := 115) (va_runV (C := "GasLedgerModel") (As := [.int (0 : Int32)]) (rest := []) ⟨hx, hb, hml, hown, hts⟩ (k_Mod_push l dC dI cI cR cZ b tP tN hk0 g13) (gx_cw 1 hts cd_Mod_push tb_50 tb_793 tb_795 tb_30 rfl rfl ⟨by decide, by decide, by decide +kernel⟩ ⟨Nat.le_of_ble_eq_true rfl, Nat.le_of_ble_eq_true rfl⟩) (gy_preV (mx_XX b) hX hK hP hS (mx_lt hk0 (by decide)) (sh_Mod cI cZ b hk0 _) rfl) rfl rfl hl.1 rfl (lv_room (Nat.le_of_ble_eq_true rfl)) d_Mod_reckon_115 ⟨Nat.zero_le _, Nat.zero_le _⟩) hS (fun H locs hP hS => ?_)
                exact gx_vret hx hb hr hlk hP hS d_Mod_reckon_118 (by cases h; rfl) (by cases h; rfl)
              · have h := gx_neg g12 h
                refine lv_iconst (pc := 97) (v := (1 : Int32)) hx hb d_Mod_reckon_97 (by decide) ?_
                refine lv_goto (pc := 98) (tgt := 115) hx hb d_Mod_reckon_98 (by decide) ?_
                obtain ⟨q6, g14, h⟩ := gx_bd h
                refine gx_cv (pc := 115) (va_runV (C := "GasLedgerModel") (As := [.int (1 : Int32)]) (rest := []) ⟨hx, hb, hml, hown, hts⟩ (k_Mod_push l dC dI cI cR cZ b tP tN hk0 g14) (gx_cw 1 hts cd_Mod_push tb_50 tb_793 tb_795 tb_30 rfl rfl ⟨by decide, by decide, by decide +kernel⟩ ⟨Nat.le_of_ble_eq_true rfl, Nat.le_of_ble_eq_true rfl⟩) (gy_preV (mx_XX b) hX hK hP hS (mx_lt hk0 (by decide)) (sh_Mod cI cZ b hk0 _) rfl) rfl rfl hl.1 rfl (lv_room (Nat.le_of_ble_eq_true rfl)) d_Mod_reckon_115 ⟨Nat.zero_le _, Nat.zero_le _⟩) hS (fun H locs hP hS => ?_)
                exact gx_vret hx hb hr hlk hP hS d_Mod_reckon_118 (by cases h; rfl) (by cases h; rfl)
          · have h := gx_pos g7 h
            refine lv_iload_n (pc := 72) hx hb d_Mod_reckon_72 rfl (lv_at hl 1 rfl) ?_
            refine lv_if_ne (pc := 73) (tgt := 80) hx hb d_Mod_reckon_73 (by decide) (fun g15 => ?_) (fun g15 => ?_)
            · have h := gx_neg g15 h
              refine lv_iload_n (pc := 80) hx hb d_Mod_reckon_80 rfl (lv_at hl 0 rfl) ?_
              refine lv_iload_n (pc := 81) hx hb d_Mod_reckon_81 rfl (lv_at hl 1 rfl) ?_
              obtain ⟨g16, h⟩ := gx_if h
              refine lv_idiv (pc := 82) hx hb d_Mod_reckon_82 g16 ?_
              refine lv_goto (pc := 83) (tgt := 115) hx hb d_Mod_reckon_83 (by decide) ?_
              obtain ⟨q7, g17, h⟩ := gx_bd h
              refine gx_cv (pc := 115) (va_runV (C := "GasLedgerModel") (As := [.int (q2.1 / q1.1)]) (rest := []) ⟨hx, hb, hml, hown, hts⟩ (k_Mod_push l dC dI cI cR cZ b tP tN hk0 g17) (gx_cw 1 hts cd_Mod_push tb_50 tb_793 tb_795 tb_30 rfl rfl ⟨by decide, by decide, by decide +kernel⟩ ⟨Nat.le_of_ble_eq_true rfl, Nat.le_of_ble_eq_true rfl⟩) (gy_preV (mx_XX b) hX hK hP hS (mx_lt hk0 (by decide)) (sh_Mod cI cZ b hk0 _) rfl) rfl rfl hl.1 rfl (lv_room (Nat.le_of_ble_eq_true rfl)) d_Mod_reckon_115 ⟨Nat.zero_le _, Nat.zero_le _⟩) hS (fun H locs hP hS => ?_)
              exact gx_vret hx hb hr hlk hP hS d_Mod_reckon_118 (by cases h; rfl) (by cases h; rfl)
            · have h := gx_pos g15 h
              refine lv_iconst (pc := 76) (v := (0 : Int32)) hx hb d_Mod_reckon_76 (by decide) ?_
              refine lv_goto (pc := 77) (tgt := 115) hx hb d_Mod_reckon_77 (by decide) ?_
              obtain ⟨q8, g18, h⟩ := gx_bd h
              refine gx_cv (pc := 115) (va_runV (C := "GasLedgerModel") (As := [.int (0 : Int32)]) (rest := []) ⟨hx, hb, hml, hown, hts⟩ (k_Mod_push l dC dI cI cR cZ b tP tN hk0 g18) (gx_cw 1 hts cd_Mod_push tb_50 tb_793 tb_795 tb_30 rfl rfl ⟨by decide, by decide, by decide +kernel⟩ ⟨Nat.le_of_ble_eq_true rfl, Nat.le_of_ble_eq_true rfl⟩) (gy_preV (mx_XX b) hX hK hP hS (mx_lt hk0 (by decide)) (sh_Mod cI cZ b hk0 _) rfl) rfl rfl hl.1 rfl (lv_room (Nat.le_of_ble_eq_true rfl)) d_Mod_reckon_115 ⟨Nat.zero_le _, Nat.zero_le _⟩) hS (fun H locs hP hS => ?_)
              exact gx_vret hx hb hr hlk hP hS d_Mod_reckon_118 (by cases h; rfl) (by cases h; rfl)
        · have h := gx_pos g6 h
          refine lv_iload_n (pc := 60) hx hb d_Mod_reckon_60 rfl (lv_at hl 0 rfl) ?_
          refine lv_iload_n (pc := 61) hx hb d_Mod_reckon_61 rfl (lv_at hl 1 rfl) ?_
          refine lv_imul (pc := 62) hx hb d_Mod_reckon_62 ?_
          refine lv_goto (pc := 63) (tgt := 115) hx hb d_Mod_reckon_63 (by decide) ?_
          obtain ⟨q9, g19, h⟩ := gx_bd h
          refine gx_cv (pc := 115) (va_runV (C := "GasLedgerModel") (As := [.int (q2.1 * q1.1)]) (rest := []) ⟨hx, hb, hml, hown, hts⟩ (k_Mod_push l dC dI cI cR cZ b tP tN hk0 g19) (gx_cw 1 hts cd_Mod_push tb_50 tb_793 tb_795 tb_30 rfl rfl ⟨by decide, by decide, by decide +kernel⟩ ⟨Nat.le_of_ble_eq_true rfl, Nat.le_of_ble_eq_true rfl⟩) (gy_preV (mx_XX b) hX hK hP hS (mx_lt hk0 (by decide)) (sh_Mod cI cZ b hk0 _) rfl) rfl rfl hl.1 rfl (lv_room (Nat.le_of_ble_eq_true rfl)) d_Mod_reckon_115 ⟨Nat.zero_le _, Nat.zero_le _⟩) hS (fun H locs hP hS => ?_)
          exact gx_vret hx hb hr hlk hP hS d_Mod_reckon_118 (by cases h; rfl) (by cases h; rfl)
      · have h := gx_pos g5 h
        refine lv_iload_n (pc := 48) hx hb d_Mod_reckon_48 rfl (lv_at hl 0 rfl) ?_
        refine lv_iload_n (pc := 49) hx hb d_Mod_reckon_49 rfl (lv_at hl 1 rfl) ?_
        refine lv_isub (pc := 50) hx hb d_Mod_reckon_50 ?_
        refine lv_goto (pc := 51) (tgt := 115) hx hb d_Mod_reckon_51 (by decide) ?_
        obtain ⟨q10, g20, h⟩ := gx_bd h
        refine gx_cv (pc := 115) (va_runV (C := "GasLedgerModel") (As := [.int (q2.1 - q1.1)]) (rest := []) ⟨hx, hb, hml, hown, hts⟩ (k_Mod_push l dC dI cI cR cZ b tP tN hk0 g20) (gx_cw 1 hts cd_Mod_push tb_50 tb_793 tb_795 tb_30 rfl rfl ⟨by decide, by decide, by decide +kernel⟩ ⟨Nat.le_of_ble_eq_true rfl, Nat.le_of_ble_eq_true rfl⟩) (gy_preV (mx_XX b) hX hK hP hS (mx_lt hk0 (by decide)) (sh_Mod cI cZ b hk0 _) rfl) rfl rfl hl.1 rfl (lv_room (Nat.le_of_ble_eq_true rfl)) d_Mod_reckon_115 ⟨Nat.zero_le _, Nat.zero_le _⟩) hS (fun H locs hP hS => ?_)
        exact gx_vret hx hb hr hlk hP hS d_Mod_reckon_118 (by cases h; rfl) (by cases h; rfl)
    · have h := gx_pos g4 h
      refine lv_iload_n (pc := 36) hx hb d_Mod_reckon_36 rfl (lv_at hl 0 rfl) ?_
      refine lv_iload_n (pc := 37) hx hb d_Mod_reckon_37 rfl (lv_at hl 1 rfl) ?_
      refine lv_iadd (pc := 38) hx hb d_Mod_reckon_38 ?_
      refine lv_goto (pc := 39) (tgt := 115) hx hb d_Mod_reckon_39 (by decide) ?_
      obtain ⟨q11, g21, h⟩ := gx_bd h
      refine gx_cv (pc := 115) (va_runV (C := "GasLedgerModel") (As := [.int (q2.1 + q1.1)]) (rest := []) ⟨hx, hb, hml, hown, hts⟩ (k_Mod_push l dC dI cI cR cZ b tP tN hk0 g21) (gx_cw 1 hts cd_Mod_push tb_50 tb_793 tb_795 tb_30 rfl rfl ⟨by decide, by decide, by decide +kernel⟩ ⟨Nat.le_of_ble_eq_true rfl, Nat.le_of_ble_eq_true rfl⟩) (gy_preV (mx_XX b) hX hK hP hS (mx_lt hk0 (by decide)) (sh_Mod cI cZ b hk0 _) rfl) rfl rfl hl.1 rfl (lv_room (Nat.le_of_ble_eq_true rfl)) d_Mod_reckon_115 ⟨Nat.zero_le _, Nat.zero_le _⟩) hS (fun H locs hP hS => ?_)
      exact gx_vret hx hb hr hlk hP hS d_Mod_reckon_118 (by cases h; rfl) (by cases h; rfl)
  · have h := gx_pos g2 h
    refine lv_aload_n (pc := 11) hx hb d_Mod_reckon_11 rfl (lv_at hl 1 rfl) ?_
    refine lv_iload_n (pc := 12) hx hb d_Mod_reckon_12 rfl (lv_at hl 0 rfl) ?_
    refine lv_if_ne (pc := 13) (tgt := 20) hx hb d_Mod_reckon_13 (by decide) (fun g22 => ?_) (fun g22 => ?_)
    · have h := gx_neg g22 h
      refine lv_iconst (pc := 20) (v := (0 : Int32)) hx hb d_Mod_reckon_20 (by decide) ?_
      obtain ⟨q12, g23, h⟩ := gx_bd h
      refine gx_cv (pc := 21) (va_runV (C := "GasLedgerModel") (As := [.int (0 : Int32)]) (rest := []) ⟨hx, hb, hml, hown, hts⟩ (k_Mod_push l dC dI cI cR cZ b tP tN hk0 g23) (gx_cw 1 hts cd_Mod_push tb_50 tb_793 tb_795 tb_30 rfl rfl ⟨by decide, by decide, by decide +kernel⟩ ⟨Nat.le_of_ble_eq_true rfl, Nat.le_of_ble_eq_true rfl⟩) (gy_preV (mx_XX b) hX hK hP hS (mx_lt hk0 (by decide)) (sh_Mod cI cZ b hk0 _) rfl) rfl rfl hl.1 rfl (lv_room (Nat.le_of_ble_eq_true rfl)) d_Mod_reckon_21 ⟨Nat.zero_le _, Nat.zero_le _⟩) hS (fun H locs hP hS => ?_)
      exact gx_vret hx hb hr hlk hP hS d_Mod_reckon_24 (by cases h; rfl) (by cases h; rfl)
    · have h := gx_pos g22 h
      refine lv_iconst (pc := 16) (v := (1 : Int32)) hx hb d_Mod_reckon_16 (by decide) ?_
      refine lv_goto (pc := 17) (tgt := 21) hx hb d_Mod_reckon_17 (by decide) ?_
      obtain ⟨q13, g24, h⟩ := gx_bd h
      refine gx_cv (pc := 21) (va_runV (C := "GasLedgerModel") (As := [.int (1 : Int32)]) (rest := []) ⟨hx, hb, hml, hown, hts⟩ (k_Mod_push l dC dI cI cR cZ b tP tN hk0 g24) (gx_cw 1 hts cd_Mod_push tb_50 tb_793 tb_795 tb_30 rfl rfl ⟨by decide, by decide, by decide +kernel⟩ ⟨Nat.le_of_ble_eq_true rfl, Nat.le_of_ble_eq_true rfl⟩) (gy_preV (mx_XX b) hX hK hP hS (mx_lt hk0 (by decide)) (sh_Mod cI cZ b hk0 _) rfl) rfl rfl hl.1 rfl (lv_room (Nat.le_of_ble_eq_true rfl)) d_Mod_reckon_21 ⟨Nat.zero_le _, Nat.zero_le _⟩) hS (fun H locs hP hS => ?_)
      exact gx_vret hx hb hr hlk hP hS d_Mod_reckon_24 (by cases h; rfl) (by cases h; rfl)
abbrev rm_Mod_hold : Room := { frames := 1, cells := 0, slots := 0, locals := 21 }
def F_Mod_hold_109 (x0 : Nat) (x2 : Int32) (x3 : Int32) (x4 : Int32) (s0 : Int32) (s1 : Int32) (s2 : Nat) (V : gx_M) : Option gx_M := (gx_let (gx_u V s2 2 (s1 + s0)) fun V1 => (if gx_ib ((((36 : Int32) * x2) + (27 : Int32)) + x3) 576 then (gx_let (gx_u V1 (x0 + 1) ((((36 : Int32) * x2) + (27 : Int32)) + x3).toNatClampNeg x4) fun V2 => some V2) else none))
def F_Mod_hold_108 (x0 : Nat) (x2 : Int32) (x3 : Int32) (x4 : Int32) (s0 : Int32) (s1 : Nat) (V : gx_M) : Option gx_M := (F_Mod_hold_109   x0 x2 x3 x4 (0 : Int32) s0 s1 V)
def F_Mod_hold (x0 : Nat) (x1 : Int32) (V : gx_M) : Option gx_M := (if gx_ib (V x0 19) 8 then (if x1 = (14 : Int32) then ((F_Mod_pop x0 V).bind fun q12 => ((F_Mod_in q12.1 (8 : Int32) q12.2).bind fun q13 => (if q13.1 = 0 then ((F_Mod_push x0 (0 : Int32) q13.2).bind fun q14 => some q14) else (if gx_ib ((((36 : Int32) * (V (x0 + 6) (V x0 19).toNatClampNeg)) + (27 : Int32)) + q12.1) 576 then ((F_Mod_push x0 (q13.2 (x0 + 1) ((((36 : Int32) * (V (x0 + 6) (V x0 19).toNatClampNeg)) + (27 : Int32)) + q12.1).toNatClampNeg) q13.2).bind fun q15 => some q15) else none)))) else (if x1 = (15 : Int32) then ((F_Mod_pop x0 V).bind fun q10 => ((F_Mod_pop x0 q10.2).bind fun q11 => (if gx_ib ((((36 : Int32) * (V (x0 + 6) (V x0 19).toNatClampNeg)) + (27 : Int32)) + q10.1) 576 then (if (q11.2 (x0 + 1) ((((36 : Int32) * (V (x0 + 6) (V x0 19).toNatClampNeg)) + (27 : Int32)) + q10.1).toNatClampNeg) = 0 then (F_Mod_hold_108   x0 (V (x0 + 6) (V x0 19).toNatClampNeg) q10.1 q11.1 (q11.2 x0 2) x0 q11.2) else (if q11.1 = 0 then (F_Mod_hold_109   x0 (V (x0 + 6) (V x0 19).toNatClampNeg) q10.1 q11.1 (15 : Int32) (q11.2 x0 2) x0 q11.2) else (F_Mod_hold_108   x0 (V (x0 + 6) (V x0 19).toNatClampNeg) q10.1 q11.1 (q11.2 x0 2) x0 q11.2))) else none))) else (if x1 = (16 : Int32) then ((F_Mod_pop x0 V).bind fun q6 => ((F_Mod_in q6.1 (16 : Int32) q6.2).bind fun q7 => (if q7.1 = 0 then ((F_Mod_push x0 (0 : Int32) q7.2).bind fun q8 => some q8) else (if gx_ib ((36 : Int32) * q6.1) 576 then ((F_Mod_push x0 (q7.2 (x0 + 1) ((36 : Int32) * q6.1).toNatClampNeg) q7.2).bind fun q9 => some q9) else none)))) else (if x1 = (17 : Int32) then ((F_Mod_push x0 (V (x0 + 6) (V x0 19).toNatClampNeg) V).bind fun q5 => some q5) else (if x1 = (18 : Int32) then (if gx_ib (V x0 19) 8 then ((F_Mod_push x0 (V (x0 + 9) (V x0 19).toNatClampNeg) V).bind fun q4 => some q4) else none) else (if x1 = (19 : Int32) then (if gx_ib (V x0 19) 8 then ((F_Mod_push x0 (V (x0 + 10) (V x0 19).toNatClampNeg) V).bind fun q3 => some q3) else none) else (if x1 = (20 : Int32) then (if gx_ib (V x0 19) 8 then ((F_Mod_push x0 (V (x0 + 11) (V x0 19).toNatClampNeg) V).bind fun q2 => some q2) else none) else (if gx_ib (V x0 19) 8 then ((F_Mod_push x0 (V (x0 + 12) (V x0 19).toNatClampNeg) V).bind fun q1 => some q1) else none)))))))) else none)
set_option maxRecDepth 100000 in
set_option maxHeartbeats 8000000 in
theorem k_Mod_hold (l : Launch) (dC : Nat → ClassId) (dI : Nat → Nat → Nat) (cI cR cZ : ClassId) (b tP tN : Nat) {x0 : Nat} {x1 : Int32} {V : gx_M} {q : gx_M} (hk0 : mx_kd x0 = 6) (h : F_Mod_hold x0 x1 V = some q) : mx_C l dC dI cI cR cZ b tP tN y_Mod_hold w_Mod_hold rm_Mod_hold [.ref (b + x0), .int x1] V none q := by
  refine gx_start (cc := b_Mod_hold) (maxL := 6) (ret := rt_Mod_hold) (by decide) rfl (Nat.le_of_ble_eq_true rfl) ?_
  intro p e s m args below meth c ls hx hb hr hts hown hlk hml hl hP hK hX hS
  have hts : ∀ w ∈ cx_tb, w.before args s = true := fun w hw => hts w (List.mem_cons_of_mem _ hw)
  have hown : s.vm.findClass "GasLedgerModel" = some m.cls := hown
  have hl : lv_has ls 6 [(0, .ref (b + x0)), (1, .int x1)] := hl
  have B_109 : ∀ (x0 : Nat) (x2 : Int32) (x3 : Int32) (x4 : Int32) (s0 : Int32) (s1 : Int32) (s2 : Nat), mx_kd x0 = 6 → mx_kd s2 = 6 → ∀ (V : gx_M) (H : Heap) (locs : List Loc) (ls : Array Slot), lv_has ls 6 [(0, .ref (b + x0)), (2, .int x2), (3, .int x3), (4, .int x4)] → va_P (dC, dI) cx_cl (gx_w b 22 (gx_v (mx_sh cI cZ b) V)) H → va_S (gx_A b 22) s.heap H locs → F_Mod_hold_109 x0 x2 x3 x4 s0 s1 s2 V = some q → W p l e (headSpec w_Mod_hold rm_Mod_hold).room s m args below meth c H locs 0 0 (MQ below (gx_Q (dC, dI) cx_cl b 22 (mx_sh cI cZ b) none q) args s 0 0 (gx_A b 22)) (F0 m 109 ls [.int s0, .int s1, .ref (b + s2)]) := by
    intro x0 x2 x3 x4 s0 s1 s2 hk_x0 hk_s2 V H locs ls hl hP hS h
    unfold F_Mod_hold_109 at h
    refine lv_iadd (pc := 109) hx hb d_Mod_hold_109 ?_
    obtain ⟨V1, g1, h⟩ := gx_lt h
    refine gy_put (pc := 110) (D := (dC, dI)) (ci := 6) (C := R_Mod) (T := T_Mod) (NF := 39) (ty := .int) hx hb hts in_Mod t_Mod ty_Mod nm_Mod hown hK hP hS s2 (mx_lt hk_s2 (by decide)) (sh_Mod cI cZ b hk_s2 _) rfl 2 (by decide) (hts _ tb_603) (fun _ h9 => h9) rfl (by decide +kernel) rfl rfl (Nat.le_of_ble_eq_true rfl) 2 (sh_Mod cI cZ b hk_s2 _) d_Mod_hold_110 g1 (fun H locs hP hS => ?_)
    refine lv_aload_n (pc := 113) hx hb d_Mod_hold_113 rfl (lv_at hl 0 rfl) ?_
    refine va_get (pc := 114) (D := (dC, dI)) (ci := 6) (C := R_Mod) (T := T_Mod) (N := 39) hx hb hts in_Mod hown hK hP x0 (gx_at (mx_lt hk_x0 (by decide)) (sh_Mod cI cZ b hk_x0 _)) rfl 0 (by decide) (hts _ tb_601) (fun _ h9 => h9) rfl d_Mod_hold_114 ?_
    refine lv_bipush (pc := 117) (v := (36 : Int32)) hx hb d_Mod_hold_117 (by decide) ?_
    refine lv_iload_n (pc := 119) hx hb d_Mod_hold_119 rfl (lv_at hl 1 rfl) ?_
    refine lv_imul (pc := 120) hx hb d_Mod_hold_120 ?_
    refine lv_bipush (pc := 121) (v := (27 : Int32)) hx hb d_Mod_hold_121 (by decide) ?_
    refine lv_iadd (pc := 123) hx hb d_Mod_hold_123 ?_
    refine lv_iload_n (pc := 124) hx hb d_Mod_hold_124 rfl (lv_at hl 2 rfl) ?_
    refine lv_iadd (pc := 125) hx hb d_Mod_hold_125 ?_
    refine lv_iload (pc := 126) hx hb d_Mod_hold_126 (lv_at hl 3 rfl) ?_
    obtain ⟨g2, h⟩ := gx_if h
    obtain ⟨V2, g3, h⟩ := gx_lt h
    refine gx_asi (pc := 128) hx hb hK hP hS (x0 + 1) 0 (mx_lt (to_Mod_now hk_x0) (by decide)) (fun _ => mh_arr cI cZ b (n := 576) (to_Mod_now hk_x0) (by decide) _) rfl g2 d_Mod_hold_128 g3 (fun H locs hP hS => ?_)
    refine lv_goto (pc := 129) (tgt := 249) hx hb d_Mod_hold_129 (by decide) ?_
    exact gx_vret hx hb hr hlk hP hS d_Mod_hold_249 (by cases h; rfl) (by cases h; rfl)
  have B_108 : ∀ (x0 : Nat) (x2 : Int32) (x3 : Int32) (x4 : Int32) (s0 : Int32) (s1 : Nat), mx_kd x0 = 6 → mx_kd s1 = 6 → ∀ (V : gx_M) (H : Heap) (locs : List Loc) (ls : Array Slot), lv_has ls 6 [(0, .ref (b + x0)), (2, .int x2), (3, .int x3), (4, .int x4)] → va_P (dC, dI) cx_cl (gx_w b 22 (gx_v (mx_sh cI cZ b) V)) H → va_S (gx_A b 22) s.heap H locs → F_Mod_hold_108 x0 x2 x3 x4 s0 s1 V = some q → W p l e (headSpec w_Mod_hold rm_Mod_hold).room s m args below meth c H locs 0 0 (MQ below (gx_Q (dC, dI) cx_cl b 22 (mx_sh cI cZ b) none q) args s 0 0 (gx_A b 22)) (F0 m 108 ls [.int s0, .ref (b + s1)]) := by
    intro x0 x2 x3 x4 s0 s1 hk_x0 hk_s1 V H locs ls hl hP hS h
    unfold F_Mod_hold_108 at h
    refine lv_iconst (pc := 108) (v := (0 : Int32)) hx hb d_Mod_hold_108 (by decide) ?_
    exact B_109   _ _ _ _ _ _ _ hk_x0 hk_s1 _ _ _ _ (lv_sub hl [0, 1, 2, 3] rfl) hP hS h
  unfold F_Mod_hold at h
  refine lv_aload_n (pc := 0) hx hb d_Mod_hold_0 rfl (lv_at hl 0 rfl) ?_
  refine va_get (pc := 1) (D := (dC, dI)) (ci := 6) (C := R_Mod) (T := T_Mod) (N := 39) hx hb hts in_Mod hown hK hP x0 (gx_at (mx_lt hk0 (by decide)) (sh_Mod cI cZ b hk0 _)) rfl 20 (by decide) (hts _ tb_621) (fun _ h9 => h9) rfl d_Mod_hold_1 ?_
  refine lv_aload_n (pc := 4) hx hb d_Mod_hold_4 rfl (lv_at hl 0 rfl) ?_
  refine va_get (pc := 5) (D := (dC, dI)) (ci := 6) (C := R_Mod) (T := T_Mod) (N := 39) hx hb hts in_Mod hown hK hP x0 (gx_at (mx_lt hk0 (by decide)) (sh_Mod cI cZ b hk0 _)) rfl 19 (by decide) (hts _ tb_620) (fun _ h9 => h9) rfl d_Mod_hold_5 ?_
  obtain ⟨g4, h⟩ := gx_if h
  refine va_iald (pc := 8) hx hb hK hP (x0 + 6) 0 (gx_at (mx_lt (to_Mod_self hk0) (by decide)) (mh_arr cI cZ b (n := 8) (to_Mod_self hk0) (by decide) _)) rfl g4 d_Mod_hold_8 ?_
  refine lv_istore_n (pc := 9) (lv' := [(2, .int (V (x0 + 6) (V x0 19).toNatClampNeg)), (0, .ref (b + x0)), (1, .int x1)]) hx hb d_Mod_hold_9 rfl hl (by decide) rfl (fun ls hl => ?_)
  refine lv_iload_n (pc := 10) hx hb d_Mod_hold_10 rfl (lv_at hl 2 rfl) ?_
  refine lv_bipush (pc := 11) (v := (14 : Int32)) hx hb d_Mod_hold_11 (by decide) ?_
  refine lv_icmp_ne (pc := 13) (tgt := 55) hx hb d_Mod_hold_13 (by decide) (fun g5 => ?_) (fun g5 => ?_)
  · have h := gx_neg g5 h
    refine lv_iload_n (pc := 55) hx hb d_Mod_hold_55 rfl (lv_at hl 2 rfl) ?_
    refine lv_bipush (pc := 56) (v := (15 : Int32)) hx hb d_Mod_hold_56 (by decide) ?_
    refine lv_icmp_ne (pc := 58) (tgt := 132) hx hb d_Mod_hold_58 (by decide) (fun g6 => ?_) (fun g6 => ?_)
    · have h := gx_neg g6 h
      refine lv_iload_n (pc := 132) hx hb d_Mod_hold_132 rfl (lv_at hl 2 rfl) ?_
      refine lv_bipush (pc := 133) (v := (16 : Int32)) hx hb d_Mod_hold_133 (by decide) ?_
      refine lv_icmp_ne (pc := 135) (tgt := 172) hx hb d_Mod_hold_135 (by decide) (fun g7 => ?_) (fun g7 => ?_)
      · have h := gx_neg g7 h
        refine lv_aload_n (pc := 172) hx hb d_Mod_hold_172 rfl (lv_at hl 1 rfl) ?_
        refine lv_iload_n (pc := 173) hx hb d_Mod_hold_173 rfl (lv_at hl 2 rfl) ?_
        refine lv_bipush (pc := 174) (v := (17 : Int32)) hx hb d_Mod_hold_174 (by decide) ?_
        refine lv_icmp_ne (pc := 176) (tgt := 183) hx hb d_Mod_hold_176 (by decide) (fun g8 => ?_) (fun g8 => ?_)
        · have h := gx_neg g8 h
          refine lv_iload_n (pc := 183) hx hb d_Mod_hold_183 rfl (lv_at hl 2 rfl) ?_
          refine lv_bipush (pc := 184) (v := (18 : Int32)) hx hb d_Mod_hold_184 (by decide) ?_
          refine lv_icmp_ne (pc := 186) (tgt := 201) hx hb d_Mod_hold_186 (by decide) (fun g9 => ?_) (fun g9 => ?_)
          · have h := gx_neg g9 h
            refine lv_iload_n (pc := 201) hx hb d_Mod_hold_201 rfl (lv_at hl 2 rfl) ?_
            refine lv_bipush (pc := 202) (v := (19 : Int32)) hx hb d_Mod_hold_202 (by decide) ?_
            refine lv_icmp_ne (pc := 204) (tgt := 219) hx hb d_Mod_hold_204 (by decide) (fun g10 => ?_) (fun g10 => ?_)
            · have h := gx_neg g10 h
              refine lv_iload_n (pc := 219) hx hb d_Mod_hold_219 rfl (lv_at hl 2 rfl) ?_
              refine lv_bipush (pc := 220) (v := (20 : Int32)) hx hb d_Mod_hold_220 (by decide) ?_
              refine lv_icmp_ne (pc := 222) (tgt := 237) hx hb d_Mod_hold_222 (by decide) (fun g11 => ?_) (fun g11 => ?_)
              · have h := gx_neg g11 h
                refine lv_aload_n (pc := 237) hx hb d_Mod_hold_237 rfl (lv_at hl 1 rfl) ?_
                refine va_get (pc := 238) (D := (dC, dI)) (ci := 6) (C := R_Mod) (T := T_Mod) (N := 39) hx hb hts in_Mod hown hK hP x0 (gx_at (mx_lt hk0 (by decide)) (sh_Mod cI cZ b hk0 _)) rfl 26 (by decide) (hts _ tb_627) (fun _ h9 => h9) rfl d_Mod_hold_238 ?_
                refine lv_aload_n (pc := 241) hx hb d_Mod_hold_241 rfl (lv_at hl 1 rfl) ?_
                refine va_get (pc := 242) (D := (dC, dI)) (ci := 6) (C := R_Mod) (T := T_Mod) (N := 39) hx hb hts in_Mod hown hK hP x0 (gx_at (mx_lt hk0 (by decide)) (sh_Mod cI cZ b hk0 _)) rfl 19 (by decide) (hts _ tb_620) (fun _ h9 => h9) rfl d_Mod_hold_242 ?_
                obtain ⟨g12, h⟩ := gx_if h
                refine va_iald (pc := 245) hx hb hK hP (x0 + 12) 0 (gx_at (mx_lt (to_Mod_gas hk0) (by decide)) (mh_arr cI cZ b (n := 8) (to_Mod_gas hk0) (by decide) _)) rfl g12 d_Mod_hold_245 ?_
                obtain ⟨q1, g13, h⟩ := gx_bd h
                refine gx_cv (pc := 246) (va_runV (C := "GasLedgerModel") (As := [.int (V (x0 + 12) (V x0 19).toNatClampNeg)]) (rest := []) ⟨hx, hb, hml, hown, hts⟩ (k_Mod_push l dC dI cI cR cZ b tP tN hk0 g13) (gx_cw 1 hts cd_Mod_push tb_50 tb_793 tb_795 tb_30 rfl rfl ⟨by decide, by decide, by decide +kernel⟩ ⟨Nat.le_of_ble_eq_true rfl, Nat.le_of_ble_eq_true rfl⟩) (gy_preV (mx_XX b) hX hK hP hS (mx_lt hk0 (by decide)) (sh_Mod cI cZ b hk0 _) rfl) rfl rfl hl.1 rfl (lv_room (Nat.le_of_ble_eq_true rfl)) d_Mod_hold_246 ⟨Nat.zero_le _, Nat.zero_le _⟩) hS (fun H locs hP hS => ?_)
                exact gx_vret hx hb hr hlk hP hS d_Mod_hold_249 (by cases h; rfl) (by cases h; rfl)
              · have h := gx_pos g11 h
                refine lv_aload_n (pc := 225) hx hb d_Mod_hold_225 rfl (lv_at hl 1 rfl) ?_
                refine va_get (pc := 226) (D := (dC, dI)) (ci := 6) (C := R_Mod) (T := T_Mod) (N := 39) hx hb hts in_Mod hown hK hP x0 (gx_at (mx_lt hk0 (by decide)) (sh_Mod cI cZ b hk0 _)) rfl 25 (by decide) (hts _ tb_626) (fun _ h9 => h9) rfl d_Mod_hold_226 ?_
                refine lv_aload_n (pc := 229) hx hb d_Mod_hold_229 rfl (lv_at hl 1 rfl) ?_
                refine va_get (pc := 230) (D := (dC, dI)) (ci := 6) (C := R_Mod) (T := T_Mod) (N := 39) hx hb hts in_Mod hown hK hP x0 (gx_at (mx_lt hk0 (by decide)) (sh_Mod cI cZ b hk0 _)) rfl 19 (by decide) (hts _ tb_620) (fun _ h9 => h9) rfl d_Mod_hold_230 ?_
                obtain ⟨g14, h⟩ := gx_if h
                refine va_iald (pc := 233) hx hb hK hP (x0 + 11) 0 (gx_at (mx_lt (to_Mod_input hk0) (by decide)) (mh_arr cI cZ b (n := 8) (to_Mod_input hk0) (by decide) _)) rfl g14 d_Mod_hold_233 ?_
                refine lv_goto (pc := 234) (tgt := 246) hx hb d_Mod_hold_234 (by decide) ?_
                obtain ⟨q2, g15, h⟩ := gx_bd h
                refine gx_cv (pc := 246) (va_runV (C := "GasLedgerModel") (As := [.int (V (x0 + 11) (V x0 19).toNatClampNeg)]) (rest := []) ⟨hx, hb, hml, hown, hts⟩ (k_Mod_push l dC dI cI cR cZ b tP tN hk0 g15) (gx_cw 1 hts cd_Mod_push tb_50 tb_793 tb_795 tb_30 rfl rfl ⟨by decide, by decide, by decide +kernel⟩ ⟨Nat.le_of_ble_eq_true rfl, Nat.le_of_ble_eq_true rfl⟩) (gy_preV (mx_XX b) hX hK hP hS (mx_lt hk0 (by decide)) (sh_Mod cI cZ b hk0 _) rfl) rfl rfl hl.1 rfl (lv_room (Nat.le_of_ble_eq_true rfl)) d_Mod_hold_246 ⟨Nat.zero_le _, Nat.zero_le _⟩) hS (fun H locs hP hS => ?_)
                exact gx_vret hx hb hr hlk hP hS d_Mod_hold_249 (by cases h; rfl) (by cases h; rfl)
            · have h := gx_pos g10 h
              refine lv_aload_n (pc := 207) hx hb d_Mod_hold_207 rfl (lv_at hl 1 rfl) ?_
              refine va_get (pc := 208) (D := (dC, dI)) (ci := 6) (C := R_Mod) (T := T_Mod) (N := 39) hx hb hts in_Mod hown hK hP x0 (gx_at (mx_lt hk0 (by decide)) (sh_Mod cI cZ b hk0 _)) rfl 24 (by decide) (hts _ tb_625) (fun _ h9 => h9) rfl d_Mod_hold_208 ?_
              refine lv_aload_n (pc := 211) hx hb d_Mod_hold_211 rfl (lv_at hl 1 rfl) ?_
              refine va_get (pc := 212) (D := (dC, dI)) (ci := 6) (C := R_Mod) (T := T_Mod) (N := 39) hx hb hts in_Mod hown hK hP x0 (gx_at (mx_lt hk0 (by decide)) (sh_Mod cI cZ b hk0 _)) rfl 19 (by decide) (hts _ tb_620) (fun _ h9 => h9) rfl d_Mod_hold_212 ?_
              obtain ⟨g16, h⟩ := gx_if h
              refine va_iald (pc := 215) hx hb hK hP (x0 + 10) 0 (gx_at (mx_lt (to_Mod_value hk0) (by decide)) (mh_arr cI cZ b (n := 8) (to_Mod_value hk0) (by decide) _)) rfl g16 d_Mod_hold_215 ?_
              refine lv_goto (pc := 216) (tgt := 246) hx hb d_Mod_hold_216 (by decide) ?_
              obtain ⟨q3, g17, h⟩ := gx_bd h
              refine gx_cv (pc := 246) (va_runV (C := "GasLedgerModel") (As := [.int (V (x0 + 10) (V x0 19).toNatClampNeg)]) (rest := []) ⟨hx, hb, hml, hown, hts⟩ (k_Mod_push l dC dI cI cR cZ b tP tN hk0 g17) (gx_cw 1 hts cd_Mod_push tb_50 tb_793 tb_795 tb_30 rfl rfl ⟨by decide, by decide, by decide +kernel⟩ ⟨Nat.le_of_ble_eq_true rfl, Nat.le_of_ble_eq_true rfl⟩) (gy_preV (mx_XX b) hX hK hP hS (mx_lt hk0 (by decide)) (sh_Mod cI cZ b hk0 _) rfl) rfl rfl hl.1 rfl (lv_room (Nat.le_of_ble_eq_true rfl)) d_Mod_hold_246 ⟨Nat.zero_le _, Nat.zero_le _⟩) hS (fun H locs hP hS => ?_)
              exact gx_vret hx hb hr hlk hP hS d_Mod_hold_249 (by cases h; rfl) (by cases h; rfl)
          · have h := gx_pos g9 h
            refine lv_aload_n (pc := 189) hx hb d_Mod_hold_189 rfl (lv_at hl 1 rfl) ?_
            refine va_get (pc := 190) (D := (dC, dI)) (ci := 6) (C := R_Mod) (T := T_Mod) (N := 39) hx hb hts in_Mod hown hK hP x0 (gx_at (mx_lt hk0 (by decide)) (sh_Mod cI cZ b hk0 _)) rfl 23 (by decide) (hts _ tb_624) (fun _ h9 => h9) rfl d_Mod_hold_190 ?_
            refine lv_aload_n (pc := 193) hx hb d_Mod_hold_193 rfl (lv_at hl 1 rfl) ?_
            refine va_get (pc := 194) (D := (dC, dI)) (ci := 6) (C := R_Mod) (T := T_Mod) (N := 39) hx hb hts in_Mod hown hK hP x0 (gx_at (mx_lt hk0 (by decide)) (sh_Mod cI cZ b hk0 _)) rfl 19 (by decide) (hts _ tb_620) (fun _ h9 => h9) rfl d_Mod_hold_194 ?_
            obtain ⟨g18, h⟩ := gx_if h
            refine va_iald (pc := 197) hx hb hK hP (x0 + 9) 0 (gx_at (mx_lt (to_Mod_caller hk0) (by decide)) (mh_arr cI cZ b (n := 8) (to_Mod_caller hk0) (by decide) _)) rfl g18 d_Mod_hold_197 ?_
            refine lv_goto (pc := 198) (tgt := 246) hx hb d_Mod_hold_198 (by decide) ?_
            obtain ⟨q4, g19, h⟩ := gx_bd h
            refine gx_cv (pc := 246) (va_runV (C := "GasLedgerModel") (As := [.int (V (x0 + 9) (V x0 19).toNatClampNeg)]) (rest := []) ⟨hx, hb, hml, hown, hts⟩ (k_Mod_push l dC dI cI cR cZ b tP tN hk0 g19) (gx_cw 1 hts cd_Mod_push tb_50 tb_793 tb_795 tb_30 rfl rfl ⟨by decide, by decide, by decide +kernel⟩ ⟨Nat.le_of_ble_eq_true rfl, Nat.le_of_ble_eq_true rfl⟩) (gy_preV (mx_XX b) hX hK hP hS (mx_lt hk0 (by decide)) (sh_Mod cI cZ b hk0 _) rfl) rfl rfl hl.1 rfl (lv_room (Nat.le_of_ble_eq_true rfl)) d_Mod_hold_246 ⟨Nat.zero_le _, Nat.zero_le _⟩) hS (fun H locs hP hS => ?_)
            exact gx_vret hx hb hr hlk hP hS d_Mod_hold_249 (by cases h; rfl) (by cases h; rfl)
        · have h := gx_pos g8 h
          refine lv_iload_n (pc := 179) hx hb d_Mod_hold_179 rfl (lv_at hl 0 rfl) ?_
          refine lv_goto (pc := 180) (tgt := 246) hx hb d_Mod_hold_180 (by decide) ?_
          obtain ⟨q5, g20, h⟩ := gx_bd h
          refine gx_cv (pc := 246) (va_runV (C := "GasLedgerModel") (As := [.int (V (x0 + 6) (V x0 19).toNatClampNeg)]) (rest := []) ⟨hx, hb, hml, hown, hts⟩ (k_Mod_push l dC dI cI cR cZ b tP tN hk0 g20) (gx_cw 1 hts cd_Mod_push tb_50 tb_793 tb_795 tb_30 rfl rfl ⟨by decide, by decide, by decide +kernel⟩ ⟨Nat.le_of_ble_eq_true rfl, Nat.le_of_ble_eq_true rfl⟩) (gy_preV (mx_XX b) hX hK hP hS (mx_lt hk0 (by decide)) (sh_Mod cI cZ b hk0 _) rfl) rfl rfl hl.1 rfl (lv_room (Nat.le_of_ble_eq_true rfl)) d_Mod_hold_246 ⟨Nat.zero_le _, Nat.zero_le _⟩) hS (fun H locs hP hS => ?_)
          exact gx_vret hx hb hr hlk hP hS d_Mod_hold_249 (by cases h; rfl) (by cases h; rfl)
      · have h := gx_pos g7 h
        refine lv_aload_n (pc := 138) hx hb d_Mod_hold_138 rfl (lv_at hl 1 rfl) ?_
        obtain ⟨q6, g21, h⟩ := gx_bd h
        refine gx_ci (pc := 139) (va_runV (C := "GasLedgerModel") (As := []) (rest := []) ⟨hx, hb, hml, hown, hts⟩ (k_Mod_pop l dC dI cI cR cZ b tP tN hk0 g21) (gx_cw 0 hts cd_Mod_pop tb_50 tb_819 tb_821 tb_35 rfl rfl ⟨by decide, by decide, by decide +kernel⟩ ⟨Nat.le_of_ble_eq_true rfl, Nat.le_of_ble_eq_true rfl⟩) (gy_preV (mx_XX b) hX hK hP hS (mx_lt hk0 (by decide)) (sh_Mod cI cZ b hk0 _) rfl) rfl rfl hl.1 rfl (lv_room (Nat.le_of_ble_eq_true rfl)) d_Mod_hold_139 ⟨Nat.zero_le _, Nat.zero_le _⟩) hS (fun H locs hP hS => ?_)
        refine lv_istore_n (pc := 142) (lv' := [(3, .int q6.1), (2, .int (V (x0 + 6) (V x0 19).toNatClampNeg)), (0, .ref (b + x0)), (1, .int x1)]) hx hb d_Mod_hold_142 rfl hl (by decide) rfl (fun ls hl => ?_)
        refine lv_aload_n (pc := 143) hx hb d_Mod_hold_143 rfl (lv_at hl 2 rfl) ?_
        refine lv_iload_n (pc := 144) hx hb d_Mod_hold_144 rfl (lv_at hl 0 rfl) ?_
        refine lv_bipush (pc := 145) (v := (16 : Int32)) hx hb d_Mod_hold_145 (by decide) ?_
        obtain ⟨q7, g22, h⟩ := gx_bd h
        refine gx_ci (pc := 147) (va_runS (As := [.int q6.1, .int (16 : Int32)]) (rest := [.ref (b + x0)]) ⟨hx, hb, hml, hown, hts⟩ (k_Mod_in l dC dI cI cR cZ b tP tN  g22) (gx_cs 2 hts cd_Mod_in tb_50 tb_724 tb_725 rfl rfl ⟨by decide, by decide, by decide +kernel⟩ ⟨Nat.le_of_ble_eq_true rfl, Nat.le_of_ble_eq_true rfl⟩) (gy_pre (mx_XX b) hX hK hP hS) rfl rfl hl.1 rfl (lv_room (Nat.le_of_ble_eq_true rfl)) d_Mod_hold_147 ⟨Nat.zero_le _, Nat.zero_le _⟩) hS (fun H locs hP hS => ?_)
        refine lv_if_eq (pc := 150) (tgt := 165) hx hb d_Mod_hold_150 (by decide) (fun g23 => ?_) (fun g23 => ?_)
        · have h := gx_pos g23 h
          refine lv_iconst (pc := 165) (v := (0 : Int32)) hx hb d_Mod_hold_165 (by decide) ?_
          obtain ⟨q8, g24, h⟩ := gx_bd h
          refine gx_cv (pc := 166) (va_runV (C := "GasLedgerModel") (As := [.int (0 : Int32)]) (rest := []) ⟨hx, hb, hml, hown, hts⟩ (k_Mod_push l dC dI cI cR cZ b tP tN hk0 g24) (gx_cw 1 hts cd_Mod_push tb_50 tb_793 tb_795 tb_30 rfl rfl ⟨by decide, by decide, by decide +kernel⟩ ⟨Nat.le_of_ble_eq_true rfl, Nat.le_of_ble_eq_true rfl⟩) (gy_preV (mx_XX b) hX hK hP hS (mx_lt hk0 (by decide)) (sh_Mod cI cZ b hk0 _) rfl) rfl rfl hl.1 rfl (lv_room (Nat.le_of_ble_eq_true rfl)) d_Mod_hold_166 ⟨Nat.zero_le _, Nat.zero_le _⟩) hS (fun H locs hP hS => ?_)
          refine lv_goto (pc := 169) (tgt := 249) hx hb d_Mod_hold_169 (by decide) ?_
          exact gx_vret hx hb hr hlk hP hS d_Mod_hold_249 (by cases h; rfl) (by cases h; rfl)
        · have h := gx_neg g23 h
          refine lv_aload_n (pc := 153) hx hb d_Mod_hold_153 rfl (lv_at hl 2 rfl) ?_
          refine va_get (pc := 154) (D := (dC, dI)) (ci := 6) (C := R_Mod) (T := T_Mod) (N := 39) hx hb hts in_Mod hown hK hP x0 (gx_at (mx_lt hk0 (by decide)) (sh_Mod cI cZ b hk0 _)) rfl 0 (by decide) (hts _ tb_601) (fun _ h9 => h9) rfl d_Mod_hold_154 ?_
          refine lv_bipush (pc := 157) (v := (36 : Int32)) hx hb d_Mod_hold_157 (by decide) ?_
          refine lv_iload_n (pc := 159) hx hb d_Mod_hold_159 rfl (lv_at hl 0 rfl) ?_
          refine lv_imul (pc := 160) hx hb d_Mod_hold_160 ?_
          obtain ⟨g25, h⟩ := gx_if h
          refine va_iald (pc := 161) hx hb hK hP (x0 + 1) 0 (gx_at (mx_lt (to_Mod_now hk0) (by decide)) (mh_arr cI cZ b (n := 576) (to_Mod_now hk0) (by decide) _)) rfl g25 d_Mod_hold_161 ?_
          refine lv_goto (pc := 162) (tgt := 166) hx hb d_Mod_hold_162 (by decide) ?_
          obtain ⟨q9, g26, h⟩ := gx_bd h
          refine gx_cv (pc := 166) (va_runV (C := "GasLedgerModel") (As := [.int (q7.2 (x0 + 1) ((36 : Int32) * q6.1).toNatClampNeg)]) (rest := []) ⟨hx, hb, hml, hown, hts⟩ (k_Mod_push l dC dI cI cR cZ b tP tN hk0 g26) (gx_cw 1 hts cd_Mod_push tb_50 tb_793 tb_795 tb_30 rfl rfl ⟨by decide, by decide, by decide +kernel⟩ ⟨Nat.le_of_ble_eq_true rfl, Nat.le_of_ble_eq_true rfl⟩) (gy_preV (mx_XX b) hX hK hP hS (mx_lt hk0 (by decide)) (sh_Mod cI cZ b hk0 _) rfl) rfl rfl hl.1 rfl (lv_room (Nat.le_of_ble_eq_true rfl)) d_Mod_hold_166 ⟨Nat.zero_le _, Nat.zero_le _⟩) hS (fun H locs hP hS => ?_)
          refine lv_goto (pc := 169) (tgt := 249) hx hb d_Mod_hold_169 (by decide) ?_
          exact gx_vret hx hb hr hlk hP hS d_Mod_hold_249 (by cases h; rfl) (by cases h; rfl)
    · have h := gx_pos g6 h
      refine lv_aload_n (pc := 61) hx hb d_Mod_hold_61 rfl (lv_at hl 1 rfl) ?_
      obtain ⟨q10, g27, h⟩ := gx_bd h
      refine gx_ci (pc := 62) (va_runV (C := "GasLedgerModel") (As := []) (rest := []) ⟨hx, hb, hml, hown, hts⟩ (k_Mod_pop l dC dI cI cR cZ b tP tN hk0 g27) (gx_cw 0 hts cd_Mod_pop tb_50 tb_819 tb_821 tb_35 rfl rfl ⟨by decide, by decide, by decide +kernel⟩ ⟨Nat.le_of_ble_eq_true rfl, Nat.le_of_ble_eq_true rfl⟩) (gy_preV (mx_XX b) hX hK hP hS (mx_lt hk0 (by decide)) (sh_Mod cI cZ b hk0 _) rfl) rfl rfl hl.1 rfl (lv_room (Nat.le_of_ble_eq_true rfl)) d_Mod_hold_62 ⟨Nat.zero_le _, Nat.zero_le _⟩) hS (fun H locs hP hS => ?_)
      refine lv_istore_n (pc := 65) (lv' := [(3, .int q10.1), (2, .int (V (x0 + 6) (V x0 19).toNatClampNeg)), (0, .ref (b + x0)), (1, .int x1)]) hx hb d_Mod_hold_65 rfl hl (by decide) rfl (fun ls hl => ?_)
      refine lv_aload_n (pc := 66) hx hb d_Mod_hold_66 rfl (lv_at hl 2 rfl) ?_
      obtain ⟨q11, g28, h⟩ := gx_bd h
      refine gx_ci (pc := 67) (va_runV (C := "GasLedgerModel") (As := []) (rest := []) ⟨hx, hb, hml, hown, hts⟩ (k_Mod_pop l dC dI cI cR cZ b tP tN hk0 g28) (gx_cw 0 hts cd_Mod_pop tb_50 tb_819 tb_821 tb_35 rfl rfl ⟨by decide, by decide, by decide +kernel⟩ ⟨Nat.le_of_ble_eq_true rfl, Nat.le_of_ble_eq_true rfl⟩) (gy_preV (mx_XX b) hX hK hP hS (mx_lt hk0 (by decide)) (sh_Mod cI cZ b hk0 _) rfl) rfl rfl hl.1 rfl (lv_room (Nat.le_of_ble_eq_true rfl)) d_Mod_hold_67 ⟨Nat.zero_le _, Nat.zero_le _⟩) hS (fun H locs hP hS => ?_)
      refine lv_istore (pc := 70) (lv' := [(4, .int q11.1), (3, .int q10.1), (2, .int (V (x0 + 6) (V x0 19).toNatClampNeg)), (0, .ref (b + x0)), (1, .int x1)]) hx hb d_Mod_hold_70 hl (by decide) rfl (fun ls hl => ?_)
      refine lv_aload_n (pc := 72) hx hb d_Mod_hold_72 rfl (lv_at hl 3 rfl) ?_
      refine va_get (pc := 73) (D := (dC, dI)) (ci := 6) (C := R_Mod) (T := T_Mod) (N := 39) hx hb hts in_Mod hown hK hP x0 (gx_at (mx_lt hk0 (by decide)) (sh_Mod cI cZ b hk0 _)) rfl 0 (by decide) (hts _ tb_601) (fun _ h9 => h9) rfl d_Mod_hold_73 ?_
      refine lv_bipush (pc := 76) (v := (36 : Int32)) hx hb d_Mod_hold_76 (by decide) ?_
      refine lv_iload_n (pc := 78) hx hb d_Mod_hold_78 rfl (lv_at hl 2 rfl) ?_
      refine lv_imul (pc := 79) hx hb d_Mod_hold_79 ?_
      refine lv_bipush (pc := 80) (v := (27 : Int32)) hx hb d_Mod_hold_80 (by decide) ?_
      refine lv_iadd (pc := 82) hx hb d_Mod_hold_82 ?_
      refine lv_iload_n (pc := 83) hx hb d_Mod_hold_83 rfl (lv_at hl 1 rfl) ?_
      refine lv_iadd (pc := 84) hx hb d_Mod_hold_84 ?_
      obtain ⟨g29, h⟩ := gx_if h
      refine va_iald (pc := 85) hx hb hK hP (x0 + 1) 0 (gx_at (mx_lt (to_Mod_now hk0) (by decide)) (mh_arr cI cZ b (n := 576) (to_Mod_now hk0) (by decide) _)) rfl g29 d_Mod_hold_85 ?_
      refine lv_istore (pc := 86) (lv' := [(5, .int (q11.2 (x0 + 1) ((((36 : Int32) * (V (x0 + 6) (V x0 19).toNatClampNeg)) + (27 : Int32)) + q10.1).toNatClampNeg)), (4, .int q11.1), (3, .int q10.1), (2, .int (V (x0 + 6) (V x0 19).toNatClampNeg)), (0, .ref (b + x0)), (1, .int x1)]) hx hb d_Mod_hold_86 hl (by decide) rfl (fun ls hl => ?_)
      refine lv_aload_n (pc := 88) hx hb d_Mod_hold_88 rfl (lv_at hl 4 rfl) ?_
      refine lv_dup (pc := 89) hx hb d_Mod_hold_89 rfl ?_
      refine va_get (pc := 90) (D := (dC, dI)) (ci := 6) (C := R_Mod) (T := T_Mod) (N := 39) hx hb hts in_Mod hown hK hP x0 (gx_at (mx_lt hk0 (by decide)) (sh_Mod cI cZ b hk0 _)) rfl 2 (by decide) (hts _ tb_603) (fun _ h9 => h9) rfl d_Mod_hold_90 ?_
      refine lv_iload (pc := 93) hx hb d_Mod_hold_93 (lv_at hl 0 rfl) ?_
      refine lv_if_eq (pc := 95) (tgt := 108) hx hb d_Mod_hold_95 (by decide) (fun g30 => ?_) (fun g30 => ?_)
      · have h := gx_pos g30 h
        exact B_108   _ _ _ _ _ _ hk0 hk0 _ _ _ _ (lv_sub hl [4, 3, 2, 1] rfl) hP hS h
      · have h := gx_neg g30 h
        refine lv_iload (pc := 98) hx hb d_Mod_hold_98 (lv_at hl 1 rfl) ?_
        refine lv_if_ne (pc := 100) (tgt := 108) hx hb d_Mod_hold_100 (by decide) (fun g31 => ?_) (fun g31 => ?_)
        · have h := gx_neg g31 h
          exact B_108   _ _ _ _ _ _ hk0 hk0 _ _ _ _ (lv_sub hl [4, 3, 2, 1] rfl) hP hS h
        · have h := gx_pos g31 h
          refine lv_bipush (pc := 103) (v := (15 : Int32)) hx hb d_Mod_hold_103 (by decide) ?_
          refine lv_goto (pc := 105) (tgt := 109) hx hb d_Mod_hold_105 (by decide) ?_
          exact B_109   _ _ _ _ _ _ _ hk0 hk0 _ _ _ _ (lv_sub hl [4, 3, 2, 1] rfl) hP hS h
  · have h := gx_pos g5 h
    refine lv_aload_n (pc := 16) hx hb d_Mod_hold_16 rfl (lv_at hl 1 rfl) ?_
    obtain ⟨q12, g32, h⟩ := gx_bd h
    refine gx_ci (pc := 17) (va_runV (C := "GasLedgerModel") (As := []) (rest := []) ⟨hx, hb, hml, hown, hts⟩ (k_Mod_pop l dC dI cI cR cZ b tP tN hk0 g32) (gx_cw 0 hts cd_Mod_pop tb_50 tb_819 tb_821 tb_35 rfl rfl ⟨by decide, by decide, by decide +kernel⟩ ⟨Nat.le_of_ble_eq_true rfl, Nat.le_of_ble_eq_true rfl⟩) (gy_preV (mx_XX b) hX hK hP hS (mx_lt hk0 (by decide)) (sh_Mod cI cZ b hk0 _) rfl) rfl rfl hl.1 rfl (lv_room (Nat.le_of_ble_eq_true rfl)) d_Mod_hold_17 ⟨Nat.zero_le _, Nat.zero_le _⟩) hS (fun H locs hP hS => ?_)
    refine lv_istore_n (pc := 20) (lv' := [(3, .int q12.1), (2, .int (V (x0 + 6) (V x0 19).toNatClampNeg)), (0, .ref (b + x0)), (1, .int x1)]) hx hb d_Mod_hold_20 rfl hl (by decide) rfl (fun ls hl => ?_)
    refine lv_aload_n (pc := 21) hx hb d_Mod_hold_21 rfl (lv_at hl 2 rfl) ?_
    refine lv_iload_n (pc := 22) hx hb d_Mod_hold_22 rfl (lv_at hl 0 rfl) ?_
    refine lv_bipush (pc := 23) (v := (8 : Int32)) hx hb d_Mod_hold_23 (by decide) ?_
    obtain ⟨q13, g33, h⟩ := gx_bd h
    refine gx_ci (pc := 25) (va_runS (As := [.int q12.1, .int (8 : Int32)]) (rest := [.ref (b + x0)]) ⟨hx, hb, hml, hown, hts⟩ (k_Mod_in l dC dI cI cR cZ b tP tN  g33) (gx_cs 2 hts cd_Mod_in tb_50 tb_724 tb_725 rfl rfl ⟨by decide, by decide, by decide +kernel⟩ ⟨Nat.le_of_ble_eq_true rfl, Nat.le_of_ble_eq_true rfl⟩) (gy_pre (mx_XX b) hX hK hP hS) rfl rfl hl.1 rfl (lv_room (Nat.le_of_ble_eq_true rfl)) d_Mod_hold_25 ⟨Nat.zero_le _, Nat.zero_le _⟩) hS (fun H locs hP hS => ?_)
    refine lv_if_eq (pc := 28) (tgt := 48) hx hb d_Mod_hold_28 (by decide) (fun g34 => ?_) (fun g34 => ?_)
    · have h := gx_pos g34 h
      refine lv_iconst (pc := 48) (v := (0 : Int32)) hx hb d_Mod_hold_48 (by decide) ?_
      obtain ⟨q14, g35, h⟩ := gx_bd h
      refine gx_cv (pc := 49) (va_runV (C := "GasLedgerModel") (As := [.int (0 : Int32)]) (rest := []) ⟨hx, hb, hml, hown, hts⟩ (k_Mod_push l dC dI cI cR cZ b tP tN hk0 g35) (gx_cw 1 hts cd_Mod_push tb_50 tb_793 tb_795 tb_30 rfl rfl ⟨by decide, by decide, by decide +kernel⟩ ⟨Nat.le_of_ble_eq_true rfl, Nat.le_of_ble_eq_true rfl⟩) (gy_preV (mx_XX b) hX hK hP hS (mx_lt hk0 (by decide)) (sh_Mod cI cZ b hk0 _) rfl) rfl rfl hl.1 rfl (lv_room (Nat.le_of_ble_eq_true rfl)) d_Mod_hold_49 ⟨Nat.zero_le _, Nat.zero_le _⟩) hS (fun H locs hP hS => ?_)
      refine lv_goto (pc := 52) (tgt := 249) hx hb d_Mod_hold_52 (by decide) ?_
      exact gx_vret hx hb hr hlk hP hS d_Mod_hold_249 (by cases h; rfl) (by cases h; rfl)
    · have h := gx_neg g34 h
      refine lv_aload_n (pc := 31) hx hb d_Mod_hold_31 rfl (lv_at hl 2 rfl) ?_
      refine va_get (pc := 32) (D := (dC, dI)) (ci := 6) (C := R_Mod) (T := T_Mod) (N := 39) hx hb hts in_Mod hown hK hP x0 (gx_at (mx_lt hk0 (by decide)) (sh_Mod cI cZ b hk0 _)) rfl 0 (by decide) (hts _ tb_601) (fun _ h9 => h9) rfl d_Mod_hold_32 ?_
      refine lv_bipush (pc := 35) (v := (36 : Int32)) hx hb d_Mod_hold_35 (by decide) ?_
      refine lv_iload_n (pc := 37) hx hb d_Mod_hold_37 rfl (lv_at hl 1 rfl) ?_
      refine lv_imul (pc := 38) hx hb d_Mod_hold_38 ?_
      refine lv_bipush (pc := 39) (v := (27 : Int32)) hx hb d_Mod_hold_39 (by decide) ?_
      refine lv_iadd (pc := 41) hx hb d_Mod_hold_41 ?_
      refine lv_iload_n (pc := 42) hx hb d_Mod_hold_42 rfl (lv_at hl 0 rfl) ?_
      refine lv_iadd (pc := 43) hx hb d_Mod_hold_43 ?_
      obtain ⟨g36, h⟩ := gx_if h
      refine va_iald (pc := 44) hx hb hK hP (x0 + 1) 0 (gx_at (mx_lt (to_Mod_now hk0) (by decide)) (mh_arr cI cZ b (n := 576) (to_Mod_now hk0) (by decide) _)) rfl g36 d_Mod_hold_44 ?_
      refine lv_goto (pc := 45) (tgt := 49) hx hb d_Mod_hold_45 (by decide) ?_
      obtain ⟨q15, g37, h⟩ := gx_bd h
      refine gx_cv (pc := 49) (va_runV (C := "GasLedgerModel") (As := [.int (q13.2 (x0 + 1) ((((36 : Int32) * (V (x0 + 6) (V x0 19).toNatClampNeg)) + (27 : Int32)) + q12.1).toNatClampNeg)]) (rest := []) ⟨hx, hb, hml, hown, hts⟩ (k_Mod_push l dC dI cI cR cZ b tP tN hk0 g37) (gx_cw 1 hts cd_Mod_push tb_50 tb_793 tb_795 tb_30 rfl rfl ⟨by decide, by decide, by decide +kernel⟩ ⟨Nat.le_of_ble_eq_true rfl, Nat.le_of_ble_eq_true rfl⟩) (gy_preV (mx_XX b) hX hK hP hS (mx_lt hk0 (by decide)) (sh_Mod cI cZ b hk0 _) rfl) rfl rfl hl.1 rfl (lv_room (Nat.le_of_ble_eq_true rfl)) d_Mod_hold_49 ⟨Nat.zero_le _, Nat.zero_le _⟩) hS (fun H locs hP hS => ?_)
      refine lv_goto (pc := 52) (tgt := 249) hx hb d_Mod_hold_52 (by decide) ?_
      exact gx_vret hx hb hr hlk hP hS d_Mod_hold_249 (by cases h; rfl) (by cases h; rfl)
