abbrev rm_Led_begin : Room := { frames := 2, cells := 0, slots := 0, locals := 85 }
def F_Led_begin (x0 : Nat) (x1 : Int32) (x2 : Int32) (V : gx_M) : Option (Int32 × gx_M) := (if (V x0 6) = 0 then (if x1 ≤ (V x0 13) then some ((0 : Int32), V) else ((F_Led_isAccount x2 V).bind fun q1 => (if q1.1 = 0 then some ((0 : Int32), q1.2) else (if (q1.2 x0 10) < (30 : Int32) then (gx_let (gx_u q1.2 x0 6 (1 : Int32)) fun V1 => (gx_let (gx_u V1 x0 7 x1) fun V2 => (gx_let (gx_u V2 x0 8 x2) fun V3 => (gx_let (gx_u V3 x0 10 ((V3 x0 10) + (1 : Int32))) fun V4 => (gx_let (gx_u V4 x0 9 (0 : Int32)) fun V5 => (gx_let (gx_u V5 (x0 + 92) 4 (0 : Int32)) fun V6 => ((F_Log_cutBackTo ((x0 + 1) + 8) (0 : Int32) (0 : Int32) V6).bind fun q2 => ((F_Acc_copyFrom (x0 + 85) ((x0 + 1) + 1) q2).bind fun q3 => some ((1 : Int32), q3))))))))) else some ((0 : Int32), q1.2))))) else some ((0 : Int32), V))
set_option maxRecDepth 100000 in
set_option maxHeartbeats 8000000 in
theorem k_Led_begin (l : Launch) (dC : Nat → ClassId) (dI : Nat → Nat → Nat) (cI cR cZ : ClassId) (b tP tN : Nat) {x0 : Nat} {x1 : Int32} {x2 : Int32} {V : gx_M} {q : (Int32 × gx_M)} (hk0 : cx_kd x0 = 5) (h : F_Led_begin x0 x1 x2 V = some q) : cx_C l dC dI cI cR cZ b tP tN y_Led_begin w_Led_begin rm_Led_begin [.ref (b + x0), .int x1, .int x2] V (some (.int q.1)) q.2 := by
  refine gx_start (cc := b_Led_begin) (maxL := 3) (ret := rt_Led_begin) (by decide) rfl (Nat.le_of_ble_eq_true rfl) ?_
  intro p e s m args below meth c ls hx hb hr hts hown hlk hml hl hP hK hX hS
  have hts : ∀ w ∈ cx_tb, w.before args s = true := fun w hw => hts w (List.mem_cons_of_mem _ hw)
  have hown : s.vm.findClass "GasLedger" = some m.cls := hown
  have hl : lv_has ls 3 [(0, .ref (b + x0)), (1, .int x1), (2, .int x2)] := hl
  unfold F_Led_begin at h
  refine lv_aload_n (pc := 0) hx hb d_Led_begin_0 rfl (lv_at hl 0 rfl) ?_
  refine va_get (pc := 1) (D := (dC, dI)) (ci := 5) (C := R_Led) (T := T_Led) (N := 14) hx hb hts in_Led hown hK hP x0 (gx_at (cx_lt hk0 (by decide)) (sh_Led cI cR b hk0 _)) rfl 6 (by decide) (hts _ tb_254) (fun _ h9 => h9) rfl d_Led_begin_1 ?_
  refine lv_if_ne (pc := 4) (tgt := 31) hx hb d_Led_begin_4 (by decide) (fun g1 => ?_) (fun g1 => ?_)
  · have h := gx_neg g1 h
    refine lv_iconst (pc := 31) (v := (0 : Int32)) hx hb d_Led_begin_31 (by decide) ?_
    exact gx_zret (free := fun _ => True) hx hb hr hlk hP hS d_Led_begin_32 rfl (by cases h; rfl) (by cases h; rfl)
  · have h := gx_pos g1 h
    refine lv_iload_n (pc := 7) hx hb d_Led_begin_7 rfl (lv_at hl 1 rfl) ?_
    refine lv_aload_n (pc := 8) hx hb d_Led_begin_8 rfl (lv_at hl 0 rfl) ?_
    refine va_get (pc := 9) (D := (dC, dI)) (ci := 5) (C := R_Led) (T := T_Led) (N := 14) hx hb hts in_Led hown hK hP x0 (gx_at (cx_lt hk0 (by decide)) (sh_Led cI cR b hk0 _)) rfl 13 (by decide) (hts _ tb_261) (fun _ h9 => h9) rfl d_Led_begin_9 ?_
    refine lv_icmp_le (pc := 12) (tgt := 31) hx hb d_Led_begin_12 (by decide) (fun g2 => ?_) (fun g2 => ?_)
    · have h := gx_pos g2 h
      refine lv_iconst (pc := 31) (v := (0 : Int32)) hx hb d_Led_begin_31 (by decide) ?_
      exact gx_zret (free := fun _ => True) hx hb hr hlk hP hS d_Led_begin_32 rfl (by cases h; rfl) (by cases h; rfl)
    · have h := gx_neg g2 h
      refine lv_iload_n (pc := 15) hx hb d_Led_begin_15 rfl (lv_at hl 2 rfl) ?_
      obtain ⟨q1, g3, h⟩ := gx_bd h
      refine gx_ci (pc := 16) (va_runS (As := [.int x2]) (rest := []) ⟨hx, hb, hml, hown, hts⟩ (k_Led_isAccount l dC dI cI cR cZ b tP tN  g3) (gx_cs 1 hts cd_Led_isAccount tb_44 tb_295 tb_296 rfl rfl ⟨by decide, by decide, by decide +kernel⟩ ⟨Nat.le_of_ble_eq_true rfl, Nat.le_of_ble_eq_true rfl⟩) (gy_pre (cx_XX b tP tN) hX hK hP hS) rfl rfl hl.1 rfl (lv_room (Nat.le_of_ble_eq_true rfl)) d_Led_begin_16 ⟨Nat.zero_le _, Nat.zero_le _⟩) hS (fun H locs hP hS => ?_)
      refine lv_if_eq (pc := 19) (tgt := 31) hx hb d_Led_begin_19 (by decide) (fun g4 => ?_) (fun g4 => ?_)
      · have h := gx_pos g4 h
        refine lv_iconst (pc := 31) (v := (0 : Int32)) hx hb d_Led_begin_31 (by decide) ?_
        exact gx_zret (free := fun _ => True) hx hb hr hlk hP hS d_Led_begin_32 rfl (by cases h; rfl) (by cases h; rfl)
      · have h := gx_neg g4 h
        refine lv_aload_n (pc := 22) hx hb d_Led_begin_22 rfl (lv_at hl 0 rfl) ?_
        refine va_get (pc := 23) (D := (dC, dI)) (ci := 5) (C := R_Led) (T := T_Led) (N := 14) hx hb hts in_Led hown hK hP x0 (gx_at (cx_lt hk0 (by decide)) (sh_Led cI cR b hk0 _)) rfl 10 (by decide) (hts _ tb_258) (fun _ h9 => h9) rfl d_Led_begin_23 ?_
        refine lv_bipush (pc := 26) (v := (30 : Int32)) hx hb d_Led_begin_26 (by decide) ?_
        refine lv_icmp_lt (pc := 28) (tgt := 33) hx hb d_Led_begin_28 (by decide) (fun g5 => ?_) (fun g5 => ?_)
        · have h := gx_pos g5 h
          refine lv_aload_n (pc := 33) hx hb d_Led_begin_33 rfl (lv_at hl 0 rfl) ?_
          refine lv_iconst (pc := 34) (v := (1 : Int32)) hx hb d_Led_begin_34 (by decide) ?_
          obtain ⟨V1, g6, h⟩ := gx_lt h
          refine gy_put (pc := 35) (D := (dC, dI)) (ci := 5) (C := R_Led) (T := T_Led) (NF := 14) (ty := .boolean) hx hb hts in_Led t_Led ty_Led nm_Led hown hK hP hS x0 (cx_lt hk0 (by decide)) (sh_Led cI cR b hk0 _) rfl 6 (by decide) (hts _ tb_254) (fun _ h9 => h9) rfl (by decide +kernel) rfl rfl (Nat.le_of_ble_eq_true rfl) 6 (sh_Led cI cR b hk0 _) d_Led_begin_35 g6 (fun H locs hP hS => ?_)
          refine lv_aload_n (pc := 38) hx hb d_Led_begin_38 rfl (lv_at hl 0 rfl) ?_
          refine lv_iload_n (pc := 39) hx hb d_Led_begin_39 rfl (lv_at hl 1 rfl) ?_
          obtain ⟨V2, g7, h⟩ := gx_lt h
          refine gy_put (pc := 40) (D := (dC, dI)) (ci := 5) (C := R_Led) (T := T_Led) (NF := 14) (ty := .int) hx hb hts in_Led t_Led ty_Led nm_Led hown hK hP hS x0 (cx_lt hk0 (by decide)) (sh_Led cI cR b hk0 _) rfl 7 (by decide) (hts _ tb_255) (fun _ h9 => h9) rfl (by decide +kernel) rfl rfl (Nat.le_of_ble_eq_true rfl) 7 (sh_Led cI cR b hk0 _) d_Led_begin_40 g7 (fun H locs hP hS => ?_)
          refine lv_aload_n (pc := 43) hx hb d_Led_begin_43 rfl (lv_at hl 0 rfl) ?_
          refine lv_iload_n (pc := 44) hx hb d_Led_begin_44 rfl (lv_at hl 2 rfl) ?_
          obtain ⟨V3, g8, h⟩ := gx_lt h
          refine gy_put (pc := 45) (D := (dC, dI)) (ci := 5) (C := R_Led) (T := T_Led) (NF := 14) (ty := .int) hx hb hts in_Led t_Led ty_Led nm_Led hown hK hP hS x0 (cx_lt hk0 (by decide)) (sh_Led cI cR b hk0 _) rfl 8 (by decide) (hts _ tb_256) (fun _ h9 => h9) rfl (by decide +kernel) rfl rfl (Nat.le_of_ble_eq_true rfl) 8 (sh_Led cI cR b hk0 _) d_Led_begin_45 g8 (fun H locs hP hS => ?_)
          refine lv_aload_n (pc := 48) hx hb d_Led_begin_48 rfl (lv_at hl 0 rfl) ?_
          refine lv_dup (pc := 49) hx hb d_Led_begin_49 rfl ?_
          refine va_get (pc := 50) (D := (dC, dI)) (ci := 5) (C := R_Led) (T := T_Led) (N := 14) hx hb hts in_Led hown hK hP x0 (gx_at (cx_lt hk0 (by decide)) (sh_Led cI cR b hk0 _)) rfl 10 (by decide) (hts _ tb_258) (fun _ h9 => h9) rfl d_Led_begin_50 ?_
          refine lv_iconst (pc := 53) (v := (1 : Int32)) hx hb d_Led_begin_53 (by decide) ?_
          refine lv_iadd (pc := 54) hx hb d_Led_begin_54 ?_
          obtain ⟨V4, g9, h⟩ := gx_lt h
          refine gy_put (pc := 55) (D := (dC, dI)) (ci := 5) (C := R_Led) (T := T_Led) (NF := 14) (ty := .int) hx hb hts in_Led t_Led ty_Led nm_Led hown hK hP hS x0 (cx_lt hk0 (by decide)) (sh_Led cI cR b hk0 _) rfl 10 (by decide) (hts _ tb_258) (fun _ h9 => h9) rfl (by decide +kernel) rfl rfl (Nat.le_of_ble_eq_true rfl) 10 (sh_Led cI cR b hk0 _) d_Led_begin_55 g9 (fun H locs hP hS => ?_)
          refine lv_aload_n (pc := 58) hx hb d_Led_begin_58 rfl (lv_at hl 0 rfl) ?_
          refine lv_iconst (pc := 59) (v := (0 : Int32)) hx hb d_Led_begin_59 (by decide) ?_
          obtain ⟨V5, g10, h⟩ := gx_lt h
          refine gy_put (pc := 60) (D := (dC, dI)) (ci := 5) (C := R_Led) (T := T_Led) (NF := 14) (ty := .int) hx hb hts in_Led t_Led ty_Led nm_Led hown hK hP hS x0 (cx_lt hk0 (by decide)) (sh_Led cI cR b hk0 _) rfl 9 (by decide) (hts _ tb_257) (fun _ h9 => h9) rfl (by decide +kernel) rfl rfl (Nat.le_of_ble_eq_true rfl) 9 (sh_Led cI cR b hk0 _) d_Led_begin_60 g10 (fun H locs hP hS => ?_)
          refine lv_aload_n (pc := 63) hx hb d_Led_begin_63 rfl (lv_at hl 0 rfl) ?_
          refine va_get (pc := 64) (D := (dC, dI)) (ci := 5) (C := R_Led) (T := T_Led) (N := 14) hx hb hts in_Led hown hK hP x0 (gx_at (cx_lt hk0 (by decide)) (sh_Led cI cR b hk0 _)) rfl 2 (by decide) (hts _ tb_250) (fun _ h9 => h9) rfl d_Led_begin_64 ?_
          refine lv_iconst (pc := 67) (v := (0 : Int32)) hx hb d_Led_begin_67 (by decide) ?_
          obtain ⟨V6, g11, h⟩ := gx_lt h
          refine gy_put (pc := 68) (D := (dC, dI)) (ci := 4) (C := R_Rec) (T := T_Rec) (NF := 5) (ty := .int) hx hb hts in_Rec t_Rec ty_Rec nm_Rec hown hK hP hS (x0 + 92) (cx_lt (to_Led_receipts hk0) (by decide)) (sh_Rec cI cR b (to_Led_receipts hk0) _) rfl 4 (by decide) (hts _ tb_236) (fun _ h9 => h9) rfl (by decide +kernel) rfl rfl (Nat.le_of_ble_eq_true rfl) 4 (sh_Rec cI cR b (to_Led_receipts hk0) _) d_Led_begin_68 g11 (fun H locs hP hS => ?_)
          refine lv_aload_n (pc := 71) hx hb d_Led_begin_71 rfl (lv_at hl 0 rfl) ?_
          refine va_get (pc := 72) (D := (dC, dI)) (ci := 5) (C := R_Led) (T := T_Led) (N := 14) hx hb hts in_Led hown hK hP x0 (gx_at (cx_lt hk0 (by decide)) (sh_Led cI cR b hk0 _)) rfl 0 (by decide) (hts _ tb_248) (fun _ h9 => h9) rfl d_Led_begin_72 ?_
          refine va_get (pc := 75) (D := (dC, dI)) (ci := 3) (C := R_Mac) (T := T_Mac) (N := 6) hx hb hts in_Mac hown hK hP (x0 + 1) (gx_at (cx_lt (to_Led_machine hk0) (by decide)) (sh_Mac cI cR b (to_Led_machine hk0) _)) rfl 1 (by decide) (hts _ tb_204) (fun _ h9 => h9) rfl d_Led_begin_75 ?_
          refine lv_iconst (pc := 78) (v := (0 : Int32)) hx hb d_Led_begin_78 (by decide) ?_
          refine lv_iconst (pc := 79) (v := (0 : Int32)) hx hb d_Led_begin_79 (by decide) ?_
          obtain ⟨q2, g12, h⟩ := gx_bd h
          refine gx_cv (pc := 80) (va_runV (C := "GasLedger$Logs") (As := [.int (0 : Int32), .int (0 : Int32)]) (rest := []) ⟨hx, hb, hml, hown, hts⟩ (k_Log_cutBackTo l dC dI cI cR cZ b tP tN (to_Mac_logs (to_Led_machine hk0)) g12) (gx_cw 2 hts cd_Log_cutBackTo tb_47 tb_318 tb_319 tb_320 rfl rfl ⟨by decide, by decide, by decide +kernel⟩ ⟨Nat.le_of_ble_eq_true rfl, Nat.le_of_ble_eq_true rfl⟩) (gy_preV (cx_XX b tP tN) hX hK hP hS (cx_lt (to_Mac_logs (to_Led_machine hk0)) (by decide)) (sh_Log cI cR b (to_Mac_logs (to_Led_machine hk0)) _) rfl) rfl rfl hl.1 rfl (lv_room (Nat.le_of_ble_eq_true rfl)) d_Led_begin_80 ⟨Nat.zero_le _, Nat.zero_le _⟩) hS (fun H locs hP hS => ?_)
          refine lv_aload_n (pc := 83) hx hb d_Led_begin_83 rfl (lv_at hl 0 rfl) ?_
          refine va_get (pc := 84) (D := (dC, dI)) (ci := 5) (C := R_Led) (T := T_Led) (N := 14) hx hb hts in_Led hown hK hP x0 (gx_at (cx_lt hk0 (by decide)) (sh_Led cI cR b hk0 _)) rfl 1 (by decide) (hts _ tb_249) (fun _ h9 => h9) rfl d_Led_begin_84 ?_
          refine lv_aload_n (pc := 87) hx hb d_Led_begin_87 rfl (lv_at hl 0 rfl) ?_
          refine va_get (pc := 88) (D := (dC, dI)) (ci := 5) (C := R_Led) (T := T_Led) (N := 14) hx hb hts in_Led hown hK hP x0 (gx_at (cx_lt hk0 (by decide)) (sh_Led cI cR b hk0 _)) rfl 0 (by decide) (hts _ tb_248) (fun _ h9 => h9) rfl d_Led_begin_88 ?_
          refine va_get (pc := 91) (D := (dC, dI)) (ci := 3) (C := R_Mac) (T := T_Mac) (N := 6) hx hb hts in_Mac hown hK hP (x0 + 1) (gx_at (cx_lt (to_Led_machine hk0) (by decide)) (sh_Mac cI cR b (to_Led_machine hk0) _)) rfl 0 (by decide) (hts _ tb_202) (fun _ h9 => h9) rfl d_Led_begin_91 ?_
          obtain ⟨q3, g13, h⟩ := gx_bd h
          refine gx_cv (pc := 94) (va_runV (C := "GasLedger$Accounts") (As := [.ref (b + ((x0 + 1) + 1))]) (rest := []) ⟨hx, hb, hml, hown, hts⟩ (k_Acc_copyFrom l dC dI cI cR cZ b tP tN (to_Led_atBegin hk0) (to_Mac_accounts (to_Led_machine hk0)) g13) (gx_cw 1 hts cd_Acc_copyFrom tb_46 tb_322 tb_323 tb_324 rfl rfl ⟨by decide, by decide, by decide +kernel⟩ ⟨Nat.le_of_ble_eq_true rfl, Nat.le_of_ble_eq_true rfl⟩) (gy_preV (cx_XX b tP tN) hX hK hP hS (cx_lt (to_Led_atBegin hk0) (by decide)) (sh_Acc cI cR b (to_Led_atBegin hk0) _) rfl) rfl rfl hl.1 rfl (lv_room (Nat.le_of_ble_eq_true rfl)) d_Led_begin_94 ⟨Nat.zero_le _, Nat.zero_le _⟩) hS (fun H locs hP hS => ?_)
          refine lv_iconst (pc := 97) (v := (1 : Int32)) hx hb d_Led_begin_97 (by decide) ?_
          exact gx_zret (free := fun _ => True) hx hb hr hlk hP hS d_Led_begin_98 rfl (by cases h; rfl) (by cases h; rfl)
        · have h := gx_neg g5 h
          refine lv_iconst (pc := 31) (v := (0 : Int32)) hx hb d_Led_begin_31 (by decide) ?_
          exact gx_zret (free := fun _ => True) hx hb hr hlk hP hS d_Led_begin_32 rfl (by cases h; rfl) (by cases h; rfl)
abbrev rm_Led_refusalOf : Room := { frames := 1, cells := 0, slots := 0, locals := 20 }
def F_Led_refusalOf (x0 : Nat) (x1 : Int32) (x2 : Int32) (x3 : Int32) (x4 : Int32) (x5 : Int32) (x6 : Int32) (V : gx_M) : Option (Int32 × gx_M) := (if (V x0 6) = 0 then some ((-1 : Int32), V) else ((F_Led_isAccount x1 V).bind fun q1 => (if q1.1 = 0 then some ((-2 : Int32), q1.2) else ((F_Led_isAccount x2 q1.2).bind fun q2 => (if q2.1 = 0 then some ((-2 : Int32), q2.2) else (if 0 ≤ x3 then (if x6 = 0 then (if x4 < (20 : Int32) then some ((-4 : Int32), q2.2) else (if (3000 : Int32) < x4 then some ((-4 : Int32), q2.2) else (if x5 < 0 then some ((-4 : Int32), q2.2) else (if x5 ≤ (100 : Int32) then (if x4 ≤ ((3000 : Int32) - (q2.2 x0 9)) then (if gx_ib x1 16 then (if 0 ≤ (lg_cmp (q2.2 (((x0 + 1) + 1) + 1) x1.toNatClampNeg).toInt64 ((x4.toInt64 * x5.toInt64) + x3.toInt64)) then some ((0 : Int32), q2.2) else some ((-6 : Int32), q2.2)) else none) else some ((-5 : Int32), q2.2)) else some ((-4 : Int32), q2.2))))) else some ((-3 : Int32), q2.2)) else some ((-2 : Int32), q2.2)))))))
set_option maxRecDepth 100000 in
set_option maxHeartbeats 8000000 in
theorem k_Led_refusalOf (l : Launch) (dC : Nat → ClassId) (dI : Nat → Nat → Nat) (cI cR cZ : ClassId) (b tP tN : Nat) {x0 : Nat} {x1 : Int32} {x2 : Int32} {x3 : Int32} {x4 : Int32} {x5 : Int32} {x6 : Int32} {V : gx_M} {q : (Int32 × gx_M)} (hk0 : cx_kd x0 = 5) (h : F_Led_refusalOf x0 x1 x2 x3 x4 x5 x6 V = some q) : cx_C l dC dI cI cR cZ b tP tN y_Led_refusalOf w_Led_refusalOf rm_Led_refusalOf [.ref (b + x0), .int x1, .int x2, .int x3, .int x4, .int x5, .int x6] V (some (.int q.1)) q.2 := by
  refine gx_start (cc := b_Led_refusalOf) (maxL := 9) (ret := rt_Led_refusalOf) (by decide) rfl (Nat.le_of_ble_eq_true rfl) ?_
  intro p e s m args below meth c ls hx hb hr hts hown hlk hml hl hP hK hX hS
  have hts : ∀ w ∈ cx_tb, w.before args s = true := fun w hw => hts w (List.mem_cons_of_mem _ hw)
  have hown : s.vm.findClass "GasLedger" = some m.cls := hown
  have hl : lv_has ls 9 [(0, .ref (b + x0)), (1, .int x1), (2, .int x2), (3, .int x3), (4, .int x4), (5, .int x5), (6, .int x6)] := hl
  unfold F_Led_refusalOf at h
  refine lv_aload_n (pc := 0) hx hb d_Led_refusalOf_0 rfl (lv_at hl 0 rfl) ?_
  refine va_get (pc := 1) (D := (dC, dI)) (ci := 5) (C := R_Led) (T := T_Led) (N := 14) hx hb hts in_Led hown hK hP x0 (gx_at (cx_lt hk0 (by decide)) (sh_Led cI cR b hk0 _)) rfl 6 (by decide) (hts _ tb_254) (fun _ h9 => h9) rfl d_Led_refusalOf_1 ?_
  refine lv_if_ne (pc := 4) (tgt := 9) hx hb d_Led_refusalOf_4 (by decide) (fun g1 => ?_) (fun g1 => ?_)
  · have h := gx_neg g1 h
    refine lv_iload_n (pc := 9) hx hb d_Led_refusalOf_9 rfl (lv_at hl 1 rfl) ?_
    obtain ⟨q1, g2, h⟩ := gx_bd h
    refine gx_ci (pc := 10) (va_runS (As := [.int x1]) (rest := []) ⟨hx, hb, hml, hown, hts⟩ (k_Led_isAccount l dC dI cI cR cZ b tP tN  g2) (gx_cs 1 hts cd_Led_isAccount tb_44 tb_295 tb_296 rfl rfl ⟨by decide, by decide, by decide +kernel⟩ ⟨Nat.le_of_ble_eq_true rfl, Nat.le_of_ble_eq_true rfl⟩) (gy_pre (cx_XX b tP tN) hX hK hP hS) rfl rfl hl.1 rfl (lv_room (Nat.le_of_ble_eq_true rfl)) d_Led_refusalOf_10 ⟨Nat.zero_le _, Nat.zero_le _⟩) hS (fun H locs hP hS => ?_)
    refine lv_if_eq (pc := 13) (tgt := 27) hx hb d_Led_refusalOf_13 (by decide) (fun g3 => ?_) (fun g3 => ?_)
    · have h := gx_pos g3 h
      refine lv_bipush (pc := 27) (v := (-2 : Int32)) hx hb d_Led_refusalOf_27 (by decide) ?_
      exact gx_iret (free := fun _ => True) hx hb hr hlk hP hS d_Led_refusalOf_29 (by cases h; rfl) (by cases h; rfl)
    · have h := gx_neg g3 h
      refine lv_iload_n (pc := 16) hx hb d_Led_refusalOf_16 rfl (lv_at hl 2 rfl) ?_
      obtain ⟨q2, g4, h⟩ := gx_bd h
      refine gx_ci (pc := 17) (va_runS (As := [.int x2]) (rest := []) ⟨hx, hb, hml, hown, hts⟩ (k_Led_isAccount l dC dI cI cR cZ b tP tN  g4) (gx_cs 1 hts cd_Led_isAccount tb_44 tb_295 tb_296 rfl rfl ⟨by decide, by decide, by decide +kernel⟩ ⟨Nat.le_of_ble_eq_true rfl, Nat.le_of_ble_eq_true rfl⟩) (gy_pre (cx_XX b tP tN) hX hK hP hS) rfl rfl hl.1 rfl (lv_room (Nat.le_of_ble_eq_true rfl)) d_Led_refusalOf_17 ⟨Nat.zero_le _, Nat.zero_le _⟩) hS (fun H locs hP hS => ?_)
      refine lv_if_eq (pc := 20) (tgt := 27) hx hb d_Led_refusalOf_20 (by decide) (fun g5 => ?_) (fun g5 => ?_)
      · have h := gx_pos g5 h
        refine lv_bipush (pc := 27) (v := (-2 : Int32)) hx hb d_Led_refusalOf_27 (by decide) ?_
        exact gx_iret (free := fun _ => True) hx hb hr hlk hP hS d_Led_refusalOf_29 (by cases h; rfl) (by cases h; rfl)
      · have h := gx_neg g5 h
        refine lv_iload_n (pc := 23) hx hb d_Led_refusalOf_23 rfl (lv_at hl 3 rfl) ?_
        refine lv_if_ge (pc := 24) (tgt := 30) hx hb d_Led_refusalOf_24 (by decide) (fun g6 => ?_) (fun g6 => ?_)
        · have h := gx_pos g6 h
          refine lv_iload (pc := 30) hx hb d_Led_refusalOf_30 (lv_at hl 6 rfl) ?_
          refine lv_if_eq (pc := 32) (tgt := 38) hx hb d_Led_refusalOf_32 (by decide) (fun g7 => ?_) (fun g7 => ?_)
          · have h := gx_pos g7 h
            refine lv_iload (pc := 38) hx hb d_Led_refusalOf_38 (lv_at hl 4 rfl) ?_
            refine lv_bipush (pc := 40) (v := (20 : Int32)) hx hb d_Led_refusalOf_40 (by decide) ?_
            refine lv_icmp_lt (pc := 42) (tgt := 65) hx hb d_Led_refusalOf_42 (by decide) (fun g8 => ?_) (fun g8 => ?_)
            · have h := gx_pos g8 h
              refine lv_bipush (pc := 65) (v := (-4 : Int32)) hx hb d_Led_refusalOf_65 (by decide) ?_
              exact gx_iret (free := fun _ => True) hx hb hr hlk hP hS d_Led_refusalOf_67 (by cases h; rfl) (by cases h; rfl)
            · have h := gx_neg g8 h
              refine lv_iload (pc := 45) hx hb d_Led_refusalOf_45 (lv_at hl 4 rfl) ?_
              refine lv_sipush (pc := 47) (v := (3000 : Int32)) hx hb d_Led_refusalOf_47 (by decide) ?_
              refine lv_icmp_gt (pc := 50) (tgt := 65) hx hb d_Led_refusalOf_50 (by decide) (fun g9 => ?_) (fun g9 => ?_)
              · have h := gx_pos g9 h
                refine lv_bipush (pc := 65) (v := (-4 : Int32)) hx hb d_Led_refusalOf_65 (by decide) ?_
                exact gx_iret (free := fun _ => True) hx hb hr hlk hP hS d_Led_refusalOf_67 (by cases h; rfl) (by cases h; rfl)
              · have h := gx_neg g9 h
                refine lv_iload (pc := 53) hx hb d_Led_refusalOf_53 (lv_at hl 5 rfl) ?_
                refine lv_if_lt (pc := 55) (tgt := 65) hx hb d_Led_refusalOf_55 (by decide) (fun g10 => ?_) (fun g10 => ?_)
                · have h := gx_pos g10 h
                  refine lv_bipush (pc := 65) (v := (-4 : Int32)) hx hb d_Led_refusalOf_65 (by decide) ?_
                  exact gx_iret (free := fun _ => True) hx hb hr hlk hP hS d_Led_refusalOf_67 (by cases h; rfl) (by cases h; rfl)
                · have h := gx_neg g10 h
                  refine lv_iload (pc := 58) hx hb d_Led_refusalOf_58 (lv_at hl 5 rfl) ?_
                  refine lv_bipush (pc := 60) (v := (100 : Int32)) hx hb d_Led_refusalOf_60 (by decide) ?_
                  refine lv_icmp_le (pc := 62) (tgt := 68) hx hb d_Led_refusalOf_62 (by decide) (fun g11 => ?_) (fun g11 => ?_)
                  · have h := gx_pos g11 h
                    refine lv_iload (pc := 68) hx hb d_Led_refusalOf_68 (lv_at hl 4 rfl) ?_
                    refine lv_sipush (pc := 70) (v := (3000 : Int32)) hx hb d_Led_refusalOf_70 (by decide) ?_
                    refine lv_aload_n (pc := 73) hx hb d_Led_refusalOf_73 rfl (lv_at hl 0 rfl) ?_
                    refine va_get (pc := 74) (D := (dC, dI)) (ci := 5) (C := R_Led) (T := T_Led) (N := 14) hx hb hts in_Led hown hK hP x0 (gx_at (cx_lt hk0 (by decide)) (sh_Led cI cR b hk0 _)) rfl 9 (by decide) (hts _ tb_257) (fun _ h9 => h9) rfl d_Led_refusalOf_74 ?_
                    refine lv_isub (pc := 77) hx hb d_Led_refusalOf_77 ?_
                    refine lv_icmp_le (pc := 78) (tgt := 84) hx hb d_Led_refusalOf_78 (by decide) (fun g12 => ?_) (fun g12 => ?_)
                    · have h := gx_pos g12 h
                      refine lv_iload (pc := 84) hx hb d_Led_refusalOf_84 (lv_at hl 4 rfl) ?_
                      refine lv_i2l (pc := 86) hx hb d_Led_refusalOf_86 rfl ?_
                      refine lv_iload (pc := 87) hx hb d_Led_refusalOf_87 (lv_at hl 5 rfl) ?_
                      refine lv_i2l (pc := 89) hx hb d_Led_refusalOf_89 rfl ?_
                      refine lv_lmul (pc := 90) hx hb d_Led_refusalOf_90 ?_
                      refine lv_iload_n (pc := 91) hx hb d_Led_refusalOf_91 rfl (lv_at hl 3 rfl) ?_
                      refine lv_i2l (pc := 92) hx hb d_Led_refusalOf_92 rfl ?_
                      refine lv_ladd (pc := 93) hx hb d_Led_refusalOf_93 ?_
                      refine lv_lstore (pc := 94) (lv' := [(7, .long ((x4.toInt64 * x5.toInt64) + x3.toInt64)), (0, .ref (b + x0)), (1, .int x1), (2, .int x2), (3, .int x3), (4, .int x4), (5, .int x5), (6, .int x6)]) hx hb d_Led_refusalOf_94 hl (by decide) rfl (fun ls hl => ?_)
                      refine lv_aload_n (pc := 96) hx hb d_Led_refusalOf_96 rfl (lv_at hl 1 rfl) ?_
                      refine va_get (pc := 97) (D := (dC, dI)) (ci := 5) (C := R_Led) (T := T_Led) (N := 14) hx hb hts in_Led hown hK hP x0 (gx_at (cx_lt hk0 (by decide)) (sh_Led cI cR b hk0 _)) rfl 0 (by decide) (hts _ tb_248) (fun _ h9 => h9) rfl d_Led_refusalOf_97 ?_
                      refine va_get (pc := 100) (D := (dC, dI)) (ci := 3) (C := R_Mac) (T := T_Mac) (N := 6) hx hb hts in_Mac hown hK hP (x0 + 1) (gx_at (cx_lt (to_Led_machine hk0) (by decide)) (sh_Mac cI cR b (to_Led_machine hk0) _)) rfl 0 (by decide) (hts _ tb_202) (fun _ h9 => h9) rfl d_Led_refusalOf_100 ?_
                      refine va_get (pc := 103) (D := (dC, dI)) (ci := 0) (C := R_Acc) (T := T_Acc) (N := 6) hx hb hts in_Acc hown hK hP ((x0 + 1) + 1) (gx_at (cx_lt (to_Mac_accounts (to_Led_machine hk0)) (by decide)) (sh_Acc cI cR b (to_Mac_accounts (to_Led_machine hk0)) _)) rfl 0 (by decide) (hts _ tb_75) (fun _ h9 => h9) rfl d_Led_refusalOf_103 ?_
                      refine lv_iload_n (pc := 106) hx hb d_Led_refusalOf_106 rfl (lv_at hl 2 rfl) ?_
                      obtain ⟨g13, h⟩ := gx_if h
                      refine va_iald (pc := 107) hx hb hK hP (((x0 + 1) + 1) + 1) 0 (gx_at (cx_lt (to_Acc_balances (to_Mac_accounts (to_Led_machine hk0))) (by decide)) (sh_arr cI cR b (n := 16) (to_Acc_balances (to_Mac_accounts (to_Led_machine hk0))) _)) rfl g13 d_Led_refusalOf_107 ?_
                      refine lv_i2l (pc := 108) hx hb d_Led_refusalOf_108 rfl ?_
                      refine lv_lload (pc := 109) hx hb d_Led_refusalOf_109 (lv_at hl 0 rfl) ?_
                      refine W.lcmp (pc := 111) hx hb d_Led_refusalOf_111 ?_
                      refine lv_if_ge (pc := 112) (tgt := 120) hx hb d_Led_refusalOf_112 (by decide) (fun g14 => ?_) (fun g14 => ?_)
                      · have h := gx_pos g14 h
                        refine lv_iconst (pc := 120) (v := (0 : Int32)) hx hb d_Led_refusalOf_120 (by decide) ?_
                        exact gx_iret (free := fun _ => True) hx hb hr hlk hP hS d_Led_refusalOf_121 (by cases h; rfl) (by cases h; rfl)
                      · have h := gx_neg g14 h
                        refine lv_bipush (pc := 115) (v := (-6 : Int32)) hx hb d_Led_refusalOf_115 (by decide) ?_
                        refine lv_goto (pc := 117) (tgt := 121) hx hb d_Led_refusalOf_117 (by decide) ?_
                        exact gx_iret (free := fun _ => True) hx hb hr hlk hP hS d_Led_refusalOf_121 (by cases h; rfl) (by cases h; rfl)
                    · have h := gx_neg g12 h
                      refine lv_bipush (pc := 81) (v := (-5 : Int32)) hx hb d_Led_refusalOf_81 (by decide) ?_
                      exact gx_iret (free := fun _ => True) hx hb hr hlk hP hS d_Led_refusalOf_83 (by cases h; rfl) (by cases h; rfl)
                  · have h := gx_neg g11 h
                    refine lv_bipush (pc := 65) (v := (-4 : Int32)) hx hb d_Led_refusalOf_65 (by decide) ?_
                    exact gx_iret (free := fun _ => True) hx hb hr hlk hP hS d_Led_refusalOf_67 (by cases h; rfl) (by cases h; rfl)
          · have h := gx_neg g7 h
            refine lv_bipush (pc := 35) (v := (-3 : Int32)) hx hb d_Led_refusalOf_35 (by decide) ?_
            exact gx_iret (free := fun _ => True) hx hb hr hlk hP hS d_Led_refusalOf_37 (by cases h; rfl) (by cases h; rfl)
        · have h := gx_neg g6 h
          refine lv_bipush (pc := 27) (v := (-2 : Int32)) hx hb d_Led_refusalOf_27 (by decide) ?_
          exact gx_iret (free := fun _ => True) hx hb hr hlk hP hS d_Led_refusalOf_29 (by cases h; rfl) (by cases h; rfl)
  · have h := gx_pos g1 h
    refine lv_iconst (pc := 7) (v := (-1 : Int32)) hx hb d_Led_refusalOf_7 (by decide) ?_
    exact gx_iret (free := fun _ => True) hx hb hr hlk hP hS d_Led_refusalOf_8 (by cases h; rfl) (by cases h; rfl)
abbrev rm_Frm_start : Room := { frames := 0, cells := 0, slots := 0, locals := 0 }
def F_Frm_start (x0 : Nat) (x1 : Int32) (x2 : Int32) (x3 : Int32) (x4 : Int32) (x5 : Int32) (x6 : Int32) (V : gx_M) : Option gx_M := (gx_let (gx_u V x0 0 x1) fun V1 => (gx_let (gx_u V1 x0 1 x2) fun V2 => (gx_let (gx_u V2 x0 2 (0 : Int32)) fun V3 => (gx_let (gx_u V3 x0 3 x3) fun V4 => (gx_let (gx_u V4 x0 4 x4) fun V5 => (gx_let (gx_u V5 x0 5 x5) fun V6 => (gx_let (gx_u V6 x0 6 x6) fun V7 => (gx_let (gx_u V7 x0 8 (0 : Int32)) fun V8 => (gx_let (gx_u V8 x0 9 (0 : Int32)) fun V9 => some V9)))))))))
set_option maxRecDepth 100000 in
set_option maxHeartbeats 8000000 in
theorem k_Frm_start (l : Launch) (dC : Nat → ClassId) (dI : Nat → Nat → Nat) (cI cR cZ : ClassId) (b tP tN : Nat) {x0 : Nat} {x1 : Int32} {x2 : Int32} {x3 : Int32} {x4 : Int32} {x5 : Int32} {x6 : Int32} {V : gx_M} {q : gx_M} (hk0 : cx_kd x0 = 1) (h : F_Frm_start x0 x1 x2 x3 x4 x5 x6 V = some q) : cx_C l dC dI cI cR cZ b tP tN y_Frm_start w_Frm_start rm_Frm_start [.ref (b + x0), .int x1, .int x2, .int x3, .int x4, .int x5, .int x6] V none q := by
  refine gx_start (cc := b_Frm_start) (maxL := 7) (ret := rt_Frm_start) (by decide) rfl (Nat.le_of_ble_eq_true rfl) ?_
  intro p e s m args below meth c ls hx hb hr hts hown hlk hml hl hP hK hX hS
  have hts : ∀ w ∈ cx_tb, w.before args s = true := fun w hw => hts w (List.mem_cons_of_mem _ hw)
  have hown : s.vm.findClass "GasLedger$Frame" = some m.cls := hown
  have hl : lv_has ls 7 [(0, .ref (b + x0)), (1, .int x1), (2, .int x2), (3, .int x3), (4, .int x4), (5, .int x5), (6, .int x6)] := hl
  unfold F_Frm_start at h
  refine lv_aload_n (pc := 0) hx hb d_Frm_start_0 rfl (lv_at hl 0 rfl) ?_
  refine lv_iload_n (pc := 1) hx hb d_Frm_start_1 rfl (lv_at hl 1 rfl) ?_
  obtain ⟨V1, g1, h⟩ := gx_lt h
  refine gy_put (pc := 2) (D := (dC, dI)) (ci := 1) (C := R_Frm) (T := T_Frm) (NF := 17) (ty := .int) hx hb hts in_Frm t_Frm ty_Frm nm_Frm hown hK hP hS x0 (cx_lt hk0 (by decide)) (sh_Frm cI cR b hk0 _) rfl 0 (by decide) (hts _ tb_134) (fun _ h9 => h9) rfl (by decide +kernel) rfl rfl (Nat.le_of_ble_eq_true rfl) 0 (sh_Frm cI cR b hk0 _) d_Frm_start_2 g1 (fun H locs hP hS => ?_)
  refine lv_aload_n (pc := 5) hx hb d_Frm_start_5 rfl (lv_at hl 0 rfl) ?_
  refine lv_iload_n (pc := 6) hx hb d_Frm_start_6 rfl (lv_at hl 2 rfl) ?_
  obtain ⟨V2, g2, h⟩ := gx_lt h
  refine gy_put (pc := 7) (D := (dC, dI)) (ci := 1) (C := R_Frm) (T := T_Frm) (NF := 17) (ty := .int) hx hb hts in_Frm t_Frm ty_Frm nm_Frm hown hK hP hS x0 (cx_lt hk0 (by decide)) (sh_Frm cI cR b hk0 _) rfl 1 (by decide) (hts _ tb_136) (fun _ h9 => h9) rfl (by decide +kernel) rfl rfl (Nat.le_of_ble_eq_true rfl) 1 (sh_Frm cI cR b hk0 _) d_Frm_start_7 g2 (fun H locs hP hS => ?_)
  refine lv_aload_n (pc := 10) hx hb d_Frm_start_10 rfl (lv_at hl 0 rfl) ?_
  refine lv_iconst (pc := 11) (v := (0 : Int32)) hx hb d_Frm_start_11 (by decide) ?_
  obtain ⟨V3, g3, h⟩ := gx_lt h
  refine gy_put (pc := 12) (D := (dC, dI)) (ci := 1) (C := R_Frm) (T := T_Frm) (NF := 17) (ty := .int) hx hb hts in_Frm t_Frm ty_Frm nm_Frm hown hK hP hS x0 (cx_lt hk0 (by decide)) (sh_Frm cI cR b hk0 _) rfl 2 (by decide) (hts _ tb_138) (fun _ h9 => h9) rfl (by decide +kernel) rfl rfl (Nat.le_of_ble_eq_true rfl) 2 (sh_Frm cI cR b hk0 _) d_Frm_start_12 g3 (fun H locs hP hS => ?_)
  refine lv_aload_n (pc := 15) hx hb d_Frm_start_15 rfl (lv_at hl 0 rfl) ?_
  refine lv_iload_n (pc := 16) hx hb d_Frm_start_16 rfl (lv_at hl 3 rfl) ?_
  obtain ⟨V4, g4, h⟩ := gx_lt h
  refine gy_put (pc := 17) (D := (dC, dI)) (ci := 1) (C := R_Frm) (T := T_Frm) (NF := 17) (ty := .int) hx hb hts in_Frm t_Frm ty_Frm nm_Frm hown hK hP hS x0 (cx_lt hk0 (by decide)) (sh_Frm cI cR b hk0 _) rfl 3 (by decide) (hts _ tb_140) (fun _ h9 => h9) rfl (by decide +kernel) rfl rfl (Nat.le_of_ble_eq_true rfl) 3 (sh_Frm cI cR b hk0 _) d_Frm_start_17 g4 (fun H locs hP hS => ?_)
  refine lv_aload_n (pc := 20) hx hb d_Frm_start_20 rfl (lv_at hl 0 rfl) ?_
  refine lv_iload (pc := 21) hx hb d_Frm_start_21 (lv_at hl 4 rfl) ?_
  obtain ⟨V5, g5, h⟩ := gx_lt h
  refine gy_put (pc := 23) (D := (dC, dI)) (ci := 1) (C := R_Frm) (T := T_Frm) (NF := 17) (ty := .int) hx hb hts in_Frm t_Frm ty_Frm nm_Frm hown hK hP hS x0 (cx_lt hk0 (by decide)) (sh_Frm cI cR b hk0 _) rfl 4 (by decide) (hts _ tb_142) (fun _ h9 => h9) rfl (by decide +kernel) rfl rfl (Nat.le_of_ble_eq_true rfl) 4 (sh_Frm cI cR b hk0 _) d_Frm_start_23 g5 (fun H locs hP hS => ?_)
  refine lv_aload_n (pc := 26) hx hb d_Frm_start_26 rfl (lv_at hl 0 rfl) ?_
  refine lv_iload (pc := 27) hx hb d_Frm_start_27 (lv_at hl 5 rfl) ?_
  obtain ⟨V6, g6, h⟩ := gx_lt h
  refine gy_put (pc := 29) (D := (dC, dI)) (ci := 1) (C := R_Frm) (T := T_Frm) (NF := 17) (ty := .int) hx hb hts in_Frm t_Frm ty_Frm nm_Frm hown hK hP hS x0 (cx_lt hk0 (by decide)) (sh_Frm cI cR b hk0 _) rfl 5 (by decide) (hts _ tb_144) (fun _ h9 => h9) rfl (by decide +kernel) rfl rfl (Nat.le_of_ble_eq_true rfl) 5 (sh_Frm cI cR b hk0 _) d_Frm_start_29 g6 (fun H locs hP hS => ?_)
  refine lv_aload_n (pc := 32) hx hb d_Frm_start_32 rfl (lv_at hl 0 rfl) ?_
  refine lv_iload (pc := 33) hx hb d_Frm_start_33 (lv_at hl 6 rfl) ?_
  obtain ⟨V7, g7, h⟩ := gx_lt h
  refine gy_put (pc := 35) (D := (dC, dI)) (ci := 1) (C := R_Frm) (T := T_Frm) (NF := 17) (ty := .int) hx hb hts in_Frm t_Frm ty_Frm nm_Frm hown hK hP hS x0 (cx_lt hk0 (by decide)) (sh_Frm cI cR b hk0 _) rfl 6 (by decide) (hts _ tb_146) (fun _ h9 => h9) rfl (by decide +kernel) rfl rfl (Nat.le_of_ble_eq_true rfl) 6 (sh_Frm cI cR b hk0 _) d_Frm_start_35 g7 (fun H locs hP hS => ?_)
  refine lv_aload_n (pc := 38) hx hb d_Frm_start_38 rfl (lv_at hl 0 rfl) ?_
  refine lv_iconst (pc := 39) (v := (0 : Int32)) hx hb d_Frm_start_39 (by decide) ?_
  obtain ⟨V8, g8, h⟩ := gx_lt h
  refine gy_put (pc := 40) (D := (dC, dI)) (ci := 1) (C := R_Frm) (T := T_Frm) (NF := 17) (ty := .int) hx hb hts in_Frm t_Frm ty_Frm nm_Frm hown hK hP hS x0 (cx_lt hk0 (by decide)) (sh_Frm cI cR b hk0 _) rfl 8 (by decide) (hts _ tb_150) (fun _ h9 => h9) rfl (by decide +kernel) rfl rfl (Nat.le_of_ble_eq_true rfl) 8 (sh_Frm cI cR b hk0 _) d_Frm_start_40 g8 (fun H locs hP hS => ?_)
  refine lv_aload_n (pc := 43) hx hb d_Frm_start_43 rfl (lv_at hl 0 rfl) ?_
  refine lv_iconst (pc := 44) (v := (0 : Int32)) hx hb d_Frm_start_44 (by decide) ?_
  obtain ⟨V9, g9, h⟩ := gx_lt h
  refine gy_put (pc := 45) (D := (dC, dI)) (ci := 1) (C := R_Frm) (T := T_Frm) (NF := 17) (ty := .boolean) hx hb hts in_Frm t_Frm ty_Frm nm_Frm hown hK hP hS x0 (cx_lt hk0 (by decide)) (sh_Frm cI cR b hk0 _) rfl 9 (by decide) (hts _ tb_152) (fun _ h9 => h9) rfl (by decide +kernel) rfl rfl (Nat.le_of_ble_eq_true rfl) 9 (sh_Frm cI cR b hk0 _) d_Frm_start_45 g9 (fun H locs hP hS => ?_)
  exact gx_vret hx hb hr hlk hP hS d_Frm_start_48 (by cases h; rfl) (by cases h; rfl)
abbrev rm_Mac_enter : Room := { frames := 2, cells := 0, slots := 0, locals := 85 }
def F_Mac_enter (x0 : Nat) (x1 : Int32) (x2 : Int32) (x3 : Int32) (x4 : Int32) (x5 : Int32) (x6 : Int32) (V : gx_M) : Option gx_M := (if gx_ib (V x0 3) 8 then (gx_let (gx_u V x0 3 ((V x0 3) + (1 : Int32))) fun V1 => ((F_Frm_start ((x0 + 11) + (1 + 9 * (V x0 3).toNatClampNeg)) x1 x2 x3 x4 x5 x6 V1).bind fun q1 => ((F_Acc_copyFrom (((x0 + 11) + (1 + 9 * (V x0 3).toNatClampNeg)) + 2) (x0 + 1) q1).bind fun q2 => (gx_let (gx_u q2 ((x0 + 11) + (1 + 9 * (V x0 3).toNatClampNeg)) 13 (q2 x0 4)) fun V2 => (gx_let (gx_u V2 ((x0 + 11) + (1 + 9 * (V x0 3).toNatClampNeg)) 14 (V2 x0 5)) fun V3 => (gx_let (gx_u V3 ((x0 + 11) + (1 + 9 * (V x0 3).toNatClampNeg)) 15 (V3 (x0 + 8) 2)) fun V4 => (gx_let (gx_u V4 ((x0 + 11) + (1 + 9 * (V x0 3).toNatClampNeg)) 16 (V4 (x0 + 8) 3)) fun V5 => some V5))))))) else none)
set_option maxRecDepth 100000 in
set_option maxHeartbeats 8000000 in
theorem k_Mac_enter (l : Launch) (dC : Nat → ClassId) (dI : Nat → Nat → Nat) (cI cR cZ : ClassId) (b tP tN : Nat) {x0 : Nat} {x1 : Int32} {x2 : Int32} {x3 : Int32} {x4 : Int32} {x5 : Int32} {x6 : Int32} {V : gx_M} {q : gx_M} (hk0 : cx_kd x0 = 3) (h : F_Mac_enter x0 x1 x2 x3 x4 x5 x6 V = some q) : cx_C l dC dI cI cR cZ b tP tN y_Mac_enter w_Mac_enter rm_Mac_enter [.ref (b + x0), .int x1, .int x2, .int x3, .int x4, .int x5, .int x6] V none q := by
  refine gx_start (cc := b_Mac_enter) (maxL := 8) (ret := rt_Mac_enter) (by decide) rfl (Nat.le_of_ble_eq_true rfl) ?_
  intro p e s m args below meth c ls hx hb hr hts hown hlk hml hl hP hK hX hS
  have hts : ∀ w ∈ cx_tb, w.before args s = true := fun w hw => hts w (List.mem_cons_of_mem _ hw)
  have hown : s.vm.findClass "GasLedger$Machine" = some m.cls := hown
  have hl : lv_has ls 8 [(0, .ref (b + x0)), (1, .int x1), (2, .int x2), (3, .int x3), (4, .int x4), (5, .int x5), (6, .int x6)] := hl
  unfold F_Mac_enter at h
  refine lv_aload_n (pc := 0) hx hb d_Mac_enter_0 rfl (lv_at hl 0 rfl) ?_
  refine va_get (pc := 1) (D := (dC, dI)) (ci := 3) (C := R_Mac) (T := T_Mac) (N := 6) hx hb hts in_Mac hown hK hP x0 (gx_at (cx_lt hk0 (by decide)) (sh_Mac cI cR b hk0 _)) rfl 2 (by decide) (hts _ tb_205) (fun _ h9 => h9) rfl d_Mac_enter_1 ?_
  refine lv_aload_n (pc := 4) hx hb d_Mac_enter_4 rfl (lv_at hl 0 rfl) ?_
  refine va_get (pc := 5) (D := (dC, dI)) (ci := 3) (C := R_Mac) (T := T_Mac) (N := 6) hx hb hts in_Mac hown hK hP x0 (gx_at (cx_lt hk0 (by decide)) (sh_Mac cI cR b hk0 _)) rfl 3 (by decide) (hts _ tb_206) (fun _ h9 => h9) rfl d_Mac_enter_5 ?_
  obtain ⟨g1, h⟩ := gx_if h
  refine gx_aald (pc := 8) hx hb hK hP (x0 + 11) 1 (to_Mac_frames hk0) rfl g1 d_Mac_enter_8 ?_
  refine lv_astore (pc := 9) (lv' := [(7, .ref (b + ((x0 + 11) + (1 + 9 * (V x0 3).toNatClampNeg)))), (0, .ref (b + x0)), (1, .int x1), (2, .int x2), (3, .int x3), (4, .int x4), (5, .int x5), (6, .int x6)]) hx hb d_Mac_enter_9 hl (by decide) rfl (fun ls hl => ?_)
  refine lv_aload_n (pc := 11) hx hb d_Mac_enter_11 rfl (lv_at hl 1 rfl) ?_
  refine lv_dup (pc := 12) hx hb d_Mac_enter_12 rfl ?_
  refine va_get (pc := 13) (D := (dC, dI)) (ci := 3) (C := R_Mac) (T := T_Mac) (N := 6) hx hb hts in_Mac hown hK hP x0 (gx_at (cx_lt hk0 (by decide)) (sh_Mac cI cR b hk0 _)) rfl 3 (by decide) (hts _ tb_206) (fun _ h9 => h9) rfl d_Mac_enter_13 ?_
  refine lv_iconst (pc := 16) (v := (1 : Int32)) hx hb d_Mac_enter_16 (by decide) ?_
  refine lv_iadd (pc := 17) hx hb d_Mac_enter_17 ?_
  obtain ⟨V1, g2, h⟩ := gx_lt h
  refine gy_put (pc := 18) (D := (dC, dI)) (ci := 3) (C := R_Mac) (T := T_Mac) (NF := 6) (ty := .int) hx hb hts in_Mac t_Mac ty_Mac nm_Mac hown hK hP hS x0 (cx_lt hk0 (by decide)) (sh_Mac cI cR b hk0 _) rfl 3 (by decide) (hts _ tb_206) (fun _ h9 => h9) rfl (by decide +kernel) rfl rfl (Nat.le_of_ble_eq_true rfl) 3 (sh_Mac cI cR b hk0 _) d_Mac_enter_18 g2 (fun H locs hP hS => ?_)
  refine lv_aload (pc := 21) hx hb d_Mac_enter_21 (lv_at hl 0 rfl) ?_
  refine lv_iload_n (pc := 23) hx hb d_Mac_enter_23 rfl (lv_at hl 2 rfl) ?_
  refine lv_iload_n (pc := 24) hx hb d_Mac_enter_24 rfl (lv_at hl 3 rfl) ?_
  refine lv_iload_n (pc := 25) hx hb d_Mac_enter_25 rfl (lv_at hl 4 rfl) ?_
  refine lv_iload (pc := 26) hx hb d_Mac_enter_26 (lv_at hl 5 rfl) ?_
  refine lv_iload (pc := 28) hx hb d_Mac_enter_28 (lv_at hl 6 rfl) ?_
  refine lv_iload (pc := 30) hx hb d_Mac_enter_30 (lv_at hl 7 rfl) ?_
  obtain ⟨q1, g3, h⟩ := gx_bd h
  refine gx_cv (pc := 32) (va_runV (C := "GasLedger$Frame") (As := [.int x1, .int x2, .int x3, .int x4, .int x5, .int x6]) (rest := []) ⟨hx, hb, hml, hown, hts⟩ (k_Frm_start l dC dI cI cR cZ b tP tN (to_frame (to_Mac_frames hk0) (gx_ilt g1)) g3) (gx_cw 6 hts cd_Frm_start tb_48 tb_349 tb_350 tb_351 rfl rfl ⟨by decide, by decide, by decide +kernel⟩ ⟨Nat.le_of_ble_eq_true rfl, Nat.le_of_ble_eq_true rfl⟩) (gy_preV (cx_XX b tP tN) hX hK hP hS (cx_lt (to_frame (to_Mac_frames hk0) (gx_ilt g1)) (by decide)) (sh_Frm cI cR b (to_frame (to_Mac_frames hk0) (gx_ilt g1)) _) rfl) rfl rfl hl.1 rfl (lv_room (Nat.le_of_ble_eq_true rfl)) d_Mac_enter_32 ⟨Nat.zero_le _, Nat.zero_le _⟩) hS (fun H locs hP hS => ?_)
  refine lv_aload (pc := 35) hx hb d_Mac_enter_35 (lv_at hl 0 rfl) ?_
  refine va_get (pc := 37) (D := (dC, dI)) (ci := 1) (C := R_Frm) (T := T_Frm) (N := 17) hx hb hts in_Frm hown hK hP ((x0 + 11) + (1 + 9 * (V x0 3).toNatClampNeg)) (gx_at (cx_lt (to_frame (to_Mac_frames hk0) (gx_ilt g1)) (by decide)) (sh_Frm cI cR b (to_frame (to_Mac_frames hk0) (gx_ilt g1)) _)) rfl 12 (by decide) (hts _ tb_161) (fun _ h9 => h9) rfl d_Mac_enter_37 ?_
  refine lv_aload_n (pc := 40) hx hb d_Mac_enter_40 rfl (lv_at hl 1 rfl) ?_
  refine va_get (pc := 41) (D := (dC, dI)) (ci := 3) (C := R_Mac) (T := T_Mac) (N := 6) hx hb hts in_Mac hown hK hP x0 (gx_at (cx_lt hk0 (by decide)) (sh_Mac cI cR b hk0 _)) rfl 0 (by decide) (hts _ tb_201) (fun _ h9 => h9) rfl d_Mac_enter_41 ?_
  obtain ⟨q2, g4, h⟩ := gx_bd h
  refine gx_cv (pc := 44) (va_runV (C := "GasLedger$Accounts") (As := [.ref (b + (x0 + 1))]) (rest := []) ⟨hx, hb, hml, hown, hts⟩ (k_Acc_copyFrom l dC dI cI cR cZ b tP tN (to_Frm_accountsBefore (to_frame (to_Mac_frames hk0) (gx_ilt g1))) (to_Mac_accounts hk0) g4) (gx_cw 1 hts cd_Acc_copyFrom tb_46 tb_353 tb_323 tb_324 rfl rfl ⟨by decide, by decide, by decide +kernel⟩ ⟨Nat.le_of_ble_eq_true rfl, Nat.le_of_ble_eq_true rfl⟩) (gy_preV (cx_XX b tP tN) hX hK hP hS (cx_lt (to_Frm_accountsBefore (to_frame (to_Mac_frames hk0) (gx_ilt g1))) (by decide)) (sh_Acc cI cR b (to_Frm_accountsBefore (to_frame (to_Mac_frames hk0) (gx_ilt g1))) _) rfl) rfl rfl hl.1 rfl (lv_room (Nat.le_of_ble_eq_true rfl)) d_Mac_enter_44 ⟨Nat.zero_le _, Nat.zero_le _⟩) hS (fun H locs hP hS => ?_)
  refine lv_aload (pc := 47) hx hb d_Mac_enter_47 (lv_at hl 0 rfl) ?_
  refine lv_aload_n (pc := 49) hx hb d_Mac_enter_49 rfl (lv_at hl 1 rfl) ?_
  refine va_get (pc := 50) (D := (dC, dI)) (ci := 3) (C := R_Mac) (T := T_Mac) (N := 6) hx hb hts in_Mac hown hK hP x0 (gx_at (cx_lt hk0 (by decide)) (sh_Mac cI cR b hk0 _)) rfl 4 (by decide) (hts _ tb_207) (fun _ h9 => h9) rfl d_Mac_enter_50 ?_
  obtain ⟨V2, g5, h⟩ := gx_lt h
  refine gy_put (pc := 53) (D := (dC, dI)) (ci := 1) (C := R_Frm) (T := T_Frm) (NF := 17) (ty := .int) hx hb hts in_Frm t_Frm ty_Frm nm_Frm hown hK hP hS ((x0 + 11) + (1 + 9 * (V x0 3).toNatClampNeg)) (cx_lt (to_frame (to_Mac_frames hk0) (gx_ilt g1)) (by decide)) (sh_Frm cI cR b (to_frame (to_Mac_frames hk0) (gx_ilt g1)) _) rfl 13 (by decide) (hts _ tb_162) (fun _ h9 => h9) rfl (by decide +kernel) rfl rfl (Nat.le_of_ble_eq_true rfl) 13 (sh_Frm cI cR b (to_frame (to_Mac_frames hk0) (gx_ilt g1)) _) d_Mac_enter_53 g5 (fun H locs hP hS => ?_)
  refine lv_aload (pc := 56) hx hb d_Mac_enter_56 (lv_at hl 0 rfl) ?_
  refine lv_aload_n (pc := 58) hx hb d_Mac_enter_58 rfl (lv_at hl 1 rfl) ?_
  refine va_get (pc := 59) (D := (dC, dI)) (ci := 3) (C := R_Mac) (T := T_Mac) (N := 6) hx hb hts in_Mac hown hK hP x0 (gx_at (cx_lt hk0 (by decide)) (sh_Mac cI cR b hk0 _)) rfl 5 (by decide) (hts _ tb_209) (fun _ h9 => h9) rfl d_Mac_enter_59 ?_
  obtain ⟨V3, g6, h⟩ := gx_lt h
  refine gy_put (pc := 62) (D := (dC, dI)) (ci := 1) (C := R_Frm) (T := T_Frm) (NF := 17) (ty := .int) hx hb hts in_Frm t_Frm ty_Frm nm_Frm hown hK hP hS ((x0 + 11) + (1 + 9 * (V x0 3).toNatClampNeg)) (cx_lt (to_frame (to_Mac_frames hk0) (gx_ilt g1)) (by decide)) (sh_Frm cI cR b (to_frame (to_Mac_frames hk0) (gx_ilt g1)) _) rfl 14 (by decide) (hts _ tb_163) (fun _ h9 => h9) rfl (by decide +kernel) rfl rfl (Nat.le_of_ble_eq_true rfl) 14 (sh_Frm cI cR b (to_frame (to_Mac_frames hk0) (gx_ilt g1)) _) d_Mac_enter_62 g6 (fun H locs hP hS => ?_)
  refine lv_aload (pc := 65) hx hb d_Mac_enter_65 (lv_at hl 0 rfl) ?_
  refine lv_aload_n (pc := 67) hx hb d_Mac_enter_67 rfl (lv_at hl 1 rfl) ?_
  refine va_get (pc := 68) (D := (dC, dI)) (ci := 3) (C := R_Mac) (T := T_Mac) (N := 6) hx hb hts in_Mac hown hK hP x0 (gx_at (cx_lt hk0 (by decide)) (sh_Mac cI cR b hk0 _)) rfl 1 (by decide) (hts _ tb_203) (fun _ h9 => h9) rfl d_Mac_enter_68 ?_
  refine va_get (pc := 71) (D := (dC, dI)) (ci := 2) (C := R_Log) (T := T_Log) (N := 4) hx hb hts in_Log hown hK hP (x0 + 8) (gx_at (cx_lt (to_Mac_logs hk0) (by decide)) (sh_Log cI cR b (to_Mac_logs hk0) _)) rfl 2 (by decide) (hts _ tb_111) (fun _ h9 => h9) rfl d_Mac_enter_71 ?_
  obtain ⟨V4, g7, h⟩ := gx_lt h
  refine gy_put (pc := 74) (D := (dC, dI)) (ci := 1) (C := R_Frm) (T := T_Frm) (NF := 17) (ty := .int) hx hb hts in_Frm t_Frm ty_Frm nm_Frm hown hK hP hS ((x0 + 11) + (1 + 9 * (V x0 3).toNatClampNeg)) (cx_lt (to_frame (to_Mac_frames hk0) (gx_ilt g1)) (by decide)) (sh_Frm cI cR b (to_frame (to_Mac_frames hk0) (gx_ilt g1)) _) rfl 15 (by decide) (hts _ tb_164) (fun _ h9 => h9) rfl (by decide +kernel) rfl rfl (Nat.le_of_ble_eq_true rfl) 15 (sh_Frm cI cR b (to_frame (to_Mac_frames hk0) (gx_ilt g1)) _) d_Mac_enter_74 g7 (fun H locs hP hS => ?_)
  refine lv_aload (pc := 77) hx hb d_Mac_enter_77 (lv_at hl 0 rfl) ?_
  refine lv_aload_n (pc := 79) hx hb d_Mac_enter_79 rfl (lv_at hl 1 rfl) ?_
  refine va_get (pc := 80) (D := (dC, dI)) (ci := 3) (C := R_Mac) (T := T_Mac) (N := 6) hx hb hts in_Mac hown hK hP x0 (gx_at (cx_lt hk0 (by decide)) (sh_Mac cI cR b hk0 _)) rfl 1 (by decide) (hts _ tb_203) (fun _ h9 => h9) rfl d_Mac_enter_80 ?_
  refine va_get (pc := 83) (D := (dC, dI)) (ci := 2) (C := R_Log) (T := T_Log) (N := 4) hx hb hts in_Log hown hK hP (x0 + 8) (gx_at (cx_lt (to_Mac_logs hk0) (by decide)) (sh_Log cI cR b (to_Mac_logs hk0) _)) rfl 3 (by decide) (hts _ tb_114) (fun _ h9 => h9) rfl d_Mac_enter_83 ?_
  obtain ⟨V5, g8, h⟩ := gx_lt h
  refine gy_put (pc := 86) (D := (dC, dI)) (ci := 1) (C := R_Frm) (T := T_Frm) (NF := 17) (ty := .int) hx hb hts in_Frm t_Frm ty_Frm nm_Frm hown hK hP hS ((x0 + 11) + (1 + 9 * (V x0 3).toNatClampNeg)) (cx_lt (to_frame (to_Mac_frames hk0) (gx_ilt g1)) (by decide)) (sh_Frm cI cR b (to_frame (to_Mac_frames hk0) (gx_ilt g1)) _) rfl 16 (by decide) (hts _ tb_165) (fun _ h9 => h9) rfl (by decide +kernel) rfl rfl (Nat.le_of_ble_eq_true rfl) 16 (sh_Frm cI cR b (to_frame (to_Mac_frames hk0) (gx_ilt g1)) _) d_Mac_enter_86 g8 (fun H locs hP hS => ?_)
  exact gx_vret hx hb hr hlk hP hS d_Mac_enter_89 (by cases h; rfl) (by cases h; rfl)
abbrev rm_Acc_give : Room := { frames := 0, cells := 0, slots := 0, locals := 0 }
def F_Acc_give (x0 : Nat) (x1 : Int32) (x2 : Int32) (x3 : Int32) (V : gx_M) : Option gx_M := (if gx_ib x1 16 then (if gx_ib x1 16 then (gx_let (gx_u V (x0 + 1) x1.toNatClampNeg ((V (x0 + 1) x1.toNatClampNeg) - x3)) fun V1 => (if gx_ib x2 16 then (if gx_ib x2 16 then (gx_let (gx_u V1 (x0 + 1) x2.toNatClampNeg ((V1 (x0 + 1) x2.toNatClampNeg) + x3)) fun V2 => some V2) else none) else none)) else none) else none)
set_option maxRecDepth 100000 in
set_option maxHeartbeats 8000000 in
theorem k_Acc_give (l : Launch) (dC : Nat → ClassId) (dI : Nat → Nat → Nat) (cI cR cZ : ClassId) (b tP tN : Nat) {x0 : Nat} {x1 : Int32} {x2 : Int32} {x3 : Int32} {V : gx_M} {q : gx_M} (hk0 : cx_kd x0 = 0) (h : F_Acc_give x0 x1 x2 x3 V = some q) : cx_C l dC dI cI cR cZ b tP tN y_Acc_give w_Acc_give rm_Acc_give [.ref (b + x0), .int x1, .int x2, .int x3] V none q := by
  refine gx_start (cc := b_Acc_give) (maxL := 4) (ret := rt_Acc_give) (by decide) rfl (Nat.le_of_ble_eq_true rfl) ?_
  intro p e s m args below meth c ls hx hb hr hts hown hlk hml hl hP hK hX hS
  have hts : ∀ w ∈ cx_tb, w.before args s = true := fun w hw => hts w (List.mem_cons_of_mem _ hw)
  have hown : s.vm.findClass "GasLedger$Accounts" = some m.cls := hown
  have hl : lv_has ls 4 [(0, .ref (b + x0)), (1, .int x1), (2, .int x2), (3, .int x3)] := hl
  unfold F_Acc_give at h
  refine lv_aload_n (pc := 0) hx hb d_Acc_give_0 rfl (lv_at hl 0 rfl) ?_
  refine va_get (pc := 1) (D := (dC, dI)) (ci := 0) (C := R_Acc) (T := T_Acc) (N := 6) hx hb hts in_Acc hown hK hP x0 (gx_at (cx_lt hk0 (by decide)) (sh_Acc cI cR b hk0 _)) rfl 0 (by decide) (hts _ tb_74) (fun _ h9 => h9) rfl d_Acc_give_1 ?_
  refine lv_iload_n (pc := 4) hx hb d_Acc_give_4 rfl (lv_at hl 1 rfl) ?_
  refine lv_dup2_11 (pc := 5) hx hb d_Acc_give_5 rfl rfl ?_
  obtain ⟨g1, h⟩ := gx_if h
  refine va_iald (pc := 6) hx hb hK hP (x0 + 1) 0 (gx_at (cx_lt (to_Acc_balances hk0) (by decide)) (sh_arr cI cR b (n := 16) (to_Acc_balances hk0) _)) rfl g1 d_Acc_give_6 ?_
  refine lv_iload_n (pc := 7) hx hb d_Acc_give_7 rfl (lv_at hl 3 rfl) ?_
  refine lv_isub (pc := 8) hx hb d_Acc_give_8 ?_
  obtain ⟨g2, h⟩ := gx_if h
  obtain ⟨V1, g3, h⟩ := gx_lt h
  refine gx_asi (pc := 9) hx hb hK hP hS (x0 + 1) 0 (cx_lt (to_Acc_balances hk0) (by decide)) (fun _ => sh_arr cI cR b (n := 16) (to_Acc_balances hk0) _) rfl g2 d_Acc_give_9 g3 (fun H locs hP hS => ?_)
  refine lv_aload_n (pc := 10) hx hb d_Acc_give_10 rfl (lv_at hl 0 rfl) ?_
  refine va_get (pc := 11) (D := (dC, dI)) (ci := 0) (C := R_Acc) (T := T_Acc) (N := 6) hx hb hts in_Acc hown hK hP x0 (gx_at (cx_lt hk0 (by decide)) (sh_Acc cI cR b hk0 _)) rfl 0 (by decide) (hts _ tb_74) (fun _ h9 => h9) rfl d_Acc_give_11 ?_
  refine lv_iload_n (pc := 14) hx hb d_Acc_give_14 rfl (lv_at hl 2 rfl) ?_
  refine lv_dup2_11 (pc := 15) hx hb d_Acc_give_15 rfl rfl ?_
  obtain ⟨g4, h⟩ := gx_if h
  refine va_iald (pc := 16) hx hb hK hP (x0 + 1) 0 (gx_at (cx_lt (to_Acc_balances hk0) (by decide)) (sh_arr cI cR b (n := 16) (to_Acc_balances hk0) _)) rfl g4 d_Acc_give_16 ?_
  refine lv_iload_n (pc := 17) hx hb d_Acc_give_17 rfl (lv_at hl 3 rfl) ?_
  refine lv_iadd (pc := 18) hx hb d_Acc_give_18 ?_
  obtain ⟨g5, h⟩ := gx_if h
  obtain ⟨V2, g6, h⟩ := gx_lt h
  refine gx_asi (pc := 19) hx hb hK hP hS (x0 + 1) 0 (cx_lt (to_Acc_balances hk0) (by decide)) (fun _ => sh_arr cI cR b (n := 16) (to_Acc_balances hk0) _) rfl g5 d_Acc_give_19 g6 (fun H locs hP hS => ?_)
  exact gx_vret hx hb hr hlk hP hS d_Acc_give_20 (by cases h; rfl) (by cases h; rfl)
