abbrev rm_Mac_callOther : Room := { frames := 3, cells := 0, slots := 0, locals := 112 }
def F_Mac_callOther_78 (x0 : Nat) (x1 : Nat) (x2 : Int32) (x3 : Int32) (x4 : Int32) (x5 : Int32) (s0 : Int32) (V : gx_M) : Option gx_M := ((F_Mac_takeGas x0 x1 x2 V).bind fun q1 => ((F_Mac_enter x0 x3 x3 (V x1 0) x4 x5 (q1.1 + s0) q1.2).bind fun q2 => ((F_Acc_give (x0 + 1) (q2 x1 0) x3 x4 q2).bind fun q3 => some q3)))
def F_Mac_callOther (x0 : Nat) (x1 : Nat) (V : gx_M) : Option gx_M := ((F_Frm_pop x1 V).bind fun q4 => ((F_Frm_pop x1 q4.2).bind fun q5 => ((F_Frm_pop x1 q5.2).bind fun q6 => ((F_Frm_pop x1 q6.2).bind fun q7 => (if 0 ≤ q6.1 then ((F_Mac_canEnter x0 q5.1 q7.2).bind fun q8 => (if q8.1 = 0 then ((F_Mac_pushNoFrame x0 x1 q8.2).bind fun q9 => some q9) else (if gx_ib (q8.2 x1 0) 16 then (if q6.1 ≤ (q8.2 ((x0 + 1) + 1) (q8.2 x1 0).toNatClampNeg) then (if q6.1 = 0 then (F_Mac_callOther_78   x0 x1 q4.1 q5.1 q6.1 q7.1 (0 : Int32) q8.2) else (F_Mac_callOther_78   x0 x1 q4.1 q5.1 q6.1 q7.1 (10 : Int32) q8.2)) else ((F_Mac_pushNoFrame x0 x1 q8.2).bind fun q10 => some q10)) else none))) else ((F_Frm_fail x1 q7.2).bind fun q11 => some q11))))))
set_option maxRecDepth 100000 in
set_option maxHeartbeats 8000000 in
theorem k_Mac_callOther (l : Launch) (dC : Nat → ClassId) (dI : Nat → Nat → Nat) (cI cR cZ : ClassId) (b tP tN : Nat) {x0 : Nat} {x1 : Nat} {V : gx_M} {q : gx_M} (hk0 : cx_kd x0 = 3) (hk1 : cx_kd x1 = 1) (h : F_Mac_callOther x0 x1 V = some q) : cx_C l dC dI cI cR cZ b tP tN y_Mac_callOther w_Mac_callOther rm_Mac_callOther [.ref (b + x0), .ref (b + x1)] V none q := by
  refine gx_start (cc := b_Mac_callOther) (maxL := 7) (ret := rt_Mac_callOther) (by decide) rfl (Nat.le_of_ble_eq_true rfl) ?_
  intro p e s m args below meth c ls hx hb hr hts hown hlk hml hl hP hK hX hS
  have hts : ∀ w ∈ cx_tb, w.before args s = true := fun w hw => hts w (List.mem_cons_of_mem _ hw)
  have hown : s.vm.findClass "GasLedger$Machine" = some m.cls := hown
  have hl : lv_has ls 7 [(0, .ref (b + x0)), (1, .ref (b + x1))] := hl
  have B_78 : ∀ (x0 : Nat) (x1 : Nat) (x2 : Int32) (x3 : Int32) (x4 : Int32) (x5 : Int32) (s0 : Int32), cx_kd x0 = 3 → cx_kd x1 = 1 → ∀ (V : gx_M) (H : Heap) (locs : List Loc) (ls : Array Slot), lv_has ls 7 [(0, .ref (b + x0)), (1, .ref (b + x1)), (2, .int x2), (3, .int x3), (4, .int x4), (5, .int x5)] → va_P (dC, dI) cx_cl (gx_w b 97 (gx_v (cx_sh cI cR b) V)) H → va_S (gx_A b 97) s.heap H locs → F_Mac_callOther_78 x0 x1 x2 x3 x4 x5 s0 V = some q → W p l e (headSpec w_Mac_callOther rm_Mac_callOther).room s m args below meth c H locs 0 0 (MQ below (gx_Q (dC, dI) cx_cl b 97 (cx_sh cI cR b) none q) args s 0 0 (gx_A b 97)) (F0 m 78 ls [.int s0]) := by
    intro x0 x1 x2 x3 x4 x5 s0 hk_x0 hk_x1 V H locs ls hl hP hS h
    unfold F_Mac_callOther_78 at h
    refine lv_istore (pc := 78) (lv' := [(6, .int s0), (0, .ref (b + x0)), (1, .ref (b + x1)), (2, .int x2), (3, .int x3), (4, .int x4), (5, .int x5)]) hx hb d_Mac_callOther_78 hl (by decide) rfl (fun ls hl => ?_)
    refine lv_aload_n (pc := 80) hx hb d_Mac_callOther_80 rfl (lv_at hl 1 rfl) ?_
    refine lv_iload_n (pc := 81) hx hb d_Mac_callOther_81 rfl (lv_at hl 4 rfl) ?_
    refine lv_iload_n (pc := 82) hx hb d_Mac_callOther_82 rfl (lv_at hl 4 rfl) ?_
    refine lv_aload_n (pc := 83) hx hb d_Mac_callOther_83 rfl (lv_at hl 2 rfl) ?_
    refine va_get (pc := 84) (D := (dC, dI)) (ci := 1) (C := R_Frm) (T := T_Frm) (N := 17) hx hb hts in_Frm hown hK hP x1 (gx_at (cx_lt hk_x1 (by decide)) (sh_Frm cI cR b hk_x1 _)) rfl 0 (by decide) (hts _ tb_135) (fun _ h9 => h9) rfl d_Mac_callOther_84 ?_
    refine lv_iload (pc := 87) hx hb d_Mac_callOther_87 (lv_at hl 5 rfl) ?_
    refine lv_iload (pc := 89) hx hb d_Mac_callOther_89 (lv_at hl 6 rfl) ?_
    refine lv_aload_n (pc := 91) hx hb d_Mac_callOther_91 rfl (lv_at hl 1 rfl) ?_
    refine lv_aload_n (pc := 92) hx hb d_Mac_callOther_92 rfl (lv_at hl 2 rfl) ?_
    refine lv_iload_n (pc := 93) hx hb d_Mac_callOther_93 rfl (lv_at hl 3 rfl) ?_
    obtain ⟨q1, g1, h⟩ := gx_bd h
    refine gx_ci (pc := 94) (va_runV (C := "GasLedger$Machine") (As := [.ref (b + x1), .int x2]) (rest := [.int x5, .int x4, .int (V x1 0), .int x3, .int x3, .ref (b + x0)]) ⟨hx, hb, hml, hown, hts⟩ (k_Mac_takeGas l dC dI cI cR cZ b tP tN hk_x0 hk_x1 g1) (gx_cw 2 hts cd_Mac_takeGas tb_45 tb_444 tb_446 tb_11 rfl rfl ⟨by decide, by decide, by decide +kernel⟩ ⟨Nat.le_of_ble_eq_true rfl, Nat.le_of_ble_eq_true rfl⟩) (gy_preV (cx_XX b tP tN) hX hK hP hS (cx_lt hk_x0 (by decide)) (sh_Mac cI cR b hk_x0 _) rfl) rfl rfl hl.1 rfl (lv_room (Nat.le_of_ble_eq_true rfl)) d_Mac_callOther_94 ⟨Nat.zero_le _, Nat.zero_le _⟩) hS (fun H locs hP hS => ?_)
    refine lv_iload (pc := 97) hx hb d_Mac_callOther_97 (lv_at hl 0 rfl) ?_
    refine lv_iadd (pc := 99) hx hb d_Mac_callOther_99 ?_
    obtain ⟨q2, g2, h⟩ := gx_bd h
    refine gx_cv (pc := 100) (va_runV (C := "GasLedger$Machine") (As := [.int x3, .int x3, .int (V x1 0), .int x4, .int x5, .int (q1.1 + s0)]) (rest := []) ⟨hx, hb, hml, hown, hts⟩ (k_Mac_enter l dC dI cI cR cZ b tP tN hk_x0 g2) (gx_cw 6 hts cd_Mac_enter tb_45 tb_345 tb_347 tb_2 rfl rfl ⟨by decide, by decide, by decide +kernel⟩ ⟨Nat.le_of_ble_eq_true rfl, Nat.le_of_ble_eq_true rfl⟩) (gy_preV (cx_XX b tP tN) hX hK hP hS (cx_lt hk_x0 (by decide)) (sh_Mac cI cR b hk_x0 _) rfl) rfl rfl hl.1 rfl (lv_room (Nat.le_of_ble_eq_true rfl)) d_Mac_callOther_100 ⟨Nat.zero_le _, Nat.zero_le _⟩) hS (fun H locs hP hS => ?_)
    refine lv_aload_n (pc := 103) hx hb d_Mac_callOther_103 rfl (lv_at hl 1 rfl) ?_
    refine va_get (pc := 104) (D := (dC, dI)) (ci := 3) (C := R_Mac) (T := T_Mac) (N := 6) hx hb hts in_Mac hown hK hP x0 (gx_at (cx_lt hk_x0 (by decide)) (sh_Mac cI cR b hk_x0 _)) rfl 0 (by decide) (hts _ tb_201) (fun _ h9 => h9) rfl d_Mac_callOther_104 ?_
    refine lv_aload_n (pc := 107) hx hb d_Mac_callOther_107 rfl (lv_at hl 2 rfl) ?_
    refine va_get (pc := 108) (D := (dC, dI)) (ci := 1) (C := R_Frm) (T := T_Frm) (N := 17) hx hb hts in_Frm hown hK hP x1 (gx_at (cx_lt hk_x1 (by decide)) (sh_Frm cI cR b hk_x1 _)) rfl 0 (by decide) (hts _ tb_135) (fun _ h9 => h9) rfl d_Mac_callOther_108 ?_
    refine lv_iload_n (pc := 111) hx hb d_Mac_callOther_111 rfl (lv_at hl 4 rfl) ?_
    refine lv_iload (pc := 112) hx hb d_Mac_callOther_112 (lv_at hl 5 rfl) ?_
    obtain ⟨q3, g3, h⟩ := gx_bd h
    refine gx_cv (pc := 114) (va_runV (C := "GasLedger$Accounts") (As := [.int (q2 x1 0), .int x3, .int x4]) (rest := []) ⟨hx, hb, hml, hown, hts⟩ (k_Acc_give l dC dI cI cR cZ b tP tN (to_Mac_accounts hk_x0) g3) (gx_cw 3 hts cd_Acc_give tb_46 tb_354 tb_355 tb_356 rfl rfl ⟨by decide, by decide, by decide +kernel⟩ ⟨Nat.le_of_ble_eq_true rfl, Nat.le_of_ble_eq_true rfl⟩) (gy_preV (cx_XX b tP tN) hX hK hP hS (cx_lt (to_Mac_accounts hk_x0) (by decide)) (sh_Acc cI cR b (to_Mac_accounts hk_x0) _) rfl) rfl rfl hl.1 rfl (lv_room (Nat.le_of_ble_eq_true rfl)) d_Mac_callOther_114 ⟨Nat.zero_le _, Nat.zero_le _⟩) hS (fun H locs hP hS => ?_)
    exact gx_vret hx hb hr hlk hP hS d_Mac_callOther_117 (by cases h; rfl) (by cases h; rfl)
  unfold F_Mac_callOther at h
  refine lv_aload_n (pc := 0) hx hb d_Mac_callOther_0 rfl (lv_at hl 1 rfl) ?_
  obtain ⟨q4, g4, h⟩ := gx_bd h
  refine gx_ci (pc := 1) (va_runV (C := "GasLedger$Frame") (As := []) (rest := []) ⟨hx, hb, hml, hown, hts⟩ (k_Frm_pop l dC dI cI cR cZ b tP tN hk1 g4) (gx_cw 0 hts cd_Frm_pop tb_48 tb_406 tb_407 tb_408 rfl rfl ⟨by decide, by decide, by decide +kernel⟩ ⟨Nat.le_of_ble_eq_true rfl, Nat.le_of_ble_eq_true rfl⟩) (gy_preV (cx_XX b tP tN) hX hK hP hS (cx_lt hk1 (by decide)) (sh_Frm cI cR b hk1 _) rfl) rfl rfl hl.1 rfl (lv_room (Nat.le_of_ble_eq_true rfl)) d_Mac_callOther_1 ⟨Nat.zero_le _, Nat.zero_le _⟩) hS (fun H locs hP hS => ?_)
  refine lv_istore_n (pc := 4) (lv' := [(2, .int q4.1), (0, .ref (b + x0)), (1, .ref (b + x1))]) hx hb d_Mac_callOther_4 rfl hl (by decide) rfl (fun ls hl => ?_)
  refine lv_aload_n (pc := 5) hx hb d_Mac_callOther_5 rfl (lv_at hl 2 rfl) ?_
  obtain ⟨q5, g5, h⟩ := gx_bd h
  refine gx_ci (pc := 6) (va_runV (C := "GasLedger$Frame") (As := []) (rest := []) ⟨hx, hb, hml, hown, hts⟩ (k_Frm_pop l dC dI cI cR cZ b tP tN hk1 g5) (gx_cw 0 hts cd_Frm_pop tb_48 tb_406 tb_407 tb_408 rfl rfl ⟨by decide, by decide, by decide +kernel⟩ ⟨Nat.le_of_ble_eq_true rfl, Nat.le_of_ble_eq_true rfl⟩) (gy_preV (cx_XX b tP tN) hX hK hP hS (cx_lt hk1 (by decide)) (sh_Frm cI cR b hk1 _) rfl) rfl rfl hl.1 rfl (lv_room (Nat.le_of_ble_eq_true rfl)) d_Mac_callOther_6 ⟨Nat.zero_le _, Nat.zero_le _⟩) hS (fun H locs hP hS => ?_)
  refine lv_istore_n (pc := 9) (lv' := [(3, .int q5.1), (2, .int q4.1), (0, .ref (b + x0)), (1, .ref (b + x1))]) hx hb d_Mac_callOther_9 rfl hl (by decide) rfl (fun ls hl => ?_)
  refine lv_aload_n (pc := 10) hx hb d_Mac_callOther_10 rfl (lv_at hl 3 rfl) ?_
  obtain ⟨q6, g6, h⟩ := gx_bd h
  refine gx_ci (pc := 11) (va_runV (C := "GasLedger$Frame") (As := []) (rest := []) ⟨hx, hb, hml, hown, hts⟩ (k_Frm_pop l dC dI cI cR cZ b tP tN hk1 g6) (gx_cw 0 hts cd_Frm_pop tb_48 tb_406 tb_407 tb_408 rfl rfl ⟨by decide, by decide, by decide +kernel⟩ ⟨Nat.le_of_ble_eq_true rfl, Nat.le_of_ble_eq_true rfl⟩) (gy_preV (cx_XX b tP tN) hX hK hP hS (cx_lt hk1 (by decide)) (sh_Frm cI cR b hk1 _) rfl) rfl rfl hl.1 rfl (lv_room (Nat.le_of_ble_eq_true rfl)) d_Mac_callOther_11 ⟨Nat.zero_le _, Nat.zero_le _⟩) hS (fun H locs hP hS => ?_)
  refine lv_istore (pc := 14) (lv' := [(4, .int q6.1), (3, .int q5.1), (2, .int q4.1), (0, .ref (b + x0)), (1, .ref (b + x1))]) hx hb d_Mac_callOther_14 hl (by decide) rfl (fun ls hl => ?_)
  refine lv_aload_n (pc := 16) hx hb d_Mac_callOther_16 rfl (lv_at hl 4 rfl) ?_
  obtain ⟨q7, g7, h⟩ := gx_bd h
  refine gx_ci (pc := 17) (va_runV (C := "GasLedger$Frame") (As := []) (rest := []) ⟨hx, hb, hml, hown, hts⟩ (k_Frm_pop l dC dI cI cR cZ b tP tN hk1 g7) (gx_cw 0 hts cd_Frm_pop tb_48 tb_406 tb_407 tb_408 rfl rfl ⟨by decide, by decide, by decide +kernel⟩ ⟨Nat.le_of_ble_eq_true rfl, Nat.le_of_ble_eq_true rfl⟩) (gy_preV (cx_XX b tP tN) hX hK hP hS (cx_lt hk1 (by decide)) (sh_Frm cI cR b hk1 _) rfl) rfl rfl hl.1 rfl (lv_room (Nat.le_of_ble_eq_true rfl)) d_Mac_callOther_17 ⟨Nat.zero_le _, Nat.zero_le _⟩) hS (fun H locs hP hS => ?_)
  refine lv_istore (pc := 20) (lv' := [(5, .int q7.1), (4, .int q6.1), (3, .int q5.1), (2, .int q4.1), (0, .ref (b + x0)), (1, .ref (b + x1))]) hx hb d_Mac_callOther_20 hl (by decide) rfl (fun ls hl => ?_)
  refine lv_iload (pc := 22) hx hb d_Mac_callOther_22 (lv_at hl 1 rfl) ?_
  refine lv_if_ge (pc := 24) (tgt := 34) hx hb d_Mac_callOther_24 (by decide) (fun g8 => ?_) (fun g8 => ?_)
  · have h := gx_pos g8 h
    refine lv_aload_n (pc := 34) hx hb d_Mac_callOther_34 rfl (lv_at hl 4 rfl) ?_
    refine lv_iload_n (pc := 35) hx hb d_Mac_callOther_35 rfl (lv_at hl 2 rfl) ?_
    obtain ⟨q8, g9, h⟩ := gx_bd h
    refine gx_ci (pc := 36) (va_runV (C := "GasLedger$Machine") (As := [.int q5.1]) (rest := []) ⟨hx, hb, hml, hown, hts⟩ (k_Mac_canEnter l dC dI cI cR cZ b tP tN hk0 g9) (gx_cw 1 hts cd_Mac_canEnter tb_45 tb_431 tb_433 tb_9 rfl rfl ⟨by decide, by decide, by decide +kernel⟩ ⟨Nat.le_of_ble_eq_true rfl, Nat.le_of_ble_eq_true rfl⟩) (gy_preV (cx_XX b tP tN) hX hK hP hS (cx_lt hk0 (by decide)) (sh_Mac cI cR b hk0 _) rfl) rfl rfl hl.1 rfl (lv_room (Nat.le_of_ble_eq_true rfl)) d_Mac_callOther_36 ⟨Nat.zero_le _, Nat.zero_le _⟩) hS (fun H locs hP hS => ?_)
    refine lv_if_eq (pc := 39) (tgt := 59) hx hb d_Mac_callOther_39 (by decide) (fun g10 => ?_) (fun g10 => ?_)
    · have h := gx_pos g10 h
      refine lv_aload_n (pc := 59) hx hb d_Mac_callOther_59 rfl (lv_at hl 4 rfl) ?_
      refine lv_aload_n (pc := 60) hx hb d_Mac_callOther_60 rfl (lv_at hl 5 rfl) ?_
      obtain ⟨q9, g11, h⟩ := gx_bd h
      refine gx_cv (pc := 61) (va_runV (C := "GasLedger$Machine") (As := [.ref (b + x1)]) (rest := []) ⟨hx, hb, hml, hown, hts⟩ (k_Mac_pushNoFrame l dC dI cI cR cZ b tP tN hk0 hk1 g11) (gx_cw 1 hts cd_Mac_pushNoFrame tb_45 tb_436 tb_438 tb_10 rfl rfl ⟨by decide, by decide, by decide +kernel⟩ ⟨Nat.le_of_ble_eq_true rfl, Nat.le_of_ble_eq_true rfl⟩) (gy_preV (cx_XX b tP tN) hX hK hP hS (cx_lt hk0 (by decide)) (sh_Mac cI cR b hk0 _) rfl) rfl rfl hl.1 rfl (lv_room (Nat.le_of_ble_eq_true rfl)) d_Mac_callOther_61 ⟨Nat.zero_le _, Nat.zero_le _⟩) hS (fun H locs hP hS => ?_)
      refine lv_goto (pc := 64) (tgt := 117) hx hb d_Mac_callOther_64 (by decide) ?_
      exact gx_vret hx hb hr hlk hP hS d_Mac_callOther_117 (by cases h; rfl) (by cases h; rfl)
    · have h := gx_neg g10 h
      refine lv_aload_n (pc := 42) hx hb d_Mac_callOther_42 rfl (lv_at hl 4 rfl) ?_
      refine va_get (pc := 43) (D := (dC, dI)) (ci := 3) (C := R_Mac) (T := T_Mac) (N := 6) hx hb hts in_Mac hown hK hP x0 (gx_at (cx_lt hk0 (by decide)) (sh_Mac cI cR b hk0 _)) rfl 0 (by decide) (hts _ tb_201) (fun _ h9 => h9) rfl d_Mac_callOther_43 ?_
      refine va_get (pc := 46) (D := (dC, dI)) (ci := 0) (C := R_Acc) (T := T_Acc) (N := 6) hx hb hts in_Acc hown hK hP (x0 + 1) (gx_at (cx_lt (to_Mac_accounts hk0) (by decide)) (sh_Acc cI cR b (to_Mac_accounts hk0) _)) rfl 0 (by decide) (hts _ tb_76) (fun _ h9 => h9) rfl d_Mac_callOther_46 ?_
      refine lv_aload_n (pc := 49) hx hb d_Mac_callOther_49 rfl (lv_at hl 5 rfl) ?_
      refine va_get (pc := 50) (D := (dC, dI)) (ci := 1) (C := R_Frm) (T := T_Frm) (N := 17) hx hb hts in_Frm hown hK hP x1 (gx_at (cx_lt hk1 (by decide)) (sh_Frm cI cR b hk1 _)) rfl 0 (by decide) (hts _ tb_135) (fun _ h9 => h9) rfl d_Mac_callOther_50 ?_
      obtain ⟨g12, h⟩ := gx_if h
      refine va_iald (pc := 53) hx hb hK hP ((x0 + 1) + 1) 0 (gx_at (cx_lt (to_Acc_balances (to_Mac_accounts hk0)) (by decide)) (sh_arr cI cR b (n := 16) (to_Acc_balances (to_Mac_accounts hk0)) _)) rfl g12 d_Mac_callOther_53 ?_
      refine lv_iload (pc := 54) hx hb d_Mac_callOther_54 (lv_at hl 1 rfl) ?_
      refine lv_icmp_ge (pc := 56) (tgt := 67) hx hb d_Mac_callOther_56 (by decide) (fun g13 => ?_) (fun g13 => ?_)
      · have h := gx_pos g13 h
        refine lv_iload (pc := 67) hx hb d_Mac_callOther_67 (lv_at hl 1 rfl) ?_
        refine lv_if_eq (pc := 69) (tgt := 77) hx hb d_Mac_callOther_69 (by decide) (fun g14 => ?_) (fun g14 => ?_)
        · have h := gx_pos g14 h
          refine lv_iconst (pc := 77) (v := (0 : Int32)) hx hb d_Mac_callOther_77 (by decide) ?_
          exact B_78   _ _ _ _ _ _ _ hk0 hk1 _ _ _ _ (lv_sub hl [4, 5, 3, 2, 1, 0] rfl) hP hS h
        · have h := gx_neg g14 h
          refine lv_bipush (pc := 72) (v := (10 : Int32)) hx hb d_Mac_callOther_72 (by decide) ?_
          refine lv_goto (pc := 74) (tgt := 78) hx hb d_Mac_callOther_74 (by decide) ?_
          exact B_78   _ _ _ _ _ _ _ hk0 hk1 _ _ _ _ (lv_sub hl [4, 5, 3, 2, 1, 0] rfl) hP hS h
      · have h := gx_neg g13 h
        refine lv_aload_n (pc := 59) hx hb d_Mac_callOther_59 rfl (lv_at hl 4 rfl) ?_
        refine lv_aload_n (pc := 60) hx hb d_Mac_callOther_60 rfl (lv_at hl 5 rfl) ?_
        obtain ⟨q10, g15, h⟩ := gx_bd h
        refine gx_cv (pc := 61) (va_runV (C := "GasLedger$Machine") (As := [.ref (b + x1)]) (rest := []) ⟨hx, hb, hml, hown, hts⟩ (k_Mac_pushNoFrame l dC dI cI cR cZ b tP tN hk0 hk1 g15) (gx_cw 1 hts cd_Mac_pushNoFrame tb_45 tb_436 tb_438 tb_10 rfl rfl ⟨by decide, by decide, by decide +kernel⟩ ⟨Nat.le_of_ble_eq_true rfl, Nat.le_of_ble_eq_true rfl⟩) (gy_preV (cx_XX b tP tN) hX hK hP hS (cx_lt hk0 (by decide)) (sh_Mac cI cR b hk0 _) rfl) rfl rfl hl.1 rfl (lv_room (Nat.le_of_ble_eq_true rfl)) d_Mac_callOther_61 ⟨Nat.zero_le _, Nat.zero_le _⟩) hS (fun H locs hP hS => ?_)
        refine lv_goto (pc := 64) (tgt := 117) hx hb d_Mac_callOther_64 (by decide) ?_
        exact gx_vret hx hb hr hlk hP hS d_Mac_callOther_117 (by cases h; rfl) (by cases h; rfl)
  · have h := gx_neg g8 h
    refine lv_aload_n (pc := 27) hx hb d_Mac_callOther_27 rfl (lv_at hl 5 rfl) ?_
    obtain ⟨q11, g16, h⟩ := gx_bd h
    refine gx_cv (pc := 28) (va_runV (C := "GasLedger$Frame") (As := []) (rest := []) ⟨hx, hb, hml, hown, hts⟩ (k_Frm_fail l dC dI cI cR cZ b tP tN hk1 g16) (gx_cw 0 hts cd_Frm_fail tb_48 tb_397 tb_398 tb_399 rfl rfl ⟨by decide, by decide, by decide +kernel⟩ ⟨Nat.le_of_ble_eq_true rfl, Nat.le_of_ble_eq_true rfl⟩) (gy_preV (cx_XX b tP tN) hX hK hP hS (cx_lt hk1 (by decide)) (sh_Frm cI cR b hk1 _) rfl) rfl rfl hl.1 rfl (lv_room (Nat.le_of_ble_eq_true rfl)) d_Mac_callOther_28 ⟨Nat.zero_le _, Nat.zero_le _⟩) hS (fun H locs hP hS => ?_)
    refine lv_goto (pc := 31) (tgt := 117) hx hb d_Mac_callOther_31 (by decide) ?_
    exact gx_vret hx hb hr hlk hP hS d_Mac_callOther_117 (by cases h; rfl) (by cases h; rfl)
abbrev rm_Mac_delegate : Room := { frames := 3, cells := 0, slots := 0, locals := 112 }
def F_Mac_delegate (x0 : Nat) (x1 : Nat) (V : gx_M) : Option gx_M := ((F_Frm_pop x1 V).bind fun q1 => ((F_Frm_pop x1 q1.2).bind fun q2 => ((F_Frm_pop x1 q2.2).bind fun q3 => ((F_Mac_canEnter x0 q2.1 q3.2).bind fun q4 => (if q4.1 = 0 then ((F_Mac_pushNoFrame x0 x1 q4.2).bind fun q5 => some q5) else ((F_Mac_takeGas x0 x1 q1.1 q4.2).bind fun q6 => ((F_Mac_enter x0 (q4.2 x1 0) q2.1 (q4.2 x1 3) (q4.2 x1 4) q3.1 q6.1 q6.2).bind fun q7 => some q7)))))))
set_option maxRecDepth 100000 in
set_option maxHeartbeats 8000000 in
theorem k_Mac_delegate (l : Launch) (dC : Nat → ClassId) (dI : Nat → Nat → Nat) (cI cR cZ : ClassId) (b tP tN : Nat) {x0 : Nat} {x1 : Nat} {V : gx_M} {q : gx_M} (hk0 : cx_kd x0 = 3) (hk1 : cx_kd x1 = 1) (h : F_Mac_delegate x0 x1 V = some q) : cx_C l dC dI cI cR cZ b tP tN y_Mac_delegate w_Mac_delegate rm_Mac_delegate [.ref (b + x0), .ref (b + x1)] V none q := by
  refine gx_start (cc := b_Mac_delegate) (maxL := 5) (ret := rt_Mac_delegate) (by decide) rfl (Nat.le_of_ble_eq_true rfl) ?_
  intro p e s m args below meth c ls hx hb hr hts hown hlk hml hl hP hK hX hS
  have hts : ∀ w ∈ cx_tb, w.before args s = true := fun w hw => hts w (List.mem_cons_of_mem _ hw)
  have hown : s.vm.findClass "GasLedger$Machine" = some m.cls := hown
  have hl : lv_has ls 5 [(0, .ref (b + x0)), (1, .ref (b + x1))] := hl
  unfold F_Mac_delegate at h
  refine lv_aload_n (pc := 0) hx hb d_Mac_delegate_0 rfl (lv_at hl 1 rfl) ?_
  obtain ⟨q1, g1, h⟩ := gx_bd h
  refine gx_ci (pc := 1) (va_runV (C := "GasLedger$Frame") (As := []) (rest := []) ⟨hx, hb, hml, hown, hts⟩ (k_Frm_pop l dC dI cI cR cZ b tP tN hk1 g1) (gx_cw 0 hts cd_Frm_pop tb_48 tb_406 tb_407 tb_408 rfl rfl ⟨by decide, by decide, by decide +kernel⟩ ⟨Nat.le_of_ble_eq_true rfl, Nat.le_of_ble_eq_true rfl⟩) (gy_preV (cx_XX b tP tN) hX hK hP hS (cx_lt hk1 (by decide)) (sh_Frm cI cR b hk1 _) rfl) rfl rfl hl.1 rfl (lv_room (Nat.le_of_ble_eq_true rfl)) d_Mac_delegate_1 ⟨Nat.zero_le _, Nat.zero_le _⟩) hS (fun H locs hP hS => ?_)
  refine lv_istore_n (pc := 4) (lv' := [(2, .int q1.1), (0, .ref (b + x0)), (1, .ref (b + x1))]) hx hb d_Mac_delegate_4 rfl hl (by decide) rfl (fun ls hl => ?_)
  refine lv_aload_n (pc := 5) hx hb d_Mac_delegate_5 rfl (lv_at hl 2 rfl) ?_
  obtain ⟨q2, g2, h⟩ := gx_bd h
  refine gx_ci (pc := 6) (va_runV (C := "GasLedger$Frame") (As := []) (rest := []) ⟨hx, hb, hml, hown, hts⟩ (k_Frm_pop l dC dI cI cR cZ b tP tN hk1 g2) (gx_cw 0 hts cd_Frm_pop tb_48 tb_406 tb_407 tb_408 rfl rfl ⟨by decide, by decide, by decide +kernel⟩ ⟨Nat.le_of_ble_eq_true rfl, Nat.le_of_ble_eq_true rfl⟩) (gy_preV (cx_XX b tP tN) hX hK hP hS (cx_lt hk1 (by decide)) (sh_Frm cI cR b hk1 _) rfl) rfl rfl hl.1 rfl (lv_room (Nat.le_of_ble_eq_true rfl)) d_Mac_delegate_6 ⟨Nat.zero_le _, Nat.zero_le _⟩) hS (fun H locs hP hS => ?_)
  refine lv_istore_n (pc := 9) (lv' := [(3, .int q2.1), (2, .int q1.1), (0, .ref (b + x0)), (1, .ref (b + x1))]) hx hb d_Mac_delegate_9 rfl hl (by decide) rfl (fun ls hl => ?_)
  refine lv_aload_n (pc := 10) hx hb d_Mac_delegate_10 rfl (lv_at hl 3 rfl) ?_
  obtain ⟨q3, g3, h⟩ := gx_bd h
  refine gx_ci (pc := 11) (va_runV (C := "GasLedger$Frame") (As := []) (rest := []) ⟨hx, hb, hml, hown, hts⟩ (k_Frm_pop l dC dI cI cR cZ b tP tN hk1 g3) (gx_cw 0 hts cd_Frm_pop tb_48 tb_406 tb_407 tb_408 rfl rfl ⟨by decide, by decide, by decide +kernel⟩ ⟨Nat.le_of_ble_eq_true rfl, Nat.le_of_ble_eq_true rfl⟩) (gy_preV (cx_XX b tP tN) hX hK hP hS (cx_lt hk1 (by decide)) (sh_Frm cI cR b hk1 _) rfl) rfl rfl hl.1 rfl (lv_room (Nat.le_of_ble_eq_true rfl)) d_Mac_delegate_11 ⟨Nat.zero_le _, Nat.zero_le _⟩) hS (fun H locs hP hS => ?_)
  refine lv_istore (pc := 14) (lv' := [(4, .int q3.1), (3, .int q2.1), (2, .int q1.1), (0, .ref (b + x0)), (1, .ref (b + x1))]) hx hb d_Mac_delegate_14 hl (by decide) rfl (fun ls hl => ?_)
  refine lv_aload_n (pc := 16) hx hb d_Mac_delegate_16 rfl (lv_at hl 3 rfl) ?_
  refine lv_iload_n (pc := 17) hx hb d_Mac_delegate_17 rfl (lv_at hl 1 rfl) ?_
  obtain ⟨q4, g4, h⟩ := gx_bd h
  refine gx_ci (pc := 18) (va_runV (C := "GasLedger$Machine") (As := [.int q2.1]) (rest := []) ⟨hx, hb, hml, hown, hts⟩ (k_Mac_canEnter l dC dI cI cR cZ b tP tN hk0 g4) (gx_cw 1 hts cd_Mac_canEnter tb_45 tb_431 tb_433 tb_9 rfl rfl ⟨by decide, by decide, by decide +kernel⟩ ⟨Nat.le_of_ble_eq_true rfl, Nat.le_of_ble_eq_true rfl⟩) (gy_preV (cx_XX b tP tN) hX hK hP hS (cx_lt hk0 (by decide)) (sh_Mac cI cR b hk0 _) rfl) rfl rfl hl.1 rfl (lv_room (Nat.le_of_ble_eq_true rfl)) d_Mac_delegate_18 ⟨Nat.zero_le _, Nat.zero_le _⟩) hS (fun H locs hP hS => ?_)
  refine lv_if_eq (pc := 21) (tgt := 52) hx hb d_Mac_delegate_21 (by decide) (fun g5 => ?_) (fun g5 => ?_)
  · have h := gx_pos g5 h
    refine lv_aload_n (pc := 52) hx hb d_Mac_delegate_52 rfl (lv_at hl 3 rfl) ?_
    refine lv_aload_n (pc := 53) hx hb d_Mac_delegate_53 rfl (lv_at hl 4 rfl) ?_
    obtain ⟨q5, g6, h⟩ := gx_bd h
    refine gx_cv (pc := 54) (va_runV (C := "GasLedger$Machine") (As := [.ref (b + x1)]) (rest := []) ⟨hx, hb, hml, hown, hts⟩ (k_Mac_pushNoFrame l dC dI cI cR cZ b tP tN hk0 hk1 g6) (gx_cw 1 hts cd_Mac_pushNoFrame tb_45 tb_436 tb_438 tb_10 rfl rfl ⟨by decide, by decide, by decide +kernel⟩ ⟨Nat.le_of_ble_eq_true rfl, Nat.le_of_ble_eq_true rfl⟩) (gy_preV (cx_XX b tP tN) hX hK hP hS (cx_lt hk0 (by decide)) (sh_Mac cI cR b hk0 _) rfl) rfl rfl hl.1 rfl (lv_room (Nat.le_of_ble_eq_true rfl)) d_Mac_delegate_54 ⟨Nat.zero_le _, Nat.zero_le _⟩) hS (fun H locs hP hS => ?_)
    exact gx_vret hx hb hr hlk hP hS d_Mac_delegate_57 (by cases h; rfl) (by cases h; rfl)
  · have h := gx_neg g5 h
    refine lv_aload_n (pc := 24) hx hb d_Mac_delegate_24 rfl (lv_at hl 3 rfl) ?_
    refine lv_aload_n (pc := 25) hx hb d_Mac_delegate_25 rfl (lv_at hl 4 rfl) ?_
    refine va_get (pc := 26) (D := (dC, dI)) (ci := 1) (C := R_Frm) (T := T_Frm) (N := 17) hx hb hts in_Frm hown hK hP x1 (gx_at (cx_lt hk1 (by decide)) (sh_Frm cI cR b hk1 _)) rfl 0 (by decide) (hts _ tb_135) (fun _ h9 => h9) rfl d_Mac_delegate_26 ?_
    refine lv_iload_n (pc := 29) hx hb d_Mac_delegate_29 rfl (lv_at hl 1 rfl) ?_
    refine lv_aload_n (pc := 30) hx hb d_Mac_delegate_30 rfl (lv_at hl 4 rfl) ?_
    refine va_get (pc := 31) (D := (dC, dI)) (ci := 1) (C := R_Frm) (T := T_Frm) (N := 17) hx hb hts in_Frm hown hK hP x1 (gx_at (cx_lt hk1 (by decide)) (sh_Frm cI cR b hk1 _)) rfl 3 (by decide) (hts _ tb_141) (fun _ h9 => h9) rfl d_Mac_delegate_31 ?_
    refine lv_aload_n (pc := 34) hx hb d_Mac_delegate_34 rfl (lv_at hl 4 rfl) ?_
    refine va_get (pc := 35) (D := (dC, dI)) (ci := 1) (C := R_Frm) (T := T_Frm) (N := 17) hx hb hts in_Frm hown hK hP x1 (gx_at (cx_lt hk1 (by decide)) (sh_Frm cI cR b hk1 _)) rfl 4 (by decide) (hts _ tb_143) (fun _ h9 => h9) rfl d_Mac_delegate_35 ?_
    refine lv_iload (pc := 38) hx hb d_Mac_delegate_38 (lv_at hl 0 rfl) ?_
    refine lv_aload_n (pc := 40) hx hb d_Mac_delegate_40 rfl (lv_at hl 3 rfl) ?_
    refine lv_aload_n (pc := 41) hx hb d_Mac_delegate_41 rfl (lv_at hl 4 rfl) ?_
    refine lv_iload_n (pc := 42) hx hb d_Mac_delegate_42 rfl (lv_at hl 2 rfl) ?_
    obtain ⟨q6, g7, h⟩ := gx_bd h
    refine gx_ci (pc := 43) (va_runV (C := "GasLedger$Machine") (As := [.ref (b + x1), .int q1.1]) (rest := [.int q3.1, .int (q4.2 x1 4), .int (q4.2 x1 3), .int q2.1, .int (q4.2 x1 0), .ref (b + x0)]) ⟨hx, hb, hml, hown, hts⟩ (k_Mac_takeGas l dC dI cI cR cZ b tP tN hk0 hk1 g7) (gx_cw 2 hts cd_Mac_takeGas tb_45 tb_444 tb_446 tb_11 rfl rfl ⟨by decide, by decide, by decide +kernel⟩ ⟨Nat.le_of_ble_eq_true rfl, Nat.le_of_ble_eq_true rfl⟩) (gy_preV (cx_XX b tP tN) hX hK hP hS (cx_lt hk0 (by decide)) (sh_Mac cI cR b hk0 _) rfl) rfl rfl hl.1 rfl (lv_room (Nat.le_of_ble_eq_true rfl)) d_Mac_delegate_43 ⟨Nat.zero_le _, Nat.zero_le _⟩) hS (fun H locs hP hS => ?_)
    obtain ⟨q7, g8, h⟩ := gx_bd h
    refine gx_cv (pc := 46) (va_runV (C := "GasLedger$Machine") (As := [.int (q4.2 x1 0), .int q2.1, .int (q4.2 x1 3), .int (q4.2 x1 4), .int q3.1, .int q6.1]) (rest := []) ⟨hx, hb, hml, hown, hts⟩ (k_Mac_enter l dC dI cI cR cZ b tP tN hk0 g8) (gx_cw 6 hts cd_Mac_enter tb_45 tb_345 tb_347 tb_2 rfl rfl ⟨by decide, by decide, by decide +kernel⟩ ⟨Nat.le_of_ble_eq_true rfl, Nat.le_of_ble_eq_true rfl⟩) (gy_preV (cx_XX b tP tN) hX hK hP hS (cx_lt hk0 (by decide)) (sh_Mac cI cR b hk0 _) rfl) rfl rfl hl.1 rfl (lv_room (Nat.le_of_ble_eq_true rfl)) d_Mac_delegate_46 ⟨Nat.zero_le _, Nat.zero_le _⟩) hS (fun H locs hP hS => ?_)
    refine lv_goto (pc := 49) (tgt := 57) hx hb d_Mac_delegate_49 (by decide) ?_
    exact gx_vret hx hb hr hlk hP hS d_Mac_delegate_57 (by cases h; rfl) (by cases h; rfl)
abbrev rm_Acc_filledSlots : Room := { frames := 0, cells := 0, slots := 0, locals := 0 }
def F_Acc_filledSlots_4 : Nat → Nat → Int32 → Int32 → Int32 → gx_M → Option (Int32 × gx_M)
  | 0, _, _, _, _, _ => none
  | nf + 1, x0, x1, x2, x3, V => (if (8 : Int32) ≤ x3 then some (x2, V) else (if gx_ib ((x1 * (8 : Int32)) + x3) 128 then (if (V (x0 + 5) ((x1 * (8 : Int32)) + x3).toNatClampNeg) = 0 then (F_Acc_filledSlots_4 nf  x0 x1 x2 (x3 + (1 : Int32)) V) else (F_Acc_filledSlots_4 nf  x0 x1 (x2 ||| ((1 : Int32) <<< (x3 &&& 31))) (x3 + (1 : Int32)) V)) else none))
def F_Acc_filledSlots (x0 : Nat) (x1 : Int32) (V : gx_M) : Option (Int32 × gx_M) := (F_Acc_filledSlots_4 100  x0 x1 (0 : Int32) (0 : Int32) V)
set_option maxRecDepth 100000 in
set_option maxHeartbeats 8000000 in
theorem k_Acc_filledSlots (l : Launch) (dC : Nat → ClassId) (dI : Nat → Nat → Nat) (cI cR cZ : ClassId) (b tP tN : Nat) {x0 : Nat} {x1 : Int32} {V : gx_M} {q : (Int32 × gx_M)} (hk0 : cx_kd x0 = 0) (h : F_Acc_filledSlots x0 x1 V = some q) : cx_C l dC dI cI cR cZ b tP tN y_Acc_filledSlots w_Acc_filledSlots rm_Acc_filledSlots [.ref (b + x0), .int x1] V (some (.int q.1)) q.2 := by
  refine gx_start (cc := b_Acc_filledSlots) (maxL := 4) (ret := rt_Acc_filledSlots) (by decide) rfl (Nat.le_of_ble_eq_true rfl) ?_
  intro p e s m args below meth c ls hx hb hr hts hown hlk hml hl hP hK hX hS
  have hts : ∀ w ∈ cx_tb, w.before args s = true := fun w hw => hts w (List.mem_cons_of_mem _ hw)
  have hown : s.vm.findClass "GasLedger$Accounts" = some m.cls := hown
  have hl : lv_has ls 4 [(0, .ref (b + x0)), (1, .int x1)] := hl
  have B_4 : ∀ (nf : Nat), ∀ (x0 : Nat) (x1 : Int32) (x2 : Int32) (x3 : Int32), cx_kd x0 = 0 → ∀ (V : gx_M) (H : Heap) (locs : List Loc) (ls : Array Slot), lv_has ls 4 [(0, .ref (b + x0)), (1, .int x1), (2, .int x2), (3, .int x3)] → va_P (dC, dI) cx_cl (gx_w b 97 (gx_v (cx_sh cI cR b) V)) H → va_S (gx_A b 97) s.heap H locs → F_Acc_filledSlots_4 nf x0 x1 x2 x3 V = some q → W p l e (headSpec w_Acc_filledSlots rm_Acc_filledSlots).room s m args below meth c H locs 0 0 (MQ below (gx_Q (dC, dI) cx_cl b 97 (cx_sh cI cR b) (some (.int q.1)) q.2) args s 0 0 (gx_A b 97)) (F0 m 4 ls []) := by
    intro nf
    induction nf with
    | zero => intro x0 x1 x2 x3 hk_x0 V H locs ls hl hP hS h; cases h
    | succ nf ihl =>
      intro x0 x1 x2 x3 hk_x0 V H locs ls hl hP hS h
      rw [F_Acc_filledSlots_4] at h
      refine lv_iload_n (pc := 4) hx hb d_Acc_filledSlots_4 rfl (lv_at hl 3 rfl) ?_
      refine lv_bipush (pc := 5) (v := (8 : Int32)) hx hb d_Acc_filledSlots_5 (by decide) ?_
      refine lv_icmp_ge (pc := 7) (tgt := 36) hx hb d_Acc_filledSlots_7 (by decide) (fun g1 => ?_) (fun g1 => ?_)
      · have h := gx_pos g1 h
        refine lv_iload_n (pc := 36) hx hb d_Acc_filledSlots_36 rfl (lv_at hl 2 rfl) ?_
        exact gx_iret (free := fun _ => True) hx hb hr hlk hP hS d_Acc_filledSlots_37 (by cases h; rfl) (by cases h; rfl)
      · have h := gx_neg g1 h
        refine lv_aload_n (pc := 10) hx hb d_Acc_filledSlots_10 rfl (lv_at hl 0 rfl) ?_
        refine va_get (pc := 11) (D := (dC, dI)) (ci := 0) (C := R_Acc) (T := T_Acc) (N := 6) hx hb hts in_Acc hown hK hP x0 (gx_at (cx_lt hk_x0 (by decide)) (sh_Acc cI cR b hk_x0 _)) rfl 4 (by decide) (hts _ tb_84) (fun _ h9 => h9) rfl d_Acc_filledSlots_11 ?_
        refine lv_iload_n (pc := 14) hx hb d_Acc_filledSlots_14 rfl (lv_at hl 1 rfl) ?_
        refine lv_bipush (pc := 15) (v := (8 : Int32)) hx hb d_Acc_filledSlots_15 (by decide) ?_
        refine lv_imul (pc := 17) hx hb d_Acc_filledSlots_17 ?_
        refine lv_iload_n (pc := 18) hx hb d_Acc_filledSlots_18 rfl (lv_at hl 3 rfl) ?_
        refine lv_iadd (pc := 19) hx hb d_Acc_filledSlots_19 ?_
        obtain ⟨g2, h⟩ := gx_if h
        refine va_iald (pc := 20) hx hb hK hP (x0 + 5) 0 (gx_at (cx_lt (to_Acc_slots hk_x0) (by decide)) (sh_arr cI cR b (n := 128) (to_Acc_slots hk_x0) _)) rfl g2 d_Acc_filledSlots_20 ?_
        refine lv_if_eq (pc := 21) (tgt := 30) hx hb d_Acc_filledSlots_21 (by decide) (fun g3 => ?_) (fun g3 => ?_)
        · have h := gx_pos g3 h
          refine lv_iinc (pc := 30) (k := 3) (lv' := [(3, .int (x3 + (1 : Int32))), (0, .ref (b + x0)), (1, .int x1), (2, .int x2)]) hx hb d_Acc_filledSlots_30 hl rfl (gx_inc (by decide)) (by decide) rfl (fun ls hl => ?_)
          refine lv_goto (pc := 33) (tgt := 4) hx hb d_Acc_filledSlots_33 (by decide) ?_
          exact ihl _ _ _ _ hk_x0 _ _ _ _ (lv_sub hl [1, 2, 3, 0] rfl) hP hS h
        · have h := gx_neg g3 h
          refine lv_iload_n (pc := 24) hx hb d_Acc_filledSlots_24 rfl (lv_at hl 2 rfl) ?_
          refine lv_iconst (pc := 25) (v := (1 : Int32)) hx hb d_Acc_filledSlots_25 (by decide) ?_
          refine lv_iload_n (pc := 26) hx hb d_Acc_filledSlots_26 rfl (lv_at hl 3 rfl) ?_
          refine lv_ishl (pc := 27) hx hb d_Acc_filledSlots_27 ?_
          refine lv_ior (pc := 28) hx hb d_Acc_filledSlots_28 ?_
          refine lv_istore_n (pc := 29) (lv' := [(2, .int (x2 ||| ((1 : Int32) <<< (x3 &&& 31)))), (0, .ref (b + x0)), (1, .int x1), (3, .int x3)]) hx hb d_Acc_filledSlots_29 rfl hl (by decide) rfl (fun ls hl => ?_)
          refine lv_iinc (pc := 30) (k := 3) (lv' := [(3, .int (x3 + (1 : Int32))), (2, .int (x2 ||| ((1 : Int32) <<< (x3 &&& 31)))), (0, .ref (b + x0)), (1, .int x1)]) hx hb d_Acc_filledSlots_30 hl rfl (gx_inc (by decide)) (by decide) rfl (fun ls hl => ?_)
          refine lv_goto (pc := 33) (tgt := 4) hx hb d_Acc_filledSlots_33 (by decide) ?_
          exact ihl _ _ _ _ hk_x0 _ _ _ _ (lv_sub hl [2, 3, 1, 0] rfl) hP hS h
  unfold F_Acc_filledSlots at h
  refine lv_iconst (pc := 0) (v := (0 : Int32)) hx hb d_Acc_filledSlots_0 (by decide) ?_
  refine lv_istore_n (pc := 1) (lv' := [(2, .int (0 : Int32)), (0, .ref (b + x0)), (1, .int x1)]) hx hb d_Acc_filledSlots_1 rfl hl (by decide) rfl (fun ls hl => ?_)
  refine lv_iconst (pc := 2) (v := (0 : Int32)) hx hb d_Acc_filledSlots_2 (by decide) ?_
  refine lv_istore_n (pc := 3) (lv' := [(3, .int (0 : Int32)), (2, .int (0 : Int32)), (0, .ref (b + x0)), (1, .int x1)]) hx hb d_Acc_filledSlots_3 rfl hl (by decide) rfl (fun ls hl => ?_)
  exact B_4 100  _ _ _ _ hk0 _ _ _ _ (lv_sub hl [2, 3, 1, 0] rfl) hP hS h
abbrev rm_Acc_isEmpty : Room := { frames := 1, cells := 0, slots := 0, locals := 23 }
def F_Acc_isEmpty (x0 : Nat) (x1 : Int32) (V : gx_M) : Option (Int32 × gx_M) := (if gx_ib x1 16 then (if (V (x0 + 1) x1.toNatClampNeg) = 0 then (if gx_ib x1 16 then (if (V (x0 + 2) x1.toNatClampNeg) = 0 then (if gx_ib x1 16 then (if (V (x0 + 3) x1.toNatClampNeg) = 0 then ((F_Acc_filledSlots x0 x1 V).bind fun q1 => (if q1.1 = 0 then some ((1 : Int32), q1.2) else some ((0 : Int32), q1.2))) else some ((0 : Int32), V)) else none) else some ((0 : Int32), V)) else none) else some ((0 : Int32), V)) else none)
set_option maxRecDepth 100000 in
set_option maxHeartbeats 8000000 in
theorem k_Acc_isEmpty (l : Launch) (dC : Nat → ClassId) (dI : Nat → Nat → Nat) (cI cR cZ : ClassId) (b tP tN : Nat) {x0 : Nat} {x1 : Int32} {V : gx_M} {q : (Int32 × gx_M)} (hk0 : cx_kd x0 = 0) (h : F_Acc_isEmpty x0 x1 V = some q) : cx_C l dC dI cI cR cZ b tP tN y_Acc_isEmpty w_Acc_isEmpty rm_Acc_isEmpty [.ref (b + x0), .int x1] V (some (.int q.1)) q.2 := by
  refine gx_start (cc := b_Acc_isEmpty) (maxL := 2) (ret := rt_Acc_isEmpty) (by decide) rfl (Nat.le_of_ble_eq_true rfl) ?_
  intro p e s m args below meth c ls hx hb hr hts hown hlk hml hl hP hK hX hS
  have hts : ∀ w ∈ cx_tb, w.before args s = true := fun w hw => hts w (List.mem_cons_of_mem _ hw)
  have hown : s.vm.findClass "GasLedger$Accounts" = some m.cls := hown
  have hl : lv_has ls 2 [(0, .ref (b + x0)), (1, .int x1)] := hl
  unfold F_Acc_isEmpty at h
  refine lv_aload_n (pc := 0) hx hb d_Acc_isEmpty_0 rfl (lv_at hl 0 rfl) ?_
  refine va_get (pc := 1) (D := (dC, dI)) (ci := 0) (C := R_Acc) (T := T_Acc) (N := 6) hx hb hts in_Acc hown hK hP x0 (gx_at (cx_lt hk0 (by decide)) (sh_Acc cI cR b hk0 _)) rfl 0 (by decide) (hts _ tb_74) (fun _ h9 => h9) rfl d_Acc_isEmpty_1 ?_
  refine lv_iload_n (pc := 4) hx hb d_Acc_isEmpty_4 rfl (lv_at hl 1 rfl) ?_
  obtain ⟨g1, h⟩ := gx_if h
  refine va_iald (pc := 5) hx hb hK hP (x0 + 1) 0 (gx_at (cx_lt (to_Acc_balances hk0) (by decide)) (sh_arr cI cR b (n := 16) (to_Acc_balances hk0) _)) rfl g1 d_Acc_isEmpty_5 ?_
  refine lv_if_ne (pc := 6) (tgt := 39) hx hb d_Acc_isEmpty_6 (by decide) (fun g2 => ?_) (fun g2 => ?_)
  · have h := gx_neg g2 h
    refine lv_iconst (pc := 39) (v := (0 : Int32)) hx hb d_Acc_isEmpty_39 (by decide) ?_
    exact gx_zret (free := fun _ => True) hx hb hr hlk hP hS d_Acc_isEmpty_40 rfl (by cases h; rfl) (by cases h; rfl)
  · have h := gx_pos g2 h
    refine lv_aload_n (pc := 9) hx hb d_Acc_isEmpty_9 rfl (lv_at hl 0 rfl) ?_
    refine va_get (pc := 10) (D := (dC, dI)) (ci := 0) (C := R_Acc) (T := T_Acc) (N := 6) hx hb hts in_Acc hown hK hP x0 (gx_at (cx_lt hk0 (by decide)) (sh_Acc cI cR b hk0 _)) rfl 1 (by decide) (hts _ tb_77) (fun _ h9 => h9) rfl d_Acc_isEmpty_10 ?_
    refine lv_iload_n (pc := 13) hx hb d_Acc_isEmpty_13 rfl (lv_at hl 1 rfl) ?_
    obtain ⟨g3, h⟩ := gx_if h
    refine va_iald (pc := 14) hx hb hK hP (x0 + 2) 0 (gx_at (cx_lt (to_Acc_nonces hk0) (by decide)) (sh_arr cI cR b (n := 16) (to_Acc_nonces hk0) _)) rfl g3 d_Acc_isEmpty_14 ?_
    refine lv_if_ne (pc := 15) (tgt := 39) hx hb d_Acc_isEmpty_15 (by decide) (fun g4 => ?_) (fun g4 => ?_)
    · have h := gx_neg g4 h
      refine lv_iconst (pc := 39) (v := (0 : Int32)) hx hb d_Acc_isEmpty_39 (by decide) ?_
      exact gx_zret (free := fun _ => True) hx hb hr hlk hP hS d_Acc_isEmpty_40 rfl (by cases h; rfl) (by cases h; rfl)
    · have h := gx_pos g4 h
      refine lv_aload_n (pc := 18) hx hb d_Acc_isEmpty_18 rfl (lv_at hl 0 rfl) ?_
      refine va_get (pc := 19) (D := (dC, dI)) (ci := 0) (C := R_Acc) (T := T_Acc) (N := 6) hx hb hts in_Acc hown hK hP x0 (gx_at (cx_lt hk0 (by decide)) (sh_Acc cI cR b hk0 _)) rfl 2 (by decide) (hts _ tb_80) (fun _ h9 => h9) rfl d_Acc_isEmpty_19 ?_
      refine lv_iload_n (pc := 22) hx hb d_Acc_isEmpty_22 rfl (lv_at hl 1 rfl) ?_
      obtain ⟨g5, h⟩ := gx_if h
      refine va_iald (pc := 23) hx hb hK hP (x0 + 3) 0 (gx_at (cx_lt (to_Acc_sizes hk0) (by decide)) (sh_arr cI cR b (n := 16) (to_Acc_sizes hk0) _)) rfl g5 d_Acc_isEmpty_23 ?_
      refine lv_if_ne (pc := 24) (tgt := 39) hx hb d_Acc_isEmpty_24 (by decide) (fun g6 => ?_) (fun g6 => ?_)
      · have h := gx_neg g6 h
        refine lv_iconst (pc := 39) (v := (0 : Int32)) hx hb d_Acc_isEmpty_39 (by decide) ?_
        exact gx_zret (free := fun _ => True) hx hb hr hlk hP hS d_Acc_isEmpty_40 rfl (by cases h; rfl) (by cases h; rfl)
      · have h := gx_pos g6 h
        refine lv_aload_n (pc := 27) hx hb d_Acc_isEmpty_27 rfl (lv_at hl 0 rfl) ?_
        refine lv_iload_n (pc := 28) hx hb d_Acc_isEmpty_28 rfl (lv_at hl 1 rfl) ?_
        obtain ⟨q1, g7, h⟩ := gx_bd h
        refine gx_ci (pc := 29) (va_runV (C := "GasLedger$Accounts") (As := [.int x1]) (rest := []) ⟨hx, hb, hml, hown, hts⟩ (k_Acc_filledSlots l dC dI cI cR cZ b tP tN hk0 g7) (gx_cw 1 hts cd_Acc_filledSlots tb_46 tb_464 tb_466 tb_14 rfl rfl ⟨by decide, by decide, by decide +kernel⟩ ⟨Nat.le_of_ble_eq_true rfl, Nat.le_of_ble_eq_true rfl⟩) (gy_preV (cx_XX b tP tN) hX hK hP hS (cx_lt hk0 (by decide)) (sh_Acc cI cR b hk0 _) rfl) rfl rfl hl.1 rfl (lv_room (Nat.le_of_ble_eq_true rfl)) d_Acc_isEmpty_29 ⟨Nat.zero_le _, Nat.zero_le _⟩) hS (fun H locs hP hS => ?_)
        refine lv_if_ne (pc := 32) (tgt := 39) hx hb d_Acc_isEmpty_32 (by decide) (fun g8 => ?_) (fun g8 => ?_)
        · have h := gx_neg g8 h
          refine lv_iconst (pc := 39) (v := (0 : Int32)) hx hb d_Acc_isEmpty_39 (by decide) ?_
          exact gx_zret (free := fun _ => True) hx hb hr hlk hP hS d_Acc_isEmpty_40 rfl (by cases h; rfl) (by cases h; rfl)
        · have h := gx_pos g8 h
          refine lv_iconst (pc := 35) (v := (1 : Int32)) hx hb d_Acc_isEmpty_35 (by decide) ?_
          refine lv_goto (pc := 36) (tgt := 40) hx hb d_Acc_isEmpty_36 (by decide) ?_
          exact gx_zret (free := fun _ => True) hx hb hr hlk hP hS d_Acc_isEmpty_40 rfl (by cases h; rfl) (by cases h; rfl)
abbrev rm_Acc_leastEmpty : Room := { frames := 2, cells := 0, slots := 0, locals := 44 }
def F_Acc_leastEmpty_2 : Nat → Nat → Int32 → gx_M → Option (Int32 × gx_M)
  | 0, _, _, _ => none
  | nf + 1, x0, x1, V => (if (16 : Int32) ≤ x1 then some ((-1 : Int32), V) else ((F_Acc_isEmpty x0 x1 V).bind fun q1 => (if q1.1 = 0 then (F_Acc_leastEmpty_2 nf  x0 (x1 + (1 : Int32)) q1.2) else some (x1, q1.2))))
def F_Acc_leastEmpty (x0 : Nat) (V : gx_M) : Option (Int32 × gx_M) := (F_Acc_leastEmpty_2 100  x0 (0 : Int32) V)
set_option maxRecDepth 100000 in
set_option maxHeartbeats 8000000 in
theorem k_Acc_leastEmpty (l : Launch) (dC : Nat → ClassId) (dI : Nat → Nat → Nat) (cI cR cZ : ClassId) (b tP tN : Nat) {x0 : Nat} {V : gx_M} {q : (Int32 × gx_M)} (hk0 : cx_kd x0 = 0) (h : F_Acc_leastEmpty x0 V = some q) : cx_C l dC dI cI cR cZ b tP tN y_Acc_leastEmpty w_Acc_leastEmpty rm_Acc_leastEmpty [.ref (b + x0)] V (some (.int q.1)) q.2 := by
  refine gx_start (cc := b_Acc_leastEmpty) (maxL := 2) (ret := rt_Acc_leastEmpty) (by decide) rfl (Nat.le_of_ble_eq_true rfl) ?_
  intro p e s m args below meth c ls hx hb hr hts hown hlk hml hl hP hK hX hS
  have hts : ∀ w ∈ cx_tb, w.before args s = true := fun w hw => hts w (List.mem_cons_of_mem _ hw)
  have hown : s.vm.findClass "GasLedger$Accounts" = some m.cls := hown
  have hl : lv_has ls 2 [(0, .ref (b + x0))] := hl
  have B_2 : ∀ (nf : Nat), ∀ (x0 : Nat) (x1 : Int32), cx_kd x0 = 0 → ∀ (V : gx_M) (H : Heap) (locs : List Loc) (ls : Array Slot), lv_has ls 2 [(0, .ref (b + x0)), (1, .int x1)] → va_P (dC, dI) cx_cl (gx_w b 97 (gx_v (cx_sh cI cR b) V)) H → va_S (gx_A b 97) s.heap H locs → F_Acc_leastEmpty_2 nf x0 x1 V = some q → W p l e (headSpec w_Acc_leastEmpty rm_Acc_leastEmpty).room s m args below meth c H locs 0 0 (MQ below (gx_Q (dC, dI) cx_cl b 97 (cx_sh cI cR b) (some (.int q.1)) q.2) args s 0 0 (gx_A b 97)) (F0 m 2 ls []) := by
    intro nf
    induction nf with
    | zero => intro x0 x1 hk_x0 V H locs ls hl hP hS h; cases h
    | succ nf ihl =>
      intro x0 x1 hk_x0 V H locs ls hl hP hS h
      rw [F_Acc_leastEmpty_2] at h
      refine lv_iload_n (pc := 2) hx hb d_Acc_leastEmpty_2 rfl (lv_at hl 1 rfl) ?_
      refine lv_bipush (pc := 3) (v := (16 : Int32)) hx hb d_Acc_leastEmpty_3 (by decide) ?_
      refine lv_icmp_ge (pc := 5) (tgt := 24) hx hb d_Acc_leastEmpty_5 (by decide) (fun g1 => ?_) (fun g1 => ?_)
      · have h := gx_pos g1 h
        refine lv_iconst (pc := 24) (v := (-1 : Int32)) hx hb d_Acc_leastEmpty_24 (by decide) ?_
        exact gx_iret (free := fun _ => True) hx hb hr hlk hP hS d_Acc_leastEmpty_25 (by cases h; rfl) (by cases h; rfl)
      · have h := gx_neg g1 h
        refine lv_aload_n (pc := 8) hx hb d_Acc_leastEmpty_8 rfl (lv_at hl 0 rfl) ?_
        refine lv_iload_n (pc := 9) hx hb d_Acc_leastEmpty_9 rfl (lv_at hl 1 rfl) ?_
        obtain ⟨q1, g2, h⟩ := gx_bd h
        refine gx_ci (pc := 10) (va_runV (C := "GasLedger$Accounts") (As := [.int x1]) (rest := []) ⟨hx, hb, hml, hown, hts⟩ (k_Acc_isEmpty l dC dI cI cR cZ b tP tN hk_x0 g2) (gx_cw 1 hts cd_Acc_isEmpty tb_46 tb_460 tb_461 tb_462 rfl rfl ⟨by decide, by decide, by decide +kernel⟩ ⟨Nat.le_of_ble_eq_true rfl, Nat.le_of_ble_eq_true rfl⟩) (gy_preV (cx_XX b tP tN) hX hK hP hS (cx_lt hk_x0 (by decide)) (sh_Acc cI cR b hk_x0 _) rfl) rfl rfl hl.1 rfl (lv_room (Nat.le_of_ble_eq_true rfl)) d_Acc_leastEmpty_10 ⟨Nat.zero_le _, Nat.zero_le _⟩) hS (fun H locs hP hS => ?_)
        refine lv_if_eq (pc := 13) (tgt := 18) hx hb d_Acc_leastEmpty_13 (by decide) (fun g3 => ?_) (fun g3 => ?_)
        · have h := gx_pos g3 h
          refine lv_iinc (pc := 18) (k := 1) (lv' := [(1, .int (x1 + (1 : Int32))), (0, .ref (b + x0))]) hx hb d_Acc_leastEmpty_18 hl rfl (gx_inc (by decide)) (by decide) rfl (fun ls hl => ?_)
          refine lv_goto (pc := 21) (tgt := 2) hx hb d_Acc_leastEmpty_21 (by decide) ?_
          exact ihl _ _ hk_x0 _ _ _ _ (lv_sub hl [1, 0] rfl) hP hS h
        · have h := gx_neg g3 h
          refine lv_iload_n (pc := 16) hx hb d_Acc_leastEmpty_16 rfl (lv_at hl 1 rfl) ?_
          exact gx_iret (free := fun _ => True) hx hb hr hlk hP hS d_Acc_leastEmpty_17 (by cases h; rfl) (by cases h; rfl)
  unfold F_Acc_leastEmpty at h
  refine lv_iconst (pc := 0) (v := (0 : Int32)) hx hb d_Acc_leastEmpty_0 (by decide) ?_
  refine lv_istore_n (pc := 1) (lv' := [(1, .int (0 : Int32)), (0, .ref (b + x0))]) hx hb d_Acc_leastEmpty_1 rfl hl (by decide) rfl (fun ls hl => ?_)
  exact B_2 100  _ _ hk0 _ _ _ _ (lv_sub hl [1, 0] rfl) hP hS h
