abbrev rm_Mac_step : Room := { frames := 4, cells := 0, slots := 0, locals := 138 }
def F_Mac_step_368 (x0 : Nat) (x1 : Nat) (x3 : Int32) (x4 : Int32) (V : gx_M) : Option gx_M := ((F_Mac_resultOf x0 x1 x3 x4 V).bind fun q1 => ((F_Frm_push x1 q1.1 q1.2).bind fun q2 => some q2))
def F_Mac_step_55 (x0 : Nat) (x1 : Nat) (x3 : Int32) (x4 : Int32) (x5 : Int32) (s0 : Int32) (V : gx_M) : Option gx_M := (if (V x1 6) < x5 then ((F_Frm_fail x1 V).bind fun q3 => some q3) else ((F_Mac_needsOf x3 x4 V).bind fun q4 => (if (V x1 8) < q4.1 then ((F_Frm_fail x1 q4.2).bind fun q5 => some q5) else (if s0 = 0 then (gx_let (gx_u q4.2 x1 6 ((q4.2 x1 6) - x5)) fun V1 => (gx_let (gx_u V1 x1 2 ((V1 x1 2) + (1 : Int32))) fun V2 => (if x3 = (0 : Int32) then ((F_Frm_end x1 (1 : Int32) (0 : Int32) V2).bind fun q6 => some q6) else (if x3 = (2 : Int32) then ((F_Frm_pop x1 V2).bind fun q7 => some q7.2) else (if x3 = (4 : Int32) then ((F_Frm_swap x1 x4 V2).bind fun q8 => some q8) else (if x3 = (12 : Int32) then ((F_Frm_pop x1 V2).bind fun q9 => ((F_Mac_jump x0 x1 q9.1 q9.2).bind fun q10 => some q10)) else (if x3 = (13 : Int32) then ((F_Mac_jumpIf x0 x1 V2).bind fun q11 => some q11) else (if x3 = (15 : Int32) then ((F_Mac_store x0 x1 V2).bind fun q12 => some q12) else (if x3 = (22 : Int32) then ((F_Mac_callOther x0 x1 V2).bind fun q13 => some q13) else (if x3 = (23 : Int32) then ((F_Mac_delegate x0 x1 V2).bind fun q14 => some q14) else (if x3 = (24 : Int32) then ((F_Mac_create x0 x1 V2).bind fun q15 => some q15) else (if x3 = (25 : Int32) then ((F_Frm_pop x1 V2).bind fun q16 => ((F_Log_add (x0 + 8) (V2 x1 0) q16.1 q16.2).bind fun q17 => some q17)) else (if x3 = (26 : Int32) then ((F_Frm_pop x1 V2).bind fun q18 => ((F_Frm_end x1 (1 : Int32) q18.1 q18.2).bind fun q19 => some q19)) else (if x3 = (27 : Int32) then ((F_Frm_pop x1 V2).bind fun q20 => ((F_Frm_end x1 (0 : Int32) q20.1 q20.2).bind fun q21 => some q21)) else (if x3 = (28 : Int32) then ((F_Mac_endSelf x0 x1 V2).bind fun q22 => some q22) else (F_Mac_step_368   x0 x1 x3 x4 V2)))))))))))))))) else ((F_Frm_fail x1 q4.2).bind fun q23 => some q23)))))
def F_Mac_step_54 (x0 : Nat) (x1 : Nat) (x3 : Int32) (x4 : Int32) (x5 : Int32) (V : gx_M) : Option gx_M := (F_Mac_step_55   x0 x1 x3 x4 x5 (0 : Int32) V)
def F_Mac_step (x0 : Nat) (x1 : Nat) (V : gx_M) : Option gx_M := ((F_Acc_wordOf (x0 + 1) (V x1 1) (V x1 2) V).bind fun q24 => ((F_Mac_priceOf x0 x1 (q24.1 &&& (31 : Int32)) q24.2).bind fun q25 => (if (q25.2 x1 8) = (12 : Int32) then ((F_Mac_onlyPushes (q24.1 &&& (31 : Int32)) q25.2).bind fun q26 => (if q26.1 = 0 then (F_Mac_step_54   x0 x1 (q24.1 &&& (31 : Int32)) (q24.1 >>> ((5 : Int32) &&& 31)) q25.1 q26.2) else (F_Mac_step_55   x0 x1 (q24.1 &&& (31 : Int32)) (q24.1 >>> ((5 : Int32) &&& 31)) q25.1 (1 : Int32) q26.2))) else (F_Mac_step_54   x0 x1 (q24.1 &&& (31 : Int32)) (q24.1 >>> ((5 : Int32) &&& 31)) q25.1 q25.2))))
set_option maxRecDepth 100000 in
set_option maxHeartbeats 8000000 in
theorem k_Mac_step (l : Launch) (dC : Nat → ClassId) (dI : Nat → Nat → Nat) (cI cR cZ : ClassId) (b tP tN : Nat) {x0 : Nat} {x1 : Nat} {V : gx_M} {q : gx_M} (hk0 : cx_kd x0 = 3) (hk1 : cx_kd x1 = 1) (h : F_Mac_step x0 x1 V = some q) : cx_C l dC dI cI cR cZ b tP tN y_Mac_step w_Mac_step rm_Mac_step [.ref (b + x0), .ref (b + x1)] V none q := by
  refine gx_start (cc := b_Mac_step) (maxL := 7) (ret := rt_Mac_step) (by decide) rfl (Nat.le_of_ble_eq_true rfl) ?_
  intro p e s m args below meth c ls hx hb hr hts hown hlk hml hl hP hK hX hS
  have hts : ∀ w ∈ cx_tb, w.before args s = true := fun w hw => hts w (List.mem_cons_of_mem _ hw)
  have hown : s.vm.findClass "GasLedger$Machine" = some m.cls := hown
  have hl : lv_has ls 7 [(0, .ref (b + x0)), (1, .ref (b + x1))] := hl
  have B_368 : ∀ (x0 : Nat) (x1 : Nat) (x3 : Int32) (x4 : Int32), cx_kd x0 = 3 → cx_kd x1 = 1 → ∀ (V : gx_M) (H : Heap) (locs : List Loc) (ls : Array Slot), lv_has ls 7 [(0, .ref (b + x0)), (1, .ref (b + x1)), (3, .int x3), (4, .int x4)] → va_P (dC, dI) cx_cl (gx_w b 97 (gx_v (cx_sh cI cR b) V)) H → va_S (gx_A b 97) s.heap H locs → F_Mac_step_368 x0 x1 x3 x4 V = some q → W p l e (headSpec w_Mac_step rm_Mac_step).room s m args below meth c H locs 0 0 (MQ below (gx_Q (dC, dI) cx_cl b 97 (cx_sh cI cR b) none q) args s 0 0 (gx_A b 97)) (F0 m 368 ls []) := by
    intro x0 x1 x3 x4 hk_x0 hk_x1 V H locs ls hl hP hS h
    unfold F_Mac_step_368 at h
    refine lv_aload_n (pc := 368) hx hb d_Mac_step_368 rfl (lv_at hl 1 rfl) ?_
    refine lv_aload_n (pc := 369) hx hb d_Mac_step_369 rfl (lv_at hl 0 rfl) ?_
    refine lv_aload_n (pc := 370) hx hb d_Mac_step_370 rfl (lv_at hl 1 rfl) ?_
    refine lv_iload_n (pc := 371) hx hb d_Mac_step_371 rfl (lv_at hl 2 rfl) ?_
    refine lv_iload (pc := 372) hx hb d_Mac_step_372 (lv_at hl 3 rfl) ?_
    obtain ⟨q1, g1, h⟩ := gx_bd h
    refine gx_ci (pc := 374) (va_runV (C := "GasLedger$Machine") (As := [.ref (b + x1), .int x3, .int x4]) (rest := [.ref (b + x1)]) ⟨hx, hb, hml, hown, hts⟩ (k_Mac_resultOf l dC dI cI cR cZ b tP tN hk_x0 hk_x1 g1) (gx_cw 3 hts cd_Mac_resultOf tb_45 tb_481 tb_483 tb_16 rfl rfl ⟨by decide, by decide, by decide +kernel⟩ ⟨Nat.le_of_ble_eq_true rfl, Nat.le_of_ble_eq_true rfl⟩) (gy_preV (cx_XX b tP tN) hX hK hP hS (cx_lt hk_x0 (by decide)) (sh_Mac cI cR b hk_x0 _) rfl) rfl rfl hl.1 rfl (lv_room (Nat.le_of_ble_eq_true rfl)) d_Mac_step_374 ⟨Nat.zero_le _, Nat.zero_le _⟩) hS (fun H locs hP hS => ?_)
    obtain ⟨q2, g2, h⟩ := gx_bd h
    refine gx_cv (pc := 377) (va_runV (C := "GasLedger$Frame") (As := [.int q1.1]) (rest := []) ⟨hx, hb, hml, hown, hts⟩ (k_Frm_push l dC dI cI cR cZ b tP tN hk_x1 g2) (gx_cw 1 hts cd_Frm_push tb_48 tb_440 tb_441 tb_442 rfl rfl ⟨by decide, by decide, by decide +kernel⟩ ⟨Nat.le_of_ble_eq_true rfl, Nat.le_of_ble_eq_true rfl⟩) (gy_preV (cx_XX b tP tN) hX hK hP hS (cx_lt hk_x1 (by decide)) (sh_Frm cI cR b hk_x1 _) rfl) rfl rfl hl.1 rfl (lv_room (Nat.le_of_ble_eq_true rfl)) d_Mac_step_377 ⟨Nat.zero_le _, Nat.zero_le _⟩) hS (fun H locs hP hS => ?_)
    exact gx_vret hx hb hr hlk hP hS d_Mac_step_380 (by cases h; rfl) (by cases h; rfl)
  have B_55 : ∀ (x0 : Nat) (x1 : Nat) (x3 : Int32) (x4 : Int32) (x5 : Int32) (s0 : Int32), cx_kd x0 = 3 → cx_kd x1 = 1 → ∀ (V : gx_M) (H : Heap) (locs : List Loc) (ls : Array Slot), lv_has ls 7 [(0, .ref (b + x0)), (1, .ref (b + x1)), (3, .int x3), (4, .int x4), (5, .int x5)] → va_P (dC, dI) cx_cl (gx_w b 97 (gx_v (cx_sh cI cR b) V)) H → va_S (gx_A b 97) s.heap H locs → F_Mac_step_55 x0 x1 x3 x4 x5 s0 V = some q → W p l e (headSpec w_Mac_step rm_Mac_step).room s m args below meth c H locs 0 0 (MQ below (gx_Q (dC, dI) cx_cl b 97 (cx_sh cI cR b) none q) args s 0 0 (gx_A b 97)) (F0 m 55 ls [.int s0]) := by
    intro x0 x1 x3 x4 x5 s0 hk_x0 hk_x1 V H locs ls hl hP hS h
    unfold F_Mac_step_55 at h
    refine lv_istore (pc := 55) (lv' := [(6, .int s0), (0, .ref (b + x0)), (1, .ref (b + x1)), (3, .int x3), (4, .int x4), (5, .int x5)]) hx hb d_Mac_step_55 hl (by decide) rfl (fun ls hl => ?_)
    refine lv_aload_n (pc := 57) hx hb d_Mac_step_57 rfl (lv_at hl 2 rfl) ?_
    refine va_get (pc := 58) (D := (dC, dI)) (ci := 1) (C := R_Frm) (T := T_Frm) (N := 17) hx hb hts in_Frm hown hK hP x1 (gx_at (cx_lt hk_x1 (by decide)) (sh_Frm cI cR b hk_x1 _)) rfl 6 (by decide) (hts _ tb_147) (fun _ h9 => h9) rfl d_Mac_step_58 ?_
    refine lv_iload (pc := 61) hx hb d_Mac_step_61 (lv_at hl 5 rfl) ?_
    refine lv_icmp_lt (pc := 63) (tgt := 84) hx hb d_Mac_step_63 (by decide) (fun g3 => ?_) (fun g3 => ?_)
    · have h := gx_pos g3 h
      refine lv_aload_n (pc := 84) hx hb d_Mac_step_84 rfl (lv_at hl 2 rfl) ?_
      obtain ⟨q3, g4, h⟩ := gx_bd h
      refine gx_cv (pc := 85) (va_runV (C := "GasLedger$Frame") (As := []) (rest := []) ⟨hx, hb, hml, hown, hts⟩ (k_Frm_fail l dC dI cI cR cZ b tP tN hk_x1 g4) (gx_cw 0 hts cd_Frm_fail tb_48 tb_397 tb_398 tb_399 rfl rfl ⟨by decide, by decide, by decide +kernel⟩ ⟨Nat.le_of_ble_eq_true rfl, Nat.le_of_ble_eq_true rfl⟩) (gy_preV (cx_XX b tP tN) hX hK hP hS (cx_lt hk_x1 (by decide)) (sh_Frm cI cR b hk_x1 _) rfl) rfl rfl hl.1 rfl (lv_room (Nat.le_of_ble_eq_true rfl)) d_Mac_step_85 ⟨Nat.zero_le _, Nat.zero_le _⟩) hS (fun H locs hP hS => ?_)
      exact gx_vret hx hb hr hlk hP hS d_Mac_step_88 (by cases h; rfl) (by cases h; rfl)
    · have h := gx_neg g3 h
      refine lv_aload_n (pc := 66) hx hb d_Mac_step_66 rfl (lv_at hl 2 rfl) ?_
      refine va_get (pc := 67) (D := (dC, dI)) (ci := 1) (C := R_Frm) (T := T_Frm) (N := 17) hx hb hts in_Frm hown hK hP x1 (gx_at (cx_lt hk_x1 (by decide)) (sh_Frm cI cR b hk_x1 _)) rfl 8 (by decide) (hts _ tb_151) (fun _ h9 => h9) rfl d_Mac_step_67 ?_
      refine lv_iload_n (pc := 70) hx hb d_Mac_step_70 rfl (lv_at hl 3 rfl) ?_
      refine lv_iload (pc := 71) hx hb d_Mac_step_71 (lv_at hl 4 rfl) ?_
      obtain ⟨q4, g5, h⟩ := gx_bd h
      refine gx_ci (pc := 73) (va_runS (As := [.int x3, .int x4]) (rest := [.int (V x1 8)]) ⟨hx, hb, hml, hown, hts⟩ (k_Mac_needsOf l dC dI cI cR cZ b tP tN  g5) (gx_cs 2 hts cd_Mac_needsOf tb_45 tb_392 tb_393 rfl rfl ⟨by decide, by decide, by decide +kernel⟩ ⟨Nat.le_of_ble_eq_true rfl, Nat.le_of_ble_eq_true rfl⟩) (gy_pre (cx_XX b tP tN) hX hK hP hS) rfl rfl hl.1 rfl (lv_room (Nat.le_of_ble_eq_true rfl)) d_Mac_step_73 ⟨Nat.zero_le _, Nat.zero_le _⟩) hS (fun H locs hP hS => ?_)
      refine lv_icmp_lt (pc := 76) (tgt := 84) hx hb d_Mac_step_76 (by decide) (fun g6 => ?_) (fun g6 => ?_)
      · have h := gx_pos g6 h
        refine lv_aload_n (pc := 84) hx hb d_Mac_step_84 rfl (lv_at hl 2 rfl) ?_
        obtain ⟨q5, g7, h⟩ := gx_bd h
        refine gx_cv (pc := 85) (va_runV (C := "GasLedger$Frame") (As := []) (rest := []) ⟨hx, hb, hml, hown, hts⟩ (k_Frm_fail l dC dI cI cR cZ b tP tN hk_x1 g7) (gx_cw 0 hts cd_Frm_fail tb_48 tb_397 tb_398 tb_399 rfl rfl ⟨by decide, by decide, by decide +kernel⟩ ⟨Nat.le_of_ble_eq_true rfl, Nat.le_of_ble_eq_true rfl⟩) (gy_preV (cx_XX b tP tN) hX hK hP hS (cx_lt hk_x1 (by decide)) (sh_Frm cI cR b hk_x1 _) rfl) rfl rfl hl.1 rfl (lv_room (Nat.le_of_ble_eq_true rfl)) d_Mac_step_85 ⟨Nat.zero_le _, Nat.zero_le _⟩) hS (fun H locs hP hS => ?_)
        exact gx_vret hx hb hr hlk hP hS d_Mac_step_88 (by cases h; rfl) (by cases h; rfl)
      · have h := gx_neg g6 h
        refine lv_iload (pc := 79) hx hb d_Mac_step_79 (lv_at hl 0 rfl) ?_
        refine lv_if_eq (pc := 81) (tgt := 89) hx hb d_Mac_step_81 (by decide) (fun g8 => ?_) (fun g8 => ?_)
        · have h := gx_pos g8 h
          refine lv_aload_n (pc := 89) hx hb d_Mac_step_89 rfl (lv_at hl 2 rfl) ?_
          refine lv_dup (pc := 90) hx hb d_Mac_step_90 rfl ?_
          refine va_get (pc := 91) (D := (dC, dI)) (ci := 1) (C := R_Frm) (T := T_Frm) (N := 17) hx hb hts in_Frm hown hK hP x1 (gx_at (cx_lt hk_x1 (by decide)) (sh_Frm cI cR b hk_x1 _)) rfl 6 (by decide) (hts _ tb_147) (fun _ h9 => h9) rfl d_Mac_step_91 ?_
          refine lv_iload (pc := 94) hx hb d_Mac_step_94 (lv_at hl 5 rfl) ?_
          refine lv_isub (pc := 96) hx hb d_Mac_step_96 ?_
          obtain ⟨V1, g9, h⟩ := gx_lt h
          refine gy_put (pc := 97) (D := (dC, dI)) (ci := 1) (C := R_Frm) (T := T_Frm) (NF := 17) (ty := .int) hx hb hts in_Frm t_Frm ty_Frm nm_Frm hown hK hP hS x1 (cx_lt hk_x1 (by decide)) (sh_Frm cI cR b hk_x1 _) rfl 6 (by decide) (hts _ tb_147) (fun _ h9 => h9) rfl (by decide +kernel) rfl rfl (Nat.le_of_ble_eq_true rfl) 6 (sh_Frm cI cR b hk_x1 _) d_Mac_step_97 g9 (fun H locs hP hS => ?_)
          refine lv_aload_n (pc := 100) hx hb d_Mac_step_100 rfl (lv_at hl 2 rfl) ?_
          refine lv_dup (pc := 101) hx hb d_Mac_step_101 rfl ?_
          refine va_get (pc := 102) (D := (dC, dI)) (ci := 1) (C := R_Frm) (T := T_Frm) (N := 17) hx hb hts in_Frm hown hK hP x1 (gx_at (cx_lt hk_x1 (by decide)) (sh_Frm cI cR b hk_x1 _)) rfl 2 (by decide) (hts _ tb_139) (fun _ h9 => h9) rfl d_Mac_step_102 ?_
          refine lv_iconst (pc := 105) (v := (1 : Int32)) hx hb d_Mac_step_105 (by decide) ?_
          refine lv_iadd (pc := 106) hx hb d_Mac_step_106 ?_
          obtain ⟨V2, g10, h⟩ := gx_lt h
          refine gy_put (pc := 107) (D := (dC, dI)) (ci := 1) (C := R_Frm) (T := T_Frm) (NF := 17) (ty := .int) hx hb hts in_Frm t_Frm ty_Frm nm_Frm hown hK hP hS x1 (cx_lt hk_x1 (by decide)) (sh_Frm cI cR b hk_x1 _) rfl 2 (by decide) (hts _ tb_139) (fun _ h9 => h9) rfl (by decide +kernel) rfl rfl (Nat.le_of_ble_eq_true rfl) 2 (sh_Frm cI cR b hk_x1 _) d_Mac_step_107 g10 (fun H locs hP hS => ?_)
          refine lv_iload_n (pc := 110) hx hb d_Mac_step_110 rfl (lv_at hl 3 rfl) ?_
          by_cases g11 : x3 = (0 : Int32)
          · have h := gx_pos g11 h
            refine lv_tableIn (pc := 111) (off := 129) (tgt := 240) hx hb d_Mac_step_111 (by rw [g11]; decide) (by rw [g11]; decide) (by rw [g11]; rfl) (by decide) ?_
            refine lv_aload_n (pc := 240) hx hb d_Mac_step_240 rfl (lv_at hl 2 rfl) ?_
            refine lv_iconst (pc := 241) (v := (1 : Int32)) hx hb d_Mac_step_241 (by decide) ?_
            refine lv_iconst (pc := 242) (v := (0 : Int32)) hx hb d_Mac_step_242 (by decide) ?_
            obtain ⟨q6, g12, h⟩ := gx_bd h
            refine gx_cv (pc := 243) (va_runV (C := "GasLedger$Frame") (As := [.int (1 : Int32), .int (0 : Int32)]) (rest := []) ⟨hx, hb, hml, hown, hts⟩ (k_Frm_end l dC dI cI cR cZ b tP tN hk_x1 g12) (gx_cw 2 hts cd_Frm_end tb_48 tb_405 tb_402 tb_403 rfl rfl ⟨by decide, by decide, by decide +kernel⟩ ⟨Nat.le_of_ble_eq_true rfl, Nat.le_of_ble_eq_true rfl⟩) (gy_preV (cx_XX b tP tN) hX hK hP hS (cx_lt hk_x1 (by decide)) (sh_Frm cI cR b hk_x1 _) rfl) rfl rfl hl.1 rfl (lv_room (Nat.le_of_ble_eq_true rfl)) d_Mac_step_243 ⟨Nat.zero_le _, Nat.zero_le _⟩) hS (fun H locs hP hS => ?_)
            refine lv_goto (pc := 246) (tgt := 380) hx hb d_Mac_step_246 (by decide) ?_
            exact gx_vret hx hb hr hlk hP hS d_Mac_step_380 (by cases h; rfl) (by cases h; rfl)
          have h := gx_neg g11 h
          by_cases g13 : x3 = (2 : Int32)
          · have h := gx_pos g13 h
            refine lv_tableIn (pc := 111) (off := 138) (tgt := 249) hx hb d_Mac_step_111 (by rw [g13]; decide) (by rw [g13]; decide) (by rw [g13]; rfl) (by decide) ?_
            refine lv_aload_n (pc := 249) hx hb d_Mac_step_249 rfl (lv_at hl 2 rfl) ?_
            obtain ⟨q7, g14, h⟩ := gx_bd h
            refine gx_ci (pc := 250) (va_runV (C := "GasLedger$Frame") (As := []) (rest := []) ⟨hx, hb, hml, hown, hts⟩ (k_Frm_pop l dC dI cI cR cZ b tP tN hk_x1 g14) (gx_cw 0 hts cd_Frm_pop tb_48 tb_406 tb_407 tb_408 rfl rfl ⟨by decide, by decide, by decide +kernel⟩ ⟨Nat.le_of_ble_eq_true rfl, Nat.le_of_ble_eq_true rfl⟩) (gy_preV (cx_XX b tP tN) hX hK hP hS (cx_lt hk_x1 (by decide)) (sh_Frm cI cR b hk_x1 _) rfl) rfl rfl hl.1 rfl (lv_room (Nat.le_of_ble_eq_true rfl)) d_Mac_step_250 ⟨Nat.zero_le _, Nat.zero_le _⟩) hS (fun H locs hP hS => ?_)
            refine lv_pop (pc := 253) hx hb d_Mac_step_253 rfl ?_
            refine lv_goto (pc := 254) (tgt := 380) hx hb d_Mac_step_254 (by decide) ?_
            exact gx_vret hx hb hr hlk hP hS d_Mac_step_380 (by cases h; rfl) (by cases h; rfl)
          have h := gx_neg g13 h
          by_cases g15 : x3 = (4 : Int32)
          · have h := gx_pos g15 h
            refine lv_tableIn (pc := 111) (off := 146) (tgt := 257) hx hb d_Mac_step_111 (by rw [g15]; decide) (by rw [g15]; decide) (by rw [g15]; rfl) (by decide) ?_
            refine lv_aload_n (pc := 257) hx hb d_Mac_step_257 rfl (lv_at hl 2 rfl) ?_
            refine lv_iload (pc := 258) hx hb d_Mac_step_258 (lv_at hl 4 rfl) ?_
            obtain ⟨q8, g16, h⟩ := gx_bd h
            refine gx_cv (pc := 260) (va_runV (C := "GasLedger$Frame") (As := [.int x4]) (rest := []) ⟨hx, hb, hml, hown, hts⟩ (k_Frm_swap l dC dI cI cR cZ b tP tN hk_x1 g16) (gx_cw 1 hts cd_Frm_swap tb_48 tb_410 tb_411 tb_412 rfl rfl ⟨by decide, by decide, by decide +kernel⟩ ⟨Nat.le_of_ble_eq_true rfl, Nat.le_of_ble_eq_true rfl⟩) (gy_preV (cx_XX b tP tN) hX hK hP hS (cx_lt hk_x1 (by decide)) (sh_Frm cI cR b hk_x1 _) rfl) rfl rfl hl.1 rfl (lv_room (Nat.le_of_ble_eq_true rfl)) d_Mac_step_260 ⟨Nat.zero_le _, Nat.zero_le _⟩) hS (fun H locs hP hS => ?_)
            refine lv_goto (pc := 263) (tgt := 380) hx hb d_Mac_step_263 (by decide) ?_
            exact gx_vret hx hb hr hlk hP hS d_Mac_step_380 (by cases h; rfl) (by cases h; rfl)
          have h := gx_neg g15 h
          by_cases g17 : x3 = (12 : Int32)
          · have h := gx_pos g17 h
            refine lv_tableIn (pc := 111) (off := 155) (tgt := 266) hx hb d_Mac_step_111 (by rw [g17]; decide) (by rw [g17]; decide) (by rw [g17]; rfl) (by decide) ?_
            refine lv_aload_n (pc := 266) hx hb d_Mac_step_266 rfl (lv_at hl 1 rfl) ?_
            refine lv_aload_n (pc := 267) hx hb d_Mac_step_267 rfl (lv_at hl 2 rfl) ?_
            refine lv_aload_n (pc := 268) hx hb d_Mac_step_268 rfl (lv_at hl 2 rfl) ?_
            obtain ⟨q9, g18, h⟩ := gx_bd h
            refine gx_ci (pc := 269) (va_runV (C := "GasLedger$Frame") (As := []) (rest := [.ref (b + x1), .ref (b + x0)]) ⟨hx, hb, hml, hown, hts⟩ (k_Frm_pop l dC dI cI cR cZ b tP tN hk_x1 g18) (gx_cw 0 hts cd_Frm_pop tb_48 tb_406 tb_407 tb_408 rfl rfl ⟨by decide, by decide, by decide +kernel⟩ ⟨Nat.le_of_ble_eq_true rfl, Nat.le_of_ble_eq_true rfl⟩) (gy_preV (cx_XX b tP tN) hX hK hP hS (cx_lt hk_x1 (by decide)) (sh_Frm cI cR b hk_x1 _) rfl) rfl rfl hl.1 rfl (lv_room (Nat.le_of_ble_eq_true rfl)) d_Mac_step_269 ⟨Nat.zero_le _, Nat.zero_le _⟩) hS (fun H locs hP hS => ?_)
            obtain ⟨q10, g19, h⟩ := gx_bd h
            refine gx_cv (pc := 272) (va_runV (C := "GasLedger$Machine") (As := [.ref (b + x1), .int q9.1]) (rest := []) ⟨hx, hb, hml, hown, hts⟩ (k_Mac_jump l dC dI cI cR cZ b tP tN hk_x0 hk_x1 g19) (gx_cw 2 hts cd_Mac_jump tb_45 tb_414 tb_416 tb_5 rfl rfl ⟨by decide, by decide, by decide +kernel⟩ ⟨Nat.le_of_ble_eq_true rfl, Nat.le_of_ble_eq_true rfl⟩) (gy_preV (cx_XX b tP tN) hX hK hP hS (cx_lt hk_x0 (by decide)) (sh_Mac cI cR b hk_x0 _) rfl) rfl rfl hl.1 rfl (lv_room (Nat.le_of_ble_eq_true rfl)) d_Mac_step_272 ⟨Nat.zero_le _, Nat.zero_le _⟩) hS (fun H locs hP hS => ?_)
            refine lv_goto (pc := 275) (tgt := 380) hx hb d_Mac_step_275 (by decide) ?_
            exact gx_vret hx hb hr hlk hP hS d_Mac_step_380 (by cases h; rfl) (by cases h; rfl)
          have h := gx_neg g17 h
          by_cases g20 : x3 = (13 : Int32)
          · have h := gx_pos g20 h
            refine lv_tableIn (pc := 111) (off := 167) (tgt := 278) hx hb d_Mac_step_111 (by rw [g20]; decide) (by rw [g20]; decide) (by rw [g20]; rfl) (by decide) ?_
            refine lv_aload_n (pc := 278) hx hb d_Mac_step_278 rfl (lv_at hl 1 rfl) ?_
            refine lv_aload_n (pc := 279) hx hb d_Mac_step_279 rfl (lv_at hl 2 rfl) ?_
            obtain ⟨q11, g21, h⟩ := gx_bd h
            refine gx_cv (pc := 280) (va_runV (C := "GasLedger$Machine") (As := [.ref (b + x1)]) (rest := []) ⟨hx, hb, hml, hown, hts⟩ (k_Mac_jumpIf l dC dI cI cR cZ b tP tN hk_x0 hk_x1 g21) (gx_cw 1 hts cd_Mac_jumpIf tb_45 tb_418 tb_420 tb_6 rfl rfl ⟨by decide, by decide, by decide +kernel⟩ ⟨Nat.le_of_ble_eq_true rfl, Nat.le_of_ble_eq_true rfl⟩) (gy_preV (cx_XX b tP tN) hX hK hP hS (cx_lt hk_x0 (by decide)) (sh_Mac cI cR b hk_x0 _) rfl) rfl rfl hl.1 rfl (lv_room (Nat.le_of_ble_eq_true rfl)) d_Mac_step_280 ⟨Nat.zero_le _, Nat.zero_le _⟩) hS (fun H locs hP hS => ?_)
            refine lv_goto (pc := 283) (tgt := 380) hx hb d_Mac_step_283 (by decide) ?_
            exact gx_vret hx hb hr hlk hP hS d_Mac_step_380 (by cases h; rfl) (by cases h; rfl)
          have h := gx_neg g20 h
          by_cases g22 : x3 = (15 : Int32)
          · have h := gx_pos g22 h
            refine lv_tableIn (pc := 111) (off := 175) (tgt := 286) hx hb d_Mac_step_111 (by rw [g22]; decide) (by rw [g22]; decide) (by rw [g22]; rfl) (by decide) ?_
            refine lv_aload_n (pc := 286) hx hb d_Mac_step_286 rfl (lv_at hl 1 rfl) ?_
            refine lv_aload_n (pc := 287) hx hb d_Mac_step_287 rfl (lv_at hl 2 rfl) ?_
            obtain ⟨q12, g23, h⟩ := gx_bd h
            refine gx_cv (pc := 288) (va_runV (C := "GasLedger$Machine") (As := [.ref (b + x1)]) (rest := []) ⟨hx, hb, hml, hown, hts⟩ (k_Mac_store l dC dI cI cR cZ b tP tN hk_x0 hk_x1 g23) (gx_cw 1 hts cd_Mac_store tb_45 tb_422 tb_424 tb_7 rfl rfl ⟨by decide, by decide, by decide +kernel⟩ ⟨Nat.le_of_ble_eq_true rfl, Nat.le_of_ble_eq_true rfl⟩) (gy_preV (cx_XX b tP tN) hX hK hP hS (cx_lt hk_x0 (by decide)) (sh_Mac cI cR b hk_x0 _) rfl) rfl rfl hl.1 rfl (lv_room (Nat.le_of_ble_eq_true rfl)) d_Mac_step_288 ⟨Nat.zero_le _, Nat.zero_le _⟩) hS (fun H locs hP hS => ?_)
            refine lv_goto (pc := 291) (tgt := 380) hx hb d_Mac_step_291 (by decide) ?_
            exact gx_vret hx hb hr hlk hP hS d_Mac_step_380 (by cases h; rfl) (by cases h; rfl)
          have h := gx_neg g22 h
          by_cases g24 : x3 = (22 : Int32)
          · have h := gx_pos g24 h
            refine lv_tableIn (pc := 111) (off := 183) (tgt := 294) hx hb d_Mac_step_111 (by rw [g24]; decide) (by rw [g24]; decide) (by rw [g24]; rfl) (by decide) ?_
            refine lv_aload_n (pc := 294) hx hb d_Mac_step_294 rfl (lv_at hl 1 rfl) ?_
            refine lv_aload_n (pc := 295) hx hb d_Mac_step_295 rfl (lv_at hl 2 rfl) ?_
            obtain ⟨q13, g25, h⟩ := gx_bd h
            refine gx_cv (pc := 296) (va_runV (C := "GasLedger$Machine") (As := [.ref (b + x1)]) (rest := []) ⟨hx, hb, hml, hown, hts⟩ (k_Mac_callOther l dC dI cI cR cZ b tP tN hk_x0 hk_x1 g25) (gx_cw 1 hts cd_Mac_callOther tb_45 tb_427 tb_429 tb_8 rfl rfl ⟨by decide, by decide, by decide +kernel⟩ ⟨Nat.le_of_ble_eq_true rfl, Nat.le_of_ble_eq_true rfl⟩) (gy_preV (cx_XX b tP tN) hX hK hP hS (cx_lt hk_x0 (by decide)) (sh_Mac cI cR b hk_x0 _) rfl) rfl rfl hl.1 rfl (lv_room (Nat.le_of_ble_eq_true rfl)) d_Mac_step_296 ⟨Nat.zero_le _, Nat.zero_le _⟩) hS (fun H locs hP hS => ?_)
            refine lv_goto (pc := 299) (tgt := 380) hx hb d_Mac_step_299 (by decide) ?_
            exact gx_vret hx hb hr hlk hP hS d_Mac_step_380 (by cases h; rfl) (by cases h; rfl)
          have h := gx_neg g24 h
          by_cases g26 : x3 = (23 : Int32)
          · have h := gx_pos g26 h
            refine lv_tableIn (pc := 111) (off := 191) (tgt := 302) hx hb d_Mac_step_111 (by rw [g26]; decide) (by rw [g26]; decide) (by rw [g26]; rfl) (by decide) ?_
            refine lv_aload_n (pc := 302) hx hb d_Mac_step_302 rfl (lv_at hl 1 rfl) ?_
            refine lv_aload_n (pc := 303) hx hb d_Mac_step_303 rfl (lv_at hl 2 rfl) ?_
            obtain ⟨q14, g27, h⟩ := gx_bd h
            refine gx_cv (pc := 304) (va_runV (C := "GasLedger$Machine") (As := [.ref (b + x1)]) (rest := []) ⟨hx, hb, hml, hown, hts⟩ (k_Mac_delegate l dC dI cI cR cZ b tP tN hk_x0 hk_x1 g27) (gx_cw 1 hts cd_Mac_delegate tb_45 tb_448 tb_450 tb_12 rfl rfl ⟨by decide, by decide, by decide +kernel⟩ ⟨Nat.le_of_ble_eq_true rfl, Nat.le_of_ble_eq_true rfl⟩) (gy_preV (cx_XX b tP tN) hX hK hP hS (cx_lt hk_x0 (by decide)) (sh_Mac cI cR b hk_x0 _) rfl) rfl rfl hl.1 rfl (lv_room (Nat.le_of_ble_eq_true rfl)) d_Mac_step_304 ⟨Nat.zero_le _, Nat.zero_le _⟩) hS (fun H locs hP hS => ?_)
            refine lv_goto (pc := 307) (tgt := 380) hx hb d_Mac_step_307 (by decide) ?_
            exact gx_vret hx hb hr hlk hP hS d_Mac_step_380 (by cases h; rfl) (by cases h; rfl)
          have h := gx_neg g26 h
          by_cases g28 : x3 = (24 : Int32)
          · have h := gx_pos g28 h
            refine lv_tableIn (pc := 111) (off := 199) (tgt := 310) hx hb d_Mac_step_111 (by rw [g28]; decide) (by rw [g28]; decide) (by rw [g28]; rfl) (by decide) ?_
            refine lv_aload_n (pc := 310) hx hb d_Mac_step_310 rfl (lv_at hl 1 rfl) ?_
            refine lv_aload_n (pc := 311) hx hb d_Mac_step_311 rfl (lv_at hl 2 rfl) ?_
            obtain ⟨q15, g29, h⟩ := gx_bd h
            refine gx_cv (pc := 312) (va_runV (C := "GasLedger$Machine") (As := [.ref (b + x1)]) (rest := []) ⟨hx, hb, hml, hown, hts⟩ (k_Mac_create l dC dI cI cR cZ b tP tN hk_x0 hk_x1 g29) (gx_cw 1 hts cd_Mac_create tb_45 tb_452 tb_454 tb_13 rfl rfl ⟨by decide, by decide, by decide +kernel⟩ ⟨Nat.le_of_ble_eq_true rfl, Nat.le_of_ble_eq_true rfl⟩) (gy_preV (cx_XX b tP tN) hX hK hP hS (cx_lt hk_x0 (by decide)) (sh_Mac cI cR b hk_x0 _) rfl) rfl rfl hl.1 rfl (lv_room (Nat.le_of_ble_eq_true rfl)) d_Mac_step_312 ⟨Nat.zero_le _, Nat.zero_le _⟩) hS (fun H locs hP hS => ?_)
            refine lv_goto (pc := 315) (tgt := 380) hx hb d_Mac_step_315 (by decide) ?_
            exact gx_vret hx hb hr hlk hP hS d_Mac_step_380 (by cases h; rfl) (by cases h; rfl)
          have h := gx_neg g28 h
          by_cases g30 : x3 = (25 : Int32)
          · have h := gx_pos g30 h
            refine lv_tableIn (pc := 111) (off := 207) (tgt := 318) hx hb d_Mac_step_111 (by rw [g30]; decide) (by rw [g30]; decide) (by rw [g30]; rfl) (by decide) ?_
            refine lv_aload_n (pc := 318) hx hb d_Mac_step_318 rfl (lv_at hl 1 rfl) ?_
            refine va_get (pc := 319) (D := (dC, dI)) (ci := 3) (C := R_Mac) (T := T_Mac) (N := 6) hx hb hts in_Mac hown hK hP x0 (gx_at (cx_lt hk_x0 (by decide)) (sh_Mac cI cR b hk_x0 _)) rfl 1 (by decide) (hts _ tb_203) (fun _ h9 => h9) rfl d_Mac_step_319 ?_
            refine lv_aload_n (pc := 322) hx hb d_Mac_step_322 rfl (lv_at hl 2 rfl) ?_
            refine va_get (pc := 323) (D := (dC, dI)) (ci := 1) (C := R_Frm) (T := T_Frm) (N := 17) hx hb hts in_Frm hown hK hP x1 (gx_at (cx_lt hk_x1 (by decide)) (sh_Frm cI cR b hk_x1 _)) rfl 0 (by decide) (hts _ tb_135) (fun _ h9 => h9) rfl d_Mac_step_323 ?_
            refine lv_aload_n (pc := 326) hx hb d_Mac_step_326 rfl (lv_at hl 2 rfl) ?_
            obtain ⟨q16, g31, h⟩ := gx_bd h
            refine gx_ci (pc := 327) (va_runV (C := "GasLedger$Frame") (As := []) (rest := [.int (V2 x1 0), .ref (b + (x0 + 8))]) ⟨hx, hb, hml, hown, hts⟩ (k_Frm_pop l dC dI cI cR cZ b tP tN hk_x1 g31) (gx_cw 0 hts cd_Frm_pop tb_48 tb_406 tb_407 tb_408 rfl rfl ⟨by decide, by decide, by decide +kernel⟩ ⟨Nat.le_of_ble_eq_true rfl, Nat.le_of_ble_eq_true rfl⟩) (gy_preV (cx_XX b tP tN) hX hK hP hS (cx_lt hk_x1 (by decide)) (sh_Frm cI cR b hk_x1 _) rfl) rfl rfl hl.1 rfl (lv_room (Nat.le_of_ble_eq_true rfl)) d_Mac_step_327 ⟨Nat.zero_le _, Nat.zero_le _⟩) hS (fun H locs hP hS => ?_)
            obtain ⟨q17, g32, h⟩ := gx_bd h
            refine gx_cv (pc := 330) (va_runV (C := "GasLedger$Logs") (As := [.int (V2 x1 0), .int q16.1]) (rest := []) ⟨hx, hb, hml, hown, hts⟩ (k_Log_add l dC dI cI cR cZ b tP tN (to_Mac_logs hk_x0) g32) (gx_cw 2 hts cd_Log_add tb_47 tb_469 tb_470 tb_471 rfl rfl ⟨by decide, by decide, by decide +kernel⟩ ⟨Nat.le_of_ble_eq_true rfl, Nat.le_of_ble_eq_true rfl⟩) (gy_preV (cx_XX b tP tN) hX hK hP hS (cx_lt (to_Mac_logs hk_x0) (by decide)) (sh_Log cI cR b (to_Mac_logs hk_x0) _) rfl) rfl rfl hl.1 rfl (lv_room (Nat.le_of_ble_eq_true rfl)) d_Mac_step_330 ⟨Nat.zero_le _, Nat.zero_le _⟩) hS (fun H locs hP hS => ?_)
            refine lv_goto (pc := 333) (tgt := 380) hx hb d_Mac_step_333 (by decide) ?_
            exact gx_vret hx hb hr hlk hP hS d_Mac_step_380 (by cases h; rfl) (by cases h; rfl)
          have h := gx_neg g30 h
          by_cases g33 : x3 = (26 : Int32)
          · have h := gx_pos g33 h
            refine lv_tableIn (pc := 111) (off := 225) (tgt := 336) hx hb d_Mac_step_111 (by rw [g33]; decide) (by rw [g33]; decide) (by rw [g33]; rfl) (by decide) ?_
            refine lv_aload_n (pc := 336) hx hb d_Mac_step_336 rfl (lv_at hl 2 rfl) ?_
            refine lv_iconst (pc := 337) (v := (1 : Int32)) hx hb d_Mac_step_337 (by decide) ?_
            refine lv_aload_n (pc := 338) hx hb d_Mac_step_338 rfl (lv_at hl 2 rfl) ?_
            obtain ⟨q18, g34, h⟩ := gx_bd h
            refine gx_ci (pc := 339) (va_runV (C := "GasLedger$Frame") (As := []) (rest := [.int (1 : Int32), .ref (b + x1)]) ⟨hx, hb, hml, hown, hts⟩ (k_Frm_pop l dC dI cI cR cZ b tP tN hk_x1 g34) (gx_cw 0 hts cd_Frm_pop tb_48 tb_406 tb_407 tb_408 rfl rfl ⟨by decide, by decide, by decide +kernel⟩ ⟨Nat.le_of_ble_eq_true rfl, Nat.le_of_ble_eq_true rfl⟩) (gy_preV (cx_XX b tP tN) hX hK hP hS (cx_lt hk_x1 (by decide)) (sh_Frm cI cR b hk_x1 _) rfl) rfl rfl hl.1 rfl (lv_room (Nat.le_of_ble_eq_true rfl)) d_Mac_step_339 ⟨Nat.zero_le _, Nat.zero_le _⟩) hS (fun H locs hP hS => ?_)
            obtain ⟨q19, g35, h⟩ := gx_bd h
            refine gx_cv (pc := 342) (va_runV (C := "GasLedger$Frame") (As := [.int (1 : Int32), .int q18.1]) (rest := []) ⟨hx, hb, hml, hown, hts⟩ (k_Frm_end l dC dI cI cR cZ b tP tN hk_x1 g35) (gx_cw 2 hts cd_Frm_end tb_48 tb_405 tb_402 tb_403 rfl rfl ⟨by decide, by decide, by decide +kernel⟩ ⟨Nat.le_of_ble_eq_true rfl, Nat.le_of_ble_eq_true rfl⟩) (gy_preV (cx_XX b tP tN) hX hK hP hS (cx_lt hk_x1 (by decide)) (sh_Frm cI cR b hk_x1 _) rfl) rfl rfl hl.1 rfl (lv_room (Nat.le_of_ble_eq_true rfl)) d_Mac_step_342 ⟨Nat.zero_le _, Nat.zero_le _⟩) hS (fun H locs hP hS => ?_)
            refine lv_goto (pc := 345) (tgt := 380) hx hb d_Mac_step_345 (by decide) ?_
            exact gx_vret hx hb hr hlk hP hS d_Mac_step_380 (by cases h; rfl) (by cases h; rfl)
          have h := gx_neg g33 h
          by_cases g36 : x3 = (27 : Int32)
          · have h := gx_pos g36 h
            refine lv_tableIn (pc := 111) (off := 237) (tgt := 348) hx hb d_Mac_step_111 (by rw [g36]; decide) (by rw [g36]; decide) (by rw [g36]; rfl) (by decide) ?_
            refine lv_aload_n (pc := 348) hx hb d_Mac_step_348 rfl (lv_at hl 2 rfl) ?_
            refine lv_iconst (pc := 349) (v := (0 : Int32)) hx hb d_Mac_step_349 (by decide) ?_
            refine lv_aload_n (pc := 350) hx hb d_Mac_step_350 rfl (lv_at hl 2 rfl) ?_
            obtain ⟨q20, g37, h⟩ := gx_bd h
            refine gx_ci (pc := 351) (va_runV (C := "GasLedger$Frame") (As := []) (rest := [.int (0 : Int32), .ref (b + x1)]) ⟨hx, hb, hml, hown, hts⟩ (k_Frm_pop l dC dI cI cR cZ b tP tN hk_x1 g37) (gx_cw 0 hts cd_Frm_pop tb_48 tb_406 tb_407 tb_408 rfl rfl ⟨by decide, by decide, by decide +kernel⟩ ⟨Nat.le_of_ble_eq_true rfl, Nat.le_of_ble_eq_true rfl⟩) (gy_preV (cx_XX b tP tN) hX hK hP hS (cx_lt hk_x1 (by decide)) (sh_Frm cI cR b hk_x1 _) rfl) rfl rfl hl.1 rfl (lv_room (Nat.le_of_ble_eq_true rfl)) d_Mac_step_351 ⟨Nat.zero_le _, Nat.zero_le _⟩) hS (fun H locs hP hS => ?_)
            obtain ⟨q21, g38, h⟩ := gx_bd h
            refine gx_cv (pc := 354) (va_runV (C := "GasLedger$Frame") (As := [.int (0 : Int32), .int q20.1]) (rest := []) ⟨hx, hb, hml, hown, hts⟩ (k_Frm_end l dC dI cI cR cZ b tP tN hk_x1 g38) (gx_cw 2 hts cd_Frm_end tb_48 tb_405 tb_402 tb_403 rfl rfl ⟨by decide, by decide, by decide +kernel⟩ ⟨Nat.le_of_ble_eq_true rfl, Nat.le_of_ble_eq_true rfl⟩) (gy_preV (cx_XX b tP tN) hX hK hP hS (cx_lt hk_x1 (by decide)) (sh_Frm cI cR b hk_x1 _) rfl) rfl rfl hl.1 rfl (lv_room (Nat.le_of_ble_eq_true rfl)) d_Mac_step_354 ⟨Nat.zero_le _, Nat.zero_le _⟩) hS (fun H locs hP hS => ?_)
            refine lv_goto (pc := 357) (tgt := 380) hx hb d_Mac_step_357 (by decide) ?_
            exact gx_vret hx hb hr hlk hP hS d_Mac_step_380 (by cases h; rfl) (by cases h; rfl)
          have h := gx_neg g36 h
          by_cases g39 : x3 = (28 : Int32)
          · have h := gx_pos g39 h
            refine lv_tableIn (pc := 111) (off := 249) (tgt := 360) hx hb d_Mac_step_111 (by rw [g39]; decide) (by rw [g39]; decide) (by rw [g39]; rfl) (by decide) ?_
            refine lv_aload_n (pc := 360) hx hb d_Mac_step_360 rfl (lv_at hl 1 rfl) ?_
            refine lv_aload_n (pc := 361) hx hb d_Mac_step_361 rfl (lv_at hl 2 rfl) ?_
            obtain ⟨q22, g40, h⟩ := gx_bd h
            refine gx_cv (pc := 362) (va_runV (C := "GasLedger$Machine") (As := [.ref (b + x1)]) (rest := []) ⟨hx, hb, hml, hown, hts⟩ (k_Mac_endSelf l dC dI cI cR cZ b tP tN hk_x0 hk_x1 g40) (gx_cw 1 hts cd_Mac_endSelf tb_45 tb_477 tb_479 tb_15 rfl rfl ⟨by decide, by decide, by decide +kernel⟩ ⟨Nat.le_of_ble_eq_true rfl, Nat.le_of_ble_eq_true rfl⟩) (gy_preV (cx_XX b tP tN) hX hK hP hS (cx_lt hk_x0 (by decide)) (sh_Mac cI cR b hk_x0 _) rfl) rfl rfl hl.1 rfl (lv_room (Nat.le_of_ble_eq_true rfl)) d_Mac_step_362 ⟨Nat.zero_le _, Nat.zero_le _⟩) hS (fun H locs hP hS => ?_)
            refine lv_goto (pc := 365) (tgt := 380) hx hb d_Mac_step_365 (by decide) ?_
            exact gx_vret hx hb hr hlk hP hS d_Mac_step_380 (by cases h; rfl) (by cases h; rfl)
          have h := gx_neg g39 h
          by_cases g41 : x3 = (1 : Int32)
          · refine lv_tableIn (pc := 111) (off := 257) (tgt := 368) hx hb d_Mac_step_111 (by rw [g41]; decide) (by rw [g41]; decide) (by rw [g41]; rfl) (by decide) ?_
            exact B_368   _ _ _ _ hk_x0 hk_x1 _ _ _ _ (lv_sub hl [1, 2, 3, 4] rfl) hP hS h
          by_cases g42 : x3 = (3 : Int32)
          · refine lv_tableIn (pc := 111) (off := 257) (tgt := 368) hx hb d_Mac_step_111 (by rw [g42]; decide) (by rw [g42]; decide) (by rw [g42]; rfl) (by decide) ?_
            exact B_368   _ _ _ _ hk_x0 hk_x1 _ _ _ _ (lv_sub hl [1, 2, 3, 4] rfl) hP hS h
          by_cases g43 : x3 = (5 : Int32)
          · refine lv_tableIn (pc := 111) (off := 257) (tgt := 368) hx hb d_Mac_step_111 (by rw [g43]; decide) (by rw [g43]; decide) (by rw [g43]; rfl) (by decide) ?_
            exact B_368   _ _ _ _ hk_x0 hk_x1 _ _ _ _ (lv_sub hl [1, 2, 3, 4] rfl) hP hS h
          by_cases g44 : x3 = (6 : Int32)
          · refine lv_tableIn (pc := 111) (off := 257) (tgt := 368) hx hb d_Mac_step_111 (by rw [g44]; decide) (by rw [g44]; decide) (by rw [g44]; rfl) (by decide) ?_
            exact B_368   _ _ _ _ hk_x0 hk_x1 _ _ _ _ (lv_sub hl [1, 2, 3, 4] rfl) hP hS h
          by_cases g45 : x3 = (7 : Int32)
          · refine lv_tableIn (pc := 111) (off := 257) (tgt := 368) hx hb d_Mac_step_111 (by rw [g45]; decide) (by rw [g45]; decide) (by rw [g45]; rfl) (by decide) ?_
            exact B_368   _ _ _ _ hk_x0 hk_x1 _ _ _ _ (lv_sub hl [1, 2, 3, 4] rfl) hP hS h
          by_cases g46 : x3 = (8 : Int32)
          · refine lv_tableIn (pc := 111) (off := 257) (tgt := 368) hx hb d_Mac_step_111 (by rw [g46]; decide) (by rw [g46]; decide) (by rw [g46]; rfl) (by decide) ?_
            exact B_368   _ _ _ _ hk_x0 hk_x1 _ _ _ _ (lv_sub hl [1, 2, 3, 4] rfl) hP hS h
          by_cases g47 : x3 = (9 : Int32)
          · refine lv_tableIn (pc := 111) (off := 257) (tgt := 368) hx hb d_Mac_step_111 (by rw [g47]; decide) (by rw [g47]; decide) (by rw [g47]; rfl) (by decide) ?_
            exact B_368   _ _ _ _ hk_x0 hk_x1 _ _ _ _ (lv_sub hl [1, 2, 3, 4] rfl) hP hS h
          by_cases g48 : x3 = (10 : Int32)
          · refine lv_tableIn (pc := 111) (off := 257) (tgt := 368) hx hb d_Mac_step_111 (by rw [g48]; decide) (by rw [g48]; decide) (by rw [g48]; rfl) (by decide) ?_
            exact B_368   _ _ _ _ hk_x0 hk_x1 _ _ _ _ (lv_sub hl [1, 2, 3, 4] rfl) hP hS h
          by_cases g49 : x3 = (11 : Int32)
          · refine lv_tableIn (pc := 111) (off := 257) (tgt := 368) hx hb d_Mac_step_111 (by rw [g49]; decide) (by rw [g49]; decide) (by rw [g49]; rfl) (by decide) ?_
            exact B_368   _ _ _ _ hk_x0 hk_x1 _ _ _ _ (lv_sub hl [1, 2, 3, 4] rfl) hP hS h
          by_cases g50 : x3 = (14 : Int32)
          · refine lv_tableIn (pc := 111) (off := 257) (tgt := 368) hx hb d_Mac_step_111 (by rw [g50]; decide) (by rw [g50]; decide) (by rw [g50]; rfl) (by decide) ?_
            exact B_368   _ _ _ _ hk_x0 hk_x1 _ _ _ _ (lv_sub hl [1, 2, 3, 4] rfl) hP hS h
          by_cases g51 : x3 = (16 : Int32)
          · refine lv_tableIn (pc := 111) (off := 257) (tgt := 368) hx hb d_Mac_step_111 (by rw [g51]; decide) (by rw [g51]; decide) (by rw [g51]; rfl) (by decide) ?_
            exact B_368   _ _ _ _ hk_x0 hk_x1 _ _ _ _ (lv_sub hl [1, 2, 3, 4] rfl) hP hS h
          by_cases g52 : x3 = (17 : Int32)
          · refine lv_tableIn (pc := 111) (off := 257) (tgt := 368) hx hb d_Mac_step_111 (by rw [g52]; decide) (by rw [g52]; decide) (by rw [g52]; rfl) (by decide) ?_
            exact B_368   _ _ _ _ hk_x0 hk_x1 _ _ _ _ (lv_sub hl [1, 2, 3, 4] rfl) hP hS h
          by_cases g53 : x3 = (18 : Int32)
          · refine lv_tableIn (pc := 111) (off := 257) (tgt := 368) hx hb d_Mac_step_111 (by rw [g53]; decide) (by rw [g53]; decide) (by rw [g53]; rfl) (by decide) ?_
            exact B_368   _ _ _ _ hk_x0 hk_x1 _ _ _ _ (lv_sub hl [1, 2, 3, 4] rfl) hP hS h
          by_cases g54 : x3 = (19 : Int32)
          · refine lv_tableIn (pc := 111) (off := 257) (tgt := 368) hx hb d_Mac_step_111 (by rw [g54]; decide) (by rw [g54]; decide) (by rw [g54]; rfl) (by decide) ?_
            exact B_368   _ _ _ _ hk_x0 hk_x1 _ _ _ _ (lv_sub hl [1, 2, 3, 4] rfl) hP hS h
          by_cases g55 : x3 = (20 : Int32)
          · refine lv_tableIn (pc := 111) (off := 257) (tgt := 368) hx hb d_Mac_step_111 (by rw [g55]; decide) (by rw [g55]; decide) (by rw [g55]; rfl) (by decide) ?_
            exact B_368   _ _ _ _ hk_x0 hk_x1 _ _ _ _ (lv_sub hl [1, 2, 3, 4] rfl) hP hS h
          by_cases g56 : x3 = (21 : Int32)
          · refine lv_tableIn (pc := 111) (off := 257) (tgt := 368) hx hb d_Mac_step_111 (by rw [g56]; decide) (by rw [g56]; decide) (by rw [g56]; rfl) (by decide) ?_
            exact B_368   _ _ _ _ hk_x0 hk_x1 _ _ _ _ (lv_sub hl [1, 2, 3, 4] rfl) hP hS h
          have z9 : x3.toInt < 0 ∨ 28 < x3.toInt := by
            have z_g11 := gx_ne (n := 0) g11 (by decide)
            have z_g13 := gx_ne (n := 2) g13 (by decide)
            have z_g15 := gx_ne (n := 4) g15 (by decide)
            have z_g17 := gx_ne (n := 12) g17 (by decide)
            have z_g20 := gx_ne (n := 13) g20 (by decide)
            have z_g22 := gx_ne (n := 15) g22 (by decide)
            have z_g24 := gx_ne (n := 22) g24 (by decide)
            have z_g26 := gx_ne (n := 23) g26 (by decide)
            have z_g28 := gx_ne (n := 24) g28 (by decide)
            have z_g30 := gx_ne (n := 25) g30 (by decide)
            have z_g33 := gx_ne (n := 26) g33 (by decide)
            have z_g36 := gx_ne (n := 27) g36 (by decide)
            have z_g39 := gx_ne (n := 28) g39 (by decide)
            have z_g41 := gx_ne (n := 1) g41 (by decide)
            have z_g42 := gx_ne (n := 3) g42 (by decide)
            have z_g43 := gx_ne (n := 5) g43 (by decide)
            have z_g44 := gx_ne (n := 6) g44 (by decide)
            have z_g45 := gx_ne (n := 7) g45 (by decide)
            have z_g46 := gx_ne (n := 8) g46 (by decide)
            have z_g47 := gx_ne (n := 9) g47 (by decide)
            have z_g48 := gx_ne (n := 10) g48 (by decide)
            have z_g49 := gx_ne (n := 11) g49 (by decide)
            have z_g50 := gx_ne (n := 14) g50 (by decide)
            have z_g51 := gx_ne (n := 16) g51 (by decide)
            have z_g52 := gx_ne (n := 17) g52 (by decide)
            have z_g53 := gx_ne (n := 18) g53 (by decide)
            have z_g54 := gx_ne (n := 19) g54 (by decide)
            have z_g55 := gx_ne (n := 20) g55 (by decide)
            have z_g56 := gx_ne (n := 21) g56 (by decide)
            omega
          refine lv_tableOut (pc := 111) (tgt := 368) hx hb d_Mac_step_111 z9 (by decide) ?_
          exact B_368   _ _ _ _ hk_x0 hk_x1 _ _ _ _ (lv_sub hl [1, 2, 3, 4] rfl) hP hS h
        · have h := gx_neg g8 h
          refine lv_aload_n (pc := 84) hx hb d_Mac_step_84 rfl (lv_at hl 2 rfl) ?_
          obtain ⟨q23, g57, h⟩ := gx_bd h
          refine gx_cv (pc := 85) (va_runV (C := "GasLedger$Frame") (As := []) (rest := []) ⟨hx, hb, hml, hown, hts⟩ (k_Frm_fail l dC dI cI cR cZ b tP tN hk_x1 g57) (gx_cw 0 hts cd_Frm_fail tb_48 tb_397 tb_398 tb_399 rfl rfl ⟨by decide, by decide, by decide +kernel⟩ ⟨Nat.le_of_ble_eq_true rfl, Nat.le_of_ble_eq_true rfl⟩) (gy_preV (cx_XX b tP tN) hX hK hP hS (cx_lt hk_x1 (by decide)) (sh_Frm cI cR b hk_x1 _) rfl) rfl rfl hl.1 rfl (lv_room (Nat.le_of_ble_eq_true rfl)) d_Mac_step_85 ⟨Nat.zero_le _, Nat.zero_le _⟩) hS (fun H locs hP hS => ?_)
          exact gx_vret hx hb hr hlk hP hS d_Mac_step_88 (by cases h; rfl) (by cases h; rfl)
  have B_54 : ∀ (x0 : Nat) (x1 : Nat) (x3 : Int32) (x4 : Int32) (x5 : Int32), cx_kd x0 = 3 → cx_kd x1 = 1 → ∀ (V : gx_M) (H : Heap) (locs : List Loc) (ls : Array Slot), lv_has ls 7 [(0, .ref (b + x0)), (1, .ref (b + x1)), (3, .int x3), (4, .int x4), (5, .int x5)] → va_P (dC, dI) cx_cl (gx_w b 97 (gx_v (cx_sh cI cR b) V)) H → va_S (gx_A b 97) s.heap H locs → F_Mac_step_54 x0 x1 x3 x4 x5 V = some q → W p l e (headSpec w_Mac_step rm_Mac_step).room s m args below meth c H locs 0 0 (MQ below (gx_Q (dC, dI) cx_cl b 97 (cx_sh cI cR b) none q) args s 0 0 (gx_A b 97)) (F0 m 54 ls []) := by
    intro x0 x1 x3 x4 x5 hk_x0 hk_x1 V H locs ls hl hP hS h
    unfold F_Mac_step_54 at h
    refine lv_iconst (pc := 54) (v := (0 : Int32)) hx hb d_Mac_step_54 (by decide) ?_
    exact B_55   _ _ _ _ _ _ hk_x0 hk_x1 _ _ _ _ (lv_sub hl [0, 1, 2, 3, 4] rfl) hP hS h
  unfold F_Mac_step at h
  refine lv_aload_n (pc := 0) hx hb d_Mac_step_0 rfl (lv_at hl 0 rfl) ?_
  refine va_get (pc := 1) (D := (dC, dI)) (ci := 3) (C := R_Mac) (T := T_Mac) (N := 6) hx hb hts in_Mac hown hK hP x0 (gx_at (cx_lt hk0 (by decide)) (sh_Mac cI cR b hk0 _)) rfl 0 (by decide) (hts _ tb_201) (fun _ h9 => h9) rfl d_Mac_step_1 ?_
  refine lv_aload_n (pc := 4) hx hb d_Mac_step_4 rfl (lv_at hl 1 rfl) ?_
  refine va_get (pc := 5) (D := (dC, dI)) (ci := 1) (C := R_Frm) (T := T_Frm) (N := 17) hx hb hts in_Frm hown hK hP x1 (gx_at (cx_lt hk1 (by decide)) (sh_Frm cI cR b hk1 _)) rfl 1 (by decide) (hts _ tb_137) (fun _ h9 => h9) rfl d_Mac_step_5 ?_
  refine lv_aload_n (pc := 8) hx hb d_Mac_step_8 rfl (lv_at hl 1 rfl) ?_
  refine va_get (pc := 9) (D := (dC, dI)) (ci := 1) (C := R_Frm) (T := T_Frm) (N := 17) hx hb hts in_Frm hown hK hP x1 (gx_at (cx_lt hk1 (by decide)) (sh_Frm cI cR b hk1 _)) rfl 2 (by decide) (hts _ tb_139) (fun _ h9 => h9) rfl d_Mac_step_9 ?_
  obtain ⟨q24, g58, h⟩ := gx_bd h
  refine gx_ci (pc := 12) (va_runV (C := "GasLedger$Accounts") (As := [.int (V x1 1), .int (V x1 2)]) (rest := []) ⟨hx, hb, hml, hown, hts⟩ (k_Acc_wordOf l dC dI cI cR cZ b tP tN (to_Mac_accounts hk0) g58) (gx_cw 2 hts cd_Acc_wordOf tb_46 tb_363 tb_364 tb_365 rfl rfl ⟨by decide, by decide, by decide +kernel⟩ ⟨Nat.le_of_ble_eq_true rfl, Nat.le_of_ble_eq_true rfl⟩) (gy_preV (cx_XX b tP tN) hX hK hP hS (cx_lt (to_Mac_accounts hk0) (by decide)) (sh_Acc cI cR b (to_Mac_accounts hk0) _) rfl) rfl rfl hl.1 rfl (lv_room (Nat.le_of_ble_eq_true rfl)) d_Mac_step_12 ⟨Nat.zero_le _, Nat.zero_le _⟩) hS (fun H locs hP hS => ?_)
  refine lv_istore_n (pc := 15) (lv' := [(2, .int q24.1), (0, .ref (b + x0)), (1, .ref (b + x1))]) hx hb d_Mac_step_15 rfl hl (by decide) rfl (fun ls hl => ?_)
  refine lv_iload_n (pc := 16) hx hb d_Mac_step_16 rfl (lv_at hl 0 rfl) ?_
  refine lv_bipush (pc := 17) (v := (31 : Int32)) hx hb d_Mac_step_17 (by decide) ?_
  refine lv_iand (pc := 19) hx hb d_Mac_step_19 ?_
  refine lv_istore_n (pc := 20) (lv' := [(3, .int (q24.1 &&& (31 : Int32))), (2, .int q24.1), (0, .ref (b + x0)), (1, .ref (b + x1))]) hx hb d_Mac_step_20 rfl hl (by decide) rfl (fun ls hl => ?_)
  refine lv_iload_n (pc := 21) hx hb d_Mac_step_21 rfl (lv_at hl 1 rfl) ?_
  refine lv_iconst (pc := 22) (v := (5 : Int32)) hx hb d_Mac_step_22 (by decide) ?_
  refine lv_ishr (pc := 23) hx hb d_Mac_step_23 ?_
  refine lv_istore (pc := 24) (lv' := [(4, .int (q24.1 >>> ((5 : Int32) &&& 31))), (3, .int (q24.1 &&& (31 : Int32))), (2, .int q24.1), (0, .ref (b + x0)), (1, .ref (b + x1))]) hx hb d_Mac_step_24 hl (by decide) rfl (fun ls hl => ?_)
  refine lv_aload_n (pc := 26) hx hb d_Mac_step_26 rfl (lv_at hl 3 rfl) ?_
  refine lv_aload_n (pc := 27) hx hb d_Mac_step_27 rfl (lv_at hl 4 rfl) ?_
  refine lv_iload_n (pc := 28) hx hb d_Mac_step_28 rfl (lv_at hl 1 rfl) ?_
  obtain ⟨q25, g59, h⟩ := gx_bd h
  refine gx_ci (pc := 29) (va_runV (C := "GasLedger$Machine") (As := [.ref (b + x1), .int (q24.1 &&& (31 : Int32))]) (rest := []) ⟨hx, hb, hml, hown, hts⟩ (k_Mac_priceOf l dC dI cI cR cZ b tP tN hk0 hk1 g59) (gx_cw 2 hts cd_Mac_priceOf tb_45 tb_368 tb_370 tb_4 rfl rfl ⟨by decide, by decide, by decide +kernel⟩ ⟨Nat.le_of_ble_eq_true rfl, Nat.le_of_ble_eq_true rfl⟩) (gy_preV (cx_XX b tP tN) hX hK hP hS (cx_lt hk0 (by decide)) (sh_Mac cI cR b hk0 _) rfl) rfl rfl hl.1 rfl (lv_room (Nat.le_of_ble_eq_true rfl)) d_Mac_step_29 ⟨Nat.zero_le _, Nat.zero_le _⟩) hS (fun H locs hP hS => ?_)
  refine lv_istore (pc := 32) (lv' := [(5, .int q25.1), (4, .int (q24.1 >>> ((5 : Int32) &&& 31))), (3, .int (q24.1 &&& (31 : Int32))), (2, .int q24.1), (0, .ref (b + x0)), (1, .ref (b + x1))]) hx hb d_Mac_step_32 hl (by decide) rfl (fun ls hl => ?_)
  refine lv_aload_n (pc := 34) hx hb d_Mac_step_34 rfl (lv_at hl 5 rfl) ?_
  refine va_get (pc := 35) (D := (dC, dI)) (ci := 1) (C := R_Frm) (T := T_Frm) (N := 17) hx hb hts in_Frm hown hK hP x1 (gx_at (cx_lt hk1 (by decide)) (sh_Frm cI cR b hk1 _)) rfl 8 (by decide) (hts _ tb_151) (fun _ h9 => h9) rfl d_Mac_step_35 ?_
  refine lv_bipush (pc := 38) (v := (12 : Int32)) hx hb d_Mac_step_38 (by decide) ?_
  refine lv_icmp_ne (pc := 40) (tgt := 54) hx hb d_Mac_step_40 (by decide) (fun g60 => ?_) (fun g60 => ?_)
  · have h := gx_neg g60 h
    exact B_54   _ _ _ _ _ hk0 hk1 _ _ _ _ (lv_sub hl [4, 5, 2, 1, 0] rfl) hP hS h
  · have h := gx_pos g60 h
    refine lv_iload_n (pc := 43) hx hb d_Mac_step_43 rfl (lv_at hl 2 rfl) ?_
    obtain ⟨q26, g61, h⟩ := gx_bd h
    refine gx_ci (pc := 44) (va_runS (As := [.int (q24.1 &&& (31 : Int32))]) (rest := []) ⟨hx, hb, hml, hown, hts⟩ (k_Mac_onlyPushes l dC dI cI cR cZ b tP tN  g61) (gx_cs 1 hts cd_Mac_onlyPushes tb_45 tb_389 tb_390 rfl rfl ⟨by decide, by decide, by decide +kernel⟩ ⟨Nat.le_of_ble_eq_true rfl, Nat.le_of_ble_eq_true rfl⟩) (gy_pre (cx_XX b tP tN) hX hK hP hS) rfl rfl hl.1 rfl (lv_room (Nat.le_of_ble_eq_true rfl)) d_Mac_step_44 ⟨Nat.zero_le _, Nat.zero_le _⟩) hS (fun H locs hP hS => ?_)
    refine lv_if_eq (pc := 47) (tgt := 54) hx hb d_Mac_step_47 (by decide) (fun g62 => ?_) (fun g62 => ?_)
    · have h := gx_pos g62 h
      exact B_54   _ _ _ _ _ hk0 hk1 _ _ _ _ (lv_sub hl [4, 5, 2, 1, 0] rfl) hP hS h
    · have h := gx_neg g62 h
      refine lv_iconst (pc := 50) (v := (1 : Int32)) hx hb d_Mac_step_50 (by decide) ?_
      refine lv_goto (pc := 51) (tgt := 55) hx hb d_Mac_step_51 (by decide) ?_
      exact B_55   _ _ _ _ _ _ hk0 hk1 _ _ _ _ (lv_sub hl [4, 5, 2, 1, 0] rfl) hP hS h
