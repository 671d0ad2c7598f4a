abbrev rm_Mac_reckon : Room := { frames := 0, cells := 0, slots := 0, locals := 0 }
def F_Mac_reckon (x0 : Int32) (x1 : Int32) (x2 : Int32) (V : gx_M) : Option (Int32 × gx_M) := (if x0 = (5 : Int32) then some ((x1 + x2), V) else (if x0 = (6 : Int32) then some ((x1 - x2), V) else (if x0 = (7 : Int32) then some ((x1 * x2), V) else (if x0 = (8 : Int32) then (if x2 = 0 then some ((0 : Int32), V) else (if ¬ x2 = 0 then some ((x1 / x2), V) else none)) else (if x0 = (9 : Int32) then (if x2 ≤ x1 then some ((0 : Int32), V) else some ((1 : Int32), V)) else (if x0 = (10 : Int32) then (if x1 = x2 then some ((1 : Int32), V) else some ((0 : Int32), V)) else some ((0 : Int32), V)))))))
set_option maxRecDepth 100000 in
set_option maxHeartbeats 8000000 in
theorem k_Mac_reckon (l : Launch) (dC : Nat → ClassId) (dI : Nat → Nat → Nat) (cI cR cZ : ClassId) (b tP tN : Nat) {x0 : Int32} {x1 : Int32} {x2 : Int32} {V : gx_M} {q : (Int32 × gx_M)}  (h : F_Mac_reckon x0 x1 x2 V = some q) : cx_C l dC dI cI cR cZ b tP tN y_Mac_reckon w_Mac_reckon rm_Mac_reckon [.int x0, .int x1, .int x2] V (some (.int q.1)) q.2 := by
  refine gx_start (cc := b_Mac_reckon) (maxL := 3) (ret := rt_Mac_reckon) (by decide) rfl (Nat.le_of_ble_eq_true rfl) ?_
  intro p e s m args below meth c ls hx hb hr hts hown hlk hml hl hP hK hX hS
  have hts : ∀ w ∈ cx_tb, w.before args s = true := fun w hw => hts w (List.mem_cons_of_mem _ hw)
  have hown : s.vm.findClass "GasLedger$Machine" = some m.cls := hown
  have hl : lv_has ls 3 [(0, .int x0), (1, .int x1), (2, .int x2)] := hl
  unfold F_Mac_reckon at h
  refine lv_iload_n (pc := 0) hx hb d_Mac_reckon_0 rfl (lv_at hl 0 rfl) ?_
  by_cases g1 : x0 = (5 : Int32)
  · have h := gx_pos g1 h
    refine lv_tableIn (pc := 1) (off := 39) (tgt := 40) hx hb d_Mac_reckon_1 (by rw [g1]; decide) (by rw [g1]; decide) (by rw [g1]; rfl) (by decide) ?_
    refine lv_iload_n (pc := 40) hx hb d_Mac_reckon_40 rfl (lv_at hl 1 rfl) ?_
    refine lv_iload_n (pc := 41) hx hb d_Mac_reckon_41 rfl (lv_at hl 2 rfl) ?_
    refine lv_iadd (pc := 42) hx hb d_Mac_reckon_42 ?_
    exact gx_iret (free := fun _ => True) hx hb hr hlk hP hS d_Mac_reckon_43 (by cases h; rfl) (by cases h; rfl)
  have h := gx_neg g1 h
  by_cases g2 : x0 = (6 : Int32)
  · have h := gx_pos g2 h
    refine lv_tableIn (pc := 1) (off := 43) (tgt := 44) hx hb d_Mac_reckon_1 (by rw [g2]; decide) (by rw [g2]; decide) (by rw [g2]; rfl) (by decide) ?_
    refine lv_iload_n (pc := 44) hx hb d_Mac_reckon_44 rfl (lv_at hl 1 rfl) ?_
    refine lv_iload_n (pc := 45) hx hb d_Mac_reckon_45 rfl (lv_at hl 2 rfl) ?_
    refine lv_isub (pc := 46) hx hb d_Mac_reckon_46 ?_
    exact gx_iret (free := fun _ => True) hx hb hr hlk hP hS d_Mac_reckon_47 (by cases h; rfl) (by cases h; rfl)
  have h := gx_neg g2 h
  by_cases g3 : x0 = (7 : Int32)
  · have h := gx_pos g3 h
    refine lv_tableIn (pc := 1) (off := 47) (tgt := 48) hx hb d_Mac_reckon_1 (by rw [g3]; decide) (by rw [g3]; decide) (by rw [g3]; rfl) (by decide) ?_
    refine lv_iload_n (pc := 48) hx hb d_Mac_reckon_48 rfl (lv_at hl 1 rfl) ?_
    refine lv_iload_n (pc := 49) hx hb d_Mac_reckon_49 rfl (lv_at hl 2 rfl) ?_
    refine lv_imul (pc := 50) hx hb d_Mac_reckon_50 ?_
    exact gx_iret (free := fun _ => True) hx hb hr hlk hP hS d_Mac_reckon_51 (by cases h; rfl) (by cases h; rfl)
  have h := gx_neg g3 h
  by_cases g4 : x0 = (8 : Int32)
  · have h := gx_pos g4 h
    refine lv_tableIn (pc := 1) (off := 51) (tgt := 52) hx hb d_Mac_reckon_1 (by rw [g4]; decide) (by rw [g4]; decide) (by rw [g4]; rfl) (by decide) ?_
    refine lv_iload_n (pc := 52) hx hb d_Mac_reckon_52 rfl (lv_at hl 2 rfl) ?_
    refine lv_if_ne (pc := 53) (tgt := 60) hx hb d_Mac_reckon_53 (by decide) (fun g5 => ?_) (fun g5 => ?_)
    · have h := gx_neg g5 h
      refine lv_iload_n (pc := 60) hx hb d_Mac_reckon_60 rfl (lv_at hl 1 rfl) ?_
      refine lv_iload_n (pc := 61) hx hb d_Mac_reckon_61 rfl (lv_at hl 2 rfl) ?_
      obtain ⟨g6, h⟩ := gx_if h
      refine lv_idiv (pc := 62) hx hb d_Mac_reckon_62 g6 ?_
      exact gx_iret (free := fun _ => True) hx hb hr hlk hP hS d_Mac_reckon_63 (by cases h; rfl) (by cases h; rfl)
    · have h := gx_pos g5 h
      refine lv_iconst (pc := 56) (v := (0 : Int32)) hx hb d_Mac_reckon_56 (by decide) ?_
      refine lv_goto (pc := 57) (tgt := 63) hx hb d_Mac_reckon_57 (by decide) ?_
      exact gx_iret (free := fun _ => True) hx hb hr hlk hP hS d_Mac_reckon_63 (by cases h; rfl) (by cases h; rfl)
  have h := gx_neg g4 h
  by_cases g7 : x0 = (9 : Int32)
  · have h := gx_pos g7 h
    refine lv_tableIn (pc := 1) (off := 63) (tgt := 64) hx hb d_Mac_reckon_1 (by rw [g7]; decide) (by rw [g7]; decide) (by rw [g7]; rfl) (by decide) ?_
    refine lv_iload_n (pc := 64) hx hb d_Mac_reckon_64 rfl (lv_at hl 1 rfl) ?_
    refine lv_iload_n (pc := 65) hx hb d_Mac_reckon_65 rfl (lv_at hl 2 rfl) ?_
    refine lv_icmp_ge (pc := 66) (tgt := 73) hx hb d_Mac_reckon_66 (by decide) (fun g8 => ?_) (fun g8 => ?_)
    · have h := gx_pos g8 h
      refine lv_iconst (pc := 73) (v := (0 : Int32)) hx hb d_Mac_reckon_73 (by decide) ?_
      exact gx_iret (free := fun _ => True) hx hb hr hlk hP hS d_Mac_reckon_74 (by cases h; rfl) (by cases h; rfl)
    · have h := gx_neg g8 h
      refine lv_iconst (pc := 69) (v := (1 : Int32)) hx hb d_Mac_reckon_69 (by decide) ?_
      refine lv_goto (pc := 70) (tgt := 74) hx hb d_Mac_reckon_70 (by decide) ?_
      exact gx_iret (free := fun _ => True) hx hb hr hlk hP hS d_Mac_reckon_74 (by cases h; rfl) (by cases h; rfl)
  have h := gx_neg g7 h
  by_cases g9 : x0 = (10 : Int32)
  · have h := gx_pos g9 h
    refine lv_tableIn (pc := 1) (off := 74) (tgt := 75) hx hb d_Mac_reckon_1 (by rw [g9]; decide) (by rw [g9]; decide) (by rw [g9]; rfl) (by decide) ?_
    refine lv_iload_n (pc := 75) hx hb d_Mac_reckon_75 rfl (lv_at hl 1 rfl) ?_
    refine lv_iload_n (pc := 76) hx hb d_Mac_reckon_76 rfl (lv_at hl 2 rfl) ?_
    refine lv_icmp_ne (pc := 77) (tgt := 84) hx hb d_Mac_reckon_77 (by decide) (fun g10 => ?_) (fun g10 => ?_)
    · have h := gx_neg g10 h
      refine lv_iconst (pc := 84) (v := (0 : Int32)) hx hb d_Mac_reckon_84 (by decide) ?_
      exact gx_iret (free := fun _ => True) hx hb hr hlk hP hS d_Mac_reckon_85 (by cases h; rfl) (by cases h; rfl)
    · have h := gx_pos g10 h
      refine lv_iconst (pc := 80) (v := (1 : Int32)) hx hb d_Mac_reckon_80 (by decide) ?_
      refine lv_goto (pc := 81) (tgt := 85) hx hb d_Mac_reckon_81 (by decide) ?_
      exact gx_iret (free := fun _ => True) hx hb hr hlk hP hS d_Mac_reckon_85 (by cases h; rfl) (by cases h; rfl)
  have h := gx_neg g9 h
  have z9 : x0.toInt < 5 ∨ 10 < x0.toInt := by
    have z_g1 := gx_ne (n := 5) g1 (by decide)
    have z_g2 := gx_ne (n := 6) g2 (by decide)
    have z_g3 := gx_ne (n := 7) g3 (by decide)
    have z_g4 := gx_ne (n := 8) g4 (by decide)
    have z_g7 := gx_ne (n := 9) g7 (by decide)
    have z_g9 := gx_ne (n := 10) g9 (by decide)
    omega
  refine lv_tableOut (pc := 1) (tgt := 86) hx hb d_Mac_reckon_1 z9 (by decide) ?_
  refine lv_iconst (pc := 86) (v := (0 : Int32)) hx hb d_Mac_reckon_86 (by decide) ?_
  exact gx_iret (free := fun _ => True) hx hb hr hlk hP hS d_Mac_reckon_87 (by cases h; rfl) (by cases h; rfl)
abbrev rm_Mac_resultOf : Room := { frames := 2, cells := 0, slots := 0, locals := 42 }
def F_Mac_resultOf_174 (x1 : Nat) (x2 : Int32) (V : gx_M) : Option (Int32 × gx_M) := ((F_Frm_pop x1 V).bind fun q1 => ((F_Frm_pop x1 q1.2).bind fun q2 => ((F_Mac_reckon x2 q2.1 q1.1 q2.2).bind fun q3 => some (q3.1, q3.2))))
def F_Mac_resultOf (x0 : Nat) (x1 : Nat) (x2 : Int32) (x3 : Int32) (V : gx_M) : Option (Int32 × gx_M) := (if x2 = (1 : Int32) then some (x3, V) else (if x2 = (3 : Int32) then ((F_Frm_below x1 x3 V).bind fun q4 => some (q4.1, q4.2)) else (if x2 = (11 : Int32) then ((F_Frm_pop x1 V).bind fun q5 => (if q5.1 = 0 then some ((1 : Int32), q5.2) else some ((0 : Int32), q5.2))) else (if x2 = (14 : Int32) then ((F_Frm_pop x1 V).bind fun q6 => ((F_Acc_slotOf (x0 + 1) (V x1 0) q6.1 q6.2).bind fun q7 => some (q7.1, q7.2))) else (if x2 = (16 : Int32) then ((F_Frm_pop x1 V).bind fun q8 => ((F_Acc_balanceOf (x0 + 1) q8.1 q8.2).bind fun q9 => some (q9.1, q9.2))) else (if x2 = (17 : Int32) then some ((V x1 0), V) else (if x2 = (18 : Int32) then some ((V x1 3), V) else (if x2 = (19 : Int32) then some ((V x1 4), V) else (if x2 = (20 : Int32) then some ((V x1 5), V) else (if x2 = (21 : Int32) then some ((V x1 6), V) else (F_Mac_resultOf_174   x1 x2 V)))))))))))
set_option maxRecDepth 100000 in
set_option maxHeartbeats 8000000 in
theorem k_Mac_resultOf (l : Launch) (dC : Nat → ClassId) (dI : Nat → Nat → Nat) (cI cR cZ : ClassId) (b tP tN : Nat) {x0 : Nat} {x1 : Nat} {x2 : Int32} {x3 : Int32} {V : gx_M} {q : (Int32 × gx_M)} (hk0 : cx_kd x0 = 3) (hk1 : cx_kd x1 = 1) (h : F_Mac_resultOf x0 x1 x2 x3 V = some q) : cx_C l dC dI cI cR cZ b tP tN y_Mac_resultOf w_Mac_resultOf rm_Mac_resultOf [.ref (b + x0), .ref (b + x1), .int x2, .int x3] V (some (.int q.1)) q.2 := by
  refine gx_start (cc := b_Mac_resultOf) (maxL := 6) (ret := rt_Mac_resultOf) (by decide) rfl (Nat.le_of_ble_eq_true rfl) ?_
  intro p e s m args below meth c ls hx hb hr hts hown hlk hml hl hP hK hX hS
  have hts : ∀ w ∈ cx_tb, w.before args s = true := fun w hw => hts w (List.mem_cons_of_mem _ hw)
  have hown : s.vm.findClass "GasLedger$Machine" = some m.cls := hown
  have hl : lv_has ls 6 [(0, .ref (b + x0)), (1, .ref (b + x1)), (2, .int x2), (3, .int x3)] := hl
  have B_174 : ∀ (x1 : Nat) (x2 : Int32), cx_kd x1 = 1 → ∀ (V : gx_M) (H : Heap) (locs : List Loc) (ls : Array Slot), lv_has ls 6 [(1, .ref (b + x1)), (2, .int x2)] → va_P (dC, dI) cx_cl (gx_w b 97 (gx_v (cx_sh cI cR b) V)) H → va_S (gx_A b 97) s.heap H locs → F_Mac_resultOf_174 x1 x2 V = some q → W p l e (headSpec w_Mac_resultOf rm_Mac_resultOf).room s m args below meth c H locs 0 0 (MQ below (gx_Q (dC, dI) cx_cl b 97 (cx_sh cI cR b) (some (.int q.1)) q.2) args s 0 0 (gx_A b 97)) (F0 m 174 ls []) := by
    intro x1 x2 hk_x1 V H locs ls hl hP hS h
    unfold F_Mac_resultOf_174 at h
    refine lv_aload_n (pc := 174) hx hb d_Mac_resultOf_174 rfl (lv_at hl 0 rfl) ?_
    obtain ⟨q1, g1, h⟩ := gx_bd h
    refine gx_ci (pc := 175) (va_runV (C := "GasLedger$Frame") (As := []) (rest := []) ⟨hx, hb, hml, hown, hts⟩ (k_Frm_pop l dC dI cI cR cZ b tP tN hk_x1 g1) (gx_cw 0 hts cd_Frm_pop tb_48 tb_406 tb_407 tb_408 rfl rfl ⟨by decide, by decide, by decide +kernel⟩ ⟨Nat.le_of_ble_eq_true rfl, Nat.le_of_ble_eq_true rfl⟩) (gy_preV (cx_XX b tP tN) hX hK hP hS (cx_lt hk_x1 (by decide)) (sh_Frm cI cR b hk_x1 _) rfl) rfl rfl hl.1 rfl (lv_room (Nat.le_of_ble_eq_true rfl)) d_Mac_resultOf_175 ⟨Nat.zero_le _, Nat.zero_le _⟩) hS (fun H locs hP hS => ?_)
    refine lv_istore (pc := 178) (lv' := [(4, .int q1.1), (1, .ref (b + x1)), (2, .int x2)]) hx hb d_Mac_resultOf_178 hl (by decide) rfl (fun ls hl => ?_)
    refine lv_aload_n (pc := 180) hx hb d_Mac_resultOf_180 rfl (lv_at hl 1 rfl) ?_
    obtain ⟨q2, g2, h⟩ := gx_bd h
    refine gx_ci (pc := 181) (va_runV (C := "GasLedger$Frame") (As := []) (rest := []) ⟨hx, hb, hml, hown, hts⟩ (k_Frm_pop l dC dI cI cR cZ b tP tN hk_x1 g2) (gx_cw 0 hts cd_Frm_pop tb_48 tb_406 tb_407 tb_408 rfl rfl ⟨by decide, by decide, by decide +kernel⟩ ⟨Nat.le_of_ble_eq_true rfl, Nat.le_of_ble_eq_true rfl⟩) (gy_preV (cx_XX b tP tN) hX hK hP hS (cx_lt hk_x1 (by decide)) (sh_Frm cI cR b hk_x1 _) rfl) rfl rfl hl.1 rfl (lv_room (Nat.le_of_ble_eq_true rfl)) d_Mac_resultOf_181 ⟨Nat.zero_le _, Nat.zero_le _⟩) hS (fun H locs hP hS => ?_)
    refine lv_istore (pc := 184) (lv' := [(5, .int q2.1), (4, .int q1.1), (1, .ref (b + x1)), (2, .int x2)]) hx hb d_Mac_resultOf_184 hl (by decide) rfl (fun ls hl => ?_)
    refine lv_iload_n (pc := 186) hx hb d_Mac_resultOf_186 rfl (lv_at hl 3 rfl) ?_
    refine lv_iload (pc := 187) hx hb d_Mac_resultOf_187 (lv_at hl 0 rfl) ?_
    refine lv_iload (pc := 189) hx hb d_Mac_resultOf_189 (lv_at hl 1 rfl) ?_
    obtain ⟨q3, g3, h⟩ := gx_bd h
    refine gx_ci (pc := 191) (va_runS (As := [.int x2, .int q2.1, .int q1.1]) (rest := []) ⟨hx, hb, hml, hown, hts⟩ (k_Mac_reckon l dC dI cI cR cZ b tP tN  g3) (gx_cs 3 hts cd_Mac_reckon tb_45 tb_489 tb_490 rfl rfl ⟨by decide, by decide, by decide +kernel⟩ ⟨Nat.le_of_ble_eq_true rfl, Nat.le_of_ble_eq_true rfl⟩) (gy_pre (cx_XX b tP tN) hX hK hP hS) rfl rfl hl.1 rfl (lv_room (Nat.le_of_ble_eq_true rfl)) d_Mac_resultOf_191 ⟨Nat.zero_le _, Nat.zero_le _⟩) hS (fun H locs hP hS => ?_)
    exact gx_iret (free := fun _ => True) hx hb hr hlk hP hS d_Mac_resultOf_194 (by cases h; rfl) (by cases h; rfl)
  unfold F_Mac_resultOf at h
  refine lv_iload_n (pc := 0) hx hb d_Mac_resultOf_0 rfl (lv_at hl 2 rfl) ?_
  by_cases g4 : x2 = (1 : Int32)
  · have h := gx_pos g4 h
    refine lv_tableIn (pc := 1) (off := 99) (tgt := 100) hx hb d_Mac_resultOf_1 (by rw [g4]; decide) (by rw [g4]; decide) (by rw [g4]; rfl) (by decide) ?_
    refine lv_iload_n (pc := 100) hx hb d_Mac_resultOf_100 rfl (lv_at hl 3 rfl) ?_
    exact gx_iret (free := fun _ => True) hx hb hr hlk hP hS d_Mac_resultOf_101 (by cases h; rfl) (by cases h; rfl)
  have h := gx_neg g4 h
  by_cases g5 : x2 = (3 : Int32)
  · have h := gx_pos g5 h
    refine lv_tableIn (pc := 1) (off := 101) (tgt := 102) hx hb d_Mac_resultOf_1 (by rw [g5]; decide) (by rw [g5]; decide) (by rw [g5]; rfl) (by decide) ?_
    refine lv_aload_n (pc := 102) hx hb d_Mac_resultOf_102 rfl (lv_at hl 1 rfl) ?_
    refine lv_iload_n (pc := 103) hx hb d_Mac_resultOf_103 rfl (lv_at hl 3 rfl) ?_
    obtain ⟨q4, g6, h⟩ := gx_bd h
    refine gx_ci (pc := 104) (va_runV (C := "GasLedger$Frame") (As := [.int x3]) (rest := []) ⟨hx, hb, hml, hown, hts⟩ (k_Frm_below l dC dI cI cR cZ b tP tN hk1 g6) (gx_cw 1 hts cd_Frm_below tb_48 tb_374 tb_375 tb_376 rfl rfl ⟨by decide, by decide, by decide +kernel⟩ ⟨Nat.le_of_ble_eq_true rfl, Nat.le_of_ble_eq_true rfl⟩) (gy_preV (cx_XX b tP tN) hX hK hP hS (cx_lt hk1 (by decide)) (sh_Frm cI cR b hk1 _) rfl) rfl rfl hl.1 rfl (lv_room (Nat.le_of_ble_eq_true rfl)) d_Mac_resultOf_104 ⟨Nat.zero_le _, Nat.zero_le _⟩) hS (fun H locs hP hS => ?_)
    exact gx_iret (free := fun _ => True) hx hb hr hlk hP hS d_Mac_resultOf_107 (by cases h; rfl) (by cases h; rfl)
  have h := gx_neg g5 h
  by_cases g7 : x2 = (11 : Int32)
  · have h := gx_pos g7 h
    refine lv_tableIn (pc := 1) (off := 107) (tgt := 108) hx hb d_Mac_resultOf_1 (by rw [g7]; decide) (by rw [g7]; decide) (by rw [g7]; rfl) (by decide) ?_
    refine lv_aload_n (pc := 108) hx hb d_Mac_resultOf_108 rfl (lv_at hl 1 rfl) ?_
    obtain ⟨q5, g8, h⟩ := gx_bd h
    refine gx_ci (pc := 109) (va_runV (C := "GasLedger$Frame") (As := []) (rest := []) ⟨hx, hb, hml, hown, hts⟩ (k_Frm_pop l dC dI cI cR cZ b tP tN hk1 g8) (gx_cw 0 hts cd_Frm_pop tb_48 tb_406 tb_407 tb_408 rfl rfl ⟨by decide, by decide, by decide +kernel⟩ ⟨Nat.le_of_ble_eq_true rfl, Nat.le_of_ble_eq_true rfl⟩) (gy_preV (cx_XX b tP tN) hX hK hP hS (cx_lt hk1 (by decide)) (sh_Frm cI cR b hk1 _) rfl) rfl rfl hl.1 rfl (lv_room (Nat.le_of_ble_eq_true rfl)) d_Mac_resultOf_109 ⟨Nat.zero_le _, Nat.zero_le _⟩) hS (fun H locs hP hS => ?_)
    refine lv_if_ne (pc := 112) (tgt := 119) hx hb d_Mac_resultOf_112 (by decide) (fun g9 => ?_) (fun g9 => ?_)
    · have h := gx_neg g9 h
      refine lv_iconst (pc := 119) (v := (0 : Int32)) hx hb d_Mac_resultOf_119 (by decide) ?_
      exact gx_iret (free := fun _ => True) hx hb hr hlk hP hS d_Mac_resultOf_120 (by cases h; rfl) (by cases h; rfl)
    · have h := gx_pos g9 h
      refine lv_iconst (pc := 115) (v := (1 : Int32)) hx hb d_Mac_resultOf_115 (by decide) ?_
      refine lv_goto (pc := 116) (tgt := 120) hx hb d_Mac_resultOf_116 (by decide) ?_
      exact gx_iret (free := fun _ => True) hx hb hr hlk hP hS d_Mac_resultOf_120 (by cases h; rfl) (by cases h; rfl)
  have h := gx_neg g7 h
  by_cases g10 : x2 = (14 : Int32)
  · have h := gx_pos g10 h
    refine lv_tableIn (pc := 1) (off := 120) (tgt := 121) hx hb d_Mac_resultOf_1 (by rw [g10]; decide) (by rw [g10]; decide) (by rw [g10]; rfl) (by decide) ?_
    refine lv_aload_n (pc := 121) hx hb d_Mac_resultOf_121 rfl (lv_at hl 0 rfl) ?_
    refine va_get (pc := 122) (D := (dC, dI)) (ci := 3) (C := R_Mac) (T := T_Mac) (N := 6) hx hb hts in_Mac hown hK hP x0 (gx_at (cx_lt hk0 (by decide)) (sh_Mac cI cR b hk0 _)) rfl 0 (by decide) (hts _ tb_201) (fun _ h9 => h9) rfl d_Mac_resultOf_122 ?_
    refine lv_aload_n (pc := 125) hx hb d_Mac_resultOf_125 rfl (lv_at hl 1 rfl) ?_
    refine va_get (pc := 126) (D := (dC, dI)) (ci := 1) (C := R_Frm) (T := T_Frm) (N := 17) hx hb hts in_Frm hown hK hP x1 (gx_at (cx_lt hk1 (by decide)) (sh_Frm cI cR b hk1 _)) rfl 0 (by decide) (hts _ tb_135) (fun _ h9 => h9) rfl d_Mac_resultOf_126 ?_
    refine lv_aload_n (pc := 129) hx hb d_Mac_resultOf_129 rfl (lv_at hl 1 rfl) ?_
    obtain ⟨q6, g11, h⟩ := gx_bd h
    refine gx_ci (pc := 130) (va_runV (C := "GasLedger$Frame") (As := []) (rest := [.int (V x1 0), .ref (b + (x0 + 1))]) ⟨hx, hb, hml, hown, hts⟩ (k_Frm_pop l dC dI cI cR cZ b tP tN hk1 g11) (gx_cw 0 hts cd_Frm_pop tb_48 tb_406 tb_407 tb_408 rfl rfl ⟨by decide, by decide, by decide +kernel⟩ ⟨Nat.le_of_ble_eq_true rfl, Nat.le_of_ble_eq_true rfl⟩) (gy_preV (cx_XX b tP tN) hX hK hP hS (cx_lt hk1 (by decide)) (sh_Frm cI cR b hk1 _) rfl) rfl rfl hl.1 rfl (lv_room (Nat.le_of_ble_eq_true rfl)) d_Mac_resultOf_130 ⟨Nat.zero_le _, Nat.zero_le _⟩) hS (fun H locs hP hS => ?_)
    obtain ⟨q7, g12, h⟩ := gx_bd h
    refine gx_ci (pc := 133) (va_runV (C := "GasLedger$Accounts") (As := [.int (V x1 0), .int q6.1]) (rest := []) ⟨hx, hb, hml, hown, hts⟩ (k_Acc_slotOf l dC dI cI cR cZ b tP tN (to_Mac_accounts hk0) g12) (gx_cw 2 hts cd_Acc_slotOf tb_46 tb_378 tb_379 tb_380 rfl rfl ⟨by decide, by decide, by decide +kernel⟩ ⟨Nat.le_of_ble_eq_true rfl, Nat.le_of_ble_eq_true rfl⟩) (gy_preV (cx_XX b tP tN) hX hK hP hS (cx_lt (to_Mac_accounts hk0) (by decide)) (sh_Acc cI cR b (to_Mac_accounts hk0) _) rfl) rfl rfl hl.1 rfl (lv_room (Nat.le_of_ble_eq_true rfl)) d_Mac_resultOf_133 ⟨Nat.zero_le _, Nat.zero_le _⟩) hS (fun H locs hP hS => ?_)
    exact gx_iret (free := fun _ => True) hx hb hr hlk hP hS d_Mac_resultOf_136 (by cases h; rfl) (by cases h; rfl)
  have h := gx_neg g10 h
  by_cases g13 : x2 = (16 : Int32)
  · have h := gx_pos g13 h
    refine lv_tableIn (pc := 1) (off := 136) (tgt := 137) hx hb d_Mac_resultOf_1 (by rw [g13]; decide) (by rw [g13]; decide) (by rw [g13]; rfl) (by decide) ?_
    refine lv_aload_n (pc := 137) hx hb d_Mac_resultOf_137 rfl (lv_at hl 0 rfl) ?_
    refine va_get (pc := 138) (D := (dC, dI)) (ci := 3) (C := R_Mac) (T := T_Mac) (N := 6) hx hb hts in_Mac hown hK hP x0 (gx_at (cx_lt hk0 (by decide)) (sh_Mac cI cR b hk0 _)) rfl 0 (by decide) (hts _ tb_201) (fun _ h9 => h9) rfl d_Mac_resultOf_138 ?_
    refine lv_aload_n (pc := 141) hx hb d_Mac_resultOf_141 rfl (lv_at hl 1 rfl) ?_
    obtain ⟨q8, g14, h⟩ := gx_bd h
    refine gx_ci (pc := 142) (va_runV (C := "GasLedger$Frame") (As := []) (rest := [.ref (b + (x0 + 1))]) ⟨hx, hb, hml, hown, hts⟩ (k_Frm_pop l dC dI cI cR cZ b tP tN hk1 g14) (gx_cw 0 hts cd_Frm_pop tb_48 tb_406 tb_407 tb_408 rfl rfl ⟨by decide, by decide, by decide +kernel⟩ ⟨Nat.le_of_ble_eq_true rfl, Nat.le_of_ble_eq_true rfl⟩) (gy_preV (cx_XX b tP tN) hX hK hP hS (cx_lt hk1 (by decide)) (sh_Frm cI cR b hk1 _) rfl) rfl rfl hl.1 rfl (lv_room (Nat.le_of_ble_eq_true rfl)) d_Mac_resultOf_142 ⟨Nat.zero_le _, Nat.zero_le _⟩) hS (fun H locs hP hS => ?_)
    obtain ⟨q9, g15, h⟩ := gx_bd h
    refine gx_ci (pc := 145) (va_runV (C := "GasLedger$Accounts") (As := [.int q8.1]) (rest := []) ⟨hx, hb, hml, hown, hts⟩ (k_Acc_balanceOf l dC dI cI cR cZ b tP tN (to_Mac_accounts hk0) g15) (gx_cw 1 hts cd_Acc_balanceOf tb_46 tb_485 tb_486 tb_487 rfl rfl ⟨by decide, by decide, by decide +kernel⟩ ⟨Nat.le_of_ble_eq_true rfl, Nat.le_of_ble_eq_true rfl⟩) (gy_preV (cx_XX b tP tN) hX hK hP hS (cx_lt (to_Mac_accounts hk0) (by decide)) (sh_Acc cI cR b (to_Mac_accounts hk0) _) rfl) rfl rfl hl.1 rfl (lv_room (Nat.le_of_ble_eq_true rfl)) d_Mac_resultOf_145 ⟨Nat.zero_le _, Nat.zero_le _⟩) hS (fun H locs hP hS => ?_)
    exact gx_iret (free := fun _ => True) hx hb hr hlk hP hS d_Mac_resultOf_148 (by cases h; rfl) (by cases h; rfl)
  have h := gx_neg g13 h
  by_cases g16 : x2 = (17 : Int32)
  · have h := gx_pos g16 h
    refine lv_tableIn (pc := 1) (off := 148) (tgt := 149) hx hb d_Mac_resultOf_1 (by rw [g16]; decide) (by rw [g16]; decide) (by rw [g16]; rfl) (by decide) ?_
    refine lv_aload_n (pc := 149) hx hb d_Mac_resultOf_149 rfl (lv_at hl 1 rfl) ?_
    refine va_get (pc := 150) (D := (dC, dI)) (ci := 1) (C := R_Frm) (T := T_Frm) (N := 17) hx hb hts in_Frm hown hK hP x1 (gx_at (cx_lt hk1 (by decide)) (sh_Frm cI cR b hk1 _)) rfl 0 (by decide) (hts _ tb_135) (fun _ h9 => h9) rfl d_Mac_resultOf_150 ?_
    exact gx_iret (free := fun _ => True) hx hb hr hlk hP hS d_Mac_resultOf_153 (by cases h; rfl) (by cases h; rfl)
  have h := gx_neg g16 h
  by_cases g17 : x2 = (18 : Int32)
  · have h := gx_pos g17 h
    refine lv_tableIn (pc := 1) (off := 153) (tgt := 154) hx hb d_Mac_resultOf_1 (by rw [g17]; decide) (by rw [g17]; decide) (by rw [g17]; rfl) (by decide) ?_
    refine lv_aload_n (pc := 154) hx hb d_Mac_resultOf_154 rfl (lv_at hl 1 rfl) ?_
    refine va_get (pc := 155) (D := (dC, dI)) (ci := 1) (C := R_Frm) (T := T_Frm) (N := 17) hx hb hts in_Frm hown hK hP x1 (gx_at (cx_lt hk1 (by decide)) (sh_Frm cI cR b hk1 _)) rfl 3 (by decide) (hts _ tb_141) (fun _ h9 => h9) rfl d_Mac_resultOf_155 ?_
    exact gx_iret (free := fun _ => True) hx hb hr hlk hP hS d_Mac_resultOf_158 (by cases h; rfl) (by cases h; rfl)
  have h := gx_neg g17 h
  by_cases g18 : x2 = (19 : Int32)
  · have h := gx_pos g18 h
    refine lv_tableIn (pc := 1) (off := 158) (tgt := 159) hx hb d_Mac_resultOf_1 (by rw [g18]; decide) (by rw [g18]; decide) (by rw [g18]; rfl) (by decide) ?_
    refine lv_aload_n (pc := 159) hx hb d_Mac_resultOf_159 rfl (lv_at hl 1 rfl) ?_
    refine va_get (pc := 160) (D := (dC, dI)) (ci := 1) (C := R_Frm) (T := T_Frm) (N := 17) hx hb hts in_Frm hown hK hP x1 (gx_at (cx_lt hk1 (by decide)) (sh_Frm cI cR b hk1 _)) rfl 4 (by decide) (hts _ tb_143) (fun _ h9 => h9) rfl d_Mac_resultOf_160 ?_
    exact gx_iret (free := fun _ => True) hx hb hr hlk hP hS d_Mac_resultOf_163 (by cases h; rfl) (by cases h; rfl)
  have h := gx_neg g18 h
  by_cases g19 : x2 = (20 : Int32)
  · have h := gx_pos g19 h
    refine lv_tableIn (pc := 1) (off := 163) (tgt := 164) hx hb d_Mac_resultOf_1 (by rw [g19]; decide) (by rw [g19]; decide) (by rw [g19]; rfl) (by decide) ?_
    refine lv_aload_n (pc := 164) hx hb d_Mac_resultOf_164 rfl (lv_at hl 1 rfl) ?_
    refine va_get (pc := 165) (D := (dC, dI)) (ci := 1) (C := R_Frm) (T := T_Frm) (N := 17) hx hb hts in_Frm hown hK hP x1 (gx_at (cx_lt hk1 (by decide)) (sh_Frm cI cR b hk1 _)) rfl 5 (by decide) (hts _ tb_145) (fun _ h9 => h9) rfl d_Mac_resultOf_165 ?_
    exact gx_iret (free := fun _ => True) hx hb hr hlk hP hS d_Mac_resultOf_168 (by cases h; rfl) (by cases h; rfl)
  have h := gx_neg g19 h
  by_cases g20 : x2 = (21 : Int32)
  · have h := gx_pos g20 h
    refine lv_tableIn (pc := 1) (off := 168) (tgt := 169) hx hb d_Mac_resultOf_1 (by rw [g20]; decide) (by rw [g20]; decide) (by rw [g20]; rfl) (by decide) ?_
    refine lv_aload_n (pc := 169) hx hb d_Mac_resultOf_169 rfl (lv_at hl 1 rfl) ?_
    refine va_get (pc := 170) (D := (dC, dI)) (ci := 1) (C := R_Frm) (T := T_Frm) (N := 17) hx hb hts in_Frm hown hK hP x1 (gx_at (cx_lt hk1 (by decide)) (sh_Frm cI cR b hk1 _)) rfl 6 (by decide) (hts _ tb_147) (fun _ h9 => h9) rfl d_Mac_resultOf_170 ?_
    exact gx_iret (free := fun _ => True) hx hb hr hlk hP hS d_Mac_resultOf_173 (by cases h; rfl) (by cases h; rfl)
  have h := gx_neg g20 h
  by_cases g21 : x2 = (2 : Int32)
  · refine lv_tableIn (pc := 1) (off := 173) (tgt := 174) hx hb d_Mac_resultOf_1 (by rw [g21]; decide) (by rw [g21]; decide) (by rw [g21]; rfl) (by decide) ?_
    exact B_174   _ _ hk1 _ _ _ _ (lv_sub hl [1, 2] rfl) hP hS h
  by_cases g22 : x2 = (4 : Int32)
  · refine lv_tableIn (pc := 1) (off := 173) (tgt := 174) hx hb d_Mac_resultOf_1 (by rw [g22]; decide) (by rw [g22]; decide) (by rw [g22]; rfl) (by decide) ?_
    exact B_174   _ _ hk1 _ _ _ _ (lv_sub hl [1, 2] rfl) hP hS h
  by_cases g23 : x2 = (5 : Int32)
  · refine lv_tableIn (pc := 1) (off := 173) (tgt := 174) hx hb d_Mac_resultOf_1 (by rw [g23]; decide) (by rw [g23]; decide) (by rw [g23]; rfl) (by decide) ?_
    exact B_174   _ _ hk1 _ _ _ _ (lv_sub hl [1, 2] rfl) hP hS h
  by_cases g24 : x2 = (6 : Int32)
  · refine lv_tableIn (pc := 1) (off := 173) (tgt := 174) hx hb d_Mac_resultOf_1 (by rw [g24]; decide) (by rw [g24]; decide) (by rw [g24]; rfl) (by decide) ?_
    exact B_174   _ _ hk1 _ _ _ _ (lv_sub hl [1, 2] rfl) hP hS h
  by_cases g25 : x2 = (7 : Int32)
  · refine lv_tableIn (pc := 1) (off := 173) (tgt := 174) hx hb d_Mac_resultOf_1 (by rw [g25]; decide) (by rw [g25]; decide) (by rw [g25]; rfl) (by decide) ?_
    exact B_174   _ _ hk1 _ _ _ _ (lv_sub hl [1, 2] rfl) hP hS h
  by_cases g26 : x2 = (8 : Int32)
  · refine lv_tableIn (pc := 1) (off := 173) (tgt := 174) hx hb d_Mac_resultOf_1 (by rw [g26]; decide) (by rw [g26]; decide) (by rw [g26]; rfl) (by decide) ?_
    exact B_174   _ _ hk1 _ _ _ _ (lv_sub hl [1, 2] rfl) hP hS h
  by_cases g27 : x2 = (9 : Int32)
  · refine lv_tableIn (pc := 1) (off := 173) (tgt := 174) hx hb d_Mac_resultOf_1 (by rw [g27]; decide) (by rw [g27]; decide) (by rw [g27]; rfl) (by decide) ?_
    exact B_174   _ _ hk1 _ _ _ _ (lv_sub hl [1, 2] rfl) hP hS h
  by_cases g28 : x2 = (10 : Int32)
  · refine lv_tableIn (pc := 1) (off := 173) (tgt := 174) hx hb d_Mac_resultOf_1 (by rw [g28]; decide) (by rw [g28]; decide) (by rw [g28]; rfl) (by decide) ?_
    exact B_174   _ _ hk1 _ _ _ _ (lv_sub hl [1, 2] rfl) hP hS h
  by_cases g29 : x2 = (12 : Int32)
  · refine lv_tableIn (pc := 1) (off := 173) (tgt := 174) hx hb d_Mac_resultOf_1 (by rw [g29]; decide) (by rw [g29]; decide) (by rw [g29]; rfl) (by decide) ?_
    exact B_174   _ _ hk1 _ _ _ _ (lv_sub hl [1, 2] rfl) hP hS h
  by_cases g30 : x2 = (13 : Int32)
  · refine lv_tableIn (pc := 1) (off := 173) (tgt := 174) hx hb d_Mac_resultOf_1 (by rw [g30]; decide) (by rw [g30]; decide) (by rw [g30]; rfl) (by decide) ?_
    exact B_174   _ _ hk1 _ _ _ _ (lv_sub hl [1, 2] rfl) hP hS h
  by_cases g31 : x2 = (15 : Int32)
  · refine lv_tableIn (pc := 1) (off := 173) (tgt := 174) hx hb d_Mac_resultOf_1 (by rw [g31]; decide) (by rw [g31]; decide) (by rw [g31]; rfl) (by decide) ?_
    exact B_174   _ _ hk1 _ _ _ _ (lv_sub hl [1, 2] rfl) hP hS h
  have z9 : x2.toInt < 1 ∨ 21 < x2.toInt := by
    have z_g4 := gx_ne (n := 1) g4 (by decide)
    have z_g5 := gx_ne (n := 3) g5 (by decide)
    have z_g7 := gx_ne (n := 11) g7 (by decide)
    have z_g10 := gx_ne (n := 14) g10 (by decide)
    have z_g13 := gx_ne (n := 16) g13 (by decide)
    have z_g16 := gx_ne (n := 17) g16 (by decide)
    have z_g17 := gx_ne (n := 18) g17 (by decide)
    have z_g18 := gx_ne (n := 19) g18 (by decide)
    have z_g19 := gx_ne (n := 20) g19 (by decide)
    have z_g20 := gx_ne (n := 21) g20 (by decide)
    have z_g21 := gx_ne (n := 2) g21 (by decide)
    have z_g22 := gx_ne (n := 4) g22 (by decide)
    have z_g23 := gx_ne (n := 5) g23 (by decide)
    have z_g24 := gx_ne (n := 6) g24 (by decide)
    have z_g25 := gx_ne (n := 7) g25 (by decide)
    have z_g26 := gx_ne (n := 8) g26 (by decide)
    have z_g27 := gx_ne (n := 9) g27 (by decide)
    have z_g28 := gx_ne (n := 10) g28 (by decide)
    have z_g29 := gx_ne (n := 12) g29 (by decide)
    have z_g30 := gx_ne (n := 13) g30 (by decide)
    have z_g31 := gx_ne (n := 15) g31 (by decide)
    omega
  refine lv_tableOut (pc := 1) (tgt := 174) hx hb d_Mac_resultOf_1 z9 (by decide) ?_
  exact B_174   _ _ hk1 _ _ _ _ (lv_sub hl [1, 2] rfl) hP hS h
