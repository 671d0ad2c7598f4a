abbrev rm_Frm_swap : Room := { frames := 0, cells := 0, slots := 0, locals := 0 }
def F_Frm_swap (x0 : Nat) (x1 : Int32) (V : gx_M) : Option gx_M := (if (((V x0 8) - (1 : Int32)) - x1) < 0 then some V else (if (V x0 8) ≤ (((V x0 8) - (1 : Int32)) - x1) then some V else (if gx_ib ((V x0 8) - (1 : Int32)) 12 then (if gx_ib (((V x0 8) - (1 : Int32)) - x1) 12 then (if gx_ib ((V x0 8) - (1 : Int32)) 12 then (gx_let (gx_u V (x0 + 1) ((V x0 8) - (1 : Int32)).toNatClampNeg (V (x0 + 1) (((V x0 8) - (1 : Int32)) - x1).toNatClampNeg)) fun V1 => (if gx_ib (((V x0 8) - (1 : Int32)) - x1) 12 then (gx_let (gx_u V1 (x0 + 1) (((V x0 8) - (1 : Int32)) - x1).toNatClampNeg (V (x0 + 1) ((V x0 8) - (1 : Int32)).toNatClampNeg)) fun V2 => some V2) else none)) else none) else none) else none)))
set_option maxRecDepth 100000 in
set_option maxHeartbeats 8000000 in
theorem k_Frm_swap (l : Launch) (dC : Nat → ClassId) (dI : Nat → Nat → Nat) (cI cR cZ : ClassId) (b tP tN : Nat) {x0 : Nat} {x1 : Int32} {V : gx_M} {q : gx_M} (hk0 : cx_kd x0 = 1) (h : F_Frm_swap x0 x1 V = some q) : cx_C l dC dI cI cR cZ b tP tN y_Frm_swap w_Frm_swap rm_Frm_swap [.ref (b + x0), .int x1] V none q := by
  refine gx_start (cc := b_Frm_swap) (maxL := 4) (ret := rt_Frm_swap) (by decide) rfl (Nat.le_of_ble_eq_true rfl) ?_
  intro p e s m args below meth c ls hx hb hr hts hown hlk hml hl hP hK hX hS
  have hts : ∀ w ∈ cx_tb, w.before args s = true := fun w hw => hts w (List.mem_cons_of_mem _ hw)
  have hown : s.vm.findClass "GasLedger$Frame" = some m.cls := hown
  have hl : lv_has ls 4 [(0, .ref (b + x0)), (1, .int x1)] := hl
  unfold F_Frm_swap at h
  refine lv_aload_n (pc := 0) hx hb d_Frm_swap_0 rfl (lv_at hl 0 rfl) ?_
  refine va_get (pc := 1) (D := (dC, dI)) (ci := 1) (C := R_Frm) (T := T_Frm) (N := 17) hx hb hts in_Frm hown hK hP x0 (gx_at (cx_lt hk0 (by decide)) (sh_Frm cI cR b hk0 _)) rfl 8 (by decide) (hts _ tb_150) (fun _ h9 => h9) rfl d_Frm_swap_1 ?_
  refine lv_iconst (pc := 4) (v := (1 : Int32)) hx hb d_Frm_swap_4 (by decide) ?_
  refine lv_isub (pc := 5) hx hb d_Frm_swap_5 ?_
  refine lv_iload_n (pc := 6) hx hb d_Frm_swap_6 rfl (lv_at hl 1 rfl) ?_
  refine lv_isub (pc := 7) hx hb d_Frm_swap_7 ?_
  refine lv_istore_n (pc := 8) (lv' := [(2, .int (((V x0 8) - (1 : Int32)) - x1)), (0, .ref (b + x0)), (1, .int x1)]) hx hb d_Frm_swap_8 rfl hl (by decide) rfl (fun ls hl => ?_)
  refine lv_iload_n (pc := 9) hx hb d_Frm_swap_9 rfl (lv_at hl 0 rfl) ?_
  refine lv_if_lt (pc := 10) (tgt := 57) hx hb d_Frm_swap_10 (by decide) (fun g1 => ?_) (fun g1 => ?_)
  · have h := gx_pos g1 h
    exact gx_vret hx hb hr hlk hP hS d_Frm_swap_57 (by cases h; rfl) (by cases h; rfl)
  · have h := gx_neg g1 h
    refine lv_iload_n (pc := 13) hx hb d_Frm_swap_13 rfl (lv_at hl 0 rfl) ?_
    refine lv_aload_n (pc := 14) hx hb d_Frm_swap_14 rfl (lv_at hl 1 rfl) ?_
    refine va_get (pc := 15) (D := (dC, dI)) (ci := 1) (C := R_Frm) (T := T_Frm) (N := 17) hx hb hts in_Frm hown hK hP x0 (gx_at (cx_lt hk0 (by decide)) (sh_Frm cI cR b hk0 _)) rfl 8 (by decide) (hts _ tb_150) (fun _ h9 => h9) rfl d_Frm_swap_15 ?_
    refine lv_icmp_ge (pc := 18) (tgt := 57) hx hb d_Frm_swap_18 (by decide) (fun g2 => ?_) (fun g2 => ?_)
    · have h := gx_pos g2 h
      exact gx_vret hx hb hr hlk hP hS d_Frm_swap_57 (by cases h; rfl) (by cases h; rfl)
    · have h := gx_neg g2 h
      refine lv_aload_n (pc := 21) hx hb d_Frm_swap_21 rfl (lv_at hl 1 rfl) ?_
      refine va_get (pc := 22) (D := (dC, dI)) (ci := 1) (C := R_Frm) (T := T_Frm) (N := 17) hx hb hts in_Frm hown hK hP x0 (gx_at (cx_lt hk0 (by decide)) (sh_Frm cI cR b hk0 _)) rfl 7 (by decide) (hts _ tb_149) (fun _ h9 => h9) rfl d_Frm_swap_22 ?_
      refine lv_aload_n (pc := 25) hx hb d_Frm_swap_25 rfl (lv_at hl 1 rfl) ?_
      refine va_get (pc := 26) (D := (dC, dI)) (ci := 1) (C := R_Frm) (T := T_Frm) (N := 17) hx hb hts in_Frm hown hK hP x0 (gx_at (cx_lt hk0 (by decide)) (sh_Frm cI cR b hk0 _)) rfl 8 (by decide) (hts _ tb_150) (fun _ h9 => h9) rfl d_Frm_swap_26 ?_
      refine lv_iconst (pc := 29) (v := (1 : Int32)) hx hb d_Frm_swap_29 (by decide) ?_
      refine lv_isub (pc := 30) hx hb d_Frm_swap_30 ?_
      obtain ⟨g3, h⟩ := gx_if h
      refine va_iald (pc := 31) hx hb hK hP (x0 + 1) 0 (gx_at (cx_lt (to_Frm_stack hk0) (by decide)) (sh_arr cI cR b (n := 12) (to_Frm_stack hk0) _)) rfl g3 d_Frm_swap_31 ?_
      refine lv_istore_n (pc := 32) (lv' := [(3, .int (V (x0 + 1) ((V x0 8) - (1 : Int32)).toNatClampNeg)), (2, .int (((V x0 8) - (1 : Int32)) - x1)), (0, .ref (b + x0)), (1, .int x1)]) hx hb d_Frm_swap_32 rfl hl (by decide) rfl (fun ls hl => ?_)
      refine lv_aload_n (pc := 33) hx hb d_Frm_swap_33 rfl (lv_at hl 2 rfl) ?_
      refine va_get (pc := 34) (D := (dC, dI)) (ci := 1) (C := R_Frm) (T := T_Frm) (N := 17) hx hb hts in_Frm hown hK hP x0 (gx_at (cx_lt hk0 (by decide)) (sh_Frm cI cR b hk0 _)) rfl 7 (by decide) (hts _ tb_149) (fun _ h9 => h9) rfl d_Frm_swap_34 ?_
      refine lv_aload_n (pc := 37) hx hb d_Frm_swap_37 rfl (lv_at hl 2 rfl) ?_
      refine va_get (pc := 38) (D := (dC, dI)) (ci := 1) (C := R_Frm) (T := T_Frm) (N := 17) hx hb hts in_Frm hown hK hP x0 (gx_at (cx_lt hk0 (by decide)) (sh_Frm cI cR b hk0 _)) rfl 8 (by decide) (hts _ tb_150) (fun _ h9 => h9) rfl d_Frm_swap_38 ?_
      refine lv_iconst (pc := 41) (v := (1 : Int32)) hx hb d_Frm_swap_41 (by decide) ?_
      refine lv_isub (pc := 42) hx hb d_Frm_swap_42 ?_
      refine lv_aload_n (pc := 43) hx hb d_Frm_swap_43 rfl (lv_at hl 2 rfl) ?_
      refine va_get (pc := 44) (D := (dC, dI)) (ci := 1) (C := R_Frm) (T := T_Frm) (N := 17) hx hb hts in_Frm hown hK hP x0 (gx_at (cx_lt hk0 (by decide)) (sh_Frm cI cR b hk0 _)) rfl 7 (by decide) (hts _ tb_149) (fun _ h9 => h9) rfl d_Frm_swap_44 ?_
      refine lv_iload_n (pc := 47) hx hb d_Frm_swap_47 rfl (lv_at hl 1 rfl) ?_
      obtain ⟨g4, h⟩ := gx_if h
      refine va_iald (pc := 48) hx hb hK hP (x0 + 1) 0 (gx_at (cx_lt (to_Frm_stack hk0) (by decide)) (sh_arr cI cR b (n := 12) (to_Frm_stack hk0) _)) rfl g4 d_Frm_swap_48 ?_
      obtain ⟨g5, h⟩ := gx_if h
      obtain ⟨V1, g6, h⟩ := gx_lt h
      refine gx_asi (pc := 49) hx hb hK hP hS (x0 + 1) 0 (cx_lt (to_Frm_stack hk0) (by decide)) (fun _ => sh_arr cI cR b (n := 12) (to_Frm_stack hk0) _) rfl g5 d_Frm_swap_49 g6 (fun H locs hP hS => ?_)
      refine lv_aload_n (pc := 50) hx hb d_Frm_swap_50 rfl (lv_at hl 2 rfl) ?_
      refine va_get (pc := 51) (D := (dC, dI)) (ci := 1) (C := R_Frm) (T := T_Frm) (N := 17) hx hb hts in_Frm hown hK hP x0 (gx_at (cx_lt hk0 (by decide)) (sh_Frm cI cR b hk0 _)) rfl 7 (by decide) (hts _ tb_149) (fun _ h9 => h9) rfl d_Frm_swap_51 ?_
      refine lv_iload_n (pc := 54) hx hb d_Frm_swap_54 rfl (lv_at hl 1 rfl) ?_
      refine lv_iload_n (pc := 55) hx hb d_Frm_swap_55 rfl (lv_at hl 0 rfl) ?_
      obtain ⟨g7, h⟩ := gx_if h
      obtain ⟨V2, g8, h⟩ := gx_lt h
      refine gx_asi (pc := 56) hx hb hK hP hS (x0 + 1) 0 (cx_lt (to_Frm_stack hk0) (by decide)) (fun _ => sh_arr cI cR b (n := 12) (to_Frm_stack hk0) _) rfl g7 d_Frm_swap_56 g8 (fun H locs hP hS => ?_)
      exact gx_vret hx hb hr hlk hP hS d_Frm_swap_57 (by cases h; rfl) (by cases h; rfl)
abbrev rm_Mac_jump : Room := { frames := 2, cells := 0, slots := 0, locals := 42 }
def F_Mac_jump (x0 : Nat) (x1 : Nat) (x2 : Int32) (V : gx_M) : Option gx_M := (if x2 < 0 then ((F_Frm_fail x1 V).bind fun q1 => some q1) else (if gx_ib (V x1 1) 16 then (if x2 < (V ((x0 + 1) + 3) (V x1 1).toNatClampNeg) then (gx_let (gx_u V x1 2 x2) fun V1 => some V1) else ((F_Frm_fail x1 V).bind fun q2 => some q2)) else none))
set_option maxRecDepth 100000 in
set_option maxHeartbeats 8000000 in
theorem k_Mac_jump (l : Launch) (dC : Nat → ClassId) (dI : Nat → Nat → Nat) (cI cR cZ : ClassId) (b tP tN : Nat) {x0 : Nat} {x1 : Nat} {x2 : Int32} {V : gx_M} {q : gx_M} (hk0 : cx_kd x0 = 3) (hk1 : cx_kd x1 = 1) (h : F_Mac_jump x0 x1 x2 V = some q) : cx_C l dC dI cI cR cZ b tP tN y_Mac_jump w_Mac_jump rm_Mac_jump [.ref (b + x0), .ref (b + x1), .int x2] V none q := by
  refine gx_start (cc := b_Mac_jump) (maxL := 3) (ret := rt_Mac_jump) (by decide) rfl (Nat.le_of_ble_eq_true rfl) ?_
  intro p e s m args below meth c ls hx hb hr hts hown hlk hml hl hP hK hX hS
  have hts : ∀ w ∈ cx_tb, w.before args s = true := fun w hw => hts w (List.mem_cons_of_mem _ hw)
  have hown : s.vm.findClass "GasLedger$Machine" = some m.cls := hown
  have hl : lv_has ls 3 [(0, .ref (b + x0)), (1, .ref (b + x1)), (2, .int x2)] := hl
  unfold F_Mac_jump at h
  refine lv_iload_n (pc := 0) hx hb d_Mac_jump_0 rfl (lv_at hl 2 rfl) ?_
  refine lv_if_lt (pc := 1) (tgt := 20) hx hb d_Mac_jump_1 (by decide) (fun g1 => ?_) (fun g1 => ?_)
  · have h := gx_pos g1 h
    refine lv_aload_n (pc := 20) hx hb d_Mac_jump_20 rfl (lv_at hl 1 rfl) ?_
    obtain ⟨q1, g2, h⟩ := gx_bd h
    refine gx_cv (pc := 21) (va_runV (C := "GasLedger$Frame") (As := []) (rest := []) ⟨hx, hb, hml, hown, hts⟩ (k_Frm_fail l dC dI cI cR cZ b tP tN hk1 g2) (gx_cw 0 hts cd_Frm_fail tb_48 tb_397 tb_398 tb_399 rfl rfl ⟨by decide, by decide, by decide +kernel⟩ ⟨Nat.le_of_ble_eq_true rfl, Nat.le_of_ble_eq_true rfl⟩) (gy_preV (cx_XX b tP tN) hX hK hP hS (cx_lt hk1 (by decide)) (sh_Frm cI cR b hk1 _) rfl) rfl rfl hl.1 rfl (lv_room (Nat.le_of_ble_eq_true rfl)) d_Mac_jump_21 ⟨Nat.zero_le _, Nat.zero_le _⟩) hS (fun H locs hP hS => ?_)
    refine lv_goto (pc := 24) (tgt := 32) hx hb d_Mac_jump_24 (by decide) ?_
    exact gx_vret hx hb hr hlk hP hS d_Mac_jump_32 (by cases h; rfl) (by cases h; rfl)
  · have h := gx_neg g1 h
    refine lv_iload_n (pc := 4) hx hb d_Mac_jump_4 rfl (lv_at hl 2 rfl) ?_
    refine lv_aload_n (pc := 5) hx hb d_Mac_jump_5 rfl (lv_at hl 0 rfl) ?_
    refine va_get (pc := 6) (D := (dC, dI)) (ci := 3) (C := R_Mac) (T := T_Mac) (N := 6) hx hb hts in_Mac hown hK hP x0 (gx_at (cx_lt hk0 (by decide)) (sh_Mac cI cR b hk0 _)) rfl 0 (by decide) (hts _ tb_201) (fun _ h9 => h9) rfl d_Mac_jump_6 ?_
    refine va_get (pc := 9) (D := (dC, dI)) (ci := 0) (C := R_Acc) (T := T_Acc) (N := 6) hx hb hts in_Acc hown hK hP (x0 + 1) (gx_at (cx_lt (to_Mac_accounts hk0) (by decide)) (sh_Acc cI cR b (to_Mac_accounts hk0) _)) rfl 2 (by decide) (hts _ tb_82) (fun _ h9 => h9) rfl d_Mac_jump_9 ?_
    refine lv_aload_n (pc := 12) hx hb d_Mac_jump_12 rfl (lv_at hl 1 rfl) ?_
    refine va_get (pc := 13) (D := (dC, dI)) (ci := 1) (C := R_Frm) (T := T_Frm) (N := 17) hx hb hts in_Frm hown hK hP x1 (gx_at (cx_lt hk1 (by decide)) (sh_Frm cI cR b hk1 _)) rfl 1 (by decide) (hts _ tb_137) (fun _ h9 => h9) rfl d_Mac_jump_13 ?_
    obtain ⟨g3, h⟩ := gx_if h
    refine va_iald (pc := 16) hx hb hK hP ((x0 + 1) + 3) 0 (gx_at (cx_lt (to_Acc_sizes (to_Mac_accounts hk0)) (by decide)) (sh_arr cI cR b (n := 16) (to_Acc_sizes (to_Mac_accounts hk0)) _)) rfl g3 d_Mac_jump_16 ?_
    refine lv_icmp_lt (pc := 17) (tgt := 27) hx hb d_Mac_jump_17 (by decide) (fun g4 => ?_) (fun g4 => ?_)
    · have h := gx_pos g4 h
      refine lv_aload_n (pc := 27) hx hb d_Mac_jump_27 rfl (lv_at hl 1 rfl) ?_
      refine lv_iload_n (pc := 28) hx hb d_Mac_jump_28 rfl (lv_at hl 2 rfl) ?_
      obtain ⟨V1, g5, h⟩ := gx_lt h
      refine gy_put (pc := 29) (D := (dC, dI)) (ci := 1) (C := R_Frm) (T := T_Frm) (NF := 17) (ty := .int) hx hb hts in_Frm t_Frm ty_Frm nm_Frm hown hK hP hS x1 (cx_lt hk1 (by decide)) (sh_Frm cI cR b hk1 _) rfl 2 (by decide) (hts _ tb_139) (fun _ h9 => h9) rfl (by decide +kernel) rfl rfl (Nat.le_of_ble_eq_true rfl) 2 (sh_Frm cI cR b hk1 _) d_Mac_jump_29 g5 (fun H locs hP hS => ?_)
      exact gx_vret hx hb hr hlk hP hS d_Mac_jump_32 (by cases h; rfl) (by cases h; rfl)
    · have h := gx_neg g4 h
      refine lv_aload_n (pc := 20) hx hb d_Mac_jump_20 rfl (lv_at hl 1 rfl) ?_
      obtain ⟨q2, g6, h⟩ := gx_bd h
      refine gx_cv (pc := 21) (va_runV (C := "GasLedger$Frame") (As := []) (rest := []) ⟨hx, hb, hml, hown, hts⟩ (k_Frm_fail l dC dI cI cR cZ b tP tN hk1 g6) (gx_cw 0 hts cd_Frm_fail tb_48 tb_397 tb_398 tb_399 rfl rfl ⟨by decide, by decide, by decide +kernel⟩ ⟨Nat.le_of_ble_eq_true rfl, Nat.le_of_ble_eq_true rfl⟩) (gy_preV (cx_XX b tP tN) hX hK hP hS (cx_lt hk1 (by decide)) (sh_Frm cI cR b hk1 _) rfl) rfl rfl hl.1 rfl (lv_room (Nat.le_of_ble_eq_true rfl)) d_Mac_jump_21 ⟨Nat.zero_le _, Nat.zero_le _⟩) hS (fun H locs hP hS => ?_)
      refine lv_goto (pc := 24) (tgt := 32) hx hb d_Mac_jump_24 (by decide) ?_
      exact gx_vret hx hb hr hlk hP hS d_Mac_jump_32 (by cases h; rfl) (by cases h; rfl)
abbrev rm_Mac_jumpIf : Room := { frames := 3, cells := 0, slots := 0, locals := 64 }
def F_Mac_jumpIf (x0 : Nat) (x1 : Nat) (V : gx_M) : Option gx_M := ((F_Frm_pop x1 V).bind fun q1 => ((F_Frm_pop x1 q1.2).bind fun q2 => (if q2.1 = 0 then some q2.2 else ((F_Mac_jump x0 x1 q1.1 q2.2).bind fun q3 => some q3))))
set_option maxRecDepth 100000 in
set_option maxHeartbeats 8000000 in
theorem k_Mac_jumpIf (l : Launch) (dC : Nat → ClassId) (dI : Nat → Nat → Nat) (cI cR cZ : ClassId) (b tP tN : Nat) {x0 : Nat} {x1 : Nat} {V : gx_M} {q : gx_M} (hk0 : cx_kd x0 = 3) (hk1 : cx_kd x1 = 1) (h : F_Mac_jumpIf x0 x1 V = some q) : cx_C l dC dI cI cR cZ b tP tN y_Mac_jumpIf w_Mac_jumpIf rm_Mac_jumpIf [.ref (b + x0), .ref (b + x1)] V none q := by
  refine gx_start (cc := b_Mac_jumpIf) (maxL := 3) (ret := rt_Mac_jumpIf) (by decide) rfl (Nat.le_of_ble_eq_true rfl) ?_
  intro p e s m args below meth c ls hx hb hr hts hown hlk hml hl hP hK hX hS
  have hts : ∀ w ∈ cx_tb, w.before args s = true := fun w hw => hts w (List.mem_cons_of_mem _ hw)
  have hown : s.vm.findClass "GasLedger$Machine" = some m.cls := hown
  have hl : lv_has ls 3 [(0, .ref (b + x0)), (1, .ref (b + x1))] := hl
  unfold F_Mac_jumpIf at h
  refine lv_aload_n (pc := 0) hx hb d_Mac_jumpIf_0 rfl (lv_at hl 1 rfl) ?_
  obtain ⟨q1, g1, h⟩ := gx_bd h
  refine gx_ci (pc := 1) (va_runV (C := "GasLedger$Frame") (As := []) (rest := []) ⟨hx, hb, hml, hown, hts⟩ (k_Frm_pop l dC dI cI cR cZ b tP tN hk1 g1) (gx_cw 0 hts cd_Frm_pop tb_48 tb_406 tb_407 tb_408 rfl rfl ⟨by decide, by decide, by decide +kernel⟩ ⟨Nat.le_of_ble_eq_true rfl, Nat.le_of_ble_eq_true rfl⟩) (gy_preV (cx_XX b tP tN) hX hK hP hS (cx_lt hk1 (by decide)) (sh_Frm cI cR b hk1 _) rfl) rfl rfl hl.1 rfl (lv_room (Nat.le_of_ble_eq_true rfl)) d_Mac_jumpIf_1 ⟨Nat.zero_le _, Nat.zero_le _⟩) hS (fun H locs hP hS => ?_)
  refine lv_istore_n (pc := 4) (lv' := [(2, .int q1.1), (0, .ref (b + x0)), (1, .ref (b + x1))]) hx hb d_Mac_jumpIf_4 rfl hl (by decide) rfl (fun ls hl => ?_)
  refine lv_aload_n (pc := 5) hx hb d_Mac_jumpIf_5 rfl (lv_at hl 2 rfl) ?_
  obtain ⟨q2, g2, h⟩ := gx_bd h
  refine gx_ci (pc := 6) (va_runV (C := "GasLedger$Frame") (As := []) (rest := []) ⟨hx, hb, hml, hown, hts⟩ (k_Frm_pop l dC dI cI cR cZ b tP tN hk1 g2) (gx_cw 0 hts cd_Frm_pop tb_48 tb_406 tb_407 tb_408 rfl rfl ⟨by decide, by decide, by decide +kernel⟩ ⟨Nat.le_of_ble_eq_true rfl, Nat.le_of_ble_eq_true rfl⟩) (gy_preV (cx_XX b tP tN) hX hK hP hS (cx_lt hk1 (by decide)) (sh_Frm cI cR b hk1 _) rfl) rfl rfl hl.1 rfl (lv_room (Nat.le_of_ble_eq_true rfl)) d_Mac_jumpIf_6 ⟨Nat.zero_le _, Nat.zero_le _⟩) hS (fun H locs hP hS => ?_)
  refine lv_if_eq (pc := 9) (tgt := 18) hx hb d_Mac_jumpIf_9 (by decide) (fun g3 => ?_) (fun g3 => ?_)
  · have h := gx_pos g3 h
    exact gx_vret hx hb hr hlk hP hS d_Mac_jumpIf_18 (by cases h; rfl) (by cases h; rfl)
  · have h := gx_neg g3 h
    refine lv_aload_n (pc := 12) hx hb d_Mac_jumpIf_12 rfl (lv_at hl 1 rfl) ?_
    refine lv_aload_n (pc := 13) hx hb d_Mac_jumpIf_13 rfl (lv_at hl 2 rfl) ?_
    refine lv_iload_n (pc := 14) hx hb d_Mac_jumpIf_14 rfl (lv_at hl 0 rfl) ?_
    obtain ⟨q3, g4, h⟩ := gx_bd h
    refine gx_cv (pc := 15) (va_runV (C := "GasLedger$Machine") (As := [.ref (b + x1), .int q1.1]) (rest := []) ⟨hx, hb, hml, hown, hts⟩ (k_Mac_jump l dC dI cI cR cZ b tP tN hk0 hk1 g4) (gx_cw 2 hts cd_Mac_jump tb_45 tb_414 tb_416 tb_5 rfl rfl ⟨by decide, by decide, by decide +kernel⟩ ⟨Nat.le_of_ble_eq_true rfl, Nat.le_of_ble_eq_true rfl⟩) (gy_preV (cx_XX b tP tN) hX hK hP hS (cx_lt hk0 (by decide)) (sh_Mac cI cR b hk0 _) rfl) rfl rfl hl.1 rfl (lv_room (Nat.le_of_ble_eq_true rfl)) d_Mac_jumpIf_15 ⟨Nat.zero_le _, Nat.zero_le _⟩) hS (fun H locs hP hS => ?_)
    exact gx_vret hx hb hr hlk hP hS d_Mac_jumpIf_18 (by cases h; rfl) (by cases h; rfl)
abbrev rm_Mac_store : Room := { frames := 2, cells := 0, slots := 0, locals := 42 }
def F_Mac_store (x0 : Nat) (x1 : Nat) (V : gx_M) : Option gx_M := ((F_Frm_pop x1 V).bind fun q1 => ((F_Frm_pop x1 q1.2).bind fun q2 => ((F_Led_isSlot q1.1 q2.2).bind fun q3 => (if q3.1 = 0 then ((F_Frm_fail x1 q3.2).bind fun q4 => some q4) else (if gx_ib (((q3.2 x1 0) * (8 : Int32)) + q1.1) 128 then (if (q3.2 ((x0 + 1) + 5) (((q3.2 x1 0) * (8 : Int32)) + q1.1).toNatClampNeg) = 0 then (if gx_ib (((q3.2 x1 0) * (8 : Int32)) + q1.1) 128 then (gx_let (gx_u q3.2 ((x0 + 1) + 5) (((q3.2 x1 0) * (8 : Int32)) + q1.1).toNatClampNeg q2.1) fun V1 => some V1) else none) else (if q2.1 = 0 then (gx_let (gx_u q3.2 x0 4 ((q3.2 x0 4) + (15 : Int32))) fun V3 => (if gx_ib (((q3.2 x1 0) * (8 : Int32)) + q1.1) 128 then (gx_let (gx_u V3 ((x0 + 1) + 5) (((q3.2 x1 0) * (8 : Int32)) + q1.1).toNatClampNeg q2.1) fun V4 => some V4) else none)) else (if gx_ib (((q3.2 x1 0) * (8 : Int32)) + q1.1) 128 then (gx_let (gx_u q3.2 ((x0 + 1) + 5) (((q3.2 x1 0) * (8 : Int32)) + q1.1).toNatClampNeg q2.1) fun V2 => some V2) else none))) else none)))))
set_option maxRecDepth 100000 in
set_option maxHeartbeats 8000000 in
theorem k_Mac_store (l : Launch) (dC : Nat → ClassId) (dI : Nat → Nat → Nat) (cI cR cZ : ClassId) (b tP tN : Nat) {x0 : Nat} {x1 : Nat} {V : gx_M} {q : gx_M} (hk0 : cx_kd x0 = 3) (hk1 : cx_kd x1 = 1) (h : F_Mac_store x0 x1 V = some q) : cx_C l dC dI cI cR cZ b tP tN y_Mac_store w_Mac_store rm_Mac_store [.ref (b + x0), .ref (b + x1)] V none q := by
  refine gx_start (cc := b_Mac_store) (maxL := 5) (ret := rt_Mac_store) (by decide) rfl (Nat.le_of_ble_eq_true rfl) ?_
  intro p e s m args below meth c ls hx hb hr hts hown hlk hml hl hP hK hX hS
  have hts : ∀ w ∈ cx_tb, w.before args s = true := fun w hw => hts w (List.mem_cons_of_mem _ hw)
  have hown : s.vm.findClass "GasLedger$Machine" = some m.cls := hown
  have hl : lv_has ls 5 [(0, .ref (b + x0)), (1, .ref (b + x1))] := hl
  unfold F_Mac_store at h
  refine lv_aload_n (pc := 0) hx hb d_Mac_store_0 rfl (lv_at hl 1 rfl) ?_
  obtain ⟨q1, g1, h⟩ := gx_bd h
  refine gx_ci (pc := 1) (va_runV (C := "GasLedger$Frame") (As := []) (rest := []) ⟨hx, hb, hml, hown, hts⟩ (k_Frm_pop l dC dI cI cR cZ b tP tN hk1 g1) (gx_cw 0 hts cd_Frm_pop tb_48 tb_406 tb_407 tb_408 rfl rfl ⟨by decide, by decide, by decide +kernel⟩ ⟨Nat.le_of_ble_eq_true rfl, Nat.le_of_ble_eq_true rfl⟩) (gy_preV (cx_XX b tP tN) hX hK hP hS (cx_lt hk1 (by decide)) (sh_Frm cI cR b hk1 _) rfl) rfl rfl hl.1 rfl (lv_room (Nat.le_of_ble_eq_true rfl)) d_Mac_store_1 ⟨Nat.zero_le _, Nat.zero_le _⟩) hS (fun H locs hP hS => ?_)
  refine lv_istore_n (pc := 4) (lv' := [(2, .int q1.1), (0, .ref (b + x0)), (1, .ref (b + x1))]) hx hb d_Mac_store_4 rfl hl (by decide) rfl (fun ls hl => ?_)
  refine lv_aload_n (pc := 5) hx hb d_Mac_store_5 rfl (lv_at hl 2 rfl) ?_
  obtain ⟨q2, g2, h⟩ := gx_bd h
  refine gx_ci (pc := 6) (va_runV (C := "GasLedger$Frame") (As := []) (rest := []) ⟨hx, hb, hml, hown, hts⟩ (k_Frm_pop l dC dI cI cR cZ b tP tN hk1 g2) (gx_cw 0 hts cd_Frm_pop tb_48 tb_406 tb_407 tb_408 rfl rfl ⟨by decide, by decide, by decide +kernel⟩ ⟨Nat.le_of_ble_eq_true rfl, Nat.le_of_ble_eq_true rfl⟩) (gy_preV (cx_XX b tP tN) hX hK hP hS (cx_lt hk1 (by decide)) (sh_Frm cI cR b hk1 _) rfl) rfl rfl hl.1 rfl (lv_room (Nat.le_of_ble_eq_true rfl)) d_Mac_store_6 ⟨Nat.zero_le _, Nat.zero_le _⟩) hS (fun H locs hP hS => ?_)
  refine lv_istore_n (pc := 9) (lv' := [(3, .int q2.1), (2, .int q1.1), (0, .ref (b + x0)), (1, .ref (b + x1))]) hx hb d_Mac_store_9 rfl hl (by decide) rfl (fun ls hl => ?_)
  refine lv_iload_n (pc := 10) hx hb d_Mac_store_10 rfl (lv_at hl 1 rfl) ?_
  obtain ⟨q3, g3, h⟩ := gx_bd h
  refine gx_ci (pc := 11) (va_runSN (host := "GasLedger") (As := [.int q1.1]) (rest := []) ⟨hx, hb, hml, hown, hts⟩ (k_Led_isSlot l dC dI cI cR cZ b tP tN  g3) (gx_cn 1 hts cd_Led_isSlot tb_44 hX.2.2.2.2.2.2.1 tb_312 rfl rfl ⟨by decide, by decide, by decide +kernel⟩ ⟨Nat.le_of_ble_eq_true rfl, Nat.le_of_ble_eq_true rfl⟩) (gy_pre (cx_XX b tP tN) hX hK hP hS) rfl rfl hl.1 rfl (lv_room (Nat.le_of_ble_eq_true rfl)) d_Mac_store_11 ⟨Nat.zero_le _, Nat.zero_le _⟩) hS (fun H locs hP hS => ?_)
  refine lv_if_ne (pc := 14) (tgt := 22) hx hb d_Mac_store_14 (by decide) (fun g4 => ?_) (fun g4 => ?_)
  · have h := gx_neg g4 h
    refine lv_aload_n (pc := 22) hx hb d_Mac_store_22 rfl (lv_at hl 3 rfl) ?_
    refine va_get (pc := 23) (D := (dC, dI)) (ci := 1) (C := R_Frm) (T := T_Frm) (N := 17) hx hb hts in_Frm hown hK hP x1 (gx_at (cx_lt hk1 (by decide)) (sh_Frm cI cR b hk1 _)) rfl 0 (by decide) (hts _ tb_135) (fun _ h9 => h9) rfl d_Mac_store_23 ?_
    refine lv_bipush (pc := 26) (v := (8 : Int32)) hx hb d_Mac_store_26 (by decide) ?_
    refine lv_imul (pc := 28) hx hb d_Mac_store_28 ?_
    refine lv_iload_n (pc := 29) hx hb d_Mac_store_29 rfl (lv_at hl 1 rfl) ?_
    refine lv_iadd (pc := 30) hx hb d_Mac_store_30 ?_
    refine lv_istore (pc := 31) (lv' := [(4, .int (((q3.2 x1 0) * (8 : Int32)) + q1.1)), (3, .int q2.1), (2, .int q1.1), (0, .ref (b + x0)), (1, .ref (b + x1))]) hx hb d_Mac_store_31 hl (by decide) rfl (fun ls hl => ?_)
    refine lv_aload_n (pc := 33) hx hb d_Mac_store_33 rfl (lv_at hl 3 rfl) ?_
    refine va_get (pc := 34) (D := (dC, dI)) (ci := 3) (C := R_Mac) (T := T_Mac) (N := 6) hx hb hts in_Mac hown hK hP x0 (gx_at (cx_lt hk0 (by decide)) (sh_Mac cI cR b hk0 _)) rfl 0 (by decide) (hts _ tb_201) (fun _ h9 => h9) rfl d_Mac_store_34 ?_
    refine va_get (pc := 37) (D := (dC, dI)) (ci := 0) (C := R_Acc) (T := T_Acc) (N := 6) hx hb hts in_Acc hown hK hP (x0 + 1) (gx_at (cx_lt (to_Mac_accounts hk0) (by decide)) (sh_Acc cI cR b (to_Mac_accounts hk0) _)) rfl 4 (by decide) (hts _ tb_86) (fun _ h9 => h9) rfl d_Mac_store_37 ?_
    refine lv_iload (pc := 40) hx hb d_Mac_store_40 (lv_at hl 0 rfl) ?_
    obtain ⟨g5, h⟩ := gx_if h
    refine va_iald (pc := 42) hx hb hK hP ((x0 + 1) + 5) 0 (gx_at (cx_lt (to_Acc_slots (to_Mac_accounts hk0)) (by decide)) (sh_arr cI cR b (n := 128) (to_Acc_slots (to_Mac_accounts hk0)) _)) rfl g5 d_Mac_store_42 ?_
    refine lv_if_eq (pc := 43) (tgt := 61) hx hb d_Mac_store_43 (by decide) (fun g6 => ?_) (fun g6 => ?_)
    · have h := gx_pos g6 h
      refine lv_aload_n (pc := 61) hx hb d_Mac_store_61 rfl (lv_at hl 3 rfl) ?_
      refine va_get (pc := 62) (D := (dC, dI)) (ci := 3) (C := R_Mac) (T := T_Mac) (N := 6) hx hb hts in_Mac hown hK hP x0 (gx_at (cx_lt hk0 (by decide)) (sh_Mac cI cR b hk0 _)) rfl 0 (by decide) (hts _ tb_201) (fun _ h9 => h9) rfl d_Mac_store_62 ?_
      refine va_get (pc := 65) (D := (dC, dI)) (ci := 0) (C := R_Acc) (T := T_Acc) (N := 6) hx hb hts in_Acc hown hK hP (x0 + 1) (gx_at (cx_lt (to_Mac_accounts hk0) (by decide)) (sh_Acc cI cR b (to_Mac_accounts hk0) _)) rfl 4 (by decide) (hts _ tb_86) (fun _ h9 => h9) rfl d_Mac_store_65 ?_
      refine lv_iload (pc := 68) hx hb d_Mac_store_68 (lv_at hl 0 rfl) ?_
      refine lv_iload_n (pc := 70) hx hb d_Mac_store_70 rfl (lv_at hl 1 rfl) ?_
      obtain ⟨g7, h⟩ := gx_if h
      obtain ⟨V1, g8, h⟩ := gx_lt h
      refine gx_asi (pc := 71) hx hb hK hP hS ((x0 + 1) + 5) 0 (cx_lt (to_Acc_slots (to_Mac_accounts hk0)) (by decide)) (fun _ => sh_arr cI cR b (n := 128) (to_Acc_slots (to_Mac_accounts hk0)) _) rfl g7 d_Mac_store_71 g8 (fun H locs hP hS => ?_)
      exact gx_vret hx hb hr hlk hP hS d_Mac_store_72 (by cases h; rfl) (by cases h; rfl)
    · have h := gx_neg g6 h
      refine lv_iload_n (pc := 46) hx hb d_Mac_store_46 rfl (lv_at hl 1 rfl) ?_
      refine lv_if_ne (pc := 47) (tgt := 61) hx hb d_Mac_store_47 (by decide) (fun g9 => ?_) (fun g9 => ?_)
      · have h := gx_neg g9 h
        refine lv_aload_n (pc := 61) hx hb d_Mac_store_61 rfl (lv_at hl 3 rfl) ?_
        refine va_get (pc := 62) (D := (dC, dI)) (ci := 3) (C := R_Mac) (T := T_Mac) (N := 6) hx hb hts in_Mac hown hK hP x0 (gx_at (cx_lt hk0 (by decide)) (sh_Mac cI cR b hk0 _)) rfl 0 (by decide) (hts _ tb_201) (fun _ h9 => h9) rfl d_Mac_store_62 ?_
        refine va_get (pc := 65) (D := (dC, dI)) (ci := 0) (C := R_Acc) (T := T_Acc) (N := 6) hx hb hts in_Acc hown hK hP (x0 + 1) (gx_at (cx_lt (to_Mac_accounts hk0) (by decide)) (sh_Acc cI cR b (to_Mac_accounts hk0) _)) rfl 4 (by decide) (hts _ tb_86) (fun _ h9 => h9) rfl d_Mac_store_65 ?_
        refine lv_iload (pc := 68) hx hb d_Mac_store_68 (lv_at hl 0 rfl) ?_
        refine lv_iload_n (pc := 70) hx hb d_Mac_store_70 rfl (lv_at hl 1 rfl) ?_
        obtain ⟨g10, h⟩ := gx_if h
        obtain ⟨V2, g11, h⟩ := gx_lt h
        refine gx_asi (pc := 71) hx hb hK hP hS ((x0 + 1) + 5) 0 (cx_lt (to_Acc_slots (to_Mac_accounts hk0)) (by decide)) (fun _ => sh_arr cI cR b (n := 128) (to_Acc_slots (to_Mac_accounts hk0)) _) rfl g10 d_Mac_store_71 g11 (fun H locs hP hS => ?_)
        exact gx_vret hx hb hr hlk hP hS d_Mac_store_72 (by cases h; rfl) (by cases h; rfl)
      · have h := gx_pos g9 h
        refine lv_aload_n (pc := 50) hx hb d_Mac_store_50 rfl (lv_at hl 3 rfl) ?_
        refine lv_dup (pc := 51) hx hb d_Mac_store_51 rfl ?_
        refine va_get (pc := 52) (D := (dC, dI)) (ci := 3) (C := R_Mac) (T := T_Mac) (N := 6) hx hb hts in_Mac hown hK hP x0 (gx_at (cx_lt hk0 (by decide)) (sh_Mac cI cR b hk0 _)) rfl 4 (by decide) (hts _ tb_207) (fun _ h9 => h9) rfl d_Mac_store_52 ?_
        refine lv_bipush (pc := 55) (v := (15 : Int32)) hx hb d_Mac_store_55 (by decide) ?_
        refine lv_iadd (pc := 57) hx hb d_Mac_store_57 ?_
        obtain ⟨V3, g12, h⟩ := gx_lt h
        refine gy_put (pc := 58) (D := (dC, dI)) (ci := 3) (C := R_Mac) (T := T_Mac) (NF := 6) (ty := .int) hx hb hts in_Mac t_Mac ty_Mac nm_Mac hown hK hP hS x0 (cx_lt hk0 (by decide)) (sh_Mac cI cR b hk0 _) rfl 4 (by decide) (hts _ tb_207) (fun _ h9 => h9) rfl (by decide +kernel) rfl rfl (Nat.le_of_ble_eq_true rfl) 4 (sh_Mac cI cR b hk0 _) d_Mac_store_58 g12 (fun H locs hP hS => ?_)
        refine lv_aload_n (pc := 61) hx hb d_Mac_store_61 rfl (lv_at hl 3 rfl) ?_
        refine va_get (pc := 62) (D := (dC, dI)) (ci := 3) (C := R_Mac) (T := T_Mac) (N := 6) hx hb hts in_Mac hown hK hP x0 (gx_at (cx_lt hk0 (by decide)) (sh_Mac cI cR b hk0 _)) rfl 0 (by decide) (hts _ tb_201) (fun _ h9 => h9) rfl d_Mac_store_62 ?_
        refine va_get (pc := 65) (D := (dC, dI)) (ci := 0) (C := R_Acc) (T := T_Acc) (N := 6) hx hb hts in_Acc hown hK hP (x0 + 1) (gx_at (cx_lt (to_Mac_accounts hk0) (by decide)) (sh_Acc cI cR b (to_Mac_accounts hk0) _)) rfl 4 (by decide) (hts _ tb_86) (fun _ h9 => h9) rfl d_Mac_store_65 ?_
        refine lv_iload (pc := 68) hx hb d_Mac_store_68 (lv_at hl 0 rfl) ?_
        refine lv_iload_n (pc := 70) hx hb d_Mac_store_70 rfl (lv_at hl 1 rfl) ?_
        obtain ⟨g13, h⟩ := gx_if h
        obtain ⟨V4, g14, h⟩ := gx_lt h
        refine gx_asi (pc := 71) hx hb hK hP hS ((x0 + 1) + 5) 0 (cx_lt (to_Acc_slots (to_Mac_accounts hk0)) (by decide)) (fun _ => sh_arr cI cR b (n := 128) (to_Acc_slots (to_Mac_accounts hk0)) _) rfl g13 d_Mac_store_71 g14 (fun H locs hP hS => ?_)
        exact gx_vret hx hb hr hlk hP hS d_Mac_store_72 (by cases h; rfl) (by cases h; rfl)
  · have h := gx_pos g4 h
    refine lv_aload_n (pc := 17) hx hb d_Mac_store_17 rfl (lv_at hl 3 rfl) ?_
    obtain ⟨q4, g15, h⟩ := gx_bd h
    refine gx_cv (pc := 18) (va_runV (C := "GasLedger$Frame") (As := []) (rest := []) ⟨hx, hb, hml, hown, hts⟩ (k_Frm_fail l dC dI cI cR cZ b tP tN hk1 g15) (gx_cw 0 hts cd_Frm_fail tb_48 tb_397 tb_398 tb_399 rfl rfl ⟨by decide, by decide, by decide +kernel⟩ ⟨Nat.le_of_ble_eq_true rfl, Nat.le_of_ble_eq_true rfl⟩) (gy_preV (cx_XX b tP tN) hX hK hP hS (cx_lt hk1 (by decide)) (sh_Frm cI cR b hk1 _) rfl) rfl rfl hl.1 rfl (lv_room (Nat.le_of_ble_eq_true rfl)) d_Mac_store_18 ⟨Nat.zero_le _, Nat.zero_le _⟩) hS (fun H locs hP hS => ?_)
    exact gx_vret hx hb hr hlk hP hS d_Mac_store_21 (by cases h; rfl) (by cases h; rfl)
abbrev rm_Mac_canEnter : Room := { frames := 1, cells := 0, slots := 0, locals := 20 }
def F_Mac_canEnter (x0 : Nat) (x1 : Int32) (V : gx_M) : Option (Int32 × gx_M) := ((F_Led_isAccount x1 V).bind fun q1 => (if q1.1 = 0 then some ((0 : Int32), q1.2) else (if (8 : Int32) ≤ (q1.2 x0 3) then some ((0 : Int32), q1.2) else some ((1 : Int32), q1.2))))
set_option maxRecDepth 100000 in
set_option maxHeartbeats 8000000 in
theorem k_Mac_canEnter (l : Launch) (dC : Nat → ClassId) (dI : Nat → Nat → Nat) (cI cR cZ : ClassId) (b tP tN : Nat) {x0 : Nat} {x1 : Int32} {V : gx_M} {q : (Int32 × gx_M)} (hk0 : cx_kd x0 = 3) (h : F_Mac_canEnter x0 x1 V = some q) : cx_C l dC dI cI cR cZ b tP tN y_Mac_canEnter w_Mac_canEnter rm_Mac_canEnter [.ref (b + x0), .int x1] V (some (.int q.1)) q.2 := by
  refine gx_start (cc := b_Mac_canEnter) (maxL := 2) (ret := rt_Mac_canEnter) (by decide) rfl (Nat.le_of_ble_eq_true rfl) ?_
  intro p e s m args below meth c ls hx hb hr hts hown hlk hml hl hP hK hX hS
  have hts : ∀ w ∈ cx_tb, w.before args s = true := fun w hw => hts w (List.mem_cons_of_mem _ hw)
  have hown : s.vm.findClass "GasLedger$Machine" = some m.cls := hown
  have hl : lv_has ls 2 [(0, .ref (b + x0)), (1, .int x1)] := hl
  unfold F_Mac_canEnter at h
  refine lv_iload_n (pc := 0) hx hb d_Mac_canEnter_0 rfl (lv_at hl 1 rfl) ?_
  obtain ⟨q1, g1, h⟩ := gx_bd h
  refine gx_ci (pc := 1) (va_runSN (host := "GasLedger") (As := [.int x1]) (rest := []) ⟨hx, hb, hml, hown, hts⟩ (k_Led_isAccount l dC dI cI cR cZ b tP tN  g1) (gx_cn 1 hts cd_Led_isAccount tb_44 hX.2.2.2.2.2.2.2 tb_296 rfl rfl ⟨by decide, by decide, by decide +kernel⟩ ⟨Nat.le_of_ble_eq_true rfl, Nat.le_of_ble_eq_true rfl⟩) (gy_pre (cx_XX b tP tN) hX hK hP hS) rfl rfl hl.1 rfl (lv_room (Nat.le_of_ble_eq_true rfl)) d_Mac_canEnter_1 ⟨Nat.zero_le _, Nat.zero_le _⟩) hS (fun H locs hP hS => ?_)
  refine lv_if_eq (pc := 4) (tgt := 20) hx hb d_Mac_canEnter_4 (by decide) (fun g2 => ?_) (fun g2 => ?_)
  · have h := gx_pos g2 h
    refine lv_iconst (pc := 20) (v := (0 : Int32)) hx hb d_Mac_canEnter_20 (by decide) ?_
    exact gx_zret (free := fun _ => True) hx hb hr hlk hP hS d_Mac_canEnter_21 rfl (by cases h; rfl) (by cases h; rfl)
  · have h := gx_neg g2 h
    refine lv_aload_n (pc := 7) hx hb d_Mac_canEnter_7 rfl (lv_at hl 0 rfl) ?_
    refine va_get (pc := 8) (D := (dC, dI)) (ci := 3) (C := R_Mac) (T := T_Mac) (N := 6) hx hb hts in_Mac hown hK hP x0 (gx_at (cx_lt hk0 (by decide)) (sh_Mac cI cR b hk0 _)) rfl 3 (by decide) (hts _ tb_206) (fun _ h9 => h9) rfl d_Mac_canEnter_8 ?_
    refine lv_bipush (pc := 11) (v := (8 : Int32)) hx hb d_Mac_canEnter_11 (by decide) ?_
    refine lv_icmp_ge (pc := 13) (tgt := 20) hx hb d_Mac_canEnter_13 (by decide) (fun g3 => ?_) (fun g3 => ?_)
    · have h := gx_pos g3 h
      refine lv_iconst (pc := 20) (v := (0 : Int32)) hx hb d_Mac_canEnter_20 (by decide) ?_
      exact gx_zret (free := fun _ => True) hx hb hr hlk hP hS d_Mac_canEnter_21 rfl (by cases h; rfl) (by cases h; rfl)
    · have h := gx_neg g3 h
      refine lv_iconst (pc := 16) (v := (1 : Int32)) hx hb d_Mac_canEnter_16 (by decide) ?_
      refine lv_goto (pc := 17) (tgt := 21) hx hb d_Mac_canEnter_17 (by decide) ?_
      exact gx_zret (free := fun _ => True) hx hb hr hlk hP hS d_Mac_canEnter_21 rfl (by cases h; rfl) (by cases h; rfl)
abbrev rm_Frm_push : Room := { frames := 0, cells := 0, slots := 0, locals := 0 }
def F_Frm_push (x0 : Nat) (x1 : Int32) (V : gx_M) : Option gx_M := (if (12 : Int32) ≤ (V x0 8) then some V else (if gx_ib (V x0 8) 12 then (gx_let (gx_u V (x0 + 1) (V x0 8).toNatClampNeg x1) fun V1 => (gx_let (gx_u V1 x0 8 ((V1 x0 8) + (1 : Int32))) fun V2 => some V2)) else none))
set_option maxRecDepth 100000 in
set_option maxHeartbeats 8000000 in
theorem k_Frm_push (l : Launch) (dC : Nat → ClassId) (dI : Nat → Nat → Nat) (cI cR cZ : ClassId) (b tP tN : Nat) {x0 : Nat} {x1 : Int32} {V : gx_M} {q : gx_M} (hk0 : cx_kd x0 = 1) (h : F_Frm_push x0 x1 V = some q) : cx_C l dC dI cI cR cZ b tP tN y_Frm_push w_Frm_push rm_Frm_push [.ref (b + x0), .int x1] V none q := by
  refine gx_start (cc := b_Frm_push) (maxL := 2) (ret := rt_Frm_push) (by decide) rfl (Nat.le_of_ble_eq_true rfl) ?_
  intro p e s m args below meth c ls hx hb hr hts hown hlk hml hl hP hK hX hS
  have hts : ∀ w ∈ cx_tb, w.before args s = true := fun w hw => hts w (List.mem_cons_of_mem _ hw)
  have hown : s.vm.findClass "GasLedger$Frame" = some m.cls := hown
  have hl : lv_has ls 2 [(0, .ref (b + x0)), (1, .int x1)] := hl
  unfold F_Frm_push at h
  refine lv_aload_n (pc := 0) hx hb d_Frm_push_0 rfl (lv_at hl 0 rfl) ?_
  refine va_get (pc := 1) (D := (dC, dI)) (ci := 1) (C := R_Frm) (T := T_Frm) (N := 17) hx hb hts in_Frm hown hK hP x0 (gx_at (cx_lt hk0 (by decide)) (sh_Frm cI cR b hk0 _)) rfl 8 (by decide) (hts _ tb_150) (fun _ h9 => h9) rfl d_Frm_push_1 ?_
  refine lv_bipush (pc := 4) (v := (12 : Int32)) hx hb d_Frm_push_4 (by decide) ?_
  refine lv_icmp_ge (pc := 6) (tgt := 29) hx hb d_Frm_push_6 (by decide) (fun g1 => ?_) (fun g1 => ?_)
  · have h := gx_pos g1 h
    exact gx_vret hx hb hr hlk hP hS d_Frm_push_29 (by cases h; rfl) (by cases h; rfl)
  · have h := gx_neg g1 h
    refine lv_aload_n (pc := 9) hx hb d_Frm_push_9 rfl (lv_at hl 0 rfl) ?_
    refine va_get (pc := 10) (D := (dC, dI)) (ci := 1) (C := R_Frm) (T := T_Frm) (N := 17) hx hb hts in_Frm hown hK hP x0 (gx_at (cx_lt hk0 (by decide)) (sh_Frm cI cR b hk0 _)) rfl 7 (by decide) (hts _ tb_149) (fun _ h9 => h9) rfl d_Frm_push_10 ?_
    refine lv_aload_n (pc := 13) hx hb d_Frm_push_13 rfl (lv_at hl 0 rfl) ?_
    refine va_get (pc := 14) (D := (dC, dI)) (ci := 1) (C := R_Frm) (T := T_Frm) (N := 17) hx hb hts in_Frm hown hK hP x0 (gx_at (cx_lt hk0 (by decide)) (sh_Frm cI cR b hk0 _)) rfl 8 (by decide) (hts _ tb_150) (fun _ h9 => h9) rfl d_Frm_push_14 ?_
    refine lv_iload_n (pc := 17) hx hb d_Frm_push_17 rfl (lv_at hl 1 rfl) ?_
    obtain ⟨g2, h⟩ := gx_if h
    obtain ⟨V1, g3, h⟩ := gx_lt h
    refine gx_asi (pc := 18) hx hb hK hP hS (x0 + 1) 0 (cx_lt (to_Frm_stack hk0) (by decide)) (fun _ => sh_arr cI cR b (n := 12) (to_Frm_stack hk0) _) rfl g2 d_Frm_push_18 g3 (fun H locs hP hS => ?_)
    refine lv_aload_n (pc := 19) hx hb d_Frm_push_19 rfl (lv_at hl 0 rfl) ?_
    refine lv_dup (pc := 20) hx hb d_Frm_push_20 rfl ?_
    refine va_get (pc := 21) (D := (dC, dI)) (ci := 1) (C := R_Frm) (T := T_Frm) (N := 17) hx hb hts in_Frm hown hK hP x0 (gx_at (cx_lt hk0 (by decide)) (sh_Frm cI cR b hk0 _)) rfl 8 (by decide) (hts _ tb_150) (fun _ h9 => h9) rfl d_Frm_push_21 ?_
    refine lv_iconst (pc := 24) (v := (1 : Int32)) hx hb d_Frm_push_24 (by decide) ?_
    refine lv_iadd (pc := 25) hx hb d_Frm_push_25 ?_
    obtain ⟨V2, g4, h⟩ := gx_lt h
    refine gy_put (pc := 26) (D := (dC, dI)) (ci := 1) (C := R_Frm) (T := T_Frm) (NF := 17) (ty := .int) hx hb hts in_Frm t_Frm ty_Frm nm_Frm hown hK hP hS x0 (cx_lt hk0 (by decide)) (sh_Frm cI cR b hk0 _) rfl 8 (by decide) (hts _ tb_150) (fun _ h9 => h9) rfl (by decide +kernel) rfl rfl (Nat.le_of_ble_eq_true rfl) 8 (sh_Frm cI cR b hk0 _) d_Frm_push_26 g4 (fun H locs hP hS => ?_)
    exact gx_vret hx hb hr hlk hP hS d_Frm_push_29 (by cases h; rfl) (by cases h; rfl)
abbrev rm_Mac_pushNoFrame : Room := { frames := 1, cells := 0, slots := 0, locals := 21 }
def F_Mac_pushNoFrame (x0 : Nat) (x1 : Nat) (V : gx_M) : Option gx_M := ((F_Frm_push x1 (0 : Int32) V).bind fun q1 => ((F_Frm_push x1 (0 : Int32) q1).bind fun q2 => some q2))
set_option maxRecDepth 100000 in
set_option maxHeartbeats 8000000 in
theorem k_Mac_pushNoFrame (l : Launch) (dC : Nat → ClassId) (dI : Nat → Nat → Nat) (cI cR cZ : ClassId) (b tP tN : Nat) {x0 : Nat} {x1 : Nat} {V : gx_M} {q : gx_M} (hk0 : cx_kd x0 = 3) (hk1 : cx_kd x1 = 1) (h : F_Mac_pushNoFrame x0 x1 V = some q) : cx_C l dC dI cI cR cZ b tP tN y_Mac_pushNoFrame w_Mac_pushNoFrame rm_Mac_pushNoFrame [.ref (b + x0), .ref (b + x1)] V none q := by
  refine gx_start (cc := b_Mac_pushNoFrame) (maxL := 2) (ret := rt_Mac_pushNoFrame) (by decide) rfl (Nat.le_of_ble_eq_true rfl) ?_
  intro p e s m args below meth c ls hx hb hr hts hown hlk hml hl hP hK hX hS
  have hts : ∀ w ∈ cx_tb, w.before args s = true := fun w hw => hts w (List.mem_cons_of_mem _ hw)
  have hown : s.vm.findClass "GasLedger$Machine" = some m.cls := hown
  have hl : lv_has ls 2 [(0, .ref (b + x0)), (1, .ref (b + x1))] := hl
  unfold F_Mac_pushNoFrame at h
  refine lv_aload_n (pc := 0) hx hb d_Mac_pushNoFrame_0 rfl (lv_at hl 1 rfl) ?_
  refine lv_iconst (pc := 1) (v := (0 : Int32)) hx hb d_Mac_pushNoFrame_1 (by decide) ?_
  obtain ⟨q1, g1, h⟩ := gx_bd h
  refine gx_cv (pc := 2) (va_runV (C := "GasLedger$Frame") (As := [.int (0 : Int32)]) (rest := []) ⟨hx, hb, hml, hown, hts⟩ (k_Frm_push l dC dI cI cR cZ b tP tN hk1 g1) (gx_cw 1 hts cd_Frm_push tb_48 tb_440 tb_441 tb_442 rfl rfl ⟨by decide, by decide, by decide +kernel⟩ ⟨Nat.le_of_ble_eq_true rfl, Nat.le_of_ble_eq_true rfl⟩) (gy_preV (cx_XX b tP tN) hX hK hP hS (cx_lt hk1 (by decide)) (sh_Frm cI cR b hk1 _) rfl) rfl rfl hl.1 rfl (lv_room (Nat.le_of_ble_eq_true rfl)) d_Mac_pushNoFrame_2 ⟨Nat.zero_le _, Nat.zero_le _⟩) hS (fun H locs hP hS => ?_)
  refine lv_aload_n (pc := 5) hx hb d_Mac_pushNoFrame_5 rfl (lv_at hl 1 rfl) ?_
  refine lv_iconst (pc := 6) (v := (0 : Int32)) hx hb d_Mac_pushNoFrame_6 (by decide) ?_
  obtain ⟨q2, g2, h⟩ := gx_bd h
  refine gx_cv (pc := 7) (va_runV (C := "GasLedger$Frame") (As := [.int (0 : Int32)]) (rest := []) ⟨hx, hb, hml, hown, hts⟩ (k_Frm_push l dC dI cI cR cZ b tP tN hk1 g2) (gx_cw 1 hts cd_Frm_push tb_48 tb_440 tb_441 tb_442 rfl rfl ⟨by decide, by decide, by decide +kernel⟩ ⟨Nat.le_of_ble_eq_true rfl, Nat.le_of_ble_eq_true rfl⟩) (gy_preV (cx_XX b tP tN) hX hK hP hS (cx_lt hk1 (by decide)) (sh_Frm cI cR b hk1 _) rfl) rfl rfl hl.1 rfl (lv_room (Nat.le_of_ble_eq_true rfl)) d_Mac_pushNoFrame_7 ⟨Nat.zero_le _, Nat.zero_le _⟩) hS (fun H locs hP hS => ?_)
  exact gx_vret hx hb hr hlk hP hS d_Mac_pushNoFrame_10 (by cases h; rfl) (by cases h; rfl)
abbrev rm_Mac_takeGas : Room := { frames := 1, cells := 0, slots := 0, locals := 64 }
def F_Mac_takeGas (x0 : Nat) (x1 : Nat) (x2 : Int32) (V : gx_M) : Option (Int32 × gx_M) := (gx_let (gx_u V x1 6 ((V x1 6) - (if (V x1 6) < (if x2 < (0 : Int32) then (0 : Int32) else x2) then (V x1 6) else (if x2 < (0 : Int32) then (0 : Int32) else x2)))) fun V1 => some ((if (V x1 6) < (if x2 < (0 : Int32) then (0 : Int32) else x2) then (V x1 6) else (if x2 < (0 : Int32) then (0 : Int32) else x2)), V1))
set_option maxRecDepth 100000 in
set_option maxHeartbeats 8000000 in
theorem k_Mac_takeGas (l : Launch) (dC : Nat → ClassId) (dI : Nat → Nat → Nat) (cI cR cZ : ClassId) (b tP tN : Nat) {x0 : Nat} {x1 : Nat} {x2 : Int32} {V : gx_M} {q : (Int32 × gx_M)} (hk0 : cx_kd x0 = 3) (hk1 : cx_kd x1 = 1) (h : F_Mac_takeGas x0 x1 x2 V = some q) : cx_C l dC dI cI cR cZ b tP tN y_Mac_takeGas w_Mac_takeGas rm_Mac_takeGas [.ref (b + x0), .ref (b + x1), .int x2] V (some (.int q.1)) q.2 := by
  refine gx_start (cc := b_Mac_takeGas) (maxL := 4) (ret := rt_Mac_takeGas) (by decide) rfl (Nat.le_of_ble_eq_true rfl) ?_
  intro p e s m args below meth c ls hx hb hr hts hown hlk hml hl hP hK hX hS
  have hts : ∀ w ∈ cx_tb, w.before args s = true := fun w hw => hts w (List.mem_cons_of_mem _ hw)
  have hown : s.vm.findClass "GasLedger$Machine" = some m.cls := hown
  have hl : lv_has ls 4 [(0, .ref (b + x0)), (1, .ref (b + x1)), (2, .int x2)] := hl
  unfold F_Mac_takeGas at h
  refine lv_iload_n (pc := 0) hx hb d_Mac_takeGas_0 rfl (lv_at hl 2 rfl) ?_
  refine lv_iconst (pc := 1) (v := (0 : Int32)) hx hb d_Mac_takeGas_1 (by decide) ?_
  refine va_mmax (pc := 2) hx hb (hml.trans hl.1.symm) hown (hts _ tb_386) (hts _ tb_387) (hts _ tb_52) (hts _ tm_max) (Nat.le_of_ble_eq_true rfl) (Nat.le_of_ble_eq_true rfl) (Nat.zero_le _) (Nat.zero_le _) d_Mac_takeGas_2 ?_
  refine lv_aload_n (pc := 5) hx hb d_Mac_takeGas_5 rfl (lv_at hl 1 rfl) ?_
  refine va_get (pc := 6) (D := (dC, dI)) (ci := 1) (C := R_Frm) (T := T_Frm) (N := 17) hx hb hts in_Frm hown hK hP x1 (gx_at (cx_lt hk1 (by decide)) (sh_Frm cI cR b hk1 _)) rfl 6 (by decide) (hts _ tb_147) (fun _ h9 => h9) rfl d_Mac_takeGas_6 ?_
  refine va_mmin (pc := 9) hx hb (hml.trans hl.1.symm) hown (hts _ tb_383) (hts _ tb_384) (hts _ tb_52) (hts _ tm_min) (Nat.le_of_ble_eq_true rfl) (Nat.le_of_ble_eq_true rfl) (Nat.zero_le _) (Nat.zero_le _) d_Mac_takeGas_9 ?_
  refine lv_istore_n (pc := 12) (lv' := [(3, .int (if (V x1 6) < (if x2 < (0 : Int32) then (0 : Int32) else x2) then (V x1 6) else (if x2 < (0 : Int32) then (0 : Int32) else x2))), (0, .ref (b + x0)), (1, .ref (b + x1)), (2, .int x2)]) hx hb d_Mac_takeGas_12 rfl hl (by decide) rfl (fun ls hl => ?_)
  refine lv_aload_n (pc := 13) hx hb d_Mac_takeGas_13 rfl (lv_at hl 2 rfl) ?_
  refine lv_dup (pc := 14) hx hb d_Mac_takeGas_14 rfl ?_
  refine va_get (pc := 15) (D := (dC, dI)) (ci := 1) (C := R_Frm) (T := T_Frm) (N := 17) hx hb hts in_Frm hown hK hP x1 (gx_at (cx_lt hk1 (by decide)) (sh_Frm cI cR b hk1 _)) rfl 6 (by decide) (hts _ tb_147) (fun _ h9 => h9) rfl d_Mac_takeGas_15 ?_
  refine lv_iload_n (pc := 18) hx hb d_Mac_takeGas_18 rfl (lv_at hl 0 rfl) ?_
  refine lv_isub (pc := 19) hx hb d_Mac_takeGas_19 ?_
  obtain ⟨V1, g1, h⟩ := gx_lt h
  refine gy_put (pc := 20) (D := (dC, dI)) (ci := 1) (C := R_Frm) (T := T_Frm) (NF := 17) (ty := .int) hx hb hts in_Frm t_Frm ty_Frm nm_Frm hown hK hP hS x1 (cx_lt hk1 (by decide)) (sh_Frm cI cR b hk1 _) rfl 6 (by decide) (hts _ tb_147) (fun _ h9 => h9) rfl (by decide +kernel) rfl rfl (Nat.le_of_ble_eq_true rfl) 6 (sh_Frm cI cR b hk1 _) d_Mac_takeGas_20 g1 (fun H locs hP hS => ?_)
  refine lv_iload_n (pc := 23) hx hb d_Mac_takeGas_23 rfl (lv_at hl 0 rfl) ?_
  exact gx_iret (free := fun _ => True) hx hb hr hlk hP hS d_Mac_takeGas_24 (by cases h; rfl) (by cases h; rfl)
