abbrev rm_Mod_in : Room := { frames := 0, cells := 0, slots := 0, locals := 0 }
def F_Mod_in (x0 : Int32) (x1 : Int32) (V : gx_M) : Option (Int32 × gx_M) := (if x0 < 0 then some ((0 : Int32), V) else (if x1 ≤ x0 then some ((0 : Int32), V) else some ((1 : Int32), V)))
set_option maxRecDepth 100000 in
set_option maxHeartbeats 8000000 in
theorem k_Mod_in (l : Launch) (dC : Nat → ClassId) (dI : Nat → Nat → Nat) (cI cR cZ : ClassId) (b tP tN : Nat) {x0 : Int32} {x1 : Int32} {V : gx_M} {q : (Int32 × gx_M)}  (h : F_Mod_in x0 x1 V = some q) : mx_C l dC dI cI cR cZ b tP tN y_Mod_in w_Mod_in rm_Mod_in [.int x0, .int x1] V (some (.int q.1)) q.2 := by
  refine gx_start (cc := b_Mod_in) (maxL := 2) (ret := rt_Mod_in) (by decide) rfl (Nat.le_of_ble_eq_true rfl) ?_
  intro p e s m args below meth c ls hx hb hr hts hown hlk hml hl hP hK hX hS
  have hts : ∀ w ∈ cx_tb, w.before args s = true := fun w hw => hts w (List.mem_cons_of_mem _ hw)
  have hown : s.vm.findClass "GasLedgerModel" = some m.cls := hown
  have hl : lv_has ls 2 [(0, .int x0), (1, .int x1)] := hl
  unfold F_Mod_in at h
  refine lv_iload_n (pc := 0) hx hb d_Mod_in_0 rfl (lv_at hl 0 rfl) ?_
  refine lv_if_lt (pc := 1) (tgt := 13) hx hb d_Mod_in_1 (by decide) (fun g1 => ?_) (fun g1 => ?_)
  · have h := gx_pos g1 h
    refine lv_iconst (pc := 13) (v := (0 : Int32)) hx hb d_Mod_in_13 (by decide) ?_
    exact gx_zret (free := fun _ => True) hx hb hr hlk hP hS d_Mod_in_14 rfl (by cases h; rfl) (by cases h; rfl)
  · have h := gx_neg g1 h
    refine lv_iload_n (pc := 4) hx hb d_Mod_in_4 rfl (lv_at hl 0 rfl) ?_
    refine lv_iload_n (pc := 5) hx hb d_Mod_in_5 rfl (lv_at hl 1 rfl) ?_
    refine lv_icmp_ge (pc := 6) (tgt := 13) hx hb d_Mod_in_6 (by decide) (fun g2 => ?_) (fun g2 => ?_)
    · have h := gx_pos g2 h
      refine lv_iconst (pc := 13) (v := (0 : Int32)) hx hb d_Mod_in_13 (by decide) ?_
      exact gx_zret (free := fun _ => True) hx hb hr hlk hP hS d_Mod_in_14 rfl (by cases h; rfl) (by cases h; rfl)
    · have h := gx_neg g2 h
      refine lv_iconst (pc := 9) (v := (1 : Int32)) hx hb d_Mod_in_9 (by decide) ?_
      refine lv_goto (pc := 10) (tgt := 14) hx hb d_Mod_in_10 (by decide) ?_
      exact gx_zret (free := fun _ => True) hx hb hr hlk hP hS d_Mod_in_14 rfl (by cases h; rfl) (by cases h; rfl)
abbrev rm_Mod_fund : Room := { frames := 1, cells := 0, slots := 0, locals := 21 }
def F_Mod_fund (x0 : Nat) (x1 : Int32) (x2 : Int32) (V : gx_M) : Option (Int32 × gx_M) := ((F_Mod_in x1 (16 : Int32) V).bind fun q1 => (if q1.1 = 0 then some ((0 : Int32), q1.2) else ((F_Mod_in x2 (1000001 : Int32) q1.2).bind fun q2 => (if q2.1 = 0 then some ((0 : Int32), q2.2) else (if (q2.2 x0 3) ≤ 0 then (if gx_ib ((36 : Int32) * x1) 576 then (if gx_ib ((36 : Int32) * x1) 576 then (gx_let (gx_u q2.2 (x0 + 1) ((36 : Int32) * x1).toNatClampNeg ((q2.2 (x0 + 1) ((36 : Int32) * x1).toNatClampNeg) + x2)) fun V1 => some ((1 : Int32), V1)) else none) else none) else some ((0 : Int32), q2.2))))))
set_option maxRecDepth 100000 in
set_option maxHeartbeats 8000000 in
theorem k_Mod_fund (l : Launch) (dC : Nat → ClassId) (dI : Nat → Nat → Nat) (cI cR cZ : ClassId) (b tP tN : Nat) {x0 : Nat} {x1 : Int32} {x2 : Int32} {V : gx_M} {q : (Int32 × gx_M)} (hk0 : mx_kd x0 = 6) (h : F_Mod_fund x0 x1 x2 V = some q) : mx_C l dC dI cI cR cZ b tP tN y_Mod_fund w_Mod_fund rm_Mod_fund [.ref (b + x0), .int x1, .int x2] V (some (.int q.1)) q.2 := by
  refine gx_start (cc := b_Mod_fund) (maxL := 3) (ret := rt_Mod_fund) (by decide) rfl (Nat.le_of_ble_eq_true rfl) ?_
  intro p e s m args below meth c ls hx hb hr hts hown hlk hml hl hP hK hX hS
  have hts : ∀ w ∈ cx_tb, w.before args s = true := fun w hw => hts w (List.mem_cons_of_mem _ hw)
  have hown : s.vm.findClass "GasLedgerModel" = some m.cls := hown
  have hl : lv_has ls 3 [(0, .ref (b + x0)), (1, .int x1), (2, .int x2)] := hl
  unfold F_Mod_fund at h
  refine lv_iload_n (pc := 0) hx hb d_Mod_fund_0 rfl (lv_at hl 1 rfl) ?_
  refine lv_bipush (pc := 1) (v := (16 : Int32)) hx hb d_Mod_fund_1 (by decide) ?_
  obtain ⟨q1, g1, h⟩ := gx_bd h
  refine gx_ci (pc := 3) (va_runS (As := [.int x1, .int (16 : Int32)]) (rest := []) ⟨hx, hb, hml, hown, hts⟩ (k_Mod_in l dC dI cI cR cZ b tP tN  g1) (gx_cs 2 hts cd_Mod_in tb_50 tb_724 tb_725 rfl rfl ⟨by decide, by decide, by decide +kernel⟩ ⟨Nat.le_of_ble_eq_true rfl, Nat.le_of_ble_eq_true rfl⟩) (gy_pre (mx_XX b) hX hK hP hS) rfl rfl hl.1 rfl (lv_room (Nat.le_of_ble_eq_true rfl)) d_Mod_fund_3 ⟨Nat.zero_le _, Nat.zero_le _⟩) hS (fun H locs hP hS => ?_)
  refine lv_if_eq (pc := 6) (tgt := 25) hx hb d_Mod_fund_6 (by decide) (fun g2 => ?_) (fun g2 => ?_)
  · have h := gx_pos g2 h
    refine lv_iconst (pc := 25) (v := (0 : Int32)) hx hb d_Mod_fund_25 (by decide) ?_
    exact gx_zret (free := fun _ => True) hx hb hr hlk hP hS d_Mod_fund_26 rfl (by cases h; rfl) (by cases h; rfl)
  · have h := gx_neg g2 h
    refine lv_iload_n (pc := 9) hx hb d_Mod_fund_9 rfl (lv_at hl 2 rfl) ?_
    refine lv_ldc (pc := 10) (v := (1000001 : Int32)) hx hb hown (hts _ tb_727) d_Mod_fund_10 ?_
    obtain ⟨q2, g3, h⟩ := gx_bd h
    refine gx_ci (pc := 12) (va_runS (As := [.int x2, .int (1000001 : Int32)]) (rest := []) ⟨hx, hb, hml, hown, hts⟩ (k_Mod_in l dC dI cI cR cZ b tP tN  g3) (gx_cs 2 hts cd_Mod_in tb_50 tb_724 tb_725 rfl rfl ⟨by decide, by decide, by decide +kernel⟩ ⟨Nat.le_of_ble_eq_true rfl, Nat.le_of_ble_eq_true rfl⟩) (gy_pre (mx_XX b) hX hK hP hS) rfl rfl hl.1 rfl (lv_room (Nat.le_of_ble_eq_true rfl)) d_Mod_fund_12 ⟨Nat.zero_le _, Nat.zero_le _⟩) hS (fun H locs hP hS => ?_)
    refine lv_if_eq (pc := 15) (tgt := 25) hx hb d_Mod_fund_15 (by decide) (fun g4 => ?_) (fun g4 => ?_)
    · have h := gx_pos g4 h
      refine lv_iconst (pc := 25) (v := (0 : Int32)) hx hb d_Mod_fund_25 (by decide) ?_
      exact gx_zret (free := fun _ => True) hx hb hr hlk hP hS d_Mod_fund_26 rfl (by cases h; rfl) (by cases h; rfl)
    · have h := gx_neg g4 h
      refine lv_aload_n (pc := 18) hx hb d_Mod_fund_18 rfl (lv_at hl 0 rfl) ?_
      refine va_get (pc := 19) (D := (dC, dI)) (ci := 6) (C := R_Mod) (T := T_Mod) (N := 39) hx hb hts in_Mod hown hK hP x0 (gx_at (mx_lt hk0 (by decide)) (sh_Mod cI cZ b hk0 _)) rfl 3 (by decide) (hts _ tb_604) (fun _ h9 => h9) rfl d_Mod_fund_19 ?_
      refine lv_if_le (pc := 22) (tgt := 27) hx hb d_Mod_fund_22 (by decide) (fun g5 => ?_) (fun g5 => ?_)
      · have h := gx_pos g5 h
        refine lv_aload_n (pc := 27) hx hb d_Mod_fund_27 rfl (lv_at hl 0 rfl) ?_
        refine va_get (pc := 28) (D := (dC, dI)) (ci := 6) (C := R_Mod) (T := T_Mod) (N := 39) hx hb hts in_Mod hown hK hP x0 (gx_at (mx_lt hk0 (by decide)) (sh_Mod cI cZ b hk0 _)) rfl 0 (by decide) (hts _ tb_601) (fun _ h9 => h9) rfl d_Mod_fund_28 ?_
        refine lv_bipush (pc := 31) (v := (36 : Int32)) hx hb d_Mod_fund_31 (by decide) ?_
        refine lv_iload_n (pc := 33) hx hb d_Mod_fund_33 rfl (lv_at hl 1 rfl) ?_
        refine lv_imul (pc := 34) hx hb d_Mod_fund_34 ?_
        refine lv_dup2_11 (pc := 35) hx hb d_Mod_fund_35 rfl rfl ?_
        obtain ⟨g6, h⟩ := gx_if h
        refine va_iald (pc := 36) hx hb hK hP (x0 + 1) 0 (gx_at (mx_lt (to_Mod_now hk0) (by decide)) (mh_arr cI cZ b (n := 576) (to_Mod_now hk0) (by decide) _)) rfl g6 d_Mod_fund_36 ?_
        refine lv_iload_n (pc := 37) hx hb d_Mod_fund_37 rfl (lv_at hl 2 rfl) ?_
        refine lv_iadd (pc := 38) hx hb d_Mod_fund_38 ?_
        obtain ⟨g7, h⟩ := gx_if h
        obtain ⟨V1, g8, h⟩ := gx_lt h
        refine gx_asi (pc := 39) hx hb hK hP hS (x0 + 1) 0 (mx_lt (to_Mod_now hk0) (by decide)) (fun _ => mh_arr cI cZ b (n := 576) (to_Mod_now hk0) (by decide) _) rfl g7 d_Mod_fund_39 g8 (fun H locs hP hS => ?_)
        refine lv_iconst (pc := 40) (v := (1 : Int32)) hx hb d_Mod_fund_40 (by decide) ?_
        exact gx_zret (free := fun _ => True) hx hb hr hlk hP hS d_Mod_fund_41 rfl (by cases h; rfl) (by cases h; rfl)
      · have h := gx_neg g5 h
        refine lv_iconst (pc := 25) (v := (0 : Int32)) hx hb d_Mod_fund_25 (by decide) ?_
        exact gx_zret (free := fun _ => True) hx hb hr hlk hP hS d_Mod_fund_26 rfl (by cases h; rfl) (by cases h; rfl)
abbrev rm_Mod_code : Room := { frames := 1, cells := 0, slots := 0, locals := 21 }
def F_Mod_code (x0 : Nat) (x1 : Int32) (x2 : Int32) (V : gx_M) : Option (Int32 × gx_M) := ((F_Mod_in x1 (16 : Int32) V).bind fun q1 => (if q1.1 = 0 then some ((0 : Int32), q1.2) else (if 0 < (q1.2 x0 3) then some ((0 : Int32), q1.2) else (if gx_ib (((36 : Int32) * x1) + (2 : Int32)) 576 then (if (q1.2 (x0 + 1) (((36 : Int32) * x1) + (2 : Int32)).toNatClampNeg) = (24 : Int32) then some ((0 : Int32), q1.2) else (if gx_ib (((36 : Int32) * x1) + (2 : Int32)) 576 then (if gx_ib ((((36 : Int32) * x1) + (3 : Int32)) + (q1.2 (x0 + 1) (((36 : Int32) * x1) + (2 : Int32)).toNatClampNeg)) 576 then (gx_let (gx_u q1.2 (x0 + 1) ((((36 : Int32) * x1) + (3 : Int32)) + (q1.2 (x0 + 1) (((36 : Int32) * x1) + (2 : Int32)).toNatClampNeg)).toNatClampNeg x2) fun V1 => (if gx_ib (((36 : Int32) * x1) + (2 : Int32)) 576 then (if gx_ib (((36 : Int32) * x1) + (2 : Int32)) 576 then (gx_let (gx_u V1 (x0 + 1) (((36 : Int32) * x1) + (2 : Int32)).toNatClampNeg ((V1 (x0 + 1) (((36 : Int32) * x1) + (2 : Int32)).toNatClampNeg) + (1 : Int32))) fun V2 => some ((1 : Int32), V2)) else none) else none)) else none) else none)) else none))))
set_option maxRecDepth 100000 in
set_option maxHeartbeats 8000000 in
theorem k_Mod_code (l : Launch) (dC : Nat → ClassId) (dI : Nat → Nat → Nat) (cI cR cZ : ClassId) (b tP tN : Nat) {x0 : Nat} {x1 : Int32} {x2 : Int32} {V : gx_M} {q : (Int32 × gx_M)} (hk0 : mx_kd x0 = 6) (h : F_Mod_code x0 x1 x2 V = some q) : mx_C l dC dI cI cR cZ b tP tN y_Mod_code w_Mod_code rm_Mod_code [.ref (b + x0), .int x1, .int x2] V (some (.int q.1)) q.2 := by
  refine gx_start (cc := b_Mod_code) (maxL := 4) (ret := rt_Mod_code) (by decide) rfl (Nat.le_of_ble_eq_true rfl) ?_
  intro p e s m args below meth c ls hx hb hr hts hown hlk hml hl hP hK hX hS
  have hts : ∀ w ∈ cx_tb, w.before args s = true := fun w hw => hts w (List.mem_cons_of_mem _ hw)
  have hown : s.vm.findClass "GasLedgerModel" = some m.cls := hown
  have hl : lv_has ls 4 [(0, .ref (b + x0)), (1, .int x1), (2, .int x2)] := hl
  unfold F_Mod_code at h
  refine lv_iload_n (pc := 0) hx hb d_Mod_code_0 rfl (lv_at hl 1 rfl) ?_
  refine lv_bipush (pc := 1) (v := (16 : Int32)) hx hb d_Mod_code_1 (by decide) ?_
  obtain ⟨q1, g1, h⟩ := gx_bd h
  refine gx_ci (pc := 3) (va_runS (As := [.int x1, .int (16 : Int32)]) (rest := []) ⟨hx, hb, hml, hown, hts⟩ (k_Mod_in l dC dI cI cR cZ b tP tN  g1) (gx_cs 2 hts cd_Mod_in tb_50 tb_724 tb_725 rfl rfl ⟨by decide, by decide, by decide +kernel⟩ ⟨Nat.le_of_ble_eq_true rfl, Nat.le_of_ble_eq_true rfl⟩) (gy_pre (mx_XX b) hX hK hP hS) rfl rfl hl.1 rfl (lv_room (Nat.le_of_ble_eq_true rfl)) d_Mod_code_3 ⟨Nat.zero_le _, Nat.zero_le _⟩) hS (fun H locs hP hS => ?_)
  refine lv_if_eq (pc := 6) (tgt := 32) hx hb d_Mod_code_6 (by decide) (fun g2 => ?_) (fun g2 => ?_)
  · have h := gx_pos g2 h
    refine lv_iconst (pc := 32) (v := (0 : Int32)) hx hb d_Mod_code_32 (by decide) ?_
    exact gx_zret (free := fun _ => True) hx hb hr hlk hP hS d_Mod_code_33 rfl (by cases h; rfl) (by cases h; rfl)
  · have h := gx_neg g2 h
    refine lv_aload_n (pc := 9) hx hb d_Mod_code_9 rfl (lv_at hl 0 rfl) ?_
    refine va_get (pc := 10) (D := (dC, dI)) (ci := 6) (C := R_Mod) (T := T_Mod) (N := 39) hx hb hts in_Mod hown hK hP x0 (gx_at (mx_lt hk0 (by decide)) (sh_Mod cI cZ b hk0 _)) rfl 3 (by decide) (hts _ tb_604) (fun _ h9 => h9) rfl d_Mod_code_10 ?_
    refine lv_if_gt (pc := 13) (tgt := 32) hx hb d_Mod_code_13 (by decide) (fun g3 => ?_) (fun g3 => ?_)
    · have h := gx_pos g3 h
      refine lv_iconst (pc := 32) (v := (0 : Int32)) hx hb d_Mod_code_32 (by decide) ?_
      exact gx_zret (free := fun _ => True) hx hb hr hlk hP hS d_Mod_code_33 rfl (by cases h; rfl) (by cases h; rfl)
    · have h := gx_neg g3 h
      refine lv_aload_n (pc := 16) hx hb d_Mod_code_16 rfl (lv_at hl 0 rfl) ?_
      refine va_get (pc := 17) (D := (dC, dI)) (ci := 6) (C := R_Mod) (T := T_Mod) (N := 39) hx hb hts in_Mod hown hK hP x0 (gx_at (mx_lt hk0 (by decide)) (sh_Mod cI cZ b hk0 _)) rfl 0 (by decide) (hts _ tb_601) (fun _ h9 => h9) rfl d_Mod_code_17 ?_
      refine lv_bipush (pc := 20) (v := (36 : Int32)) hx hb d_Mod_code_20 (by decide) ?_
      refine lv_iload_n (pc := 22) hx hb d_Mod_code_22 rfl (lv_at hl 1 rfl) ?_
      refine lv_imul (pc := 23) hx hb d_Mod_code_23 ?_
      refine lv_iconst (pc := 24) (v := (2 : Int32)) hx hb d_Mod_code_24 (by decide) ?_
      refine lv_iadd (pc := 25) hx hb d_Mod_code_25 ?_
      obtain ⟨g4, h⟩ := gx_if h
      refine va_iald (pc := 26) hx hb hK hP (x0 + 1) 0 (gx_at (mx_lt (to_Mod_now hk0) (by decide)) (mh_arr cI cZ b (n := 576) (to_Mod_now hk0) (by decide) _)) rfl g4 d_Mod_code_26 ?_
      refine lv_bipush (pc := 27) (v := (24 : Int32)) hx hb d_Mod_code_27 (by decide) ?_
      refine lv_icmp_ne (pc := 29) (tgt := 34) hx hb d_Mod_code_29 (by decide) (fun g5 => ?_) (fun g5 => ?_)
      · have h := gx_neg g5 h
        refine lv_aload_n (pc := 34) hx hb d_Mod_code_34 rfl (lv_at hl 0 rfl) ?_
        refine va_get (pc := 35) (D := (dC, dI)) (ci := 6) (C := R_Mod) (T := T_Mod) (N := 39) hx hb hts in_Mod hown hK hP x0 (gx_at (mx_lt hk0 (by decide)) (sh_Mod cI cZ b hk0 _)) rfl 0 (by decide) (hts _ tb_601) (fun _ h9 => h9) rfl d_Mod_code_35 ?_
        refine lv_bipush (pc := 38) (v := (36 : Int32)) hx hb d_Mod_code_38 (by decide) ?_
        refine lv_iload_n (pc := 40) hx hb d_Mod_code_40 rfl (lv_at hl 1 rfl) ?_
        refine lv_imul (pc := 41) hx hb d_Mod_code_41 ?_
        refine lv_iconst (pc := 42) (v := (2 : Int32)) hx hb d_Mod_code_42 (by decide) ?_
        refine lv_iadd (pc := 43) hx hb d_Mod_code_43 ?_
        obtain ⟨g6, h⟩ := gx_if h
        refine va_iald (pc := 44) hx hb hK hP (x0 + 1) 0 (gx_at (mx_lt (to_Mod_now hk0) (by decide)) (mh_arr cI cZ b (n := 576) (to_Mod_now hk0) (by decide) _)) rfl g6 d_Mod_code_44 ?_
        refine lv_istore_n (pc := 45) (lv' := [(3, .int (q1.2 (x0 + 1) (((36 : Int32) * x1) + (2 : Int32)).toNatClampNeg)), (0, .ref (b + x0)), (1, .int x1), (2, .int x2)]) hx hb d_Mod_code_45 rfl hl (by decide) rfl (fun ls hl => ?_)
        refine lv_aload_n (pc := 46) hx hb d_Mod_code_46 rfl (lv_at hl 1 rfl) ?_
        refine va_get (pc := 47) (D := (dC, dI)) (ci := 6) (C := R_Mod) (T := T_Mod) (N := 39) hx hb hts in_Mod hown hK hP x0 (gx_at (mx_lt hk0 (by decide)) (sh_Mod cI cZ b hk0 _)) rfl 0 (by decide) (hts _ tb_601) (fun _ h9 => h9) rfl d_Mod_code_47 ?_
        refine lv_bipush (pc := 50) (v := (36 : Int32)) hx hb d_Mod_code_50 (by decide) ?_
        refine lv_iload_n (pc := 52) hx hb d_Mod_code_52 rfl (lv_at hl 2 rfl) ?_
        refine lv_imul (pc := 53) hx hb d_Mod_code_53 ?_
        refine lv_iconst (pc := 54) (v := (3 : Int32)) hx hb d_Mod_code_54 (by decide) ?_
        refine lv_iadd (pc := 55) hx hb d_Mod_code_55 ?_
        refine lv_iload_n (pc := 56) hx hb d_Mod_code_56 rfl (lv_at hl 0 rfl) ?_
        refine lv_iadd (pc := 57) hx hb d_Mod_code_57 ?_
        refine lv_iload_n (pc := 58) hx hb d_Mod_code_58 rfl (lv_at hl 3 rfl) ?_
        obtain ⟨g7, h⟩ := gx_if h
        obtain ⟨V1, g8, h⟩ := gx_lt h
        refine gx_asi (pc := 59) hx hb hK hP hS (x0 + 1) 0 (mx_lt (to_Mod_now hk0) (by decide)) (fun _ => mh_arr cI cZ b (n := 576) (to_Mod_now hk0) (by decide) _) rfl g7 d_Mod_code_59 g8 (fun H locs hP hS => ?_)
        refine lv_aload_n (pc := 60) hx hb d_Mod_code_60 rfl (lv_at hl 1 rfl) ?_
        refine va_get (pc := 61) (D := (dC, dI)) (ci := 6) (C := R_Mod) (T := T_Mod) (N := 39) hx hb hts in_Mod hown hK hP x0 (gx_at (mx_lt hk0 (by decide)) (sh_Mod cI cZ b hk0 _)) rfl 0 (by decide) (hts _ tb_601) (fun _ h9 => h9) rfl d_Mod_code_61 ?_
        refine lv_bipush (pc := 64) (v := (36 : Int32)) hx hb d_Mod_code_64 (by decide) ?_
        refine lv_iload_n (pc := 66) hx hb d_Mod_code_66 rfl (lv_at hl 2 rfl) ?_
        refine lv_imul (pc := 67) hx hb d_Mod_code_67 ?_
        refine lv_iconst (pc := 68) (v := (2 : Int32)) hx hb d_Mod_code_68 (by decide) ?_
        refine lv_iadd (pc := 69) hx hb d_Mod_code_69 ?_
        refine lv_dup2_11 (pc := 70) hx hb d_Mod_code_70 rfl rfl ?_
        obtain ⟨g9, h⟩ := gx_if h
        refine va_iald (pc := 71) hx hb hK hP (x0 + 1) 0 (gx_at (mx_lt (to_Mod_now hk0) (by decide)) (mh_arr cI cZ b (n := 576) (to_Mod_now hk0) (by decide) _)) rfl g9 d_Mod_code_71 ?_
        refine lv_iconst (pc := 72) (v := (1 : Int32)) hx hb d_Mod_code_72 (by decide) ?_
        refine lv_iadd (pc := 73) hx hb d_Mod_code_73 ?_
        obtain ⟨g10, h⟩ := gx_if h
        obtain ⟨V2, g11, h⟩ := gx_lt h
        refine gx_asi (pc := 74) hx hb hK hP hS (x0 + 1) 0 (mx_lt (to_Mod_now hk0) (by decide)) (fun _ => mh_arr cI cZ b (n := 576) (to_Mod_now hk0) (by decide) _) rfl g10 d_Mod_code_74 g11 (fun H locs hP hS => ?_)
        refine lv_iconst (pc := 75) (v := (1 : Int32)) hx hb d_Mod_code_75 (by decide) ?_
        exact gx_zret (free := fun _ => True) hx hb hr hlk hP hS d_Mod_code_76 rfl (by cases h; rfl) (by cases h; rfl)
      · have h := gx_pos g5 h
        refine lv_iconst (pc := 32) (v := (0 : Int32)) hx hb d_Mod_code_32 (by decide) ?_
        exact gx_zret (free := fun _ => True) hx hb hr hlk hP hS d_Mod_code_33 rfl (by cases h; rfl) (by cases h; rfl)
abbrev rm_Mod_preset : Room := { frames := 1, cells := 0, slots := 0, locals := 21 }
def F_Mod_preset (x0 : Nat) (x1 : Int32) (x2 : Int32) (x3 : Int32) (V : gx_M) : Option (Int32 × gx_M) := ((F_Mod_in x1 (16 : Int32) V).bind fun q1 => (if q1.1 = 0 then some ((0 : Int32), q1.2) else ((F_Mod_in x2 (8 : Int32) q1.2).bind fun q2 => (if q2.1 = 0 then some ((0 : Int32), q2.2) else (if (q2.2 x0 3) ≤ 0 then (if gx_ib ((((36 : Int32) * x1) + (27 : Int32)) + x2) 576 then (gx_let (gx_u q2.2 (x0 + 1) ((((36 : Int32) * x1) + (27 : Int32)) + x2).toNatClampNeg x3) fun V1 => some ((1 : Int32), V1)) else none) else some ((0 : Int32), q2.2))))))
set_option maxRecDepth 100000 in
set_option maxHeartbeats 8000000 in
theorem k_Mod_preset (l : Launch) (dC : Nat → ClassId) (dI : Nat → Nat → Nat) (cI cR cZ : ClassId) (b tP tN : Nat) {x0 : Nat} {x1 : Int32} {x2 : Int32} {x3 : Int32} {V : gx_M} {q : (Int32 × gx_M)} (hk0 : mx_kd x0 = 6) (h : F_Mod_preset x0 x1 x2 x3 V = some q) : mx_C l dC dI cI cR cZ b tP tN y_Mod_preset w_Mod_preset rm_Mod_preset [.ref (b + x0), .int x1, .int x2, .int x3] V (some (.int q.1)) q.2 := by
  refine gx_start (cc := b_Mod_preset) (maxL := 4) (ret := rt_Mod_preset) (by decide) rfl (Nat.le_of_ble_eq_true rfl) ?_
  intro p e s m args below meth c ls hx hb hr hts hown hlk hml hl hP hK hX hS
  have hts : ∀ w ∈ cx_tb, w.before args s = true := fun w hw => hts w (List.mem_cons_of_mem _ hw)
  have hown : s.vm.findClass "GasLedgerModel" = some m.cls := hown
  have hl : lv_has ls 4 [(0, .ref (b + x0)), (1, .int x1), (2, .int x2), (3, .int x3)] := hl
  unfold F_Mod_preset at h
  refine lv_iload_n (pc := 0) hx hb d_Mod_preset_0 rfl (lv_at hl 1 rfl) ?_
  refine lv_bipush (pc := 1) (v := (16 : Int32)) hx hb d_Mod_preset_1 (by decide) ?_
  obtain ⟨q1, g1, h⟩ := gx_bd h
  refine gx_ci (pc := 3) (va_runS (As := [.int x1, .int (16 : Int32)]) (rest := []) ⟨hx, hb, hml, hown, hts⟩ (k_Mod_in l dC dI cI cR cZ b tP tN  g1) (gx_cs 2 hts cd_Mod_in tb_50 tb_724 tb_725 rfl rfl ⟨by decide, by decide, by decide +kernel⟩ ⟨Nat.le_of_ble_eq_true rfl, Nat.le_of_ble_eq_true rfl⟩) (gy_pre (mx_XX b) hX hK hP hS) rfl rfl hl.1 rfl (lv_room (Nat.le_of_ble_eq_true rfl)) d_Mod_preset_3 ⟨Nat.zero_le _, Nat.zero_le _⟩) hS (fun H locs hP hS => ?_)
  refine lv_if_eq (pc := 6) (tgt := 25) hx hb d_Mod_preset_6 (by decide) (fun g2 => ?_) (fun g2 => ?_)
  · have h := gx_pos g2 h
    refine lv_iconst (pc := 25) (v := (0 : Int32)) hx hb d_Mod_preset_25 (by decide) ?_
    exact gx_zret (free := fun _ => True) hx hb hr hlk hP hS d_Mod_preset_26 rfl (by cases h; rfl) (by cases h; rfl)
  · have h := gx_neg g2 h
    refine lv_iload_n (pc := 9) hx hb d_Mod_preset_9 rfl (lv_at hl 2 rfl) ?_
    refine lv_bipush (pc := 10) (v := (8 : Int32)) hx hb d_Mod_preset_10 (by decide) ?_
    obtain ⟨q2, g3, h⟩ := gx_bd h
    refine gx_ci (pc := 12) (va_runS (As := [.int x2, .int (8 : Int32)]) (rest := []) ⟨hx, hb, hml, hown, hts⟩ (k_Mod_in l dC dI cI cR cZ b tP tN  g3) (gx_cs 2 hts cd_Mod_in tb_50 tb_724 tb_725 rfl rfl ⟨by decide, by decide, by decide +kernel⟩ ⟨Nat.le_of_ble_eq_true rfl, Nat.le_of_ble_eq_true rfl⟩) (gy_pre (mx_XX b) hX hK hP hS) rfl rfl hl.1 rfl (lv_room (Nat.le_of_ble_eq_true rfl)) d_Mod_preset_12 ⟨Nat.zero_le _, Nat.zero_le _⟩) hS (fun H locs hP hS => ?_)
    refine lv_if_eq (pc := 15) (tgt := 25) hx hb d_Mod_preset_15 (by decide) (fun g4 => ?_) (fun g4 => ?_)
    · have h := gx_pos g4 h
      refine lv_iconst (pc := 25) (v := (0 : Int32)) hx hb d_Mod_preset_25 (by decide) ?_
      exact gx_zret (free := fun _ => True) hx hb hr hlk hP hS d_Mod_preset_26 rfl (by cases h; rfl) (by cases h; rfl)
    · have h := gx_neg g4 h
      refine lv_aload_n (pc := 18) hx hb d_Mod_preset_18 rfl (lv_at hl 0 rfl) ?_
      refine va_get (pc := 19) (D := (dC, dI)) (ci := 6) (C := R_Mod) (T := T_Mod) (N := 39) hx hb hts in_Mod hown hK hP x0 (gx_at (mx_lt hk0 (by decide)) (sh_Mod cI cZ b hk0 _)) rfl 3 (by decide) (hts _ tb_604) (fun _ h9 => h9) rfl d_Mod_preset_19 ?_
      refine lv_if_le (pc := 22) (tgt := 27) hx hb d_Mod_preset_22 (by decide) (fun g5 => ?_) (fun g5 => ?_)
      · have h := gx_pos g5 h
        refine lv_aload_n (pc := 27) hx hb d_Mod_preset_27 rfl (lv_at hl 0 rfl) ?_
        refine va_get (pc := 28) (D := (dC, dI)) (ci := 6) (C := R_Mod) (T := T_Mod) (N := 39) hx hb hts in_Mod hown hK hP x0 (gx_at (mx_lt hk0 (by decide)) (sh_Mod cI cZ b hk0 _)) rfl 0 (by decide) (hts _ tb_601) (fun _ h9 => h9) rfl d_Mod_preset_28 ?_
        refine lv_bipush (pc := 31) (v := (36 : Int32)) hx hb d_Mod_preset_31 (by decide) ?_
        refine lv_iload_n (pc := 33) hx hb d_Mod_preset_33 rfl (lv_at hl 1 rfl) ?_
        refine lv_imul (pc := 34) hx hb d_Mod_preset_34 ?_
        refine lv_bipush (pc := 35) (v := (27 : Int32)) hx hb d_Mod_preset_35 (by decide) ?_
        refine lv_iadd (pc := 37) hx hb d_Mod_preset_37 ?_
        refine lv_iload_n (pc := 38) hx hb d_Mod_preset_38 rfl (lv_at hl 2 rfl) ?_
        refine lv_iadd (pc := 39) hx hb d_Mod_preset_39 ?_
        refine lv_iload_n (pc := 40) hx hb d_Mod_preset_40 rfl (lv_at hl 3 rfl) ?_
        obtain ⟨g6, h⟩ := gx_if h
        obtain ⟨V1, g7, h⟩ := gx_lt h
        refine gx_asi (pc := 41) hx hb hK hP hS (x0 + 1) 0 (mx_lt (to_Mod_now hk0) (by decide)) (fun _ => mh_arr cI cZ b (n := 576) (to_Mod_now hk0) (by decide) _) rfl g6 d_Mod_preset_41 g7 (fun H locs hP hS => ?_)
        refine lv_iconst (pc := 42) (v := (1 : Int32)) hx hb d_Mod_preset_42 (by decide) ?_
        exact gx_zret (free := fun _ => True) hx hb hr hlk hP hS d_Mod_preset_43 rfl (by cases h; rfl) (by cases h; rfl)
      · have h := gx_neg g5 h
        refine lv_iconst (pc := 25) (v := (0 : Int32)) hx hb d_Mod_preset_25 (by decide) ?_
        exact gx_zret (free := fun _ => True) hx hb hr hlk hP hS d_Mod_preset_26 rfl (by cases h; rfl) (by cases h; rfl)
abbrev rm_Mod_mix : Room := { frames := 0, cells := 0, slots := 0, locals := 0 }
def F_Mod_mix (x0 : Int32) (x1 : Int32) (V : gx_M) : Option (Int32 × gx_M) := some ((((x0 * (668265263 : Int32)) + x1) ^^^ (((x0 * (668265263 : Int32)) + x1).toUInt32 >>> ((13 : Int32).toUInt32 &&& Int32.toUInt32 31)).toInt32), V)
set_option maxRecDepth 100000 in
set_option maxHeartbeats 8000000 in
theorem k_Mod_mix (l : Launch) (dC : Nat → ClassId) (dI : Nat → Nat → Nat) (cI cR cZ : ClassId) (b tP tN : Nat) {x0 : Int32} {x1 : Int32} {V : gx_M} {q : (Int32 × gx_M)}  (h : F_Mod_mix x0 x1 V = some q) : mx_C l dC dI cI cR cZ b tP tN y_Mod_mix w_Mod_mix rm_Mod_mix [.int x0, .int x1] V (some (.int q.1)) q.2 := by
  refine gx_start (cc := b_Mod_mix) (maxL := 3) (ret := rt_Mod_mix) (by decide) rfl (Nat.le_of_ble_eq_true rfl) ?_
  intro p e s m args below meth c ls hx hb hr hts hown hlk hml hl hP hK hX hS
  have hts : ∀ w ∈ cx_tb, w.before args s = true := fun w hw => hts w (List.mem_cons_of_mem _ hw)
  have hown : s.vm.findClass "GasLedgerModel" = some m.cls := hown
  have hl : lv_has ls 3 [(0, .int x0), (1, .int x1)] := hl
  unfold F_Mod_mix at h
  refine lv_iload_n (pc := 0) hx hb d_Mod_mix_0 rfl (lv_at hl 0 rfl) ?_
  refine lv_ldc (pc := 1) (v := (668265263 : Int32)) hx hb hown (hts _ tb_747) d_Mod_mix_1 ?_
  refine lv_imul (pc := 3) hx hb d_Mod_mix_3 ?_
  refine lv_iload_n (pc := 4) hx hb d_Mod_mix_4 rfl (lv_at hl 1 rfl) ?_
  refine lv_iadd (pc := 5) hx hb d_Mod_mix_5 ?_
  refine lv_istore_n (pc := 6) (lv' := [(2, .int ((x0 * (668265263 : Int32)) + x1)), (0, .int x0), (1, .int x1)]) hx hb d_Mod_mix_6 rfl hl (by decide) rfl (fun ls hl => ?_)
  refine lv_iload_n (pc := 7) hx hb d_Mod_mix_7 rfl (lv_at hl 0 rfl) ?_
  refine lv_iload_n (pc := 8) hx hb d_Mod_mix_8 rfl (lv_at hl 0 rfl) ?_
  refine lv_bipush (pc := 9) (v := (13 : Int32)) hx hb d_Mod_mix_9 (by decide) ?_
  refine lv_iushr (pc := 11) hx hb d_Mod_mix_11 rfl ?_
  refine lv_ixor (pc := 12) hx hb d_Mod_mix_12 ?_
  exact gx_iret (free := fun _ => True) hx hb hr hlk hP hS d_Mod_mix_13 (by cases h; rfl) (by cases h; rfl)
