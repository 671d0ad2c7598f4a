abbrev rm_Mod_send : Room := { frames := 5, cells := 0, slots := 0, locals := 133 }
def F_Mod_send (x0 : Nat) (x1 : Int32) (x2 : Int32) (x3 : Int32) (x4 : Int32) (V : gx_M) : Option (Int32 × gx_M) := ((F_Mod_transact x0 x1 x2 x3 x4 (200 : Int32) (1 : Int32) (0 : Int32) V).bind fun q1 => some (q1.1, q1.2))
set_option maxRecDepth 100000 in
set_option maxHeartbeats 8000000 in
theorem k_Mod_send (l : Launch) (dC : Nat → ClassId) (dI : Nat → Nat → Nat) (cI cR cZ : ClassId) (b tP tN : Nat) {x0 : Nat} {x1 : Int32} {x2 : Int32} {x3 : Int32} {x4 : Int32} {V : gx_M} {q : (Int32 × gx_M)} (hk0 : mx_kd x0 = 6) (h : F_Mod_send x0 x1 x2 x3 x4 V = some q) : mx_C l dC dI cI cR cZ b tP tN y_Mod_send w_Mod_send rm_Mod_send [.ref (b + x0), .int x1, .int x2, .int x3, .int x4] V (some (.int q.1)) q.2 := by
  refine gx_start (cc := b_Mod_send) (maxL := 5) (ret := rt_Mod_send) (by decide) rfl (Nat.le_of_ble_eq_true rfl) ?_
  intro p e s m args below meth c ls hx hb hr hts hown hlk hml hl hP hK hX hS
  have hts : ∀ w ∈ cx_tb, w.before args s = true := fun w hw => hts w (List.mem_cons_of_mem _ hw)
  have hown : s.vm.findClass "GasLedgerModel" = some m.cls := hown
  have hl : lv_has ls 5 [(0, .ref (b + x0)), (1, .int x1), (2, .int x2), (3, .int x3), (4, .int x4)] := hl
  unfold F_Mod_send at h
  refine lv_aload_n (pc := 0) hx hb d_Mod_send_0 rfl (lv_at hl 0 rfl) ?_
  refine lv_iload_n (pc := 1) hx hb d_Mod_send_1 rfl (lv_at hl 1 rfl) ?_
  refine lv_iload_n (pc := 2) hx hb d_Mod_send_2 rfl (lv_at hl 2 rfl) ?_
  refine lv_iload_n (pc := 3) hx hb d_Mod_send_3 rfl (lv_at hl 3 rfl) ?_
  refine lv_iload (pc := 4) hx hb d_Mod_send_4 (lv_at hl 4 rfl) ?_
  refine lv_sipush (pc := 6) (v := (200 : Int32)) hx hb d_Mod_send_6 (by decide) ?_
  refine lv_iconst (pc := 9) (v := (1 : Int32)) hx hb d_Mod_send_9 (by decide) ?_
  refine lv_iconst (pc := 10) (v := (0 : Int32)) hx hb d_Mod_send_10 (by decide) ?_
  obtain ⟨q1, g1, h⟩ := gx_bd h
  refine gx_ci (pc := 11) (va_runV (C := "GasLedgerModel") (As := [.int x1, .int x2, .int x3, .int x4, .int (200 : Int32), .int (1 : Int32), .int (0 : Int32)]) (rest := []) ⟨hx, hb, hml, hown, hts⟩ (k_Mod_transact l dC dI cI cR cZ b tP tN hk0 g1) (gx_cw 7 hts cd_Mod_transact tb_50 tb_772 tb_774 tb_25 rfl rfl ⟨by decide, by decide, by decide +kernel⟩ ⟨Nat.le_of_ble_eq_true rfl, Nat.le_of_ble_eq_true rfl⟩) (gy_preV (mx_XX b) hX hK hP hS (mx_lt hk0 (by decide)) (sh_Mod cI cZ b hk0 _) rfl) rfl rfl hl.1 rfl (lv_room (Nat.le_of_ble_eq_true rfl)) d_Mod_send_11 ⟨Nat.zero_le _, Nat.zero_le _⟩) hS (fun H locs hP hS => ?_)
  exact gx_iret (free := fun _ => True) hx hb hr hlk hP hS d_Mod_send_14 (by cases h; rfl) (by cases h; rfl)
abbrev rm_Mod_pay : Room := { frames := 5, cells := 0, slots := 0, locals := 133 }
def F_Mod_pay (x0 : Nat) (x1 : Int32) (x2 : Int32) (x3 : Int32) (x4 : Int32) (V : gx_M) : Option (Int32 × gx_M) := ((F_Mod_terms x0 (200 : Int32) (1 : Int32) (0 : Int32) V).bind fun q1 => ((F_Mod_transact x0 x1 x2 x3 x4 (V x0 16) (V x0 17) (V x0 18) q1).bind fun q2 => some (q2.1, q2.2)))
set_option maxRecDepth 100000 in
set_option maxHeartbeats 8000000 in
theorem k_Mod_pay (l : Launch) (dC : Nat → ClassId) (dI : Nat → Nat → Nat) (cI cR cZ : ClassId) (b tP tN : Nat) {x0 : Nat} {x1 : Int32} {x2 : Int32} {x3 : Int32} {x4 : Int32} {V : gx_M} {q : (Int32 × gx_M)} (hk0 : mx_kd x0 = 6) (h : F_Mod_pay x0 x1 x2 x3 x4 V = some q) : mx_C l dC dI cI cR cZ b tP tN y_Mod_pay w_Mod_pay rm_Mod_pay [.ref (b + x0), .int x1, .int x2, .int x3, .int x4] V (some (.int q.1)) q.2 := by
  refine gx_start (cc := b_Mod_pay) (maxL := 8) (ret := rt_Mod_pay) (by decide) rfl (Nat.le_of_ble_eq_true rfl) ?_
  intro p e s m args below meth c ls hx hb hr hts hown hlk hml hl hP hK hX hS
  have hts : ∀ w ∈ cx_tb, w.before args s = true := fun w hw => hts w (List.mem_cons_of_mem _ hw)
  have hown : s.vm.findClass "GasLedgerModel" = some m.cls := hown
  have hl : lv_has ls 8 [(0, .ref (b + x0)), (1, .int x1), (2, .int x2), (3, .int x3), (4, .int x4)] := hl
  unfold F_Mod_pay at h
  refine lv_aload_n (pc := 0) hx hb d_Mod_pay_0 rfl (lv_at hl 0 rfl) ?_
  refine va_get (pc := 1) (D := (dC, dI)) (ci := 6) (C := R_Mod) (T := T_Mod) (N := 39) hx hb hts in_Mod hown hK hP x0 (gx_at (mx_lt hk0 (by decide)) (sh_Mod cI cZ b hk0 _)) rfl 16 (by decide) (hts _ tb_617) (fun _ h9 => h9) rfl d_Mod_pay_1 ?_
  refine lv_istore (pc := 4) (lv' := [(5, .int (V x0 16)), (0, .ref (b + x0)), (1, .int x1), (2, .int x2), (3, .int x3), (4, .int x4)]) hx hb d_Mod_pay_4 hl (by decide) rfl (fun ls hl => ?_)
  refine lv_aload_n (pc := 6) hx hb d_Mod_pay_6 rfl (lv_at hl 1 rfl) ?_
  refine va_get (pc := 7) (D := (dC, dI)) (ci := 6) (C := R_Mod) (T := T_Mod) (N := 39) hx hb hts in_Mod hown hK hP x0 (gx_at (mx_lt hk0 (by decide)) (sh_Mod cI cZ b hk0 _)) rfl 17 (by decide) (hts _ tb_618) (fun _ h9 => h9) rfl d_Mod_pay_7 ?_
  refine lv_istore (pc := 10) (lv' := [(6, .int (V x0 17)), (5, .int (V x0 16)), (0, .ref (b + x0)), (1, .int x1), (2, .int x2), (3, .int x3), (4, .int x4)]) hx hb d_Mod_pay_10 hl (by decide) rfl (fun ls hl => ?_)
  refine lv_aload_n (pc := 12) hx hb d_Mod_pay_12 rfl (lv_at hl 2 rfl) ?_
  refine va_get (pc := 13) (D := (dC, dI)) (ci := 6) (C := R_Mod) (T := T_Mod) (N := 39) hx hb hts in_Mod hown hK hP x0 (gx_at (mx_lt hk0 (by decide)) (sh_Mod cI cZ b hk0 _)) rfl 18 (by decide) (hts _ tb_619) (fun _ h9 => h9) rfl d_Mod_pay_13 ?_
  refine lv_istore (pc := 16) (lv' := [(7, .int (V x0 18)), (6, .int (V x0 17)), (5, .int (V x0 16)), (0, .ref (b + x0)), (1, .int x1), (2, .int x2), (3, .int x3), (4, .int x4)]) hx hb d_Mod_pay_16 hl (by decide) rfl (fun ls hl => ?_)
  refine lv_aload_n (pc := 18) hx hb d_Mod_pay_18 rfl (lv_at hl 3 rfl) ?_
  refine lv_sipush (pc := 19) (v := (200 : Int32)) hx hb d_Mod_pay_19 (by decide) ?_
  refine lv_iconst (pc := 22) (v := (1 : Int32)) hx hb d_Mod_pay_22 (by decide) ?_
  refine lv_iconst (pc := 23) (v := (0 : Int32)) hx hb d_Mod_pay_23 (by decide) ?_
  obtain ⟨q1, g1, h⟩ := gx_bd h
  refine gx_cv (pc := 24) (va_runV (C := "GasLedgerModel") (As := [.int (200 : Int32), .int (1 : Int32), .int (0 : Int32)]) (rest := []) ⟨hx, hb, hml, hown, hts⟩ (k_Mod_terms l dC dI cI cR cZ b tP tN hk0 g1) (gx_cw 3 hts cd_Mod_terms tb_50 tb_851 tb_765 tb_766 rfl rfl ⟨by decide, by decide, by decide +kernel⟩ ⟨Nat.le_of_ble_eq_true rfl, Nat.le_of_ble_eq_true rfl⟩) (gy_preV (mx_XX b) hX hK hP hS (mx_lt hk0 (by decide)) (sh_Mod cI cZ b hk0 _) rfl) rfl rfl hl.1 rfl (lv_room (Nat.le_of_ble_eq_true rfl)) d_Mod_pay_24 ⟨Nat.zero_le _, Nat.zero_le _⟩) hS (fun H locs hP hS => ?_)
  refine lv_aload_n (pc := 27) hx hb d_Mod_pay_27 rfl (lv_at hl 3 rfl) ?_
  refine lv_iload_n (pc := 28) hx hb d_Mod_pay_28 rfl (lv_at hl 4 rfl) ?_
  refine lv_iload_n (pc := 29) hx hb d_Mod_pay_29 rfl (lv_at hl 5 rfl) ?_
  refine lv_iload_n (pc := 30) hx hb d_Mod_pay_30 rfl (lv_at hl 6 rfl) ?_
  refine lv_iload (pc := 31) hx hb d_Mod_pay_31 (lv_at hl 7 rfl) ?_
  refine lv_iload (pc := 33) hx hb d_Mod_pay_33 (lv_at hl 2 rfl) ?_
  refine lv_iload (pc := 35) hx hb d_Mod_pay_35 (lv_at hl 1 rfl) ?_
  refine lv_iload (pc := 37) hx hb d_Mod_pay_37 (lv_at hl 0 rfl) ?_
  obtain ⟨q2, g2, h⟩ := gx_bd h
  refine gx_ci (pc := 39) (va_runV (C := "GasLedgerModel") (As := [.int x1, .int x2, .int x3, .int x4, .int (V x0 16), .int (V x0 17), .int (V x0 18)]) (rest := []) ⟨hx, hb, hml, hown, hts⟩ (k_Mod_transact l dC dI cI cR cZ b tP tN hk0 g2) (gx_cw 7 hts cd_Mod_transact tb_50 tb_772 tb_774 tb_25 rfl rfl ⟨by decide, by decide, by decide +kernel⟩ ⟨Nat.le_of_ble_eq_true rfl, Nat.le_of_ble_eq_true rfl⟩) (gy_preV (mx_XX b) hX hK hP hS (mx_lt hk0 (by decide)) (sh_Mod cI cZ b hk0 _) rfl) rfl rfl hl.1 rfl (lv_room (Nat.le_of_ble_eq_true rfl)) d_Mod_pay_39 ⟨Nat.zero_le _, Nat.zero_le _⟩) hS (fun H locs hP hS => ?_)
  exact gx_iret (free := fun _ => True) hx hb hr hlk hP hS d_Mod_pay_42 (by cases h; rfl) (by cases h; rfl)
abbrev rm_Mod_begin : Room := { frames := 1, cells := 0, slots := 0, locals := 21 }
def F_Mod_begin_62 : Nat → Nat → Int32 → gx_M → Option (Int32 × gx_M)
  | 0, _, _, _ => none
  | nf + 1, x0, x3, V => (if (576 : Int32) ≤ x3 then (gx_let (gx_u V x0 10 (0 : Int32)) fun V1 => (gx_let (gx_u V1 x0 11 (0 : Int32)) fun V2 => (gx_let (gx_u V2 x0 13 (0 : Int32)) fun V3 => some ((1 : Int32), V3)))) else (if gx_ib x3 576 then (if gx_ib x3 576 then (gx_let (gx_u V (x0 + 2) x3.toNatClampNeg (V (x0 + 1) x3.toNatClampNeg)) fun V4 => (F_Mod_begin_62 nf  x0 (x3 + (1 : Int32)) V4)) else none) else none))
def F_Mod_begin (x0 : Nat) (x1 : Int32) (x2 : Int32) (V : gx_M) : Option (Int32 × gx_M) := (if (V x0 4) = 0 then (if x1 ≤ (V x0 7) then some ((0 : Int32), V) else ((F_Mod_in x2 (16 : Int32) V).bind fun q1 => (if q1.1 = 0 then some ((0 : Int32), q1.2) else (if (q1.2 x0 3) = (30 : Int32) then some ((0 : Int32), q1.2) else (gx_let (gx_u q1.2 x0 3 ((q1.2 x0 3) + (1 : Int32))) fun V5 => (gx_let (gx_u V5 x0 4 (1 : Int32)) fun V6 => (gx_let (gx_u V6 x0 6 x1) fun V7 => (gx_let (gx_u V7 x0 5 x2) fun V8 => (F_Mod_begin_62 1000  x0 (0 : Int32) V8))))))))) else some ((0 : Int32), V))
set_option maxRecDepth 100000 in
set_option maxHeartbeats 8000000 in
theorem k_Mod_begin (l : Launch) (dC : Nat → ClassId) (dI : Nat → Nat → Nat) (cI cR cZ : ClassId) (b tP tN : Nat) {x0 : Nat} {x1 : Int32} {x2 : Int32} {V : gx_M} {q : (Int32 × gx_M)} (hk0 : mx_kd x0 = 6) (h : F_Mod_begin x0 x1 x2 V = some q) : mx_C l dC dI cI cR cZ b tP tN y_Mod_begin w_Mod_begin rm_Mod_begin [.ref (b + x0), .int x1, .int x2] V (some (.int q.1)) q.2 := by
  refine gx_start (cc := b_Mod_begin) (maxL := 4) (ret := rt_Mod_begin) (by decide) rfl (Nat.le_of_ble_eq_true rfl) ?_
  intro p e s m args below meth c ls hx hb hr hts hown hlk hml hl hP hK hX hS
  have hts : ∀ w ∈ cx_tb, w.before args s = true := fun w hw => hts w (List.mem_cons_of_mem _ hw)
  have hown : s.vm.findClass "GasLedgerModel" = some m.cls := hown
  have hl : lv_has ls 4 [(0, .ref (b + x0)), (1, .int x1), (2, .int x2)] := hl
  have B_62 : ∀ (nf : Nat), ∀ (x0 : Nat) (x3 : Int32), mx_kd x0 = 6 → ∀ (V : gx_M) (H : Heap) (locs : List Loc) (ls : Array Slot), lv_has ls 4 [(0, .ref (b + x0)), (3, .int x3)] → va_P (dC, dI) cx_cl (gx_w b 22 (gx_v (mx_sh cI cZ b) V)) H → va_S (gx_A b 22) s.heap H locs → F_Mod_begin_62 nf x0 x3 V = some q → W p l e (headSpec w_Mod_begin rm_Mod_begin).room s m args below meth c H locs 0 0 (MQ below (gx_Q (dC, dI) cx_cl b 22 (mx_sh cI cZ b) (some (.int q.1)) q.2) args s 0 0 (gx_A b 22)) (F0 m 62 ls []) := by
    intro nf
    induction nf with
    | zero => intro x0 x3 hk_x0 V H locs ls hl hP hS h; cases h
    | succ nf ihl =>
      intro x0 x3 hk_x0 V H locs ls hl hP hS h
      rw [F_Mod_begin_62] at h
      refine lv_iload_n (pc := 62) hx hb d_Mod_begin_62 rfl (lv_at hl 1 rfl) ?_
      refine lv_sipush (pc := 63) (v := (576 : Int32)) hx hb d_Mod_begin_63 (by decide) ?_
      refine lv_icmp_ge (pc := 66) (tgt := 87) hx hb d_Mod_begin_66 (by decide) (fun g1 => ?_) (fun g1 => ?_)
      · have h := gx_pos g1 h
        refine lv_aload_n (pc := 87) hx hb d_Mod_begin_87 rfl (lv_at hl 0 rfl) ?_
        refine lv_iconst (pc := 88) (v := (0 : Int32)) hx hb d_Mod_begin_88 (by decide) ?_
        obtain ⟨V1, g2, h⟩ := gx_lt h
        refine gy_put (pc := 89) (D := (dC, dI)) (ci := 6) (C := R_Mod) (T := T_Mod) (NF := 39) (ty := .int) hx hb hts in_Mod t_Mod ty_Mod nm_Mod hown hK hP hS x0 (mx_lt hk_x0 (by decide)) (sh_Mod cI cZ b hk_x0 _) rfl 10 (by decide) (hts _ tb_611) (fun _ h9 => h9) rfl (by decide +kernel) rfl rfl (Nat.le_of_ble_eq_true rfl) 10 (sh_Mod cI cZ b hk_x0 _) d_Mod_begin_89 g2 (fun H locs hP hS => ?_)
        refine lv_aload_n (pc := 92) hx hb d_Mod_begin_92 rfl (lv_at hl 0 rfl) ?_
        refine lv_iconst (pc := 93) (v := (0 : Int32)) hx hb d_Mod_begin_93 (by decide) ?_
        obtain ⟨V2, g3, h⟩ := gx_lt h
        refine gy_put (pc := 94) (D := (dC, dI)) (ci := 6) (C := R_Mod) (T := T_Mod) (NF := 39) (ty := .int) hx hb hts in_Mod t_Mod ty_Mod nm_Mod hown hK hP hS x0 (mx_lt hk_x0 (by decide)) (sh_Mod cI cZ b hk_x0 _) rfl 11 (by decide) (hts _ tb_612) (fun _ h9 => h9) rfl (by decide +kernel) rfl rfl (Nat.le_of_ble_eq_true rfl) 11 (sh_Mod cI cZ b hk_x0 _) d_Mod_begin_94 g3 (fun H locs hP hS => ?_)
        refine lv_aload_n (pc := 97) hx hb d_Mod_begin_97 rfl (lv_at hl 0 rfl) ?_
        refine lv_iconst (pc := 98) (v := (0 : Int32)) hx hb d_Mod_begin_98 (by decide) ?_
        obtain ⟨V3, g4, h⟩ := gx_lt h
        refine gy_put (pc := 99) (D := (dC, dI)) (ci := 6) (C := R_Mod) (T := T_Mod) (NF := 39) (ty := .int) hx hb hts in_Mod t_Mod ty_Mod nm_Mod hown hK hP hS x0 (mx_lt hk_x0 (by decide)) (sh_Mod cI cZ b hk_x0 _) rfl 13 (by decide) (hts _ tb_614) (fun _ h9 => h9) rfl (by decide +kernel) rfl rfl (Nat.le_of_ble_eq_true rfl) 13 (sh_Mod cI cZ b hk_x0 _) d_Mod_begin_99 g4 (fun H locs hP hS => ?_)
        refine lv_iconst (pc := 102) (v := (1 : Int32)) hx hb d_Mod_begin_102 (by decide) ?_
        exact gx_zret (free := fun _ => True) hx hb hr hlk hP hS d_Mod_begin_103 rfl (by cases h; rfl) (by cases h; rfl)
      · have h := gx_neg g1 h
        refine lv_aload_n (pc := 69) hx hb d_Mod_begin_69 rfl (lv_at hl 0 rfl) ?_
        refine va_get (pc := 70) (D := (dC, dI)) (ci := 6) (C := R_Mod) (T := T_Mod) (N := 39) hx hb hts in_Mod hown hK hP x0 (gx_at (mx_lt hk_x0 (by decide)) (sh_Mod cI cZ b hk_x0 _)) rfl 1 (by decide) (hts _ tb_602) (fun _ h9 => h9) rfl d_Mod_begin_70 ?_
        refine lv_iload_n (pc := 73) hx hb d_Mod_begin_73 rfl (lv_at hl 1 rfl) ?_
        refine lv_aload_n (pc := 74) hx hb d_Mod_begin_74 rfl (lv_at hl 0 rfl) ?_
        refine va_get (pc := 75) (D := (dC, dI)) (ci := 6) (C := R_Mod) (T := T_Mod) (N := 39) hx hb hts in_Mod hown hK hP x0 (gx_at (mx_lt hk_x0 (by decide)) (sh_Mod cI cZ b hk_x0 _)) rfl 0 (by decide) (hts _ tb_601) (fun _ h9 => h9) rfl d_Mod_begin_75 ?_
        refine lv_iload_n (pc := 78) hx hb d_Mod_begin_78 rfl (lv_at hl 1 rfl) ?_
        obtain ⟨g5, h⟩ := gx_if h
        refine va_iald (pc := 79) hx hb hK hP (x0 + 1) 0 (gx_at (mx_lt (to_Mod_now hk_x0) (by decide)) (mh_arr cI cZ b (n := 576) (to_Mod_now hk_x0) (by decide) _)) rfl g5 d_Mod_begin_79 ?_
        obtain ⟨g6, h⟩ := gx_if h
        obtain ⟨V4, g7, h⟩ := gx_lt h
        refine gx_asi (pc := 80) hx hb hK hP hS (x0 + 2) 0 (mx_lt (to_Mod_before hk_x0) (by decide)) (fun _ => mh_arr cI cZ b (n := 576) (to_Mod_before hk_x0) (by decide) _) rfl g6 d_Mod_begin_80 g7 (fun H locs hP hS => ?_)
        refine lv_iinc (pc := 81) (k := 1) (lv' := [(3, .int (x3 + (1 : Int32))), (0, .ref (b + x0))]) hx hb d_Mod_begin_81 hl rfl (gx_inc (by decide)) (by decide) rfl (fun ls hl => ?_)
        refine lv_goto (pc := 84) (tgt := 62) hx hb d_Mod_begin_84 (by decide) ?_
        exact ihl _ _ hk_x0 _ _ _ _ (lv_sub hl [1, 0] rfl) hP hS h
  unfold F_Mod_begin at h
  refine lv_aload_n (pc := 0) hx hb d_Mod_begin_0 rfl (lv_at hl 0 rfl) ?_
  refine va_get (pc := 1) (D := (dC, dI)) (ci := 6) (C := R_Mod) (T := T_Mod) (N := 39) hx hb hts in_Mod hown hK hP x0 (gx_at (mx_lt hk0 (by decide)) (sh_Mod cI cZ b hk0 _)) rfl 4 (by decide) (hts _ tb_605) (fun _ h9 => h9) rfl d_Mod_begin_1 ?_
  refine lv_if_ne (pc := 4) (tgt := 33) hx hb d_Mod_begin_4 (by decide) (fun g8 => ?_) (fun g8 => ?_)
  · have h := gx_neg g8 h
    refine lv_iconst (pc := 33) (v := (0 : Int32)) hx hb d_Mod_begin_33 (by decide) ?_
    exact gx_zret (free := fun _ => True) hx hb hr hlk hP hS d_Mod_begin_34 rfl (by cases h; rfl) (by cases h; rfl)
  · have h := gx_pos g8 h
    refine lv_iload_n (pc := 7) hx hb d_Mod_begin_7 rfl (lv_at hl 1 rfl) ?_
    refine lv_aload_n (pc := 8) hx hb d_Mod_begin_8 rfl (lv_at hl 0 rfl) ?_
    refine va_get (pc := 9) (D := (dC, dI)) (ci := 6) (C := R_Mod) (T := T_Mod) (N := 39) hx hb hts in_Mod hown hK hP x0 (gx_at (mx_lt hk0 (by decide)) (sh_Mod cI cZ b hk0 _)) rfl 7 (by decide) (hts _ tb_608) (fun _ h9 => h9) rfl d_Mod_begin_9 ?_
    refine lv_icmp_le (pc := 12) (tgt := 33) hx hb d_Mod_begin_12 (by decide) (fun g9 => ?_) (fun g9 => ?_)
    · have h := gx_pos g9 h
      refine lv_iconst (pc := 33) (v := (0 : Int32)) hx hb d_Mod_begin_33 (by decide) ?_
      exact gx_zret (free := fun _ => True) hx hb hr hlk hP hS d_Mod_begin_34 rfl (by cases h; rfl) (by cases h; rfl)
    · have h := gx_neg g9 h
      refine lv_iload_n (pc := 15) hx hb d_Mod_begin_15 rfl (lv_at hl 2 rfl) ?_
      refine lv_bipush (pc := 16) (v := (16 : Int32)) hx hb d_Mod_begin_16 (by decide) ?_
      obtain ⟨q1, g10, h⟩ := gx_bd h
      refine gx_ci (pc := 18) (va_runS (As := [.int x2, .int (16 : Int32)]) (rest := []) ⟨hx, hb, hml, hown, hts⟩ (k_Mod_in l dC dI cI cR cZ b tP tN  g10) (gx_cs 2 hts cd_Mod_in tb_50 tb_724 tb_725 rfl rfl ⟨by decide, by decide, by decide +kernel⟩ ⟨Nat.le_of_ble_eq_true rfl, Nat.le_of_ble_eq_true rfl⟩) (gy_pre (mx_XX b) hX hK hP hS) rfl rfl hl.1 rfl (lv_room (Nat.le_of_ble_eq_true rfl)) d_Mod_begin_18 ⟨Nat.zero_le _, Nat.zero_le _⟩) hS (fun H locs hP hS => ?_)
      refine lv_if_eq (pc := 21) (tgt := 33) hx hb d_Mod_begin_21 (by decide) (fun g11 => ?_) (fun g11 => ?_)
      · have h := gx_pos g11 h
        refine lv_iconst (pc := 33) (v := (0 : Int32)) hx hb d_Mod_begin_33 (by decide) ?_
        exact gx_zret (free := fun _ => True) hx hb hr hlk hP hS d_Mod_begin_34 rfl (by cases h; rfl) (by cases h; rfl)
      · have h := gx_neg g11 h
        refine lv_aload_n (pc := 24) hx hb d_Mod_begin_24 rfl (lv_at hl 0 rfl) ?_
        refine va_get (pc := 25) (D := (dC, dI)) (ci := 6) (C := R_Mod) (T := T_Mod) (N := 39) hx hb hts in_Mod hown hK hP x0 (gx_at (mx_lt hk0 (by decide)) (sh_Mod cI cZ b hk0 _)) rfl 3 (by decide) (hts _ tb_604) (fun _ h9 => h9) rfl d_Mod_begin_25 ?_
        refine lv_bipush (pc := 28) (v := (30 : Int32)) hx hb d_Mod_begin_28 (by decide) ?_
        refine lv_icmp_ne (pc := 30) (tgt := 35) hx hb d_Mod_begin_30 (by decide) (fun g12 => ?_) (fun g12 => ?_)
        · have h := gx_neg g12 h
          refine lv_aload_n (pc := 35) hx hb d_Mod_begin_35 rfl (lv_at hl 0 rfl) ?_
          refine lv_dup (pc := 36) hx hb d_Mod_begin_36 rfl ?_
          refine va_get (pc := 37) (D := (dC, dI)) (ci := 6) (C := R_Mod) (T := T_Mod) (N := 39) hx hb hts in_Mod hown hK hP x0 (gx_at (mx_lt hk0 (by decide)) (sh_Mod cI cZ b hk0 _)) rfl 3 (by decide) (hts _ tb_604) (fun _ h9 => h9) rfl d_Mod_begin_37 ?_
          refine lv_iconst (pc := 40) (v := (1 : Int32)) hx hb d_Mod_begin_40 (by decide) ?_
          refine lv_iadd (pc := 41) hx hb d_Mod_begin_41 ?_
          obtain ⟨V5, g13, h⟩ := gx_lt h
          refine gy_put (pc := 42) (D := (dC, dI)) (ci := 6) (C := R_Mod) (T := T_Mod) (NF := 39) (ty := .int) hx hb hts in_Mod t_Mod ty_Mod nm_Mod hown hK hP hS x0 (mx_lt hk0 (by decide)) (sh_Mod cI cZ b hk0 _) rfl 3 (by decide) (hts _ tb_604) (fun _ h9 => h9) rfl (by decide +kernel) rfl rfl (Nat.le_of_ble_eq_true rfl) 3 (sh_Mod cI cZ b hk0 _) d_Mod_begin_42 g13 (fun H locs hP hS => ?_)
          refine lv_aload_n (pc := 45) hx hb d_Mod_begin_45 rfl (lv_at hl 0 rfl) ?_
          refine lv_iconst (pc := 46) (v := (1 : Int32)) hx hb d_Mod_begin_46 (by decide) ?_
          obtain ⟨V6, g14, h⟩ := gx_lt h
          refine gy_put (pc := 47) (D := (dC, dI)) (ci := 6) (C := R_Mod) (T := T_Mod) (NF := 39) (ty := .boolean) hx hb hts in_Mod t_Mod ty_Mod nm_Mod hown hK hP hS x0 (mx_lt hk0 (by decide)) (sh_Mod cI cZ b hk0 _) rfl 4 (by decide) (hts _ tb_605) (fun _ h9 => h9) rfl (by decide +kernel) rfl rfl (Nat.le_of_ble_eq_true rfl) 4 (sh_Mod cI cZ b hk0 _) d_Mod_begin_47 g14 (fun H locs hP hS => ?_)
          refine lv_aload_n (pc := 50) hx hb d_Mod_begin_50 rfl (lv_at hl 0 rfl) ?_
          refine lv_iload_n (pc := 51) hx hb d_Mod_begin_51 rfl (lv_at hl 1 rfl) ?_
          obtain ⟨V7, g15, h⟩ := gx_lt h
          refine gy_put (pc := 52) (D := (dC, dI)) (ci := 6) (C := R_Mod) (T := T_Mod) (NF := 39) (ty := .int) hx hb hts in_Mod t_Mod ty_Mod nm_Mod hown hK hP hS x0 (mx_lt hk0 (by decide)) (sh_Mod cI cZ b hk0 _) rfl 6 (by decide) (hts _ tb_607) (fun _ h9 => h9) rfl (by decide +kernel) rfl rfl (Nat.le_of_ble_eq_true rfl) 6 (sh_Mod cI cZ b hk0 _) d_Mod_begin_52 g15 (fun H locs hP hS => ?_)
          refine lv_aload_n (pc := 55) hx hb d_Mod_begin_55 rfl (lv_at hl 0 rfl) ?_
          refine lv_iload_n (pc := 56) hx hb d_Mod_begin_56 rfl (lv_at hl 2 rfl) ?_
          obtain ⟨V8, g16, h⟩ := gx_lt h
          refine gy_put (pc := 57) (D := (dC, dI)) (ci := 6) (C := R_Mod) (T := T_Mod) (NF := 39) (ty := .int) hx hb hts in_Mod t_Mod ty_Mod nm_Mod hown hK hP hS x0 (mx_lt hk0 (by decide)) (sh_Mod cI cZ b hk0 _) rfl 5 (by decide) (hts _ tb_606) (fun _ h9 => h9) rfl (by decide +kernel) rfl rfl (Nat.le_of_ble_eq_true rfl) 5 (sh_Mod cI cZ b hk0 _) d_Mod_begin_57 g16 (fun H locs hP hS => ?_)
          refine lv_iconst (pc := 60) (v := (0 : Int32)) hx hb d_Mod_begin_60 (by decide) ?_
          refine lv_istore_n (pc := 61) (lv' := [(3, .int (0 : Int32)), (0, .ref (b + x0)), (1, .int x1), (2, .int x2)]) hx hb d_Mod_begin_61 rfl hl (by decide) rfl (fun ls hl => ?_)
          exact B_62 1000  _ _ hk0 _ _ _ _ (lv_sub hl [1, 0] rfl) hP hS h
        · have h := gx_pos g12 h
          refine lv_iconst (pc := 33) (v := (0 : Int32)) hx hb d_Mod_begin_33 (by decide) ?_
          exact gx_zret (free := fun _ => True) hx hb hr hlk hP hS d_Mod_begin_34 rfl (by cases h; rfl) (by cases h; rfl)
abbrev rm_Mod_seal : Room := { frames := 0, cells := 0, slots := 0, locals := 0 }
def F_Mod_seal_67 : Nat → Nat → Int32 → gx_M → Option (Int32 × gx_M)
  | 0, _, _, _ => none
  | nf + 1, x0, x2, V => (if (576 : Int32) ≤ x2 then some ((0 : Int32), V) else (if gx_ib x2 576 then (if gx_ib x2 576 then (gx_let (gx_u V (x0 + 1) x2.toNatClampNeg (V (x0 + 2) x2.toNatClampNeg)) fun V1 => (F_Mod_seal_67 nf  x0 (x2 + (1 : Int32)) V1)) else none) else none))
def F_Mod_seal (x0 : Nat) (x1 : Int32) (V : gx_M) : Option (Int32 × gx_M) := (if (V x0 4) = 0 then some ((-1 : Int32), V) else (gx_let (gx_u V x0 4 (0 : Int32)) fun V2 => (if gx_ib ((36 : Int32) * (V2 x0 5)) 576 then (if gx_ib ((36 : Int32) * (V2 x0 5)) 576 then (gx_let (gx_u V2 (x0 + 1) ((36 : Int32) * (V2 x0 5)).toNatClampNeg ((V2 (x0 + 1) ((36 : Int32) * (V2 x0 5)).toNatClampNeg) + (50 : Int32))) fun V3 => (if x1 = 0 then (gx_let (gx_u V3 x0 8 ((V3 x0 8) + (1 : Int32))) fun V5 => (gx_let (gx_u V5 x0 7 (V5 x0 6)) fun V6 => some ((1 : Int32), V6))) else (gx_let (gx_u V3 x0 9 ((V3 x0 9) + (1 : Int32))) fun V4 => (F_Mod_seal_67 1000  x0 (0 : Int32) V4)))) else none) else none)))
set_option maxRecDepth 100000 in
set_option maxHeartbeats 8000000 in
theorem k_Mod_seal (l : Launch) (dC : Nat → ClassId) (dI : Nat → Nat → Nat) (cI cR cZ : ClassId) (b tP tN : Nat) {x0 : Nat} {x1 : Int32} {V : gx_M} {q : (Int32 × gx_M)} (hk0 : mx_kd x0 = 6) (h : F_Mod_seal x0 x1 V = some q) : mx_C l dC dI cI cR cZ b tP tN y_Mod_seal w_Mod_seal rm_Mod_seal [.ref (b + x0), .int x1] V (some (.int q.1)) q.2 := by
  refine gx_start (cc := b_Mod_seal) (maxL := 3) (ret := rt_Mod_seal) (by decide) rfl (Nat.le_of_ble_eq_true rfl) ?_
  intro p e s m args below meth c ls hx hb hr hts hown hlk hml hl hP hK hX hS
  have hts : ∀ w ∈ cx_tb, w.before args s = true := fun w hw => hts w (List.mem_cons_of_mem _ hw)
  have hown : s.vm.findClass "GasLedgerModel" = some m.cls := hown
  have hl : lv_has ls 3 [(0, .ref (b + x0)), (1, .int x1)] := hl
  have B_67 : ∀ (nf : Nat), ∀ (x0 : Nat) (x2 : Int32), mx_kd x0 = 6 → ∀ (V : gx_M) (H : Heap) (locs : List Loc) (ls : Array Slot), lv_has ls 3 [(0, .ref (b + x0)), (2, .int x2)] → va_P (dC, dI) cx_cl (gx_w b 22 (gx_v (mx_sh cI cZ b) V)) H → va_S (gx_A b 22) s.heap H locs → F_Mod_seal_67 nf x0 x2 V = some q → W p l e (headSpec w_Mod_seal rm_Mod_seal).room s m args below meth c H locs 0 0 (MQ below (gx_Q (dC, dI) cx_cl b 22 (mx_sh cI cZ b) (some (.int q.1)) q.2) args s 0 0 (gx_A b 22)) (F0 m 67 ls []) := by
    intro nf
    induction nf with
    | zero => intro x0 x2 hk_x0 V H locs ls hl hP hS h; cases h
    | succ nf ihl =>
      intro x0 x2 hk_x0 V H locs ls hl hP hS h
      rw [F_Mod_seal_67] at h
      refine lv_iload_n (pc := 67) hx hb d_Mod_seal_67 rfl (lv_at hl 1 rfl) ?_
      refine lv_sipush (pc := 68) (v := (576 : Int32)) hx hb d_Mod_seal_68 (by decide) ?_
      refine lv_icmp_ge (pc := 71) (tgt := 92) hx hb d_Mod_seal_71 (by decide) (fun g1 => ?_) (fun g1 => ?_)
      · have h := gx_pos g1 h
        refine lv_iconst (pc := 92) (v := (0 : Int32)) hx hb d_Mod_seal_92 (by decide) ?_
        exact gx_iret (free := fun _ => True) hx hb hr hlk hP hS d_Mod_seal_93 (by cases h; rfl) (by cases h; rfl)
      · have h := gx_neg g1 h
        refine lv_aload_n (pc := 74) hx hb d_Mod_seal_74 rfl (lv_at hl 0 rfl) ?_
        refine va_get (pc := 75) (D := (dC, dI)) (ci := 6) (C := R_Mod) (T := T_Mod) (N := 39) hx hb hts in_Mod hown hK hP x0 (gx_at (mx_lt hk_x0 (by decide)) (sh_Mod cI cZ b hk_x0 _)) rfl 0 (by decide) (hts _ tb_601) (fun _ h9 => h9) rfl d_Mod_seal_75 ?_
        refine lv_iload_n (pc := 78) hx hb d_Mod_seal_78 rfl (lv_at hl 1 rfl) ?_
        refine lv_aload_n (pc := 79) hx hb d_Mod_seal_79 rfl (lv_at hl 0 rfl) ?_
        refine va_get (pc := 80) (D := (dC, dI)) (ci := 6) (C := R_Mod) (T := T_Mod) (N := 39) hx hb hts in_Mod hown hK hP x0 (gx_at (mx_lt hk_x0 (by decide)) (sh_Mod cI cZ b hk_x0 _)) rfl 1 (by decide) (hts _ tb_602) (fun _ h9 => h9) rfl d_Mod_seal_80 ?_
        refine lv_iload_n (pc := 83) hx hb d_Mod_seal_83 rfl (lv_at hl 1 rfl) ?_
        obtain ⟨g2, h⟩ := gx_if h
        refine va_iald (pc := 84) hx hb hK hP (x0 + 2) 0 (gx_at (mx_lt (to_Mod_before hk_x0) (by decide)) (mh_arr cI cZ b (n := 576) (to_Mod_before hk_x0) (by decide) _)) rfl g2 d_Mod_seal_84 ?_
        obtain ⟨g3, h⟩ := gx_if h
        obtain ⟨V1, g4, h⟩ := gx_lt h
        refine gx_asi (pc := 85) hx hb hK hP hS (x0 + 1) 0 (mx_lt (to_Mod_now hk_x0) (by decide)) (fun _ => mh_arr cI cZ b (n := 576) (to_Mod_now hk_x0) (by decide) _) rfl g3 d_Mod_seal_85 g4 (fun H locs hP hS => ?_)
        refine lv_iinc (pc := 86) (k := 1) (lv' := [(2, .int (x2 + (1 : Int32))), (0, .ref (b + x0))]) hx hb d_Mod_seal_86 hl rfl (gx_inc (by decide)) (by decide) rfl (fun ls hl => ?_)
        refine lv_goto (pc := 89) (tgt := 67) hx hb d_Mod_seal_89 (by decide) ?_
        exact ihl _ _ hk_x0 _ _ _ _ (lv_sub hl [1, 0] rfl) hP hS h
  unfold F_Mod_seal at h
  refine lv_aload_n (pc := 0) hx hb d_Mod_seal_0 rfl (lv_at hl 0 rfl) ?_
  refine va_get (pc := 1) (D := (dC, dI)) (ci := 6) (C := R_Mod) (T := T_Mod) (N := 39) hx hb hts in_Mod hown hK hP x0 (gx_at (mx_lt hk0 (by decide)) (sh_Mod cI cZ b hk0 _)) rfl 4 (by decide) (hts _ tb_605) (fun _ h9 => h9) rfl d_Mod_seal_1 ?_
  refine lv_if_ne (pc := 4) (tgt := 9) hx hb d_Mod_seal_4 (by decide) (fun g5 => ?_) (fun g5 => ?_)
  · have h := gx_neg g5 h
    refine lv_aload_n (pc := 9) hx hb d_Mod_seal_9 rfl (lv_at hl 0 rfl) ?_
    refine lv_iconst (pc := 10) (v := (0 : Int32)) hx hb d_Mod_seal_10 (by decide) ?_
    obtain ⟨V2, g6, h⟩ := gx_lt h
    refine gy_put (pc := 11) (D := (dC, dI)) (ci := 6) (C := R_Mod) (T := T_Mod) (NF := 39) (ty := .boolean) hx hb hts in_Mod t_Mod ty_Mod nm_Mod hown hK hP hS x0 (mx_lt hk0 (by decide)) (sh_Mod cI cZ b hk0 _) rfl 4 (by decide) (hts _ tb_605) (fun _ h9 => h9) rfl (by decide +kernel) rfl rfl (Nat.le_of_ble_eq_true rfl) 4 (sh_Mod cI cZ b hk0 _) d_Mod_seal_11 g6 (fun H locs hP hS => ?_)
    refine lv_aload_n (pc := 14) hx hb d_Mod_seal_14 rfl (lv_at hl 0 rfl) ?_
    refine va_get (pc := 15) (D := (dC, dI)) (ci := 6) (C := R_Mod) (T := T_Mod) (N := 39) hx hb hts in_Mod hown hK hP x0 (gx_at (mx_lt hk0 (by decide)) (sh_Mod cI cZ b hk0 _)) rfl 0 (by decide) (hts _ tb_601) (fun _ h9 => h9) rfl d_Mod_seal_15 ?_
    refine lv_bipush (pc := 18) (v := (36 : Int32)) hx hb d_Mod_seal_18 (by decide) ?_
    refine lv_aload_n (pc := 20) hx hb d_Mod_seal_20 rfl (lv_at hl 0 rfl) ?_
    refine va_get (pc := 21) (D := (dC, dI)) (ci := 6) (C := R_Mod) (T := T_Mod) (N := 39) hx hb hts in_Mod hown hK hP x0 (gx_at (mx_lt hk0 (by decide)) (sh_Mod cI cZ b hk0 _)) rfl 5 (by decide) (hts _ tb_606) (fun _ h9 => h9) rfl d_Mod_seal_21 ?_
    refine lv_imul (pc := 24) hx hb d_Mod_seal_24 ?_
    refine lv_dup2_11 (pc := 25) hx hb d_Mod_seal_25 rfl rfl ?_
    obtain ⟨g7, h⟩ := gx_if h
    refine va_iald (pc := 26) hx hb hK hP (x0 + 1) 0 (gx_at (mx_lt (to_Mod_now hk0) (by decide)) (mh_arr cI cZ b (n := 576) (to_Mod_now hk0) (by decide) _)) rfl g7 d_Mod_seal_26 ?_
    refine lv_bipush (pc := 27) (v := (50 : Int32)) hx hb d_Mod_seal_27 (by decide) ?_
    refine lv_iadd (pc := 29) hx hb d_Mod_seal_29 ?_
    obtain ⟨g8, h⟩ := gx_if h
    obtain ⟨V3, g9, h⟩ := gx_lt h
    refine gx_asi (pc := 30) hx hb hK hP hS (x0 + 1) 0 (mx_lt (to_Mod_now hk0) (by decide)) (fun _ => mh_arr cI cZ b (n := 576) (to_Mod_now hk0) (by decide) _) rfl g8 d_Mod_seal_30 g9 (fun H locs hP hS => ?_)
    refine lv_iload_n (pc := 31) hx hb d_Mod_seal_31 rfl (lv_at hl 1 rfl) ?_
    refine lv_if_ne (pc := 32) (tgt := 55) hx hb d_Mod_seal_32 (by decide) (fun g10 => ?_) (fun g10 => ?_)
    · have h := gx_neg g10 h
      refine lv_aload_n (pc := 55) hx hb d_Mod_seal_55 rfl (lv_at hl 0 rfl) ?_
      refine lv_dup (pc := 56) hx hb d_Mod_seal_56 rfl ?_
      refine va_get (pc := 57) (D := (dC, dI)) (ci := 6) (C := R_Mod) (T := T_Mod) (N := 39) hx hb hts in_Mod hown hK hP x0 (gx_at (mx_lt hk0 (by decide)) (sh_Mod cI cZ b hk0 _)) rfl 9 (by decide) (hts _ tb_610) (fun _ h9 => h9) rfl d_Mod_seal_57 ?_
      refine lv_iconst (pc := 60) (v := (1 : Int32)) hx hb d_Mod_seal_60 (by decide) ?_
      refine lv_iadd (pc := 61) hx hb d_Mod_seal_61 ?_
      obtain ⟨V4, g11, h⟩ := gx_lt h
      refine gy_put (pc := 62) (D := (dC, dI)) (ci := 6) (C := R_Mod) (T := T_Mod) (NF := 39) (ty := .int) hx hb hts in_Mod t_Mod ty_Mod nm_Mod hown hK hP hS x0 (mx_lt hk0 (by decide)) (sh_Mod cI cZ b hk0 _) rfl 9 (by decide) (hts _ tb_610) (fun _ h9 => h9) rfl (by decide +kernel) rfl rfl (Nat.le_of_ble_eq_true rfl) 9 (sh_Mod cI cZ b hk0 _) d_Mod_seal_62 g11 (fun H locs hP hS => ?_)
      refine lv_iconst (pc := 65) (v := (0 : Int32)) hx hb d_Mod_seal_65 (by decide) ?_
      refine lv_istore_n (pc := 66) (lv' := [(2, .int (0 : Int32)), (0, .ref (b + x0)), (1, .int x1)]) hx hb d_Mod_seal_66 rfl hl (by decide) rfl (fun ls hl => ?_)
      exact B_67 1000  _ _ hk0 _ _ _ _ (lv_sub hl [1, 0] rfl) hP hS h
    · have h := gx_pos g10 h
      refine lv_aload_n (pc := 35) hx hb d_Mod_seal_35 rfl (lv_at hl 0 rfl) ?_
      refine lv_dup (pc := 36) hx hb d_Mod_seal_36 rfl ?_
      refine va_get (pc := 37) (D := (dC, dI)) (ci := 6) (C := R_Mod) (T := T_Mod) (N := 39) hx hb hts in_Mod hown hK hP x0 (gx_at (mx_lt hk0 (by decide)) (sh_Mod cI cZ b hk0 _)) rfl 8 (by decide) (hts _ tb_609) (fun _ h9 => h9) rfl d_Mod_seal_37 ?_
      refine lv_iconst (pc := 40) (v := (1 : Int32)) hx hb d_Mod_seal_40 (by decide) ?_
      refine lv_iadd (pc := 41) hx hb d_Mod_seal_41 ?_
      obtain ⟨V5, g12, h⟩ := gx_lt h
      refine gy_put (pc := 42) (D := (dC, dI)) (ci := 6) (C := R_Mod) (T := T_Mod) (NF := 39) (ty := .int) hx hb hts in_Mod t_Mod ty_Mod nm_Mod hown hK hP hS x0 (mx_lt hk0 (by decide)) (sh_Mod cI cZ b hk0 _) rfl 8 (by decide) (hts _ tb_609) (fun _ h9 => h9) rfl (by decide +kernel) rfl rfl (Nat.le_of_ble_eq_true rfl) 8 (sh_Mod cI cZ b hk0 _) d_Mod_seal_42 g12 (fun H locs hP hS => ?_)
      refine lv_aload_n (pc := 45) hx hb d_Mod_seal_45 rfl (lv_at hl 0 rfl) ?_
      refine lv_aload_n (pc := 46) hx hb d_Mod_seal_46 rfl (lv_at hl 0 rfl) ?_
      refine va_get (pc := 47) (D := (dC, dI)) (ci := 6) (C := R_Mod) (T := T_Mod) (N := 39) hx hb hts in_Mod hown hK hP x0 (gx_at (mx_lt hk0 (by decide)) (sh_Mod cI cZ b hk0 _)) rfl 6 (by decide) (hts _ tb_607) (fun _ h9 => h9) rfl d_Mod_seal_47 ?_
      obtain ⟨V6, g13, h⟩ := gx_lt h
      refine gy_put (pc := 50) (D := (dC, dI)) (ci := 6) (C := R_Mod) (T := T_Mod) (NF := 39) (ty := .int) hx hb hts in_Mod t_Mod ty_Mod nm_Mod hown hK hP hS x0 (mx_lt hk0 (by decide)) (sh_Mod cI cZ b hk0 _) rfl 7 (by decide) (hts _ tb_608) (fun _ h9 => h9) rfl (by decide +kernel) rfl rfl (Nat.le_of_ble_eq_true rfl) 7 (sh_Mod cI cZ b hk0 _) d_Mod_seal_50 g13 (fun H locs hP hS => ?_)
      refine lv_iconst (pc := 53) (v := (1 : Int32)) hx hb d_Mod_seal_53 (by decide) ?_
      exact gx_iret (free := fun _ => True) hx hb hr hlk hP hS d_Mod_seal_54 (by cases h; rfl) (by cases h; rfl)
  · have h := gx_pos g5 h
    refine lv_iconst (pc := 7) (v := (-1 : Int32)) hx hb d_Mod_seal_7 (by decide) ?_
    exact gx_iret (free := fun _ => True) hx hb hr hlk hP hS d_Mod_seal_8 (by cases h; rfl) (by cases h; rfl)
abbrev rm_Mod_look : Room := { frames := 5, cells := 0, slots := 0, locals := 119 }
def F_Mod_look (x0 : Nat) (x1 : Int32) (x2 : Int32) (V : gx_M) : Option (Int32 × gx_M) := ((F_Mod_in x1 (16 : Int32) V).bind fun q1 => (if q1.1 = 0 then some ((-1 : Int32), q1.2) else ((F_Mod_in x2 (5 : Int32) q1.2).bind fun q2 => (if q2.1 = 0 then some ((-1 : Int32), q2.2) else (if (3 : Int32) ≤ x2 then (if x2 = (3 : Int32) then ((F_Mod_slotsRoot x0 x1 q2.2).bind fun q4 => some (q4.1, q4.2)) else ((F_Mod_valueOf x0 x1 q2.2).bind fun q3 => some (q3.1, q3.2))) else (if gx_ib (((36 : Int32) * x1) + x2) 576 then some ((q2.2 (x0 + 1) (((36 : Int32) * x1) + x2).toNatClampNeg), q2.2) else none))))))
set_option maxRecDepth 100000 in
set_option maxHeartbeats 8000000 in
theorem k_Mod_look (l : Launch) (dC : Nat → ClassId) (dI : Nat → Nat → Nat) (cI cR cZ : ClassId) (b tP tN : Nat) {x0 : Nat} {x1 : Int32} {x2 : Int32} {V : gx_M} {q : (Int32 × gx_M)} (hk0 : mx_kd x0 = 6) (h : F_Mod_look x0 x1 x2 V = some q) : mx_C l dC dI cI cR cZ b tP tN y_Mod_look w_Mod_look rm_Mod_look [.ref (b + x0), .int x1, .int x2] V (some (.int q.1)) q.2 := by
  refine gx_start (cc := b_Mod_look) (maxL := 3) (ret := rt_Mod_look) (by decide) rfl (Nat.le_of_ble_eq_true rfl) ?_
  intro p e s m args below meth c ls hx hb hr hts hown hlk hml hl hP hK hX hS
  have hts : ∀ w ∈ cx_tb, w.before args s = true := fun w hw => hts w (List.mem_cons_of_mem _ hw)
  have hown : s.vm.findClass "GasLedgerModel" = some m.cls := hown
  have hl : lv_has ls 3 [(0, .ref (b + x0)), (1, .int x1), (2, .int x2)] := hl
  unfold F_Mod_look at h
  refine lv_iload_n (pc := 0) hx hb d_Mod_look_0 rfl (lv_at hl 1 rfl) ?_
  refine lv_bipush (pc := 1) (v := (16 : Int32)) hx hb d_Mod_look_1 (by decide) ?_
  obtain ⟨q1, g1, h⟩ := gx_bd h
  refine gx_ci (pc := 3) (va_runS (As := [.int x1, .int (16 : Int32)]) (rest := []) ⟨hx, hb, hml, hown, hts⟩ (k_Mod_in l dC dI cI cR cZ b tP tN  g1) (gx_cs 2 hts cd_Mod_in tb_50 tb_724 tb_725 rfl rfl ⟨by decide, by decide, by decide +kernel⟩ ⟨Nat.le_of_ble_eq_true rfl, Nat.le_of_ble_eq_true rfl⟩) (gy_pre (mx_XX b) hX hK hP hS) rfl rfl hl.1 rfl (lv_room (Nat.le_of_ble_eq_true rfl)) d_Mod_look_3 ⟨Nat.zero_le _, Nat.zero_le _⟩) hS (fun H locs hP hS => ?_)
  refine lv_if_eq (pc := 6) (tgt := 17) hx hb d_Mod_look_6 (by decide) (fun g2 => ?_) (fun g2 => ?_)
  · have h := gx_pos g2 h
    refine lv_iconst (pc := 17) (v := (-1 : Int32)) hx hb d_Mod_look_17 (by decide) ?_
    exact gx_iret (free := fun _ => True) hx hb hr hlk hP hS d_Mod_look_18 (by cases h; rfl) (by cases h; rfl)
  · have h := gx_neg g2 h
    refine lv_iload_n (pc := 9) hx hb d_Mod_look_9 rfl (lv_at hl 2 rfl) ?_
    refine lv_iconst (pc := 10) (v := (5 : Int32)) hx hb d_Mod_look_10 (by decide) ?_
    obtain ⟨q2, g3, h⟩ := gx_bd h
    refine gx_ci (pc := 11) (va_runS (As := [.int x2, .int (5 : Int32)]) (rest := []) ⟨hx, hb, hml, hown, hts⟩ (k_Mod_in l dC dI cI cR cZ b tP tN  g3) (gx_cs 2 hts cd_Mod_in tb_50 tb_724 tb_725 rfl rfl ⟨by decide, by decide, by decide +kernel⟩ ⟨Nat.le_of_ble_eq_true rfl, Nat.le_of_ble_eq_true rfl⟩) (gy_pre (mx_XX b) hX hK hP hS) rfl rfl hl.1 rfl (lv_room (Nat.le_of_ble_eq_true rfl)) d_Mod_look_11 ⟨Nat.zero_le _, Nat.zero_le _⟩) hS (fun H locs hP hS => ?_)
    refine lv_if_ne (pc := 14) (tgt := 19) hx hb d_Mod_look_14 (by decide) (fun g4 => ?_) (fun g4 => ?_)
    · have h := gx_neg g4 h
      refine lv_iload_n (pc := 19) hx hb d_Mod_look_19 rfl (lv_at hl 2 rfl) ?_
      refine lv_iconst (pc := 20) (v := (3 : Int32)) hx hb d_Mod_look_20 (by decide) ?_
      refine lv_icmp_ge (pc := 21) (tgt := 38) hx hb d_Mod_look_21 (by decide) (fun g5 => ?_) (fun g5 => ?_)
      · have h := gx_pos g5 h
        refine lv_iload_n (pc := 38) hx hb d_Mod_look_38 rfl (lv_at hl 2 rfl) ?_
        refine lv_iconst (pc := 39) (v := (3 : Int32)) hx hb d_Mod_look_39 (by decide) ?_
        refine lv_icmp_ne (pc := 40) (tgt := 51) hx hb d_Mod_look_40 (by decide) (fun g6 => ?_) (fun g6 => ?_)
        · have h := gx_neg g6 h
          refine lv_aload_n (pc := 51) hx hb d_Mod_look_51 rfl (lv_at hl 0 rfl) ?_
          refine lv_iload_n (pc := 52) hx hb d_Mod_look_52 rfl (lv_at hl 1 rfl) ?_
          obtain ⟨q3, g7, h⟩ := gx_bd h
          refine gx_ci (pc := 53) (va_runV (C := "GasLedgerModel") (As := [.int x1]) (rest := []) ⟨hx, hb, hml, hown, hts⟩ (k_Mod_valueOf l dC dI cI cR cZ b tP tN hk0 g7) (gx_cw 1 hts cd_Mod_valueOf tb_50 tb_740 tb_742 tb_20 rfl rfl ⟨by decide, by decide, by decide +kernel⟩ ⟨Nat.le_of_ble_eq_true rfl, Nat.le_of_ble_eq_true rfl⟩) (gy_preV (mx_XX b) hX hK hP hS (mx_lt hk0 (by decide)) (sh_Mod cI cZ b hk0 _) rfl) rfl rfl hl.1 rfl (lv_room (Nat.le_of_ble_eq_true rfl)) d_Mod_look_53 ⟨Nat.zero_le _, Nat.zero_le _⟩) hS (fun H locs hP hS => ?_)
          exact gx_iret (free := fun _ => True) hx hb hr hlk hP hS d_Mod_look_56 (by cases h; rfl) (by cases h; rfl)
        · have h := gx_pos g6 h
          refine lv_aload_n (pc := 43) hx hb d_Mod_look_43 rfl (lv_at hl 0 rfl) ?_
          refine lv_iload_n (pc := 44) hx hb d_Mod_look_44 rfl (lv_at hl 1 rfl) ?_
          obtain ⟨q4, g8, h⟩ := gx_bd h
          refine gx_ci (pc := 45) (va_runV (C := "GasLedgerModel") (As := [.int x1]) (rest := []) ⟨hx, hb, hml, hown, hts⟩ (k_Mod_slotsRoot l dC dI cI cR cZ b tP tN hk0 g8) (gx_cw 1 hts cd_Mod_slotsRoot tb_50 tb_748 tb_750 tb_21 rfl rfl ⟨by decide, by decide, by decide +kernel⟩ ⟨Nat.le_of_ble_eq_true rfl, Nat.le_of_ble_eq_true rfl⟩) (gy_preV (mx_XX b) hX hK hP hS (mx_lt hk0 (by decide)) (sh_Mod cI cZ b hk0 _) rfl) rfl rfl hl.1 rfl (lv_room (Nat.le_of_ble_eq_true rfl)) d_Mod_look_45 ⟨Nat.zero_le _, Nat.zero_le _⟩) hS (fun H locs hP hS => ?_)
          refine lv_goto (pc := 48) (tgt := 56) hx hb d_Mod_look_48 (by decide) ?_
          exact gx_iret (free := fun _ => True) hx hb hr hlk hP hS d_Mod_look_56 (by cases h; rfl) (by cases h; rfl)
      · have h := gx_neg g5 h
        refine lv_aload_n (pc := 24) hx hb d_Mod_look_24 rfl (lv_at hl 0 rfl) ?_
        refine va_get (pc := 25) (D := (dC, dI)) (ci := 6) (C := R_Mod) (T := T_Mod) (N := 39) hx hb hts in_Mod hown hK hP x0 (gx_at (mx_lt hk0 (by decide)) (sh_Mod cI cZ b hk0 _)) rfl 0 (by decide) (hts _ tb_601) (fun _ h9 => h9) rfl d_Mod_look_25 ?_
        refine lv_bipush (pc := 28) (v := (36 : Int32)) hx hb d_Mod_look_28 (by decide) ?_
        refine lv_iload_n (pc := 30) hx hb d_Mod_look_30 rfl (lv_at hl 1 rfl) ?_
        refine lv_imul (pc := 31) hx hb d_Mod_look_31 ?_
        refine lv_iload_n (pc := 32) hx hb d_Mod_look_32 rfl (lv_at hl 2 rfl) ?_
        refine lv_iadd (pc := 33) hx hb d_Mod_look_33 ?_
        obtain ⟨g9, h⟩ := gx_if h
        refine va_iald (pc := 34) hx hb hK hP (x0 + 1) 0 (gx_at (mx_lt (to_Mod_now hk0) (by decide)) (mh_arr cI cZ b (n := 576) (to_Mod_now hk0) (by decide) _)) rfl g9 d_Mod_look_34 ?_
        refine lv_goto (pc := 35) (tgt := 56) hx hb d_Mod_look_35 (by decide) ?_
        exact gx_iret (free := fun _ => True) hx hb hr hlk hP hS d_Mod_look_56 (by cases h; rfl) (by cases h; rfl)
    · have h := gx_pos g4 h
      refine lv_iconst (pc := 17) (v := (-1 : Int32)) hx hb d_Mod_look_17 (by decide) ?_
      exact gx_iret (free := fun _ => True) hx hb hr hlk hP hS d_Mod_look_18 (by cases h; rfl) (by cases h; rfl)
abbrev rm_Mod_slot : Room := { frames := 1, cells := 0, slots := 0, locals := 21 }
def F_Mod_slot (x0 : Nat) (x1 : Int32) (x2 : Int32) (V : gx_M) : Option (Int32 × gx_M) := ((F_Mod_in x1 (16 : Int32) V).bind fun q1 => (if q1.1 = 0 then some ((0 : Int32), q1.2) else ((F_Mod_in x2 (8 : Int32) q1.2).bind fun q2 => (if q2.1 = 0 then some ((0 : Int32), q2.2) else (if gx_ib ((((36 : Int32) * x1) + (27 : Int32)) + x2) 576 then some ((q2.2 (x0 + 1) ((((36 : Int32) * x1) + (27 : Int32)) + x2).toNatClampNeg), q2.2) else none)))))
set_option maxRecDepth 100000 in
set_option maxHeartbeats 8000000 in
theorem k_Mod_slot (l : Launch) (dC : Nat → ClassId) (dI : Nat → Nat → Nat) (cI cR cZ : ClassId) (b tP tN : Nat) {x0 : Nat} {x1 : Int32} {x2 : Int32} {V : gx_M} {q : (Int32 × gx_M)} (hk0 : mx_kd x0 = 6) (h : F_Mod_slot x0 x1 x2 V = some q) : mx_C l dC dI cI cR cZ b tP tN y_Mod_slot w_Mod_slot rm_Mod_slot [.ref (b + x0), .int x1, .int x2] V (some (.int q.1)) q.2 := by
  refine gx_start (cc := b_Mod_slot) (maxL := 3) (ret := rt_Mod_slot) (by decide) rfl (Nat.le_of_ble_eq_true rfl) ?_
  intro p e s m args below meth c ls hx hb hr hts hown hlk hml hl hP hK hX hS
  have hts : ∀ w ∈ cx_tb, w.before args s = true := fun w hw => hts w (List.mem_cons_of_mem _ hw)
  have hown : s.vm.findClass "GasLedgerModel" = some m.cls := hown
  have hl : lv_has ls 3 [(0, .ref (b + x0)), (1, .int x1), (2, .int x2)] := hl
  unfold F_Mod_slot at h
  refine lv_iload_n (pc := 0) hx hb d_Mod_slot_0 rfl (lv_at hl 1 rfl) ?_
  refine lv_bipush (pc := 1) (v := (16 : Int32)) hx hb d_Mod_slot_1 (by decide) ?_
  obtain ⟨q1, g1, h⟩ := gx_bd h
  refine gx_ci (pc := 3) (va_runS (As := [.int x1, .int (16 : Int32)]) (rest := []) ⟨hx, hb, hml, hown, hts⟩ (k_Mod_in l dC dI cI cR cZ b tP tN  g1) (gx_cs 2 hts cd_Mod_in tb_50 tb_724 tb_725 rfl rfl ⟨by decide, by decide, by decide +kernel⟩ ⟨Nat.le_of_ble_eq_true rfl, Nat.le_of_ble_eq_true rfl⟩) (gy_pre (mx_XX b) hX hK hP hS) rfl rfl hl.1 rfl (lv_room (Nat.le_of_ble_eq_true rfl)) d_Mod_slot_3 ⟨Nat.zero_le _, Nat.zero_le _⟩) hS (fun H locs hP hS => ?_)
  refine lv_if_eq (pc := 6) (tgt := 35) hx hb d_Mod_slot_6 (by decide) (fun g2 => ?_) (fun g2 => ?_)
  · have h := gx_pos g2 h
    refine lv_iconst (pc := 35) (v := (0 : Int32)) hx hb d_Mod_slot_35 (by decide) ?_
    exact gx_iret (free := fun _ => True) hx hb hr hlk hP hS d_Mod_slot_36 (by cases h; rfl) (by cases h; rfl)
  · have h := gx_neg g2 h
    refine lv_iload_n (pc := 9) hx hb d_Mod_slot_9 rfl (lv_at hl 2 rfl) ?_
    refine lv_bipush (pc := 10) (v := (8 : Int32)) hx hb d_Mod_slot_10 (by decide) ?_
    obtain ⟨q2, g3, h⟩ := gx_bd h
    refine gx_ci (pc := 12) (va_runS (As := [.int x2, .int (8 : Int32)]) (rest := []) ⟨hx, hb, hml, hown, hts⟩ (k_Mod_in l dC dI cI cR cZ b tP tN  g3) (gx_cs 2 hts cd_Mod_in tb_50 tb_724 tb_725 rfl rfl ⟨by decide, by decide, by decide +kernel⟩ ⟨Nat.le_of_ble_eq_true rfl, Nat.le_of_ble_eq_true rfl⟩) (gy_pre (mx_XX b) hX hK hP hS) rfl rfl hl.1 rfl (lv_room (Nat.le_of_ble_eq_true rfl)) d_Mod_slot_12 ⟨Nat.zero_le _, Nat.zero_le _⟩) hS (fun H locs hP hS => ?_)
    refine lv_if_eq (pc := 15) (tgt := 35) hx hb d_Mod_slot_15 (by decide) (fun g4 => ?_) (fun g4 => ?_)
    · have h := gx_pos g4 h
      refine lv_iconst (pc := 35) (v := (0 : Int32)) hx hb d_Mod_slot_35 (by decide) ?_
      exact gx_iret (free := fun _ => True) hx hb hr hlk hP hS d_Mod_slot_36 (by cases h; rfl) (by cases h; rfl)
    · have h := gx_neg g4 h
      refine lv_aload_n (pc := 18) hx hb d_Mod_slot_18 rfl (lv_at hl 0 rfl) ?_
      refine va_get (pc := 19) (D := (dC, dI)) (ci := 6) (C := R_Mod) (T := T_Mod) (N := 39) hx hb hts in_Mod hown hK hP x0 (gx_at (mx_lt hk0 (by decide)) (sh_Mod cI cZ b hk0 _)) rfl 0 (by decide) (hts _ tb_601) (fun _ h9 => h9) rfl d_Mod_slot_19 ?_
      refine lv_bipush (pc := 22) (v := (36 : Int32)) hx hb d_Mod_slot_22 (by decide) ?_
      refine lv_iload_n (pc := 24) hx hb d_Mod_slot_24 rfl (lv_at hl 1 rfl) ?_
      refine lv_imul (pc := 25) hx hb d_Mod_slot_25 ?_
      refine lv_bipush (pc := 26) (v := (27 : Int32)) hx hb d_Mod_slot_26 (by decide) ?_
      refine lv_iadd (pc := 28) hx hb d_Mod_slot_28 ?_
      refine lv_iload_n (pc := 29) hx hb d_Mod_slot_29 rfl (lv_at hl 2 rfl) ?_
      refine lv_iadd (pc := 30) hx hb d_Mod_slot_30 ?_
      obtain ⟨g5, h⟩ := gx_if h
      refine va_iald (pc := 31) hx hb hK hP (x0 + 1) 0 (gx_at (mx_lt (to_Mod_now hk0) (by decide)) (mh_arr cI cZ b (n := 576) (to_Mod_now hk0) (by decide) _)) rfl g5 d_Mod_slot_31 ?_
      refine lv_goto (pc := 32) (tgt := 36) hx hb d_Mod_slot_32 (by decide) ?_
      exact gx_iret (free := fun _ => True) hx hb hr hlk hP hS d_Mod_slot_36 (by cases h; rfl) (by cases h; rfl)
abbrev rm_Mod_word : Room := { frames := 1, cells := 0, slots := 0, locals := 21 }
def F_Mod_word (x0 : Nat) (x1 : Int32) (x2 : Int32) (V : gx_M) : Option (Int32 × gx_M) := ((F_Mod_in x1 (16 : Int32) V).bind fun q1 => (if q1.1 = 0 then some ((0 : Int32), q1.2) else (if x2 < 0 then some ((0 : Int32), q1.2) else (if gx_ib (((36 : Int32) * x1) + (2 : Int32)) 576 then (if (q1.2 (x0 + 1) (((36 : Int32) * x1) + (2 : Int32)).toNatClampNeg) ≤ x2 then some ((0 : Int32), q1.2) else (if gx_ib ((((36 : Int32) * x1) + (3 : Int32)) + x2) 576 then some ((q1.2 (x0 + 1) ((((36 : Int32) * x1) + (3 : Int32)) + x2).toNatClampNeg), q1.2) else none)) else none))))
set_option maxRecDepth 100000 in
set_option maxHeartbeats 8000000 in
theorem k_Mod_word (l : Launch) (dC : Nat → ClassId) (dI : Nat → Nat → Nat) (cI cR cZ : ClassId) (b tP tN : Nat) {x0 : Nat} {x1 : Int32} {x2 : Int32} {V : gx_M} {q : (Int32 × gx_M)} (hk0 : mx_kd x0 = 6) (h : F_Mod_word x0 x1 x2 V = some q) : mx_C l dC dI cI cR cZ b tP tN y_Mod_word w_Mod_word rm_Mod_word [.ref (b + x0), .int x1, .int x2] V (some (.int q.1)) q.2 := by
  refine gx_start (cc := b_Mod_word) (maxL := 3) (ret := rt_Mod_word) (by decide) rfl (Nat.le_of_ble_eq_true rfl) ?_
  intro p e s m args below meth c ls hx hb hr hts hown hlk hml hl hP hK hX hS
  have hts : ∀ w ∈ cx_tb, w.before args s = true := fun w hw => hts w (List.mem_cons_of_mem _ hw)
  have hown : s.vm.findClass "GasLedgerModel" = some m.cls := hown
  have hl : lv_has ls 3 [(0, .ref (b + x0)), (1, .int x1), (2, .int x2)] := hl
  unfold F_Mod_word at h
  refine lv_iload_n (pc := 0) hx hb d_Mod_word_0 rfl (lv_at hl 1 rfl) ?_
  refine lv_bipush (pc := 1) (v := (16 : Int32)) hx hb d_Mod_word_1 (by decide) ?_
  obtain ⟨q1, g1, h⟩ := gx_bd h
  refine gx_ci (pc := 3) (va_runS (As := [.int x1, .int (16 : Int32)]) (rest := []) ⟨hx, hb, hml, hown, hts⟩ (k_Mod_in l dC dI cI cR cZ b tP tN  g1) (gx_cs 2 hts cd_Mod_in tb_50 tb_724 tb_725 rfl rfl ⟨by decide, by decide, by decide +kernel⟩ ⟨Nat.le_of_ble_eq_true rfl, Nat.le_of_ble_eq_true rfl⟩) (gy_pre (mx_XX b) hX hK hP hS) rfl rfl hl.1 rfl (lv_room (Nat.le_of_ble_eq_true rfl)) d_Mod_word_3 ⟨Nat.zero_le _, Nat.zero_le _⟩) hS (fun H locs hP hS => ?_)
  refine lv_if_eq (pc := 6) (tgt := 44) hx hb d_Mod_word_6 (by decide) (fun g2 => ?_) (fun g2 => ?_)
  · have h := gx_pos g2 h
    refine lv_iconst (pc := 44) (v := (0 : Int32)) hx hb d_Mod_word_44 (by decide) ?_
    exact gx_iret (free := fun _ => True) hx hb hr hlk hP hS d_Mod_word_45 (by cases h; rfl) (by cases h; rfl)
  · have h := gx_neg g2 h
    refine lv_iload_n (pc := 9) hx hb d_Mod_word_9 rfl (lv_at hl 2 rfl) ?_
    refine lv_if_lt (pc := 10) (tgt := 44) hx hb d_Mod_word_10 (by decide) (fun g3 => ?_) (fun g3 => ?_)
    · have h := gx_pos g3 h
      refine lv_iconst (pc := 44) (v := (0 : Int32)) hx hb d_Mod_word_44 (by decide) ?_
      exact gx_iret (free := fun _ => True) hx hb hr hlk hP hS d_Mod_word_45 (by cases h; rfl) (by cases h; rfl)
    · have h := gx_neg g3 h
      refine lv_iload_n (pc := 13) hx hb d_Mod_word_13 rfl (lv_at hl 2 rfl) ?_
      refine lv_aload_n (pc := 14) hx hb d_Mod_word_14 rfl (lv_at hl 0 rfl) ?_
      refine va_get (pc := 15) (D := (dC, dI)) (ci := 6) (C := R_Mod) (T := T_Mod) (N := 39) hx hb hts in_Mod hown hK hP x0 (gx_at (mx_lt hk0 (by decide)) (sh_Mod cI cZ b hk0 _)) rfl 0 (by decide) (hts _ tb_601) (fun _ h9 => h9) rfl d_Mod_word_15 ?_
      refine lv_bipush (pc := 18) (v := (36 : Int32)) hx hb d_Mod_word_18 (by decide) ?_
      refine lv_iload_n (pc := 20) hx hb d_Mod_word_20 rfl (lv_at hl 1 rfl) ?_
      refine lv_imul (pc := 21) hx hb d_Mod_word_21 ?_
      refine lv_iconst (pc := 22) (v := (2 : Int32)) hx hb d_Mod_word_22 (by decide) ?_
      refine lv_iadd (pc := 23) hx hb d_Mod_word_23 ?_
      obtain ⟨g4, h⟩ := gx_if h
      refine va_iald (pc := 24) hx hb hK hP (x0 + 1) 0 (gx_at (mx_lt (to_Mod_now hk0) (by decide)) (mh_arr cI cZ b (n := 576) (to_Mod_now hk0) (by decide) _)) rfl g4 d_Mod_word_24 ?_
      refine lv_icmp_ge (pc := 25) (tgt := 44) hx hb d_Mod_word_25 (by decide) (fun g5 => ?_) (fun g5 => ?_)
      · have h := gx_pos g5 h
        refine lv_iconst (pc := 44) (v := (0 : Int32)) hx hb d_Mod_word_44 (by decide) ?_
        exact gx_iret (free := fun _ => True) hx hb hr hlk hP hS d_Mod_word_45 (by cases h; rfl) (by cases h; rfl)
      · have h := gx_neg g5 h
        refine lv_aload_n (pc := 28) hx hb d_Mod_word_28 rfl (lv_at hl 0 rfl) ?_
        refine va_get (pc := 29) (D := (dC, dI)) (ci := 6) (C := R_Mod) (T := T_Mod) (N := 39) hx hb hts in_Mod hown hK hP x0 (gx_at (mx_lt hk0 (by decide)) (sh_Mod cI cZ b hk0 _)) rfl 0 (by decide) (hts _ tb_601) (fun _ h9 => h9) rfl d_Mod_word_29 ?_
        refine lv_bipush (pc := 32) (v := (36 : Int32)) hx hb d_Mod_word_32 (by decide) ?_
        refine lv_iload_n (pc := 34) hx hb d_Mod_word_34 rfl (lv_at hl 1 rfl) ?_
        refine lv_imul (pc := 35) hx hb d_Mod_word_35 ?_
        refine lv_iconst (pc := 36) (v := (3 : Int32)) hx hb d_Mod_word_36 (by decide) ?_
        refine lv_iadd (pc := 37) hx hb d_Mod_word_37 ?_
        refine lv_iload_n (pc := 38) hx hb d_Mod_word_38 rfl (lv_at hl 2 rfl) ?_
        refine lv_iadd (pc := 39) hx hb d_Mod_word_39 ?_
        obtain ⟨g6, h⟩ := gx_if h
        refine va_iald (pc := 40) hx hb hK hP (x0 + 1) 0 (gx_at (mx_lt (to_Mod_now hk0) (by decide)) (mh_arr cI cZ b (n := 576) (to_Mod_now hk0) (by decide) _)) rfl g6 d_Mod_word_40 ?_
        refine lv_goto (pc := 41) (tgt := 45) hx hb d_Mod_word_41 (by decide) ?_
        exact gx_iret (free := fun _ => True) hx hb hr hlk hP hS d_Mod_word_45 (by cases h; rfl) (by cases h; rfl)
