abbrev rm_Acc_codeNumber : Room := { frames := 1, cells := 0, slots := 0, locals := 22 }
def F_Acc_codeNumber_4 : Nat → Nat → Int32 → Int32 → Int32 → gx_M → Option (Int32 × gx_M)
  | 0, _, _, _, _, _ => none
  | nf + 1, x0, x1, x2, x3, V => (if gx_ib x1 16 then (if (V (x0 + 3) x1.toNatClampNeg) ≤ x3 then some (x2, V) else (if gx_ib ((x1 * (24 : Int32)) + x3) 384 then ((F_Com_mix x2 (V (x0 + 4) ((x1 * (24 : Int32)) + x3).toNatClampNeg) V).bind fun q1 => (F_Acc_codeNumber_4 nf  x0 x1 q1.1 (x3 + (1 : Int32)) q1.2)) else none)) else none)
def F_Acc_codeNumber (x0 : Nat) (x1 : Int32) (V : gx_M) : Option (Int32 × gx_M) := (F_Acc_codeNumber_4 100  x0 x1 (5 : Int32) (0 : Int32) V)
set_option maxRecDepth 100000 in
set_option maxHeartbeats 8000000 in
theorem k_Acc_codeNumber (l : Launch) (dC : Nat → ClassId) (dI : Nat → Nat → Nat) (cI cR cZ : ClassId) (b tP tN : Nat) {x0 : Nat} {x1 : Int32} {V : gx_M} {q : (Int32 × gx_M)} (hk0 : cx_kd x0 = 0) (h : F_Acc_codeNumber x0 x1 V = some q) : cx_C l dC dI cI cR cZ b tP tN y_Acc_codeNumber w_Acc_codeNumber rm_Acc_codeNumber [.ref (b + x0), .int x1] V (some (.int q.1)) q.2 := by
  refine gx_start (cc := b_Acc_codeNumber) (maxL := 4) (ret := rt_Acc_codeNumber) (by decide) rfl (Nat.le_of_ble_eq_true rfl) ?_
  intro p e s m args below meth c ls hx hb hr hts hown hlk hml hl hP hK hX hS
  have hts : ∀ w ∈ cx_tb, w.before args s = true := fun w hw => hts w (List.mem_cons_of_mem _ hw)
  have hown : s.vm.findClass "GasLedger$Accounts" = some m.cls := hown
  have hl : lv_has ls 4 [(0, .ref (b + x0)), (1, .int x1)] := hl
  have B_4 : ∀ (nf : Nat), ∀ (x0 : Nat) (x1 : Int32) (x2 : Int32) (x3 : Int32), cx_kd x0 = 0 → ∀ (V : gx_M) (H : Heap) (locs : List Loc) (ls : Array Slot), lv_has ls 4 [(0, .ref (b + x0)), (1, .int x1), (2, .int x2), (3, .int x3)] → va_P (dC, dI) cx_cl (gx_w b 97 (gx_v (cx_sh cI cR b) V)) H → va_S (gx_A b 97) s.heap H locs → F_Acc_codeNumber_4 nf x0 x1 x2 x3 V = some q → W p l e (headSpec w_Acc_codeNumber rm_Acc_codeNumber).room s m args below meth c H locs 0 0 (MQ below (gx_Q (dC, dI) cx_cl b 97 (cx_sh cI cR b) (some (.int q.1)) q.2) args s 0 0 (gx_A b 97)) (F0 m 4 ls []) := by
    intro nf
    induction nf with
    | zero => intro x0 x1 x2 x3 hk_x0 V H locs ls hl hP hS h; cases h
    | succ nf ihl =>
      intro x0 x1 x2 x3 hk_x0 V H locs ls hl hP hS h
      rw [F_Acc_codeNumber_4] at h
      refine lv_iload_n (pc := 4) hx hb d_Acc_codeNumber_4 rfl (lv_at hl 3 rfl) ?_
      refine lv_aload_n (pc := 5) hx hb d_Acc_codeNumber_5 rfl (lv_at hl 0 rfl) ?_
      refine va_get (pc := 6) (D := (dC, dI)) (ci := 0) (C := R_Acc) (T := T_Acc) (N := 6) hx hb hts in_Acc hown hK hP x0 (gx_at (cx_lt hk_x0 (by decide)) (sh_Acc cI cR b hk_x0 _)) rfl 2 (by decide) (hts _ tb_80) (fun _ h9 => h9) rfl d_Acc_codeNumber_6 ?_
      refine lv_iload_n (pc := 9) hx hb d_Acc_codeNumber_9 rfl (lv_at hl 1 rfl) ?_
      obtain ⟨g1, h⟩ := gx_if h
      refine va_iald (pc := 10) hx hb hK hP (x0 + 3) 0 (gx_at (cx_lt (to_Acc_sizes hk_x0) (by decide)) (sh_arr cI cR b (n := 16) (to_Acc_sizes hk_x0) _)) rfl g1 d_Acc_codeNumber_10 ?_
      refine lv_icmp_ge (pc := 11) (tgt := 36) hx hb d_Acc_codeNumber_11 (by decide) (fun g2 => ?_) (fun g2 => ?_)
      · have h := gx_pos g2 h
        refine lv_iload_n (pc := 36) hx hb d_Acc_codeNumber_36 rfl (lv_at hl 2 rfl) ?_
        exact gx_iret (free := fun _ => True) hx hb hr hlk hP hS d_Acc_codeNumber_37 (by cases h; rfl) (by cases h; rfl)
      · have h := gx_neg g2 h
        refine lv_iload_n (pc := 14) hx hb d_Acc_codeNumber_14 rfl (lv_at hl 2 rfl) ?_
        refine lv_aload_n (pc := 15) hx hb d_Acc_codeNumber_15 rfl (lv_at hl 0 rfl) ?_
        refine va_get (pc := 16) (D := (dC, dI)) (ci := 0) (C := R_Acc) (T := T_Acc) (N := 6) hx hb hts in_Acc hown hK hP x0 (gx_at (cx_lt hk_x0 (by decide)) (sh_Acc cI cR b hk_x0 _)) rfl 3 (by decide) (hts _ tb_83) (fun _ h9 => h9) rfl d_Acc_codeNumber_16 ?_
        refine lv_iload_n (pc := 19) hx hb d_Acc_codeNumber_19 rfl (lv_at hl 1 rfl) ?_
        refine lv_bipush (pc := 20) (v := (24 : Int32)) hx hb d_Acc_codeNumber_20 (by decide) ?_
        refine lv_imul (pc := 22) hx hb d_Acc_codeNumber_22 ?_
        refine lv_iload_n (pc := 23) hx hb d_Acc_codeNumber_23 rfl (lv_at hl 3 rfl) ?_
        refine lv_iadd (pc := 24) hx hb d_Acc_codeNumber_24 ?_
        obtain ⟨g3, h⟩ := gx_if h
        refine va_iald (pc := 25) hx hb hK hP (x0 + 4) 0 (gx_at (cx_lt (to_Acc_words hk_x0) (by decide)) (sh_arr cI cR b (n := 384) (to_Acc_words hk_x0) _)) rfl g3 d_Acc_codeNumber_25 ?_
        obtain ⟨q1, g4, h⟩ := gx_bd h
        refine gx_ci (pc := 26) (va_runS (As := [.int x2, .int (V (x0 + 4) ((x1 * (24 : Int32)) + x3).toNatClampNeg)]) (rest := []) ⟨hx, hb, hml, hown, hts⟩ (k_Com_mix l dC dI cI cR cZ b tP tN  g4) (gx_cs 2 hts cd_Com_mix tb_53 tb_546 tb_474 rfl rfl ⟨by decide, by decide, by decide +kernel⟩ ⟨Nat.le_of_ble_eq_true rfl, Nat.le_of_ble_eq_true rfl⟩) (gy_pre (cx_XX b tP tN) hX hK hP hS) rfl rfl hl.1 rfl (lv_room (Nat.le_of_ble_eq_true rfl)) d_Acc_codeNumber_26 ⟨Nat.zero_le _, Nat.zero_le _⟩) hS (fun H locs hP hS => ?_)
        refine lv_istore_n (pc := 29) (lv' := [(2, .int q1.1), (0, .ref (b + x0)), (1, .int x1), (3, .int x3)]) hx hb d_Acc_codeNumber_29 rfl hl (by decide) rfl (fun ls hl => ?_)
        refine lv_iinc (pc := 30) (k := 3) (lv' := [(3, .int (x3 + (1 : Int32))), (2, .int q1.1), (0, .ref (b + x0)), (1, .int x1)]) hx hb d_Acc_codeNumber_30 hl rfl (gx_inc (by decide)) (by decide) rfl (fun ls hl => ?_)
        refine lv_goto (pc := 33) (tgt := 4) hx hb d_Acc_codeNumber_33 (by decide) ?_
        exact ihl _ _ _ _ hk_x0 _ _ _ _ (lv_sub hl [2, 3, 1, 0] rfl) hP hS h
  unfold F_Acc_codeNumber at h
  refine lv_iconst (pc := 0) (v := (5 : Int32)) hx hb d_Acc_codeNumber_0 (by decide) ?_
  refine lv_istore_n (pc := 1) (lv' := [(2, .int (5 : Int32)), (0, .ref (b + x0)), (1, .int x1)]) hx hb d_Acc_codeNumber_1 rfl hl (by decide) rfl (fun ls hl => ?_)
  refine lv_iconst (pc := 2) (v := (0 : Int32)) hx hb d_Acc_codeNumber_2 (by decide) ?_
  refine lv_istore_n (pc := 3) (lv' := [(3, .int (0 : Int32)), (2, .int (5 : Int32)), (0, .ref (b + x0)), (1, .int x1)]) hx hb d_Acc_codeNumber_3 rfl hl (by decide) rfl (fun ls hl => ?_)
  exact B_4 100  _ _ _ _ hk0 _ _ _ _ (lv_sub hl [2, 3, 1, 0] rfl) hP hS h
abbrev rm_Acc_valueOf : Room := { frames := 11, cells := 0, slots := 0, locals := 585 }
def F_Acc_valueOf (x0 : Nat) (x1 : Int32) (V : gx_M) : Option (Int32 × gx_M) := (if gx_ib x1 16 then ((F_Com_mix (4 : Int32) (V (x0 + 1) x1.toNatClampNeg) V).bind fun q1 => (if gx_ib x1 16 then ((F_Com_mix q1.1 (q1.2 (x0 + 2) x1.toNatClampNeg) q1.2).bind fun q2 => ((F_Acc_codeNumber x0 x1 q2.2).bind fun q3 => ((F_Com_mix q2.1 q3.1 q3.2).bind fun q4 => ((F_Acc_slotsRoot x0 x1 q4.2).bind fun q5 => ((F_Com_mix q4.1 q5.1 q5.2).bind fun q6 => some (q6.1, q6.2)))))) else none)) else none)
set_option maxRecDepth 100000 in
set_option maxHeartbeats 8000000 in
theorem k_Acc_valueOf (l : Launch) (dC : Nat → ClassId) (dI : Nat → Nat → Nat) (cI cR cZ : ClassId) (b tP tN : Nat) {x0 : Nat} {x1 : Int32} {V : gx_M} {q : (Int32 × gx_M)} (hk0 : cx_kd x0 = 0) (h : F_Acc_valueOf x0 x1 V = some q) : cx_C l dC dI cI cR cZ b tP tN y_Acc_valueOf w_Acc_valueOf rm_Acc_valueOf [.ref (b + x0), .int x1] V (some (.int q.1)) q.2 := by
  refine gx_start (cc := b_Acc_valueOf) (maxL := 3) (ret := rt_Acc_valueOf) (by decide) rfl (Nat.le_of_ble_eq_true rfl) ?_
  intro p e s m args below meth c ls hx hb hr hts hown hlk hml hl hP hK hX hS
  have hts : ∀ w ∈ cx_tb, w.before args s = true := fun w hw => hts w (List.mem_cons_of_mem _ hw)
  have hown : s.vm.findClass "GasLedger$Accounts" = some m.cls := hown
  have hl : lv_has ls 3 [(0, .ref (b + x0)), (1, .int x1)] := hl
  unfold F_Acc_valueOf at h
  refine lv_iconst (pc := 0) (v := (4 : Int32)) hx hb d_Acc_valueOf_0 (by decide) ?_
  refine lv_aload_n (pc := 1) hx hb d_Acc_valueOf_1 rfl (lv_at hl 0 rfl) ?_
  refine va_get (pc := 2) (D := (dC, dI)) (ci := 0) (C := R_Acc) (T := T_Acc) (N := 6) hx hb hts in_Acc hown hK hP x0 (gx_at (cx_lt hk0 (by decide)) (sh_Acc cI cR b hk0 _)) rfl 0 (by decide) (hts _ tb_74) (fun _ h9 => h9) rfl d_Acc_valueOf_2 ?_
  refine lv_iload_n (pc := 5) hx hb d_Acc_valueOf_5 rfl (lv_at hl 1 rfl) ?_
  obtain ⟨g1, h⟩ := gx_if h
  refine va_iald (pc := 6) hx hb hK hP (x0 + 1) 0 (gx_at (cx_lt (to_Acc_balances hk0) (by decide)) (sh_arr cI cR b (n := 16) (to_Acc_balances hk0) _)) rfl g1 d_Acc_valueOf_6 ?_
  obtain ⟨q1, g2, h⟩ := gx_bd h
  refine gx_ci (pc := 7) (va_runS (As := [.int (4 : Int32), .int (V (x0 + 1) x1.toNatClampNeg)]) (rest := []) ⟨hx, hb, hml, hown, hts⟩ (k_Com_mix l dC dI cI cR cZ b tP tN  g2) (gx_cs 2 hts cd_Com_mix tb_53 tb_546 tb_474 rfl rfl ⟨by decide, by decide, by decide +kernel⟩ ⟨Nat.le_of_ble_eq_true rfl, Nat.le_of_ble_eq_true rfl⟩) (gy_pre (cx_XX b tP tN) hX hK hP hS) rfl rfl hl.1 rfl (lv_room (Nat.le_of_ble_eq_true rfl)) d_Acc_valueOf_7 ⟨Nat.zero_le _, Nat.zero_le _⟩) hS (fun H locs hP hS => ?_)
  refine lv_istore_n (pc := 10) (lv' := [(2, .int q1.1), (0, .ref (b + x0)), (1, .int x1)]) hx hb d_Acc_valueOf_10 rfl hl (by decide) rfl (fun ls hl => ?_)
  refine lv_iload_n (pc := 11) hx hb d_Acc_valueOf_11 rfl (lv_at hl 0 rfl) ?_
  refine lv_aload_n (pc := 12) hx hb d_Acc_valueOf_12 rfl (lv_at hl 1 rfl) ?_
  refine va_get (pc := 13) (D := (dC, dI)) (ci := 0) (C := R_Acc) (T := T_Acc) (N := 6) hx hb hts in_Acc hown hK hP x0 (gx_at (cx_lt hk0 (by decide)) (sh_Acc cI cR b hk0 _)) rfl 1 (by decide) (hts _ tb_77) (fun _ h9 => h9) rfl d_Acc_valueOf_13 ?_
  refine lv_iload_n (pc := 16) hx hb d_Acc_valueOf_16 rfl (lv_at hl 2 rfl) ?_
  obtain ⟨g3, h⟩ := gx_if h
  refine va_iald (pc := 17) hx hb hK hP (x0 + 2) 0 (gx_at (cx_lt (to_Acc_nonces hk0) (by decide)) (sh_arr cI cR b (n := 16) (to_Acc_nonces hk0) _)) rfl g3 d_Acc_valueOf_17 ?_
  obtain ⟨q2, g4, h⟩ := gx_bd h
  refine gx_ci (pc := 18) (va_runS (As := [.int q1.1, .int (q1.2 (x0 + 2) x1.toNatClampNeg)]) (rest := []) ⟨hx, hb, hml, hown, hts⟩ (k_Com_mix l dC dI cI cR cZ b tP tN  g4) (gx_cs 2 hts cd_Com_mix tb_53 tb_546 tb_474 rfl rfl ⟨by decide, by decide, by decide +kernel⟩ ⟨Nat.le_of_ble_eq_true rfl, Nat.le_of_ble_eq_true rfl⟩) (gy_pre (cx_XX b tP tN) hX hK hP hS) rfl rfl hl.1 rfl (lv_room (Nat.le_of_ble_eq_true rfl)) d_Acc_valueOf_18 ⟨Nat.zero_le _, Nat.zero_le _⟩) hS (fun H locs hP hS => ?_)
  refine lv_istore_n (pc := 21) (lv' := [(2, .int q2.1), (0, .ref (b + x0)), (1, .int x1)]) hx hb d_Acc_valueOf_21 rfl hl (by decide) rfl (fun ls hl => ?_)
  refine lv_iload_n (pc := 22) hx hb d_Acc_valueOf_22 rfl (lv_at hl 0 rfl) ?_
  refine lv_aload_n (pc := 23) hx hb d_Acc_valueOf_23 rfl (lv_at hl 1 rfl) ?_
  refine lv_iload_n (pc := 24) hx hb d_Acc_valueOf_24 rfl (lv_at hl 2 rfl) ?_
  obtain ⟨q3, g5, h⟩ := gx_bd h
  refine gx_ci (pc := 25) (va_runV (C := "GasLedger$Accounts") (As := [.int x1]) (rest := [.int q2.1]) ⟨hx, hb, hml, hown, hts⟩ (k_Acc_codeNumber l dC dI cI cR cZ b tP tN hk0 g5) (gx_cw 1 hts cd_Acc_codeNumber tb_46 tb_547 tb_549 tb_19 rfl rfl ⟨by decide, by decide, by decide +kernel⟩ ⟨Nat.le_of_ble_eq_true rfl, Nat.le_of_ble_eq_true rfl⟩) (gy_preV (cx_XX b tP tN) hX hK hP hS (cx_lt hk0 (by decide)) (sh_Acc cI cR b hk0 _) rfl) rfl rfl hl.1 rfl (lv_room (Nat.le_of_ble_eq_true rfl)) d_Acc_valueOf_25 ⟨Nat.zero_le _, Nat.zero_le _⟩) hS (fun H locs hP hS => ?_)
  obtain ⟨q4, g6, h⟩ := gx_bd h
  refine gx_ci (pc := 28) (va_runS (As := [.int q2.1, .int q3.1]) (rest := []) ⟨hx, hb, hml, hown, hts⟩ (k_Com_mix l dC dI cI cR cZ b tP tN  g6) (gx_cs 2 hts cd_Com_mix tb_53 tb_546 tb_474 rfl rfl ⟨by decide, by decide, by decide +kernel⟩ ⟨Nat.le_of_ble_eq_true rfl, Nat.le_of_ble_eq_true rfl⟩) (gy_pre (cx_XX b tP tN) hX hK hP hS) rfl rfl hl.1 rfl (lv_room (Nat.le_of_ble_eq_true rfl)) d_Acc_valueOf_28 ⟨Nat.zero_le _, Nat.zero_le _⟩) hS (fun H locs hP hS => ?_)
  refine lv_istore_n (pc := 31) (lv' := [(2, .int q4.1), (0, .ref (b + x0)), (1, .int x1)]) hx hb d_Acc_valueOf_31 rfl hl (by decide) rfl (fun ls hl => ?_)
  refine lv_iload_n (pc := 32) hx hb d_Acc_valueOf_32 rfl (lv_at hl 0 rfl) ?_
  refine lv_aload_n (pc := 33) hx hb d_Acc_valueOf_33 rfl (lv_at hl 1 rfl) ?_
  refine lv_iload_n (pc := 34) hx hb d_Acc_valueOf_34 rfl (lv_at hl 2 rfl) ?_
  obtain ⟨q5, g7, h⟩ := gx_bd h
  refine gx_ci (pc := 35) (va_runV (C := "GasLedger$Accounts") (As := [.int x1]) (rest := [.int q4.1]) ⟨hx, hb, hml, hown, hts⟩ (k_Acc_slotsRoot l dC dI cI cR cZ b tP tN hk0 g7) (gx_cw 1 hts cd_Acc_slotsRoot tb_46 tb_551 tb_532 tb_533 rfl rfl ⟨by decide, by decide, by decide +kernel⟩ ⟨Nat.le_of_ble_eq_true rfl, Nat.le_of_ble_eq_true rfl⟩) (gy_preV (cx_XX b tP tN) hX hK hP hS (cx_lt hk0 (by decide)) (sh_Acc cI cR b hk0 _) rfl) rfl rfl hl.1 rfl (lv_room (Nat.le_of_ble_eq_true rfl)) d_Acc_valueOf_35 ⟨Nat.zero_le _, Nat.zero_le _⟩) hS (fun H locs hP hS => ?_)
  obtain ⟨q6, g8, h⟩ := gx_bd h
  refine gx_ci (pc := 38) (va_runS (As := [.int q4.1, .int q5.1]) (rest := []) ⟨hx, hb, hml, hown, hts⟩ (k_Com_mix l dC dI cI cR cZ b tP tN  g8) (gx_cs 2 hts cd_Com_mix tb_53 tb_546 tb_474 rfl rfl ⟨by decide, by decide, by decide +kernel⟩ ⟨Nat.le_of_ble_eq_true rfl, Nat.le_of_ble_eq_true rfl⟩) (gy_pre (cx_XX b tP tN) hX hK hP hS) rfl rfl hl.1 rfl (lv_room (Nat.le_of_ble_eq_true rfl)) d_Acc_valueOf_38 ⟨Nat.zero_le _, Nat.zero_le _⟩) hS (fun H locs hP hS => ?_)
  exact gx_iret (free := fun _ => True) hx hb hr hlk hP hS d_Acc_valueOf_41 (by cases h; rfl) (by cases h; rfl)
abbrev rm_Led_look : Room := { frames := 12, cells := 0, slots := 0, locals := 607 }
def F_Led_look (x0 : Nat) (x1 : Int32) (x2 : Int32) (V : gx_M) : Option (Int32 × gx_M) := ((F_Led_isAccount x1 V).bind fun q1 => (if q1.1 = 0 then some ((-1 : Int32), q1.2) else (if x2 = (0 : Int32) then (if gx_ib x1 16 then some ((q1.2 (((x0 + 1) + 1) + 1) x1.toNatClampNeg), q1.2) else none) else (if x2 = (1 : Int32) then (if gx_ib x1 16 then some ((q1.2 (((x0 + 1) + 1) + 2) x1.toNatClampNeg), q1.2) else none) else (if x2 = (2 : Int32) then (if gx_ib x1 16 then some ((q1.2 (((x0 + 1) + 1) + 3) x1.toNatClampNeg), q1.2) else none) else (if x2 = (3 : Int32) then ((F_Acc_slotsRoot ((x0 + 1) + 1) x1 q1.2).bind fun q2 => some (q2.1, q2.2)) else (if x2 = (4 : Int32) then ((F_Acc_valueOf ((x0 + 1) + 1) x1 q1.2).bind fun q3 => some (q3.1, q3.2)) else some ((-1 : Int32), q1.2))))))))
set_option maxRecDepth 100000 in
set_option maxHeartbeats 8000000 in
theorem k_Led_look (l : Launch) (dC : Nat → ClassId) (dI : Nat → Nat → Nat) (cI cR cZ : ClassId) (b tP tN : Nat) {x0 : Nat} {x1 : Int32} {x2 : Int32} {V : gx_M} {q : (Int32 × gx_M)} (hk0 : cx_kd x0 = 5) (h : F_Led_look x0 x1 x2 V = some q) : cx_C l dC dI cI cR cZ b tP tN y_Led_look w_Led_look rm_Led_look [.ref (b + x0), .int x1, .int x2] V (some (.int q.1)) q.2 := by
  refine gx_start (cc := b_Led_look) (maxL := 3) (ret := rt_Led_look) (by decide) rfl (Nat.le_of_ble_eq_true rfl) ?_
  intro p e s m args below meth c ls hx hb hr hts hown hlk hml hl hP hK hX hS
  have hts : ∀ w ∈ cx_tb, w.before args s = true := fun w hw => hts w (List.mem_cons_of_mem _ hw)
  have hown : s.vm.findClass "GasLedger" = some m.cls := hown
  have hl : lv_has ls 3 [(0, .ref (b + x0)), (1, .int x1), (2, .int x2)] := hl
  unfold F_Led_look at h
  refine lv_iload_n (pc := 0) hx hb d_Led_look_0 rfl (lv_at hl 1 rfl) ?_
  obtain ⟨q1, g1, h⟩ := gx_bd h
  refine gx_ci (pc := 1) (va_runS (As := [.int x1]) (rest := []) ⟨hx, hb, hml, hown, hts⟩ (k_Led_isAccount l dC dI cI cR cZ b tP tN  g1) (gx_cs 1 hts cd_Led_isAccount tb_44 tb_295 tb_296 rfl rfl ⟨by decide, by decide, by decide +kernel⟩ ⟨Nat.le_of_ble_eq_true rfl, Nat.le_of_ble_eq_true rfl⟩) (gy_pre (cx_XX b tP tN) hX hK hP hS) rfl rfl hl.1 rfl (lv_room (Nat.le_of_ble_eq_true rfl)) d_Led_look_1 ⟨Nat.zero_le _, Nat.zero_le _⟩) hS (fun H locs hP hS => ?_)
  refine lv_if_ne (pc := 4) (tgt := 9) hx hb d_Led_look_4 (by decide) (fun g2 => ?_) (fun g2 => ?_)
  · have h := gx_neg g2 h
    refine lv_iload_n (pc := 9) hx hb d_Led_look_9 rfl (lv_at hl 2 rfl) ?_
    by_cases g3 : x2 = (0 : Int32)
    · have h := gx_pos g3 h
      refine lv_tableIn (pc := 10) (off := 34) (tgt := 44) hx hb d_Led_look_10 (by rw [g3]; decide) (by rw [g3]; decide) (by rw [g3]; rfl) (by decide) ?_
      refine lv_aload_n (pc := 44) hx hb d_Led_look_44 rfl (lv_at hl 0 rfl) ?_
      refine va_get (pc := 45) (D := (dC, dI)) (ci := 5) (C := R_Led) (T := T_Led) (N := 14) hx hb hts in_Led hown hK hP x0 (gx_at (cx_lt hk0 (by decide)) (sh_Led cI cR b hk0 _)) rfl 0 (by decide) (hts _ tb_248) (fun _ h9 => h9) rfl d_Led_look_45 ?_
      refine va_get (pc := 48) (D := (dC, dI)) (ci := 3) (C := R_Mac) (T := T_Mac) (N := 6) hx hb hts in_Mac hown hK hP (x0 + 1) (gx_at (cx_lt (to_Led_machine hk0) (by decide)) (sh_Mac cI cR b (to_Led_machine hk0) _)) rfl 0 (by decide) (hts _ tb_202) (fun _ h9 => h9) rfl d_Led_look_48 ?_
      refine va_get (pc := 51) (D := (dC, dI)) (ci := 0) (C := R_Acc) (T := T_Acc) (N := 6) hx hb hts in_Acc hown hK hP ((x0 + 1) + 1) (gx_at (cx_lt (to_Mac_accounts (to_Led_machine hk0)) (by decide)) (sh_Acc cI cR b (to_Mac_accounts (to_Led_machine hk0)) _)) rfl 0 (by decide) (hts _ tb_75) (fun _ h9 => h9) rfl d_Led_look_51 ?_
      refine lv_iload_n (pc := 54) hx hb d_Led_look_54 rfl (lv_at hl 1 rfl) ?_
      obtain ⟨g4, h⟩ := gx_if h
      refine va_iald (pc := 55) hx hb hK hP (((x0 + 1) + 1) + 1) 0 (gx_at (cx_lt (to_Acc_balances (to_Mac_accounts (to_Led_machine hk0))) (by decide)) (sh_arr cI cR b (n := 16) (to_Acc_balances (to_Mac_accounts (to_Led_machine hk0))) _)) rfl g4 d_Led_look_55 ?_
      exact gx_iret (free := fun _ => True) hx hb hr hlk hP hS d_Led_look_56 (by cases h; rfl) (by cases h; rfl)
    have h := gx_neg g3 h
    by_cases g5 : x2 = (1 : Int32)
    · have h := gx_pos g5 h
      refine lv_tableIn (pc := 10) (off := 47) (tgt := 57) hx hb d_Led_look_10 (by rw [g5]; decide) (by rw [g5]; decide) (by rw [g5]; rfl) (by decide) ?_
      refine lv_aload_n (pc := 57) hx hb d_Led_look_57 rfl (lv_at hl 0 rfl) ?_
      refine va_get (pc := 58) (D := (dC, dI)) (ci := 5) (C := R_Led) (T := T_Led) (N := 14) hx hb hts in_Led hown hK hP x0 (gx_at (cx_lt hk0 (by decide)) (sh_Led cI cR b hk0 _)) rfl 0 (by decide) (hts _ tb_248) (fun _ h9 => h9) rfl d_Led_look_58 ?_
      refine va_get (pc := 61) (D := (dC, dI)) (ci := 3) (C := R_Mac) (T := T_Mac) (N := 6) hx hb hts in_Mac hown hK hP (x0 + 1) (gx_at (cx_lt (to_Led_machine hk0) (by decide)) (sh_Mac cI cR b (to_Led_machine hk0) _)) rfl 0 (by decide) (hts _ tb_202) (fun _ h9 => h9) rfl d_Led_look_61 ?_
      refine va_get (pc := 64) (D := (dC, dI)) (ci := 0) (C := R_Acc) (T := T_Acc) (N := 6) hx hb hts in_Acc hown hK hP ((x0 + 1) + 1) (gx_at (cx_lt (to_Mac_accounts (to_Led_machine hk0)) (by decide)) (sh_Acc cI cR b (to_Mac_accounts (to_Led_machine hk0)) _)) rfl 1 (by decide) (hts _ tb_78) (fun _ h9 => h9) rfl d_Led_look_64 ?_
      refine lv_iload_n (pc := 67) hx hb d_Led_look_67 rfl (lv_at hl 1 rfl) ?_
      obtain ⟨g6, h⟩ := gx_if h
      refine va_iald (pc := 68) hx hb hK hP (((x0 + 1) + 1) + 2) 0 (gx_at (cx_lt (to_Acc_nonces (to_Mac_accounts (to_Led_machine hk0))) (by decide)) (sh_arr cI cR b (n := 16) (to_Acc_nonces (to_Mac_accounts (to_Led_machine hk0))) _)) rfl g6 d_Led_look_68 ?_
      exact gx_iret (free := fun _ => True) hx hb hr hlk hP hS d_Led_look_69 (by cases h; rfl) (by cases h; rfl)
    have h := gx_neg g5 h
    by_cases g7 : x2 = (2 : Int32)
    · have h := gx_pos g7 h
      refine lv_tableIn (pc := 10) (off := 60) (tgt := 70) hx hb d_Led_look_10 (by rw [g7]; decide) (by rw [g7]; decide) (by rw [g7]; rfl) (by decide) ?_
      refine lv_aload_n (pc := 70) hx hb d_Led_look_70 rfl (lv_at hl 0 rfl) ?_
      refine va_get (pc := 71) (D := (dC, dI)) (ci := 5) (C := R_Led) (T := T_Led) (N := 14) hx hb hts in_Led hown hK hP x0 (gx_at (cx_lt hk0 (by decide)) (sh_Led cI cR b hk0 _)) rfl 0 (by decide) (hts _ tb_248) (fun _ h9 => h9) rfl d_Led_look_71 ?_
      refine va_get (pc := 74) (D := (dC, dI)) (ci := 3) (C := R_Mac) (T := T_Mac) (N := 6) hx hb hts in_Mac hown hK hP (x0 + 1) (gx_at (cx_lt (to_Led_machine hk0) (by decide)) (sh_Mac cI cR b (to_Led_machine hk0) _)) rfl 0 (by decide) (hts _ tb_202) (fun _ h9 => h9) rfl d_Led_look_74 ?_
      refine va_get (pc := 77) (D := (dC, dI)) (ci := 0) (C := R_Acc) (T := T_Acc) (N := 6) hx hb hts in_Acc hown hK hP ((x0 + 1) + 1) (gx_at (cx_lt (to_Mac_accounts (to_Led_machine hk0)) (by decide)) (sh_Acc cI cR b (to_Mac_accounts (to_Led_machine hk0)) _)) rfl 2 (by decide) (hts _ tb_81) (fun _ h9 => h9) rfl d_Led_look_77 ?_
      refine lv_iload_n (pc := 80) hx hb d_Led_look_80 rfl (lv_at hl 1 rfl) ?_
      obtain ⟨g8, h⟩ := gx_if h
      refine va_iald (pc := 81) hx hb hK hP (((x0 + 1) + 1) + 3) 0 (gx_at (cx_lt (to_Acc_sizes (to_Mac_accounts (to_Led_machine hk0))) (by decide)) (sh_arr cI cR b (n := 16) (to_Acc_sizes (to_Mac_accounts (to_Led_machine hk0))) _)) rfl g8 d_Led_look_81 ?_
      exact gx_iret (free := fun _ => True) hx hb hr hlk hP hS d_Led_look_82 (by cases h; rfl) (by cases h; rfl)
    have h := gx_neg g7 h
    by_cases g9 : x2 = (3 : Int32)
    · have h := gx_pos g9 h
      refine lv_tableIn (pc := 10) (off := 73) (tgt := 83) hx hb d_Led_look_10 (by rw [g9]; decide) (by rw [g9]; decide) (by rw [g9]; rfl) (by decide) ?_
      refine lv_aload_n (pc := 83) hx hb d_Led_look_83 rfl (lv_at hl 0 rfl) ?_
      refine va_get (pc := 84) (D := (dC, dI)) (ci := 5) (C := R_Led) (T := T_Led) (N := 14) hx hb hts in_Led hown hK hP x0 (gx_at (cx_lt hk0 (by decide)) (sh_Led cI cR b hk0 _)) rfl 0 (by decide) (hts _ tb_248) (fun _ h9 => h9) rfl d_Led_look_84 ?_
      refine va_get (pc := 87) (D := (dC, dI)) (ci := 3) (C := R_Mac) (T := T_Mac) (N := 6) hx hb hts in_Mac hown hK hP (x0 + 1) (gx_at (cx_lt (to_Led_machine hk0) (by decide)) (sh_Mac cI cR b (to_Led_machine hk0) _)) rfl 0 (by decide) (hts _ tb_202) (fun _ h9 => h9) rfl d_Led_look_87 ?_
      refine lv_iload_n (pc := 90) hx hb d_Led_look_90 rfl (lv_at hl 1 rfl) ?_
      obtain ⟨q2, g10, h⟩ := gx_bd h
      refine gx_ci (pc := 91) (va_runV (C := "GasLedger$Accounts") (As := [.int x1]) (rest := []) ⟨hx, hb, hml, hown, hts⟩ (k_Acc_slotsRoot l dC dI cI cR cZ b tP tN (to_Mac_accounts (to_Led_machine hk0)) g10) (gx_cw 1 hts cd_Acc_slotsRoot tb_46 tb_531 tb_532 tb_533 rfl rfl ⟨by decide, by decide, by decide +kernel⟩ ⟨Nat.le_of_ble_eq_true rfl, Nat.le_of_ble_eq_true rfl⟩) (gy_preV (cx_XX b tP tN) hX hK hP hS (cx_lt (to_Mac_accounts (to_Led_machine hk0)) (by decide)) (sh_Acc cI cR b (to_Mac_accounts (to_Led_machine hk0)) _) rfl) rfl rfl hl.1 rfl (lv_room (Nat.le_of_ble_eq_true rfl)) d_Led_look_91 ⟨Nat.zero_le _, Nat.zero_le _⟩) hS (fun H locs hP hS => ?_)
      exact gx_iret (free := fun _ => True) hx hb hr hlk hP hS d_Led_look_94 (by cases h; rfl) (by cases h; rfl)
    have h := gx_neg g9 h
    by_cases g11 : x2 = (4 : Int32)
    · have h := gx_pos g11 h
      refine lv_tableIn (pc := 10) (off := 85) (tgt := 95) hx hb d_Led_look_10 (by rw [g11]; decide) (by rw [g11]; decide) (by rw [g11]; rfl) (by decide) ?_
      refine lv_aload_n (pc := 95) hx hb d_Led_look_95 rfl (lv_at hl 0 rfl) ?_
      refine va_get (pc := 96) (D := (dC, dI)) (ci := 5) (C := R_Led) (T := T_Led) (N := 14) hx hb hts in_Led hown hK hP x0 (gx_at (cx_lt hk0 (by decide)) (sh_Led cI cR b hk0 _)) rfl 0 (by decide) (hts _ tb_248) (fun _ h9 => h9) rfl d_Led_look_96 ?_
      refine va_get (pc := 99) (D := (dC, dI)) (ci := 3) (C := R_Mac) (T := T_Mac) (N := 6) hx hb hts in_Mac hown hK hP (x0 + 1) (gx_at (cx_lt (to_Led_machine hk0) (by decide)) (sh_Mac cI cR b (to_Led_machine hk0) _)) rfl 0 (by decide) (hts _ tb_202) (fun _ h9 => h9) rfl d_Led_look_99 ?_
      refine lv_iload_n (pc := 102) hx hb d_Led_look_102 rfl (lv_at hl 1 rfl) ?_
      obtain ⟨q3, g12, h⟩ := gx_bd h
      refine gx_ci (pc := 103) (va_runV (C := "GasLedger$Accounts") (As := [.int x1]) (rest := []) ⟨hx, hb, hml, hown, hts⟩ (k_Acc_valueOf l dC dI cI cR cZ b tP tN (to_Mac_accounts (to_Led_machine hk0)) g12) (gx_cw 1 hts cd_Acc_valueOf tb_46 tb_542 tb_543 tb_544 rfl rfl ⟨by decide, by decide, by decide +kernel⟩ ⟨Nat.le_of_ble_eq_true rfl, Nat.le_of_ble_eq_true rfl⟩) (gy_preV (cx_XX b tP tN) hX hK hP hS (cx_lt (to_Mac_accounts (to_Led_machine hk0)) (by decide)) (sh_Acc cI cR b (to_Mac_accounts (to_Led_machine hk0)) _) rfl) rfl rfl hl.1 rfl (lv_room (Nat.le_of_ble_eq_true rfl)) d_Led_look_103 ⟨Nat.zero_le _, Nat.zero_le _⟩) hS (fun H locs hP hS => ?_)
      exact gx_iret (free := fun _ => True) hx hb hr hlk hP hS d_Led_look_106 (by cases h; rfl) (by cases h; rfl)
    have h := gx_neg g11 h
    have z9 : x2.toInt < 0 ∨ 4 < x2.toInt := by
      have z_g3 := gx_ne (n := 0) g3 (by decide)
      have z_g5 := gx_ne (n := 1) g5 (by decide)
      have z_g7 := gx_ne (n := 2) g7 (by decide)
      have z_g9 := gx_ne (n := 3) g9 (by decide)
      have z_g11 := gx_ne (n := 4) g11 (by decide)
      omega
    refine lv_tableOut (pc := 10) (tgt := 107) hx hb d_Led_look_10 z9 (by decide) ?_
    refine lv_iconst (pc := 107) (v := (-1 : Int32)) hx hb d_Led_look_107 (by decide) ?_
    exact gx_iret (free := fun _ => True) hx hb hr hlk hP hS d_Led_look_108 (by cases h; rfl) (by cases h; rfl)
  · have h := gx_pos g2 h
    refine lv_iconst (pc := 7) (v := (-1 : Int32)) hx hb d_Led_look_7 (by decide) ?_
    exact gx_iret (free := fun _ => True) hx hb hr hlk hP hS d_Led_look_8 (by cases h; rfl) (by cases h; rfl)
abbrev rm_Led_slot : Room := { frames := 2, cells := 0, slots := 0, locals := 42 }
def F_Led_slot (x0 : Nat) (x1 : Int32) (x2 : Int32) (V : gx_M) : Option (Int32 × gx_M) := ((F_Acc_slotOf ((x0 + 1) + 1) x1 x2 V).bind fun q1 => some (q1.1, q1.2))
set_option maxRecDepth 100000 in
set_option maxHeartbeats 8000000 in
theorem k_Led_slot (l : Launch) (dC : Nat → ClassId) (dI : Nat → Nat → Nat) (cI cR cZ : ClassId) (b tP tN : Nat) {x0 : Nat} {x1 : Int32} {x2 : Int32} {V : gx_M} {q : (Int32 × gx_M)} (hk0 : cx_kd x0 = 5) (h : F_Led_slot x0 x1 x2 V = some q) : cx_C l dC dI cI cR cZ b tP tN y_Led_slot w_Led_slot rm_Led_slot [.ref (b + x0), .int x1, .int x2] V (some (.int q.1)) q.2 := by
  refine gx_start (cc := b_Led_slot) (maxL := 3) (ret := rt_Led_slot) (by decide) rfl (Nat.le_of_ble_eq_true rfl) ?_
  intro p e s m args below meth c ls hx hb hr hts hown hlk hml hl hP hK hX hS
  have hts : ∀ w ∈ cx_tb, w.before args s = true := fun w hw => hts w (List.mem_cons_of_mem _ hw)
  have hown : s.vm.findClass "GasLedger" = some m.cls := hown
  have hl : lv_has ls 3 [(0, .ref (b + x0)), (1, .int x1), (2, .int x2)] := hl
  unfold F_Led_slot at h
  refine lv_aload_n (pc := 0) hx hb d_Led_slot_0 rfl (lv_at hl 0 rfl) ?_
  refine va_get (pc := 1) (D := (dC, dI)) (ci := 5) (C := R_Led) (T := T_Led) (N := 14) hx hb hts in_Led hown hK hP x0 (gx_at (cx_lt hk0 (by decide)) (sh_Led cI cR b hk0 _)) rfl 0 (by decide) (hts _ tb_248) (fun _ h9 => h9) rfl d_Led_slot_1 ?_
  refine va_get (pc := 4) (D := (dC, dI)) (ci := 3) (C := R_Mac) (T := T_Mac) (N := 6) hx hb hts in_Mac hown hK hP (x0 + 1) (gx_at (cx_lt (to_Led_machine hk0) (by decide)) (sh_Mac cI cR b (to_Led_machine hk0) _)) rfl 0 (by decide) (hts _ tb_202) (fun _ h9 => h9) rfl d_Led_slot_4 ?_
  refine lv_iload_n (pc := 7) hx hb d_Led_slot_7 rfl (lv_at hl 1 rfl) ?_
  refine lv_iload_n (pc := 8) hx hb d_Led_slot_8 rfl (lv_at hl 2 rfl) ?_
  obtain ⟨q1, g1, h⟩ := gx_bd h
  refine gx_ci (pc := 9) (va_runV (C := "GasLedger$Accounts") (As := [.int x1, .int x2]) (rest := []) ⟨hx, hb, hml, hown, hts⟩ (k_Acc_slotOf l dC dI cI cR cZ b tP tN (to_Mac_accounts (to_Led_machine hk0)) g1) (gx_cw 2 hts cd_Acc_slotOf tb_46 tb_556 tb_379 tb_380 rfl rfl ⟨by decide, by decide, by decide +kernel⟩ ⟨Nat.le_of_ble_eq_true rfl, Nat.le_of_ble_eq_true rfl⟩) (gy_preV (cx_XX b tP tN) hX hK hP hS (cx_lt (to_Mac_accounts (to_Led_machine hk0)) (by decide)) (sh_Acc cI cR b (to_Mac_accounts (to_Led_machine hk0)) _) rfl) rfl rfl hl.1 rfl (lv_room (Nat.le_of_ble_eq_true rfl)) d_Led_slot_9 ⟨Nat.zero_le _, Nat.zero_le _⟩) hS (fun H locs hP hS => ?_)
  exact gx_iret (free := fun _ => True) hx hb hr hlk hP hS d_Led_slot_12 (by cases h; rfl) (by cases h; rfl)
abbrev rm_Led_word : Room := { frames := 2, cells := 0, slots := 0, locals := 42 }
def F_Led_word (x0 : Nat) (x1 : Int32) (x2 : Int32) (V : gx_M) : Option (Int32 × gx_M) := ((F_Acc_wordOf ((x0 + 1) + 1) x1 x2 V).bind fun q1 => some (q1.1, q1.2))
set_option maxRecDepth 100000 in
set_option maxHeartbeats 8000000 in
theorem k_Led_word (l : Launch) (dC : Nat → ClassId) (dI : Nat → Nat → Nat) (cI cR cZ : ClassId) (b tP tN : Nat) {x0 : Nat} {x1 : Int32} {x2 : Int32} {V : gx_M} {q : (Int32 × gx_M)} (hk0 : cx_kd x0 = 5) (h : F_Led_word x0 x1 x2 V = some q) : cx_C l dC dI cI cR cZ b tP tN y_Led_word w_Led_word rm_Led_word [.ref (b + x0), .int x1, .int x2] V (some (.int q.1)) q.2 := by
  refine gx_start (cc := b_Led_word) (maxL := 3) (ret := rt_Led_word) (by decide) rfl (Nat.le_of_ble_eq_true rfl) ?_
  intro p e s m args below meth c ls hx hb hr hts hown hlk hml hl hP hK hX hS
  have hts : ∀ w ∈ cx_tb, w.before args s = true := fun w hw => hts w (List.mem_cons_of_mem _ hw)
  have hown : s.vm.findClass "GasLedger" = some m.cls := hown
  have hl : lv_has ls 3 [(0, .ref (b + x0)), (1, .int x1), (2, .int x2)] := hl
  unfold F_Led_word at h
  refine lv_aload_n (pc := 0) hx hb d_Led_word_0 rfl (lv_at hl 0 rfl) ?_
  refine va_get (pc := 1) (D := (dC, dI)) (ci := 5) (C := R_Led) (T := T_Led) (N := 14) hx hb hts in_Led hown hK hP x0 (gx_at (cx_lt hk0 (by decide)) (sh_Led cI cR b hk0 _)) rfl 0 (by decide) (hts _ tb_248) (fun _ h9 => h9) rfl d_Led_word_1 ?_
  refine va_get (pc := 4) (D := (dC, dI)) (ci := 3) (C := R_Mac) (T := T_Mac) (N := 6) hx hb hts in_Mac hown hK hP (x0 + 1) (gx_at (cx_lt (to_Led_machine hk0) (by decide)) (sh_Mac cI cR b (to_Led_machine hk0) _)) rfl 0 (by decide) (hts _ tb_202) (fun _ h9 => h9) rfl d_Led_word_4 ?_
  refine lv_iload_n (pc := 7) hx hb d_Led_word_7 rfl (lv_at hl 1 rfl) ?_
  refine lv_iload_n (pc := 8) hx hb d_Led_word_8 rfl (lv_at hl 2 rfl) ?_
  obtain ⟨q1, g1, h⟩ := gx_bd h
  refine gx_ci (pc := 9) (va_runV (C := "GasLedger$Accounts") (As := [.int x1, .int x2]) (rest := []) ⟨hx, hb, hml, hown, hts⟩ (k_Acc_wordOf l dC dI cI cR cZ b tP tN (to_Mac_accounts (to_Led_machine hk0)) g1) (gx_cw 2 hts cd_Acc_wordOf tb_46 tb_561 tb_364 tb_365 rfl rfl ⟨by decide, by decide, by decide +kernel⟩ ⟨Nat.le_of_ble_eq_true rfl, Nat.le_of_ble_eq_true rfl⟩) (gy_preV (cx_XX b tP tN) hX hK hP hS (cx_lt (to_Mac_accounts (to_Led_machine hk0)) (by decide)) (sh_Acc cI cR b (to_Mac_accounts (to_Led_machine hk0)) _) rfl) rfl rfl hl.1 rfl (lv_room (Nat.le_of_ble_eq_true rfl)) d_Led_word_9 ⟨Nat.zero_le _, Nat.zero_le _⟩) hS (fun H locs hP hS => ?_)
  exact gx_iret (free := fun _ => True) hx hb hr hlk hP hS d_Led_word_12 (by cases h; rfl) (by cases h; rfl)
abbrev rm_Acc_rootOfAll : Room := { frames := 12, cells := 0, slots := 0, locals := 607 }
def F_Acc_rootOfAll_4 : Nat → Nat → Int32 → Int32 → gx_M → Option (Int32 × gx_M)
  | 0, _, _, _, _ => none
  | nf + 1, x0, x1, x2, V => (if (16 : Int32) ≤ x2 then ((F_Com_rootOfMap (x0 + 6) (0 : Int32) x1 (4 : Int32) V).bind fun q1 => some (q1.1, q1.2)) else ((F_Acc_isEmpty x0 x2 V).bind fun q2 => (if q2.1 = 0 then ((F_Acc_valueOf x0 x2 q2.2).bind fun q3 => (if gx_ib x2 16 then (gx_let (gx_u q3.2 (x0 + 6) x2.toNatClampNeg q3.1) fun V1 => (F_Acc_rootOfAll_4 nf  x0 (x1 ||| ((1 : Int32) <<< (x2 &&& 31))) (x2 + (1 : Int32)) V1)) else none)) else (F_Acc_rootOfAll_4 nf  x0 x1 (x2 + (1 : Int32)) q2.2))))
def F_Acc_rootOfAll (x0 : Nat) (V : gx_M) : Option (Int32 × gx_M) := (F_Acc_rootOfAll_4 100  x0 (0 : Int32) (0 : Int32) V)
set_option maxRecDepth 100000 in
set_option maxHeartbeats 8000000 in
theorem k_Acc_rootOfAll (l : Launch) (dC : Nat → ClassId) (dI : Nat → Nat → Nat) (cI cR cZ : ClassId) (b tP tN : Nat) {x0 : Nat} {V : gx_M} {q : (Int32 × gx_M)} (hk0 : cx_kd x0 = 0) (h : F_Acc_rootOfAll x0 V = some q) : cx_C l dC dI cI cR cZ b tP tN y_Acc_rootOfAll w_Acc_rootOfAll rm_Acc_rootOfAll [.ref (b + x0)] V (some (.int q.1)) q.2 := by
  refine gx_start (cc := b_Acc_rootOfAll) (maxL := 3) (ret := rt_Acc_rootOfAll) (by decide) rfl (Nat.le_of_ble_eq_true rfl) ?_
  intro p e s m args below meth c ls hx hb hr hts hown hlk hml hl hP hK hX hS
  have hts : ∀ w ∈ cx_tb, w.before args s = true := fun w hw => hts w (List.mem_cons_of_mem _ hw)
  have hown : s.vm.findClass "GasLedger$Accounts" = some m.cls := hown
  have hl : lv_has ls 3 [(0, .ref (b + x0))] := hl
  have B_4 : ∀ (nf : Nat), ∀ (x0 : Nat) (x1 : Int32) (x2 : Int32), cx_kd x0 = 0 → ∀ (V : gx_M) (H : Heap) (locs : List Loc) (ls : Array Slot), lv_has ls 3 [(0, .ref (b + x0)), (1, .int x1), (2, .int x2)] → va_P (dC, dI) cx_cl (gx_w b 97 (gx_v (cx_sh cI cR b) V)) H → va_S (gx_A b 97) s.heap H locs → F_Acc_rootOfAll_4 nf x0 x1 x2 V = some q → W p l e (headSpec w_Acc_rootOfAll rm_Acc_rootOfAll).room s m args below meth c H locs 0 0 (MQ below (gx_Q (dC, dI) cx_cl b 97 (cx_sh cI cR b) (some (.int q.1)) q.2) args s 0 0 (gx_A b 97)) (F0 m 4 ls []) := by
    intro nf
    induction nf with
    | zero => intro x0 x1 x2 hk_x0 V H locs ls hl hP hS h; cases h
    | succ nf ihl =>
      intro x0 x1 x2 hk_x0 V H locs ls hl hP hS h
      rw [F_Acc_rootOfAll_4] at h
      refine lv_iload_n (pc := 4) hx hb d_Acc_rootOfAll_4 rfl (lv_at hl 2 rfl) ?_
      refine lv_bipush (pc := 5) (v := (16 : Int32)) hx hb d_Acc_rootOfAll_5 (by decide) ?_
      refine lv_icmp_ge (pc := 7) (tgt := 41) hx hb d_Acc_rootOfAll_7 (by decide) (fun g1 => ?_) (fun g1 => ?_)
      · have h := gx_pos g1 h
        refine lv_aload_n (pc := 41) hx hb d_Acc_rootOfAll_41 rfl (lv_at hl 0 rfl) ?_
        refine va_get (pc := 42) (D := (dC, dI)) (ci := 0) (C := R_Acc) (T := T_Acc) (N := 6) hx hb hts in_Acc hown hK hP x0 (gx_at (cx_lt hk_x0 (by decide)) (sh_Acc cI cR b hk_x0 _)) rfl 5 (by decide) (hts _ tb_87) (fun _ h9 => h9) rfl d_Acc_rootOfAll_42 ?_
        refine lv_iconst (pc := 45) (v := (0 : Int32)) hx hb d_Acc_rootOfAll_45 (by decide) ?_
        refine lv_iload_n (pc := 46) hx hb d_Acc_rootOfAll_46 rfl (lv_at hl 1 rfl) ?_
        refine lv_iconst (pc := 47) (v := (4 : Int32)) hx hb d_Acc_rootOfAll_47 (by decide) ?_
        obtain ⟨q1, g2, h⟩ := gx_bd h
        refine gx_ci (pc := 48) (va_runS (As := [.ref (b + (x0 + 6)), .int (0 : Int32), .int x1, .int (4 : Int32)]) (rest := []) ⟨hx, hb, hml, hown, hts⟩ (k_Com_rootOfMap l dC dI cI cR cZ b tP tN (Nat.le_trans (m := 116) (by decide) (Nat.le_of_eq (to_Acc_values hk_x0).symm)) g2) (gx_cs 4 hts cd_Com_rootOfMap tb_53 tb_535 tb_536 rfl rfl ⟨by decide, by decide, by decide +kernel⟩ ⟨Nat.le_of_ble_eq_true rfl, Nat.le_of_ble_eq_true rfl⟩) (gy_pre (cx_XX b tP tN) hX hK hP hS) rfl rfl hl.1 rfl (lv_room (Nat.le_of_ble_eq_true rfl)) d_Acc_rootOfAll_48 ⟨Nat.zero_le _, Nat.zero_le _⟩) hS (fun H locs hP hS => ?_)
        exact gx_iret (free := fun _ => True) hx hb hr hlk hP hS d_Acc_rootOfAll_51 (by cases h; rfl) (by cases h; rfl)
      · have h := gx_neg g1 h
        refine lv_aload_n (pc := 10) hx hb d_Acc_rootOfAll_10 rfl (lv_at hl 0 rfl) ?_
        refine lv_iload_n (pc := 11) hx hb d_Acc_rootOfAll_11 rfl (lv_at hl 2 rfl) ?_
        obtain ⟨q2, g3, h⟩ := gx_bd h
        refine gx_ci (pc := 12) (va_runV (C := "GasLedger$Accounts") (As := [.int x2]) (rest := []) ⟨hx, hb, hml, hown, hts⟩ (k_Acc_isEmpty l dC dI cI cR cZ b tP tN hk_x0 g3) (gx_cw 1 hts cd_Acc_isEmpty tb_46 tb_460 tb_461 tb_462 rfl rfl ⟨by decide, by decide, by decide +kernel⟩ ⟨Nat.le_of_ble_eq_true rfl, Nat.le_of_ble_eq_true rfl⟩) (gy_preV (cx_XX b tP tN) hX hK hP hS (cx_lt hk_x0 (by decide)) (sh_Acc cI cR b hk_x0 _) rfl) rfl rfl hl.1 rfl (lv_room (Nat.le_of_ble_eq_true rfl)) d_Acc_rootOfAll_12 ⟨Nat.zero_le _, Nat.zero_le _⟩) hS (fun H locs hP hS => ?_)
        refine lv_if_ne (pc := 15) (tgt := 35) hx hb d_Acc_rootOfAll_15 (by decide) (fun g4 => ?_) (fun g4 => ?_)
        · have h := gx_neg g4 h
          refine lv_iinc (pc := 35) (k := 2) (lv' := [(2, .int (x2 + (1 : Int32))), (0, .ref (b + x0)), (1, .int x1)]) hx hb d_Acc_rootOfAll_35 hl rfl (gx_inc (by decide)) (by decide) rfl (fun ls hl => ?_)
          refine lv_goto (pc := 38) (tgt := 4) hx hb d_Acc_rootOfAll_38 (by decide) ?_
          exact ihl _ _ _ hk_x0 _ _ _ _ (lv_sub hl [1, 2, 0] rfl) hP hS h
        · have h := gx_pos g4 h
          refine lv_iload_n (pc := 18) hx hb d_Acc_rootOfAll_18 rfl (lv_at hl 1 rfl) ?_
          refine lv_iconst (pc := 19) (v := (1 : Int32)) hx hb d_Acc_rootOfAll_19 (by decide) ?_
          refine lv_iload_n (pc := 20) hx hb d_Acc_rootOfAll_20 rfl (lv_at hl 2 rfl) ?_
          refine lv_ishl (pc := 21) hx hb d_Acc_rootOfAll_21 ?_
          refine lv_ior (pc := 22) hx hb d_Acc_rootOfAll_22 ?_
          refine lv_istore_n (pc := 23) (lv' := [(1, .int (x1 ||| ((1 : Int32) <<< (x2 &&& 31)))), (0, .ref (b + x0)), (2, .int x2)]) hx hb d_Acc_rootOfAll_23 rfl hl (by decide) rfl (fun ls hl => ?_)
          refine lv_aload_n (pc := 24) hx hb d_Acc_rootOfAll_24 rfl (lv_at hl 1 rfl) ?_
          refine va_get (pc := 25) (D := (dC, dI)) (ci := 0) (C := R_Acc) (T := T_Acc) (N := 6) hx hb hts in_Acc hown hK hP x0 (gx_at (cx_lt hk_x0 (by decide)) (sh_Acc cI cR b hk_x0 _)) rfl 5 (by decide) (hts _ tb_87) (fun _ h9 => h9) rfl d_Acc_rootOfAll_25 ?_
          refine lv_iload_n (pc := 28) hx hb d_Acc_rootOfAll_28 rfl (lv_at hl 2 rfl) ?_
          refine lv_aload_n (pc := 29) hx hb d_Acc_rootOfAll_29 rfl (lv_at hl 1 rfl) ?_
          refine lv_iload_n (pc := 30) hx hb d_Acc_rootOfAll_30 rfl (lv_at hl 2 rfl) ?_
          obtain ⟨q3, g5, h⟩ := gx_bd h
          refine gx_ci (pc := 31) (va_runV (C := "GasLedger$Accounts") (As := [.int x2]) (rest := [.int x2, .ref (b + (x0 + 6))]) ⟨hx, hb, hml, hown, hts⟩ (k_Acc_valueOf l dC dI cI cR cZ b tP tN hk_x0 g5) (gx_cw 1 hts cd_Acc_valueOf tb_46 tb_570 tb_543 tb_544 rfl rfl ⟨by decide, by decide, by decide +kernel⟩ ⟨Nat.le_of_ble_eq_true rfl, Nat.le_of_ble_eq_true rfl⟩) (gy_preV (cx_XX b tP tN) hX hK hP hS (cx_lt hk_x0 (by decide)) (sh_Acc cI cR b hk_x0 _) rfl) rfl rfl hl.1 rfl (lv_room (Nat.le_of_ble_eq_true rfl)) d_Acc_rootOfAll_31 ⟨Nat.zero_le _, Nat.zero_le _⟩) hS (fun H locs hP hS => ?_)
          obtain ⟨g6, h⟩ := gx_if h
          obtain ⟨V1, g7, h⟩ := gx_lt h
          refine gx_asi (pc := 34) hx hb hK hP hS (x0 + 6) 0 (cx_lt (to_Acc_values hk_x0) (by decide)) (fun _ => sh_arr cI cR b (n := 16) (to_Acc_values hk_x0) _) rfl g6 d_Acc_rootOfAll_34 g7 (fun H locs hP hS => ?_)
          refine lv_iinc (pc := 35) (k := 2) (lv' := [(2, .int (x2 + (1 : Int32))), (1, .int (x1 ||| ((1 : Int32) <<< (x2 &&& 31)))), (0, .ref (b + x0))]) hx hb d_Acc_rootOfAll_35 hl rfl (gx_inc (by decide)) (by decide) rfl (fun ls hl => ?_)
          refine lv_goto (pc := 38) (tgt := 4) hx hb d_Acc_rootOfAll_38 (by decide) ?_
          exact ihl _ _ _ hk_x0 _ _ _ _ (lv_sub hl [2, 1, 0] rfl) hP hS h
  unfold F_Acc_rootOfAll at h
  refine lv_iconst (pc := 0) (v := (0 : Int32)) hx hb d_Acc_rootOfAll_0 (by decide) ?_
  refine lv_istore_n (pc := 1) (lv' := [(1, .int (0 : Int32)), (0, .ref (b + x0))]) hx hb d_Acc_rootOfAll_1 rfl hl (by decide) rfl (fun ls hl => ?_)
  refine lv_iconst (pc := 2) (v := (0 : Int32)) hx hb d_Acc_rootOfAll_2 (by decide) ?_
  refine lv_istore_n (pc := 3) (lv' := [(2, .int (0 : Int32)), (1, .int (0 : Int32)), (0, .ref (b + x0))]) hx hb d_Acc_rootOfAll_3 rfl hl (by decide) rfl (fun ls hl => ?_)
  exact B_4 100  _ _ _ hk0 _ _ _ _ (lv_sub hl [2, 1, 0] rfl) hP hS h
abbrev rm_Led_root : Room := { frames := 13, cells := 0, slots := 0, locals := 629 }
def F_Led_root (x0 : Nat) (V : gx_M) : Option (Int32 × gx_M) := ((F_Acc_rootOfAll ((x0 + 1) + 1) V).bind fun q1 => some (q1.1, q1.2))
set_option maxRecDepth 100000 in
set_option maxHeartbeats 8000000 in
theorem k_Led_root (l : Launch) (dC : Nat → ClassId) (dI : Nat → Nat → Nat) (cI cR cZ : ClassId) (b tP tN : Nat) {x0 : Nat} {V : gx_M} {q : (Int32 × gx_M)} (hk0 : cx_kd x0 = 5) (h : F_Led_root x0 V = some q) : cx_C l dC dI cI cR cZ b tP tN y_Led_root w_Led_root rm_Led_root [.ref (b + x0)] V (some (.int q.1)) q.2 := by
  refine gx_start (cc := b_Led_root) (maxL := 1) (ret := rt_Led_root) (by decide) rfl (Nat.le_of_ble_eq_true rfl) ?_
  intro p e s m args below meth c ls hx hb hr hts hown hlk hml hl hP hK hX hS
  have hts : ∀ w ∈ cx_tb, w.before args s = true := fun w hw => hts w (List.mem_cons_of_mem _ hw)
  have hown : s.vm.findClass "GasLedger" = some m.cls := hown
  have hl : lv_has ls 1 [(0, .ref (b + x0))] := hl
  unfold F_Led_root at h
  refine lv_aload_n (pc := 0) hx hb d_Led_root_0 rfl (lv_at hl 0 rfl) ?_
  refine va_get (pc := 1) (D := (dC, dI)) (ci := 5) (C := R_Led) (T := T_Led) (N := 14) hx hb hts in_Led hown hK hP x0 (gx_at (cx_lt hk0 (by decide)) (sh_Led cI cR b hk0 _)) rfl 0 (by decide) (hts _ tb_248) (fun _ h9 => h9) rfl d_Led_root_1 ?_
  refine va_get (pc := 4) (D := (dC, dI)) (ci := 3) (C := R_Mac) (T := T_Mac) (N := 6) hx hb hts in_Mac hown hK hP (x0 + 1) (gx_at (cx_lt (to_Led_machine hk0) (by decide)) (sh_Mac cI cR b (to_Led_machine hk0) _)) rfl 0 (by decide) (hts _ tb_202) (fun _ h9 => h9) rfl d_Led_root_4 ?_
  obtain ⟨q1, g1, h⟩ := gx_bd h
  refine gx_ci (pc := 7) (va_runV (C := "GasLedger$Accounts") (As := []) (rest := []) ⟨hx, hb, hml, hown, hts⟩ (k_Acc_rootOfAll l dC dI cI cR cZ b tP tN (to_Mac_accounts (to_Led_machine hk0)) g1) (gx_cw 0 hts cd_Acc_rootOfAll tb_46 tb_566 tb_567 tb_568 rfl rfl ⟨by decide, by decide, by decide +kernel⟩ ⟨Nat.le_of_ble_eq_true rfl, Nat.le_of_ble_eq_true rfl⟩) (gy_preV (cx_XX b tP tN) hX hK hP hS (cx_lt (to_Mac_accounts (to_Led_machine hk0)) (by decide)) (sh_Acc cI cR b (to_Mac_accounts (to_Led_machine hk0)) _) rfl) rfl rfl hl.1 rfl (lv_room (Nat.le_of_ble_eq_true rfl)) d_Led_root_7 ⟨Nat.zero_le _, Nat.zero_le _⟩) hS (fun H locs hP hS => ?_)
  exact gx_iret (free := fun _ => True) hx hb hr hlk hP hS d_Led_root_10 (by cases h; rfl) (by cases h; rfl)
