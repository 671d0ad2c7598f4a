abbrev rm_Mod_valueOf : Room := { frames := 4, cells := 0, slots := 0, locals := 96 }
def F_Mod_valueOf_4 : Nat → Nat → Int32 → Int32 → Int32 → gx_M → Option (Int32 × gx_M)
  | 0, _, _, _, _, _ => none
  | nf + 1, x0, x1, x2, x3, V => (if gx_ib (((36 : Int32) * x1) + (2 : Int32)) 576 then (if (V (x0 + 1) (((36 : Int32) * x1) + (2 : Int32)).toNatClampNeg) ≤ x3 then ((F_Mod_slotsRoot x0 x1 V).bind fun q1 => (if gx_ib ((36 : Int32) * x1) 576 then ((F_Mod_mix (4 : Int32) (q1.2 (x0 + 1) ((36 : Int32) * x1).toNatClampNeg) q1.2).bind fun q2 => (if gx_ib (((36 : Int32) * x1) + (1 : Int32)) 576 then ((F_Mod_mix q2.1 (q2.2 (x0 + 1) (((36 : Int32) * x1) + (1 : Int32)).toNatClampNeg) q2.2).bind fun q3 => ((F_Mod_mix q3.1 x2 q3.2).bind fun q4 => ((F_Mod_mix q4.1 q1.1 q4.2).bind fun q5 => some (q5.1, q5.2)))) else none)) else none)) else (if gx_ib ((((36 : Int32) * x1) + (3 : Int32)) + x3) 576 then ((F_Mod_mix x2 (V (x0 + 1) ((((36 : Int32) * x1) + (3 : Int32)) + x3).toNatClampNeg) V).bind fun q6 => (F_Mod_valueOf_4 nf  x0 x1 q6.1 (x3 + (1 : Int32)) q6.2)) else none)) else none)
def F_Mod_valueOf (x0 : Nat) (x1 : Int32) (V : gx_M) : Option (Int32 × gx_M) := (F_Mod_valueOf_4 100  x0 x1 (5 : Int32) (0 : Int32) V)
set_option maxRecDepth 100000 in
set_option maxHeartbeats 8000000 in
theorem k_Mod_valueOf (l : Launch) (dC : Nat → ClassId) (dI : Nat → Nat → Nat) (cI cR cZ : ClassId) (b tP tN : Nat) {x0 : Nat} {x1 : Int32} {V : gx_M} {q : (Int32 × gx_M)} (hk0 : mx_kd x0 = 6) (h : F_Mod_valueOf x0 x1 V = some q) : mx_C l dC dI cI cR cZ b tP tN y_Mod_valueOf w_Mod_valueOf rm_Mod_valueOf [.ref (b + x0), .int x1] V (some (.int q.1)) q.2 := by
  refine gx_start (cc := b_Mod_valueOf) (maxL := 4) (ret := rt_Mod_valueOf) (by decide) rfl (Nat.le_of_ble_eq_true rfl) ?_
  intro p e s m args below meth c ls hx hb hr hts hown hlk hml hl hP hK hX hS
  have hts : ∀ w ∈ cx_tb, w.before args s = true := fun w hw => hts w (List.mem_cons_of_mem _ hw)
  have hown : s.vm.findClass "GasLedgerModel" = some m.cls := hown
  have hl : lv_has ls 4 [(0, .ref (b + x0)), (1, .int x1)] := hl
  have B_4 : ∀ (nf : Nat), ∀ (x0 : Nat) (x1 : Int32) (x2 : Int32) (x3 : Int32), mx_kd x0 = 6 → ∀ (V : gx_M) (H : Heap) (locs : List Loc) (ls : Array Slot), lv_has ls 4 [(0, .ref (b + x0)), (1, .int x1), (2, .int x2), (3, .int x3)] → va_P (dC, dI) cx_cl (gx_w b 22 (gx_v (mx_sh cI cZ b) V)) H → va_S (gx_A b 22) s.heap H locs → F_Mod_valueOf_4 nf x0 x1 x2 x3 V = some q → W p l e (headSpec w_Mod_valueOf rm_Mod_valueOf).room s m args below meth c H locs 0 0 (MQ below (gx_Q (dC, dI) cx_cl b 22 (mx_sh cI cZ b) (some (.int q.1)) q.2) args s 0 0 (gx_A b 22)) (F0 m 4 ls []) := by
    intro nf
    induction nf with
    | zero => intro x0 x1 x2 x3 hk_x0 V H locs ls hl hP hS h; cases h
    | succ nf ihl =>
      intro x0 x1 x2 x3 hk_x0 V H locs ls hl hP hS h
      rw [F_Mod_valueOf_4] at h
      refine lv_iload_n (pc := 4) hx hb d_Mod_valueOf_4 rfl (lv_at hl 3 rfl) ?_
      refine lv_aload_n (pc := 5) hx hb d_Mod_valueOf_5 rfl (lv_at hl 0 rfl) ?_
      refine va_get (pc := 6) (D := (dC, dI)) (ci := 6) (C := R_Mod) (T := T_Mod) (N := 39) hx hb hts in_Mod hown hK hP x0 (gx_at (mx_lt hk_x0 (by decide)) (sh_Mod cI cZ b hk_x0 _)) rfl 0 (by decide) (hts _ tb_601) (fun _ h9 => h9) rfl d_Mod_valueOf_6 ?_
      refine lv_bipush (pc := 9) (v := (36 : Int32)) hx hb d_Mod_valueOf_9 (by decide) ?_
      refine lv_iload_n (pc := 11) hx hb d_Mod_valueOf_11 rfl (lv_at hl 1 rfl) ?_
      refine lv_imul (pc := 12) hx hb d_Mod_valueOf_12 ?_
      refine lv_iconst (pc := 13) (v := (2 : Int32)) hx hb d_Mod_valueOf_13 (by decide) ?_
      refine lv_iadd (pc := 14) hx hb d_Mod_valueOf_14 ?_
      obtain ⟨g1, h⟩ := gx_if h
      refine va_iald (pc := 15) hx hb hK hP (x0 + 1) 0 (gx_at (mx_lt (to_Mod_now hk_x0) (by decide)) (mh_arr cI cZ b (n := 576) (to_Mod_now hk_x0) (by decide) _)) rfl g1 d_Mod_valueOf_15 ?_
      refine lv_icmp_ge (pc := 16) (tgt := 43) hx hb d_Mod_valueOf_16 (by decide) (fun g2 => ?_) (fun g2 => ?_)
      · have h := gx_pos g2 h
        refine lv_aload_n (pc := 43) hx hb d_Mod_valueOf_43 rfl (lv_at hl 0 rfl) ?_
        refine lv_iload_n (pc := 44) hx hb d_Mod_valueOf_44 rfl (lv_at hl 1 rfl) ?_
        obtain ⟨q1, g3, h⟩ := gx_bd h
        refine gx_ci (pc := 45) (va_runV (C := "GasLedgerModel") (As := [.int x1]) (rest := []) ⟨hx, hb, hml, hown, hts⟩ (k_Mod_slotsRoot l dC dI cI cR cZ b tP tN hk_x0 g3) (gx_cw 1 hts cd_Mod_slotsRoot tb_50 tb_748 tb_750 tb_21 rfl rfl ⟨by decide, by decide, by decide +kernel⟩ ⟨Nat.le_of_ble_eq_true rfl, Nat.le_of_ble_eq_true rfl⟩) (gy_preV (mx_XX b) hX hK hP hS (mx_lt hk_x0 (by decide)) (sh_Mod cI cZ b hk_x0 _) rfl) rfl rfl hl.1 rfl (lv_room (Nat.le_of_ble_eq_true rfl)) d_Mod_valueOf_45 ⟨Nat.zero_le _, Nat.zero_le _⟩) hS (fun H locs hP hS => ?_)
        refine lv_istore_n (pc := 48) (lv' := [(3, .int q1.1), (0, .ref (b + x0)), (1, .int x1), (2, .int x2)]) hx hb d_Mod_valueOf_48 rfl hl (by decide) rfl (fun ls hl => ?_)
        refine lv_iconst (pc := 49) (v := (4 : Int32)) hx hb d_Mod_valueOf_49 (by decide) ?_
        refine lv_aload_n (pc := 50) hx hb d_Mod_valueOf_50 rfl (lv_at hl 1 rfl) ?_
        refine va_get (pc := 51) (D := (dC, dI)) (ci := 6) (C := R_Mod) (T := T_Mod) (N := 39) hx hb hts in_Mod hown hK hP x0 (gx_at (mx_lt hk_x0 (by decide)) (sh_Mod cI cZ b hk_x0 _)) rfl 0 (by decide) (hts _ tb_601) (fun _ h9 => h9) rfl d_Mod_valueOf_51 ?_
        refine lv_bipush (pc := 54) (v := (36 : Int32)) hx hb d_Mod_valueOf_54 (by decide) ?_
        refine lv_iload_n (pc := 56) hx hb d_Mod_valueOf_56 rfl (lv_at hl 2 rfl) ?_
        refine lv_imul (pc := 57) hx hb d_Mod_valueOf_57 ?_
        obtain ⟨g4, h⟩ := gx_if h
        refine va_iald (pc := 58) hx hb hK hP (x0 + 1) 0 (gx_at (mx_lt (to_Mod_now hk_x0) (by decide)) (mh_arr cI cZ b (n := 576) (to_Mod_now hk_x0) (by decide) _)) rfl g4 d_Mod_valueOf_58 ?_
        obtain ⟨q2, g5, h⟩ := gx_bd h
        refine gx_ci (pc := 59) (va_runS (As := [.int (4 : Int32), .int (q1.2 (x0 + 1) ((36 : Int32) * x1).toNatClampNeg)]) (rest := []) ⟨hx, hb, hml, hown, hts⟩ (k_Mod_mix l dC dI cI cR cZ b tP tN  g5) (gx_cs 2 hts cd_Mod_mix tb_50 tb_744 tb_745 rfl rfl ⟨by decide, by decide, by decide +kernel⟩ ⟨Nat.le_of_ble_eq_true rfl, Nat.le_of_ble_eq_true rfl⟩) (gy_pre (mx_XX b) hX hK hP hS) rfl rfl hl.1 rfl (lv_room (Nat.le_of_ble_eq_true rfl)) d_Mod_valueOf_59 ⟨Nat.zero_le _, Nat.zero_le _⟩) hS (fun H locs hP hS => ?_)
        refine lv_aload_n (pc := 62) hx hb d_Mod_valueOf_62 rfl (lv_at hl 1 rfl) ?_
        refine va_get (pc := 63) (D := (dC, dI)) (ci := 6) (C := R_Mod) (T := T_Mod) (N := 39) hx hb hts in_Mod hown hK hP x0 (gx_at (mx_lt hk_x0 (by decide)) (sh_Mod cI cZ b hk_x0 _)) rfl 0 (by decide) (hts _ tb_601) (fun _ h9 => h9) rfl d_Mod_valueOf_63 ?_
        refine lv_bipush (pc := 66) (v := (36 : Int32)) hx hb d_Mod_valueOf_66 (by decide) ?_
        refine lv_iload_n (pc := 68) hx hb d_Mod_valueOf_68 rfl (lv_at hl 2 rfl) ?_
        refine lv_imul (pc := 69) hx hb d_Mod_valueOf_69 ?_
        refine lv_iconst (pc := 70) (v := (1 : Int32)) hx hb d_Mod_valueOf_70 (by decide) ?_
        refine lv_iadd (pc := 71) hx hb d_Mod_valueOf_71 ?_
        obtain ⟨g6, h⟩ := gx_if h
        refine va_iald (pc := 72) hx hb hK hP (x0 + 1) 0 (gx_at (mx_lt (to_Mod_now hk_x0) (by decide)) (mh_arr cI cZ b (n := 576) (to_Mod_now hk_x0) (by decide) _)) rfl g6 d_Mod_valueOf_72 ?_
        obtain ⟨q3, g7, h⟩ := gx_bd h
        refine gx_ci (pc := 73) (va_runS (As := [.int q2.1, .int (q2.2 (x0 + 1) (((36 : Int32) * x1) + (1 : Int32)).toNatClampNeg)]) (rest := []) ⟨hx, hb, hml, hown, hts⟩ (k_Mod_mix l dC dI cI cR cZ b tP tN  g7) (gx_cs 2 hts cd_Mod_mix tb_50 tb_744 tb_745 rfl rfl ⟨by decide, by decide, by decide +kernel⟩ ⟨Nat.le_of_ble_eq_true rfl, Nat.le_of_ble_eq_true rfl⟩) (gy_pre (mx_XX b) hX hK hP hS) rfl rfl hl.1 rfl (lv_room (Nat.le_of_ble_eq_true rfl)) d_Mod_valueOf_73 ⟨Nat.zero_le _, Nat.zero_le _⟩) hS (fun H locs hP hS => ?_)
        refine lv_iload_n (pc := 76) hx hb d_Mod_valueOf_76 rfl (lv_at hl 3 rfl) ?_
        obtain ⟨q4, g8, h⟩ := gx_bd h
        refine gx_ci (pc := 77) (va_runS (As := [.int q3.1, .int x2]) (rest := []) ⟨hx, hb, hml, hown, hts⟩ (k_Mod_mix l dC dI cI cR cZ b tP tN  g8) (gx_cs 2 hts cd_Mod_mix tb_50 tb_744 tb_745 rfl rfl ⟨by decide, by decide, by decide +kernel⟩ ⟨Nat.le_of_ble_eq_true rfl, Nat.le_of_ble_eq_true rfl⟩) (gy_pre (mx_XX b) hX hK hP hS) rfl rfl hl.1 rfl (lv_room (Nat.le_of_ble_eq_true rfl)) d_Mod_valueOf_77 ⟨Nat.zero_le _, Nat.zero_le _⟩) hS (fun H locs hP hS => ?_)
        refine lv_iload_n (pc := 80) hx hb d_Mod_valueOf_80 rfl (lv_at hl 0 rfl) ?_
        obtain ⟨q5, g9, h⟩ := gx_bd h
        refine gx_ci (pc := 81) (va_runS (As := [.int q4.1, .int q1.1]) (rest := []) ⟨hx, hb, hml, hown, hts⟩ (k_Mod_mix l dC dI cI cR cZ b tP tN  g9) (gx_cs 2 hts cd_Mod_mix tb_50 tb_744 tb_745 rfl rfl ⟨by decide, by decide, by decide +kernel⟩ ⟨Nat.le_of_ble_eq_true rfl, Nat.le_of_ble_eq_true rfl⟩) (gy_pre (mx_XX b) hX hK hP hS) rfl rfl hl.1 rfl (lv_room (Nat.le_of_ble_eq_true rfl)) d_Mod_valueOf_81 ⟨Nat.zero_le _, Nat.zero_le _⟩) hS (fun H locs hP hS => ?_)
        exact gx_iret (free := fun _ => True) hx hb hr hlk hP hS d_Mod_valueOf_84 (by cases h; rfl) (by cases h; rfl)
      · have h := gx_neg g2 h
        refine lv_iload_n (pc := 19) hx hb d_Mod_valueOf_19 rfl (lv_at hl 2 rfl) ?_
        refine lv_aload_n (pc := 20) hx hb d_Mod_valueOf_20 rfl (lv_at hl 0 rfl) ?_
        refine va_get (pc := 21) (D := (dC, dI)) (ci := 6) (C := R_Mod) (T := T_Mod) (N := 39) hx hb hts in_Mod hown hK hP x0 (gx_at (mx_lt hk_x0 (by decide)) (sh_Mod cI cZ b hk_x0 _)) rfl 0 (by decide) (hts _ tb_601) (fun _ h9 => h9) rfl d_Mod_valueOf_21 ?_
        refine lv_bipush (pc := 24) (v := (36 : Int32)) hx hb d_Mod_valueOf_24 (by decide) ?_
        refine lv_iload_n (pc := 26) hx hb d_Mod_valueOf_26 rfl (lv_at hl 1 rfl) ?_
        refine lv_imul (pc := 27) hx hb d_Mod_valueOf_27 ?_
        refine lv_iconst (pc := 28) (v := (3 : Int32)) hx hb d_Mod_valueOf_28 (by decide) ?_
        refine lv_iadd (pc := 29) hx hb d_Mod_valueOf_29 ?_
        refine lv_iload_n (pc := 30) hx hb d_Mod_valueOf_30 rfl (lv_at hl 3 rfl) ?_
        refine lv_iadd (pc := 31) hx hb d_Mod_valueOf_31 ?_
        obtain ⟨g10, h⟩ := gx_if h
        refine va_iald (pc := 32) hx hb hK hP (x0 + 1) 0 (gx_at (mx_lt (to_Mod_now hk_x0) (by decide)) (mh_arr cI cZ b (n := 576) (to_Mod_now hk_x0) (by decide) _)) rfl g10 d_Mod_valueOf_32 ?_
        obtain ⟨q6, g11, h⟩ := gx_bd h
        refine gx_ci (pc := 33) (va_runS (As := [.int x2, .int (V (x0 + 1) ((((36 : Int32) * x1) + (3 : Int32)) + x3).toNatClampNeg)]) (rest := []) ⟨hx, hb, hml, hown, hts⟩ (k_Mod_mix l dC dI cI cR cZ b tP tN  g11) (gx_cs 2 hts cd_Mod_mix tb_50 tb_744 tb_745 rfl rfl ⟨by decide, by decide, by decide +kernel⟩ ⟨Nat.le_of_ble_eq_true rfl, Nat.le_of_ble_eq_true rfl⟩) (gy_pre (mx_XX b) hX hK hP hS) rfl rfl hl.1 rfl (lv_room (Nat.le_of_ble_eq_true rfl)) d_Mod_valueOf_33 ⟨Nat.zero_le _, Nat.zero_le _⟩) hS (fun H locs hP hS => ?_)
        refine lv_istore_n (pc := 36) (lv' := [(2, .int q6.1), (0, .ref (b + x0)), (1, .int x1), (3, .int x3)]) hx hb d_Mod_valueOf_36 rfl hl (by decide) rfl (fun ls hl => ?_)
        refine lv_iinc (pc := 37) (k := 3) (lv' := [(3, .int (x3 + (1 : Int32))), (2, .int q6.1), (0, .ref (b + x0)), (1, .int x1)]) hx hb d_Mod_valueOf_37 hl rfl (gx_inc (by decide)) (by decide) rfl (fun ls hl => ?_)
        refine lv_goto (pc := 40) (tgt := 4) hx hb d_Mod_valueOf_40 (by decide) ?_
        exact ihl _ _ _ _ hk_x0 _ _ _ _ (lv_sub hl [2, 3, 1, 0] rfl) hP hS h
  unfold F_Mod_valueOf at h
  refine lv_iconst (pc := 0) (v := (5 : Int32)) hx hb d_Mod_valueOf_0 (by decide) ?_
  refine lv_istore_n (pc := 1) (lv' := [(2, .int (5 : Int32)), (0, .ref (b + x0)), (1, .int x1)]) hx hb d_Mod_valueOf_1 rfl hl (by decide) rfl (fun ls hl => ?_)
  refine lv_iconst (pc := 2) (v := (0 : Int32)) hx hb d_Mod_valueOf_2 (by decide) ?_
  refine lv_istore_n (pc := 3) (lv' := [(3, .int (0 : Int32)), (2, .int (5 : Int32)), (0, .ref (b + x0)), (1, .int x1)]) hx hb d_Mod_valueOf_3 rfl hl (by decide) rfl (fun ls hl => ?_)
  exact B_4 100  _ _ _ _ hk0 _ _ _ _ (lv_sub hl [2, 3, 1, 0] rfl) hP hS h
abbrev rm_Mod_empty : Room := { frames := 0, cells := 0, slots := 0, locals := 0 }
def F_Mod_empty_48 : Nat → Nat → Int32 → Int32 → Int32 → gx_M → Option (Int32 × gx_M)
  | 0, _, _, _, _, _ => none
  | nf + 1, x0, x1, x2, x3, V => (if (8 : Int32) ≤ x3 then (if x2 = 0 ∨ x2 = 1 then some (x2, V) else none) else (if x2 = 0 then (F_Mod_empty_48 nf  x0 x1 (0 : Int32) (x3 + (1 : Int32)) V) else (if gx_ib ((((36 : Int32) * x1) + (27 : Int32)) + x3) 576 then (if (V (x0 + 1) ((((36 : Int32) * x1) + (27 : Int32)) + x3).toNatClampNeg) = 0 then (F_Mod_empty_48 nf  x0 x1 (1 : Int32) (x3 + (1 : Int32)) V) else (F_Mod_empty_48 nf  x0 x1 (0 : Int32) (x3 + (1 : Int32)) V)) else none)))
def F_Mod_empty_45 (x0 : Nat) (x1 : Int32) (s0 : Int32) (V : gx_M) : Option (Int32 × gx_M) := (F_Mod_empty_48 100  x0 x1 s0 (0 : Int32) V)
def F_Mod_empty_44 (x0 : Nat) (x1 : Int32) (V : gx_M) : Option (Int32 × gx_M) := (F_Mod_empty_45   x0 x1 (0 : Int32) V)
def F_Mod_empty (x0 : Nat) (x1 : Int32) (V : gx_M) : Option (Int32 × gx_M) := (if gx_ib ((36 : Int32) * x1) 576 then (if (V (x0 + 1) ((36 : Int32) * x1).toNatClampNeg) = 0 then (if gx_ib (((36 : Int32) * x1) + (1 : Int32)) 576 then (if (V (x0 + 1) (((36 : Int32) * x1) + (1 : Int32)).toNatClampNeg) = 0 then (if gx_ib (((36 : Int32) * x1) + (2 : Int32)) 576 then (if (V (x0 + 1) (((36 : Int32) * x1) + (2 : Int32)).toNatClampNeg) = 0 then (F_Mod_empty_45   x0 x1 (1 : Int32) V) else (F_Mod_empty_44   x0 x1 V)) else none) else (F_Mod_empty_44   x0 x1 V)) else none) else (F_Mod_empty_44   x0 x1 V)) else none)
set_option maxRecDepth 100000 in
set_option maxHeartbeats 8000000 in
theorem k_Mod_empty (l : Launch) (dC : Nat → ClassId) (dI : Nat → Nat → Nat) (cI cR cZ : ClassId) (b tP tN : Nat) {x0 : Nat} {x1 : Int32} {V : gx_M} {q : (Int32 × gx_M)} (hk0 : mx_kd x0 = 6) (h : F_Mod_empty x0 x1 V = some q) : mx_C l dC dI cI cR cZ b tP tN y_Mod_empty w_Mod_empty rm_Mod_empty [.ref (b + x0), .int x1] V (some (.int q.1)) q.2 := by
  refine gx_start (cc := b_Mod_empty) (maxL := 4) (ret := rt_Mod_empty) (by decide) rfl (Nat.le_of_ble_eq_true rfl) ?_
  intro p e s m args below meth c ls hx hb hr hts hown hlk hml hl hP hK hX hS
  have hts : ∀ w ∈ cx_tb, w.before args s = true := fun w hw => hts w (List.mem_cons_of_mem _ hw)
  have hown : s.vm.findClass "GasLedgerModel" = some m.cls := hown
  have hl : lv_has ls 4 [(0, .ref (b + x0)), (1, .int x1)] := hl
  have B_48 : ∀ (nf : Nat), ∀ (x0 : Nat) (x1 : Int32) (x2 : Int32) (x3 : Int32), mx_kd x0 = 6 → ∀ (V : gx_M) (H : Heap) (locs : List Loc) (ls : Array Slot), lv_has ls 4 [(0, .ref (b + x0)), (1, .int x1), (2, .int x2), (3, .int x3)] → va_P (dC, dI) cx_cl (gx_w b 22 (gx_v (mx_sh cI cZ b) V)) H → va_S (gx_A b 22) s.heap H locs → F_Mod_empty_48 nf x0 x1 x2 x3 V = some q → W p l e (headSpec w_Mod_empty rm_Mod_empty).room s m args below meth c H locs 0 0 (MQ below (gx_Q (dC, dI) cx_cl b 22 (mx_sh cI cZ b) (some (.int q.1)) q.2) args s 0 0 (gx_A b 22)) (F0 m 48 ls []) := by
    intro nf
    induction nf with
    | zero => intro x0 x1 x2 x3 hk_x0 V H locs ls hl hP hS h; cases h
    | succ nf ihl =>
      intro x0 x1 x2 x3 hk_x0 V H locs ls hl hP hS h
      rw [F_Mod_empty_48] at h
      refine lv_iload_n (pc := 48) hx hb d_Mod_empty_48 rfl (lv_at hl 3 rfl) ?_
      refine lv_bipush (pc := 49) (v := (8 : Int32)) hx hb d_Mod_empty_49 (by decide) ?_
      refine lv_icmp_ge (pc := 51) (tgt := 87) hx hb d_Mod_empty_51 (by decide) (fun g1 => ?_) (fun g1 => ?_)
      · have h := gx_pos g1 h
        refine lv_iload_n (pc := 87) hx hb d_Mod_empty_87 rfl (lv_at hl 2 rfl) ?_
        obtain ⟨g2, h⟩ := gx_if h
        exact gx_zret (free := fun _ => True) hx hb hr hlk hP hS d_Mod_empty_88 (gx_nz g2) (by cases h; rfl) (by cases h; rfl)
      · have h := gx_neg g1 h
        refine lv_iload_n (pc := 54) hx hb d_Mod_empty_54 rfl (lv_at hl 2 rfl) ?_
        refine lv_if_eq (pc := 55) (tgt := 79) hx hb d_Mod_empty_55 (by decide) (fun g3 => ?_) (fun g3 => ?_)
        · have h := gx_pos g3 h
          refine lv_iconst (pc := 79) (v := (0 : Int32)) hx hb d_Mod_empty_79 (by decide) ?_
          refine lv_istore_n (pc := 80) (lv' := [(2, .int (0 : Int32)), (0, .ref (b + x0)), (1, .int x1), (3, .int x3)]) hx hb d_Mod_empty_80 rfl hl (by decide) rfl (fun ls hl => ?_)
          refine lv_iinc (pc := 81) (k := 3) (lv' := [(3, .int (x3 + (1 : Int32))), (2, .int (0 : Int32)), (0, .ref (b + x0)), (1, .int x1)]) hx hb d_Mod_empty_81 hl rfl (gx_inc (by decide)) (by decide) rfl (fun ls hl => ?_)
          refine lv_goto (pc := 84) (tgt := 48) hx hb d_Mod_empty_84 (by decide) ?_
          exact ihl _ _ _ _ hk_x0 _ _ _ _ (lv_sub hl [2, 3, 1, 0] rfl) hP hS h
        · have h := gx_neg g3 h
          refine lv_aload_n (pc := 58) hx hb d_Mod_empty_58 rfl (lv_at hl 0 rfl) ?_
          refine va_get (pc := 59) (D := (dC, dI)) (ci := 6) (C := R_Mod) (T := T_Mod) (N := 39) hx hb hts in_Mod hown hK hP x0 (gx_at (mx_lt hk_x0 (by decide)) (sh_Mod cI cZ b hk_x0 _)) rfl 0 (by decide) (hts _ tb_601) (fun _ h9 => h9) rfl d_Mod_empty_59 ?_
          refine lv_bipush (pc := 62) (v := (36 : Int32)) hx hb d_Mod_empty_62 (by decide) ?_
          refine lv_iload_n (pc := 64) hx hb d_Mod_empty_64 rfl (lv_at hl 1 rfl) ?_
          refine lv_imul (pc := 65) hx hb d_Mod_empty_65 ?_
          refine lv_bipush (pc := 66) (v := (27 : Int32)) hx hb d_Mod_empty_66 (by decide) ?_
          refine lv_iadd (pc := 68) hx hb d_Mod_empty_68 ?_
          refine lv_iload_n (pc := 69) hx hb d_Mod_empty_69 rfl (lv_at hl 3 rfl) ?_
          refine lv_iadd (pc := 70) hx hb d_Mod_empty_70 ?_
          obtain ⟨g4, h⟩ := gx_if h
          refine va_iald (pc := 71) hx hb hK hP (x0 + 1) 0 (gx_at (mx_lt (to_Mod_now hk_x0) (by decide)) (mh_arr cI cZ b (n := 576) (to_Mod_now hk_x0) (by decide) _)) rfl g4 d_Mod_empty_71 ?_
          refine lv_if_ne (pc := 72) (tgt := 79) hx hb d_Mod_empty_72 (by decide) (fun g5 => ?_) (fun g5 => ?_)
          · have h := gx_neg g5 h
            refine lv_iconst (pc := 79) (v := (0 : Int32)) hx hb d_Mod_empty_79 (by decide) ?_
            refine lv_istore_n (pc := 80) (lv' := [(2, .int (0 : Int32)), (0, .ref (b + x0)), (1, .int x1), (3, .int x3)]) hx hb d_Mod_empty_80 rfl hl (by decide) rfl (fun ls hl => ?_)
            refine lv_iinc (pc := 81) (k := 3) (lv' := [(3, .int (x3 + (1 : Int32))), (2, .int (0 : Int32)), (0, .ref (b + x0)), (1, .int x1)]) hx hb d_Mod_empty_81 hl rfl (gx_inc (by decide)) (by decide) rfl (fun ls hl => ?_)
            refine lv_goto (pc := 84) (tgt := 48) hx hb d_Mod_empty_84 (by decide) ?_
            exact ihl _ _ _ _ hk_x0 _ _ _ _ (lv_sub hl [2, 3, 1, 0] rfl) hP hS h
          · have h := gx_pos g5 h
            refine lv_iconst (pc := 75) (v := (1 : Int32)) hx hb d_Mod_empty_75 (by decide) ?_
            refine lv_goto (pc := 76) (tgt := 80) hx hb d_Mod_empty_76 (by decide) ?_
            refine lv_istore_n (pc := 80) (lv' := [(2, .int (1 : Int32)), (0, .ref (b + x0)), (1, .int x1), (3, .int x3)]) hx hb d_Mod_empty_80 rfl hl (by decide) rfl (fun ls hl => ?_)
            refine lv_iinc (pc := 81) (k := 3) (lv' := [(3, .int (x3 + (1 : Int32))), (2, .int (1 : Int32)), (0, .ref (b + x0)), (1, .int x1)]) hx hb d_Mod_empty_81 hl rfl (gx_inc (by decide)) (by decide) rfl (fun ls hl => ?_)
            refine lv_goto (pc := 84) (tgt := 48) hx hb d_Mod_empty_84 (by decide) ?_
            exact ihl _ _ _ _ hk_x0 _ _ _ _ (lv_sub hl [2, 3, 1, 0] rfl) hP hS h
  have B_45 : ∀ (x0 : Nat) (x1 : Int32) (s0 : Int32), mx_kd x0 = 6 → ∀ (V : gx_M) (H : Heap) (locs : List Loc) (ls : Array Slot), lv_has ls 4 [(0, .ref (b + x0)), (1, .int x1)] → va_P (dC, dI) cx_cl (gx_w b 22 (gx_v (mx_sh cI cZ b) V)) H → va_S (gx_A b 22) s.heap H locs → F_Mod_empty_45 x0 x1 s0 V = some q → W p l e (headSpec w_Mod_empty rm_Mod_empty).room s m args below meth c H locs 0 0 (MQ below (gx_Q (dC, dI) cx_cl b 22 (mx_sh cI cZ b) (some (.int q.1)) q.2) args s 0 0 (gx_A b 22)) (F0 m 45 ls [.int s0]) := by
    intro x0 x1 s0 hk_x0 V H locs ls hl hP hS h
    unfold F_Mod_empty_45 at h
    refine lv_istore_n (pc := 45) (lv' := [(2, .int s0), (0, .ref (b + x0)), (1, .int x1)]) hx hb d_Mod_empty_45 rfl hl (by decide) rfl (fun ls hl => ?_)
    refine lv_iconst (pc := 46) (v := (0 : Int32)) hx hb d_Mod_empty_46 (by decide) ?_
    refine lv_istore_n (pc := 47) (lv' := [(3, .int (0 : Int32)), (2, .int s0), (0, .ref (b + x0)), (1, .int x1)]) hx hb d_Mod_empty_47 rfl hl (by decide) rfl (fun ls hl => ?_)
    exact B_48 100  _ _ _ _ hk_x0 _ _ _ _ (lv_sub hl [2, 3, 1, 0] rfl) hP hS h
  have B_44 : ∀ (x0 : Nat) (x1 : Int32), mx_kd x0 = 6 → ∀ (V : gx_M) (H : Heap) (locs : List Loc) (ls : Array Slot), lv_has ls 4 [(0, .ref (b + x0)), (1, .int x1)] → va_P (dC, dI) cx_cl (gx_w b 22 (gx_v (mx_sh cI cZ b) V)) H → va_S (gx_A b 22) s.heap H locs → F_Mod_empty_44 x0 x1 V = some q → W p l e (headSpec w_Mod_empty rm_Mod_empty).room s m args below meth c H locs 0 0 (MQ below (gx_Q (dC, dI) cx_cl b 22 (mx_sh cI cZ b) (some (.int q.1)) q.2) args s 0 0 (gx_A b 22)) (F0 m 44 ls []) := by
    intro x0 x1 hk_x0 V H locs ls hl hP hS h
    unfold F_Mod_empty_44 at h
    refine lv_iconst (pc := 44) (v := (0 : Int32)) hx hb d_Mod_empty_44 (by decide) ?_
    exact B_45   _ _ _ hk_x0 _ _ _ _ (lv_sub hl [0, 1] rfl) hP hS h
  unfold F_Mod_empty at h
  refine lv_aload_n (pc := 0) hx hb d_Mod_empty_0 rfl (lv_at hl 0 rfl) ?_
  refine va_get (pc := 1) (D := (dC, dI)) (ci := 6) (C := R_Mod) (T := T_Mod) (N := 39) hx hb hts in_Mod hown hK hP x0 (gx_at (mx_lt hk0 (by decide)) (sh_Mod cI cZ b hk0 _)) rfl 0 (by decide) (hts _ tb_601) (fun _ h9 => h9) rfl d_Mod_empty_1 ?_
  refine lv_bipush (pc := 4) (v := (36 : Int32)) hx hb d_Mod_empty_4 (by decide) ?_
  refine lv_iload_n (pc := 6) hx hb d_Mod_empty_6 rfl (lv_at hl 1 rfl) ?_
  refine lv_imul (pc := 7) hx hb d_Mod_empty_7 ?_
  obtain ⟨g6, h⟩ := gx_if h
  refine va_iald (pc := 8) hx hb hK hP (x0 + 1) 0 (gx_at (mx_lt (to_Mod_now hk0) (by decide)) (mh_arr cI cZ b (n := 576) (to_Mod_now hk0) (by decide) _)) rfl g6 d_Mod_empty_8 ?_
  refine lv_if_ne (pc := 9) (tgt := 44) hx hb d_Mod_empty_9 (by decide) (fun g7 => ?_) (fun g7 => ?_)
  · have h := gx_neg g7 h
    exact B_44   _ _ hk0 _ _ _ _ (lv_sub hl [0, 1] rfl) hP hS h
  · have h := gx_pos g7 h
    refine lv_aload_n (pc := 12) hx hb d_Mod_empty_12 rfl (lv_at hl 0 rfl) ?_
    refine va_get (pc := 13) (D := (dC, dI)) (ci := 6) (C := R_Mod) (T := T_Mod) (N := 39) hx hb hts in_Mod hown hK hP x0 (gx_at (mx_lt hk0 (by decide)) (sh_Mod cI cZ b hk0 _)) rfl 0 (by decide) (hts _ tb_601) (fun _ h9 => h9) rfl d_Mod_empty_13 ?_
    refine lv_bipush (pc := 16) (v := (36 : Int32)) hx hb d_Mod_empty_16 (by decide) ?_
    refine lv_iload_n (pc := 18) hx hb d_Mod_empty_18 rfl (lv_at hl 1 rfl) ?_
    refine lv_imul (pc := 19) hx hb d_Mod_empty_19 ?_
    refine lv_iconst (pc := 20) (v := (1 : Int32)) hx hb d_Mod_empty_20 (by decide) ?_
    refine lv_iadd (pc := 21) hx hb d_Mod_empty_21 ?_
    obtain ⟨g8, h⟩ := gx_if h
    refine va_iald (pc := 22) hx hb hK hP (x0 + 1) 0 (gx_at (mx_lt (to_Mod_now hk0) (by decide)) (mh_arr cI cZ b (n := 576) (to_Mod_now hk0) (by decide) _)) rfl g8 d_Mod_empty_22 ?_
    refine lv_if_ne (pc := 23) (tgt := 44) hx hb d_Mod_empty_23 (by decide) (fun g9 => ?_) (fun g9 => ?_)
    · have h := gx_neg g9 h
      exact B_44   _ _ hk0 _ _ _ _ (lv_sub hl [0, 1] rfl) hP hS h
    · have h := gx_pos g9 h
      refine lv_aload_n (pc := 26) hx hb d_Mod_empty_26 rfl (lv_at hl 0 rfl) ?_
      refine va_get (pc := 27) (D := (dC, dI)) (ci := 6) (C := R_Mod) (T := T_Mod) (N := 39) hx hb hts in_Mod hown hK hP x0 (gx_at (mx_lt hk0 (by decide)) (sh_Mod cI cZ b hk0 _)) rfl 0 (by decide) (hts _ tb_601) (fun _ h9 => h9) rfl d_Mod_empty_27 ?_
      refine lv_bipush (pc := 30) (v := (36 : Int32)) hx hb d_Mod_empty_30 (by decide) ?_
      refine lv_iload_n (pc := 32) hx hb d_Mod_empty_32 rfl (lv_at hl 1 rfl) ?_
      refine lv_imul (pc := 33) hx hb d_Mod_empty_33 ?_
      refine lv_iconst (pc := 34) (v := (2 : Int32)) hx hb d_Mod_empty_34 (by decide) ?_
      refine lv_iadd (pc := 35) hx hb d_Mod_empty_35 ?_
      obtain ⟨g10, h⟩ := gx_if h
      refine va_iald (pc := 36) hx hb hK hP (x0 + 1) 0 (gx_at (mx_lt (to_Mod_now hk0) (by decide)) (mh_arr cI cZ b (n := 576) (to_Mod_now hk0) (by decide) _)) rfl g10 d_Mod_empty_36 ?_
      refine lv_if_ne (pc := 37) (tgt := 44) hx hb d_Mod_empty_37 (by decide) (fun g11 => ?_) (fun g11 => ?_)
      · have h := gx_neg g11 h
        exact B_44   _ _ hk0 _ _ _ _ (lv_sub hl [0, 1] rfl) hP hS h
      · have h := gx_pos g11 h
        refine lv_iconst (pc := 40) (v := (1 : Int32)) hx hb d_Mod_empty_40 (by decide) ?_
        refine lv_goto (pc := 41) (tgt := 45) hx hb d_Mod_empty_41 (by decide) ?_
        exact B_45   _ _ _ hk0 _ _ _ _ (lv_sub hl [0, 1] rfl) hP hS h
abbrev rm_Mod_root : Room := { frames := 5, cells := 0, slots := 0, locals := 119 }
def F_Mod_root_27 : Nat → Nat → Int32 → gx_M → Option (Int32 × gx_M)
  | 0, _, _, _ => none
  | nf + 1, x0, x1, V => (if (16 : Int32) ≤ x1 then ((F_Mod_map x0 (4 : Int32) V).bind fun q1 => some (q1.1, q1.2)) else ((F_Mod_empty x0 x1 V).bind fun q2 => (if q2.1 = 0 then (if gx_ib x1 16 then (gx_let (gx_u q2.2 (x0 + 19) x1.toNatClampNeg (vp_nar .boolean (1 : Int32))) fun V3 => (if gx_ib x1 16 then (if gx_ib x1 16 then (gx_let (gx_u V3 (x0 + 20) x1.toNatClampNeg (V3 (x0 + 21) x1.toNatClampNeg)) fun V4 => (F_Mod_root_27 nf  x0 (x1 + (1 : Int32)) V4)) else none) else none)) else none) else (if gx_ib x1 16 then (gx_let (gx_u q2.2 (x0 + 19) x1.toNatClampNeg (vp_nar .boolean (0 : Int32))) fun V1 => (if gx_ib x1 16 then (if gx_ib x1 16 then (gx_let (gx_u V1 (x0 + 20) x1.toNatClampNeg (V1 (x0 + 21) x1.toNatClampNeg)) fun V2 => (F_Mod_root_27 nf  x0 (x1 + (1 : Int32)) V2)) else none) else none)) else none))))
def F_Mod_root_2 : Nat → Nat → Int32 → gx_M → Option (Int32 × gx_M)
  | 0, _, _, _ => none
  | nf + 1, x0, x1, V => (if (16 : Int32) ≤ x1 then (F_Mod_root_27 100  x0 (0 : Int32) V) else ((F_Mod_valueOf x0 x1 V).bind fun q3 => (if gx_ib x1 16 then (gx_let (gx_u q3.2 (x0 + 21) x1.toNatClampNeg q3.1) fun V5 => (F_Mod_root_2 nf  x0 (x1 + (1 : Int32)) V5)) else none)))
def F_Mod_root (x0 : Nat) (V : gx_M) : Option (Int32 × gx_M) := (F_Mod_root_2 100  x0 (0 : Int32) V)
set_option maxRecDepth 100000 in
set_option maxHeartbeats 8000000 in
theorem k_Mod_root (l : Launch) (dC : Nat → ClassId) (dI : Nat → Nat → Nat) (cI cR cZ : ClassId) (b tP tN : Nat) {x0 : Nat} {V : gx_M} {q : (Int32 × gx_M)} (hk0 : mx_kd x0 = 6) (h : F_Mod_root x0 V = some q) : mx_C l dC dI cI cR cZ b tP tN y_Mod_root w_Mod_root rm_Mod_root [.ref (b + x0)] V (some (.int q.1)) q.2 := by
  refine gx_start (cc := b_Mod_root) (maxL := 2) (ret := rt_Mod_root) (by decide) rfl (Nat.le_of_ble_eq_true rfl) ?_
  intro p e s m args below meth c ls hx hb hr hts hown hlk hml hl hP hK hX hS
  have hts : ∀ w ∈ cx_tb, w.before args s = true := fun w hw => hts w (List.mem_cons_of_mem _ hw)
  have hown : s.vm.findClass "GasLedgerModel" = some m.cls := hown
  have hl : lv_has ls 2 [(0, .ref (b + x0))] := hl
  have B_27 : ∀ (nf : Nat), ∀ (x0 : Nat) (x1 : Int32), mx_kd x0 = 6 → ∀ (V : gx_M) (H : Heap) (locs : List Loc) (ls : Array Slot), lv_has ls 2 [(0, .ref (b + x0)), (1, .int x1)] → va_P (dC, dI) cx_cl (gx_w b 22 (gx_v (mx_sh cI cZ b) V)) H → va_S (gx_A b 22) s.heap H locs → F_Mod_root_27 nf x0 x1 V = some q → W p l e (headSpec w_Mod_root rm_Mod_root).room s m args below meth c H locs 0 0 (MQ below (gx_Q (dC, dI) cx_cl b 22 (mx_sh cI cZ b) (some (.int q.1)) q.2) args s 0 0 (gx_A b 22)) (F0 m 27 ls []) := by
    intro nf
    induction nf with
    | zero => intro x0 x1 hk_x0 V H locs ls hl hP hS h; cases h
    | succ nf ihl =>
      intro x0 x1 hk_x0 V H locs ls hl hP hS h
      rw [F_Mod_root_27] at h
      refine lv_iload_n (pc := 27) hx hb d_Mod_root_27 rfl (lv_at hl 1 rfl) ?_
      refine lv_bipush (pc := 28) (v := (16 : Int32)) hx hb d_Mod_root_28 (by decide) ?_
      refine lv_icmp_ge (pc := 30) (tgt := 70) hx hb d_Mod_root_30 (by decide) (fun g1 => ?_) (fun g1 => ?_)
      · have h := gx_pos g1 h
        refine lv_aload_n (pc := 70) hx hb d_Mod_root_70 rfl (lv_at hl 0 rfl) ?_
        refine lv_iconst (pc := 71) (v := (4 : Int32)) hx hb d_Mod_root_71 (by decide) ?_
        obtain ⟨q1, g2, h⟩ := gx_bd h
        refine gx_ci (pc := 72) (va_runV (C := "GasLedgerModel") (As := [.int (4 : Int32)]) (rest := []) ⟨hx, hb, hml, hown, hts⟩ (k_Mod_map l dC dI cI cR cZ b tP tN hk_x0 g2) (gx_cw 1 hts cd_Mod_map tb_50 tb_752 tb_754 tb_22 rfl rfl ⟨by decide, by decide, by decide +kernel⟩ ⟨Nat.le_of_ble_eq_true rfl, Nat.le_of_ble_eq_true rfl⟩) (gy_preV (mx_XX b) hX hK hP hS (mx_lt hk_x0 (by decide)) (sh_Mod cI cZ b hk_x0 _) rfl) rfl rfl hl.1 rfl (lv_room (Nat.le_of_ble_eq_true rfl)) d_Mod_root_72 ⟨Nat.zero_le _, Nat.zero_le _⟩) hS (fun H locs hP hS => ?_)
        exact gx_iret (free := fun _ => True) hx hb hr hlk hP hS d_Mod_root_75 (by cases h; rfl) (by cases h; rfl)
      · have h := gx_neg g1 h
        refine lv_aload_n (pc := 33) hx hb d_Mod_root_33 rfl (lv_at hl 0 rfl) ?_
        refine va_get (pc := 34) (D := (dC, dI)) (ci := 6) (C := R_Mod) (T := T_Mod) (N := 39) hx hb hts in_Mod hown hK hP x0 (gx_at (mx_lt hk_x0 (by decide)) (sh_Mod cI cZ b hk_x0 _)) rfl 36 (by decide) (hts _ tb_637) (fun _ h9 => h9) rfl d_Mod_root_34 ?_
        refine lv_iload_n (pc := 37) hx hb d_Mod_root_37 rfl (lv_at hl 1 rfl) ?_
        refine lv_aload_n (pc := 38) hx hb d_Mod_root_38 rfl (lv_at hl 0 rfl) ?_
        refine lv_iload_n (pc := 39) hx hb d_Mod_root_39 rfl (lv_at hl 1 rfl) ?_
        obtain ⟨q2, g3, h⟩ := gx_bd h
        refine gx_ci (pc := 40) (va_runV (C := "GasLedgerModel") (As := [.int x1]) (rest := [.int x1, .ref (b + (x0 + 19))]) ⟨hx, hb, hml, hown, hts⟩ (k_Mod_empty l dC dI cI cR cZ b tP tN hk_x0 g3) (gx_cw 1 hts cd_Mod_empty tb_50 tb_760 tb_762 tb_24 rfl rfl ⟨by decide, by decide, by decide +kernel⟩ ⟨Nat.le_of_ble_eq_true rfl, Nat.le_of_ble_eq_true rfl⟩) (gy_preV (mx_XX b) hX hK hP hS (mx_lt hk_x0 (by decide)) (sh_Mod cI cZ b hk_x0 _) rfl) rfl rfl hl.1 rfl (lv_room (Nat.le_of_ble_eq_true rfl)) d_Mod_root_40 ⟨Nat.zero_le _, Nat.zero_le _⟩) hS (fun H locs hP hS => ?_)
        refine lv_if_ne (pc := 43) (tgt := 50) hx hb d_Mod_root_43 (by decide) (fun g4 => ?_) (fun g4 => ?_)
        · have h := gx_neg g4 h
          refine lv_iconst (pc := 50) (v := (0 : Int32)) hx hb d_Mod_root_50 (by decide) ?_
          obtain ⟨g5, h⟩ := gx_if h
          obtain ⟨V1, g6, h⟩ := gx_lt h
          refine gx_asz (pc := 51) hx hb hK hP hS (x0 + 19) 2 (mx_lt (to_Mod_has hk_x0) (by decide)) (fun _ => mh_arrZ cI cZ b (n := 16) (to_Mod_has hk_x0) _) rfl g5 d_Mod_root_51 g6 (fun H locs hP hS => ?_)
          refine lv_aload_n (pc := 52) hx hb d_Mod_root_52 rfl (lv_at hl 0 rfl) ?_
          refine va_get (pc := 53) (D := (dC, dI)) (ci := 6) (C := R_Mod) (T := T_Mod) (N := 39) hx hb hts in_Mod hown hK hP x0 (gx_at (mx_lt hk_x0 (by decide)) (sh_Mod cI cZ b hk_x0 _)) rfl 37 (by decide) (hts _ tb_638) (fun _ h9 => h9) rfl d_Mod_root_53 ?_
          refine lv_iload_n (pc := 56) hx hb d_Mod_root_56 rfl (lv_at hl 1 rfl) ?_
          refine lv_aload_n (pc := 57) hx hb d_Mod_root_57 rfl (lv_at hl 0 rfl) ?_
          refine va_get (pc := 58) (D := (dC, dI)) (ci := 6) (C := R_Mod) (T := T_Mod) (N := 39) hx hb hts in_Mod hown hK hP x0 (gx_at (mx_lt hk_x0 (by decide)) (sh_Mod cI cZ b hk_x0 _)) rfl 38 (by decide) (hts _ tb_639) (fun _ h9 => h9) rfl d_Mod_root_58 ?_
          refine lv_iload_n (pc := 61) hx hb d_Mod_root_61 rfl (lv_at hl 1 rfl) ?_
          obtain ⟨g7, h⟩ := gx_if h
          refine va_iald (pc := 62) hx hb hK hP (x0 + 21) 0 (gx_at (mx_lt (to_Mod_values hk_x0) (by decide)) (mh_arr cI cZ b (n := 16) (to_Mod_values hk_x0) (by decide) _)) rfl g7 d_Mod_root_62 ?_
          obtain ⟨g8, h⟩ := gx_if h
          obtain ⟨V2, g9, h⟩ := gx_lt h
          refine gx_asi (pc := 63) hx hb hK hP hS (x0 + 20) 0 (mx_lt (to_Mod_worth hk_x0) (by decide)) (fun _ => mh_arr cI cZ b (n := 16) (to_Mod_worth hk_x0) (by decide) _) rfl g8 d_Mod_root_63 g9 (fun H locs hP hS => ?_)
          refine lv_iinc (pc := 64) (k := 1) (lv' := [(1, .int (x1 + (1 : Int32))), (0, .ref (b + x0))]) hx hb d_Mod_root_64 hl rfl (gx_inc (by decide)) (by decide) rfl (fun ls hl => ?_)
          refine lv_goto (pc := 67) (tgt := 27) hx hb d_Mod_root_67 (by decide) ?_
          exact ihl _ _ hk_x0 _ _ _ _ (lv_sub hl [1, 0] rfl) hP hS h
        · have h := gx_pos g4 h
          refine lv_iconst (pc := 46) (v := (1 : Int32)) hx hb d_Mod_root_46 (by decide) ?_
          refine lv_goto (pc := 47) (tgt := 51) hx hb d_Mod_root_47 (by decide) ?_
          obtain ⟨g10, h⟩ := gx_if h
          obtain ⟨V3, g11, h⟩ := gx_lt h
          refine gx_asz (pc := 51) hx hb hK hP hS (x0 + 19) 2 (mx_lt (to_Mod_has hk_x0) (by decide)) (fun _ => mh_arrZ cI cZ b (n := 16) (to_Mod_has hk_x0) _) rfl g10 d_Mod_root_51 g11 (fun H locs hP hS => ?_)
          refine lv_aload_n (pc := 52) hx hb d_Mod_root_52 rfl (lv_at hl 0 rfl) ?_
          refine va_get (pc := 53) (D := (dC, dI)) (ci := 6) (C := R_Mod) (T := T_Mod) (N := 39) hx hb hts in_Mod hown hK hP x0 (gx_at (mx_lt hk_x0 (by decide)) (sh_Mod cI cZ b hk_x0 _)) rfl 37 (by decide) (hts _ tb_638) (fun _ h9 => h9) rfl d_Mod_root_53 ?_
          refine lv_iload_n (pc := 56) hx hb d_Mod_root_56 rfl (lv_at hl 1 rfl) ?_
          refine lv_aload_n (pc := 57) hx hb d_Mod_root_57 rfl (lv_at hl 0 rfl) ?_
          refine va_get (pc := 58) (D := (dC, dI)) (ci := 6) (C := R_Mod) (T := T_Mod) (N := 39) hx hb hts in_Mod hown hK hP x0 (gx_at (mx_lt hk_x0 (by decide)) (sh_Mod cI cZ b hk_x0 _)) rfl 38 (by decide) (hts _ tb_639) (fun _ h9 => h9) rfl d_Mod_root_58 ?_
          refine lv_iload_n (pc := 61) hx hb d_Mod_root_61 rfl (lv_at hl 1 rfl) ?_
          obtain ⟨g12, h⟩ := gx_if h
          refine va_iald (pc := 62) hx hb hK hP (x0 + 21) 0 (gx_at (mx_lt (to_Mod_values hk_x0) (by decide)) (mh_arr cI cZ b (n := 16) (to_Mod_values hk_x0) (by decide) _)) rfl g12 d_Mod_root_62 ?_
          obtain ⟨g13, h⟩ := gx_if h
          obtain ⟨V4, g14, h⟩ := gx_lt h
          refine gx_asi (pc := 63) hx hb hK hP hS (x0 + 20) 0 (mx_lt (to_Mod_worth hk_x0) (by decide)) (fun _ => mh_arr cI cZ b (n := 16) (to_Mod_worth hk_x0) (by decide) _) rfl g13 d_Mod_root_63 g14 (fun H locs hP hS => ?_)
          refine lv_iinc (pc := 64) (k := 1) (lv' := [(1, .int (x1 + (1 : Int32))), (0, .ref (b + x0))]) hx hb d_Mod_root_64 hl rfl (gx_inc (by decide)) (by decide) rfl (fun ls hl => ?_)
          refine lv_goto (pc := 67) (tgt := 27) hx hb d_Mod_root_67 (by decide) ?_
          exact ihl _ _ hk_x0 _ _ _ _ (lv_sub hl [1, 0] rfl) hP hS h
  have B_2 : ∀ (nf : Nat), ∀ (x0 : Nat) (x1 : Int32), mx_kd x0 = 6 → ∀ (V : gx_M) (H : Heap) (locs : List Loc) (ls : Array Slot), lv_has ls 2 [(0, .ref (b + x0)), (1, .int x1)] → va_P (dC, dI) cx_cl (gx_w b 22 (gx_v (mx_sh cI cZ b) V)) H → va_S (gx_A b 22) s.heap H locs → F_Mod_root_2 nf x0 x1 V = some q → W p l e (headSpec w_Mod_root rm_Mod_root).room s m args below meth c H locs 0 0 (MQ below (gx_Q (dC, dI) cx_cl b 22 (mx_sh cI cZ b) (some (.int q.1)) q.2) args s 0 0 (gx_A b 22)) (F0 m 2 ls []) := by
    intro nf
    induction nf with
    | zero => intro x0 x1 hk_x0 V H locs ls hl hP hS h; cases h
    | succ nf ihl =>
      intro x0 x1 hk_x0 V H locs ls hl hP hS h
      rw [F_Mod_root_2] at h
      refine lv_iload_n (pc := 2) hx hb d_Mod_root_2 rfl (lv_at hl 1 rfl) ?_
      refine lv_bipush (pc := 3) (v := (16 : Int32)) hx hb d_Mod_root_3 (by decide) ?_
      refine lv_icmp_ge (pc := 5) (tgt := 25) hx hb d_Mod_root_5 (by decide) (fun g15 => ?_) (fun g15 => ?_)
      · have h := gx_pos g15 h
        refine lv_iconst (pc := 25) (v := (0 : Int32)) hx hb d_Mod_root_25 (by decide) ?_
        refine lv_istore_n (pc := 26) (lv' := [(1, .int (0 : Int32)), (0, .ref (b + x0))]) hx hb d_Mod_root_26 rfl hl (by decide) rfl (fun ls hl => ?_)
        exact B_27 100  _ _ hk_x0 _ _ _ _ (lv_sub hl [1, 0] rfl) hP hS h
      · have h := gx_neg g15 h
        refine lv_aload_n (pc := 8) hx hb d_Mod_root_8 rfl (lv_at hl 0 rfl) ?_
        refine va_get (pc := 9) (D := (dC, dI)) (ci := 6) (C := R_Mod) (T := T_Mod) (N := 39) hx hb hts in_Mod hown hK hP x0 (gx_at (mx_lt hk_x0 (by decide)) (sh_Mod cI cZ b hk_x0 _)) rfl 38 (by decide) (hts _ tb_639) (fun _ h9 => h9) rfl d_Mod_root_9 ?_
        refine lv_iload_n (pc := 12) hx hb d_Mod_root_12 rfl (lv_at hl 1 rfl) ?_
        refine lv_aload_n (pc := 13) hx hb d_Mod_root_13 rfl (lv_at hl 0 rfl) ?_
        refine lv_iload_n (pc := 14) hx hb d_Mod_root_14 rfl (lv_at hl 1 rfl) ?_
        obtain ⟨q3, g16, h⟩ := gx_bd h
        refine gx_ci (pc := 15) (va_runV (C := "GasLedgerModel") (As := [.int x1]) (rest := [.int x1, .ref (b + (x0 + 21))]) ⟨hx, hb, hml, hown, hts⟩ (k_Mod_valueOf l dC dI cI cR cZ b tP tN hk_x0 g16) (gx_cw 1 hts cd_Mod_valueOf tb_50 tb_740 tb_742 tb_20 rfl rfl ⟨by decide, by decide, by decide +kernel⟩ ⟨Nat.le_of_ble_eq_true rfl, Nat.le_of_ble_eq_true rfl⟩) (gy_preV (mx_XX b) hX hK hP hS (mx_lt hk_x0 (by decide)) (sh_Mod cI cZ b hk_x0 _) rfl) rfl rfl hl.1 rfl (lv_room (Nat.le_of_ble_eq_true rfl)) d_Mod_root_15 ⟨Nat.zero_le _, Nat.zero_le _⟩) hS (fun H locs hP hS => ?_)
        obtain ⟨g17, h⟩ := gx_if h
        obtain ⟨V5, g18, h⟩ := gx_lt h
        refine gx_asi (pc := 18) hx hb hK hP hS (x0 + 21) 0 (mx_lt (to_Mod_values hk_x0) (by decide)) (fun _ => mh_arr cI cZ b (n := 16) (to_Mod_values hk_x0) (by decide) _) rfl g17 d_Mod_root_18 g18 (fun H locs hP hS => ?_)
        refine lv_iinc (pc := 19) (k := 1) (lv' := [(1, .int (x1 + (1 : Int32))), (0, .ref (b + x0))]) hx hb d_Mod_root_19 hl rfl (gx_inc (by decide)) (by decide) rfl (fun ls hl => ?_)
        refine lv_goto (pc := 22) (tgt := 2) hx hb d_Mod_root_22 (by decide) ?_
        exact ihl _ _ hk_x0 _ _ _ _ (lv_sub hl [1, 0] rfl) hP hS h
  unfold F_Mod_root at h
  refine lv_iconst (pc := 0) (v := (0 : Int32)) hx hb d_Mod_root_0 (by decide) ?_
  refine lv_istore_n (pc := 1) (lv' := [(1, .int (0 : Int32)), (0, .ref (b + x0))]) hx hb d_Mod_root_1 rfl hl (by decide) rfl (fun ls hl => ?_)
  exact B_2 100  _ _ hk0 _ _ _ _ (lv_sub hl [1, 0] rfl) hP hS h
