abbrev rm_Mac_undo : Room := { frames := 2, cells := 0, slots := 0, locals := 85 }
def F_Mac_undo (x0 : Nat) (x1 : Nat) (V : gx_M) : Option gx_M := ((F_Acc_copyFrom (x0 + 1) (x1 + 2) V).bind fun q1 => (gx_let (gx_u q1 x0 4 (q1 x1 13)) fun V1 => (gx_let (gx_u V1 x0 5 (V1 x1 14)) fun V2 => ((F_Log_cutBackTo (x0 + 8) (V2 x1 15) (V2 x1 16) V2).bind fun q2 => some q2))))
set_option maxRecDepth 100000 in
set_option maxHeartbeats 8000000 in
theorem k_Mac_undo (l : Launch) (dC : Nat → ClassId) (dI : Nat → Nat → Nat) (cI cR cZ : ClassId) (b tP tN : Nat) {x0 : Nat} {x1 : Nat} {V : gx_M} {q : gx_M} (hk0 : cx_kd x0 = 3) (hk1 : cx_kd x1 = 1) (h : F_Mac_undo x0 x1 V = some q) : cx_C l dC dI cI cR cZ b tP tN y_Mac_undo w_Mac_undo rm_Mac_undo [.ref (b + x0), .ref (b + x1)] V none q := by
  refine gx_start (cc := b_Mac_undo) (maxL := 2) (ret := rt_Mac_undo) (by decide) rfl (Nat.le_of_ble_eq_true rfl) ?_
  intro p e s m args below meth c ls hx hb hr hts hown hlk hml hl hP hK hX hS
  have hts : ∀ w ∈ cx_tb, w.before args s = true := fun w hw => hts w (List.mem_cons_of_mem _ hw)
  have hown : s.vm.findClass "GasLedger$Machine" = some m.cls := hown
  have hl : lv_has ls 2 [(0, .ref (b + x0)), (1, .ref (b + x1))] := hl
  unfold F_Mac_undo at h
  refine lv_aload_n (pc := 0) hx hb d_Mac_undo_0 rfl (lv_at hl 0 rfl) ?_
  refine va_get (pc := 1) (D := (dC, dI)) (ci := 3) (C := R_Mac) (T := T_Mac) (N := 6) hx hb hts in_Mac hown hK hP x0 (gx_at (cx_lt hk0 (by decide)) (sh_Mac cI cR b hk0 _)) rfl 0 (by decide) (hts _ tb_201) (fun _ h9 => h9) rfl d_Mac_undo_1 ?_
  refine lv_aload_n (pc := 4) hx hb d_Mac_undo_4 rfl (lv_at hl 1 rfl) ?_
  refine va_get (pc := 5) (D := (dC, dI)) (ci := 1) (C := R_Frm) (T := T_Frm) (N := 17) hx hb hts in_Frm hown hK hP x1 (gx_at (cx_lt hk1 (by decide)) (sh_Frm cI cR b hk1 _)) rfl 12 (by decide) (hts _ tb_161) (fun _ h9 => h9) rfl d_Mac_undo_5 ?_
  obtain ⟨q1, g1, h⟩ := gx_bd h
  refine gx_cv (pc := 8) (va_runV (C := "GasLedger$Accounts") (As := [.ref (b + (x1 + 2))]) (rest := []) ⟨hx, hb, hml, hown, hts⟩ (k_Acc_copyFrom l dC dI cI cR cZ b tP tN (to_Mac_accounts hk0) (to_Frm_accountsBefore hk1) g1) (gx_cw 1 hts cd_Acc_copyFrom tb_46 tb_353 tb_323 tb_324 rfl rfl ⟨by decide, by decide, by decide +kernel⟩ ⟨Nat.le_of_ble_eq_true rfl, Nat.le_of_ble_eq_true rfl⟩) (gy_preV (cx_XX b tP tN) hX hK hP hS (cx_lt (to_Mac_accounts hk0) (by decide)) (sh_Acc cI cR b (to_Mac_accounts hk0) _) rfl) rfl rfl hl.1 rfl (lv_room (Nat.le_of_ble_eq_true rfl)) d_Mac_undo_8 ⟨Nat.zero_le _, Nat.zero_le _⟩) hS (fun H locs hP hS => ?_)
  refine lv_aload_n (pc := 11) hx hb d_Mac_undo_11 rfl (lv_at hl 0 rfl) ?_
  refine lv_aload_n (pc := 12) hx hb d_Mac_undo_12 rfl (lv_at hl 1 rfl) ?_
  refine va_get (pc := 13) (D := (dC, dI)) (ci := 1) (C := R_Frm) (T := T_Frm) (N := 17) hx hb hts in_Frm hown hK hP x1 (gx_at (cx_lt hk1 (by decide)) (sh_Frm cI cR b hk1 _)) rfl 13 (by decide) (hts _ tb_162) (fun _ h9 => h9) rfl d_Mac_undo_13 ?_
  obtain ⟨V1, g2, h⟩ := gx_lt h
  refine gy_put (pc := 16) (D := (dC, dI)) (ci := 3) (C := R_Mac) (T := T_Mac) (NF := 6) (ty := .int) hx hb hts in_Mac t_Mac ty_Mac nm_Mac hown hK hP hS x0 (cx_lt hk0 (by decide)) (sh_Mac cI cR b hk0 _) rfl 4 (by decide) (hts _ tb_207) (fun _ h9 => h9) rfl (by decide +kernel) rfl rfl (Nat.le_of_ble_eq_true rfl) 4 (sh_Mac cI cR b hk0 _) d_Mac_undo_16 g2 (fun H locs hP hS => ?_)
  refine lv_aload_n (pc := 19) hx hb d_Mac_undo_19 rfl (lv_at hl 0 rfl) ?_
  refine lv_aload_n (pc := 20) hx hb d_Mac_undo_20 rfl (lv_at hl 1 rfl) ?_
  refine va_get (pc := 21) (D := (dC, dI)) (ci := 1) (C := R_Frm) (T := T_Frm) (N := 17) hx hb hts in_Frm hown hK hP x1 (gx_at (cx_lt hk1 (by decide)) (sh_Frm cI cR b hk1 _)) rfl 14 (by decide) (hts _ tb_163) (fun _ h9 => h9) rfl d_Mac_undo_21 ?_
  obtain ⟨V2, g3, h⟩ := gx_lt h
  refine gy_put (pc := 24) (D := (dC, dI)) (ci := 3) (C := R_Mac) (T := T_Mac) (NF := 6) (ty := .int) hx hb hts in_Mac t_Mac ty_Mac nm_Mac hown hK hP hS x0 (cx_lt hk0 (by decide)) (sh_Mac cI cR b hk0 _) rfl 5 (by decide) (hts _ tb_209) (fun _ h9 => h9) rfl (by decide +kernel) rfl rfl (Nat.le_of_ble_eq_true rfl) 5 (sh_Mac cI cR b hk0 _) d_Mac_undo_24 g3 (fun H locs hP hS => ?_)
  refine lv_aload_n (pc := 27) hx hb d_Mac_undo_27 rfl (lv_at hl 0 rfl) ?_
  refine va_get (pc := 28) (D := (dC, dI)) (ci := 3) (C := R_Mac) (T := T_Mac) (N := 6) hx hb hts in_Mac hown hK hP x0 (gx_at (cx_lt hk0 (by decide)) (sh_Mac cI cR b hk0 _)) rfl 1 (by decide) (hts _ tb_203) (fun _ h9 => h9) rfl d_Mac_undo_28 ?_
  refine lv_aload_n (pc := 31) hx hb d_Mac_undo_31 rfl (lv_at hl 1 rfl) ?_
  refine va_get (pc := 32) (D := (dC, dI)) (ci := 1) (C := R_Frm) (T := T_Frm) (N := 17) hx hb hts in_Frm hown hK hP x1 (gx_at (cx_lt hk1 (by decide)) (sh_Frm cI cR b hk1 _)) rfl 15 (by decide) (hts _ tb_164) (fun _ h9 => h9) rfl d_Mac_undo_32 ?_
  refine lv_aload_n (pc := 35) hx hb d_Mac_undo_35 rfl (lv_at hl 1 rfl) ?_
  refine va_get (pc := 36) (D := (dC, dI)) (ci := 1) (C := R_Frm) (T := T_Frm) (N := 17) hx hb hts in_Frm hown hK hP x1 (gx_at (cx_lt hk1 (by decide)) (sh_Frm cI cR b hk1 _)) rfl 16 (by decide) (hts _ tb_165) (fun _ h9 => h9) rfl d_Mac_undo_36 ?_
  obtain ⟨q2, g4, h⟩ := gx_bd h
  refine gx_cv (pc := 39) (va_runV (C := "GasLedger$Logs") (As := [.int (V2 x1 15), .int (V2 x1 16)]) (rest := []) ⟨hx, hb, hml, hown, hts⟩ (k_Log_cutBackTo l dC dI cI cR cZ b tP tN (to_Mac_logs hk0) g4) (gx_cw 2 hts cd_Log_cutBackTo tb_47 tb_500 tb_319 tb_320 rfl rfl ⟨by decide, by decide, by decide +kernel⟩ ⟨Nat.le_of_ble_eq_true rfl, Nat.le_of_ble_eq_true rfl⟩) (gy_preV (cx_XX b tP tN) hX hK hP hS (cx_lt (to_Mac_logs hk0) (by decide)) (sh_Log cI cR b (to_Mac_logs hk0) _) rfl) rfl rfl hl.1 rfl (lv_room (Nat.le_of_ble_eq_true rfl)) d_Mac_undo_39 ⟨Nat.zero_le _, Nat.zero_le _⟩) hS (fun H locs hP hS => ?_)
  exact gx_vret hx hb hr hlk hP hS d_Mac_undo_42 (by cases h; rfl) (by cases h; rfl)
abbrev rm_Mac_leave : Room := { frames := 3, cells := 0, slots := 0, locals := 106 }
def F_Mac_leave_12 (x0 : Nat) (x1 : Nat) (V : gx_M) : Option gx_M := (gx_let (gx_u V x0 3 ((V x0 3) - (1 : Int32))) fun V1 => (if (V1 x0 3) ≤ 0 then some V1 else (if gx_ib ((V1 x0 3) - (1 : Int32)) 8 then (gx_let (gx_u V1 ((x0 + 11) + (1 + 9 * ((V1 x0 3) - (1 : Int32)).toNatClampNeg)) 6 ((V1 ((x0 + 11) + (1 + 9 * ((V1 x0 3) - (1 : Int32)).toNatClampNeg)) 6) + (V1 x1 6))) fun V2 => ((F_Frm_push ((x0 + 11) + (1 + 9 * ((V1 x0 3) - (1 : Int32)).toNatClampNeg)) (V2 x1 11) V2).bind fun q1 => (if (q1 x1 10) = 0 then ((F_Frm_push ((x0 + 11) + (1 + 9 * ((V1 x0 3) - (1 : Int32)).toNatClampNeg)) (0 : Int32) q1).bind fun q2 => some q2) else ((F_Frm_push ((x0 + 11) + (1 + 9 * ((V1 x0 3) - (1 : Int32)).toNatClampNeg)) (1 : Int32) q1).bind fun q3 => some q3)))) else none)))
def F_Mac_leave (x0 : Nat) (x1 : Nat) (V : gx_M) : Option gx_M := (if (V x1 10) = 0 then ((F_Mac_undo x0 x1 V).bind fun q4 => (F_Mac_leave_12   x0 x1 q4)) else (F_Mac_leave_12   x0 x1 V))
set_option maxRecDepth 100000 in
set_option maxHeartbeats 8000000 in
theorem k_Mac_leave (l : Launch) (dC : Nat → ClassId) (dI : Nat → Nat → Nat) (cI cR cZ : ClassId) (b tP tN : Nat) {x0 : Nat} {x1 : Nat} {V : gx_M} {q : gx_M} (hk0 : cx_kd x0 = 3) (hk1 : cx_kd x1 = 1) (h : F_Mac_leave x0 x1 V = some q) : cx_C l dC dI cI cR cZ b tP tN y_Mac_leave w_Mac_leave rm_Mac_leave [.ref (b + x0), .ref (b + x1)] V none q := by
  refine gx_start (cc := b_Mac_leave) (maxL := 3) (ret := rt_Mac_leave) (by decide) rfl (Nat.le_of_ble_eq_true rfl) ?_
  intro p e s m args below meth c ls hx hb hr hts hown hlk hml hl hP hK hX hS
  have hts : ∀ w ∈ cx_tb, w.before args s = true := fun w hw => hts w (List.mem_cons_of_mem _ hw)
  have hown : s.vm.findClass "GasLedger$Machine" = some m.cls := hown
  have hl : lv_has ls 3 [(0, .ref (b + x0)), (1, .ref (b + x1))] := hl
  have B_12 : ∀ (x0 : Nat) (x1 : Nat), cx_kd x0 = 3 → cx_kd x1 = 1 → ∀ (V : gx_M) (H : Heap) (locs : List Loc) (ls : Array Slot), lv_has ls 3 [(0, .ref (b + x0)), (1, .ref (b + x1))] → va_P (dC, dI) cx_cl (gx_w b 97 (gx_v (cx_sh cI cR b) V)) H → va_S (gx_A b 97) s.heap H locs → F_Mac_leave_12 x0 x1 V = some q → W p l e (headSpec w_Mac_leave rm_Mac_leave).room s m args below meth c H locs 0 0 (MQ below (gx_Q (dC, dI) cx_cl b 97 (cx_sh cI cR b) none q) args s 0 0 (gx_A b 97)) (F0 m 12 ls []) := by
    intro x0 x1 hk_x0 hk_x1 V H locs ls hl hP hS h
    unfold F_Mac_leave_12 at h
    refine lv_aload_n (pc := 12) hx hb d_Mac_leave_12 rfl (lv_at hl 0 rfl) ?_
    refine lv_dup (pc := 13) hx hb d_Mac_leave_13 rfl ?_
    refine va_get (pc := 14) (D := (dC, dI)) (ci := 3) (C := R_Mac) (T := T_Mac) (N := 6) hx hb hts in_Mac hown hK hP x0 (gx_at (cx_lt hk_x0 (by decide)) (sh_Mac cI cR b hk_x0 _)) rfl 3 (by decide) (hts _ tb_206) (fun _ h9 => h9) rfl d_Mac_leave_14 ?_
    refine lv_iconst (pc := 17) (v := (1 : Int32)) hx hb d_Mac_leave_17 (by decide) ?_
    refine lv_isub (pc := 18) hx hb d_Mac_leave_18 ?_
    obtain ⟨V1, g1, h⟩ := gx_lt h
    refine gy_put (pc := 19) (D := (dC, dI)) (ci := 3) (C := R_Mac) (T := T_Mac) (NF := 6) (ty := .int) hx hb hts in_Mac t_Mac ty_Mac nm_Mac hown hK hP hS x0 (cx_lt hk_x0 (by decide)) (sh_Mac cI cR b hk_x0 _) rfl 3 (by decide) (hts _ tb_206) (fun _ h9 => h9) rfl (by decide +kernel) rfl rfl (Nat.le_of_ble_eq_true rfl) 3 (sh_Mac cI cR b hk_x0 _) d_Mac_leave_19 g1 (fun H locs hP hS => ?_)
    refine lv_aload_n (pc := 22) hx hb d_Mac_leave_22 rfl (lv_at hl 0 rfl) ?_
    refine va_get (pc := 23) (D := (dC, dI)) (ci := 3) (C := R_Mac) (T := T_Mac) (N := 6) hx hb hts in_Mac hown hK hP x0 (gx_at (cx_lt hk_x0 (by decide)) (sh_Mac cI cR b hk_x0 _)) rfl 3 (by decide) (hts _ tb_206) (fun _ h9 => h9) rfl d_Mac_leave_23 ?_
    refine lv_if_le (pc := 26) (tgt := 78) hx hb d_Mac_leave_26 (by decide) (fun g2 => ?_) (fun g2 => ?_)
    · have h := gx_pos g2 h
      exact gx_vret hx hb hr hlk hP hS d_Mac_leave_78 (by cases h; rfl) (by cases h; rfl)
    · have h := gx_neg g2 h
      refine lv_aload_n (pc := 29) hx hb d_Mac_leave_29 rfl (lv_at hl 0 rfl) ?_
      refine va_get (pc := 30) (D := (dC, dI)) (ci := 3) (C := R_Mac) (T := T_Mac) (N := 6) hx hb hts in_Mac hown hK hP x0 (gx_at (cx_lt hk_x0 (by decide)) (sh_Mac cI cR b hk_x0 _)) rfl 2 (by decide) (hts _ tb_205) (fun _ h9 => h9) rfl d_Mac_leave_30 ?_
      refine lv_aload_n (pc := 33) hx hb d_Mac_leave_33 rfl (lv_at hl 0 rfl) ?_
      refine va_get (pc := 34) (D := (dC, dI)) (ci := 3) (C := R_Mac) (T := T_Mac) (N := 6) hx hb hts in_Mac hown hK hP x0 (gx_at (cx_lt hk_x0 (by decide)) (sh_Mac cI cR b hk_x0 _)) rfl 3 (by decide) (hts _ tb_206) (fun _ h9 => h9) rfl d_Mac_leave_34 ?_
      refine lv_iconst (pc := 37) (v := (1 : Int32)) hx hb d_Mac_leave_37 (by decide) ?_
      refine lv_isub (pc := 38) hx hb d_Mac_leave_38 ?_
      obtain ⟨g3, h⟩ := gx_if h
      refine gx_aald (pc := 39) hx hb hK hP (x0 + 11) 1 (to_Mac_frames hk_x0) rfl g3 d_Mac_leave_39 ?_
      refine lv_astore_n (pc := 40) (lv' := [(2, .ref (b + ((x0 + 11) + (1 + 9 * ((V1 x0 3) - (1 : Int32)).toNatClampNeg)))), (0, .ref (b + x0)), (1, .ref (b + x1))]) hx hb d_Mac_leave_40 rfl hl (by decide) rfl (fun ls hl => ?_)
      refine lv_aload_n (pc := 41) hx hb d_Mac_leave_41 rfl (lv_at hl 0 rfl) ?_
      refine lv_dup (pc := 42) hx hb d_Mac_leave_42 rfl ?_
      refine va_get (pc := 43) (D := (dC, dI)) (ci := 1) (C := R_Frm) (T := T_Frm) (N := 17) hx hb hts in_Frm hown hK hP ((x0 + 11) + (1 + 9 * ((V1 x0 3) - (1 : Int32)).toNatClampNeg)) (gx_at (cx_lt (to_frame (to_Mac_frames hk_x0) (gx_ilt g3)) (by decide)) (sh_Frm cI cR b (to_frame (to_Mac_frames hk_x0) (gx_ilt g3)) _)) rfl 6 (by decide) (hts _ tb_147) (fun _ h9 => h9) rfl d_Mac_leave_43 ?_
      refine lv_aload_n (pc := 46) hx hb d_Mac_leave_46 rfl (lv_at hl 2 rfl) ?_
      refine va_get (pc := 47) (D := (dC, dI)) (ci := 1) (C := R_Frm) (T := T_Frm) (N := 17) hx hb hts in_Frm hown hK hP x1 (gx_at (cx_lt hk_x1 (by decide)) (sh_Frm cI cR b hk_x1 _)) rfl 6 (by decide) (hts _ tb_147) (fun _ h9 => h9) rfl d_Mac_leave_47 ?_
      refine lv_iadd (pc := 50) hx hb d_Mac_leave_50 ?_
      obtain ⟨V2, g4, h⟩ := gx_lt h
      refine gy_put (pc := 51) (D := (dC, dI)) (ci := 1) (C := R_Frm) (T := T_Frm) (NF := 17) (ty := .int) hx hb hts in_Frm t_Frm ty_Frm nm_Frm hown hK hP hS ((x0 + 11) + (1 + 9 * ((V1 x0 3) - (1 : Int32)).toNatClampNeg)) (cx_lt (to_frame (to_Mac_frames hk_x0) (gx_ilt g3)) (by decide)) (sh_Frm cI cR b (to_frame (to_Mac_frames hk_x0) (gx_ilt g3)) _) rfl 6 (by decide) (hts _ tb_147) (fun _ h9 => h9) rfl (by decide +kernel) rfl rfl (Nat.le_of_ble_eq_true rfl) 6 (sh_Frm cI cR b (to_frame (to_Mac_frames hk_x0) (gx_ilt g3)) _) d_Mac_leave_51 g4 (fun H locs hP hS => ?_)
      refine lv_aload_n (pc := 54) hx hb d_Mac_leave_54 rfl (lv_at hl 0 rfl) ?_
      refine lv_aload_n (pc := 55) hx hb d_Mac_leave_55 rfl (lv_at hl 2 rfl) ?_
      refine va_get (pc := 56) (D := (dC, dI)) (ci := 1) (C := R_Frm) (T := T_Frm) (N := 17) hx hb hts in_Frm hown hK hP x1 (gx_at (cx_lt hk_x1 (by decide)) (sh_Frm cI cR b hk_x1 _)) rfl 11 (by decide) (hts _ tb_158) (fun _ h9 => h9) rfl d_Mac_leave_56 ?_
      obtain ⟨q1, g5, h⟩ := gx_bd h
      refine gx_cv (pc := 59) (va_runV (C := "GasLedger$Frame") (As := [.int (V2 x1 11)]) (rest := []) ⟨hx, hb, hml, hown, hts⟩ (k_Frm_push l dC dI cI cR cZ b tP tN (to_frame (to_Mac_frames hk_x0) (gx_ilt g3)) g5) (gx_cw 1 hts cd_Frm_push tb_48 tb_440 tb_441 tb_442 rfl rfl ⟨by decide, by decide, by decide +kernel⟩ ⟨Nat.le_of_ble_eq_true rfl, Nat.le_of_ble_eq_true rfl⟩) (gy_preV (cx_XX b tP tN) hX hK hP hS (cx_lt (to_frame (to_Mac_frames hk_x0) (gx_ilt g3)) (by decide)) (sh_Frm cI cR b (to_frame (to_Mac_frames hk_x0) (gx_ilt g3)) _) rfl) rfl rfl hl.1 rfl (lv_room (Nat.le_of_ble_eq_true rfl)) d_Mac_leave_59 ⟨Nat.zero_le _, Nat.zero_le _⟩) hS (fun H locs hP hS => ?_)
      refine lv_aload_n (pc := 62) hx hb d_Mac_leave_62 rfl (lv_at hl 0 rfl) ?_
      refine lv_aload_n (pc := 63) hx hb d_Mac_leave_63 rfl (lv_at hl 2 rfl) ?_
      refine va_get (pc := 64) (D := (dC, dI)) (ci := 1) (C := R_Frm) (T := T_Frm) (N := 17) hx hb hts in_Frm hown hK hP x1 (gx_at (cx_lt hk_x1 (by decide)) (sh_Frm cI cR b hk_x1 _)) rfl 10 (by decide) (hts _ tb_155) (fun _ h9 => h9) rfl d_Mac_leave_64 ?_
      refine lv_if_eq (pc := 67) (tgt := 74) hx hb d_Mac_leave_67 (by decide) (fun g6 => ?_) (fun g6 => ?_)
      · have h := gx_pos g6 h
        refine lv_iconst (pc := 74) (v := (0 : Int32)) hx hb d_Mac_leave_74 (by decide) ?_
        obtain ⟨q2, g7, h⟩ := gx_bd h
        refine gx_cv (pc := 75) (va_runV (C := "GasLedger$Frame") (As := [.int (0 : Int32)]) (rest := []) ⟨hx, hb, hml, hown, hts⟩ (k_Frm_push l dC dI cI cR cZ b tP tN (to_frame (to_Mac_frames hk_x0) (gx_ilt g3)) g7) (gx_cw 1 hts cd_Frm_push tb_48 tb_440 tb_441 tb_442 rfl rfl ⟨by decide, by decide, by decide +kernel⟩ ⟨Nat.le_of_ble_eq_true rfl, Nat.le_of_ble_eq_true rfl⟩) (gy_preV (cx_XX b tP tN) hX hK hP hS (cx_lt (to_frame (to_Mac_frames hk_x0) (gx_ilt g3)) (by decide)) (sh_Frm cI cR b (to_frame (to_Mac_frames hk_x0) (gx_ilt g3)) _) rfl) rfl rfl hl.1 rfl (lv_room (Nat.le_of_ble_eq_true rfl)) d_Mac_leave_75 ⟨Nat.zero_le _, Nat.zero_le _⟩) hS (fun H locs hP hS => ?_)
        exact gx_vret hx hb hr hlk hP hS d_Mac_leave_78 (by cases h; rfl) (by cases h; rfl)
      · have h := gx_neg g6 h
        refine lv_iconst (pc := 70) (v := (1 : Int32)) hx hb d_Mac_leave_70 (by decide) ?_
        refine lv_goto (pc := 71) (tgt := 75) hx hb d_Mac_leave_71 (by decide) ?_
        obtain ⟨q3, g8, h⟩ := gx_bd h
        refine gx_cv (pc := 75) (va_runV (C := "GasLedger$Frame") (As := [.int (1 : Int32)]) (rest := []) ⟨hx, hb, hml, hown, hts⟩ (k_Frm_push l dC dI cI cR cZ b tP tN (to_frame (to_Mac_frames hk_x0) (gx_ilt g3)) g8) (gx_cw 1 hts cd_Frm_push tb_48 tb_440 tb_441 tb_442 rfl rfl ⟨by decide, by decide, by decide +kernel⟩ ⟨Nat.le_of_ble_eq_true rfl, Nat.le_of_ble_eq_true rfl⟩) (gy_preV (cx_XX b tP tN) hX hK hP hS (cx_lt (to_frame (to_Mac_frames hk_x0) (gx_ilt g3)) (by decide)) (sh_Frm cI cR b (to_frame (to_Mac_frames hk_x0) (gx_ilt g3)) _) rfl) rfl rfl hl.1 rfl (lv_room (Nat.le_of_ble_eq_true rfl)) d_Mac_leave_75 ⟨Nat.zero_le _, Nat.zero_le _⟩) hS (fun H locs hP hS => ?_)
        exact gx_vret hx hb hr hlk hP hS d_Mac_leave_78 (by cases h; rfl) (by cases h; rfl)
  unfold F_Mac_leave at h
  refine lv_aload_n (pc := 0) hx hb d_Mac_leave_0 rfl (lv_at hl 1 rfl) ?_
  refine va_get (pc := 1) (D := (dC, dI)) (ci := 1) (C := R_Frm) (T := T_Frm) (N := 17) hx hb hts in_Frm hown hK hP x1 (gx_at (cx_lt hk1 (by decide)) (sh_Frm cI cR b hk1 _)) rfl 10 (by decide) (hts _ tb_155) (fun _ h9 => h9) rfl d_Mac_leave_1 ?_
  refine lv_if_ne (pc := 4) (tgt := 12) hx hb d_Mac_leave_4 (by decide) (fun g9 => ?_) (fun g9 => ?_)
  · have h := gx_neg g9 h
    exact B_12   _ _ hk0 hk1 _ _ _ _ (lv_sub hl [0, 1] rfl) hP hS h
  · have h := gx_pos g9 h
    refine lv_aload_n (pc := 7) hx hb d_Mac_leave_7 rfl (lv_at hl 0 rfl) ?_
    refine lv_aload_n (pc := 8) hx hb d_Mac_leave_8 rfl (lv_at hl 1 rfl) ?_
    obtain ⟨q4, g10, h⟩ := gx_bd h
    refine gx_cv (pc := 9) (va_runV (C := "GasLedger$Machine") (As := [.ref (b + x1)]) (rest := []) ⟨hx, hb, hml, hown, hts⟩ (k_Mac_undo l dC dI cI cR cZ b tP tN hk0 hk1 g10) (gx_cw 1 hts cd_Mac_undo tb_45 tb_496 tb_498 tb_18 rfl rfl ⟨by decide, by decide, by decide +kernel⟩ ⟨Nat.le_of_ble_eq_true rfl, Nat.le_of_ble_eq_true rfl⟩) (gy_preV (cx_XX b tP tN) hX hK hP hS (cx_lt hk0 (by decide)) (sh_Mac cI cR b hk0 _) rfl) rfl rfl hl.1 rfl (lv_room (Nat.le_of_ble_eq_true rfl)) d_Mac_leave_9 ⟨Nat.zero_le _, Nat.zero_le _⟩) hS (fun H locs hP hS => ?_)
    exact B_12   _ _ hk0 hk1 _ _ _ _ (lv_sub hl [0, 1] rfl) hP hS h
abbrev rm_Mac_run : Room := { frames := 5, cells := 0, slots := 0, locals := 164 }
def F_Mac_run_40 : Nat → Nat → Int32 → gx_M → Option (Nat × gx_M)
  | 0, _, _, _ => none
  | nf + 1, x0, x6, V => (if (100000 : Int32) ≤ x6 then (if gx_ib (0 : Int32) 8 then some (((x0 + 11) + (1 + 9 * (0 : Int32).toNatClampNeg)), V) else none) else (if (V x0 3) ≤ 0 then (if gx_ib (0 : Int32) 8 then some (((x0 + 11) + (1 + 9 * (0 : Int32).toNatClampNeg)), V) else none) else (if gx_ib ((V x0 3) - (1 : Int32)) 8 then ((F_Mac_step x0 ((x0 + 11) + (1 + 9 * ((V x0 3) - (1 : Int32)).toNatClampNeg)) V).bind fun q1 => (if (q1 ((x0 + 11) + (1 + 9 * ((V x0 3) - (1 : Int32)).toNatClampNeg)) 9) = 0 then (F_Mac_run_40 nf  x0 (x6 + (1 : Int32)) q1) else ((F_Mac_leave x0 ((x0 + 11) + (1 + 9 * ((V x0 3) - (1 : Int32)).toNatClampNeg)) q1).bind fun q2 => (F_Mac_run_40 nf  x0 (x6 + (1 : Int32)) q2)))) else none)))
def F_Mac_run (x0 : Nat) (x1 : Int32) (x2 : Int32) (x3 : Int32) (x4 : Int32) (x5 : Int32) (V : gx_M) : Option (Nat × gx_M) := (gx_let (gx_u V x0 4 (0 : Int32)) fun V1 => (gx_let (gx_u V1 x0 5 (0 : Int32)) fun V2 => (gx_let (gx_u V2 x0 3 (0 : Int32)) fun V3 => ((F_Mac_enter x0 x2 x2 x1 x3 x4 x5 V3).bind fun q3 => ((F_Acc_give (x0 + 1) x1 x2 x3 q3).bind fun q4 => (F_Mac_run_40 200000  x0 (0 : Int32) q4))))))
set_option maxRecDepth 100000 in
set_option maxHeartbeats 8000000 in
theorem k_Mac_run (l : Launch) (dC : Nat → ClassId) (dI : Nat → Nat → Nat) (cI cR cZ : ClassId) (b tP tN : Nat) {x0 : Nat} {x1 : Int32} {x2 : Int32} {x3 : Int32} {x4 : Int32} {x5 : Int32} {V : gx_M} {q : (Nat × gx_M)} (hk0 : cx_kd x0 = 3) (h : F_Mac_run x0 x1 x2 x3 x4 x5 V = some q) : cx_C l dC dI cI cR cZ b tP tN y_Mac_run w_Mac_run rm_Mac_run [.ref (b + x0), .int x1, .int x2, .int x3, .int x4, .int x5] V (some (.ref (b + q.1))) q.2 := by
  refine gx_start (cc := b_Mac_run) (maxL := 8) (ret := rt_Mac_run) (by decide) rfl (Nat.le_of_ble_eq_true rfl) ?_
  intro p e s m args below meth c ls hx hb hr hts hown hlk hml hl hP hK hX hS
  have hts : ∀ w ∈ cx_tb, w.before args s = true := fun w hw => hts w (List.mem_cons_of_mem _ hw)
  have hown : s.vm.findClass "GasLedger$Machine" = some m.cls := hown
  have hl : lv_has ls 8 [(0, .ref (b + x0)), (1, .int x1), (2, .int x2), (3, .int x3), (4, .int x4), (5, .int x5)] := hl
  have B_40 : ∀ (nf : Nat), ∀ (x0 : Nat) (x6 : Int32), cx_kd x0 = 3 → ∀ (V : gx_M) (H : Heap) (locs : List Loc) (ls : Array Slot), lv_has ls 8 [(0, .ref (b + x0)), (6, .int x6)] → va_P (dC, dI) cx_cl (gx_w b 97 (gx_v (cx_sh cI cR b) V)) H → va_S (gx_A b 97) s.heap H locs → F_Mac_run_40 nf x0 x6 V = some q → W p l e (headSpec w_Mac_run rm_Mac_run).room s m args below meth c H locs 0 0 (MQ below (gx_Q (dC, dI) cx_cl b 97 (cx_sh cI cR b) (some (.ref (b + q.1))) q.2) args s 0 0 (gx_A b 97)) (F0 m 40 ls []) := by
    intro nf
    induction nf with
    | zero => intro x0 x6 hk_x0 V H locs ls hl hP hS h; cases h
    | succ nf ihl =>
      intro x0 x6 hk_x0 V H locs ls hl hP hS h
      rw [F_Mac_run_40] at h
      refine lv_iload (pc := 40) hx hb d_Mac_run_40 (lv_at hl 1 rfl) ?_
      refine lv_ldc (pc := 42) (v := (100000 : Int32)) hx hb hown (hts _ tb_358) d_Mac_run_42 ?_
      refine lv_icmp_ge (pc := 44) (tgt := 93) hx hb d_Mac_run_44 (by decide) (fun g1 => ?_) (fun g1 => ?_)
      · have h := gx_pos g1 h
        refine lv_aload_n (pc := 93) hx hb d_Mac_run_93 rfl (lv_at hl 0 rfl) ?_
        refine va_get (pc := 94) (D := (dC, dI)) (ci := 3) (C := R_Mac) (T := T_Mac) (N := 6) hx hb hts in_Mac hown hK hP x0 (gx_at (cx_lt hk_x0 (by decide)) (sh_Mac cI cR b hk_x0 _)) rfl 2 (by decide) (hts _ tb_205) (fun _ h9 => h9) rfl d_Mac_run_94 ?_
        refine lv_iconst (pc := 97) (v := (0 : Int32)) hx hb d_Mac_run_97 (by decide) ?_
        obtain ⟨g2, h⟩ := gx_if h
        refine gx_aald (pc := 98) hx hb hK hP (x0 + 11) 1 (to_Mac_frames hk_x0) rfl g2 d_Mac_run_98 ?_
        exact gx_aret hx hb hr (Or.inl ⟨_, rfl⟩) hlk hP hS d_Mac_run_99 (by cases h; rfl) (by cases h; rfl)
      · have h := gx_neg g1 h
        refine lv_aload_n (pc := 47) hx hb d_Mac_run_47 rfl (lv_at hl 0 rfl) ?_
        refine va_get (pc := 48) (D := (dC, dI)) (ci := 3) (C := R_Mac) (T := T_Mac) (N := 6) hx hb hts in_Mac hown hK hP x0 (gx_at (cx_lt hk_x0 (by decide)) (sh_Mac cI cR b hk_x0 _)) rfl 3 (by decide) (hts _ tb_206) (fun _ h9 => h9) rfl d_Mac_run_48 ?_
        refine lv_if_le (pc := 51) (tgt := 93) hx hb d_Mac_run_51 (by decide) (fun g3 => ?_) (fun g3 => ?_)
        · have h := gx_pos g3 h
          refine lv_aload_n (pc := 93) hx hb d_Mac_run_93 rfl (lv_at hl 0 rfl) ?_
          refine va_get (pc := 94) (D := (dC, dI)) (ci := 3) (C := R_Mac) (T := T_Mac) (N := 6) hx hb hts in_Mac hown hK hP x0 (gx_at (cx_lt hk_x0 (by decide)) (sh_Mac cI cR b hk_x0 _)) rfl 2 (by decide) (hts _ tb_205) (fun _ h9 => h9) rfl d_Mac_run_94 ?_
          refine lv_iconst (pc := 97) (v := (0 : Int32)) hx hb d_Mac_run_97 (by decide) ?_
          obtain ⟨g4, h⟩ := gx_if h
          refine gx_aald (pc := 98) hx hb hK hP (x0 + 11) 1 (to_Mac_frames hk_x0) rfl g4 d_Mac_run_98 ?_
          exact gx_aret hx hb hr (Or.inl ⟨_, rfl⟩) hlk hP hS d_Mac_run_99 (by cases h; rfl) (by cases h; rfl)
        · have h := gx_neg g3 h
          refine lv_aload_n (pc := 54) hx hb d_Mac_run_54 rfl (lv_at hl 0 rfl) ?_
          refine va_get (pc := 55) (D := (dC, dI)) (ci := 3) (C := R_Mac) (T := T_Mac) (N := 6) hx hb hts in_Mac hown hK hP x0 (gx_at (cx_lt hk_x0 (by decide)) (sh_Mac cI cR b hk_x0 _)) rfl 2 (by decide) (hts _ tb_205) (fun _ h9 => h9) rfl d_Mac_run_55 ?_
          refine lv_aload_n (pc := 58) hx hb d_Mac_run_58 rfl (lv_at hl 0 rfl) ?_
          refine va_get (pc := 59) (D := (dC, dI)) (ci := 3) (C := R_Mac) (T := T_Mac) (N := 6) hx hb hts in_Mac hown hK hP x0 (gx_at (cx_lt hk_x0 (by decide)) (sh_Mac cI cR b hk_x0 _)) rfl 3 (by decide) (hts _ tb_206) (fun _ h9 => h9) rfl d_Mac_run_59 ?_
          refine lv_iconst (pc := 62) (v := (1 : Int32)) hx hb d_Mac_run_62 (by decide) ?_
          refine lv_isub (pc := 63) hx hb d_Mac_run_63 ?_
          obtain ⟨g5, h⟩ := gx_if h
          refine gx_aald (pc := 64) hx hb hK hP (x0 + 11) 1 (to_Mac_frames hk_x0) rfl g5 d_Mac_run_64 ?_
          refine lv_astore (pc := 65) (lv' := [(7, .ref (b + ((x0 + 11) + (1 + 9 * ((V x0 3) - (1 : Int32)).toNatClampNeg)))), (0, .ref (b + x0)), (6, .int x6)]) hx hb d_Mac_run_65 hl (by decide) rfl (fun ls hl => ?_)
          refine lv_aload_n (pc := 67) hx hb d_Mac_run_67 rfl (lv_at hl 1 rfl) ?_
          refine lv_aload (pc := 68) hx hb d_Mac_run_68 (lv_at hl 0 rfl) ?_
          obtain ⟨q1, g6, h⟩ := gx_bd h
          refine gx_cv (pc := 70) (va_runV (C := "GasLedger$Machine") (As := [.ref (b + ((x0 + 11) + (1 + 9 * ((V x0 3) - (1 : Int32)).toNatClampNeg)))]) (rest := []) ⟨hx, hb, hml, hown, hts⟩ (k_Mac_step l dC dI cI cR cZ b tP tN hk_x0 (to_frame (to_Mac_frames hk_x0) (gx_ilt g5)) g6) (gx_cw 1 hts cd_Mac_step tb_45 tb_359 tb_361 tb_3 rfl rfl ⟨by decide, by decide, by decide +kernel⟩ ⟨Nat.le_of_ble_eq_true rfl, Nat.le_of_ble_eq_true rfl⟩) (gy_preV (cx_XX b tP tN) hX hK hP hS (cx_lt hk_x0 (by decide)) (sh_Mac cI cR b hk_x0 _) rfl) rfl rfl hl.1 rfl (lv_room (Nat.le_of_ble_eq_true rfl)) d_Mac_run_70 ⟨Nat.zero_le _, Nat.zero_le _⟩) hS (fun H locs hP hS => ?_)
          refine lv_aload (pc := 73) hx hb d_Mac_run_73 (lv_at hl 0 rfl) ?_
          refine va_get (pc := 75) (D := (dC, dI)) (ci := 1) (C := R_Frm) (T := T_Frm) (N := 17) hx hb hts in_Frm hown hK hP ((x0 + 11) + (1 + 9 * ((V x0 3) - (1 : Int32)).toNatClampNeg)) (gx_at (cx_lt (to_frame (to_Mac_frames hk_x0) (gx_ilt g5)) (by decide)) (sh_Frm cI cR b (to_frame (to_Mac_frames hk_x0) (gx_ilt g5)) _)) rfl 9 (by decide) (hts _ tb_153) (fun _ h9 => h9) rfl d_Mac_run_75 ?_
          refine lv_if_eq (pc := 78) (tgt := 87) hx hb d_Mac_run_78 (by decide) (fun g7 => ?_) (fun g7 => ?_)
          · have h := gx_pos g7 h
            refine lv_iinc (pc := 87) (k := 2) (lv' := [(6, .int (x6 + (1 : Int32))), (7, .ref (b + ((x0 + 11) + (1 + 9 * ((V x0 3) - (1 : Int32)).toNatClampNeg)))), (0, .ref (b + x0))]) hx hb d_Mac_run_87 hl rfl (gx_inc (by decide)) (by decide) rfl (fun ls hl => ?_)
            refine lv_goto (pc := 90) (tgt := 40) hx hb d_Mac_run_90 (by decide) ?_
            exact ihl _ _ hk_x0 _ _ _ _ (lv_sub hl [2, 0] rfl) hP hS h
          · have h := gx_neg g7 h
            refine lv_aload_n (pc := 81) hx hb d_Mac_run_81 rfl (lv_at hl 1 rfl) ?_
            refine lv_aload (pc := 82) hx hb d_Mac_run_82 (lv_at hl 0 rfl) ?_
            obtain ⟨q2, g8, h⟩ := gx_bd h
            refine gx_cv (pc := 84) (va_runV (C := "GasLedger$Machine") (As := [.ref (b + ((x0 + 11) + (1 + 9 * ((V x0 3) - (1 : Int32)).toNatClampNeg)))]) (rest := []) ⟨hx, hb, hml, hown, hts⟩ (k_Mac_leave l dC dI cI cR cZ b tP tN hk_x0 (to_frame (to_Mac_frames hk_x0) (gx_ilt g5)) g8) (gx_cw 1 hts cd_Mac_leave tb_45 tb_492 tb_494 tb_17 rfl rfl ⟨by decide, by decide, by decide +kernel⟩ ⟨Nat.le_of_ble_eq_true rfl, Nat.le_of_ble_eq_true rfl⟩) (gy_preV (cx_XX b tP tN) hX hK hP hS (cx_lt hk_x0 (by decide)) (sh_Mac cI cR b hk_x0 _) rfl) rfl rfl hl.1 rfl (lv_room (Nat.le_of_ble_eq_true rfl)) d_Mac_run_84 ⟨Nat.zero_le _, Nat.zero_le _⟩) hS (fun H locs hP hS => ?_)
            refine lv_iinc (pc := 87) (k := 2) (lv' := [(6, .int (x6 + (1 : Int32))), (7, .ref (b + ((x0 + 11) + (1 + 9 * ((V x0 3) - (1 : Int32)).toNatClampNeg)))), (0, .ref (b + x0))]) hx hb d_Mac_run_87 hl rfl (gx_inc (by decide)) (by decide) rfl (fun ls hl => ?_)
            refine lv_goto (pc := 90) (tgt := 40) hx hb d_Mac_run_90 (by decide) ?_
            exact ihl _ _ hk_x0 _ _ _ _ (lv_sub hl [2, 0] rfl) hP hS h
  unfold F_Mac_run at h
  refine lv_aload_n (pc := 0) hx hb d_Mac_run_0 rfl (lv_at hl 0 rfl) ?_
  refine lv_iconst (pc := 1) (v := (0 : Int32)) hx hb d_Mac_run_1 (by decide) ?_
  obtain ⟨V1, g9, h⟩ := gx_lt h
  refine gy_put (pc := 2) (D := (dC, dI)) (ci := 3) (C := R_Mac) (T := T_Mac) (NF := 6) (ty := .int) hx hb hts in_Mac t_Mac ty_Mac nm_Mac hown hK hP hS x0 (cx_lt hk0 (by decide)) (sh_Mac cI cR b hk0 _) rfl 4 (by decide) (hts _ tb_207) (fun _ h9 => h9) rfl (by decide +kernel) rfl rfl (Nat.le_of_ble_eq_true rfl) 4 (sh_Mac cI cR b hk0 _) d_Mac_run_2 g9 (fun H locs hP hS => ?_)
  refine lv_aload_n (pc := 5) hx hb d_Mac_run_5 rfl (lv_at hl 0 rfl) ?_
  refine lv_iconst (pc := 6) (v := (0 : Int32)) hx hb d_Mac_run_6 (by decide) ?_
  obtain ⟨V2, g10, h⟩ := gx_lt h
  refine gy_put (pc := 7) (D := (dC, dI)) (ci := 3) (C := R_Mac) (T := T_Mac) (NF := 6) (ty := .int) hx hb hts in_Mac t_Mac ty_Mac nm_Mac hown hK hP hS x0 (cx_lt hk0 (by decide)) (sh_Mac cI cR b hk0 _) rfl 5 (by decide) (hts _ tb_209) (fun _ h9 => h9) rfl (by decide +kernel) rfl rfl (Nat.le_of_ble_eq_true rfl) 5 (sh_Mac cI cR b hk0 _) d_Mac_run_7 g10 (fun H locs hP hS => ?_)
  refine lv_aload_n (pc := 10) hx hb d_Mac_run_10 rfl (lv_at hl 0 rfl) ?_
  refine lv_iconst (pc := 11) (v := (0 : Int32)) hx hb d_Mac_run_11 (by decide) ?_
  obtain ⟨V3, g11, h⟩ := gx_lt h
  refine gy_put (pc := 12) (D := (dC, dI)) (ci := 3) (C := R_Mac) (T := T_Mac) (NF := 6) (ty := .int) hx hb hts in_Mac t_Mac ty_Mac nm_Mac hown hK hP hS x0 (cx_lt hk0 (by decide)) (sh_Mac cI cR b hk0 _) rfl 3 (by decide) (hts _ tb_206) (fun _ h9 => h9) rfl (by decide +kernel) rfl rfl (Nat.le_of_ble_eq_true rfl) 3 (sh_Mac cI cR b hk0 _) d_Mac_run_12 g11 (fun H locs hP hS => ?_)
  refine lv_aload_n (pc := 15) hx hb d_Mac_run_15 rfl (lv_at hl 0 rfl) ?_
  refine lv_iload_n (pc := 16) hx hb d_Mac_run_16 rfl (lv_at hl 2 rfl) ?_
  refine lv_iload_n (pc := 17) hx hb d_Mac_run_17 rfl (lv_at hl 2 rfl) ?_
  refine lv_iload_n (pc := 18) hx hb d_Mac_run_18 rfl (lv_at hl 1 rfl) ?_
  refine lv_iload_n (pc := 19) hx hb d_Mac_run_19 rfl (lv_at hl 3 rfl) ?_
  refine lv_iload (pc := 20) hx hb d_Mac_run_20 (lv_at hl 4 rfl) ?_
  refine lv_iload (pc := 22) hx hb d_Mac_run_22 (lv_at hl 5 rfl) ?_
  obtain ⟨q3, g12, h⟩ := gx_bd h
  refine gx_cv (pc := 24) (va_runV (C := "GasLedger$Machine") (As := [.int x2, .int x2, .int x1, .int x3, .int x4, .int x5]) (rest := []) ⟨hx, hb, hml, hown, hts⟩ (k_Mac_enter l dC dI cI cR cZ b tP tN hk0 g12) (gx_cw 6 hts cd_Mac_enter tb_45 tb_345 tb_347 tb_2 rfl rfl ⟨by decide, by decide, by decide +kernel⟩ ⟨Nat.le_of_ble_eq_true rfl, Nat.le_of_ble_eq_true rfl⟩) (gy_preV (cx_XX b tP tN) hX hK hP hS (cx_lt hk0 (by decide)) (sh_Mac cI cR b hk0 _) rfl) rfl rfl hl.1 rfl (lv_room (Nat.le_of_ble_eq_true rfl)) d_Mac_run_24 ⟨Nat.zero_le _, Nat.zero_le _⟩) hS (fun H locs hP hS => ?_)
  refine lv_aload_n (pc := 27) hx hb d_Mac_run_27 rfl (lv_at hl 0 rfl) ?_
  refine va_get (pc := 28) (D := (dC, dI)) (ci := 3) (C := R_Mac) (T := T_Mac) (N := 6) hx hb hts in_Mac hown hK hP x0 (gx_at (cx_lt hk0 (by decide)) (sh_Mac cI cR b hk0 _)) rfl 0 (by decide) (hts _ tb_201) (fun _ h9 => h9) rfl d_Mac_run_28 ?_
  refine lv_iload_n (pc := 31) hx hb d_Mac_run_31 rfl (lv_at hl 1 rfl) ?_
  refine lv_iload_n (pc := 32) hx hb d_Mac_run_32 rfl (lv_at hl 2 rfl) ?_
  refine lv_iload_n (pc := 33) hx hb d_Mac_run_33 rfl (lv_at hl 3 rfl) ?_
  obtain ⟨q4, g13, h⟩ := gx_bd h
  refine gx_cv (pc := 34) (va_runV (C := "GasLedger$Accounts") (As := [.int x1, .int x2, .int x3]) (rest := []) ⟨hx, hb, hml, hown, hts⟩ (k_Acc_give l dC dI cI cR cZ b tP tN (to_Mac_accounts hk0) g13) (gx_cw 3 hts cd_Acc_give tb_46 tb_354 tb_355 tb_356 rfl rfl ⟨by decide, by decide, by decide +kernel⟩ ⟨Nat.le_of_ble_eq_true rfl, Nat.le_of_ble_eq_true rfl⟩) (gy_preV (cx_XX b tP tN) hX hK hP hS (cx_lt (to_Mac_accounts hk0) (by decide)) (sh_Acc cI cR b (to_Mac_accounts hk0) _) rfl) rfl rfl hl.1 rfl (lv_room (Nat.le_of_ble_eq_true rfl)) d_Mac_run_34 ⟨Nat.zero_le _, Nat.zero_le _⟩) hS (fun H locs hP hS => ?_)
  refine lv_iconst (pc := 37) (v := (0 : Int32)) hx hb d_Mac_run_37 (by decide) ?_
  refine lv_istore (pc := 38) (lv' := [(6, .int (0 : Int32)), (0, .ref (b + x0)), (1, .int x1), (2, .int x2), (3, .int x3), (4, .int x4), (5, .int x5)]) hx hb d_Mac_run_38 hl (by decide) rfl (fun ls hl => ?_)
  exact B_40 200000  _ _ hk0 _ _ _ _ (lv_sub hl [1, 0] rfl) hP hS h
abbrev rm_Acc_clear : Room := { frames := 0, cells := 0, slots := 0, locals := 0 }
def F_Acc_clear_23 : Nat → Nat → Int32 → Int32 → gx_M → Option gx_M
  | 0, _, _, _, _ => none
  | nf + 1, x0, x1, x2, V => (if (8 : Int32) ≤ x2 then some V else (if gx_ib ((x1 * (8 : Int32)) + x2) 128 then (gx_let (gx_u V (x0 + 5) ((x1 * (8 : Int32)) + x2).toNatClampNeg (0 : Int32)) fun V1 => (F_Acc_clear_23 nf  x0 x1 (x2 + (1 : Int32)) V1)) else none))
def F_Acc_clear (x0 : Nat) (x1 : Int32) (V : gx_M) : Option gx_M := (if gx_ib x1 16 then (gx_let (gx_u V (x0 + 1) x1.toNatClampNeg (0 : Int32)) fun V2 => (if gx_ib x1 16 then (gx_let (gx_u V2 (x0 + 2) x1.toNatClampNeg (0 : Int32)) fun V3 => (if gx_ib x1 16 then (gx_let (gx_u V3 (x0 + 3) x1.toNatClampNeg (0 : Int32)) fun V4 => (F_Acc_clear_23 100  x0 x1 (0 : Int32) V4)) else none)) else none)) else none)
set_option maxRecDepth 100000 in
set_option maxHeartbeats 8000000 in
theorem k_Acc_clear (l : Launch) (dC : Nat → ClassId) (dI : Nat → Nat → Nat) (cI cR cZ : ClassId) (b tP tN : Nat) {x0 : Nat} {x1 : Int32} {V : gx_M} {q : gx_M} (hk0 : cx_kd x0 = 0) (h : F_Acc_clear x0 x1 V = some q) : cx_C l dC dI cI cR cZ b tP tN y_Acc_clear w_Acc_clear rm_Acc_clear [.ref (b + x0), .int x1] V none q := by
  refine gx_start (cc := b_Acc_clear) (maxL := 3) (ret := rt_Acc_clear) (by decide) rfl (Nat.le_of_ble_eq_true rfl) ?_
  intro p e s m args below meth c ls hx hb hr hts hown hlk hml hl hP hK hX hS
  have hts : ∀ w ∈ cx_tb, w.before args s = true := fun w hw => hts w (List.mem_cons_of_mem _ hw)
  have hown : s.vm.findClass "GasLedger$Accounts" = some m.cls := hown
  have hl : lv_has ls 3 [(0, .ref (b + x0)), (1, .int x1)] := hl
  have B_23 : ∀ (nf : Nat), ∀ (x0 : Nat) (x1 : Int32) (x2 : Int32), cx_kd x0 = 0 → ∀ (V : gx_M) (H : Heap) (locs : List Loc) (ls : Array Slot), lv_has ls 3 [(0, .ref (b + x0)), (1, .int x1), (2, .int x2)] → va_P (dC, dI) cx_cl (gx_w b 97 (gx_v (cx_sh cI cR b) V)) H → va_S (gx_A b 97) s.heap H locs → F_Acc_clear_23 nf x0 x1 x2 V = some q → W p l e (headSpec w_Acc_clear rm_Acc_clear).room s m args below meth c H locs 0 0 (MQ below (gx_Q (dC, dI) cx_cl b 97 (cx_sh cI cR b) none q) args s 0 0 (gx_A b 97)) (F0 m 23 ls []) := by
    intro nf
    induction nf with
    | zero => intro x0 x1 x2 hk_x0 V H locs ls hl hP hS h; cases h
    | succ nf ihl =>
      intro x0 x1 x2 hk_x0 V H locs ls hl hP hS h
      rw [F_Acc_clear_23] at h
      refine lv_iload_n (pc := 23) hx hb d_Acc_clear_23 rfl (lv_at hl 2 rfl) ?_
      refine lv_bipush (pc := 24) (v := (8 : Int32)) hx hb d_Acc_clear_24 (by decide) ?_
      refine lv_icmp_ge (pc := 26) (tgt := 47) hx hb d_Acc_clear_26 (by decide) (fun g1 => ?_) (fun g1 => ?_)
      · have h := gx_pos g1 h
        exact gx_vret hx hb hr hlk hP hS d_Acc_clear_47 (by cases h; rfl) (by cases h; rfl)
      · have h := gx_neg g1 h
        refine lv_aload_n (pc := 29) hx hb d_Acc_clear_29 rfl (lv_at hl 0 rfl) ?_
        refine va_get (pc := 30) (D := (dC, dI)) (ci := 0) (C := R_Acc) (T := T_Acc) (N := 6) hx hb hts in_Acc hown hK hP x0 (gx_at (cx_lt hk_x0 (by decide)) (sh_Acc cI cR b hk_x0 _)) rfl 4 (by decide) (hts _ tb_84) (fun _ h9 => h9) rfl d_Acc_clear_30 ?_
        refine lv_iload_n (pc := 33) hx hb d_Acc_clear_33 rfl (lv_at hl 1 rfl) ?_
        refine lv_bipush (pc := 34) (v := (8 : Int32)) hx hb d_Acc_clear_34 (by decide) ?_
        refine lv_imul (pc := 36) hx hb d_Acc_clear_36 ?_
        refine lv_iload_n (pc := 37) hx hb d_Acc_clear_37 rfl (lv_at hl 2 rfl) ?_
        refine lv_iadd (pc := 38) hx hb d_Acc_clear_38 ?_
        refine lv_iconst (pc := 39) (v := (0 : Int32)) hx hb d_Acc_clear_39 (by decide) ?_
        obtain ⟨g2, h⟩ := gx_if h
        obtain ⟨V1, g3, h⟩ := gx_lt h
        refine gx_asi (pc := 40) hx hb hK hP hS (x0 + 5) 0 (cx_lt (to_Acc_slots hk_x0) (by decide)) (fun _ => sh_arr cI cR b (n := 128) (to_Acc_slots hk_x0) _) rfl g2 d_Acc_clear_40 g3 (fun H locs hP hS => ?_)
        refine lv_iinc (pc := 41) (k := 2) (lv' := [(2, .int (x2 + (1 : Int32))), (0, .ref (b + x0)), (1, .int x1)]) hx hb d_Acc_clear_41 hl rfl (gx_inc (by decide)) (by decide) rfl (fun ls hl => ?_)
        refine lv_goto (pc := 44) (tgt := 23) hx hb d_Acc_clear_44 (by decide) ?_
        exact ihl _ _ _ hk_x0 _ _ _ _ (lv_sub hl [1, 2, 0] rfl) hP hS h
  unfold F_Acc_clear at h
  refine lv_aload_n (pc := 0) hx hb d_Acc_clear_0 rfl (lv_at hl 0 rfl) ?_
  refine va_get (pc := 1) (D := (dC, dI)) (ci := 0) (C := R_Acc) (T := T_Acc) (N := 6) hx hb hts in_Acc hown hK hP x0 (gx_at (cx_lt hk0 (by decide)) (sh_Acc cI cR b hk0 _)) rfl 0 (by decide) (hts _ tb_74) (fun _ h9 => h9) rfl d_Acc_clear_1 ?_
  refine lv_iload_n (pc := 4) hx hb d_Acc_clear_4 rfl (lv_at hl 1 rfl) ?_
  refine lv_iconst (pc := 5) (v := (0 : Int32)) hx hb d_Acc_clear_5 (by decide) ?_
  obtain ⟨g4, h⟩ := gx_if h
  obtain ⟨V2, g5, h⟩ := gx_lt h
  refine gx_asi (pc := 6) hx hb hK hP hS (x0 + 1) 0 (cx_lt (to_Acc_balances hk0) (by decide)) (fun _ => sh_arr cI cR b (n := 16) (to_Acc_balances hk0) _) rfl g4 d_Acc_clear_6 g5 (fun H locs hP hS => ?_)
  refine lv_aload_n (pc := 7) hx hb d_Acc_clear_7 rfl (lv_at hl 0 rfl) ?_
  refine va_get (pc := 8) (D := (dC, dI)) (ci := 0) (C := R_Acc) (T := T_Acc) (N := 6) hx hb hts in_Acc hown hK hP x0 (gx_at (cx_lt hk0 (by decide)) (sh_Acc cI cR b hk0 _)) rfl 1 (by decide) (hts _ tb_77) (fun _ h9 => h9) rfl d_Acc_clear_8 ?_
  refine lv_iload_n (pc := 11) hx hb d_Acc_clear_11 rfl (lv_at hl 1 rfl) ?_
  refine lv_iconst (pc := 12) (v := (0 : Int32)) hx hb d_Acc_clear_12 (by decide) ?_
  obtain ⟨g6, h⟩ := gx_if h
  obtain ⟨V3, g7, h⟩ := gx_lt h
  refine gx_asi (pc := 13) hx hb hK hP hS (x0 + 2) 0 (cx_lt (to_Acc_nonces hk0) (by decide)) (fun _ => sh_arr cI cR b (n := 16) (to_Acc_nonces hk0) _) rfl g6 d_Acc_clear_13 g7 (fun H locs hP hS => ?_)
  refine lv_aload_n (pc := 14) hx hb d_Acc_clear_14 rfl (lv_at hl 0 rfl) ?_
  refine va_get (pc := 15) (D := (dC, dI)) (ci := 0) (C := R_Acc) (T := T_Acc) (N := 6) hx hb hts in_Acc hown hK hP x0 (gx_at (cx_lt hk0 (by decide)) (sh_Acc cI cR b hk0 _)) rfl 2 (by decide) (hts _ tb_80) (fun _ h9 => h9) rfl d_Acc_clear_15 ?_
  refine lv_iload_n (pc := 18) hx hb d_Acc_clear_18 rfl (lv_at hl 1 rfl) ?_
  refine lv_iconst (pc := 19) (v := (0 : Int32)) hx hb d_Acc_clear_19 (by decide) ?_
  obtain ⟨g8, h⟩ := gx_if h
  obtain ⟨V4, g9, h⟩ := gx_lt h
  refine gx_asi (pc := 20) hx hb hK hP hS (x0 + 3) 0 (cx_lt (to_Acc_sizes hk0) (by decide)) (fun _ => sh_arr cI cR b (n := 16) (to_Acc_sizes hk0) _) rfl g8 d_Acc_clear_20 g9 (fun H locs hP hS => ?_)
  refine lv_iconst (pc := 21) (v := (0 : Int32)) hx hb d_Acc_clear_21 (by decide) ?_
  refine lv_istore_n (pc := 22) (lv' := [(2, .int (0 : Int32)), (0, .ref (b + x0)), (1, .int x1)]) hx hb d_Acc_clear_22 rfl hl (by decide) rfl (fun ls hl => ?_)
  exact B_23 100  _ _ _ hk0 _ _ _ _ (lv_sub hl [1, 2, 0] rfl) hP hS h
abbrev rm_Mac_removeGoers : Room := { frames := 1, cells := 0, slots := 0, locals := 22 }
def F_Mac_removeGoers_2 : Nat → Nat → Int32 → gx_M → Option gx_M
  | 0, _, _, _ => none
  | nf + 1, x0, x1, V => (if (16 : Int32) ≤ x1 then some V else (if (((V x0 5).toUInt32 >>> (x1.toUInt32 &&& Int32.toUInt32 31)).toInt32 &&& (1 : Int32)) = 0 then (F_Mac_removeGoers_2 nf  x0 (x1 + (1 : Int32)) V) else ((F_Acc_clear (x0 + 1) x1 V).bind fun q1 => (F_Mac_removeGoers_2 nf  x0 (x1 + (1 : Int32)) q1))))
def F_Mac_removeGoers (x0 : Nat) (V : gx_M) : Option gx_M := (F_Mac_removeGoers_2 100  x0 (0 : Int32) V)
set_option maxRecDepth 100000 in
set_option maxHeartbeats 8000000 in
theorem k_Mac_removeGoers (l : Launch) (dC : Nat → ClassId) (dI : Nat → Nat → Nat) (cI cR cZ : ClassId) (b tP tN : Nat) {x0 : Nat} {V : gx_M} {q : gx_M} (hk0 : cx_kd x0 = 3) (h : F_Mac_removeGoers x0 V = some q) : cx_C l dC dI cI cR cZ b tP tN y_Mac_removeGoers w_Mac_removeGoers rm_Mac_removeGoers [.ref (b + x0)] V none q := by
  refine gx_start (cc := b_Mac_removeGoers) (maxL := 2) (ret := rt_Mac_removeGoers) (by decide) rfl (Nat.le_of_ble_eq_true rfl) ?_
  intro p e s m args below meth c ls hx hb hr hts hown hlk hml hl hP hK hX hS
  have hts : ∀ w ∈ cx_tb, w.before args s = true := fun w hw => hts w (List.mem_cons_of_mem _ hw)
  have hown : s.vm.findClass "GasLedger$Machine" = some m.cls := hown
  have hl : lv_has ls 2 [(0, .ref (b + x0))] := hl
  have B_2 : ∀ (nf : Nat), ∀ (x0 : Nat) (x1 : Int32), cx_kd x0 = 3 → ∀ (V : gx_M) (H : Heap) (locs : List Loc) (ls : Array Slot), lv_has ls 2 [(0, .ref (b + x0)), (1, .int x1)] → va_P (dC, dI) cx_cl (gx_w b 97 (gx_v (cx_sh cI cR b) V)) H → va_S (gx_A b 97) s.heap H locs → F_Mac_removeGoers_2 nf x0 x1 V = some q → W p l e (headSpec w_Mac_removeGoers rm_Mac_removeGoers).room s m args below meth c H locs 0 0 (MQ below (gx_Q (dC, dI) cx_cl b 97 (cx_sh cI cR b) none q) args s 0 0 (gx_A b 97)) (F0 m 2 ls []) := by
    intro nf
    induction nf with
    | zero => intro x0 x1 hk_x0 V H locs ls hl hP hS h; cases h
    | succ nf ihl =>
      intro x0 x1 hk_x0 V H locs ls hl hP hS h
      rw [F_Mac_removeGoers_2] at h
      refine lv_iload_n (pc := 2) hx hb d_Mac_removeGoers_2 rfl (lv_at hl 1 rfl) ?_
      refine lv_bipush (pc := 3) (v := (16 : Int32)) hx hb d_Mac_removeGoers_3 (by decide) ?_
      refine lv_icmp_ge (pc := 5) (tgt := 33) hx hb d_Mac_removeGoers_5 (by decide) (fun g1 => ?_) (fun g1 => ?_)
      · have h := gx_pos g1 h
        exact gx_vret hx hb hr hlk hP hS d_Mac_removeGoers_33 (by cases h; rfl) (by cases h; rfl)
      · have h := gx_neg g1 h
        refine lv_aload_n (pc := 8) hx hb d_Mac_removeGoers_8 rfl (lv_at hl 0 rfl) ?_
        refine va_get (pc := 9) (D := (dC, dI)) (ci := 3) (C := R_Mac) (T := T_Mac) (N := 6) hx hb hts in_Mac hown hK hP x0 (gx_at (cx_lt hk_x0 (by decide)) (sh_Mac cI cR b hk_x0 _)) rfl 5 (by decide) (hts _ tb_209) (fun _ h9 => h9) rfl d_Mac_removeGoers_9 ?_
        refine lv_iload_n (pc := 12) hx hb d_Mac_removeGoers_12 rfl (lv_at hl 1 rfl) ?_
        refine lv_iushr (pc := 13) hx hb d_Mac_removeGoers_13 rfl ?_
        refine lv_iconst (pc := 14) (v := (1 : Int32)) hx hb d_Mac_removeGoers_14 (by decide) ?_
        refine lv_iand (pc := 15) hx hb d_Mac_removeGoers_15 ?_
        refine lv_if_eq (pc := 16) (tgt := 27) hx hb d_Mac_removeGoers_16 (by decide) (fun g2 => ?_) (fun g2 => ?_)
        · have h := gx_pos g2 h
          refine lv_iinc (pc := 27) (k := 1) (lv' := [(1, .int (x1 + (1 : Int32))), (0, .ref (b + x0))]) hx hb d_Mac_removeGoers_27 hl rfl (gx_inc (by decide)) (by decide) rfl (fun ls hl => ?_)
          refine lv_goto (pc := 30) (tgt := 2) hx hb d_Mac_removeGoers_30 (by decide) ?_
          exact ihl _ _ hk_x0 _ _ _ _ (lv_sub hl [1, 0] rfl) hP hS h
        · have h := gx_neg g2 h
          refine lv_aload_n (pc := 19) hx hb d_Mac_removeGoers_19 rfl (lv_at hl 0 rfl) ?_
          refine va_get (pc := 20) (D := (dC, dI)) (ci := 3) (C := R_Mac) (T := T_Mac) (N := 6) hx hb hts in_Mac hown hK hP x0 (gx_at (cx_lt hk_x0 (by decide)) (sh_Mac cI cR b hk_x0 _)) rfl 0 (by decide) (hts _ tb_201) (fun _ h9 => h9) rfl d_Mac_removeGoers_20 ?_
          refine lv_iload_n (pc := 23) hx hb d_Mac_removeGoers_23 rfl (lv_at hl 1 rfl) ?_
          obtain ⟨q1, g3, h⟩ := gx_bd h
          refine gx_cv (pc := 24) (va_runV (C := "GasLedger$Accounts") (As := [.int x1]) (rest := []) ⟨hx, hb, hml, hown, hts⟩ (k_Acc_clear l dC dI cI cR cZ b tP tN (to_Mac_accounts hk_x0) g3) (gx_cw 1 hts cd_Acc_clear tb_46 tb_506 tb_507 tb_508 rfl rfl ⟨by decide, by decide, by decide +kernel⟩ ⟨Nat.le_of_ble_eq_true rfl, Nat.le_of_ble_eq_true rfl⟩) (gy_preV (cx_XX b tP tN) hX hK hP hS (cx_lt (to_Mac_accounts hk_x0) (by decide)) (sh_Acc cI cR b (to_Mac_accounts hk_x0) _) rfl) rfl rfl hl.1 rfl (lv_room (Nat.le_of_ble_eq_true rfl)) d_Mac_removeGoers_24 ⟨Nat.zero_le _, Nat.zero_le _⟩) hS (fun H locs hP hS => ?_)
          refine lv_iinc (pc := 27) (k := 1) (lv' := [(1, .int (x1 + (1 : Int32))), (0, .ref (b + x0))]) hx hb d_Mac_removeGoers_27 hl rfl (gx_inc (by decide)) (by decide) rfl (fun ls hl => ?_)
          refine lv_goto (pc := 30) (tgt := 2) hx hb d_Mac_removeGoers_30 (by decide) ?_
          exact ihl _ _ hk_x0 _ _ _ _ (lv_sub hl [1, 0] rfl) hP hS h
  unfold F_Mac_removeGoers at h
  refine lv_iconst (pc := 0) (v := (0 : Int32)) hx hb d_Mac_removeGoers_0 (by decide) ?_
  refine lv_istore_n (pc := 1) (lv' := [(1, .int (0 : Int32)), (0, .ref (b + x0))]) hx hb d_Mac_removeGoers_1 rfl hl (by decide) rfl (fun ls hl => ?_)
  exact B_2 100  _ _ hk0 _ _ _ _ (lv_sub hl [1, 0] rfl) hP hS h
