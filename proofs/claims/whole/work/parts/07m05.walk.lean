abbrev rm_Mod_leave : Room := { frames := 1, cells := 0, slots := 0, locals := 21 }
def F_Mod_leave_70 (x0 : Nat) (x1 : Int32) (x2 : Int32) (x3 : Int32) (V : gx_M) : Option gx_M := (gx_let (gx_u V x0 19 ((V x0 19) - (1 : Int32))) fun V1 => (if 0 ≤ (V1 x0 19) then (if gx_ib (V1 x0 19) 8 then (if gx_ib (V1 x0 19) 8 then (gx_let (gx_u V1 (x0 + 12) (V1 x0 19).toNatClampNeg ((V1 (x0 + 12) (V1 x0 19).toNatClampNeg) + x3)) fun V2 => ((F_Mod_push x0 x2 V2).bind fun q1 => (if x1 = 0 then ((F_Mod_push x0 (0 : Int32) q1).bind fun q2 => some q2) else ((F_Mod_push x0 (1 : Int32) q1).bind fun q3 => some q3)))) else none) else none) else (gx_let (gx_u V1 x0 32 x3) fun V3 => (if x1 = 0 then (gx_let (gx_u V3 x0 33 (0 : Int32)) fun V4 => (gx_let (gx_u V4 x0 34 x2) fun V5 => some V5)) else (gx_let (gx_u V3 x0 33 (1 : Int32)) fun V6 => (gx_let (gx_u V6 x0 34 x2) fun V7 => some V7))))))
def F_Mod_leave_7 : Nat → Nat → Int32 → Int32 → Int32 → Int32 → gx_M → Option gx_M
  | 0, _, _, _, _, _, _ => none
  | nf + 1, x0, x1, x2, x3, x4, V => (if (576 : Int32) ≤ x4 then (if gx_ib (V x0 19) 8 then (gx_let (gx_u V x0 2 (V (x0 + 16) (V x0 19).toNatClampNeg)) fun V8 => (if gx_ib (V8 x0 19) 8 then (gx_let (gx_u V8 x0 13 (V8 (x0 + 17) (V8 x0 19).toNatClampNeg)) fun V9 => (F_Mod_leave_70   x0 x1 x2 x3 V9)) else none)) else none) else (if gx_ib (((576 : Int32) * (V x0 19)) + x4) 4608 then (if gx_ib x4 576 then (gx_let (gx_u V (x0 + 1) x4.toNatClampNeg (V (x0 + 15) (((576 : Int32) * (V x0 19)) + x4).toNatClampNeg)) fun V10 => (F_Mod_leave_7 nf  x0 x1 x2 x3 (x4 + (1 : Int32)) V10)) else none) else none))
def F_Mod_leave (x0 : Nat) (x1 : Int32) (x2 : Int32) (x3 : Int32) (V : gx_M) : Option gx_M := (if x1 = 0 then (F_Mod_leave_7 1000  x0 x1 x2 x3 (0 : Int32) V) else (F_Mod_leave_70   x0 x1 x2 x3 V))
set_option maxRecDepth 100000 in
set_option maxHeartbeats 8000000 in
theorem k_Mod_leave (l : Launch) (dC : Nat → ClassId) (dI : Nat → Nat → Nat) (cI cR cZ : ClassId) (b tP tN : Nat) {x0 : Nat} {x1 : Int32} {x2 : Int32} {x3 : Int32} {V : gx_M} {q : gx_M} (hk0 : mx_kd x0 = 6) (h : F_Mod_leave x0 x1 x2 x3 V = some q) : mx_C l dC dI cI cR cZ b tP tN y_Mod_leave w_Mod_leave rm_Mod_leave [.ref (b + x0), .int x1, .int x2, .int x3] V none q := by
  refine gx_start (cc := b_Mod_leave) (maxL := 5) (ret := rt_Mod_leave) (by decide) rfl (Nat.le_of_ble_eq_true rfl) ?_
  intro p e s m args below meth c ls hx hb hr hts hown hlk hml hl hP hK hX hS
  have hts : ∀ w ∈ cx_tb, w.before args s = true := fun w hw => hts w (List.mem_cons_of_mem _ hw)
  have hown : s.vm.findClass "GasLedgerModel" = some m.cls := hown
  have hl : lv_has ls 5 [(0, .ref (b + x0)), (1, .int x1), (2, .int x2), (3, .int x3)] := hl
  have B_70 : ∀ (x0 : Nat) (x1 : Int32) (x2 : Int32) (x3 : Int32), mx_kd x0 = 6 → ∀ (V : gx_M) (H : Heap) (locs : List Loc) (ls : Array Slot), lv_has ls 5 [(0, .ref (b + x0)), (1, .int x1), (2, .int x2), (3, .int x3)] → va_P (dC, dI) cx_cl (gx_w b 22 (gx_v (mx_sh cI cZ b) V)) H → va_S (gx_A b 22) s.heap H locs → F_Mod_leave_70 x0 x1 x2 x3 V = some q → W p l e (headSpec w_Mod_leave rm_Mod_leave).room s m args below meth c H locs 0 0 (MQ below (gx_Q (dC, dI) cx_cl b 22 (mx_sh cI cZ b) none q) args s 0 0 (gx_A b 22)) (F0 m 70 ls []) := by
    intro x0 x1 x2 x3 hk_x0 V H locs ls hl hP hS h
    unfold F_Mod_leave_70 at h
    refine lv_aload_n (pc := 70) hx hb d_Mod_leave_70 rfl (lv_at hl 0 rfl) ?_
    refine lv_dup (pc := 71) hx hb d_Mod_leave_71 rfl ?_
    refine va_get (pc := 72) (D := (dC, dI)) (ci := 6) (C := R_Mod) (T := T_Mod) (N := 39) hx hb hts in_Mod hown hK hP x0 (gx_at (mx_lt hk_x0 (by decide)) (sh_Mod cI cZ b hk_x0 _)) rfl 19 (by decide) (hts _ tb_620) (fun _ h9 => h9) rfl d_Mod_leave_72 ?_
    refine lv_iconst (pc := 75) (v := (1 : Int32)) hx hb d_Mod_leave_75 (by decide) ?_
    refine lv_isub (pc := 76) hx hb d_Mod_leave_76 ?_
    obtain ⟨V1, g1, h⟩ := gx_lt h
    refine gy_put (pc := 77) (D := (dC, dI)) (ci := 6) (C := R_Mod) (T := T_Mod) (NF := 39) (ty := .int) hx hb hts in_Mod t_Mod ty_Mod nm_Mod hown hK hP hS x0 (mx_lt hk_x0 (by decide)) (sh_Mod cI cZ b hk_x0 _) rfl 19 (by decide) (hts _ tb_620) (fun _ h9 => h9) rfl (by decide +kernel) rfl rfl (Nat.le_of_ble_eq_true rfl) 19 (sh_Mod cI cZ b hk_x0 _) d_Mod_leave_77 g1 (fun H locs hP hS => ?_)
    refine lv_aload_n (pc := 80) hx hb d_Mod_leave_80 rfl (lv_at hl 0 rfl) ?_
    refine va_get (pc := 81) (D := (dC, dI)) (ci := 6) (C := R_Mod) (T := T_Mod) (N := 39) hx hb hts in_Mod hown hK hP x0 (gx_at (mx_lt hk_x0 (by decide)) (sh_Mod cI cZ b hk_x0 _)) rfl 19 (by decide) (hts _ tb_620) (fun _ h9 => h9) rfl d_Mod_leave_81 ?_
    refine lv_if_ge (pc := 84) (tgt := 111) hx hb d_Mod_leave_84 (by decide) (fun g2 => ?_) (fun g2 => ?_)
    · have h := gx_pos g2 h
      refine lv_aload_n (pc := 111) hx hb d_Mod_leave_111 rfl (lv_at hl 0 rfl) ?_
      refine va_get (pc := 112) (D := (dC, dI)) (ci := 6) (C := R_Mod) (T := T_Mod) (N := 39) hx hb hts in_Mod hown hK hP x0 (gx_at (mx_lt hk_x0 (by decide)) (sh_Mod cI cZ b hk_x0 _)) rfl 26 (by decide) (hts _ tb_627) (fun _ h9 => h9) rfl d_Mod_leave_112 ?_
      refine lv_aload_n (pc := 115) hx hb d_Mod_leave_115 rfl (lv_at hl 0 rfl) ?_
      refine va_get (pc := 116) (D := (dC, dI)) (ci := 6) (C := R_Mod) (T := T_Mod) (N := 39) hx hb hts in_Mod hown hK hP x0 (gx_at (mx_lt hk_x0 (by decide)) (sh_Mod cI cZ b hk_x0 _)) rfl 19 (by decide) (hts _ tb_620) (fun _ h9 => h9) rfl d_Mod_leave_116 ?_
      refine lv_dup2_11 (pc := 119) hx hb d_Mod_leave_119 rfl rfl ?_
      obtain ⟨g3, h⟩ := gx_if h
      refine va_iald (pc := 120) hx hb hK hP (x0 + 12) 0 (gx_at (mx_lt (to_Mod_gas hk_x0) (by decide)) (mh_arr cI cZ b (n := 8) (to_Mod_gas hk_x0) (by decide) _)) rfl g3 d_Mod_leave_120 ?_
      refine lv_iload_n (pc := 121) hx hb d_Mod_leave_121 rfl (lv_at hl 3 rfl) ?_
      refine lv_iadd (pc := 122) hx hb d_Mod_leave_122 ?_
      obtain ⟨g4, h⟩ := gx_if h
      obtain ⟨V2, g5, h⟩ := gx_lt h
      refine gx_asi (pc := 123) hx hb hK hP hS (x0 + 12) 0 (mx_lt (to_Mod_gas hk_x0) (by decide)) (fun _ => mh_arr cI cZ b (n := 8) (to_Mod_gas hk_x0) (by decide) _) rfl g4 d_Mod_leave_123 g5 (fun H locs hP hS => ?_)
      refine lv_aload_n (pc := 124) hx hb d_Mod_leave_124 rfl (lv_at hl 0 rfl) ?_
      refine lv_iload_n (pc := 125) hx hb d_Mod_leave_125 rfl (lv_at hl 2 rfl) ?_
      obtain ⟨q1, g6, h⟩ := gx_bd h
      refine gx_cv (pc := 126) (va_runV (C := "GasLedgerModel") (As := [.int x2]) (rest := []) ⟨hx, hb, hml, hown, hts⟩ (k_Mod_push l dC dI cI cR cZ b tP tN hk_x0 g6) (gx_cw 1 hts cd_Mod_push tb_50 tb_793 tb_795 tb_30 rfl rfl ⟨by decide, by decide, by decide +kernel⟩ ⟨Nat.le_of_ble_eq_true rfl, Nat.le_of_ble_eq_true rfl⟩) (gy_preV (mx_XX b) hX hK hP hS (mx_lt hk_x0 (by decide)) (sh_Mod cI cZ b hk_x0 _) rfl) rfl rfl hl.1 rfl (lv_room (Nat.le_of_ble_eq_true rfl)) d_Mod_leave_126 ⟨Nat.zero_le _, Nat.zero_le _⟩) hS (fun H locs hP hS => ?_)
      refine lv_aload_n (pc := 129) hx hb d_Mod_leave_129 rfl (lv_at hl 0 rfl) ?_
      refine lv_iload_n (pc := 130) hx hb d_Mod_leave_130 rfl (lv_at hl 1 rfl) ?_
      refine lv_if_eq (pc := 131) (tgt := 138) hx hb d_Mod_leave_131 (by decide) (fun g7 => ?_) (fun g7 => ?_)
      · have h := gx_pos g7 h
        refine lv_iconst (pc := 138) (v := (0 : Int32)) hx hb d_Mod_leave_138 (by decide) ?_
        obtain ⟨q2, g8, h⟩ := gx_bd h
        refine gx_cv (pc := 139) (va_runV (C := "GasLedgerModel") (As := [.int (0 : Int32)]) (rest := []) ⟨hx, hb, hml, hown, hts⟩ (k_Mod_push l dC dI cI cR cZ b tP tN hk_x0 g8) (gx_cw 1 hts cd_Mod_push tb_50 tb_793 tb_795 tb_30 rfl rfl ⟨by decide, by decide, by decide +kernel⟩ ⟨Nat.le_of_ble_eq_true rfl, Nat.le_of_ble_eq_true rfl⟩) (gy_preV (mx_XX b) hX hK hP hS (mx_lt hk_x0 (by decide)) (sh_Mod cI cZ b hk_x0 _) rfl) rfl rfl hl.1 rfl (lv_room (Nat.le_of_ble_eq_true rfl)) d_Mod_leave_139 ⟨Nat.zero_le _, Nat.zero_le _⟩) hS (fun H locs hP hS => ?_)
        exact gx_vret hx hb hr hlk hP hS d_Mod_leave_142 (by cases h; rfl) (by cases h; rfl)
      · have h := gx_neg g7 h
        refine lv_iconst (pc := 134) (v := (1 : Int32)) hx hb d_Mod_leave_134 (by decide) ?_
        refine lv_goto (pc := 135) (tgt := 139) hx hb d_Mod_leave_135 (by decide) ?_
        obtain ⟨q3, g9, h⟩ := gx_bd h
        refine gx_cv (pc := 139) (va_runV (C := "GasLedgerModel") (As := [.int (1 : Int32)]) (rest := []) ⟨hx, hb, hml, hown, hts⟩ (k_Mod_push l dC dI cI cR cZ b tP tN hk_x0 g9) (gx_cw 1 hts cd_Mod_push tb_50 tb_793 tb_795 tb_30 rfl rfl ⟨by decide, by decide, by decide +kernel⟩ ⟨Nat.le_of_ble_eq_true rfl, Nat.le_of_ble_eq_true rfl⟩) (gy_preV (mx_XX b) hX hK hP hS (mx_lt hk_x0 (by decide)) (sh_Mod cI cZ b hk_x0 _) rfl) rfl rfl hl.1 rfl (lv_room (Nat.le_of_ble_eq_true rfl)) d_Mod_leave_139 ⟨Nat.zero_le _, Nat.zero_le _⟩) hS (fun H locs hP hS => ?_)
        exact gx_vret hx hb hr hlk hP hS d_Mod_leave_142 (by cases h; rfl) (by cases h; rfl)
    · have h := gx_neg g2 h
      refine lv_aload_n (pc := 87) hx hb d_Mod_leave_87 rfl (lv_at hl 0 rfl) ?_
      refine lv_iload_n (pc := 88) hx hb d_Mod_leave_88 rfl (lv_at hl 3 rfl) ?_
      obtain ⟨V3, g10, h⟩ := gx_lt h
      refine gy_put (pc := 89) (D := (dC, dI)) (ci := 6) (C := R_Mod) (T := T_Mod) (NF := 39) (ty := .int) hx hb hts in_Mod t_Mod ty_Mod nm_Mod hown hK hP hS x0 (mx_lt hk_x0 (by decide)) (sh_Mod cI cZ b hk_x0 _) rfl 32 (by decide) (hts _ tb_633) (fun _ h9 => h9) rfl (by decide +kernel) rfl rfl (Nat.le_of_ble_eq_true rfl) 32 (sh_Mod cI cZ b hk_x0 _) d_Mod_leave_89 g10 (fun H locs hP hS => ?_)
      refine lv_aload_n (pc := 92) hx hb d_Mod_leave_92 rfl (lv_at hl 0 rfl) ?_
      refine lv_iload_n (pc := 93) hx hb d_Mod_leave_93 rfl (lv_at hl 1 rfl) ?_
      refine lv_if_eq (pc := 94) (tgt := 101) hx hb d_Mod_leave_94 (by decide) (fun g11 => ?_) (fun g11 => ?_)
      · have h := gx_pos g11 h
        refine lv_iconst (pc := 101) (v := (0 : Int32)) hx hb d_Mod_leave_101 (by decide) ?_
        obtain ⟨V4, g12, h⟩ := gx_lt h
        refine gy_put (pc := 102) (D := (dC, dI)) (ci := 6) (C := R_Mod) (T := T_Mod) (NF := 39) (ty := .int) hx hb hts in_Mod t_Mod ty_Mod nm_Mod hown hK hP hS x0 (mx_lt hk_x0 (by decide)) (sh_Mod cI cZ b hk_x0 _) rfl 33 (by decide) (hts _ tb_634) (fun _ h9 => h9) rfl (by decide +kernel) rfl rfl (Nat.le_of_ble_eq_true rfl) 33 (sh_Mod cI cZ b hk_x0 _) d_Mod_leave_102 g12 (fun H locs hP hS => ?_)
        refine lv_aload_n (pc := 105) hx hb d_Mod_leave_105 rfl (lv_at hl 0 rfl) ?_
        refine lv_iload_n (pc := 106) hx hb d_Mod_leave_106 rfl (lv_at hl 2 rfl) ?_
        obtain ⟨V5, g13, h⟩ := gx_lt h
        refine gy_put (pc := 107) (D := (dC, dI)) (ci := 6) (C := R_Mod) (T := T_Mod) (NF := 39) (ty := .int) hx hb hts in_Mod t_Mod ty_Mod nm_Mod hown hK hP hS x0 (mx_lt hk_x0 (by decide)) (sh_Mod cI cZ b hk_x0 _) rfl 34 (by decide) (hts _ tb_635) (fun _ h9 => h9) rfl (by decide +kernel) rfl rfl (Nat.le_of_ble_eq_true rfl) 34 (sh_Mod cI cZ b hk_x0 _) d_Mod_leave_107 g13 (fun H locs hP hS => ?_)
        exact gx_vret hx hb hr hlk hP hS d_Mod_leave_110 (by cases h; rfl) (by cases h; rfl)
      · have h := gx_neg g11 h
        refine lv_iconst (pc := 97) (v := (1 : Int32)) hx hb d_Mod_leave_97 (by decide) ?_
        refine lv_goto (pc := 98) (tgt := 102) hx hb d_Mod_leave_98 (by decide) ?_
        obtain ⟨V6, g14, h⟩ := gx_lt h
        refine gy_put (pc := 102) (D := (dC, dI)) (ci := 6) (C := R_Mod) (T := T_Mod) (NF := 39) (ty := .int) hx hb hts in_Mod t_Mod ty_Mod nm_Mod hown hK hP hS x0 (mx_lt hk_x0 (by decide)) (sh_Mod cI cZ b hk_x0 _) rfl 33 (by decide) (hts _ tb_634) (fun _ h9 => h9) rfl (by decide +kernel) rfl rfl (Nat.le_of_ble_eq_true rfl) 33 (sh_Mod cI cZ b hk_x0 _) d_Mod_leave_102 g14 (fun H locs hP hS => ?_)
        refine lv_aload_n (pc := 105) hx hb d_Mod_leave_105 rfl (lv_at hl 0 rfl) ?_
        refine lv_iload_n (pc := 106) hx hb d_Mod_leave_106 rfl (lv_at hl 2 rfl) ?_
        obtain ⟨V7, g15, h⟩ := gx_lt h
        refine gy_put (pc := 107) (D := (dC, dI)) (ci := 6) (C := R_Mod) (T := T_Mod) (NF := 39) (ty := .int) hx hb hts in_Mod t_Mod ty_Mod nm_Mod hown hK hP hS x0 (mx_lt hk_x0 (by decide)) (sh_Mod cI cZ b hk_x0 _) rfl 34 (by decide) (hts _ tb_635) (fun _ h9 => h9) rfl (by decide +kernel) rfl rfl (Nat.le_of_ble_eq_true rfl) 34 (sh_Mod cI cZ b hk_x0 _) d_Mod_leave_107 g15 (fun H locs hP hS => ?_)
        exact gx_vret hx hb hr hlk hP hS d_Mod_leave_110 (by cases h; rfl) (by cases h; rfl)
  have B_7 : ∀ (nf : Nat), ∀ (x0 : Nat) (x1 : Int32) (x2 : Int32) (x3 : Int32) (x4 : Int32), mx_kd x0 = 6 → ∀ (V : gx_M) (H : Heap) (locs : List Loc) (ls : Array Slot), lv_has ls 5 [(0, .ref (b + x0)), (1, .int x1), (2, .int x2), (3, .int x3), (4, .int x4)] → va_P (dC, dI) cx_cl (gx_w b 22 (gx_v (mx_sh cI cZ b) V)) H → va_S (gx_A b 22) s.heap H locs → F_Mod_leave_7 nf x0 x1 x2 x3 x4 V = some q → W p l e (headSpec w_Mod_leave rm_Mod_leave).room s m args below meth c H locs 0 0 (MQ below (gx_Q (dC, dI) cx_cl b 22 (mx_sh cI cZ b) none q) args s 0 0 (gx_A b 22)) (F0 m 7 ls []) := by
    intro nf
    induction nf with
    | zero => intro x0 x1 x2 x3 x4 hk_x0 V H locs ls hl hP hS h; cases h
    | succ nf ihl =>
      intro x0 x1 x2 x3 x4 hk_x0 V H locs ls hl hP hS h
      rw [F_Mod_leave_7] at h
      refine lv_iload (pc := 7) hx hb d_Mod_leave_7 (lv_at hl 4 rfl) ?_
      refine lv_sipush (pc := 9) (v := (576 : Int32)) hx hb d_Mod_leave_9 (by decide) ?_
      refine lv_icmp_ge (pc := 12) (tgt := 44) hx hb d_Mod_leave_12 (by decide) (fun g16 => ?_) (fun g16 => ?_)
      · have h := gx_pos g16 h
        refine lv_aload_n (pc := 44) hx hb d_Mod_leave_44 rfl (lv_at hl 0 rfl) ?_
        refine lv_aload_n (pc := 45) hx hb d_Mod_leave_45 rfl (lv_at hl 0 rfl) ?_
        refine va_get (pc := 46) (D := (dC, dI)) (ci := 6) (C := R_Mod) (T := T_Mod) (N := 39) hx hb hts in_Mod hown hK hP x0 (gx_at (mx_lt hk_x0 (by decide)) (sh_Mod cI cZ b hk_x0 _)) rfl 30 (by decide) (hts _ tb_631) (fun _ h9 => h9) rfl d_Mod_leave_46 ?_
        refine lv_aload_n (pc := 49) hx hb d_Mod_leave_49 rfl (lv_at hl 0 rfl) ?_
        refine va_get (pc := 50) (D := (dC, dI)) (ci := 6) (C := R_Mod) (T := T_Mod) (N := 39) hx hb hts in_Mod hown hK hP x0 (gx_at (mx_lt hk_x0 (by decide)) (sh_Mod cI cZ b hk_x0 _)) rfl 19 (by decide) (hts _ tb_620) (fun _ h9 => h9) rfl d_Mod_leave_50 ?_
        obtain ⟨g17, h⟩ := gx_if h
        refine va_iald (pc := 53) hx hb hK hP (x0 + 16) 0 (gx_at (mx_lt (to_Mod_refunds hk_x0) (by decide)) (mh_arr cI cZ b (n := 8) (to_Mod_refunds hk_x0) (by decide) _)) rfl g17 d_Mod_leave_53 ?_
        obtain ⟨V8, g18, h⟩ := gx_lt h
        refine gy_put (pc := 54) (D := (dC, dI)) (ci := 6) (C := R_Mod) (T := T_Mod) (NF := 39) (ty := .int) hx hb hts in_Mod t_Mod ty_Mod nm_Mod hown hK hP hS x0 (mx_lt hk_x0 (by decide)) (sh_Mod cI cZ b hk_x0 _) rfl 2 (by decide) (hts _ tb_603) (fun _ h9 => h9) rfl (by decide +kernel) rfl rfl (Nat.le_of_ble_eq_true rfl) 2 (sh_Mod cI cZ b hk_x0 _) d_Mod_leave_54 g18 (fun H locs hP hS => ?_)
        refine lv_aload_n (pc := 57) hx hb d_Mod_leave_57 rfl (lv_at hl 0 rfl) ?_
        refine lv_aload_n (pc := 58) hx hb d_Mod_leave_58 rfl (lv_at hl 0 rfl) ?_
        refine va_get (pc := 59) (D := (dC, dI)) (ci := 6) (C := R_Mod) (T := T_Mod) (N := 39) hx hb hts in_Mod hown hK hP x0 (gx_at (mx_lt hk_x0 (by decide)) (sh_Mod cI cZ b hk_x0 _)) rfl 31 (by decide) (hts _ tb_632) (fun _ h9 => h9) rfl d_Mod_leave_59 ?_
        refine lv_aload_n (pc := 62) hx hb d_Mod_leave_62 rfl (lv_at hl 0 rfl) ?_
        refine va_get (pc := 63) (D := (dC, dI)) (ci := 6) (C := R_Mod) (T := T_Mod) (N := 39) hx hb hts in_Mod hown hK hP x0 (gx_at (mx_lt hk_x0 (by decide)) (sh_Mod cI cZ b hk_x0 _)) rfl 19 (by decide) (hts _ tb_620) (fun _ h9 => h9) rfl d_Mod_leave_63 ?_
        obtain ⟨g19, h⟩ := gx_if h
        refine va_iald (pc := 66) hx hb hK hP (x0 + 17) 0 (gx_at (mx_lt (to_Mod_logsThen hk_x0) (by decide)) (mh_arr cI cZ b (n := 8) (to_Mod_logsThen hk_x0) (by decide) _)) rfl g19 d_Mod_leave_66 ?_
        obtain ⟨V9, g20, h⟩ := gx_lt h
        refine gy_put (pc := 67) (D := (dC, dI)) (ci := 6) (C := R_Mod) (T := T_Mod) (NF := 39) (ty := .int) hx hb hts in_Mod t_Mod ty_Mod nm_Mod hown hK hP hS x0 (mx_lt hk_x0 (by decide)) (sh_Mod cI cZ b hk_x0 _) rfl 13 (by decide) (hts _ tb_614) (fun _ h9 => h9) rfl (by decide +kernel) rfl rfl (Nat.le_of_ble_eq_true rfl) 13 (sh_Mod cI cZ b hk_x0 _) d_Mod_leave_67 g20 (fun H locs hP hS => ?_)
        exact B_70   _ _ _ _ hk_x0 _ _ _ _ (lv_sub hl [0, 1, 2, 3] rfl) hP hS h
      · have h := gx_neg g16 h
        refine lv_aload_n (pc := 15) hx hb d_Mod_leave_15 rfl (lv_at hl 0 rfl) ?_
        refine va_get (pc := 16) (D := (dC, dI)) (ci := 6) (C := R_Mod) (T := T_Mod) (N := 39) hx hb hts in_Mod hown hK hP x0 (gx_at (mx_lt hk_x0 (by decide)) (sh_Mod cI cZ b hk_x0 _)) rfl 0 (by decide) (hts _ tb_601) (fun _ h9 => h9) rfl d_Mod_leave_16 ?_
        refine lv_iload (pc := 19) hx hb d_Mod_leave_19 (lv_at hl 4 rfl) ?_
        refine lv_aload_n (pc := 21) hx hb d_Mod_leave_21 rfl (lv_at hl 0 rfl) ?_
        refine va_get (pc := 22) (D := (dC, dI)) (ci := 6) (C := R_Mod) (T := T_Mod) (N := 39) hx hb hts in_Mod hown hK hP x0 (gx_at (mx_lt hk_x0 (by decide)) (sh_Mod cI cZ b hk_x0 _)) rfl 29 (by decide) (hts _ tb_630) (fun _ h9 => h9) rfl d_Mod_leave_22 ?_
        refine lv_sipush (pc := 25) (v := (576 : Int32)) hx hb d_Mod_leave_25 (by decide) ?_
        refine lv_aload_n (pc := 28) hx hb d_Mod_leave_28 rfl (lv_at hl 0 rfl) ?_
        refine va_get (pc := 29) (D := (dC, dI)) (ci := 6) (C := R_Mod) (T := T_Mod) (N := 39) hx hb hts in_Mod hown hK hP x0 (gx_at (mx_lt hk_x0 (by decide)) (sh_Mod cI cZ b hk_x0 _)) rfl 19 (by decide) (hts _ tb_620) (fun _ h9 => h9) rfl d_Mod_leave_29 ?_
        refine lv_imul (pc := 32) hx hb d_Mod_leave_32 ?_
        refine lv_iload (pc := 33) hx hb d_Mod_leave_33 (lv_at hl 4 rfl) ?_
        refine lv_iadd (pc := 35) hx hb d_Mod_leave_35 ?_
        obtain ⟨g21, h⟩ := gx_if h
        refine va_iald (pc := 36) hx hb hK hP (x0 + 15) 0 (gx_at (mx_lt (to_Mod_copies hk_x0) (by decide)) (mh_arr cI cZ b (n := 4608) (to_Mod_copies hk_x0) (by decide) _)) rfl g21 d_Mod_leave_36 ?_
        obtain ⟨g22, h⟩ := gx_if h
        obtain ⟨V10, g23, h⟩ := gx_lt h
        refine gx_asi (pc := 37) hx hb hK hP hS (x0 + 1) 0 (mx_lt (to_Mod_now hk_x0) (by decide)) (fun _ => mh_arr cI cZ b (n := 576) (to_Mod_now hk_x0) (by decide) _) rfl g22 d_Mod_leave_37 g23 (fun H locs hP hS => ?_)
        refine lv_iinc (pc := 38) (k := 4) (lv' := [(4, .int (x4 + (1 : Int32))), (0, .ref (b + x0)), (1, .int x1), (2, .int x2), (3, .int x3)]) hx hb d_Mod_leave_38 hl rfl (gx_inc (by decide)) (by decide) rfl (fun ls hl => ?_)
        refine lv_goto (pc := 41) (tgt := 7) hx hb d_Mod_leave_41 (by decide) ?_
        exact ihl _ _ _ _ _ hk_x0 _ _ _ _ (lv_sub hl [1, 2, 3, 4, 0] rfl) hP hS h
  unfold F_Mod_leave at h
  refine lv_iload_n (pc := 0) hx hb d_Mod_leave_0 rfl (lv_at hl 1 rfl) ?_
  refine lv_if_ne (pc := 1) (tgt := 70) hx hb d_Mod_leave_1 (by decide) (fun g24 => ?_) (fun g24 => ?_)
  · have h := gx_neg g24 h
    exact B_70   _ _ _ _ hk0 _ _ _ _ (lv_sub hl [0, 1, 2, 3] rfl) hP hS h
  · have h := gx_pos g24 h
    refine lv_iconst (pc := 4) (v := (0 : Int32)) hx hb d_Mod_leave_4 (by decide) ?_
    refine lv_istore (pc := 5) (lv' := [(4, .int (0 : Int32)), (0, .ref (b + x0)), (1, .int x1), (2, .int x2), (3, .int x3)]) hx hb d_Mod_leave_5 hl (by decide) rfl (fun ls hl => ?_)
    exact B_7 1000  _ _ _ _ _ hk0 _ _ _ _ (lv_sub hl [1, 2, 3, 4, 0] rfl) hP hS h
abbrev rm_Mod_pops : Room := { frames := 0, cells := 0, slots := 0, locals := 0 }
def F_Mod_pops_33 (x0 : Int32) (V : gx_M) : Option (Int32 × gx_M) := (if x0 = (13 : Int32) then some ((2 : Int32), V) else (if x0 = (15 : Int32) then some ((2 : Int32), V) else (if x0 = (2 : Int32) then some ((1 : Int32), V) else (if x0 = (11 : Int32) then some ((1 : Int32), V) else (if x0 = (12 : Int32) then some ((1 : Int32), V) else (if x0 = (14 : Int32) then some ((1 : Int32), V) else (if x0 = (16 : Int32) then some ((1 : Int32), V) else (if x0 < (25 : Int32) then some ((0 : Int32), V) else some ((1 : Int32), V)))))))))
def F_Mod_pops (x0 : Int32) (V : gx_M) : Option (Int32 × gx_M) := (if x0 = (22 : Int32) then some ((4 : Int32), V) else (if x0 = (23 : Int32) then some ((3 : Int32), V) else (if x0 = (24 : Int32) then some ((3 : Int32), V) else (if x0 < (5 : Int32) then (F_Mod_pops_33   x0 V) else (if x0 ≤ (10 : Int32) then some ((2 : Int32), V) else (F_Mod_pops_33   x0 V))))))
set_option maxRecDepth 100000 in
set_option maxHeartbeats 8000000 in
theorem k_Mod_pops (l : Launch) (dC : Nat → ClassId) (dI : Nat → Nat → Nat) (cI cR cZ : ClassId) (b tP tN : Nat) {x0 : Int32} {V : gx_M} {q : (Int32 × gx_M)}  (h : F_Mod_pops x0 V = some q) : mx_C l dC dI cI cR cZ b tP tN y_Mod_pops w_Mod_pops rm_Mod_pops [.int x0] V (some (.int q.1)) q.2 := by
  refine gx_start (cc := b_Mod_pops) (maxL := 1) (ret := rt_Mod_pops) (by decide) rfl (Nat.le_of_ble_eq_true rfl) ?_
  intro p e s m args below meth c ls hx hb hr hts hown hlk hml hl hP hK hX hS
  have hts : ∀ w ∈ cx_tb, w.before args s = true := fun w hw => hts w (List.mem_cons_of_mem _ hw)
  have hown : s.vm.findClass "GasLedgerModel" = some m.cls := hown
  have hl : lv_has ls 1 [(0, .int x0)] := hl
  have B_33 : ∀ (x0 : Int32), ∀ (V : gx_M) (H : Heap) (locs : List Loc) (ls : Array Slot), lv_has ls 1 [(0, .int x0)] → va_P (dC, dI) cx_cl (gx_w b 22 (gx_v (mx_sh cI cZ b) V)) H → va_S (gx_A b 22) s.heap H locs → F_Mod_pops_33 x0 V = some q → W p l e (headSpec w_Mod_pops rm_Mod_pops).room s m args below meth c H locs 0 0 (MQ below (gx_Q (dC, dI) cx_cl b 22 (mx_sh cI cZ b) (some (.int q.1)) q.2) args s 0 0 (gx_A b 22)) (F0 m 33 ls []) := by
    intro x0 V H locs ls hl hP hS h
    unfold F_Mod_pops_33 at h
    refine lv_iload_n (pc := 33) hx hb d_Mod_pops_33 rfl (lv_at hl 0 rfl) ?_
    refine lv_bipush (pc := 34) (v := (13 : Int32)) hx hb d_Mod_pops_34 (by decide) ?_
    refine lv_icmp_eq (pc := 36) (tgt := 45) hx hb d_Mod_pops_36 (by decide) (fun g1 => ?_) (fun g1 => ?_)
    · have h := gx_pos g1 h
      refine lv_iconst (pc := 45) (v := (2 : Int32)) hx hb d_Mod_pops_45 (by decide) ?_
      exact gx_iret (free := fun _ => True) hx hb hr hlk hP hS d_Mod_pops_46 (by cases h; rfl) (by cases h; rfl)
    · have h := gx_neg g1 h
      refine lv_iload_n (pc := 39) hx hb d_Mod_pops_39 rfl (lv_at hl 0 rfl) ?_
      refine lv_bipush (pc := 40) (v := (15 : Int32)) hx hb d_Mod_pops_40 (by decide) ?_
      refine lv_icmp_ne (pc := 42) (tgt := 47) hx hb d_Mod_pops_42 (by decide) (fun g2 => ?_) (fun g2 => ?_)
      · have h := gx_neg g2 h
        refine lv_iload_n (pc := 47) hx hb d_Mod_pops_47 rfl (lv_at hl 0 rfl) ?_
        refine lv_iconst (pc := 48) (v := (2 : Int32)) hx hb d_Mod_pops_48 (by decide) ?_
        refine lv_icmp_eq (pc := 49) (tgt := 82) hx hb d_Mod_pops_49 (by decide) (fun g3 => ?_) (fun g3 => ?_)
        · have h := gx_pos g3 h
          refine lv_iconst (pc := 82) (v := (1 : Int32)) hx hb d_Mod_pops_82 (by decide) ?_
          refine lv_goto (pc := 83) (tgt := 87) hx hb d_Mod_pops_83 (by decide) ?_
          exact gx_iret (free := fun _ => True) hx hb hr hlk hP hS d_Mod_pops_87 (by cases h; rfl) (by cases h; rfl)
        · have h := gx_neg g3 h
          refine lv_iload_n (pc := 52) hx hb d_Mod_pops_52 rfl (lv_at hl 0 rfl) ?_
          refine lv_bipush (pc := 53) (v := (11 : Int32)) hx hb d_Mod_pops_53 (by decide) ?_
          refine lv_icmp_eq (pc := 55) (tgt := 82) hx hb d_Mod_pops_55 (by decide) (fun g4 => ?_) (fun g4 => ?_)
          · have h := gx_pos g4 h
            refine lv_iconst (pc := 82) (v := (1 : Int32)) hx hb d_Mod_pops_82 (by decide) ?_
            refine lv_goto (pc := 83) (tgt := 87) hx hb d_Mod_pops_83 (by decide) ?_
            exact gx_iret (free := fun _ => True) hx hb hr hlk hP hS d_Mod_pops_87 (by cases h; rfl) (by cases h; rfl)
          · have h := gx_neg g4 h
            refine lv_iload_n (pc := 58) hx hb d_Mod_pops_58 rfl (lv_at hl 0 rfl) ?_
            refine lv_bipush (pc := 59) (v := (12 : Int32)) hx hb d_Mod_pops_59 (by decide) ?_
            refine lv_icmp_eq (pc := 61) (tgt := 82) hx hb d_Mod_pops_61 (by decide) (fun g5 => ?_) (fun g5 => ?_)
            · have h := gx_pos g5 h
              refine lv_iconst (pc := 82) (v := (1 : Int32)) hx hb d_Mod_pops_82 (by decide) ?_
              refine lv_goto (pc := 83) (tgt := 87) hx hb d_Mod_pops_83 (by decide) ?_
              exact gx_iret (free := fun _ => True) hx hb hr hlk hP hS d_Mod_pops_87 (by cases h; rfl) (by cases h; rfl)
            · have h := gx_neg g5 h
              refine lv_iload_n (pc := 64) hx hb d_Mod_pops_64 rfl (lv_at hl 0 rfl) ?_
              refine lv_bipush (pc := 65) (v := (14 : Int32)) hx hb d_Mod_pops_65 (by decide) ?_
              refine lv_icmp_eq (pc := 67) (tgt := 82) hx hb d_Mod_pops_67 (by decide) (fun g6 => ?_) (fun g6 => ?_)
              · have h := gx_pos g6 h
                refine lv_iconst (pc := 82) (v := (1 : Int32)) hx hb d_Mod_pops_82 (by decide) ?_
                refine lv_goto (pc := 83) (tgt := 87) hx hb d_Mod_pops_83 (by decide) ?_
                exact gx_iret (free := fun _ => True) hx hb hr hlk hP hS d_Mod_pops_87 (by cases h; rfl) (by cases h; rfl)
              · have h := gx_neg g6 h
                refine lv_iload_n (pc := 70) hx hb d_Mod_pops_70 rfl (lv_at hl 0 rfl) ?_
                refine lv_bipush (pc := 71) (v := (16 : Int32)) hx hb d_Mod_pops_71 (by decide) ?_
                refine lv_icmp_eq (pc := 73) (tgt := 82) hx hb d_Mod_pops_73 (by decide) (fun g7 => ?_) (fun g7 => ?_)
                · have h := gx_pos g7 h
                  refine lv_iconst (pc := 82) (v := (1 : Int32)) hx hb d_Mod_pops_82 (by decide) ?_
                  refine lv_goto (pc := 83) (tgt := 87) hx hb d_Mod_pops_83 (by decide) ?_
                  exact gx_iret (free := fun _ => True) hx hb hr hlk hP hS d_Mod_pops_87 (by cases h; rfl) (by cases h; rfl)
                · have h := gx_neg g7 h
                  refine lv_iload_n (pc := 76) hx hb d_Mod_pops_76 rfl (lv_at hl 0 rfl) ?_
                  refine lv_bipush (pc := 77) (v := (25 : Int32)) hx hb d_Mod_pops_77 (by decide) ?_
                  refine lv_icmp_lt (pc := 79) (tgt := 86) hx hb d_Mod_pops_79 (by decide) (fun g8 => ?_) (fun g8 => ?_)
                  · have h := gx_pos g8 h
                    refine lv_iconst (pc := 86) (v := (0 : Int32)) hx hb d_Mod_pops_86 (by decide) ?_
                    exact gx_iret (free := fun _ => True) hx hb hr hlk hP hS d_Mod_pops_87 (by cases h; rfl) (by cases h; rfl)
                  · have h := gx_neg g8 h
                    refine lv_iconst (pc := 82) (v := (1 : Int32)) hx hb d_Mod_pops_82 (by decide) ?_
                    refine lv_goto (pc := 83) (tgt := 87) hx hb d_Mod_pops_83 (by decide) ?_
                    exact gx_iret (free := fun _ => True) hx hb hr hlk hP hS d_Mod_pops_87 (by cases h; rfl) (by cases h; rfl)
      · have h := gx_pos g2 h
        refine lv_iconst (pc := 45) (v := (2 : Int32)) hx hb d_Mod_pops_45 (by decide) ?_
        exact gx_iret (free := fun _ => True) hx hb hr hlk hP hS d_Mod_pops_46 (by cases h; rfl) (by cases h; rfl)
  unfold F_Mod_pops at h
  refine lv_iload_n (pc := 0) hx hb d_Mod_pops_0 rfl (lv_at hl 0 rfl) ?_
  refine lv_bipush (pc := 1) (v := (22 : Int32)) hx hb d_Mod_pops_1 (by decide) ?_
  refine lv_icmp_ne (pc := 3) (tgt := 8) hx hb d_Mod_pops_3 (by decide) (fun g9 => ?_) (fun g9 => ?_)
  · have h := gx_neg g9 h
    refine lv_iload_n (pc := 8) hx hb d_Mod_pops_8 rfl (lv_at hl 0 rfl) ?_
    refine lv_bipush (pc := 9) (v := (23 : Int32)) hx hb d_Mod_pops_9 (by decide) ?_
    refine lv_icmp_eq (pc := 11) (tgt := 20) hx hb d_Mod_pops_11 (by decide) (fun g10 => ?_) (fun g10 => ?_)
    · have h := gx_pos g10 h
      refine lv_iconst (pc := 20) (v := (3 : Int32)) hx hb d_Mod_pops_20 (by decide) ?_
      exact gx_iret (free := fun _ => True) hx hb hr hlk hP hS d_Mod_pops_21 (by cases h; rfl) (by cases h; rfl)
    · have h := gx_neg g10 h
      refine lv_iload_n (pc := 14) hx hb d_Mod_pops_14 rfl (lv_at hl 0 rfl) ?_
      refine lv_bipush (pc := 15) (v := (24 : Int32)) hx hb d_Mod_pops_15 (by decide) ?_
      refine lv_icmp_ne (pc := 17) (tgt := 22) hx hb d_Mod_pops_17 (by decide) (fun g11 => ?_) (fun g11 => ?_)
      · have h := gx_neg g11 h
        refine lv_iload_n (pc := 22) hx hb d_Mod_pops_22 rfl (lv_at hl 0 rfl) ?_
        refine lv_iconst (pc := 23) (v := (5 : Int32)) hx hb d_Mod_pops_23 (by decide) ?_
        refine lv_icmp_lt (pc := 24) (tgt := 33) hx hb d_Mod_pops_24 (by decide) (fun g12 => ?_) (fun g12 => ?_)
        · have h := gx_pos g12 h
          exact B_33   _  _ _ _ _ (lv_sub hl [0] rfl) hP hS h
        · have h := gx_neg g12 h
          refine lv_iload_n (pc := 27) hx hb d_Mod_pops_27 rfl (lv_at hl 0 rfl) ?_
          refine lv_bipush (pc := 28) (v := (10 : Int32)) hx hb d_Mod_pops_28 (by decide) ?_
          refine lv_icmp_le (pc := 30) (tgt := 45) hx hb d_Mod_pops_30 (by decide) (fun g13 => ?_) (fun g13 => ?_)
          · have h := gx_pos g13 h
            refine lv_iconst (pc := 45) (v := (2 : Int32)) hx hb d_Mod_pops_45 (by decide) ?_
            exact gx_iret (free := fun _ => True) hx hb hr hlk hP hS d_Mod_pops_46 (by cases h; rfl) (by cases h; rfl)
          · have h := gx_neg g13 h
            exact B_33   _  _ _ _ _ (lv_sub hl [0] rfl) hP hS h
      · have h := gx_pos g11 h
        refine lv_iconst (pc := 20) (v := (3 : Int32)) hx hb d_Mod_pops_20 (by decide) ?_
        exact gx_iret (free := fun _ => True) hx hb hr hlk hP hS d_Mod_pops_21 (by cases h; rfl) (by cases h; rfl)
  · have h := gx_pos g9 h
    refine lv_iconst (pc := 6) (v := (4 : Int32)) hx hb d_Mod_pops_6 (by decide) ?_
    exact gx_iret (free := fun _ => True) hx hb hr hlk hP hS d_Mod_pops_7 (by cases h; rfl) (by cases h; rfl)
abbrev rm_Mod_pushes : Room := { frames := 0, cells := 0, slots := 0, locals := 0 }
def F_Mod_pushes_53 (x0 : Int32) (V : gx_M) : Option (Int32 × gx_M) := (if x0 = (24 : Int32) then some ((1 : Int32), V) else some ((0 : Int32), V))
def F_Mod_pushes_35 (x0 : Int32) (V : gx_M) : Option (Int32 × gx_M) := (if x0 = (14 : Int32) then some ((1 : Int32), V) else (if x0 < (16 : Int32) then (F_Mod_pushes_53   x0 V) else (if x0 ≤ (21 : Int32) then some ((1 : Int32), V) else (F_Mod_pushes_53   x0 V))))
def F_Mod_pushes (x0 : Int32) (V : gx_M) : Option (Int32 × gx_M) := (if x0 = (22 : Int32) then some ((2 : Int32), V) else (if x0 = (23 : Int32) then some ((2 : Int32), V) else (if x0 = (1 : Int32) then some ((1 : Int32), V) else (if x0 = (3 : Int32) then some ((1 : Int32), V) else (if x0 < (5 : Int32) then (F_Mod_pushes_35   x0 V) else (if x0 ≤ (11 : Int32) then some ((1 : Int32), V) else (F_Mod_pushes_35   x0 V)))))))
set_option maxRecDepth 100000 in
set_option maxHeartbeats 8000000 in
theorem k_Mod_pushes (l : Launch) (dC : Nat → ClassId) (dI : Nat → Nat → Nat) (cI cR cZ : ClassId) (b tP tN : Nat) {x0 : Int32} {V : gx_M} {q : (Int32 × gx_M)}  (h : F_Mod_pushes x0 V = some q) : mx_C l dC dI cI cR cZ b tP tN y_Mod_pushes w_Mod_pushes rm_Mod_pushes [.int x0] V (some (.int q.1)) q.2 := by
  refine gx_start (cc := b_Mod_pushes) (maxL := 1) (ret := rt_Mod_pushes) (by decide) rfl (Nat.le_of_ble_eq_true rfl) ?_
  intro p e s m args below meth c ls hx hb hr hts hown hlk hml hl hP hK hX hS
  have hts : ∀ w ∈ cx_tb, w.before args s = true := fun w hw => hts w (List.mem_cons_of_mem _ hw)
  have hown : s.vm.findClass "GasLedgerModel" = some m.cls := hown
  have hl : lv_has ls 1 [(0, .int x0)] := hl
  have B_53 : ∀ (x0 : Int32), ∀ (V : gx_M) (H : Heap) (locs : List Loc) (ls : Array Slot), lv_has ls 1 [(0, .int x0)] → va_P (dC, dI) cx_cl (gx_w b 22 (gx_v (mx_sh cI cZ b) V)) H → va_S (gx_A b 22) s.heap H locs → F_Mod_pushes_53 x0 V = some q → W p l e (headSpec w_Mod_pushes rm_Mod_pushes).room s m args below meth c H locs 0 0 (MQ below (gx_Q (dC, dI) cx_cl b 22 (mx_sh cI cZ b) (some (.int q.1)) q.2) args s 0 0 (gx_A b 22)) (F0 m 53 ls []) := by
    intro x0 V H locs ls hl hP hS h
    unfold F_Mod_pushes_53 at h
    refine lv_iload_n (pc := 53) hx hb d_Mod_pushes_53 rfl (lv_at hl 0 rfl) ?_
    refine lv_bipush (pc := 54) (v := (24 : Int32)) hx hb d_Mod_pushes_54 (by decide) ?_
    refine lv_icmp_ne (pc := 56) (tgt := 63) hx hb d_Mod_pushes_56 (by decide) (fun g1 => ?_) (fun g1 => ?_)
    · have h := gx_neg g1 h
      refine lv_iconst (pc := 63) (v := (0 : Int32)) hx hb d_Mod_pushes_63 (by decide) ?_
      exact gx_iret (free := fun _ => True) hx hb hr hlk hP hS d_Mod_pushes_64 (by cases h; rfl) (by cases h; rfl)
    · have h := gx_pos g1 h
      refine lv_iconst (pc := 59) (v := (1 : Int32)) hx hb d_Mod_pushes_59 (by decide) ?_
      refine lv_goto (pc := 60) (tgt := 64) hx hb d_Mod_pushes_60 (by decide) ?_
      exact gx_iret (free := fun _ => True) hx hb hr hlk hP hS d_Mod_pushes_64 (by cases h; rfl) (by cases h; rfl)
  have B_35 : ∀ (x0 : Int32), ∀ (V : gx_M) (H : Heap) (locs : List Loc) (ls : Array Slot), lv_has ls 1 [(0, .int x0)] → va_P (dC, dI) cx_cl (gx_w b 22 (gx_v (mx_sh cI cZ b) V)) H → va_S (gx_A b 22) s.heap H locs → F_Mod_pushes_35 x0 V = some q → W p l e (headSpec w_Mod_pushes rm_Mod_pushes).room s m args below meth c H locs 0 0 (MQ below (gx_Q (dC, dI) cx_cl b 22 (mx_sh cI cZ b) (some (.int q.1)) q.2) args s 0 0 (gx_A b 22)) (F0 m 35 ls []) := by
    intro x0 V H locs ls hl hP hS h
    unfold F_Mod_pushes_35 at h
    refine lv_iload_n (pc := 35) hx hb d_Mod_pushes_35 rfl (lv_at hl 0 rfl) ?_
    refine lv_bipush (pc := 36) (v := (14 : Int32)) hx hb d_Mod_pushes_36 (by decide) ?_
    refine lv_icmp_eq (pc := 38) (tgt := 59) hx hb d_Mod_pushes_38 (by decide) (fun g2 => ?_) (fun g2 => ?_)
    · have h := gx_pos g2 h
      refine lv_iconst (pc := 59) (v := (1 : Int32)) hx hb d_Mod_pushes_59 (by decide) ?_
      refine lv_goto (pc := 60) (tgt := 64) hx hb d_Mod_pushes_60 (by decide) ?_
      exact gx_iret (free := fun _ => True) hx hb hr hlk hP hS d_Mod_pushes_64 (by cases h; rfl) (by cases h; rfl)
    · have h := gx_neg g2 h
      refine lv_iload_n (pc := 41) hx hb d_Mod_pushes_41 rfl (lv_at hl 0 rfl) ?_
      refine lv_bipush (pc := 42) (v := (16 : Int32)) hx hb d_Mod_pushes_42 (by decide) ?_
      refine lv_icmp_lt (pc := 44) (tgt := 53) hx hb d_Mod_pushes_44 (by decide) (fun g3 => ?_) (fun g3 => ?_)
      · have h := gx_pos g3 h
        exact B_53   _  _ _ _ _ (lv_sub hl [0] rfl) hP hS h
      · have h := gx_neg g3 h
        refine lv_iload_n (pc := 47) hx hb d_Mod_pushes_47 rfl (lv_at hl 0 rfl) ?_
        refine lv_bipush (pc := 48) (v := (21 : Int32)) hx hb d_Mod_pushes_48 (by decide) ?_
        refine lv_icmp_le (pc := 50) (tgt := 59) hx hb d_Mod_pushes_50 (by decide) (fun g4 => ?_) (fun g4 => ?_)
        · have h := gx_pos g4 h
          refine lv_iconst (pc := 59) (v := (1 : Int32)) hx hb d_Mod_pushes_59 (by decide) ?_
          refine lv_goto (pc := 60) (tgt := 64) hx hb d_Mod_pushes_60 (by decide) ?_
          exact gx_iret (free := fun _ => True) hx hb hr hlk hP hS d_Mod_pushes_64 (by cases h; rfl) (by cases h; rfl)
        · have h := gx_neg g4 h
          exact B_53   _  _ _ _ _ (lv_sub hl [0] rfl) hP hS h
  unfold F_Mod_pushes at h
  refine lv_iload_n (pc := 0) hx hb d_Mod_pushes_0 rfl (lv_at hl 0 rfl) ?_
  refine lv_bipush (pc := 1) (v := (22 : Int32)) hx hb d_Mod_pushes_1 (by decide) ?_
  refine lv_icmp_eq (pc := 3) (tgt := 12) hx hb d_Mod_pushes_3 (by decide) (fun g5 => ?_) (fun g5 => ?_)
  · have h := gx_pos g5 h
    refine lv_iconst (pc := 12) (v := (2 : Int32)) hx hb d_Mod_pushes_12 (by decide) ?_
    exact gx_iret (free := fun _ => True) hx hb hr hlk hP hS d_Mod_pushes_13 (by cases h; rfl) (by cases h; rfl)
  · have h := gx_neg g5 h
    refine lv_iload_n (pc := 6) hx hb d_Mod_pushes_6 rfl (lv_at hl 0 rfl) ?_
    refine lv_bipush (pc := 7) (v := (23 : Int32)) hx hb d_Mod_pushes_7 (by decide) ?_
    refine lv_icmp_ne (pc := 9) (tgt := 14) hx hb d_Mod_pushes_9 (by decide) (fun g6 => ?_) (fun g6 => ?_)
    · have h := gx_neg g6 h
      refine lv_iload_n (pc := 14) hx hb d_Mod_pushes_14 rfl (lv_at hl 0 rfl) ?_
      refine lv_iconst (pc := 15) (v := (1 : Int32)) hx hb d_Mod_pushes_15 (by decide) ?_
      refine lv_icmp_eq (pc := 16) (tgt := 59) hx hb d_Mod_pushes_16 (by decide) (fun g7 => ?_) (fun g7 => ?_)
      · have h := gx_pos g7 h
        refine lv_iconst (pc := 59) (v := (1 : Int32)) hx hb d_Mod_pushes_59 (by decide) ?_
        refine lv_goto (pc := 60) (tgt := 64) hx hb d_Mod_pushes_60 (by decide) ?_
        exact gx_iret (free := fun _ => True) hx hb hr hlk hP hS d_Mod_pushes_64 (by cases h; rfl) (by cases h; rfl)
      · have h := gx_neg g7 h
        refine lv_iload_n (pc := 19) hx hb d_Mod_pushes_19 rfl (lv_at hl 0 rfl) ?_
        refine lv_iconst (pc := 20) (v := (3 : Int32)) hx hb d_Mod_pushes_20 (by decide) ?_
        refine lv_icmp_eq (pc := 21) (tgt := 59) hx hb d_Mod_pushes_21 (by decide) (fun g8 => ?_) (fun g8 => ?_)
        · have h := gx_pos g8 h
          refine lv_iconst (pc := 59) (v := (1 : Int32)) hx hb d_Mod_pushes_59 (by decide) ?_
          refine lv_goto (pc := 60) (tgt := 64) hx hb d_Mod_pushes_60 (by decide) ?_
          exact gx_iret (free := fun _ => True) hx hb hr hlk hP hS d_Mod_pushes_64 (by cases h; rfl) (by cases h; rfl)
        · have h := gx_neg g8 h
          refine lv_iload_n (pc := 24) hx hb d_Mod_pushes_24 rfl (lv_at hl 0 rfl) ?_
          refine lv_iconst (pc := 25) (v := (5 : Int32)) hx hb d_Mod_pushes_25 (by decide) ?_
          refine lv_icmp_lt (pc := 26) (tgt := 35) hx hb d_Mod_pushes_26 (by decide) (fun g9 => ?_) (fun g9 => ?_)
          · have h := gx_pos g9 h
            exact B_35   _  _ _ _ _ (lv_sub hl [0] rfl) hP hS h
          · have h := gx_neg g9 h
            refine lv_iload_n (pc := 29) hx hb d_Mod_pushes_29 rfl (lv_at hl 0 rfl) ?_
            refine lv_bipush (pc := 30) (v := (11 : Int32)) hx hb d_Mod_pushes_30 (by decide) ?_
            refine lv_icmp_le (pc := 32) (tgt := 59) hx hb d_Mod_pushes_32 (by decide) (fun g10 => ?_) (fun g10 => ?_)
            · have h := gx_pos g10 h
              refine lv_iconst (pc := 59) (v := (1 : Int32)) hx hb d_Mod_pushes_59 (by decide) ?_
              refine lv_goto (pc := 60) (tgt := 64) hx hb d_Mod_pushes_60 (by decide) ?_
              exact gx_iret (free := fun _ => True) hx hb hr hlk hP hS d_Mod_pushes_64 (by cases h; rfl) (by cases h; rfl)
            · have h := gx_neg g10 h
              exact B_35   _  _ _ _ _ (lv_sub hl [0] rfl) hP hS h
    · have h := gx_pos g6 h
      refine lv_iconst (pc := 12) (v := (2 : Int32)) hx hb d_Mod_pushes_12 (by decide) ?_
      exact gx_iret (free := fun _ => True) hx hb hr hlk hP hS d_Mod_pushes_13 (by cases h; rfl) (by cases h; rfl)
