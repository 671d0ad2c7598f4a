abbrev rm_Mod_enter : Room := { frames := 0, cells := 0, slots := 0, locals := 0 }
def F_Mod_enter_13 : Nat → Nat → Int32 → Int32 → Int32 → Int32 → Int32 → Int32 → Int32 → gx_M → Option gx_M
  | 0, _, _, _, _, _, _, _, _, _ => none
  | nf + 1, x0, x1, x2, x3, x4, x5, x6, x7, V => (if (576 : Int32) ≤ x7 then (if gx_ib (V x0 19) 8 then (gx_let (gx_u V (x0 + 16) (V x0 19).toNatClampNeg (V x0 2)) fun V1 => (if gx_ib (V1 x0 19) 8 then (gx_let (gx_u V1 (x0 + 17) (V1 x0 19).toNatClampNeg (V1 x0 13)) fun V2 => (if gx_ib (V2 x0 19) 8 then (gx_let (gx_u V2 (x0 + 6) (V2 x0 19).toNatClampNeg x2) fun V3 => (if gx_ib (V3 x0 19) 8 then (gx_let (gx_u V3 (x0 + 7) (V3 x0 19).toNatClampNeg x1) fun V4 => (if gx_ib (V4 x0 19) 8 then (gx_let (gx_u V4 (x0 + 8) (V4 x0 19).toNatClampNeg (0 : Int32)) fun V5 => (if gx_ib (V5 x0 19) 8 then (gx_let (gx_u V5 (x0 + 9) (V5 x0 19).toNatClampNeg x3) fun V6 => (if gx_ib (V6 x0 19) 8 then (gx_let (gx_u V6 (x0 + 10) (V6 x0 19).toNatClampNeg x4) fun V7 => (if gx_ib (V7 x0 19) 8 then (gx_let (gx_u V7 (x0 + 11) (V7 x0 19).toNatClampNeg x5) fun V8 => (if gx_ib (V8 x0 19) 8 then (gx_let (gx_u V8 (x0 + 12) (V8 x0 19).toNatClampNeg x6) fun V9 => (if gx_ib (V9 x0 19) 8 then (gx_let (gx_u V9 (x0 + 13) (V9 x0 19).toNatClampNeg (0 : Int32)) fun V10 => some V10) else none)) else none)) else none)) else none)) else none)) else none)) else none)) else none)) else none)) else none) else (if gx_ib x7 576 then (if gx_ib (((576 : Int32) * (V x0 19)) + x7) 4608 then (gx_let (gx_u V (x0 + 15) (((576 : Int32) * (V x0 19)) + x7).toNatClampNeg (V (x0 + 1) x7.toNatClampNeg)) fun V11 => (F_Mod_enter_13 nf  x0 x1 x2 x3 x4 x5 x6 (x7 + (1 : Int32)) V11)) else none) else none))
def F_Mod_enter (x0 : Nat) (x1 : Int32) (x2 : Int32) (x3 : Int32) (x4 : Int32) (x5 : Int32) (x6 : Int32) (V : gx_M) : Option gx_M := (gx_let (gx_u V x0 19 ((V x0 19) + (1 : Int32))) fun V12 => (F_Mod_enter_13 1000  x0 x1 x2 x3 x4 x5 x6 (0 : Int32) V12))
set_option maxRecDepth 100000 in
set_option maxHeartbeats 8000000 in
theorem k_Mod_enter (l : Launch) (dC : Nat → ClassId) (dI : Nat → Nat → Nat) (cI cR cZ : ClassId) (b tP tN : Nat) {x0 : Nat} {x1 : Int32} {x2 : Int32} {x3 : Int32} {x4 : Int32} {x5 : Int32} {x6 : Int32} {V : gx_M} {q : gx_M} (hk0 : mx_kd x0 = 6) (h : F_Mod_enter x0 x1 x2 x3 x4 x5 x6 V = some q) : mx_C l dC dI cI cR cZ b tP tN y_Mod_enter w_Mod_enter rm_Mod_enter [.ref (b + x0), .int x1, .int x2, .int x3, .int x4, .int x5, .int x6] V none q := by
  refine gx_start (cc := b_Mod_enter) (maxL := 8) (ret := rt_Mod_enter) (by decide) rfl (Nat.le_of_ble_eq_true rfl) ?_
  intro p e s m args below meth c ls hx hb hr hts hown hlk hml hl hP hK hX hS
  have hts : ∀ w ∈ cx_tb, w.before args s = true := fun w hw => hts w (List.mem_cons_of_mem _ hw)
  have hown : s.vm.findClass "GasLedgerModel" = some m.cls := hown
  have hl : lv_has ls 8 [(0, .ref (b + x0)), (1, .int x1), (2, .int x2), (3, .int x3), (4, .int x4), (5, .int x5), (6, .int x6)] := hl
  have B_13 : ∀ (nf : Nat), ∀ (x0 : Nat) (x1 : Int32) (x2 : Int32) (x3 : Int32) (x4 : Int32) (x5 : Int32) (x6 : Int32) (x7 : Int32), mx_kd x0 = 6 → ∀ (V : gx_M) (H : Heap) (locs : List Loc) (ls : Array Slot), lv_has ls 8 [(0, .ref (b + x0)), (1, .int x1), (2, .int x2), (3, .int x3), (4, .int x4), (5, .int x5), (6, .int x6), (7, .int x7)] → va_P (dC, dI) cx_cl (gx_w b 22 (gx_v (mx_sh cI cZ b) V)) H → va_S (gx_A b 22) s.heap H locs → F_Mod_enter_13 nf x0 x1 x2 x3 x4 x5 x6 x7 V = some q → W p l e (headSpec w_Mod_enter rm_Mod_enter).room s m args below meth c H locs 0 0 (MQ below (gx_Q (dC, dI) cx_cl b 22 (mx_sh cI cZ b) none q) args s 0 0 (gx_A b 22)) (F0 m 13 ls []) := by
    intro nf
    induction nf with
    | zero => intro x0 x1 x2 x3 x4 x5 x6 x7 hk_x0 V H locs ls hl hP hS h; cases h
    | succ nf ihl =>
      intro x0 x1 x2 x3 x4 x5 x6 x7 hk_x0 V H locs ls hl hP hS h
      rw [F_Mod_enter_13] at h
      refine lv_iload (pc := 13) hx hb d_Mod_enter_13 (lv_at hl 7 rfl) ?_
      refine lv_sipush (pc := 15) (v := (576 : Int32)) hx hb d_Mod_enter_15 (by decide) ?_
      refine lv_icmp_ge (pc := 18) (tgt := 50) hx hb d_Mod_enter_18 (by decide) (fun g1 => ?_) (fun g1 => ?_)
      · have h := gx_pos g1 h
        refine lv_aload_n (pc := 50) hx hb d_Mod_enter_50 rfl (lv_at hl 0 rfl) ?_
        refine va_get (pc := 51) (D := (dC, dI)) (ci := 6) (C := R_Mod) (T := T_Mod) (N := 39) hx hb hts in_Mod hown hK hP x0 (gx_at (mx_lt hk_x0 (by decide)) (sh_Mod cI cZ b hk_x0 _)) rfl 30 (by decide) (hts _ tb_631) (fun _ h9 => h9) rfl d_Mod_enter_51 ?_
        refine lv_aload_n (pc := 54) hx hb d_Mod_enter_54 rfl (lv_at hl 0 rfl) ?_
        refine va_get (pc := 55) (D := (dC, dI)) (ci := 6) (C := R_Mod) (T := T_Mod) (N := 39) hx hb hts in_Mod hown hK hP x0 (gx_at (mx_lt hk_x0 (by decide)) (sh_Mod cI cZ b hk_x0 _)) rfl 19 (by decide) (hts _ tb_620) (fun _ h9 => h9) rfl d_Mod_enter_55 ?_
        refine lv_aload_n (pc := 58) hx hb d_Mod_enter_58 rfl (lv_at hl 0 rfl) ?_
        refine va_get (pc := 59) (D := (dC, dI)) (ci := 6) (C := R_Mod) (T := T_Mod) (N := 39) hx hb hts in_Mod hown hK hP x0 (gx_at (mx_lt hk_x0 (by decide)) (sh_Mod cI cZ b hk_x0 _)) rfl 2 (by decide) (hts _ tb_603) (fun _ h9 => h9) rfl d_Mod_enter_59 ?_
        obtain ⟨g2, h⟩ := gx_if h
        obtain ⟨V1, g3, h⟩ := gx_lt h
        refine gx_asi (pc := 62) hx hb hK hP hS (x0 + 16) 0 (mx_lt (to_Mod_refunds hk_x0) (by decide)) (fun _ => mh_arr cI cZ b (n := 8) (to_Mod_refunds hk_x0) (by decide) _) rfl g2 d_Mod_enter_62 g3 (fun H locs hP hS => ?_)
        refine lv_aload_n (pc := 63) hx hb d_Mod_enter_63 rfl (lv_at hl 0 rfl) ?_
        refine va_get (pc := 64) (D := (dC, dI)) (ci := 6) (C := R_Mod) (T := T_Mod) (N := 39) hx hb hts in_Mod hown hK hP x0 (gx_at (mx_lt hk_x0 (by decide)) (sh_Mod cI cZ b hk_x0 _)) rfl 31 (by decide) (hts _ tb_632) (fun _ h9 => h9) rfl d_Mod_enter_64 ?_
        refine lv_aload_n (pc := 67) hx hb d_Mod_enter_67 rfl (lv_at hl 0 rfl) ?_
        refine va_get (pc := 68) (D := (dC, dI)) (ci := 6) (C := R_Mod) (T := T_Mod) (N := 39) hx hb hts in_Mod hown hK hP x0 (gx_at (mx_lt hk_x0 (by decide)) (sh_Mod cI cZ b hk_x0 _)) rfl 19 (by decide) (hts _ tb_620) (fun _ h9 => h9) rfl d_Mod_enter_68 ?_
        refine lv_aload_n (pc := 71) hx hb d_Mod_enter_71 rfl (lv_at hl 0 rfl) ?_
        refine va_get (pc := 72) (D := (dC, dI)) (ci := 6) (C := R_Mod) (T := T_Mod) (N := 39) hx hb hts in_Mod hown hK hP x0 (gx_at (mx_lt hk_x0 (by decide)) (sh_Mod cI cZ b hk_x0 _)) rfl 13 (by decide) (hts _ tb_614) (fun _ h9 => h9) rfl d_Mod_enter_72 ?_
        obtain ⟨g4, h⟩ := gx_if h
        obtain ⟨V2, g5, h⟩ := gx_lt h
        refine gx_asi (pc := 75) hx hb hK hP hS (x0 + 17) 0 (mx_lt (to_Mod_logsThen hk_x0) (by decide)) (fun _ => mh_arr cI cZ b (n := 8) (to_Mod_logsThen hk_x0) (by decide) _) rfl g4 d_Mod_enter_75 g5 (fun H locs hP hS => ?_)
        refine lv_aload_n (pc := 76) hx hb d_Mod_enter_76 rfl (lv_at hl 0 rfl) ?_
        refine va_get (pc := 77) (D := (dC, dI)) (ci := 6) (C := R_Mod) (T := T_Mod) (N := 39) hx hb hts in_Mod hown hK hP x0 (gx_at (mx_lt hk_x0 (by decide)) (sh_Mod cI cZ b hk_x0 _)) rfl 20 (by decide) (hts _ tb_621) (fun _ h9 => h9) rfl d_Mod_enter_77 ?_
        refine lv_aload_n (pc := 80) hx hb d_Mod_enter_80 rfl (lv_at hl 0 rfl) ?_
        refine va_get (pc := 81) (D := (dC, dI)) (ci := 6) (C := R_Mod) (T := T_Mod) (N := 39) hx hb hts in_Mod hown hK hP x0 (gx_at (mx_lt hk_x0 (by decide)) (sh_Mod cI cZ b hk_x0 _)) rfl 19 (by decide) (hts _ tb_620) (fun _ h9 => h9) rfl d_Mod_enter_81 ?_
        refine lv_iload_n (pc := 84) hx hb d_Mod_enter_84 rfl (lv_at hl 2 rfl) ?_
        obtain ⟨g6, h⟩ := gx_if h
        obtain ⟨V3, g7, h⟩ := gx_lt h
        refine gx_asi (pc := 85) hx hb hK hP hS (x0 + 6) 0 (mx_lt (to_Mod_self hk_x0) (by decide)) (fun _ => mh_arr cI cZ b (n := 8) (to_Mod_self hk_x0) (by decide) _) rfl g6 d_Mod_enter_85 g7 (fun H locs hP hS => ?_)
        refine lv_aload_n (pc := 86) hx hb d_Mod_enter_86 rfl (lv_at hl 0 rfl) ?_
        refine va_get (pc := 87) (D := (dC, dI)) (ci := 6) (C := R_Mod) (T := T_Mod) (N := 39) hx hb hts in_Mod hown hK hP x0 (gx_at (mx_lt hk_x0 (by decide)) (sh_Mod cI cZ b hk_x0 _)) rfl 21 (by decide) (hts _ tb_622) (fun _ h9 => h9) rfl d_Mod_enter_87 ?_
        refine lv_aload_n (pc := 90) hx hb d_Mod_enter_90 rfl (lv_at hl 0 rfl) ?_
        refine va_get (pc := 91) (D := (dC, dI)) (ci := 6) (C := R_Mod) (T := T_Mod) (N := 39) hx hb hts in_Mod hown hK hP x0 (gx_at (mx_lt hk_x0 (by decide)) (sh_Mod cI cZ b hk_x0 _)) rfl 19 (by decide) (hts _ tb_620) (fun _ h9 => h9) rfl d_Mod_enter_91 ?_
        refine lv_iload_n (pc := 94) hx hb d_Mod_enter_94 rfl (lv_at hl 1 rfl) ?_
        obtain ⟨g8, h⟩ := gx_if h
        obtain ⟨V4, g9, h⟩ := gx_lt h
        refine gx_asi (pc := 95) hx hb hK hP hS (x0 + 7) 0 (mx_lt (to_Mod_runs hk_x0) (by decide)) (fun _ => mh_arr cI cZ b (n := 8) (to_Mod_runs hk_x0) (by decide) _) rfl g8 d_Mod_enter_95 g9 (fun H locs hP hS => ?_)
        refine lv_aload_n (pc := 96) hx hb d_Mod_enter_96 rfl (lv_at hl 0 rfl) ?_
        refine va_get (pc := 97) (D := (dC, dI)) (ci := 6) (C := R_Mod) (T := T_Mod) (N := 39) hx hb hts in_Mod hown hK hP x0 (gx_at (mx_lt hk_x0 (by decide)) (sh_Mod cI cZ b hk_x0 _)) rfl 22 (by decide) (hts _ tb_623) (fun _ h9 => h9) rfl d_Mod_enter_97 ?_
        refine lv_aload_n (pc := 100) hx hb d_Mod_enter_100 rfl (lv_at hl 0 rfl) ?_
        refine va_get (pc := 101) (D := (dC, dI)) (ci := 6) (C := R_Mod) (T := T_Mod) (N := 39) hx hb hts in_Mod hown hK hP x0 (gx_at (mx_lt hk_x0 (by decide)) (sh_Mod cI cZ b hk_x0 _)) rfl 19 (by decide) (hts _ tb_620) (fun _ h9 => h9) rfl d_Mod_enter_101 ?_
        refine lv_iconst (pc := 104) (v := (0 : Int32)) hx hb d_Mod_enter_104 (by decide) ?_
        obtain ⟨g10, h⟩ := gx_if h
        obtain ⟨V5, g11, h⟩ := gx_lt h
        refine gx_asi (pc := 105) hx hb hK hP hS (x0 + 8) 0 (mx_lt (to_Mod_place hk_x0) (by decide)) (fun _ => mh_arr cI cZ b (n := 8) (to_Mod_place hk_x0) (by decide) _) rfl g10 d_Mod_enter_105 g11 (fun H locs hP hS => ?_)
        refine lv_aload_n (pc := 106) hx hb d_Mod_enter_106 rfl (lv_at hl 0 rfl) ?_
        refine va_get (pc := 107) (D := (dC, dI)) (ci := 6) (C := R_Mod) (T := T_Mod) (N := 39) hx hb hts in_Mod hown hK hP x0 (gx_at (mx_lt hk_x0 (by decide)) (sh_Mod cI cZ b hk_x0 _)) rfl 23 (by decide) (hts _ tb_624) (fun _ h9 => h9) rfl d_Mod_enter_107 ?_
        refine lv_aload_n (pc := 110) hx hb d_Mod_enter_110 rfl (lv_at hl 0 rfl) ?_
        refine va_get (pc := 111) (D := (dC, dI)) (ci := 6) (C := R_Mod) (T := T_Mod) (N := 39) hx hb hts in_Mod hown hK hP x0 (gx_at (mx_lt hk_x0 (by decide)) (sh_Mod cI cZ b hk_x0 _)) rfl 19 (by decide) (hts _ tb_620) (fun _ h9 => h9) rfl d_Mod_enter_111 ?_
        refine lv_iload_n (pc := 114) hx hb d_Mod_enter_114 rfl (lv_at hl 3 rfl) ?_
        obtain ⟨g12, h⟩ := gx_if h
        obtain ⟨V6, g13, h⟩ := gx_lt h
        refine gx_asi (pc := 115) hx hb hK hP hS (x0 + 9) 0 (mx_lt (to_Mod_caller hk_x0) (by decide)) (fun _ => mh_arr cI cZ b (n := 8) (to_Mod_caller hk_x0) (by decide) _) rfl g12 d_Mod_enter_115 g13 (fun H locs hP hS => ?_)
        refine lv_aload_n (pc := 116) hx hb d_Mod_enter_116 rfl (lv_at hl 0 rfl) ?_
        refine va_get (pc := 117) (D := (dC, dI)) (ci := 6) (C := R_Mod) (T := T_Mod) (N := 39) hx hb hts in_Mod hown hK hP x0 (gx_at (mx_lt hk_x0 (by decide)) (sh_Mod cI cZ b hk_x0 _)) rfl 24 (by decide) (hts _ tb_625) (fun _ h9 => h9) rfl d_Mod_enter_117 ?_
        refine lv_aload_n (pc := 120) hx hb d_Mod_enter_120 rfl (lv_at hl 0 rfl) ?_
        refine va_get (pc := 121) (D := (dC, dI)) (ci := 6) (C := R_Mod) (T := T_Mod) (N := 39) hx hb hts in_Mod hown hK hP x0 (gx_at (mx_lt hk_x0 (by decide)) (sh_Mod cI cZ b hk_x0 _)) rfl 19 (by decide) (hts _ tb_620) (fun _ h9 => h9) rfl d_Mod_enter_121 ?_
        refine lv_iload (pc := 124) hx hb d_Mod_enter_124 (lv_at hl 4 rfl) ?_
        obtain ⟨g14, h⟩ := gx_if h
        obtain ⟨V7, g15, h⟩ := gx_lt h
        refine gx_asi (pc := 126) hx hb hK hP hS (x0 + 10) 0 (mx_lt (to_Mod_value hk_x0) (by decide)) (fun _ => mh_arr cI cZ b (n := 8) (to_Mod_value hk_x0) (by decide) _) rfl g14 d_Mod_enter_126 g15 (fun H locs hP hS => ?_)
        refine lv_aload_n (pc := 127) hx hb d_Mod_enter_127 rfl (lv_at hl 0 rfl) ?_
        refine va_get (pc := 128) (D := (dC, dI)) (ci := 6) (C := R_Mod) (T := T_Mod) (N := 39) hx hb hts in_Mod hown hK hP x0 (gx_at (mx_lt hk_x0 (by decide)) (sh_Mod cI cZ b hk_x0 _)) rfl 25 (by decide) (hts _ tb_626) (fun _ h9 => h9) rfl d_Mod_enter_128 ?_
        refine lv_aload_n (pc := 131) hx hb d_Mod_enter_131 rfl (lv_at hl 0 rfl) ?_
        refine va_get (pc := 132) (D := (dC, dI)) (ci := 6) (C := R_Mod) (T := T_Mod) (N := 39) hx hb hts in_Mod hown hK hP x0 (gx_at (mx_lt hk_x0 (by decide)) (sh_Mod cI cZ b hk_x0 _)) rfl 19 (by decide) (hts _ tb_620) (fun _ h9 => h9) rfl d_Mod_enter_132 ?_
        refine lv_iload (pc := 135) hx hb d_Mod_enter_135 (lv_at hl 5 rfl) ?_
        obtain ⟨g16, h⟩ := gx_if h
        obtain ⟨V8, g17, h⟩ := gx_lt h
        refine gx_asi (pc := 137) hx hb hK hP hS (x0 + 11) 0 (mx_lt (to_Mod_input hk_x0) (by decide)) (fun _ => mh_arr cI cZ b (n := 8) (to_Mod_input hk_x0) (by decide) _) rfl g16 d_Mod_enter_137 g17 (fun H locs hP hS => ?_)
        refine lv_aload_n (pc := 138) hx hb d_Mod_enter_138 rfl (lv_at hl 0 rfl) ?_
        refine va_get (pc := 139) (D := (dC, dI)) (ci := 6) (C := R_Mod) (T := T_Mod) (N := 39) hx hb hts in_Mod hown hK hP x0 (gx_at (mx_lt hk_x0 (by decide)) (sh_Mod cI cZ b hk_x0 _)) rfl 26 (by decide) (hts _ tb_627) (fun _ h9 => h9) rfl d_Mod_enter_139 ?_
        refine lv_aload_n (pc := 142) hx hb d_Mod_enter_142 rfl (lv_at hl 0 rfl) ?_
        refine va_get (pc := 143) (D := (dC, dI)) (ci := 6) (C := R_Mod) (T := T_Mod) (N := 39) hx hb hts in_Mod hown hK hP x0 (gx_at (mx_lt hk_x0 (by decide)) (sh_Mod cI cZ b hk_x0 _)) rfl 19 (by decide) (hts _ tb_620) (fun _ h9 => h9) rfl d_Mod_enter_143 ?_
        refine lv_iload (pc := 146) hx hb d_Mod_enter_146 (lv_at hl 6 rfl) ?_
        obtain ⟨g18, h⟩ := gx_if h
        obtain ⟨V9, g19, h⟩ := gx_lt h
        refine gx_asi (pc := 148) hx hb hK hP hS (x0 + 12) 0 (mx_lt (to_Mod_gas hk_x0) (by decide)) (fun _ => mh_arr cI cZ b (n := 8) (to_Mod_gas hk_x0) (by decide) _) rfl g18 d_Mod_enter_148 g19 (fun H locs hP hS => ?_)
        refine lv_aload_n (pc := 149) hx hb d_Mod_enter_149 rfl (lv_at hl 0 rfl) ?_
        refine va_get (pc := 150) (D := (dC, dI)) (ci := 6) (C := R_Mod) (T := T_Mod) (N := 39) hx hb hts in_Mod hown hK hP x0 (gx_at (mx_lt hk_x0 (by decide)) (sh_Mod cI cZ b hk_x0 _)) rfl 27 (by decide) (hts _ tb_628) (fun _ h9 => h9) rfl d_Mod_enter_150 ?_
        refine lv_aload_n (pc := 153) hx hb d_Mod_enter_153 rfl (lv_at hl 0 rfl) ?_
        refine va_get (pc := 154) (D := (dC, dI)) (ci := 6) (C := R_Mod) (T := T_Mod) (N := 39) hx hb hts in_Mod hown hK hP x0 (gx_at (mx_lt hk_x0 (by decide)) (sh_Mod cI cZ b hk_x0 _)) rfl 19 (by decide) (hts _ tb_620) (fun _ h9 => h9) rfl d_Mod_enter_154 ?_
        refine lv_iconst (pc := 157) (v := (0 : Int32)) hx hb d_Mod_enter_157 (by decide) ?_
        obtain ⟨g20, h⟩ := gx_if h
        obtain ⟨V10, g21, h⟩ := gx_lt h
        refine gx_asi (pc := 158) hx hb hK hP hS (x0 + 13) 0 (mx_lt (to_Mod_size hk_x0) (by decide)) (fun _ => mh_arr cI cZ b (n := 8) (to_Mod_size hk_x0) (by decide) _) rfl g20 d_Mod_enter_158 g21 (fun H locs hP hS => ?_)
        exact gx_vret hx hb hr hlk hP hS d_Mod_enter_159 (by cases h; rfl) (by cases h; rfl)
      · have h := gx_neg g1 h
        refine lv_aload_n (pc := 21) hx hb d_Mod_enter_21 rfl (lv_at hl 0 rfl) ?_
        refine va_get (pc := 22) (D := (dC, dI)) (ci := 6) (C := R_Mod) (T := T_Mod) (N := 39) hx hb hts in_Mod hown hK hP x0 (gx_at (mx_lt hk_x0 (by decide)) (sh_Mod cI cZ b hk_x0 _)) rfl 29 (by decide) (hts _ tb_630) (fun _ h9 => h9) rfl d_Mod_enter_22 ?_
        refine lv_sipush (pc := 25) (v := (576 : Int32)) hx hb d_Mod_enter_25 (by decide) ?_
        refine lv_aload_n (pc := 28) hx hb d_Mod_enter_28 rfl (lv_at hl 0 rfl) ?_
        refine va_get (pc := 29) (D := (dC, dI)) (ci := 6) (C := R_Mod) (T := T_Mod) (N := 39) hx hb hts in_Mod hown hK hP x0 (gx_at (mx_lt hk_x0 (by decide)) (sh_Mod cI cZ b hk_x0 _)) rfl 19 (by decide) (hts _ tb_620) (fun _ h9 => h9) rfl d_Mod_enter_29 ?_
        refine lv_imul (pc := 32) hx hb d_Mod_enter_32 ?_
        refine lv_iload (pc := 33) hx hb d_Mod_enter_33 (lv_at hl 7 rfl) ?_
        refine lv_iadd (pc := 35) hx hb d_Mod_enter_35 ?_
        refine lv_aload_n (pc := 36) hx hb d_Mod_enter_36 rfl (lv_at hl 0 rfl) ?_
        refine va_get (pc := 37) (D := (dC, dI)) (ci := 6) (C := R_Mod) (T := T_Mod) (N := 39) hx hb hts in_Mod hown hK hP x0 (gx_at (mx_lt hk_x0 (by decide)) (sh_Mod cI cZ b hk_x0 _)) rfl 0 (by decide) (hts _ tb_601) (fun _ h9 => h9) rfl d_Mod_enter_37 ?_
        refine lv_iload (pc := 40) hx hb d_Mod_enter_40 (lv_at hl 7 rfl) ?_
        obtain ⟨g22, h⟩ := gx_if h
        refine va_iald (pc := 42) hx hb hK hP (x0 + 1) 0 (gx_at (mx_lt (to_Mod_now hk_x0) (by decide)) (mh_arr cI cZ b (n := 576) (to_Mod_now hk_x0) (by decide) _)) rfl g22 d_Mod_enter_42 ?_
        obtain ⟨g23, h⟩ := gx_if h
        obtain ⟨V11, g24, h⟩ := gx_lt h
        refine gx_asi (pc := 43) hx hb hK hP hS (x0 + 15) 0 (mx_lt (to_Mod_copies hk_x0) (by decide)) (fun _ => mh_arr cI cZ b (n := 4608) (to_Mod_copies hk_x0) (by decide) _) rfl g23 d_Mod_enter_43 g24 (fun H locs hP hS => ?_)
        refine lv_iinc (pc := 44) (k := 7) (lv' := [(7, .int (x7 + (1 : Int32))), (0, .ref (b + x0)), (1, .int x1), (2, .int x2), (3, .int x3), (4, .int x4), (5, .int x5), (6, .int x6)]) hx hb d_Mod_enter_44 hl rfl (gx_inc (by decide)) (by decide) rfl (fun ls hl => ?_)
        refine lv_goto (pc := 47) (tgt := 13) hx hb d_Mod_enter_47 (by decide) ?_
        exact ihl _ _ _ _ _ _ _ _ hk_x0 _ _ _ _ (lv_sub hl [1, 2, 3, 4, 5, 6, 7, 0] rfl) hP hS h
  unfold F_Mod_enter at h
  refine lv_aload_n (pc := 0) hx hb d_Mod_enter_0 rfl (lv_at hl 0 rfl) ?_
  refine lv_dup (pc := 1) hx hb d_Mod_enter_1 rfl ?_
  refine va_get (pc := 2) (D := (dC, dI)) (ci := 6) (C := R_Mod) (T := T_Mod) (N := 39) hx hb hts in_Mod hown hK hP x0 (gx_at (mx_lt hk0 (by decide)) (sh_Mod cI cZ b hk0 _)) rfl 19 (by decide) (hts _ tb_620) (fun _ h9 => h9) rfl d_Mod_enter_2 ?_
  refine lv_iconst (pc := 5) (v := (1 : Int32)) hx hb d_Mod_enter_5 (by decide) ?_
  refine lv_iadd (pc := 6) hx hb d_Mod_enter_6 ?_
  obtain ⟨V12, g25, h⟩ := gx_lt h
  refine gy_put (pc := 7) (D := (dC, dI)) (ci := 6) (C := R_Mod) (T := T_Mod) (NF := 39) (ty := .int) hx hb hts in_Mod t_Mod ty_Mod nm_Mod hown hK hP hS x0 (mx_lt hk0 (by decide)) (sh_Mod cI cZ b hk0 _) rfl 19 (by decide) (hts _ tb_620) (fun _ h9 => h9) rfl (by decide +kernel) rfl rfl (Nat.le_of_ble_eq_true rfl) 19 (sh_Mod cI cZ b hk0 _) d_Mod_enter_7 g25 (fun H locs hP hS => ?_)
  refine lv_iconst (pc := 10) (v := (0 : Int32)) hx hb d_Mod_enter_10 (by decide) ?_
  refine lv_istore (pc := 11) (lv' := [(7, .int (0 : Int32)), (0, .ref (b + x0)), (1, .int x1), (2, .int x2), (3, .int x3), (4, .int x4), (5, .int x5), (6, .int x6)]) hx hb d_Mod_enter_11 hl (by decide) rfl (fun ls hl => ?_)
  exact B_13 1000  _ _ _ _ _ _ _ _ hk0 _ _ _ _ (lv_sub hl [1, 2, 3, 4, 5, 6, 7, 0] rfl) hP hS h
abbrev rm_Mod_give : Room := { frames := 0, cells := 0, slots := 0, locals := 0 }
def F_Mod_give (x0 : Nat) (x1 : Int32) (x2 : Int32) (x3 : Int32) (V : gx_M) : Option gx_M := (if gx_ib ((36 : Int32) * x1) 576 then (if gx_ib ((36 : Int32) * x1) 576 then (gx_let (gx_u V (x0 + 1) ((36 : Int32) * x1).toNatClampNeg ((V (x0 + 1) ((36 : Int32) * x1).toNatClampNeg) - x3)) fun V1 => (if gx_ib ((36 : Int32) * x2) 576 then (if gx_ib ((36 : Int32) * x2) 576 then (gx_let (gx_u V1 (x0 + 1) ((36 : Int32) * x2).toNatClampNeg ((V1 (x0 + 1) ((36 : Int32) * x2).toNatClampNeg) + x3)) fun V2 => some V2) else none) else none)) else none) else none)
set_option maxRecDepth 100000 in
set_option maxHeartbeats 8000000 in
theorem k_Mod_give (l : Launch) (dC : Nat → ClassId) (dI : Nat → Nat → Nat) (cI cR cZ : ClassId) (b tP tN : Nat) {x0 : Nat} {x1 : Int32} {x2 : Int32} {x3 : Int32} {V : gx_M} {q : gx_M} (hk0 : mx_kd x0 = 6) (h : F_Mod_give x0 x1 x2 x3 V = some q) : mx_C l dC dI cI cR cZ b tP tN y_Mod_give w_Mod_give rm_Mod_give [.ref (b + x0), .int x1, .int x2, .int x3] V none q := by
  refine gx_start (cc := b_Mod_give) (maxL := 4) (ret := rt_Mod_give) (by decide) rfl (Nat.le_of_ble_eq_true rfl) ?_
  intro p e s m args below meth c ls hx hb hr hts hown hlk hml hl hP hK hX hS
  have hts : ∀ w ∈ cx_tb, w.before args s = true := fun w hw => hts w (List.mem_cons_of_mem _ hw)
  have hown : s.vm.findClass "GasLedgerModel" = some m.cls := hown
  have hl : lv_has ls 4 [(0, .ref (b + x0)), (1, .int x1), (2, .int x2), (3, .int x3)] := hl
  unfold F_Mod_give at h
  refine lv_aload_n (pc := 0) hx hb d_Mod_give_0 rfl (lv_at hl 0 rfl) ?_
  refine va_get (pc := 1) (D := (dC, dI)) (ci := 6) (C := R_Mod) (T := T_Mod) (N := 39) hx hb hts in_Mod hown hK hP x0 (gx_at (mx_lt hk0 (by decide)) (sh_Mod cI cZ b hk0 _)) rfl 0 (by decide) (hts _ tb_601) (fun _ h9 => h9) rfl d_Mod_give_1 ?_
  refine lv_bipush (pc := 4) (v := (36 : Int32)) hx hb d_Mod_give_4 (by decide) ?_
  refine lv_iload_n (pc := 6) hx hb d_Mod_give_6 rfl (lv_at hl 1 rfl) ?_
  refine lv_imul (pc := 7) hx hb d_Mod_give_7 ?_
  refine lv_dup2_11 (pc := 8) hx hb d_Mod_give_8 rfl rfl ?_
  obtain ⟨g1, h⟩ := gx_if h
  refine va_iald (pc := 9) hx hb hK hP (x0 + 1) 0 (gx_at (mx_lt (to_Mod_now hk0) (by decide)) (mh_arr cI cZ b (n := 576) (to_Mod_now hk0) (by decide) _)) rfl g1 d_Mod_give_9 ?_
  refine lv_iload_n (pc := 10) hx hb d_Mod_give_10 rfl (lv_at hl 3 rfl) ?_
  refine lv_isub (pc := 11) hx hb d_Mod_give_11 ?_
  obtain ⟨g2, h⟩ := gx_if h
  obtain ⟨V1, g3, h⟩ := gx_lt h
  refine gx_asi (pc := 12) hx hb hK hP hS (x0 + 1) 0 (mx_lt (to_Mod_now hk0) (by decide)) (fun _ => mh_arr cI cZ b (n := 576) (to_Mod_now hk0) (by decide) _) rfl g2 d_Mod_give_12 g3 (fun H locs hP hS => ?_)
  refine lv_aload_n (pc := 13) hx hb d_Mod_give_13 rfl (lv_at hl 0 rfl) ?_
  refine va_get (pc := 14) (D := (dC, dI)) (ci := 6) (C := R_Mod) (T := T_Mod) (N := 39) hx hb hts in_Mod hown hK hP x0 (gx_at (mx_lt hk0 (by decide)) (sh_Mod cI cZ b hk0 _)) rfl 0 (by decide) (hts _ tb_601) (fun _ h9 => h9) rfl d_Mod_give_14 ?_
  refine lv_bipush (pc := 17) (v := (36 : Int32)) hx hb d_Mod_give_17 (by decide) ?_
  refine lv_iload_n (pc := 19) hx hb d_Mod_give_19 rfl (lv_at hl 2 rfl) ?_
  refine lv_imul (pc := 20) hx hb d_Mod_give_20 ?_
  refine lv_dup2_11 (pc := 21) hx hb d_Mod_give_21 rfl rfl ?_
  obtain ⟨g4, h⟩ := gx_if h
  refine va_iald (pc := 22) hx hb hK hP (x0 + 1) 0 (gx_at (mx_lt (to_Mod_now hk0) (by decide)) (mh_arr cI cZ b (n := 576) (to_Mod_now hk0) (by decide) _)) rfl g4 d_Mod_give_22 ?_
  refine lv_iload_n (pc := 23) hx hb d_Mod_give_23 rfl (lv_at hl 3 rfl) ?_
  refine lv_iadd (pc := 24) hx hb d_Mod_give_24 ?_
  obtain ⟨g5, h⟩ := gx_if h
  obtain ⟨V2, g6, h⟩ := gx_lt h
  refine gx_asi (pc := 25) hx hb hK hP hS (x0 + 1) 0 (mx_lt (to_Mod_now hk0) (by decide)) (fun _ => mh_arr cI cZ b (n := 576) (to_Mod_now hk0) (by decide) _) rfl g5 d_Mod_give_25 g6 (fun H locs hP hS => ?_)
  exact gx_vret hx hb hr hlk hP hS d_Mod_give_26 (by cases h; rfl) (by cases h; rfl)
abbrev rm_Mod_push : Room := { frames := 0, cells := 0, slots := 0, locals := 0 }
def F_Mod_push (x0 : Nat) (x1 : Int32) (V : gx_M) : Option gx_M := (if gx_ib (V x0 19) 8 then (if gx_ib (((12 : Int32) * (V x0 19)) + (V (x0 + 13) (V x0 19).toNatClampNeg)) 96 then (gx_let (gx_u V (x0 + 14) (((12 : Int32) * (V x0 19)) + (V (x0 + 13) (V x0 19).toNatClampNeg)).toNatClampNeg x1) fun V1 => (if gx_ib (V1 x0 19) 8 then (if gx_ib (V1 x0 19) 8 then (gx_let (gx_u V1 (x0 + 13) (V1 x0 19).toNatClampNeg ((V1 (x0 + 13) (V1 x0 19).toNatClampNeg) + (1 : Int32))) fun V2 => some V2) else none) else none)) else none) else none)
set_option maxRecDepth 100000 in
set_option maxHeartbeats 8000000 in
theorem k_Mod_push (l : Launch) (dC : Nat → ClassId) (dI : Nat → Nat → Nat) (cI cR cZ : ClassId) (b tP tN : Nat) {x0 : Nat} {x1 : Int32} {V : gx_M} {q : gx_M} (hk0 : mx_kd x0 = 6) (h : F_Mod_push x0 x1 V = some q) : mx_C l dC dI cI cR cZ b tP tN y_Mod_push w_Mod_push rm_Mod_push [.ref (b + x0), .int x1] V none q := by
  refine gx_start (cc := b_Mod_push) (maxL := 2) (ret := rt_Mod_push) (by decide) rfl (Nat.le_of_ble_eq_true rfl) ?_
  intro p e s m args below meth c ls hx hb hr hts hown hlk hml hl hP hK hX hS
  have hts : ∀ w ∈ cx_tb, w.before args s = true := fun w hw => hts w (List.mem_cons_of_mem _ hw)
  have hown : s.vm.findClass "GasLedgerModel" = some m.cls := hown
  have hl : lv_has ls 2 [(0, .ref (b + x0)), (1, .int x1)] := hl
  unfold F_Mod_push at h
  refine lv_aload_n (pc := 0) hx hb d_Mod_push_0 rfl (lv_at hl 0 rfl) ?_
  refine va_get (pc := 1) (D := (dC, dI)) (ci := 6) (C := R_Mod) (T := T_Mod) (N := 39) hx hb hts in_Mod hown hK hP x0 (gx_at (mx_lt hk0 (by decide)) (sh_Mod cI cZ b hk0 _)) rfl 28 (by decide) (hts _ tb_629) (fun _ h9 => h9) rfl d_Mod_push_1 ?_
  refine lv_bipush (pc := 4) (v := (12 : Int32)) hx hb d_Mod_push_4 (by decide) ?_
  refine lv_aload_n (pc := 6) hx hb d_Mod_push_6 rfl (lv_at hl 0 rfl) ?_
  refine va_get (pc := 7) (D := (dC, dI)) (ci := 6) (C := R_Mod) (T := T_Mod) (N := 39) hx hb hts in_Mod hown hK hP x0 (gx_at (mx_lt hk0 (by decide)) (sh_Mod cI cZ b hk0 _)) rfl 19 (by decide) (hts _ tb_620) (fun _ h9 => h9) rfl d_Mod_push_7 ?_
  refine lv_imul (pc := 10) hx hb d_Mod_push_10 ?_
  refine lv_aload_n (pc := 11) hx hb d_Mod_push_11 rfl (lv_at hl 0 rfl) ?_
  refine va_get (pc := 12) (D := (dC, dI)) (ci := 6) (C := R_Mod) (T := T_Mod) (N := 39) hx hb hts in_Mod hown hK hP x0 (gx_at (mx_lt hk0 (by decide)) (sh_Mod cI cZ b hk0 _)) rfl 27 (by decide) (hts _ tb_628) (fun _ h9 => h9) rfl d_Mod_push_12 ?_
  refine lv_aload_n (pc := 15) hx hb d_Mod_push_15 rfl (lv_at hl 0 rfl) ?_
  refine va_get (pc := 16) (D := (dC, dI)) (ci := 6) (C := R_Mod) (T := T_Mod) (N := 39) hx hb hts in_Mod hown hK hP x0 (gx_at (mx_lt hk0 (by decide)) (sh_Mod cI cZ b hk0 _)) rfl 19 (by decide) (hts _ tb_620) (fun _ h9 => h9) rfl d_Mod_push_16 ?_
  obtain ⟨g1, h⟩ := gx_if h
  refine va_iald (pc := 19) hx hb hK hP (x0 + 13) 0 (gx_at (mx_lt (to_Mod_size hk0) (by decide)) (mh_arr cI cZ b (n := 8) (to_Mod_size hk0) (by decide) _)) rfl g1 d_Mod_push_19 ?_
  refine lv_iadd (pc := 20) hx hb d_Mod_push_20 ?_
  refine lv_iload_n (pc := 21) hx hb d_Mod_push_21 rfl (lv_at hl 1 rfl) ?_
  obtain ⟨g2, h⟩ := gx_if h
  obtain ⟨V1, g3, h⟩ := gx_lt h
  refine gx_asi (pc := 22) hx hb hK hP hS (x0 + 14) 0 (mx_lt (to_Mod_stack hk0) (by decide)) (fun _ => mh_arr cI cZ b (n := 96) (to_Mod_stack hk0) (by decide) _) rfl g2 d_Mod_push_22 g3 (fun H locs hP hS => ?_)
  refine lv_aload_n (pc := 23) hx hb d_Mod_push_23 rfl (lv_at hl 0 rfl) ?_
  refine va_get (pc := 24) (D := (dC, dI)) (ci := 6) (C := R_Mod) (T := T_Mod) (N := 39) hx hb hts in_Mod hown hK hP x0 (gx_at (mx_lt hk0 (by decide)) (sh_Mod cI cZ b hk0 _)) rfl 27 (by decide) (hts _ tb_628) (fun _ h9 => h9) rfl d_Mod_push_24 ?_
  refine lv_aload_n (pc := 27) hx hb d_Mod_push_27 rfl (lv_at hl 0 rfl) ?_
  refine va_get (pc := 28) (D := (dC, dI)) (ci := 6) (C := R_Mod) (T := T_Mod) (N := 39) hx hb hts in_Mod hown hK hP x0 (gx_at (mx_lt hk0 (by decide)) (sh_Mod cI cZ b hk0 _)) rfl 19 (by decide) (hts _ tb_620) (fun _ h9 => h9) rfl d_Mod_push_28 ?_
  refine lv_dup2_11 (pc := 31) hx hb d_Mod_push_31 rfl rfl ?_
  obtain ⟨g4, h⟩ := gx_if h
  refine va_iald (pc := 32) hx hb hK hP (x0 + 13) 0 (gx_at (mx_lt (to_Mod_size hk0) (by decide)) (mh_arr cI cZ b (n := 8) (to_Mod_size hk0) (by decide) _)) rfl g4 d_Mod_push_32 ?_
  refine lv_iconst (pc := 33) (v := (1 : Int32)) hx hb d_Mod_push_33 (by decide) ?_
  refine lv_iadd (pc := 34) hx hb d_Mod_push_34 ?_
  obtain ⟨g5, h⟩ := gx_if h
  obtain ⟨V2, g6, h⟩ := gx_lt h
  refine gx_asi (pc := 35) hx hb hK hP hS (x0 + 13) 0 (mx_lt (to_Mod_size hk0) (by decide)) (fun _ => mh_arr cI cZ b (n := 8) (to_Mod_size hk0) (by decide) _) rfl g5 d_Mod_push_35 g6 (fun H locs hP hS => ?_)
  exact gx_vret hx hb hr hlk hP hS d_Mod_push_36 (by cases h; rfl) (by cases h; rfl)
abbrev rm_Mod_pop : Room := { frames := 0, cells := 0, slots := 0, locals := 0 }
def F_Mod_pop (x0 : Nat) (V : gx_M) : Option (Int32 × gx_M) := (if gx_ib (V x0 19) 8 then (if gx_ib (V x0 19) 8 then (gx_let (gx_u V (x0 + 13) (V x0 19).toNatClampNeg ((V (x0 + 13) (V x0 19).toNatClampNeg) - (1 : Int32))) fun V1 => (if gx_ib (V1 x0 19) 8 then (if gx_ib (((12 : Int32) * (V1 x0 19)) + (V1 (x0 + 13) (V1 x0 19).toNatClampNeg)) 96 then some ((V1 (x0 + 14) (((12 : Int32) * (V1 x0 19)) + (V1 (x0 + 13) (V1 x0 19).toNatClampNeg)).toNatClampNeg), V1) else none) else none)) else none) else none)
set_option maxRecDepth 100000 in
set_option maxHeartbeats 8000000 in
theorem k_Mod_pop (l : Launch) (dC : Nat → ClassId) (dI : Nat → Nat → Nat) (cI cR cZ : ClassId) (b tP tN : Nat) {x0 : Nat} {V : gx_M} {q : (Int32 × gx_M)} (hk0 : mx_kd x0 = 6) (h : F_Mod_pop x0 V = some q) : mx_C l dC dI cI cR cZ b tP tN y_Mod_pop w_Mod_pop rm_Mod_pop [.ref (b + x0)] V (some (.int q.1)) q.2 := by
  refine gx_start (cc := b_Mod_pop) (maxL := 1) (ret := rt_Mod_pop) (by decide) rfl (Nat.le_of_ble_eq_true rfl) ?_
  intro p e s m args below meth c ls hx hb hr hts hown hlk hml hl hP hK hX hS
  have hts : ∀ w ∈ cx_tb, w.before args s = true := fun w hw => hts w (List.mem_cons_of_mem _ hw)
  have hown : s.vm.findClass "GasLedgerModel" = some m.cls := hown
  have hl : lv_has ls 1 [(0, .ref (b + x0))] := hl
  unfold F_Mod_pop at h
  refine lv_aload_n (pc := 0) hx hb d_Mod_pop_0 rfl (lv_at hl 0 rfl) ?_
  refine va_get (pc := 1) (D := (dC, dI)) (ci := 6) (C := R_Mod) (T := T_Mod) (N := 39) hx hb hts in_Mod hown hK hP x0 (gx_at (mx_lt hk0 (by decide)) (sh_Mod cI cZ b hk0 _)) rfl 27 (by decide) (hts _ tb_628) (fun _ h9 => h9) rfl d_Mod_pop_1 ?_
  refine lv_aload_n (pc := 4) hx hb d_Mod_pop_4 rfl (lv_at hl 0 rfl) ?_
  refine va_get (pc := 5) (D := (dC, dI)) (ci := 6) (C := R_Mod) (T := T_Mod) (N := 39) hx hb hts in_Mod hown hK hP x0 (gx_at (mx_lt hk0 (by decide)) (sh_Mod cI cZ b hk0 _)) rfl 19 (by decide) (hts _ tb_620) (fun _ h9 => h9) rfl d_Mod_pop_5 ?_
  refine lv_dup2_11 (pc := 8) hx hb d_Mod_pop_8 rfl rfl ?_
  obtain ⟨g1, h⟩ := gx_if h
  refine va_iald (pc := 9) hx hb hK hP (x0 + 13) 0 (gx_at (mx_lt (to_Mod_size hk0) (by decide)) (mh_arr cI cZ b (n := 8) (to_Mod_size hk0) (by decide) _)) rfl g1 d_Mod_pop_9 ?_
  refine lv_iconst (pc := 10) (v := (1 : Int32)) hx hb d_Mod_pop_10 (by decide) ?_
  refine lv_isub (pc := 11) hx hb d_Mod_pop_11 ?_
  obtain ⟨g2, h⟩ := gx_if h
  obtain ⟨V1, g3, h⟩ := gx_lt h
  refine gx_asi (pc := 12) hx hb hK hP hS (x0 + 13) 0 (mx_lt (to_Mod_size hk0) (by decide)) (fun _ => mh_arr cI cZ b (n := 8) (to_Mod_size hk0) (by decide) _) rfl g2 d_Mod_pop_12 g3 (fun H locs hP hS => ?_)
  refine lv_aload_n (pc := 13) hx hb d_Mod_pop_13 rfl (lv_at hl 0 rfl) ?_
  refine va_get (pc := 14) (D := (dC, dI)) (ci := 6) (C := R_Mod) (T := T_Mod) (N := 39) hx hb hts in_Mod hown hK hP x0 (gx_at (mx_lt hk0 (by decide)) (sh_Mod cI cZ b hk0 _)) rfl 28 (by decide) (hts _ tb_629) (fun _ h9 => h9) rfl d_Mod_pop_14 ?_
  refine lv_bipush (pc := 17) (v := (12 : Int32)) hx hb d_Mod_pop_17 (by decide) ?_
  refine lv_aload_n (pc := 19) hx hb d_Mod_pop_19 rfl (lv_at hl 0 rfl) ?_
  refine va_get (pc := 20) (D := (dC, dI)) (ci := 6) (C := R_Mod) (T := T_Mod) (N := 39) hx hb hts in_Mod hown hK hP x0 (gx_at (mx_lt hk0 (by decide)) (sh_Mod cI cZ b hk0 _)) rfl 19 (by decide) (hts _ tb_620) (fun _ h9 => h9) rfl d_Mod_pop_20 ?_
  refine lv_imul (pc := 23) hx hb d_Mod_pop_23 ?_
  refine lv_aload_n (pc := 24) hx hb d_Mod_pop_24 rfl (lv_at hl 0 rfl) ?_
  refine va_get (pc := 25) (D := (dC, dI)) (ci := 6) (C := R_Mod) (T := T_Mod) (N := 39) hx hb hts in_Mod hown hK hP x0 (gx_at (mx_lt hk0 (by decide)) (sh_Mod cI cZ b hk0 _)) rfl 27 (by decide) (hts _ tb_628) (fun _ h9 => h9) rfl d_Mod_pop_25 ?_
  refine lv_aload_n (pc := 28) hx hb d_Mod_pop_28 rfl (lv_at hl 0 rfl) ?_
  refine va_get (pc := 29) (D := (dC, dI)) (ci := 6) (C := R_Mod) (T := T_Mod) (N := 39) hx hb hts in_Mod hown hK hP x0 (gx_at (mx_lt hk0 (by decide)) (sh_Mod cI cZ b hk0 _)) rfl 19 (by decide) (hts _ tb_620) (fun _ h9 => h9) rfl d_Mod_pop_29 ?_
  obtain ⟨g4, h⟩ := gx_if h
  refine va_iald (pc := 32) hx hb hK hP (x0 + 13) 0 (gx_at (mx_lt (to_Mod_size hk0) (by decide)) (mh_arr cI cZ b (n := 8) (to_Mod_size hk0) (by decide) _)) rfl g4 d_Mod_pop_32 ?_
  refine lv_iadd (pc := 33) hx hb d_Mod_pop_33 ?_
  obtain ⟨g5, h⟩ := gx_if h
  refine va_iald (pc := 34) hx hb hK hP (x0 + 14) 0 (gx_at (mx_lt (to_Mod_stack hk0) (by decide)) (mh_arr cI cZ b (n := 96) (to_Mod_stack hk0) (by decide) _)) rfl g5 d_Mod_pop_34 ?_
  exact gx_iret (free := fun _ => True) hx hb hr hlk hP hS d_Mod_pop_35 (by cases h; rfl) (by cases h; rfl)
abbrev rm_Mod_peek : Room := { frames := 0, cells := 0, slots := 0, locals := 0 }
def F_Mod_peek (x0 : Nat) (x1 : Int32) (V : gx_M) : Option (Int32 × gx_M) := (if x1 < 0 then some ((0 : Int32), V) else (if gx_ib (V x0 19) 8 then (if (V (x0 + 13) (V x0 19).toNatClampNeg) ≤ x1 then some ((0 : Int32), V) else (if gx_ib (V x0 19) 8 then (if gx_ib (((((12 : Int32) * (V x0 19)) + (V (x0 + 13) (V x0 19).toNatClampNeg)) - (1 : Int32)) - x1) 96 then some ((V (x0 + 14) (((((12 : Int32) * (V x0 19)) + (V (x0 + 13) (V x0 19).toNatClampNeg)) - (1 : Int32)) - x1).toNatClampNeg), V) else none) else none)) else none))
set_option maxRecDepth 100000 in
set_option maxHeartbeats 8000000 in
theorem k_Mod_peek (l : Launch) (dC : Nat → ClassId) (dI : Nat → Nat → Nat) (cI cR cZ : ClassId) (b tP tN : Nat) {x0 : Nat} {x1 : Int32} {V : gx_M} {q : (Int32 × gx_M)} (hk0 : mx_kd x0 = 6) (h : F_Mod_peek x0 x1 V = some q) : mx_C l dC dI cI cR cZ b tP tN y_Mod_peek w_Mod_peek rm_Mod_peek [.ref (b + x0), .int x1] V (some (.int q.1)) q.2 := by
  refine gx_start (cc := b_Mod_peek) (maxL := 2) (ret := rt_Mod_peek) (by decide) rfl (Nat.le_of_ble_eq_true rfl) ?_
  intro p e s m args below meth c ls hx hb hr hts hown hlk hml hl hP hK hX hS
  have hts : ∀ w ∈ cx_tb, w.before args s = true := fun w hw => hts w (List.mem_cons_of_mem _ hw)
  have hown : s.vm.findClass "GasLedgerModel" = some m.cls := hown
  have hl : lv_has ls 2 [(0, .ref (b + x0)), (1, .int x1)] := hl
  unfold F_Mod_peek at h
  refine lv_iload_n (pc := 0) hx hb d_Mod_peek_0 rfl (lv_at hl 1 rfl) ?_
  refine lv_if_lt (pc := 1) (tgt := 46) hx hb d_Mod_peek_1 (by decide) (fun g1 => ?_) (fun g1 => ?_)
  · have h := gx_pos g1 h
    refine lv_iconst (pc := 46) (v := (0 : Int32)) hx hb d_Mod_peek_46 (by decide) ?_
    exact gx_iret (free := fun _ => True) hx hb hr hlk hP hS d_Mod_peek_47 (by cases h; rfl) (by cases h; rfl)
  · have h := gx_neg g1 h
    refine lv_iload_n (pc := 4) hx hb d_Mod_peek_4 rfl (lv_at hl 1 rfl) ?_
    refine lv_aload_n (pc := 5) hx hb d_Mod_peek_5 rfl (lv_at hl 0 rfl) ?_
    refine va_get (pc := 6) (D := (dC, dI)) (ci := 6) (C := R_Mod) (T := T_Mod) (N := 39) hx hb hts in_Mod hown hK hP x0 (gx_at (mx_lt hk0 (by decide)) (sh_Mod cI cZ b hk0 _)) rfl 27 (by decide) (hts _ tb_628) (fun _ h9 => h9) rfl d_Mod_peek_6 ?_
    refine lv_aload_n (pc := 9) hx hb d_Mod_peek_9 rfl (lv_at hl 0 rfl) ?_
    refine va_get (pc := 10) (D := (dC, dI)) (ci := 6) (C := R_Mod) (T := T_Mod) (N := 39) hx hb hts in_Mod hown hK hP x0 (gx_at (mx_lt hk0 (by decide)) (sh_Mod cI cZ b hk0 _)) rfl 19 (by decide) (hts _ tb_620) (fun _ h9 => h9) rfl d_Mod_peek_10 ?_
    obtain ⟨g2, h⟩ := gx_if h
    refine va_iald (pc := 13) hx hb hK hP (x0 + 13) 0 (gx_at (mx_lt (to_Mod_size hk0) (by decide)) (mh_arr cI cZ b (n := 8) (to_Mod_size hk0) (by decide) _)) rfl g2 d_Mod_peek_13 ?_
    refine lv_icmp_ge (pc := 14) (tgt := 46) hx hb d_Mod_peek_14 (by decide) (fun g3 => ?_) (fun g3 => ?_)
    · have h := gx_pos g3 h
      refine lv_iconst (pc := 46) (v := (0 : Int32)) hx hb d_Mod_peek_46 (by decide) ?_
      exact gx_iret (free := fun _ => True) hx hb hr hlk hP hS d_Mod_peek_47 (by cases h; rfl) (by cases h; rfl)
    · have h := gx_neg g3 h
      refine lv_aload_n (pc := 17) hx hb d_Mod_peek_17 rfl (lv_at hl 0 rfl) ?_
      refine va_get (pc := 18) (D := (dC, dI)) (ci := 6) (C := R_Mod) (T := T_Mod) (N := 39) hx hb hts in_Mod hown hK hP x0 (gx_at (mx_lt hk0 (by decide)) (sh_Mod cI cZ b hk0 _)) rfl 28 (by decide) (hts _ tb_629) (fun _ h9 => h9) rfl d_Mod_peek_18 ?_
      refine lv_bipush (pc := 21) (v := (12 : Int32)) hx hb d_Mod_peek_21 (by decide) ?_
      refine lv_aload_n (pc := 23) hx hb d_Mod_peek_23 rfl (lv_at hl 0 rfl) ?_
      refine va_get (pc := 24) (D := (dC, dI)) (ci := 6) (C := R_Mod) (T := T_Mod) (N := 39) hx hb hts in_Mod hown hK hP x0 (gx_at (mx_lt hk0 (by decide)) (sh_Mod cI cZ b hk0 _)) rfl 19 (by decide) (hts _ tb_620) (fun _ h9 => h9) rfl d_Mod_peek_24 ?_
      refine lv_imul (pc := 27) hx hb d_Mod_peek_27 ?_
      refine lv_aload_n (pc := 28) hx hb d_Mod_peek_28 rfl (lv_at hl 0 rfl) ?_
      refine va_get (pc := 29) (D := (dC, dI)) (ci := 6) (C := R_Mod) (T := T_Mod) (N := 39) hx hb hts in_Mod hown hK hP x0 (gx_at (mx_lt hk0 (by decide)) (sh_Mod cI cZ b hk0 _)) rfl 27 (by decide) (hts _ tb_628) (fun _ h9 => h9) rfl d_Mod_peek_29 ?_
      refine lv_aload_n (pc := 32) hx hb d_Mod_peek_32 rfl (lv_at hl 0 rfl) ?_
      refine va_get (pc := 33) (D := (dC, dI)) (ci := 6) (C := R_Mod) (T := T_Mod) (N := 39) hx hb hts in_Mod hown hK hP x0 (gx_at (mx_lt hk0 (by decide)) (sh_Mod cI cZ b hk0 _)) rfl 19 (by decide) (hts _ tb_620) (fun _ h9 => h9) rfl d_Mod_peek_33 ?_
      obtain ⟨g4, h⟩ := gx_if h
      refine va_iald (pc := 36) hx hb hK hP (x0 + 13) 0 (gx_at (mx_lt (to_Mod_size hk0) (by decide)) (mh_arr cI cZ b (n := 8) (to_Mod_size hk0) (by decide) _)) rfl g4 d_Mod_peek_36 ?_
      refine lv_iadd (pc := 37) hx hb d_Mod_peek_37 ?_
      refine lv_iconst (pc := 38) (v := (1 : Int32)) hx hb d_Mod_peek_38 (by decide) ?_
      refine lv_isub (pc := 39) hx hb d_Mod_peek_39 ?_
      refine lv_iload_n (pc := 40) hx hb d_Mod_peek_40 rfl (lv_at hl 1 rfl) ?_
      refine lv_isub (pc := 41) hx hb d_Mod_peek_41 ?_
      obtain ⟨g5, h⟩ := gx_if h
      refine va_iald (pc := 42) hx hb hK hP (x0 + 14) 0 (gx_at (mx_lt (to_Mod_stack hk0) (by decide)) (mh_arr cI cZ b (n := 96) (to_Mod_stack hk0) (by decide) _)) rfl g5 d_Mod_peek_42 ?_
      refine lv_goto (pc := 43) (tgt := 47) hx hb d_Mod_peek_43 (by decide) ?_
      exact gx_iret (free := fun _ => True) hx hb hr hlk hP hS d_Mod_peek_47 (by cases h; rfl) (by cases h; rfl)
