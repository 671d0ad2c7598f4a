abbrev rm_Mod_create : Room := { frames := 1, cells := 0, slots := 0, locals := 23 }
def F_Mod_create_95 : Nat → Nat → Int32 → Int32 → Int32 → Int32 → Int32 → Int32 → gx_M → Option gx_M
  | 0, _, _, _, _, _, _, _, _ => none
  | nf + 1, x0, x1, x2, x3, x4, x5, x6, V => (if x4 ≤ x6 then (if gx_ib (((36 : Int32) * x5) + (2 : Int32)) 576 then (gx_let (gx_u V (x0 + 1) (((36 : Int32) * x5) + (2 : Int32)).toNatClampNeg x4) fun V1 => (if gx_ib (((36 : Int32) * x5) + (1 : Int32)) 576 then (gx_let (gx_u V1 (x0 + 1) (((36 : Int32) * x5) + (1 : Int32)).toNatClampNeg (1 : Int32)) fun V2 => ((F_Mod_give x0 x1 x5 x2 V2).bind fun q1 => ((F_Mod_push x0 x5 q1).bind fun q2 => some q2))) else none)) else none) else (if gx_ib (V x0 19) 8 then (if gx_ib (((((36 : Int32) * (V (x0 + 7) (V x0 19).toNatClampNeg)) + (3 : Int32)) + x3) + x6) 576 then (if gx_ib ((((36 : Int32) * x5) + (3 : Int32)) + x6) 576 then (gx_let (gx_u V (x0 + 1) ((((36 : Int32) * x5) + (3 : Int32)) + x6).toNatClampNeg (V (x0 + 1) (((((36 : Int32) * (V (x0 + 7) (V x0 19).toNatClampNeg)) + (3 : Int32)) + x3) + x6).toNatClampNeg)) fun V3 => (F_Mod_create_95 nf  x0 x1 x2 x3 x4 x5 (x6 + (1 : Int32)) V3)) else none) else none) else none))
def F_Mod_create_51 (x0 : Nat) (x1 : Int32) (x2 : Int32) (x3 : Int32) (x4 : Int32) (x5 : Int32) (V : gx_M) : Option gx_M := (if gx_ib ((36 : Int32) * x1) 576 then (if (V (x0 + 1) ((36 : Int32) * x1).toNatClampNeg) < x2 then ((F_Mod_push x0 (-1 : Int32) V).bind fun q3 => some q3) else (if x5 = (16 : Int32) then ((F_Mod_push x0 (-1 : Int32) V).bind fun q4 => some q4) else (if gx_ib (((36 : Int32) * x1) + (1 : Int32)) 576 then (if gx_ib (((36 : Int32) * x1) + (1 : Int32)) 576 then (gx_let (gx_u V (x0 + 1) (((36 : Int32) * x1) + (1 : Int32)).toNatClampNeg ((V (x0 + 1) (((36 : Int32) * x1) + (1 : Int32)).toNatClampNeg) + (1 : Int32))) fun V4 => (F_Mod_create_95 100  x0 x1 x2 x3 x4 x5 (0 : Int32) V4)) else none) else none))) else none)
def F_Mod_create_29 : Nat → Nat → Int32 → Int32 → Int32 → Int32 → Int32 → gx_M → Option gx_M
  | 0, _, _, _, _, _, _, _ => none
  | nf + 1, x0, x1, x2, x3, x4, x5, V => (if (16 : Int32) ≤ x5 then (F_Mod_create_51   x0 x1 x2 x3 x4 x5 V) else ((F_Mod_empty x0 x5 V).bind fun q5 => (if q5.1 = 0 then (F_Mod_create_29 nf  x0 x1 x2 x3 x4 (x5 + (1 : Int32)) q5.2) else (F_Mod_create_51   x0 x1 x2 x3 x4 x5 q5.2))))
def F_Mod_create (x0 : Nat) (V : gx_M) : Option gx_M := (if gx_ib (V x0 19) 8 then ((F_Mod_pop x0 V).bind fun q6 => ((F_Mod_pop x0 q6.2).bind fun q7 => ((F_Mod_pop x0 q7.2).bind fun q8 => (F_Mod_create_29 100  x0 (V (x0 + 6) (V x0 19).toNatClampNeg) q6.1 q7.1 q8.1 (0 : Int32) q8.2)))) else none)
set_option maxRecDepth 100000 in
set_option maxHeartbeats 8000000 in
theorem k_Mod_create (l : Launch) (dC : Nat → ClassId) (dI : Nat → Nat → Nat) (cI cR cZ : ClassId) (b tP tN : Nat) {x0 : Nat} {V : gx_M} {q : gx_M} (hk0 : mx_kd x0 = 6) (h : F_Mod_create x0 V = some q) : mx_C l dC dI cI cR cZ b tP tN y_Mod_create w_Mod_create rm_Mod_create [.ref (b + x0)] V none q := by
  refine gx_start (cc := b_Mod_create) (maxL := 7) (ret := rt_Mod_create) (by decide) rfl (Nat.le_of_ble_eq_true rfl) ?_
  intro p e s m args below meth c ls hx hb hr hts hown hlk hml hl hP hK hX hS
  have hts : ∀ w ∈ cx_tb, w.before args s = true := fun w hw => hts w (List.mem_cons_of_mem _ hw)
  have hown : s.vm.findClass "GasLedgerModel" = some m.cls := hown
  have hl : lv_has ls 7 [(0, .ref (b + x0))] := hl
  have B_95 : ∀ (nf : Nat), ∀ (x0 : Nat) (x1 : Int32) (x2 : Int32) (x3 : Int32) (x4 : Int32) (x5 : Int32) (x6 : Int32), mx_kd x0 = 6 → ∀ (V : gx_M) (H : Heap) (locs : List Loc) (ls : Array Slot), lv_has ls 7 [(0, .ref (b + x0)), (1, .int x1), (2, .int x2), (3, .int x3), (4, .int x4), (5, .int x5), (6, .int x6)] → va_P (dC, dI) cx_cl (gx_w b 22 (gx_v (mx_sh cI cZ b) V)) H → va_S (gx_A b 22) s.heap H locs → F_Mod_create_95 nf x0 x1 x2 x3 x4 x5 x6 V = some q → W p l e (headSpec w_Mod_create rm_Mod_create).room s m args below meth c H locs 0 0 (MQ below (gx_Q (dC, dI) cx_cl b 22 (mx_sh cI cZ b) none q) args s 0 0 (gx_A b 22)) (F0 m 95 ls []) := by
    intro nf
    induction nf with
    | zero => intro x0 x1 x2 x3 x4 x5 x6 hk_x0 V H locs ls hl hP hS h; cases h
    | succ nf ihl =>
      intro x0 x1 x2 x3 x4 x5 x6 hk_x0 V H locs ls hl hP hS h
      rw [F_Mod_create_95] at h
      refine lv_iload (pc := 95) hx hb d_Mod_create_95 (lv_at hl 6 rfl) ?_
      refine lv_iload (pc := 97) hx hb d_Mod_create_97 (lv_at hl 4 rfl) ?_
      refine lv_icmp_ge (pc := 99) (tgt := 147) hx hb d_Mod_create_99 (by decide) (fun g1 => ?_) (fun g1 => ?_)
      · have h := gx_pos g1 h
        refine lv_aload_n (pc := 147) hx hb d_Mod_create_147 rfl (lv_at hl 0 rfl) ?_
        refine va_get (pc := 148) (D := (dC, dI)) (ci := 6) (C := R_Mod) (T := T_Mod) (N := 39) hx hb hts in_Mod hown hK hP x0 (gx_at (mx_lt hk_x0 (by decide)) (sh_Mod cI cZ b hk_x0 _)) rfl 0 (by decide) (hts _ tb_601) (fun _ h9 => h9) rfl d_Mod_create_148 ?_
        refine lv_bipush (pc := 151) (v := (36 : Int32)) hx hb d_Mod_create_151 (by decide) ?_
        refine lv_iload (pc := 153) hx hb d_Mod_create_153 (lv_at hl 5 rfl) ?_
        refine lv_imul (pc := 155) hx hb d_Mod_create_155 ?_
        refine lv_iconst (pc := 156) (v := (2 : Int32)) hx hb d_Mod_create_156 (by decide) ?_
        refine lv_iadd (pc := 157) hx hb d_Mod_create_157 ?_
        refine lv_iload (pc := 158) hx hb d_Mod_create_158 (lv_at hl 4 rfl) ?_
        obtain ⟨g2, h⟩ := gx_if h
        obtain ⟨V1, g3, h⟩ := gx_lt h
        refine gx_asi (pc := 160) hx hb hK hP hS (x0 + 1) 0 (mx_lt (to_Mod_now hk_x0) (by decide)) (fun _ => mh_arr cI cZ b (n := 576) (to_Mod_now hk_x0) (by decide) _) rfl g2 d_Mod_create_160 g3 (fun H locs hP hS => ?_)
        refine lv_aload_n (pc := 161) hx hb d_Mod_create_161 rfl (lv_at hl 0 rfl) ?_
        refine va_get (pc := 162) (D := (dC, dI)) (ci := 6) (C := R_Mod) (T := T_Mod) (N := 39) hx hb hts in_Mod hown hK hP x0 (gx_at (mx_lt hk_x0 (by decide)) (sh_Mod cI cZ b hk_x0 _)) rfl 0 (by decide) (hts _ tb_601) (fun _ h9 => h9) rfl d_Mod_create_162 ?_
        refine lv_bipush (pc := 165) (v := (36 : Int32)) hx hb d_Mod_create_165 (by decide) ?_
        refine lv_iload (pc := 167) hx hb d_Mod_create_167 (lv_at hl 5 rfl) ?_
        refine lv_imul (pc := 169) hx hb d_Mod_create_169 ?_
        refine lv_iconst (pc := 170) (v := (1 : Int32)) hx hb d_Mod_create_170 (by decide) ?_
        refine lv_iadd (pc := 171) hx hb d_Mod_create_171 ?_
        refine lv_iconst (pc := 172) (v := (1 : Int32)) hx hb d_Mod_create_172 (by decide) ?_
        obtain ⟨g4, h⟩ := gx_if h
        obtain ⟨V2, g5, h⟩ := gx_lt h
        refine gx_asi (pc := 173) hx hb hK hP hS (x0 + 1) 0 (mx_lt (to_Mod_now hk_x0) (by decide)) (fun _ => mh_arr cI cZ b (n := 576) (to_Mod_now hk_x0) (by decide) _) rfl g4 d_Mod_create_173 g5 (fun H locs hP hS => ?_)
        refine lv_aload_n (pc := 174) hx hb d_Mod_create_174 rfl (lv_at hl 0 rfl) ?_
        refine lv_iload_n (pc := 175) hx hb d_Mod_create_175 rfl (lv_at hl 1 rfl) ?_
        refine lv_iload (pc := 176) hx hb d_Mod_create_176 (lv_at hl 5 rfl) ?_
        refine lv_iload_n (pc := 178) hx hb d_Mod_create_178 rfl (lv_at hl 2 rfl) ?_
        obtain ⟨q1, g6, h⟩ := gx_bd h
        refine gx_cv (pc := 179) (va_runV (C := "GasLedgerModel") (As := [.int x1, .int x5, .int x2]) (rest := []) ⟨hx, hb, hml, hown, hts⟩ (k_Mod_give l dC dI cI cR cZ b tP tN hk_x0 g6) (gx_cw 3 hts cd_Mod_give tb_50 tb_780 tb_782 tb_27 rfl rfl ⟨by decide, by decide, by decide +kernel⟩ ⟨Nat.le_of_ble_eq_true rfl, Nat.le_of_ble_eq_true rfl⟩) (gy_preV (mx_XX b) hX hK hP hS (mx_lt hk_x0 (by decide)) (sh_Mod cI cZ b hk_x0 _) rfl) rfl rfl hl.1 rfl (lv_room (Nat.le_of_ble_eq_true rfl)) d_Mod_create_179 ⟨Nat.zero_le _, Nat.zero_le _⟩) hS (fun H locs hP hS => ?_)
        refine lv_aload_n (pc := 182) hx hb d_Mod_create_182 rfl (lv_at hl 0 rfl) ?_
        refine lv_iload (pc := 183) hx hb d_Mod_create_183 (lv_at hl 5 rfl) ?_
        obtain ⟨q2, g7, h⟩ := gx_bd h
        refine gx_cv (pc := 185) (va_runV (C := "GasLedgerModel") (As := [.int x5]) (rest := []) ⟨hx, hb, hml, hown, hts⟩ (k_Mod_push l dC dI cI cR cZ b tP tN hk_x0 g7) (gx_cw 1 hts cd_Mod_push tb_50 tb_793 tb_795 tb_30 rfl rfl ⟨by decide, by decide, by decide +kernel⟩ ⟨Nat.le_of_ble_eq_true rfl, Nat.le_of_ble_eq_true rfl⟩) (gy_preV (mx_XX b) hX hK hP hS (mx_lt hk_x0 (by decide)) (sh_Mod cI cZ b hk_x0 _) rfl) rfl rfl hl.1 rfl (lv_room (Nat.le_of_ble_eq_true rfl)) d_Mod_create_185 ⟨Nat.zero_le _, Nat.zero_le _⟩) hS (fun H locs hP hS => ?_)
        exact gx_vret hx hb hr hlk hP hS d_Mod_create_188 (by cases h; rfl) (by cases h; rfl)
      · have h := gx_neg g1 h
        refine lv_aload_n (pc := 102) hx hb d_Mod_create_102 rfl (lv_at hl 0 rfl) ?_
        refine va_get (pc := 103) (D := (dC, dI)) (ci := 6) (C := R_Mod) (T := T_Mod) (N := 39) hx hb hts in_Mod hown hK hP x0 (gx_at (mx_lt hk_x0 (by decide)) (sh_Mod cI cZ b hk_x0 _)) rfl 0 (by decide) (hts _ tb_601) (fun _ h9 => h9) rfl d_Mod_create_103 ?_
        refine lv_bipush (pc := 106) (v := (36 : Int32)) hx hb d_Mod_create_106 (by decide) ?_
        refine lv_iload (pc := 108) hx hb d_Mod_create_108 (lv_at hl 5 rfl) ?_
        refine lv_imul (pc := 110) hx hb d_Mod_create_110 ?_
        refine lv_iconst (pc := 111) (v := (3 : Int32)) hx hb d_Mod_create_111 (by decide) ?_
        refine lv_iadd (pc := 112) hx hb d_Mod_create_112 ?_
        refine lv_iload (pc := 113) hx hb d_Mod_create_113 (lv_at hl 6 rfl) ?_
        refine lv_iadd (pc := 115) hx hb d_Mod_create_115 ?_
        refine lv_aload_n (pc := 116) hx hb d_Mod_create_116 rfl (lv_at hl 0 rfl) ?_
        refine va_get (pc := 117) (D := (dC, dI)) (ci := 6) (C := R_Mod) (T := T_Mod) (N := 39) hx hb hts in_Mod hown hK hP x0 (gx_at (mx_lt hk_x0 (by decide)) (sh_Mod cI cZ b hk_x0 _)) rfl 0 (by decide) (hts _ tb_601) (fun _ h9 => h9) rfl d_Mod_create_117 ?_
        refine lv_bipush (pc := 120) (v := (36 : Int32)) hx hb d_Mod_create_120 (by decide) ?_
        refine lv_aload_n (pc := 122) hx hb d_Mod_create_122 rfl (lv_at hl 0 rfl) ?_
        refine va_get (pc := 123) (D := (dC, dI)) (ci := 6) (C := R_Mod) (T := T_Mod) (N := 39) hx hb hts in_Mod hown hK hP x0 (gx_at (mx_lt hk_x0 (by decide)) (sh_Mod cI cZ b hk_x0 _)) rfl 21 (by decide) (hts _ tb_622) (fun _ h9 => h9) rfl d_Mod_create_123 ?_
        refine lv_aload_n (pc := 126) hx hb d_Mod_create_126 rfl (lv_at hl 0 rfl) ?_
        refine va_get (pc := 127) (D := (dC, dI)) (ci := 6) (C := R_Mod) (T := T_Mod) (N := 39) hx hb hts in_Mod hown hK hP x0 (gx_at (mx_lt hk_x0 (by decide)) (sh_Mod cI cZ b hk_x0 _)) rfl 19 (by decide) (hts _ tb_620) (fun _ h9 => h9) rfl d_Mod_create_127 ?_
        obtain ⟨g8, h⟩ := gx_if h
        refine va_iald (pc := 130) hx hb hK hP (x0 + 7) 0 (gx_at (mx_lt (to_Mod_runs hk_x0) (by decide)) (mh_arr cI cZ b (n := 8) (to_Mod_runs hk_x0) (by decide) _)) rfl g8 d_Mod_create_130 ?_
        refine lv_imul (pc := 131) hx hb d_Mod_create_131 ?_
        refine lv_iconst (pc := 132) (v := (3 : Int32)) hx hb d_Mod_create_132 (by decide) ?_
        refine lv_iadd (pc := 133) hx hb d_Mod_create_133 ?_
        refine lv_iload_n (pc := 134) hx hb d_Mod_create_134 rfl (lv_at hl 3 rfl) ?_
        refine lv_iadd (pc := 135) hx hb d_Mod_create_135 ?_
        refine lv_iload (pc := 136) hx hb d_Mod_create_136 (lv_at hl 6 rfl) ?_
        refine lv_iadd (pc := 138) hx hb d_Mod_create_138 ?_
        obtain ⟨g9, h⟩ := gx_if h
        refine va_iald (pc := 139) hx hb hK hP (x0 + 1) 0 (gx_at (mx_lt (to_Mod_now hk_x0) (by decide)) (mh_arr cI cZ b (n := 576) (to_Mod_now hk_x0) (by decide) _)) rfl g9 d_Mod_create_139 ?_
        obtain ⟨g10, h⟩ := gx_if h
        obtain ⟨V3, g11, h⟩ := gx_lt h
        refine gx_asi (pc := 140) hx hb hK hP hS (x0 + 1) 0 (mx_lt (to_Mod_now hk_x0) (by decide)) (fun _ => mh_arr cI cZ b (n := 576) (to_Mod_now hk_x0) (by decide) _) rfl g10 d_Mod_create_140 g11 (fun H locs hP hS => ?_)
        refine lv_iinc (pc := 141) (k := 6) (lv' := [(6, .int (x6 + (1 : Int32))), (0, .ref (b + x0)), (1, .int x1), (2, .int x2), (3, .int x3), (4, .int x4), (5, .int x5)]) hx hb d_Mod_create_141 hl rfl (gx_inc (by decide)) (by decide) rfl (fun ls hl => ?_)
        refine lv_goto (pc := 144) (tgt := 95) hx hb d_Mod_create_144 (by decide) ?_
        exact ihl _ _ _ _ _ _ _ hk_x0 _ _ _ _ (lv_sub hl [1, 2, 3, 4, 5, 6, 0] rfl) hP hS h
  have B_51 : ∀ (x0 : Nat) (x1 : Int32) (x2 : Int32) (x3 : Int32) (x4 : Int32) (x5 : Int32), mx_kd x0 = 6 → ∀ (V : gx_M) (H : Heap) (locs : List Loc) (ls : Array Slot), lv_has ls 7 [(0, .ref (b + x0)), (1, .int x1), (2, .int x2), (3, .int x3), (4, .int x4), (5, .int x5)] → va_P (dC, dI) cx_cl (gx_w b 22 (gx_v (mx_sh cI cZ b) V)) H → va_S (gx_A b 22) s.heap H locs → F_Mod_create_51 x0 x1 x2 x3 x4 x5 V = some q → W p l e (headSpec w_Mod_create rm_Mod_create).room s m args below meth c H locs 0 0 (MQ below (gx_Q (dC, dI) cx_cl b 22 (mx_sh cI cZ b) none q) args s 0 0 (gx_A b 22)) (F0 m 51 ls []) := by
    intro x0 x1 x2 x3 x4 x5 hk_x0 V H locs ls hl hP hS h
    unfold F_Mod_create_51 at h
    refine lv_aload_n (pc := 51) hx hb d_Mod_create_51 rfl (lv_at hl 0 rfl) ?_
    refine va_get (pc := 52) (D := (dC, dI)) (ci := 6) (C := R_Mod) (T := T_Mod) (N := 39) hx hb hts in_Mod hown hK hP x0 (gx_at (mx_lt hk_x0 (by decide)) (sh_Mod cI cZ b hk_x0 _)) rfl 0 (by decide) (hts _ tb_601) (fun _ h9 => h9) rfl d_Mod_create_52 ?_
    refine lv_bipush (pc := 55) (v := (36 : Int32)) hx hb d_Mod_create_55 (by decide) ?_
    refine lv_iload_n (pc := 57) hx hb d_Mod_create_57 rfl (lv_at hl 1 rfl) ?_
    refine lv_imul (pc := 58) hx hb d_Mod_create_58 ?_
    obtain ⟨g12, h⟩ := gx_if h
    refine va_iald (pc := 59) hx hb hK hP (x0 + 1) 0 (gx_at (mx_lt (to_Mod_now hk_x0) (by decide)) (mh_arr cI cZ b (n := 576) (to_Mod_now hk_x0) (by decide) _)) rfl g12 d_Mod_create_59 ?_
    refine lv_iload_n (pc := 60) hx hb d_Mod_create_60 rfl (lv_at hl 2 rfl) ?_
    refine lv_icmp_lt (pc := 61) (tgt := 71) hx hb d_Mod_create_61 (by decide) (fun g13 => ?_) (fun g13 => ?_)
    · have h := gx_pos g13 h
      refine lv_aload_n (pc := 71) hx hb d_Mod_create_71 rfl (lv_at hl 0 rfl) ?_
      refine lv_iconst (pc := 72) (v := (-1 : Int32)) hx hb d_Mod_create_72 (by decide) ?_
      obtain ⟨q3, g14, h⟩ := gx_bd h
      refine gx_cv (pc := 73) (va_runV (C := "GasLedgerModel") (As := [.int (-1 : Int32)]) (rest := []) ⟨hx, hb, hml, hown, hts⟩ (k_Mod_push l dC dI cI cR cZ b tP tN hk_x0 g14) (gx_cw 1 hts cd_Mod_push tb_50 tb_793 tb_795 tb_30 rfl rfl ⟨by decide, by decide, by decide +kernel⟩ ⟨Nat.le_of_ble_eq_true rfl, Nat.le_of_ble_eq_true rfl⟩) (gy_preV (mx_XX b) hX hK hP hS (mx_lt hk_x0 (by decide)) (sh_Mod cI cZ b hk_x0 _) rfl) rfl rfl hl.1 rfl (lv_room (Nat.le_of_ble_eq_true rfl)) d_Mod_create_73 ⟨Nat.zero_le _, Nat.zero_le _⟩) hS (fun H locs hP hS => ?_)
      exact gx_vret hx hb hr hlk hP hS d_Mod_create_76 (by cases h; rfl) (by cases h; rfl)
    · have h := gx_neg g13 h
      refine lv_iload (pc := 64) hx hb d_Mod_create_64 (lv_at hl 5 rfl) ?_
      refine lv_bipush (pc := 66) (v := (16 : Int32)) hx hb d_Mod_create_66 (by decide) ?_
      refine lv_icmp_ne (pc := 68) (tgt := 77) hx hb d_Mod_create_68 (by decide) (fun g15 => ?_) (fun g15 => ?_)
      · have h := gx_neg g15 h
        refine lv_aload_n (pc := 77) hx hb d_Mod_create_77 rfl (lv_at hl 0 rfl) ?_
        refine va_get (pc := 78) (D := (dC, dI)) (ci := 6) (C := R_Mod) (T := T_Mod) (N := 39) hx hb hts in_Mod hown hK hP x0 (gx_at (mx_lt hk_x0 (by decide)) (sh_Mod cI cZ b hk_x0 _)) rfl 0 (by decide) (hts _ tb_601) (fun _ h9 => h9) rfl d_Mod_create_78 ?_
        refine lv_bipush (pc := 81) (v := (36 : Int32)) hx hb d_Mod_create_81 (by decide) ?_
        refine lv_iload_n (pc := 83) hx hb d_Mod_create_83 rfl (lv_at hl 1 rfl) ?_
        refine lv_imul (pc := 84) hx hb d_Mod_create_84 ?_
        refine lv_iconst (pc := 85) (v := (1 : Int32)) hx hb d_Mod_create_85 (by decide) ?_
        refine lv_iadd (pc := 86) hx hb d_Mod_create_86 ?_
        refine lv_dup2_11 (pc := 87) hx hb d_Mod_create_87 rfl rfl ?_
        obtain ⟨g16, h⟩ := gx_if h
        refine va_iald (pc := 88) hx hb hK hP (x0 + 1) 0 (gx_at (mx_lt (to_Mod_now hk_x0) (by decide)) (mh_arr cI cZ b (n := 576) (to_Mod_now hk_x0) (by decide) _)) rfl g16 d_Mod_create_88 ?_
        refine lv_iconst (pc := 89) (v := (1 : Int32)) hx hb d_Mod_create_89 (by decide) ?_
        refine lv_iadd (pc := 90) hx hb d_Mod_create_90 ?_
        obtain ⟨g17, h⟩ := gx_if h
        obtain ⟨V4, g18, h⟩ := gx_lt h
        refine gx_asi (pc := 91) hx hb hK hP hS (x0 + 1) 0 (mx_lt (to_Mod_now hk_x0) (by decide)) (fun _ => mh_arr cI cZ b (n := 576) (to_Mod_now hk_x0) (by decide) _) rfl g17 d_Mod_create_91 g18 (fun H locs hP hS => ?_)
        refine lv_iconst (pc := 92) (v := (0 : Int32)) hx hb d_Mod_create_92 (by decide) ?_
        refine lv_istore (pc := 93) (lv' := [(6, .int (0 : Int32)), (0, .ref (b + x0)), (1, .int x1), (2, .int x2), (3, .int x3), (4, .int x4), (5, .int x5)]) hx hb d_Mod_create_93 hl (by decide) rfl (fun ls hl => ?_)
        exact B_95 100  _ _ _ _ _ _ _ hk_x0 _ _ _ _ (lv_sub hl [1, 2, 3, 4, 5, 6, 0] rfl) hP hS h
      · have h := gx_pos g15 h
        refine lv_aload_n (pc := 71) hx hb d_Mod_create_71 rfl (lv_at hl 0 rfl) ?_
        refine lv_iconst (pc := 72) (v := (-1 : Int32)) hx hb d_Mod_create_72 (by decide) ?_
        obtain ⟨q4, g19, h⟩ := gx_bd h
        refine gx_cv (pc := 73) (va_runV (C := "GasLedgerModel") (As := [.int (-1 : Int32)]) (rest := []) ⟨hx, hb, hml, hown, hts⟩ (k_Mod_push l dC dI cI cR cZ b tP tN hk_x0 g19) (gx_cw 1 hts cd_Mod_push tb_50 tb_793 tb_795 tb_30 rfl rfl ⟨by decide, by decide, by decide +kernel⟩ ⟨Nat.le_of_ble_eq_true rfl, Nat.le_of_ble_eq_true rfl⟩) (gy_preV (mx_XX b) hX hK hP hS (mx_lt hk_x0 (by decide)) (sh_Mod cI cZ b hk_x0 _) rfl) rfl rfl hl.1 rfl (lv_room (Nat.le_of_ble_eq_true rfl)) d_Mod_create_73 ⟨Nat.zero_le _, Nat.zero_le _⟩) hS (fun H locs hP hS => ?_)
        exact gx_vret hx hb hr hlk hP hS d_Mod_create_76 (by cases h; rfl) (by cases h; rfl)
  have B_29 : ∀ (nf : Nat), ∀ (x0 : Nat) (x1 : Int32) (x2 : Int32) (x3 : Int32) (x4 : Int32) (x5 : Int32), mx_kd x0 = 6 → ∀ (V : gx_M) (H : Heap) (locs : List Loc) (ls : Array Slot), lv_has ls 7 [(0, .ref (b + x0)), (1, .int x1), (2, .int x2), (3, .int x3), (4, .int x4), (5, .int x5)] → va_P (dC, dI) cx_cl (gx_w b 22 (gx_v (mx_sh cI cZ b) V)) H → va_S (gx_A b 22) s.heap H locs → F_Mod_create_29 nf x0 x1 x2 x3 x4 x5 V = some q → W p l e (headSpec w_Mod_create rm_Mod_create).room s m args below meth c H locs 0 0 (MQ below (gx_Q (dC, dI) cx_cl b 22 (mx_sh cI cZ b) none q) args s 0 0 (gx_A b 22)) (F0 m 29 ls []) := by
    intro nf
    induction nf with
    | zero => intro x0 x1 x2 x3 x4 x5 hk_x0 V H locs ls hl hP hS h; cases h
    | succ nf ihl =>
      intro x0 x1 x2 x3 x4 x5 hk_x0 V H locs ls hl hP hS h
      rw [F_Mod_create_29] at h
      refine lv_iload (pc := 29) hx hb d_Mod_create_29 (lv_at hl 5 rfl) ?_
      refine lv_bipush (pc := 31) (v := (16 : Int32)) hx hb d_Mod_create_31 (by decide) ?_
      refine lv_icmp_ge (pc := 33) (tgt := 51) hx hb d_Mod_create_33 (by decide) (fun g20 => ?_) (fun g20 => ?_)
      · have h := gx_pos g20 h
        exact B_51   _ _ _ _ _ _ hk_x0 _ _ _ _ (lv_sub hl [0, 1, 2, 3, 4, 5] rfl) hP hS h
      · have h := gx_neg g20 h
        refine lv_aload_n (pc := 36) hx hb d_Mod_create_36 rfl (lv_at hl 0 rfl) ?_
        refine lv_iload (pc := 37) hx hb d_Mod_create_37 (lv_at hl 5 rfl) ?_
        obtain ⟨q5, g21, h⟩ := gx_bd h
        refine gx_ci (pc := 39) (va_runV (C := "GasLedgerModel") (As := [.int x5]) (rest := []) ⟨hx, hb, hml, hown, hts⟩ (k_Mod_empty l dC dI cI cR cZ b tP tN hk_x0 g21) (gx_cw 1 hts cd_Mod_empty tb_50 tb_760 tb_762 tb_24 rfl rfl ⟨by decide, by decide, by decide +kernel⟩ ⟨Nat.le_of_ble_eq_true rfl, Nat.le_of_ble_eq_true rfl⟩) (gy_preV (mx_XX b) hX hK hP hS (mx_lt hk_x0 (by decide)) (sh_Mod cI cZ b hk_x0 _) rfl) rfl rfl hl.1 rfl (lv_room (Nat.le_of_ble_eq_true rfl)) d_Mod_create_39 ⟨Nat.zero_le _, Nat.zero_le _⟩) hS (fun H locs hP hS => ?_)
        refine lv_if_ne (pc := 42) (tgt := 51) hx hb d_Mod_create_42 (by decide) (fun g22 => ?_) (fun g22 => ?_)
        · have h := gx_neg g22 h
          exact B_51   _ _ _ _ _ _ hk_x0 _ _ _ _ (lv_sub hl [0, 1, 2, 3, 4, 5] rfl) hP hS h
        · have h := gx_pos g22 h
          refine lv_iinc (pc := 45) (k := 5) (lv' := [(5, .int (x5 + (1 : Int32))), (0, .ref (b + x0)), (1, .int x1), (2, .int x2), (3, .int x3), (4, .int x4)]) hx hb d_Mod_create_45 hl rfl (gx_inc (by decide)) (by decide) rfl (fun ls hl => ?_)
          refine lv_goto (pc := 48) (tgt := 29) hx hb d_Mod_create_48 (by decide) ?_
          exact ihl _ _ _ _ _ _ hk_x0 _ _ _ _ (lv_sub hl [1, 2, 3, 4, 5, 0] rfl) hP hS h
  unfold F_Mod_create at h
  refine lv_aload_n (pc := 0) hx hb d_Mod_create_0 rfl (lv_at hl 0 rfl) ?_
  refine va_get (pc := 1) (D := (dC, dI)) (ci := 6) (C := R_Mod) (T := T_Mod) (N := 39) hx hb hts in_Mod hown hK hP x0 (gx_at (mx_lt hk0 (by decide)) (sh_Mod cI cZ b hk0 _)) rfl 20 (by decide) (hts _ tb_621) (fun _ h9 => h9) rfl d_Mod_create_1 ?_
  refine lv_aload_n (pc := 4) hx hb d_Mod_create_4 rfl (lv_at hl 0 rfl) ?_
  refine va_get (pc := 5) (D := (dC, dI)) (ci := 6) (C := R_Mod) (T := T_Mod) (N := 39) hx hb hts in_Mod hown hK hP x0 (gx_at (mx_lt hk0 (by decide)) (sh_Mod cI cZ b hk0 _)) rfl 19 (by decide) (hts _ tb_620) (fun _ h9 => h9) rfl d_Mod_create_5 ?_
  obtain ⟨g23, h⟩ := gx_if h
  refine va_iald (pc := 8) hx hb hK hP (x0 + 6) 0 (gx_at (mx_lt (to_Mod_self hk0) (by decide)) (mh_arr cI cZ b (n := 8) (to_Mod_self hk0) (by decide) _)) rfl g23 d_Mod_create_8 ?_
  refine lv_istore_n (pc := 9) (lv' := [(1, .int (V (x0 + 6) (V x0 19).toNatClampNeg)), (0, .ref (b + x0))]) hx hb d_Mod_create_9 rfl hl (by decide) rfl (fun ls hl => ?_)
  refine lv_aload_n (pc := 10) hx hb d_Mod_create_10 rfl (lv_at hl 1 rfl) ?_
  obtain ⟨q6, g24, h⟩ := gx_bd h
  refine gx_ci (pc := 11) (va_runV (C := "GasLedgerModel") (As := []) (rest := []) ⟨hx, hb, hml, hown, hts⟩ (k_Mod_pop l dC dI cI cR cZ b tP tN hk0 g24) (gx_cw 0 hts cd_Mod_pop tb_50 tb_819 tb_821 tb_35 rfl rfl ⟨by decide, by decide, by decide +kernel⟩ ⟨Nat.le_of_ble_eq_true rfl, Nat.le_of_ble_eq_true rfl⟩) (gy_preV (mx_XX b) hX hK hP hS (mx_lt hk0 (by decide)) (sh_Mod cI cZ b hk0 _) rfl) rfl rfl hl.1 rfl (lv_room (Nat.le_of_ble_eq_true rfl)) d_Mod_create_11 ⟨Nat.zero_le _, Nat.zero_le _⟩) hS (fun H locs hP hS => ?_)
  refine lv_istore_n (pc := 14) (lv' := [(2, .int q6.1), (1, .int (V (x0 + 6) (V x0 19).toNatClampNeg)), (0, .ref (b + x0))]) hx hb d_Mod_create_14 rfl hl (by decide) rfl (fun ls hl => ?_)
  refine lv_aload_n (pc := 15) hx hb d_Mod_create_15 rfl (lv_at hl 2 rfl) ?_
  obtain ⟨q7, g25, h⟩ := gx_bd h
  refine gx_ci (pc := 16) (va_runV (C := "GasLedgerModel") (As := []) (rest := []) ⟨hx, hb, hml, hown, hts⟩ (k_Mod_pop l dC dI cI cR cZ b tP tN hk0 g25) (gx_cw 0 hts cd_Mod_pop tb_50 tb_819 tb_821 tb_35 rfl rfl ⟨by decide, by decide, by decide +kernel⟩ ⟨Nat.le_of_ble_eq_true rfl, Nat.le_of_ble_eq_true rfl⟩) (gy_preV (mx_XX b) hX hK hP hS (mx_lt hk0 (by decide)) (sh_Mod cI cZ b hk0 _) rfl) rfl rfl hl.1 rfl (lv_room (Nat.le_of_ble_eq_true rfl)) d_Mod_create_16 ⟨Nat.zero_le _, Nat.zero_le _⟩) hS (fun H locs hP hS => ?_)
  refine lv_istore_n (pc := 19) (lv' := [(3, .int q7.1), (2, .int q6.1), (1, .int (V (x0 + 6) (V x0 19).toNatClampNeg)), (0, .ref (b + x0))]) hx hb d_Mod_create_19 rfl hl (by decide) rfl (fun ls hl => ?_)
  refine lv_aload_n (pc := 20) hx hb d_Mod_create_20 rfl (lv_at hl 3 rfl) ?_
  obtain ⟨q8, g26, h⟩ := gx_bd h
  refine gx_ci (pc := 21) (va_runV (C := "GasLedgerModel") (As := []) (rest := []) ⟨hx, hb, hml, hown, hts⟩ (k_Mod_pop l dC dI cI cR cZ b tP tN hk0 g26) (gx_cw 0 hts cd_Mod_pop tb_50 tb_819 tb_821 tb_35 rfl rfl ⟨by decide, by decide, by decide +kernel⟩ ⟨Nat.le_of_ble_eq_true rfl, Nat.le_of_ble_eq_true rfl⟩) (gy_preV (mx_XX b) hX hK hP hS (mx_lt hk0 (by decide)) (sh_Mod cI cZ b hk0 _) rfl) rfl rfl hl.1 rfl (lv_room (Nat.le_of_ble_eq_true rfl)) d_Mod_create_21 ⟨Nat.zero_le _, Nat.zero_le _⟩) hS (fun H locs hP hS => ?_)
  refine lv_istore (pc := 24) (lv' := [(4, .int q8.1), (3, .int q7.1), (2, .int q6.1), (1, .int (V (x0 + 6) (V x0 19).toNatClampNeg)), (0, .ref (b + x0))]) hx hb d_Mod_create_24 hl (by decide) rfl (fun ls hl => ?_)
  refine lv_iconst (pc := 26) (v := (0 : Int32)) hx hb d_Mod_create_26 (by decide) ?_
  refine lv_istore (pc := 27) (lv' := [(5, .int (0 : Int32)), (4, .int q8.1), (3, .int q7.1), (2, .int q6.1), (1, .int (V (x0 + 6) (V x0 19).toNatClampNeg)), (0, .ref (b + x0))]) hx hb d_Mod_create_27 hl (by decide) rfl (fun ls hl => ?_)
  exact B_29 100  _ _ _ _ _ _ hk0 _ _ _ _ (lv_sub hl [5, 4, 3, 2, 1, 0] rfl) hP hS h
abbrev rm_Mod_act : Room := { frames := 2, cells := 0, slots := 0, locals := 54 }
def F_Mod_act_107 (x0 : Nat) (x1 : Int32) (V : gx_M) : Option gx_M := ((F_Mod_pop x0 V).bind fun q1 => (if x1 = (26 : Int32) then (if gx_ib (q1.2 x0 19) 8 then ((F_Mod_leave x0 (1 : Int32) q1.1 (q1.2 (x0 + 12) (q1.2 x0 19).toNatClampNeg) q1.2).bind fun q3 => some q3) else none) else (if gx_ib (q1.2 x0 19) 8 then ((F_Mod_leave x0 (0 : Int32) q1.1 (q1.2 (x0 + 12) (q1.2 x0 19).toNatClampNeg) q1.2).bind fun q2 => some q2) else none)))
def F_Mod_act_22 (x0 : Nat) (x1 : Int32) (V : gx_M) : Option gx_M := (if x1 = (22 : Int32) then ((F_Mod_call x0 (1 : Int32) V).bind fun q5 => some q5) else ((F_Mod_call x0 (0 : Int32) V).bind fun q4 => some q4))
def F_Mod_act (x0 : Nat) (x1 : Int32) (V : gx_M) : Option gx_M := (if gx_ib (V x0 19) 8 then (if x1 = (22 : Int32) then (F_Mod_act_22   x0 x1 V) else (if x1 = (23 : Int32) then (F_Mod_act_22   x0 x1 V) else (if x1 = (24 : Int32) then ((F_Mod_create x0 V).bind fun q10 => some q10) else (if x1 = (25 : Int32) then (if gx_ib (V x0 13) 512 then (gx_let (gx_u V (x0 + 4) (V x0 13).toNatClampNeg (V (x0 + 6) (V x0 19).toNatClampNeg)) fun V2 => ((F_Mod_pop x0 V2).bind fun q9 => (if gx_ib (V2 x0 13) 512 then (gx_let (gx_u q9.2 (x0 + 5) (V2 x0 13).toNatClampNeg q9.1) fun V3 => (gx_let (gx_u V3 x0 13 ((V3 x0 13) + (1 : Int32))) fun V4 => some V4)) else none))) else none) else (if x1 = (26 : Int32) then (F_Mod_act_107   x0 x1 V) else (if x1 = (27 : Int32) then (F_Mod_act_107   x0 x1 V) else ((F_Mod_pop x0 V).bind fun q6 => (if gx_ib ((36 : Int32) * (V (x0 + 6) (V x0 19).toNatClampNeg)) 576 then ((F_Mod_give x0 (V (x0 + 6) (V x0 19).toNatClampNeg) q6.1 (q6.2 (x0 + 1) ((36 : Int32) * (V (x0 + 6) (V x0 19).toNatClampNeg)).toNatClampNeg) q6.2).bind fun q7 => (if gx_ib (((36 : Int32) * (V (x0 + 6) (V x0 19).toNatClampNeg)) + (35 : Int32)) 576 then (gx_let (gx_u q7 (x0 + 1) (((36 : Int32) * (V (x0 + 6) (V x0 19).toNatClampNeg)) + (35 : Int32)).toNatClampNeg (1 : Int32)) fun V1 => (if gx_ib (V1 x0 19) 8 then ((F_Mod_leave x0 (1 : Int32) (0 : Int32) (V1 (x0 + 12) (V1 x0 19).toNatClampNeg) V1).bind fun q8 => some q8) else none)) else none)) else none)))))))) else none)
set_option maxRecDepth 100000 in
set_option maxHeartbeats 8000000 in
theorem k_Mod_act (l : Launch) (dC : Nat → ClassId) (dI : Nat → Nat → Nat) (cI cR cZ : ClassId) (b tP tN : Nat) {x0 : Nat} {x1 : Int32} {V : gx_M} {q : gx_M} (hk0 : mx_kd x0 = 6) (h : F_Mod_act x0 x1 V = some q) : mx_C l dC dI cI cR cZ b tP tN y_Mod_act w_Mod_act rm_Mod_act [.ref (b + x0), .int x1] V none q := by
  refine gx_start (cc := b_Mod_act) (maxL := 4) (ret := rt_Mod_act) (by decide) rfl (Nat.le_of_ble_eq_true rfl) ?_
  intro p e s m args below meth c ls hx hb hr hts hown hlk hml hl hP hK hX hS
  have hts : ∀ w ∈ cx_tb, w.before args s = true := fun w hw => hts w (List.mem_cons_of_mem _ hw)
  have hown : s.vm.findClass "GasLedgerModel" = some m.cls := hown
  have hl : lv_has ls 4 [(0, .ref (b + x0)), (1, .int x1)] := hl
  have B_107 : ∀ (x0 : Nat) (x1 : Int32), mx_kd x0 = 6 → ∀ (V : gx_M) (H : Heap) (locs : List Loc) (ls : Array Slot), lv_has ls 4 [(0, .ref (b + x0)), (1, .int x1)] → va_P (dC, dI) cx_cl (gx_w b 22 (gx_v (mx_sh cI cZ b) V)) H → va_S (gx_A b 22) s.heap H locs → F_Mod_act_107 x0 x1 V = some q → W p l e (headSpec w_Mod_act rm_Mod_act).room s m args below meth c H locs 0 0 (MQ below (gx_Q (dC, dI) cx_cl b 22 (mx_sh cI cZ b) none q) args s 0 0 (gx_A b 22)) (F0 m 107 ls []) := by
    intro x0 x1 hk_x0 V H locs ls hl hP hS h
    unfold F_Mod_act_107 at h
    refine lv_aload_n (pc := 107) hx hb d_Mod_act_107 rfl (lv_at hl 0 rfl) ?_
    obtain ⟨q1, g1, h⟩ := gx_bd h
    refine gx_ci (pc := 108) (va_runV (C := "GasLedgerModel") (As := []) (rest := []) ⟨hx, hb, hml, hown, hts⟩ (k_Mod_pop l dC dI cI cR cZ b tP tN hk_x0 g1) (gx_cw 0 hts cd_Mod_pop tb_50 tb_819 tb_821 tb_35 rfl rfl ⟨by decide, by decide, by decide +kernel⟩ ⟨Nat.le_of_ble_eq_true rfl, Nat.le_of_ble_eq_true rfl⟩) (gy_preV (mx_XX b) hX hK hP hS (mx_lt hk_x0 (by decide)) (sh_Mod cI cZ b hk_x0 _) rfl) rfl rfl hl.1 rfl (lv_room (Nat.le_of_ble_eq_true rfl)) d_Mod_act_108 ⟨Nat.zero_le _, Nat.zero_le _⟩) hS (fun H locs hP hS => ?_)
    refine lv_istore_n (pc := 111) (lv' := [(3, .int q1.1), (0, .ref (b + x0)), (1, .int x1)]) hx hb d_Mod_act_111 rfl hl (by decide) rfl (fun ls hl => ?_)
    refine lv_aload_n (pc := 112) hx hb d_Mod_act_112 rfl (lv_at hl 1 rfl) ?_
    refine lv_iload_n (pc := 113) hx hb d_Mod_act_113 rfl (lv_at hl 2 rfl) ?_
    refine lv_bipush (pc := 114) (v := (26 : Int32)) hx hb d_Mod_act_114 (by decide) ?_
    refine lv_icmp_ne (pc := 116) (tgt := 123) hx hb d_Mod_act_116 (by decide) (fun g2 => ?_) (fun g2 => ?_)
    · have h := gx_neg g2 h
      refine lv_iconst (pc := 123) (v := (0 : Int32)) hx hb d_Mod_act_123 (by decide) ?_
      refine lv_iload_n (pc := 124) hx hb d_Mod_act_124 rfl (lv_at hl 0 rfl) ?_
      refine lv_aload_n (pc := 125) hx hb d_Mod_act_125 rfl (lv_at hl 1 rfl) ?_
      refine va_get (pc := 126) (D := (dC, dI)) (ci := 6) (C := R_Mod) (T := T_Mod) (N := 39) hx hb hts in_Mod hown hK hP x0 (gx_at (mx_lt hk_x0 (by decide)) (sh_Mod cI cZ b hk_x0 _)) rfl 26 (by decide) (hts _ tb_627) (fun _ h9 => h9) rfl d_Mod_act_126 ?_
      refine lv_aload_n (pc := 129) hx hb d_Mod_act_129 rfl (lv_at hl 1 rfl) ?_
      refine va_get (pc := 130) (D := (dC, dI)) (ci := 6) (C := R_Mod) (T := T_Mod) (N := 39) hx hb hts in_Mod hown hK hP x0 (gx_at (mx_lt hk_x0 (by decide)) (sh_Mod cI cZ b hk_x0 _)) rfl 19 (by decide) (hts _ tb_620) (fun _ h9 => h9) rfl d_Mod_act_130 ?_
      obtain ⟨g3, h⟩ := gx_if h
      refine va_iald (pc := 133) hx hb hK hP (x0 + 12) 0 (gx_at (mx_lt (to_Mod_gas hk_x0) (by decide)) (mh_arr cI cZ b (n := 8) (to_Mod_gas hk_x0) (by decide) _)) rfl g3 d_Mod_act_133 ?_
      obtain ⟨q2, g4, h⟩ := gx_bd h
      refine gx_cv (pc := 134) (va_runV (C := "GasLedgerModel") (As := [.int (0 : Int32), .int q1.1, .int (q1.2 (x0 + 12) (q1.2 x0 19).toNatClampNeg)]) (rest := []) ⟨hx, hb, hml, hown, hts⟩ (k_Mod_leave l dC dI cI cR cZ b tP tN hk_x0 g4) (gx_cw 3 hts cd_Mod_leave tb_50 tb_789 tb_791 tb_29 rfl rfl ⟨by decide, by decide, by decide +kernel⟩ ⟨Nat.le_of_ble_eq_true rfl, Nat.le_of_ble_eq_true rfl⟩) (gy_preV (mx_XX b) hX hK hP hS (mx_lt hk_x0 (by decide)) (sh_Mod cI cZ b hk_x0 _) rfl) rfl rfl hl.1 rfl (lv_room (Nat.le_of_ble_eq_true rfl)) d_Mod_act_134 ⟨Nat.zero_le _, Nat.zero_le _⟩) hS (fun H locs hP hS => ?_)
      refine lv_goto (pc := 137) (tgt := 188) hx hb d_Mod_act_137 (by decide) ?_
      exact gx_vret hx hb hr hlk hP hS d_Mod_act_188 (by cases h; rfl) (by cases h; rfl)
    · have h := gx_pos g2 h
      refine lv_iconst (pc := 119) (v := (1 : Int32)) hx hb d_Mod_act_119 (by decide) ?_
      refine lv_goto (pc := 120) (tgt := 124) hx hb d_Mod_act_120 (by decide) ?_
      refine lv_iload_n (pc := 124) hx hb d_Mod_act_124 rfl (lv_at hl 0 rfl) ?_
      refine lv_aload_n (pc := 125) hx hb d_Mod_act_125 rfl (lv_at hl 1 rfl) ?_
      refine va_get (pc := 126) (D := (dC, dI)) (ci := 6) (C := R_Mod) (T := T_Mod) (N := 39) hx hb hts in_Mod hown hK hP x0 (gx_at (mx_lt hk_x0 (by decide)) (sh_Mod cI cZ b hk_x0 _)) rfl 26 (by decide) (hts _ tb_627) (fun _ h9 => h9) rfl d_Mod_act_126 ?_
      refine lv_aload_n (pc := 129) hx hb d_Mod_act_129 rfl (lv_at hl 1 rfl) ?_
      refine va_get (pc := 130) (D := (dC, dI)) (ci := 6) (C := R_Mod) (T := T_Mod) (N := 39) hx hb hts in_Mod hown hK hP x0 (gx_at (mx_lt hk_x0 (by decide)) (sh_Mod cI cZ b hk_x0 _)) rfl 19 (by decide) (hts _ tb_620) (fun _ h9 => h9) rfl d_Mod_act_130 ?_
      obtain ⟨g5, h⟩ := gx_if h
      refine va_iald (pc := 133) hx hb hK hP (x0 + 12) 0 (gx_at (mx_lt (to_Mod_gas hk_x0) (by decide)) (mh_arr cI cZ b (n := 8) (to_Mod_gas hk_x0) (by decide) _)) rfl g5 d_Mod_act_133 ?_
      obtain ⟨q3, g6, h⟩ := gx_bd h
      refine gx_cv (pc := 134) (va_runV (C := "GasLedgerModel") (As := [.int (1 : Int32), .int q1.1, .int (q1.2 (x0 + 12) (q1.2 x0 19).toNatClampNeg)]) (rest := []) ⟨hx, hb, hml, hown, hts⟩ (k_Mod_leave l dC dI cI cR cZ b tP tN hk_x0 g6) (gx_cw 3 hts cd_Mod_leave tb_50 tb_789 tb_791 tb_29 rfl rfl ⟨by decide, by decide, by decide +kernel⟩ ⟨Nat.le_of_ble_eq_true rfl, Nat.le_of_ble_eq_true rfl⟩) (gy_preV (mx_XX b) hX hK hP hS (mx_lt hk_x0 (by decide)) (sh_Mod cI cZ b hk_x0 _) rfl) rfl rfl hl.1 rfl (lv_room (Nat.le_of_ble_eq_true rfl)) d_Mod_act_134 ⟨Nat.zero_le _, Nat.zero_le _⟩) hS (fun H locs hP hS => ?_)
      refine lv_goto (pc := 137) (tgt := 188) hx hb d_Mod_act_137 (by decide) ?_
      exact gx_vret hx hb hr hlk hP hS d_Mod_act_188 (by cases h; rfl) (by cases h; rfl)
  have B_22 : ∀ (x0 : Nat) (x1 : Int32), mx_kd x0 = 6 → ∀ (V : gx_M) (H : Heap) (locs : List Loc) (ls : Array Slot), lv_has ls 4 [(0, .ref (b + x0)), (1, .int x1)] → va_P (dC, dI) cx_cl (gx_w b 22 (gx_v (mx_sh cI cZ b) V)) H → va_S (gx_A b 22) s.heap H locs → F_Mod_act_22 x0 x1 V = some q → W p l e (headSpec w_Mod_act rm_Mod_act).room s m args below meth c H locs 0 0 (MQ below (gx_Q (dC, dI) cx_cl b 22 (mx_sh cI cZ b) none q) args s 0 0 (gx_A b 22)) (F0 m 22 ls []) := by
    intro x0 x1 hk_x0 V H locs ls hl hP hS h
    unfold F_Mod_act_22 at h
    refine lv_aload_n (pc := 22) hx hb d_Mod_act_22 rfl (lv_at hl 0 rfl) ?_
    refine lv_iload_n (pc := 23) hx hb d_Mod_act_23 rfl (lv_at hl 1 rfl) ?_
    refine lv_bipush (pc := 24) (v := (22 : Int32)) hx hb d_Mod_act_24 (by decide) ?_
    refine lv_icmp_ne (pc := 26) (tgt := 33) hx hb d_Mod_act_26 (by decide) (fun g7 => ?_) (fun g7 => ?_)
    · have h := gx_neg g7 h
      refine lv_iconst (pc := 33) (v := (0 : Int32)) hx hb d_Mod_act_33 (by decide) ?_
      obtain ⟨q4, g8, h⟩ := gx_bd h
      refine gx_cv (pc := 34) (va_runV (C := "GasLedgerModel") (As := [.int (0 : Int32)]) (rest := []) ⟨hx, hb, hml, hown, hts⟩ (k_Mod_call l dC dI cI cR cZ b tP tN hk_x0 g8) (gx_cw 1 hts cd_Mod_call tb_50 tb_835 tb_837 tb_39 rfl rfl ⟨by decide, by decide, by decide +kernel⟩ ⟨Nat.le_of_ble_eq_true rfl, Nat.le_of_ble_eq_true rfl⟩) (gy_preV (mx_XX b) hX hK hP hS (mx_lt hk_x0 (by decide)) (sh_Mod cI cZ b hk_x0 _) rfl) rfl rfl hl.1 rfl (lv_room (Nat.le_of_ble_eq_true rfl)) d_Mod_act_34 ⟨Nat.zero_le _, Nat.zero_le _⟩) hS (fun H locs hP hS => ?_)
      refine lv_goto (pc := 37) (tgt := 188) hx hb d_Mod_act_37 (by decide) ?_
      exact gx_vret hx hb hr hlk hP hS d_Mod_act_188 (by cases h; rfl) (by cases h; rfl)
    · have h := gx_pos g7 h
      refine lv_iconst (pc := 29) (v := (1 : Int32)) hx hb d_Mod_act_29 (by decide) ?_
      refine lv_goto (pc := 30) (tgt := 34) hx hb d_Mod_act_30 (by decide) ?_
      obtain ⟨q5, g9, h⟩ := gx_bd h
      refine gx_cv (pc := 34) (va_runV (C := "GasLedgerModel") (As := [.int (1 : Int32)]) (rest := []) ⟨hx, hb, hml, hown, hts⟩ (k_Mod_call l dC dI cI cR cZ b tP tN hk_x0 g9) (gx_cw 1 hts cd_Mod_call tb_50 tb_835 tb_837 tb_39 rfl rfl ⟨by decide, by decide, by decide +kernel⟩ ⟨Nat.le_of_ble_eq_true rfl, Nat.le_of_ble_eq_true rfl⟩) (gy_preV (mx_XX b) hX hK hP hS (mx_lt hk_x0 (by decide)) (sh_Mod cI cZ b hk_x0 _) rfl) rfl rfl hl.1 rfl (lv_room (Nat.le_of_ble_eq_true rfl)) d_Mod_act_34 ⟨Nat.zero_le _, Nat.zero_le _⟩) hS (fun H locs hP hS => ?_)
      refine lv_goto (pc := 37) (tgt := 188) hx hb d_Mod_act_37 (by decide) ?_
      exact gx_vret hx hb hr hlk hP hS d_Mod_act_188 (by cases h; rfl) (by cases h; rfl)
  unfold F_Mod_act at h
  refine lv_aload_n (pc := 0) hx hb d_Mod_act_0 rfl (lv_at hl 0 rfl) ?_
  refine va_get (pc := 1) (D := (dC, dI)) (ci := 6) (C := R_Mod) (T := T_Mod) (N := 39) hx hb hts in_Mod hown hK hP x0 (gx_at (mx_lt hk0 (by decide)) (sh_Mod cI cZ b hk0 _)) rfl 20 (by decide) (hts _ tb_621) (fun _ h9 => h9) rfl d_Mod_act_1 ?_
  refine lv_aload_n (pc := 4) hx hb d_Mod_act_4 rfl (lv_at hl 0 rfl) ?_
  refine va_get (pc := 5) (D := (dC, dI)) (ci := 6) (C := R_Mod) (T := T_Mod) (N := 39) hx hb hts in_Mod hown hK hP x0 (gx_at (mx_lt hk0 (by decide)) (sh_Mod cI cZ b hk0 _)) rfl 19 (by decide) (hts _ tb_620) (fun _ h9 => h9) rfl d_Mod_act_5 ?_
  obtain ⟨g10, h⟩ := gx_if h
  refine va_iald (pc := 8) hx hb hK hP (x0 + 6) 0 (gx_at (mx_lt (to_Mod_self hk0) (by decide)) (mh_arr cI cZ b (n := 8) (to_Mod_self hk0) (by decide) _)) rfl g10 d_Mod_act_8 ?_
  refine lv_istore_n (pc := 9) (lv' := [(2, .int (V (x0 + 6) (V x0 19).toNatClampNeg)), (0, .ref (b + x0)), (1, .int x1)]) hx hb d_Mod_act_9 rfl hl (by decide) rfl (fun ls hl => ?_)
  refine lv_iload_n (pc := 10) hx hb d_Mod_act_10 rfl (lv_at hl 2 rfl) ?_
  refine lv_bipush (pc := 11) (v := (22 : Int32)) hx hb d_Mod_act_11 (by decide) ?_
  refine lv_icmp_eq (pc := 13) (tgt := 22) hx hb d_Mod_act_13 (by decide) (fun g11 => ?_) (fun g11 => ?_)
  · have h := gx_pos g11 h
    exact B_22   _ _ hk0 _ _ _ _ (lv_sub hl [1, 2] rfl) hP hS h
  · have h := gx_neg g11 h
    refine lv_iload_n (pc := 16) hx hb d_Mod_act_16 rfl (lv_at hl 2 rfl) ?_
    refine lv_bipush (pc := 17) (v := (23 : Int32)) hx hb d_Mod_act_17 (by decide) ?_
    refine lv_icmp_ne (pc := 19) (tgt := 40) hx hb d_Mod_act_19 (by decide) (fun g12 => ?_) (fun g12 => ?_)
    · have h := gx_neg g12 h
      refine lv_iload_n (pc := 40) hx hb d_Mod_act_40 rfl (lv_at hl 2 rfl) ?_
      refine lv_bipush (pc := 41) (v := (24 : Int32)) hx hb d_Mod_act_41 (by decide) ?_
      refine lv_icmp_ne (pc := 43) (tgt := 53) hx hb d_Mod_act_43 (by decide) (fun g13 => ?_) (fun g13 => ?_)
      · have h := gx_neg g13 h
        refine lv_iload_n (pc := 53) hx hb d_Mod_act_53 rfl (lv_at hl 2 rfl) ?_
        refine lv_bipush (pc := 54) (v := (25 : Int32)) hx hb d_Mod_act_54 (by decide) ?_
        refine lv_icmp_ne (pc := 56) (tgt := 95) hx hb d_Mod_act_56 (by decide) (fun g14 => ?_) (fun g14 => ?_)
        · have h := gx_neg g14 h
          refine lv_iload_n (pc := 95) hx hb d_Mod_act_95 rfl (lv_at hl 2 rfl) ?_
          refine lv_bipush (pc := 96) (v := (26 : Int32)) hx hb d_Mod_act_96 (by decide) ?_
          refine lv_icmp_eq (pc := 98) (tgt := 107) hx hb d_Mod_act_98 (by decide) (fun g15 => ?_) (fun g15 => ?_)
          · have h := gx_pos g15 h
            exact B_107   _ _ hk0 _ _ _ _ (lv_sub hl [1, 2] rfl) hP hS h
          · have h := gx_neg g15 h
            refine lv_iload_n (pc := 101) hx hb d_Mod_act_101 rfl (lv_at hl 2 rfl) ?_
            refine lv_bipush (pc := 102) (v := (27 : Int32)) hx hb d_Mod_act_102 (by decide) ?_
            refine lv_icmp_ne (pc := 104) (tgt := 140) hx hb d_Mod_act_104 (by decide) (fun g16 => ?_) (fun g16 => ?_)
            · have h := gx_neg g16 h
              refine lv_aload_n (pc := 140) hx hb d_Mod_act_140 rfl (lv_at hl 1 rfl) ?_
              obtain ⟨q6, g17, h⟩ := gx_bd h
              refine gx_ci (pc := 141) (va_runV (C := "GasLedgerModel") (As := []) (rest := []) ⟨hx, hb, hml, hown, hts⟩ (k_Mod_pop l dC dI cI cR cZ b tP tN hk0 g17) (gx_cw 0 hts cd_Mod_pop tb_50 tb_819 tb_821 tb_35 rfl rfl ⟨by decide, by decide, by decide +kernel⟩ ⟨Nat.le_of_ble_eq_true rfl, Nat.le_of_ble_eq_true rfl⟩) (gy_preV (mx_XX b) hX hK hP hS (mx_lt hk0 (by decide)) (sh_Mod cI cZ b hk0 _) rfl) rfl rfl hl.1 rfl (lv_room (Nat.le_of_ble_eq_true rfl)) d_Mod_act_141 ⟨Nat.zero_le _, Nat.zero_le _⟩) hS (fun H locs hP hS => ?_)
              refine lv_istore_n (pc := 144) (lv' := [(3, .int q6.1), (2, .int (V (x0 + 6) (V x0 19).toNatClampNeg)), (0, .ref (b + x0)), (1, .int x1)]) hx hb d_Mod_act_144 rfl hl (by decide) rfl (fun ls hl => ?_)
              refine lv_aload_n (pc := 145) hx hb d_Mod_act_145 rfl (lv_at hl 2 rfl) ?_
              refine lv_iload_n (pc := 146) hx hb d_Mod_act_146 rfl (lv_at hl 1 rfl) ?_
              refine lv_iload_n (pc := 147) hx hb d_Mod_act_147 rfl (lv_at hl 0 rfl) ?_
              refine lv_aload_n (pc := 148) hx hb d_Mod_act_148 rfl (lv_at hl 2 rfl) ?_
              refine va_get (pc := 149) (D := (dC, dI)) (ci := 6) (C := R_Mod) (T := T_Mod) (N := 39) hx hb hts in_Mod hown hK hP x0 (gx_at (mx_lt hk0 (by decide)) (sh_Mod cI cZ b hk0 _)) rfl 0 (by decide) (hts _ tb_601) (fun _ h9 => h9) rfl d_Mod_act_149 ?_
              refine lv_bipush (pc := 152) (v := (36 : Int32)) hx hb d_Mod_act_152 (by decide) ?_
              refine lv_iload_n (pc := 154) hx hb d_Mod_act_154 rfl (lv_at hl 1 rfl) ?_
              refine lv_imul (pc := 155) hx hb d_Mod_act_155 ?_
              obtain ⟨g18, h⟩ := gx_if h
              refine va_iald (pc := 156) hx hb hK hP (x0 + 1) 0 (gx_at (mx_lt (to_Mod_now hk0) (by decide)) (mh_arr cI cZ b (n := 576) (to_Mod_now hk0) (by decide) _)) rfl g18 d_Mod_act_156 ?_
              obtain ⟨q7, g19, h⟩ := gx_bd h
              refine gx_cv (pc := 157) (va_runV (C := "GasLedgerModel") (As := [.int (V (x0 + 6) (V x0 19).toNatClampNeg), .int q6.1, .int (q6.2 (x0 + 1) ((36 : Int32) * (V (x0 + 6) (V x0 19).toNatClampNeg)).toNatClampNeg)]) (rest := []) ⟨hx, hb, hml, hown, hts⟩ (k_Mod_give l dC dI cI cR cZ b tP tN hk0 g19) (gx_cw 3 hts cd_Mod_give tb_50 tb_780 tb_782 tb_27 rfl rfl ⟨by decide, by decide, by decide +kernel⟩ ⟨Nat.le_of_ble_eq_true rfl, Nat.le_of_ble_eq_true rfl⟩) (gy_preV (mx_XX b) hX hK hP hS (mx_lt hk0 (by decide)) (sh_Mod cI cZ b hk0 _) rfl) rfl rfl hl.1 rfl (lv_room (Nat.le_of_ble_eq_true rfl)) d_Mod_act_157 ⟨Nat.zero_le _, Nat.zero_le _⟩) hS (fun H locs hP hS => ?_)
              refine lv_aload_n (pc := 160) hx hb d_Mod_act_160 rfl (lv_at hl 2 rfl) ?_
              refine va_get (pc := 161) (D := (dC, dI)) (ci := 6) (C := R_Mod) (T := T_Mod) (N := 39) hx hb hts in_Mod hown hK hP x0 (gx_at (mx_lt hk0 (by decide)) (sh_Mod cI cZ b hk0 _)) rfl 0 (by decide) (hts _ tb_601) (fun _ h9 => h9) rfl d_Mod_act_161 ?_
              refine lv_bipush (pc := 164) (v := (36 : Int32)) hx hb d_Mod_act_164 (by decide) ?_
              refine lv_iload_n (pc := 166) hx hb d_Mod_act_166 rfl (lv_at hl 1 rfl) ?_
              refine lv_imul (pc := 167) hx hb d_Mod_act_167 ?_
              refine lv_bipush (pc := 168) (v := (35 : Int32)) hx hb d_Mod_act_168 (by decide) ?_
              refine lv_iadd (pc := 170) hx hb d_Mod_act_170 ?_
              refine lv_iconst (pc := 171) (v := (1 : Int32)) hx hb d_Mod_act_171 (by decide) ?_
              obtain ⟨g20, h⟩ := gx_if h
              obtain ⟨V1, g21, h⟩ := gx_lt h
              refine gx_asi (pc := 172) hx hb hK hP hS (x0 + 1) 0 (mx_lt (to_Mod_now hk0) (by decide)) (fun _ => mh_arr cI cZ b (n := 576) (to_Mod_now hk0) (by decide) _) rfl g20 d_Mod_act_172 g21 (fun H locs hP hS => ?_)
              refine lv_aload_n (pc := 173) hx hb d_Mod_act_173 rfl (lv_at hl 2 rfl) ?_
              refine lv_iconst (pc := 174) (v := (1 : Int32)) hx hb d_Mod_act_174 (by decide) ?_
              refine lv_iconst (pc := 175) (v := (0 : Int32)) hx hb d_Mod_act_175 (by decide) ?_
              refine lv_aload_n (pc := 176) hx hb d_Mod_act_176 rfl (lv_at hl 2 rfl) ?_
              refine va_get (pc := 177) (D := (dC, dI)) (ci := 6) (C := R_Mod) (T := T_Mod) (N := 39) hx hb hts in_Mod hown hK hP x0 (gx_at (mx_lt hk0 (by decide)) (sh_Mod cI cZ b hk0 _)) rfl 26 (by decide) (hts _ tb_627) (fun _ h9 => h9) rfl d_Mod_act_177 ?_
              refine lv_aload_n (pc := 180) hx hb d_Mod_act_180 rfl (lv_at hl 2 rfl) ?_
              refine va_get (pc := 181) (D := (dC, dI)) (ci := 6) (C := R_Mod) (T := T_Mod) (N := 39) hx hb hts in_Mod hown hK hP x0 (gx_at (mx_lt hk0 (by decide)) (sh_Mod cI cZ b hk0 _)) rfl 19 (by decide) (hts _ tb_620) (fun _ h9 => h9) rfl d_Mod_act_181 ?_
              obtain ⟨g22, h⟩ := gx_if h
              refine va_iald (pc := 184) hx hb hK hP (x0 + 12) 0 (gx_at (mx_lt (to_Mod_gas hk0) (by decide)) (mh_arr cI cZ b (n := 8) (to_Mod_gas hk0) (by decide) _)) rfl g22 d_Mod_act_184 ?_
              obtain ⟨q8, g23, h⟩ := gx_bd h
              refine gx_cv (pc := 185) (va_runV (C := "GasLedgerModel") (As := [.int (1 : Int32), .int (0 : Int32), .int (V1 (x0 + 12) (V1 x0 19).toNatClampNeg)]) (rest := []) ⟨hx, hb, hml, hown, hts⟩ (k_Mod_leave l dC dI cI cR cZ b tP tN hk0 g23) (gx_cw 3 hts cd_Mod_leave tb_50 tb_789 tb_791 tb_29 rfl rfl ⟨by decide, by decide, by decide +kernel⟩ ⟨Nat.le_of_ble_eq_true rfl, Nat.le_of_ble_eq_true rfl⟩) (gy_preV (mx_XX b) hX hK hP hS (mx_lt hk0 (by decide)) (sh_Mod cI cZ b hk0 _) rfl) rfl rfl hl.1 rfl (lv_room (Nat.le_of_ble_eq_true rfl)) d_Mod_act_185 ⟨Nat.zero_le _, Nat.zero_le _⟩) hS (fun H locs hP hS => ?_)
              exact gx_vret hx hb hr hlk hP hS d_Mod_act_188 (by cases h; rfl) (by cases h; rfl)
            · have h := gx_pos g16 h
              exact B_107   _ _ hk0 _ _ _ _ (lv_sub hl [1, 2] rfl) hP hS h
        · have h := gx_pos g14 h
          refine lv_aload_n (pc := 59) hx hb d_Mod_act_59 rfl (lv_at hl 1 rfl) ?_
          refine va_get (pc := 60) (D := (dC, dI)) (ci := 6) (C := R_Mod) (T := T_Mod) (N := 39) hx hb hts in_Mod hown hK hP x0 (gx_at (mx_lt hk0 (by decide)) (sh_Mod cI cZ b hk0 _)) rfl 14 (by decide) (hts _ tb_615) (fun _ h9 => h9) rfl d_Mod_act_60 ?_
          refine lv_aload_n (pc := 63) hx hb d_Mod_act_63 rfl (lv_at hl 1 rfl) ?_
          refine va_get (pc := 64) (D := (dC, dI)) (ci := 6) (C := R_Mod) (T := T_Mod) (N := 39) hx hb hts in_Mod hown hK hP x0 (gx_at (mx_lt hk0 (by decide)) (sh_Mod cI cZ b hk0 _)) rfl 13 (by decide) (hts _ tb_614) (fun _ h9 => h9) rfl d_Mod_act_64 ?_
          refine lv_iload_n (pc := 67) hx hb d_Mod_act_67 rfl (lv_at hl 0 rfl) ?_
          obtain ⟨g24, h⟩ := gx_if h
          obtain ⟨V2, g25, h⟩ := gx_lt h
          refine gx_asi (pc := 68) hx hb hK hP hS (x0 + 4) 0 (mx_lt (to_Mod_logAccount hk0) (by decide)) (fun _ => mh_arr cI cZ b (n := 512) (to_Mod_logAccount hk0) (by decide) _) rfl g24 d_Mod_act_68 g25 (fun H locs hP hS => ?_)
          refine lv_aload_n (pc := 69) hx hb d_Mod_act_69 rfl (lv_at hl 1 rfl) ?_
          refine va_get (pc := 70) (D := (dC, dI)) (ci := 6) (C := R_Mod) (T := T_Mod) (N := 39) hx hb hts in_Mod hown hK hP x0 (gx_at (mx_lt hk0 (by decide)) (sh_Mod cI cZ b hk0 _)) rfl 15 (by decide) (hts _ tb_616) (fun _ h9 => h9) rfl d_Mod_act_70 ?_
          refine lv_aload_n (pc := 73) hx hb d_Mod_act_73 rfl (lv_at hl 1 rfl) ?_
          refine va_get (pc := 74) (D := (dC, dI)) (ci := 6) (C := R_Mod) (T := T_Mod) (N := 39) hx hb hts in_Mod hown hK hP x0 (gx_at (mx_lt hk0 (by decide)) (sh_Mod cI cZ b hk0 _)) rfl 13 (by decide) (hts _ tb_614) (fun _ h9 => h9) rfl d_Mod_act_74 ?_
          refine lv_aload_n (pc := 77) hx hb d_Mod_act_77 rfl (lv_at hl 1 rfl) ?_
          obtain ⟨q9, g26, h⟩ := gx_bd h
          refine gx_ci (pc := 78) (va_runV (C := "GasLedgerModel") (As := []) (rest := [.int (V2 x0 13), .ref (b + (x0 + 5))]) ⟨hx, hb, hml, hown, hts⟩ (k_Mod_pop l dC dI cI cR cZ b tP tN hk0 g26) (gx_cw 0 hts cd_Mod_pop tb_50 tb_819 tb_821 tb_35 rfl rfl ⟨by decide, by decide, by decide +kernel⟩ ⟨Nat.le_of_ble_eq_true rfl, Nat.le_of_ble_eq_true rfl⟩) (gy_preV (mx_XX b) hX hK hP hS (mx_lt hk0 (by decide)) (sh_Mod cI cZ b hk0 _) rfl) rfl rfl hl.1 rfl (lv_room (Nat.le_of_ble_eq_true rfl)) d_Mod_act_78 ⟨Nat.zero_le _, Nat.zero_le _⟩) hS (fun H locs hP hS => ?_)
          obtain ⟨g27, h⟩ := gx_if h
          obtain ⟨V3, g28, h⟩ := gx_lt h
          refine gx_asi (pc := 81) hx hb hK hP hS (x0 + 5) 0 (mx_lt (to_Mod_logNumber hk0) (by decide)) (fun _ => mh_arr cI cZ b (n := 512) (to_Mod_logNumber hk0) (by decide) _) rfl g27 d_Mod_act_81 g28 (fun H locs hP hS => ?_)
          refine lv_aload_n (pc := 82) hx hb d_Mod_act_82 rfl (lv_at hl 1 rfl) ?_
          refine lv_dup (pc := 83) hx hb d_Mod_act_83 rfl ?_
          refine va_get (pc := 84) (D := (dC, dI)) (ci := 6) (C := R_Mod) (T := T_Mod) (N := 39) hx hb hts in_Mod hown hK hP x0 (gx_at (mx_lt hk0 (by decide)) (sh_Mod cI cZ b hk0 _)) rfl 13 (by decide) (hts _ tb_614) (fun _ h9 => h9) rfl d_Mod_act_84 ?_
          refine lv_iconst (pc := 87) (v := (1 : Int32)) hx hb d_Mod_act_87 (by decide) ?_
          refine lv_iadd (pc := 88) hx hb d_Mod_act_88 ?_
          obtain ⟨V4, g29, h⟩ := gx_lt h
          refine gy_put (pc := 89) (D := (dC, dI)) (ci := 6) (C := R_Mod) (T := T_Mod) (NF := 39) (ty := .int) hx hb hts in_Mod t_Mod ty_Mod nm_Mod hown hK hP hS x0 (mx_lt hk0 (by decide)) (sh_Mod cI cZ b hk0 _) rfl 13 (by decide) (hts _ tb_614) (fun _ h9 => h9) rfl (by decide +kernel) rfl rfl (Nat.le_of_ble_eq_true rfl) 13 (sh_Mod cI cZ b hk0 _) d_Mod_act_89 g29 (fun H locs hP hS => ?_)
          refine lv_goto (pc := 92) (tgt := 188) hx hb d_Mod_act_92 (by decide) ?_
          exact gx_vret hx hb hr hlk hP hS d_Mod_act_188 (by cases h; rfl) (by cases h; rfl)
      · have h := gx_pos g13 h
        refine lv_aload_n (pc := 46) hx hb d_Mod_act_46 rfl (lv_at hl 1 rfl) ?_
        obtain ⟨q10, g30, h⟩ := gx_bd h
        refine gx_cv (pc := 47) (va_runV (C := "GasLedgerModel") (As := []) (rest := []) ⟨hx, hb, hml, hown, hts⟩ (k_Mod_create l dC dI cI cR cZ b tP tN hk0 g30) (gx_cw 0 hts cd_Mod_create tb_50 tb_839 tb_841 tb_40 rfl rfl ⟨by decide, by decide, by decide +kernel⟩ ⟨Nat.le_of_ble_eq_true rfl, Nat.le_of_ble_eq_true rfl⟩) (gy_preV (mx_XX b) hX hK hP hS (mx_lt hk0 (by decide)) (sh_Mod cI cZ b hk0 _) rfl) rfl rfl hl.1 rfl (lv_room (Nat.le_of_ble_eq_true rfl)) d_Mod_act_47 ⟨Nat.zero_le _, Nat.zero_le _⟩) hS (fun H locs hP hS => ?_)
        refine lv_goto (pc := 50) (tgt := 188) hx hb d_Mod_act_50 (by decide) ?_
        exact gx_vret hx hb hr hlk hP hS d_Mod_act_188 (by cases h; rfl) (by cases h; rfl)
    · have h := gx_pos g12 h
      exact B_22   _ _ hk0 _ _ _ _ (lv_sub hl [1, 2] rfl) hP hS h
