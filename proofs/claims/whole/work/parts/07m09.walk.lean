abbrev rm_Mod_call : Room := { frames := 1, cells := 0, slots := 0, locals := 27 }
def F_Mod_call_119 (x0 : Nat) (x1 : Int32) (x2 : Int32) (x4 : Int32) (x5 : Int32) (x6 : Int32) (s0 : Int32) (V : gx_M) : Option gx_M := (if gx_ib (V x0 19) 8 then (if gx_ib (V x0 19) 8 then (gx_let (gx_u V (x0 + 12) (V x0 19).toNatClampNeg ((V (x0 + 12) (V x0 19).toNatClampNeg) - s0)) fun V1 => (if x1 = 0 then (if gx_ib (V1 x0 19) 8 then (if gx_ib (V1 x0 19) 8 then ((F_Mod_enter x0 x4 x2 (V1 (x0 + 9) (V1 x0 19).toNatClampNeg) (V1 (x0 + 10) (V1 x0 19).toNatClampNeg) x6 s0 V1).bind fun q1 => some q1) else none) else none) else (if x5 = 0 then ((F_Mod_enter x0 x4 x4 x2 x5 x6 s0 V1).bind fun q2 => ((F_Mod_give x0 x2 x4 x5 q2).bind fun q3 => some q3)) else ((F_Mod_enter x0 x4 x4 x2 x5 x6 (s0 + (10 : Int32)) V1).bind fun q4 => ((F_Mod_give x0 x2 x4 x5 q4).bind fun q5 => some q5))))) else none) else none)
def F_Mod_call_33 (x0 : Nat) (x1 : Int32) (x2 : Int32) (x3 : Int32) (x4 : Int32) (s0 : Int32) (V : gx_M) : Option gx_M := ((F_Mod_pop x0 V).bind fun q6 => ((F_Mod_in x4 (16 : Int32) q6.2).bind fun q7 => (if q7.1 = 0 then ((F_Mod_push x0 (0 : Int32) q7.2).bind fun q8 => ((F_Mod_push x0 (0 : Int32) q8).bind fun q9 => some q9)) else (if gx_ib ((36 : Int32) * x2) 576 then (if (q7.2 (x0 + 1) ((36 : Int32) * x2).toNatClampNeg) < s0 then ((F_Mod_push x0 (0 : Int32) q7.2).bind fun q10 => ((F_Mod_push x0 (0 : Int32) q10).bind fun q11 => some q11)) else (if (q7.2 x0 19) = (7 : Int32) then ((F_Mod_push x0 (0 : Int32) q7.2).bind fun q12 => ((F_Mod_push x0 (0 : Int32) q12).bind fun q13 => some q13)) else (if 0 ≤ x3 then (if gx_ib (q7.2 x0 19) 8 then (if (q7.2 (x0 + 12) (q7.2 x0 19).toNatClampNeg) ≤ x3 then (if gx_ib (q7.2 x0 19) 8 then (F_Mod_call_119   x0 x1 x2 x4 s0 q6.1 (q7.2 (x0 + 12) (q7.2 x0 19).toNatClampNeg) q7.2) else none) else (F_Mod_call_119   x0 x1 x2 x4 s0 q6.1 x3 q7.2)) else none) else (F_Mod_call_119   x0 x1 x2 x4 s0 q6.1 (0 : Int32) q7.2)))) else none))))
def F_Mod_call (x0 : Nat) (x1 : Int32) (V : gx_M) : Option gx_M := (if gx_ib (V x0 19) 8 then ((F_Mod_pop x0 V).bind fun q14 => ((F_Mod_pop x0 q14.2).bind fun q15 => (if x1 = 0 then (F_Mod_call_33   x0 x1 (V (x0 + 6) (V x0 19).toNatClampNeg) q14.1 q15.1 (0 : Int32) q15.2) else ((F_Mod_pop x0 q15.2).bind fun q16 => (F_Mod_call_33   x0 x1 (V (x0 + 6) (V x0 19).toNatClampNeg) q14.1 q15.1 q16.1 q16.2))))) else none)
set_option maxRecDepth 100000 in
set_option maxHeartbeats 8000000 in
theorem k_Mod_call (l : Launch) (dC : Nat → ClassId) (dI : Nat → Nat → Nat) (cI cR cZ : ClassId) (b tP tN : Nat) {x0 : Nat} {x1 : Int32} {V : gx_M} {q : gx_M} (hk0 : mx_kd x0 = 6) (h : F_Mod_call x0 x1 V = some q) : mx_C l dC dI cI cR cZ b tP tN y_Mod_call w_Mod_call rm_Mod_call [.ref (b + x0), .int x1] V none q := by
  refine gx_start (cc := b_Mod_call) (maxL := 8) (ret := rt_Mod_call) (by decide) rfl (Nat.le_of_ble_eq_true rfl) ?_
  intro p e s m args below meth c ls hx hb hr hts hown hlk hml hl hP hK hX hS
  have hts : ∀ w ∈ cx_tb, w.before args s = true := fun w hw => hts w (List.mem_cons_of_mem _ hw)
  have hown : s.vm.findClass "GasLedgerModel" = some m.cls := hown
  have hl : lv_has ls 8 [(0, .ref (b + x0)), (1, .int x1)] := hl
  have B_119 : ∀ (x0 : Nat) (x1 : Int32) (x2 : Int32) (x4 : Int32) (x5 : Int32) (x6 : Int32) (s0 : Int32), mx_kd x0 = 6 → ∀ (V : gx_M) (H : Heap) (locs : List Loc) (ls : Array Slot), lv_has ls 8 [(0, .ref (b + x0)), (1, .int x1), (2, .int x2), (4, .int x4), (5, .int x5), (6, .int x6)] → va_P (dC, dI) cx_cl (gx_w b 22 (gx_v (mx_sh cI cZ b) V)) H → va_S (gx_A b 22) s.heap H locs → F_Mod_call_119 x0 x1 x2 x4 x5 x6 s0 V = some q → W p l e (headSpec w_Mod_call rm_Mod_call).room s m args below meth c H locs 0 0 (MQ below (gx_Q (dC, dI) cx_cl b 22 (mx_sh cI cZ b) none q) args s 0 0 (gx_A b 22)) (F0 m 119 ls [.int s0]) := by
    intro x0 x1 x2 x4 x5 x6 s0 hk_x0 V H locs ls hl hP hS h
    unfold F_Mod_call_119 at h
    refine lv_istore (pc := 119) (lv' := [(7, .int s0), (0, .ref (b + x0)), (1, .int x1), (2, .int x2), (4, .int x4), (5, .int x5), (6, .int x6)]) hx hb d_Mod_call_119 hl (by decide) rfl (fun ls hl => ?_)
    refine lv_aload_n (pc := 121) hx hb d_Mod_call_121 rfl (lv_at hl 1 rfl) ?_
    refine va_get (pc := 122) (D := (dC, dI)) (ci := 6) (C := R_Mod) (T := T_Mod) (N := 39) hx hb hts in_Mod hown hK hP x0 (gx_at (mx_lt hk_x0 (by decide)) (sh_Mod cI cZ b hk_x0 _)) rfl 26 (by decide) (hts _ tb_627) (fun _ h9 => h9) rfl d_Mod_call_122 ?_
    refine lv_aload_n (pc := 125) hx hb d_Mod_call_125 rfl (lv_at hl 1 rfl) ?_
    refine va_get (pc := 126) (D := (dC, dI)) (ci := 6) (C := R_Mod) (T := T_Mod) (N := 39) hx hb hts in_Mod hown hK hP x0 (gx_at (mx_lt hk_x0 (by decide)) (sh_Mod cI cZ b hk_x0 _)) rfl 19 (by decide) (hts _ tb_620) (fun _ h9 => h9) rfl d_Mod_call_126 ?_
    refine lv_dup2_11 (pc := 129) hx hb d_Mod_call_129 rfl rfl ?_
    obtain ⟨g1, h⟩ := gx_if h
    refine va_iald (pc := 130) hx hb hK hP (x0 + 12) 0 (gx_at (mx_lt (to_Mod_gas hk_x0) (by decide)) (mh_arr cI cZ b (n := 8) (to_Mod_gas hk_x0) (by decide) _)) rfl g1 d_Mod_call_130 ?_
    refine lv_iload (pc := 131) hx hb d_Mod_call_131 (lv_at hl 0 rfl) ?_
    refine lv_isub (pc := 133) hx hb d_Mod_call_133 ?_
    obtain ⟨g2, h⟩ := gx_if h
    obtain ⟨V1, g3, h⟩ := gx_lt h
    refine gx_asi (pc := 134) hx hb hK hP hS (x0 + 12) 0 (mx_lt (to_Mod_gas hk_x0) (by decide)) (fun _ => mh_arr cI cZ b (n := 8) (to_Mod_gas hk_x0) (by decide) _) rfl g2 d_Mod_call_134 g3 (fun H locs hP hS => ?_)
    refine lv_iload_n (pc := 135) hx hb d_Mod_call_135 rfl (lv_at hl 2 rfl) ?_
    refine lv_if_eq (pc := 136) (tgt := 179) hx hb d_Mod_call_136 (by decide) (fun g4 => ?_) (fun g4 => ?_)
    · have h := gx_pos g4 h
      refine lv_aload_n (pc := 179) hx hb d_Mod_call_179 rfl (lv_at hl 1 rfl) ?_
      refine lv_iload (pc := 180) hx hb d_Mod_call_180 (lv_at hl 4 rfl) ?_
      refine lv_iload_n (pc := 182) hx hb d_Mod_call_182 rfl (lv_at hl 3 rfl) ?_
      refine lv_aload_n (pc := 183) hx hb d_Mod_call_183 rfl (lv_at hl 1 rfl) ?_
      refine va_get (pc := 184) (D := (dC, dI)) (ci := 6) (C := R_Mod) (T := T_Mod) (N := 39) hx hb hts in_Mod hown hK hP x0 (gx_at (mx_lt hk_x0 (by decide)) (sh_Mod cI cZ b hk_x0 _)) rfl 23 (by decide) (hts _ tb_624) (fun _ h9 => h9) rfl d_Mod_call_184 ?_
      refine lv_aload_n (pc := 187) hx hb d_Mod_call_187 rfl (lv_at hl 1 rfl) ?_
      refine va_get (pc := 188) (D := (dC, dI)) (ci := 6) (C := R_Mod) (T := T_Mod) (N := 39) hx hb hts in_Mod hown hK hP x0 (gx_at (mx_lt hk_x0 (by decide)) (sh_Mod cI cZ b hk_x0 _)) rfl 19 (by decide) (hts _ tb_620) (fun _ h9 => h9) rfl d_Mod_call_188 ?_
      obtain ⟨g5, h⟩ := gx_if h
      refine va_iald (pc := 191) hx hb hK hP (x0 + 9) 0 (gx_at (mx_lt (to_Mod_caller hk_x0) (by decide)) (mh_arr cI cZ b (n := 8) (to_Mod_caller hk_x0) (by decide) _)) rfl g5 d_Mod_call_191 ?_
      refine lv_aload_n (pc := 192) hx hb d_Mod_call_192 rfl (lv_at hl 1 rfl) ?_
      refine va_get (pc := 193) (D := (dC, dI)) (ci := 6) (C := R_Mod) (T := T_Mod) (N := 39) hx hb hts in_Mod hown hK hP x0 (gx_at (mx_lt hk_x0 (by decide)) (sh_Mod cI cZ b hk_x0 _)) rfl 24 (by decide) (hts _ tb_625) (fun _ h9 => h9) rfl d_Mod_call_193 ?_
      refine lv_aload_n (pc := 196) hx hb d_Mod_call_196 rfl (lv_at hl 1 rfl) ?_
      refine va_get (pc := 197) (D := (dC, dI)) (ci := 6) (C := R_Mod) (T := T_Mod) (N := 39) hx hb hts in_Mod hown hK hP x0 (gx_at (mx_lt hk_x0 (by decide)) (sh_Mod cI cZ b hk_x0 _)) rfl 19 (by decide) (hts _ tb_620) (fun _ h9 => h9) rfl d_Mod_call_197 ?_
      obtain ⟨g6, h⟩ := gx_if h
      refine va_iald (pc := 200) hx hb hK hP (x0 + 10) 0 (gx_at (mx_lt (to_Mod_value hk_x0) (by decide)) (mh_arr cI cZ b (n := 8) (to_Mod_value hk_x0) (by decide) _)) rfl g6 d_Mod_call_200 ?_
      refine lv_iload (pc := 201) hx hb d_Mod_call_201 (lv_at hl 6 rfl) ?_
      refine lv_iload (pc := 203) hx hb d_Mod_call_203 (lv_at hl 0 rfl) ?_
      obtain ⟨q1, g7, h⟩ := gx_bd h
      refine gx_cv (pc := 205) (va_runV (C := "GasLedgerModel") (As := [.int x4, .int x2, .int (V1 (x0 + 9) (V1 x0 19).toNatClampNeg), .int (V1 (x0 + 10) (V1 x0 19).toNatClampNeg), .int x6, .int s0]) (rest := []) ⟨hx, hb, hml, hown, hts⟩ (k_Mod_enter l dC dI cI cR cZ b tP tN hk_x0 g7) (gx_cw 6 hts cd_Mod_enter tb_50 tb_776 tb_778 tb_26 rfl rfl ⟨by decide, by decide, by decide +kernel⟩ ⟨Nat.le_of_ble_eq_true rfl, Nat.le_of_ble_eq_true rfl⟩) (gy_preV (mx_XX b) hX hK hP hS (mx_lt hk_x0 (by decide)) (sh_Mod cI cZ b hk_x0 _) rfl) rfl rfl hl.1 rfl (lv_room (Nat.le_of_ble_eq_true rfl)) d_Mod_call_205 ⟨Nat.zero_le _, Nat.zero_le _⟩) hS (fun H locs hP hS => ?_)
      exact gx_vret hx hb hr hlk hP hS d_Mod_call_208 (by cases h; rfl) (by cases h; rfl)
    · have h := gx_neg g4 h
      refine lv_aload_n (pc := 139) hx hb d_Mod_call_139 rfl (lv_at hl 1 rfl) ?_
      refine lv_iload (pc := 140) hx hb d_Mod_call_140 (lv_at hl 4 rfl) ?_
      refine lv_iload (pc := 142) hx hb d_Mod_call_142 (lv_at hl 4 rfl) ?_
      refine lv_iload_n (pc := 144) hx hb d_Mod_call_144 rfl (lv_at hl 3 rfl) ?_
      refine lv_iload (pc := 145) hx hb d_Mod_call_145 (lv_at hl 5 rfl) ?_
      refine lv_iload (pc := 147) hx hb d_Mod_call_147 (lv_at hl 6 rfl) ?_
      refine lv_iload (pc := 149) hx hb d_Mod_call_149 (lv_at hl 5 rfl) ?_
      refine lv_if_eq (pc := 151) (tgt := 162) hx hb d_Mod_call_151 (by decide) (fun g8 => ?_) (fun g8 => ?_)
      · have h := gx_pos g8 h
        refine lv_iload (pc := 162) hx hb d_Mod_call_162 (lv_at hl 0 rfl) ?_
        obtain ⟨q2, g9, h⟩ := gx_bd h
        refine gx_cv (pc := 164) (va_runV (C := "GasLedgerModel") (As := [.int x4, .int x4, .int x2, .int x5, .int x6, .int s0]) (rest := []) ⟨hx, hb, hml, hown, hts⟩ (k_Mod_enter l dC dI cI cR cZ b tP tN hk_x0 g9) (gx_cw 6 hts cd_Mod_enter tb_50 tb_776 tb_778 tb_26 rfl rfl ⟨by decide, by decide, by decide +kernel⟩ ⟨Nat.le_of_ble_eq_true rfl, Nat.le_of_ble_eq_true rfl⟩) (gy_preV (mx_XX b) hX hK hP hS (mx_lt hk_x0 (by decide)) (sh_Mod cI cZ b hk_x0 _) rfl) rfl rfl hl.1 rfl (lv_room (Nat.le_of_ble_eq_true rfl)) d_Mod_call_164 ⟨Nat.zero_le _, Nat.zero_le _⟩) hS (fun H locs hP hS => ?_)
        refine lv_aload_n (pc := 167) hx hb d_Mod_call_167 rfl (lv_at hl 1 rfl) ?_
        refine lv_iload_n (pc := 168) hx hb d_Mod_call_168 rfl (lv_at hl 3 rfl) ?_
        refine lv_iload (pc := 169) hx hb d_Mod_call_169 (lv_at hl 4 rfl) ?_
        refine lv_iload (pc := 171) hx hb d_Mod_call_171 (lv_at hl 5 rfl) ?_
        obtain ⟨q3, g10, h⟩ := gx_bd h
        refine gx_cv (pc := 173) (va_runV (C := "GasLedgerModel") (As := [.int x2, .int x4, .int x5]) (rest := []) ⟨hx, hb, hml, hown, hts⟩ (k_Mod_give l dC dI cI cR cZ b tP tN hk_x0 g10) (gx_cw 3 hts cd_Mod_give tb_50 tb_780 tb_782 tb_27 rfl rfl ⟨by decide, by decide, by decide +kernel⟩ ⟨Nat.le_of_ble_eq_true rfl, Nat.le_of_ble_eq_true rfl⟩) (gy_preV (mx_XX b) hX hK hP hS (mx_lt hk_x0 (by decide)) (sh_Mod cI cZ b hk_x0 _) rfl) rfl rfl hl.1 rfl (lv_room (Nat.le_of_ble_eq_true rfl)) d_Mod_call_173 ⟨Nat.zero_le _, Nat.zero_le _⟩) hS (fun H locs hP hS => ?_)
        refine lv_goto (pc := 176) (tgt := 208) hx hb d_Mod_call_176 (by decide) ?_
        exact gx_vret hx hb hr hlk hP hS d_Mod_call_208 (by cases h; rfl) (by cases h; rfl)
      · have h := gx_neg g8 h
        refine lv_iload (pc := 154) hx hb d_Mod_call_154 (lv_at hl 0 rfl) ?_
        refine lv_bipush (pc := 156) (v := (10 : Int32)) hx hb d_Mod_call_156 (by decide) ?_
        refine lv_iadd (pc := 158) hx hb d_Mod_call_158 ?_
        refine lv_goto (pc := 159) (tgt := 164) hx hb d_Mod_call_159 (by decide) ?_
        obtain ⟨q4, g11, h⟩ := gx_bd h
        refine gx_cv (pc := 164) (va_runV (C := "GasLedgerModel") (As := [.int x4, .int x4, .int x2, .int x5, .int x6, .int (s0 + (10 : Int32))]) (rest := []) ⟨hx, hb, hml, hown, hts⟩ (k_Mod_enter l dC dI cI cR cZ b tP tN hk_x0 g11) (gx_cw 6 hts cd_Mod_enter tb_50 tb_776 tb_778 tb_26 rfl rfl ⟨by decide, by decide, by decide +kernel⟩ ⟨Nat.le_of_ble_eq_true rfl, Nat.le_of_ble_eq_true rfl⟩) (gy_preV (mx_XX b) hX hK hP hS (mx_lt hk_x0 (by decide)) (sh_Mod cI cZ b hk_x0 _) rfl) rfl rfl hl.1 rfl (lv_room (Nat.le_of_ble_eq_true rfl)) d_Mod_call_164 ⟨Nat.zero_le _, Nat.zero_le _⟩) hS (fun H locs hP hS => ?_)
        refine lv_aload_n (pc := 167) hx hb d_Mod_call_167 rfl (lv_at hl 1 rfl) ?_
        refine lv_iload_n (pc := 168) hx hb d_Mod_call_168 rfl (lv_at hl 3 rfl) ?_
        refine lv_iload (pc := 169) hx hb d_Mod_call_169 (lv_at hl 4 rfl) ?_
        refine lv_iload (pc := 171) hx hb d_Mod_call_171 (lv_at hl 5 rfl) ?_
        obtain ⟨q5, g12, h⟩ := gx_bd h
        refine gx_cv (pc := 173) (va_runV (C := "GasLedgerModel") (As := [.int x2, .int x4, .int x5]) (rest := []) ⟨hx, hb, hml, hown, hts⟩ (k_Mod_give l dC dI cI cR cZ b tP tN hk_x0 g12) (gx_cw 3 hts cd_Mod_give tb_50 tb_780 tb_782 tb_27 rfl rfl ⟨by decide, by decide, by decide +kernel⟩ ⟨Nat.le_of_ble_eq_true rfl, Nat.le_of_ble_eq_true rfl⟩) (gy_preV (mx_XX b) hX hK hP hS (mx_lt hk_x0 (by decide)) (sh_Mod cI cZ b hk_x0 _) rfl) rfl rfl hl.1 rfl (lv_room (Nat.le_of_ble_eq_true rfl)) d_Mod_call_173 ⟨Nat.zero_le _, Nat.zero_le _⟩) hS (fun H locs hP hS => ?_)
        refine lv_goto (pc := 176) (tgt := 208) hx hb d_Mod_call_176 (by decide) ?_
        exact gx_vret hx hb hr hlk hP hS d_Mod_call_208 (by cases h; rfl) (by cases h; rfl)
  have B_33 : ∀ (x0 : Nat) (x1 : Int32) (x2 : Int32) (x3 : Int32) (x4 : Int32) (s0 : Int32), mx_kd x0 = 6 → ∀ (V : gx_M) (H : Heap) (locs : List Loc) (ls : Array Slot), lv_has ls 8 [(0, .ref (b + x0)), (1, .int x1), (2, .int x2), (3, .int x3), (4, .int x4)] → va_P (dC, dI) cx_cl (gx_w b 22 (gx_v (mx_sh cI cZ b) V)) H → va_S (gx_A b 22) s.heap H locs → F_Mod_call_33 x0 x1 x2 x3 x4 s0 V = some q → W p l e (headSpec w_Mod_call rm_Mod_call).room s m args below meth c H locs 0 0 (MQ below (gx_Q (dC, dI) cx_cl b 22 (mx_sh cI cZ b) none q) args s 0 0 (gx_A b 22)) (F0 m 33 ls [.int s0]) := by
    intro x0 x1 x2 x3 x4 s0 hk_x0 V H locs ls hl hP hS h
    unfold F_Mod_call_33 at h
    refine lv_istore (pc := 33) (lv' := [(5, .int s0), (0, .ref (b + x0)), (1, .int x1), (2, .int x2), (3, .int x3), (4, .int x4)]) hx hb d_Mod_call_33 hl (by decide) rfl (fun ls hl => ?_)
    refine lv_aload_n (pc := 35) hx hb d_Mod_call_35 rfl (lv_at hl 1 rfl) ?_
    obtain ⟨q6, g13, h⟩ := gx_bd h
    refine gx_ci (pc := 36) (va_runV (C := "GasLedgerModel") (As := []) (rest := []) ⟨hx, hb, hml, hown, hts⟩ (k_Mod_pop l dC dI cI cR cZ b tP tN hk_x0 g13) (gx_cw 0 hts cd_Mod_pop tb_50 tb_819 tb_821 tb_35 rfl rfl ⟨by decide, by decide, by decide +kernel⟩ ⟨Nat.le_of_ble_eq_true rfl, Nat.le_of_ble_eq_true rfl⟩) (gy_preV (mx_XX b) hX hK hP hS (mx_lt hk_x0 (by decide)) (sh_Mod cI cZ b hk_x0 _) rfl) rfl rfl hl.1 rfl (lv_room (Nat.le_of_ble_eq_true rfl)) d_Mod_call_36 ⟨Nat.zero_le _, Nat.zero_le _⟩) hS (fun H locs hP hS => ?_)
    refine lv_istore (pc := 39) (lv' := [(6, .int q6.1), (5, .int s0), (0, .ref (b + x0)), (1, .int x1), (2, .int x2), (3, .int x3), (4, .int x4)]) hx hb d_Mod_call_39 hl (by decide) rfl (fun ls hl => ?_)
    refine lv_iload (pc := 41) hx hb d_Mod_call_41 (lv_at hl 6 rfl) ?_
    refine lv_bipush (pc := 43) (v := (16 : Int32)) hx hb d_Mod_call_43 (by decide) ?_
    obtain ⟨q7, g14, h⟩ := gx_bd h
    refine gx_ci (pc := 45) (va_runS (As := [.int x4, .int (16 : Int32)]) (rest := []) ⟨hx, hb, hml, hown, hts⟩ (k_Mod_in l dC dI cI cR cZ b tP tN  g14) (gx_cs 2 hts cd_Mod_in tb_50 tb_724 tb_725 rfl rfl ⟨by decide, by decide, by decide +kernel⟩ ⟨Nat.le_of_ble_eq_true rfl, Nat.le_of_ble_eq_true rfl⟩) (gy_pre (mx_XX b) hX hK hP hS) rfl rfl hl.1 rfl (lv_room (Nat.le_of_ble_eq_true rfl)) d_Mod_call_45 ⟨Nat.zero_le _, Nat.zero_le _⟩) hS (fun H locs hP hS => ?_)
    refine lv_if_eq (pc := 48) (tgt := 74) hx hb d_Mod_call_48 (by decide) (fun g15 => ?_) (fun g15 => ?_)
    · have h := gx_pos g15 h
      refine lv_aload_n (pc := 74) hx hb d_Mod_call_74 rfl (lv_at hl 2 rfl) ?_
      refine lv_iconst (pc := 75) (v := (0 : Int32)) hx hb d_Mod_call_75 (by decide) ?_
      obtain ⟨q8, g16, h⟩ := gx_bd h
      refine gx_cv (pc := 76) (va_runV (C := "GasLedgerModel") (As := [.int (0 : Int32)]) (rest := []) ⟨hx, hb, hml, hown, hts⟩ (k_Mod_push l dC dI cI cR cZ b tP tN hk_x0 g16) (gx_cw 1 hts cd_Mod_push tb_50 tb_793 tb_795 tb_30 rfl rfl ⟨by decide, by decide, by decide +kernel⟩ ⟨Nat.le_of_ble_eq_true rfl, Nat.le_of_ble_eq_true rfl⟩) (gy_preV (mx_XX b) hX hK hP hS (mx_lt hk_x0 (by decide)) (sh_Mod cI cZ b hk_x0 _) rfl) rfl rfl hl.1 rfl (lv_room (Nat.le_of_ble_eq_true rfl)) d_Mod_call_76 ⟨Nat.zero_le _, Nat.zero_le _⟩) hS (fun H locs hP hS => ?_)
      refine lv_aload_n (pc := 79) hx hb d_Mod_call_79 rfl (lv_at hl 2 rfl) ?_
      refine lv_iconst (pc := 80) (v := (0 : Int32)) hx hb d_Mod_call_80 (by decide) ?_
      obtain ⟨q9, g17, h⟩ := gx_bd h
      refine gx_cv (pc := 81) (va_runV (C := "GasLedgerModel") (As := [.int (0 : Int32)]) (rest := []) ⟨hx, hb, hml, hown, hts⟩ (k_Mod_push l dC dI cI cR cZ b tP tN hk_x0 g17) (gx_cw 1 hts cd_Mod_push tb_50 tb_793 tb_795 tb_30 rfl rfl ⟨by decide, by decide, by decide +kernel⟩ ⟨Nat.le_of_ble_eq_true rfl, Nat.le_of_ble_eq_true rfl⟩) (gy_preV (mx_XX b) hX hK hP hS (mx_lt hk_x0 (by decide)) (sh_Mod cI cZ b hk_x0 _) rfl) rfl rfl hl.1 rfl (lv_room (Nat.le_of_ble_eq_true rfl)) d_Mod_call_81 ⟨Nat.zero_le _, Nat.zero_le _⟩) hS (fun H locs hP hS => ?_)
      exact gx_vret hx hb hr hlk hP hS d_Mod_call_84 (by cases h; rfl) (by cases h; rfl)
    · have h := gx_neg g15 h
      refine lv_aload_n (pc := 51) hx hb d_Mod_call_51 rfl (lv_at hl 2 rfl) ?_
      refine va_get (pc := 52) (D := (dC, dI)) (ci := 6) (C := R_Mod) (T := T_Mod) (N := 39) hx hb hts in_Mod hown hK hP x0 (gx_at (mx_lt hk_x0 (by decide)) (sh_Mod cI cZ b hk_x0 _)) rfl 0 (by decide) (hts _ tb_601) (fun _ h9 => h9) rfl d_Mod_call_52 ?_
      refine lv_bipush (pc := 55) (v := (36 : Int32)) hx hb d_Mod_call_55 (by decide) ?_
      refine lv_iload_n (pc := 57) hx hb d_Mod_call_57 rfl (lv_at hl 4 rfl) ?_
      refine lv_imul (pc := 58) hx hb d_Mod_call_58 ?_
      obtain ⟨g18, h⟩ := gx_if h
      refine va_iald (pc := 59) hx hb hK hP (x0 + 1) 0 (gx_at (mx_lt (to_Mod_now hk_x0) (by decide)) (mh_arr cI cZ b (n := 576) (to_Mod_now hk_x0) (by decide) _)) rfl g18 d_Mod_call_59 ?_
      refine lv_iload (pc := 60) hx hb d_Mod_call_60 (lv_at hl 1 rfl) ?_
      refine lv_icmp_lt (pc := 62) (tgt := 74) hx hb d_Mod_call_62 (by decide) (fun g19 => ?_) (fun g19 => ?_)
      · have h := gx_pos g19 h
        refine lv_aload_n (pc := 74) hx hb d_Mod_call_74 rfl (lv_at hl 2 rfl) ?_
        refine lv_iconst (pc := 75) (v := (0 : Int32)) hx hb d_Mod_call_75 (by decide) ?_
        obtain ⟨q10, g20, h⟩ := gx_bd h
        refine gx_cv (pc := 76) (va_runV (C := "GasLedgerModel") (As := [.int (0 : Int32)]) (rest := []) ⟨hx, hb, hml, hown, hts⟩ (k_Mod_push l dC dI cI cR cZ b tP tN hk_x0 g20) (gx_cw 1 hts cd_Mod_push tb_50 tb_793 tb_795 tb_30 rfl rfl ⟨by decide, by decide, by decide +kernel⟩ ⟨Nat.le_of_ble_eq_true rfl, Nat.le_of_ble_eq_true rfl⟩) (gy_preV (mx_XX b) hX hK hP hS (mx_lt hk_x0 (by decide)) (sh_Mod cI cZ b hk_x0 _) rfl) rfl rfl hl.1 rfl (lv_room (Nat.le_of_ble_eq_true rfl)) d_Mod_call_76 ⟨Nat.zero_le _, Nat.zero_le _⟩) hS (fun H locs hP hS => ?_)
        refine lv_aload_n (pc := 79) hx hb d_Mod_call_79 rfl (lv_at hl 2 rfl) ?_
        refine lv_iconst (pc := 80) (v := (0 : Int32)) hx hb d_Mod_call_80 (by decide) ?_
        obtain ⟨q11, g21, h⟩ := gx_bd h
        refine gx_cv (pc := 81) (va_runV (C := "GasLedgerModel") (As := [.int (0 : Int32)]) (rest := []) ⟨hx, hb, hml, hown, hts⟩ (k_Mod_push l dC dI cI cR cZ b tP tN hk_x0 g21) (gx_cw 1 hts cd_Mod_push tb_50 tb_793 tb_795 tb_30 rfl rfl ⟨by decide, by decide, by decide +kernel⟩ ⟨Nat.le_of_ble_eq_true rfl, Nat.le_of_ble_eq_true rfl⟩) (gy_preV (mx_XX b) hX hK hP hS (mx_lt hk_x0 (by decide)) (sh_Mod cI cZ b hk_x0 _) rfl) rfl rfl hl.1 rfl (lv_room (Nat.le_of_ble_eq_true rfl)) d_Mod_call_81 ⟨Nat.zero_le _, Nat.zero_le _⟩) hS (fun H locs hP hS => ?_)
        exact gx_vret hx hb hr hlk hP hS d_Mod_call_84 (by cases h; rfl) (by cases h; rfl)
      · have h := gx_neg g19 h
        refine lv_aload_n (pc := 65) hx hb d_Mod_call_65 rfl (lv_at hl 2 rfl) ?_
        refine va_get (pc := 66) (D := (dC, dI)) (ci := 6) (C := R_Mod) (T := T_Mod) (N := 39) hx hb hts in_Mod hown hK hP x0 (gx_at (mx_lt hk_x0 (by decide)) (sh_Mod cI cZ b hk_x0 _)) rfl 19 (by decide) (hts _ tb_620) (fun _ h9 => h9) rfl d_Mod_call_66 ?_
        refine lv_bipush (pc := 69) (v := (7 : Int32)) hx hb d_Mod_call_69 (by decide) ?_
        refine lv_icmp_ne (pc := 71) (tgt := 85) hx hb d_Mod_call_71 (by decide) (fun g22 => ?_) (fun g22 => ?_)
        · have h := gx_neg g22 h
          refine lv_iload_n (pc := 85) hx hb d_Mod_call_85 rfl (lv_at hl 5 rfl) ?_
          refine lv_if_ge (pc := 86) (tgt := 93) hx hb d_Mod_call_86 (by decide) (fun g23 => ?_) (fun g23 => ?_)
          · have h := gx_pos g23 h
            refine lv_iload_n (pc := 93) hx hb d_Mod_call_93 rfl (lv_at hl 5 rfl) ?_
            refine lv_aload_n (pc := 94) hx hb d_Mod_call_94 rfl (lv_at hl 2 rfl) ?_
            refine va_get (pc := 95) (D := (dC, dI)) (ci := 6) (C := R_Mod) (T := T_Mod) (N := 39) hx hb hts in_Mod hown hK hP x0 (gx_at (mx_lt hk_x0 (by decide)) (sh_Mod cI cZ b hk_x0 _)) rfl 26 (by decide) (hts _ tb_627) (fun _ h9 => h9) rfl d_Mod_call_95 ?_
            refine lv_aload_n (pc := 98) hx hb d_Mod_call_98 rfl (lv_at hl 2 rfl) ?_
            refine va_get (pc := 99) (D := (dC, dI)) (ci := 6) (C := R_Mod) (T := T_Mod) (N := 39) hx hb hts in_Mod hown hK hP x0 (gx_at (mx_lt hk_x0 (by decide)) (sh_Mod cI cZ b hk_x0 _)) rfl 19 (by decide) (hts _ tb_620) (fun _ h9 => h9) rfl d_Mod_call_99 ?_
            obtain ⟨g24, h⟩ := gx_if h
            refine va_iald (pc := 102) hx hb hK hP (x0 + 12) 0 (gx_at (mx_lt (to_Mod_gas hk_x0) (by decide)) (mh_arr cI cZ b (n := 8) (to_Mod_gas hk_x0) (by decide) _)) rfl g24 d_Mod_call_102 ?_
            refine lv_icmp_ge (pc := 103) (tgt := 110) hx hb d_Mod_call_103 (by decide) (fun g25 => ?_) (fun g25 => ?_)
            · have h := gx_pos g25 h
              refine lv_aload_n (pc := 110) hx hb d_Mod_call_110 rfl (lv_at hl 2 rfl) ?_
              refine va_get (pc := 111) (D := (dC, dI)) (ci := 6) (C := R_Mod) (T := T_Mod) (N := 39) hx hb hts in_Mod hown hK hP x0 (gx_at (mx_lt hk_x0 (by decide)) (sh_Mod cI cZ b hk_x0 _)) rfl 26 (by decide) (hts _ tb_627) (fun _ h9 => h9) rfl d_Mod_call_111 ?_
              refine lv_aload_n (pc := 114) hx hb d_Mod_call_114 rfl (lv_at hl 2 rfl) ?_
              refine va_get (pc := 115) (D := (dC, dI)) (ci := 6) (C := R_Mod) (T := T_Mod) (N := 39) hx hb hts in_Mod hown hK hP x0 (gx_at (mx_lt hk_x0 (by decide)) (sh_Mod cI cZ b hk_x0 _)) rfl 19 (by decide) (hts _ tb_620) (fun _ h9 => h9) rfl d_Mod_call_115 ?_
              obtain ⟨g26, h⟩ := gx_if h
              refine va_iald (pc := 118) hx hb hK hP (x0 + 12) 0 (gx_at (mx_lt (to_Mod_gas hk_x0) (by decide)) (mh_arr cI cZ b (n := 8) (to_Mod_gas hk_x0) (by decide) _)) rfl g26 d_Mod_call_118 ?_
              exact B_119   _ _ _ _ _ _ _ hk_x0 _ _ _ _ (lv_sub hl [2, 3, 4, 6, 1, 0] rfl) hP hS h
            · have h := gx_neg g25 h
              refine lv_iload_n (pc := 106) hx hb d_Mod_call_106 rfl (lv_at hl 5 rfl) ?_
              refine lv_goto (pc := 107) (tgt := 119) hx hb d_Mod_call_107 (by decide) ?_
              exact B_119   _ _ _ _ _ _ _ hk_x0 _ _ _ _ (lv_sub hl [2, 3, 4, 6, 1, 0] rfl) hP hS h
          · have h := gx_neg g23 h
            refine lv_iconst (pc := 89) (v := (0 : Int32)) hx hb d_Mod_call_89 (by decide) ?_
            refine lv_goto (pc := 90) (tgt := 119) hx hb d_Mod_call_90 (by decide) ?_
            exact B_119   _ _ _ _ _ _ _ hk_x0 _ _ _ _ (lv_sub hl [2, 3, 4, 6, 1, 0] rfl) hP hS h
        · have h := gx_pos g22 h
          refine lv_aload_n (pc := 74) hx hb d_Mod_call_74 rfl (lv_at hl 2 rfl) ?_
          refine lv_iconst (pc := 75) (v := (0 : Int32)) hx hb d_Mod_call_75 (by decide) ?_
          obtain ⟨q12, g27, h⟩ := gx_bd h
          refine gx_cv (pc := 76) (va_runV (C := "GasLedgerModel") (As := [.int (0 : Int32)]) (rest := []) ⟨hx, hb, hml, hown, hts⟩ (k_Mod_push l dC dI cI cR cZ b tP tN hk_x0 g27) (gx_cw 1 hts cd_Mod_push tb_50 tb_793 tb_795 tb_30 rfl rfl ⟨by decide, by decide, by decide +kernel⟩ ⟨Nat.le_of_ble_eq_true rfl, Nat.le_of_ble_eq_true rfl⟩) (gy_preV (mx_XX b) hX hK hP hS (mx_lt hk_x0 (by decide)) (sh_Mod cI cZ b hk_x0 _) rfl) rfl rfl hl.1 rfl (lv_room (Nat.le_of_ble_eq_true rfl)) d_Mod_call_76 ⟨Nat.zero_le _, Nat.zero_le _⟩) hS (fun H locs hP hS => ?_)
          refine lv_aload_n (pc := 79) hx hb d_Mod_call_79 rfl (lv_at hl 2 rfl) ?_
          refine lv_iconst (pc := 80) (v := (0 : Int32)) hx hb d_Mod_call_80 (by decide) ?_
          obtain ⟨q13, g28, h⟩ := gx_bd h
          refine gx_cv (pc := 81) (va_runV (C := "GasLedgerModel") (As := [.int (0 : Int32)]) (rest := []) ⟨hx, hb, hml, hown, hts⟩ (k_Mod_push l dC dI cI cR cZ b tP tN hk_x0 g28) (gx_cw 1 hts cd_Mod_push tb_50 tb_793 tb_795 tb_30 rfl rfl ⟨by decide, by decide, by decide +kernel⟩ ⟨Nat.le_of_ble_eq_true rfl, Nat.le_of_ble_eq_true rfl⟩) (gy_preV (mx_XX b) hX hK hP hS (mx_lt hk_x0 (by decide)) (sh_Mod cI cZ b hk_x0 _) rfl) rfl rfl hl.1 rfl (lv_room (Nat.le_of_ble_eq_true rfl)) d_Mod_call_81 ⟨Nat.zero_le _, Nat.zero_le _⟩) hS (fun H locs hP hS => ?_)
          exact gx_vret hx hb hr hlk hP hS d_Mod_call_84 (by cases h; rfl) (by cases h; rfl)
  unfold F_Mod_call at h
  refine lv_aload_n (pc := 0) hx hb d_Mod_call_0 rfl (lv_at hl 0 rfl) ?_
  refine va_get (pc := 1) (D := (dC, dI)) (ci := 6) (C := R_Mod) (T := T_Mod) (N := 39) hx hb hts in_Mod hown hK hP x0 (gx_at (mx_lt hk0 (by decide)) (sh_Mod cI cZ b hk0 _)) rfl 20 (by decide) (hts _ tb_621) (fun _ h9 => h9) rfl d_Mod_call_1 ?_
  refine lv_aload_n (pc := 4) hx hb d_Mod_call_4 rfl (lv_at hl 0 rfl) ?_
  refine va_get (pc := 5) (D := (dC, dI)) (ci := 6) (C := R_Mod) (T := T_Mod) (N := 39) hx hb hts in_Mod hown hK hP x0 (gx_at (mx_lt hk0 (by decide)) (sh_Mod cI cZ b hk0 _)) rfl 19 (by decide) (hts _ tb_620) (fun _ h9 => h9) rfl d_Mod_call_5 ?_
  obtain ⟨g29, h⟩ := gx_if h
  refine va_iald (pc := 8) hx hb hK hP (x0 + 6) 0 (gx_at (mx_lt (to_Mod_self hk0) (by decide)) (mh_arr cI cZ b (n := 8) (to_Mod_self hk0) (by decide) _)) rfl g29 d_Mod_call_8 ?_
  refine lv_istore_n (pc := 9) (lv' := [(2, .int (V (x0 + 6) (V x0 19).toNatClampNeg)), (0, .ref (b + x0)), (1, .int x1)]) hx hb d_Mod_call_9 rfl hl (by decide) rfl (fun ls hl => ?_)
  refine lv_aload_n (pc := 10) hx hb d_Mod_call_10 rfl (lv_at hl 1 rfl) ?_
  obtain ⟨q14, g30, h⟩ := gx_bd h
  refine gx_ci (pc := 11) (va_runV (C := "GasLedgerModel") (As := []) (rest := []) ⟨hx, hb, hml, hown, hts⟩ (k_Mod_pop l dC dI cI cR cZ b tP tN hk0 g30) (gx_cw 0 hts cd_Mod_pop tb_50 tb_819 tb_821 tb_35 rfl rfl ⟨by decide, by decide, by decide +kernel⟩ ⟨Nat.le_of_ble_eq_true rfl, Nat.le_of_ble_eq_true rfl⟩) (gy_preV (mx_XX b) hX hK hP hS (mx_lt hk0 (by decide)) (sh_Mod cI cZ b hk0 _) rfl) rfl rfl hl.1 rfl (lv_room (Nat.le_of_ble_eq_true rfl)) d_Mod_call_11 ⟨Nat.zero_le _, Nat.zero_le _⟩) hS (fun H locs hP hS => ?_)
  refine lv_istore_n (pc := 14) (lv' := [(3, .int q14.1), (2, .int (V (x0 + 6) (V x0 19).toNatClampNeg)), (0, .ref (b + x0)), (1, .int x1)]) hx hb d_Mod_call_14 rfl hl (by decide) rfl (fun ls hl => ?_)
  refine lv_aload_n (pc := 15) hx hb d_Mod_call_15 rfl (lv_at hl 2 rfl) ?_
  obtain ⟨q15, g31, h⟩ := gx_bd h
  refine gx_ci (pc := 16) (va_runV (C := "GasLedgerModel") (As := []) (rest := []) ⟨hx, hb, hml, hown, hts⟩ (k_Mod_pop l dC dI cI cR cZ b tP tN hk0 g31) (gx_cw 0 hts cd_Mod_pop tb_50 tb_819 tb_821 tb_35 rfl rfl ⟨by decide, by decide, by decide +kernel⟩ ⟨Nat.le_of_ble_eq_true rfl, Nat.le_of_ble_eq_true rfl⟩) (gy_preV (mx_XX b) hX hK hP hS (mx_lt hk0 (by decide)) (sh_Mod cI cZ b hk0 _) rfl) rfl rfl hl.1 rfl (lv_room (Nat.le_of_ble_eq_true rfl)) d_Mod_call_16 ⟨Nat.zero_le _, Nat.zero_le _⟩) hS (fun H locs hP hS => ?_)
  refine lv_istore (pc := 19) (lv' := [(4, .int q15.1), (3, .int q14.1), (2, .int (V (x0 + 6) (V x0 19).toNatClampNeg)), (0, .ref (b + x0)), (1, .int x1)]) hx hb d_Mod_call_19 hl (by decide) rfl (fun ls hl => ?_)
  refine lv_iload_n (pc := 21) hx hb d_Mod_call_21 rfl (lv_at hl 4 rfl) ?_
  refine lv_if_eq (pc := 22) (tgt := 32) hx hb d_Mod_call_22 (by decide) (fun g32 => ?_) (fun g32 => ?_)
  · have h := gx_pos g32 h
    refine lv_iconst (pc := 32) (v := (0 : Int32)) hx hb d_Mod_call_32 (by decide) ?_
    exact B_33   _ _ _ _ _ _ hk0 _ _ _ _ (lv_sub hl [3, 4, 2, 1, 0] rfl) hP hS h
  · have h := gx_neg g32 h
    refine lv_aload_n (pc := 25) hx hb d_Mod_call_25 rfl (lv_at hl 3 rfl) ?_
    obtain ⟨q16, g33, h⟩ := gx_bd h
    refine gx_ci (pc := 26) (va_runV (C := "GasLedgerModel") (As := []) (rest := []) ⟨hx, hb, hml, hown, hts⟩ (k_Mod_pop l dC dI cI cR cZ b tP tN hk0 g33) (gx_cw 0 hts cd_Mod_pop tb_50 tb_819 tb_821 tb_35 rfl rfl ⟨by decide, by decide, by decide +kernel⟩ ⟨Nat.le_of_ble_eq_true rfl, Nat.le_of_ble_eq_true rfl⟩) (gy_preV (mx_XX b) hX hK hP hS (mx_lt hk0 (by decide)) (sh_Mod cI cZ b hk0 _) rfl) rfl rfl hl.1 rfl (lv_room (Nat.le_of_ble_eq_true rfl)) d_Mod_call_26 ⟨Nat.zero_le _, Nat.zero_le _⟩) hS (fun H locs hP hS => ?_)
    refine lv_goto (pc := 29) (tgt := 33) hx hb d_Mod_call_29 (by decide) ?_
    exact B_33   _ _ _ _ _ _ hk0 _ _ _ _ (lv_sub hl [3, 4, 2, 1, 0] rfl) hP hS h
