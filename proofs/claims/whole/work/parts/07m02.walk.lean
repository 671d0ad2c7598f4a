abbrev rm_Mod_part : Room := { frames := 1, cells := 0, slots := 0, locals := 22 }
def F_Mod_part_111 : Nat → Nat → Int32 → Int32 → Int32 → Int32 → Int32 → Int32 → gx_M → Option (Int32 × gx_M)
  | 0, _, _, _, _, _, _, _, _ => none
  | nf + 1, x0, x2, x3, x4, x6, x7, x8, V => (if (x6 >>> (((x4 - x8) - (1 : Int32)) &&& 31)) = (x7 >>> (((x4 - x8) - (1 : Int32)) &&& 31)) then (F_Mod_part_111 nf  x0 x2 x3 x4 x6 x7 (x8 + (1 : Int32)) V) else (if x8 = 0 then (if gx_ib (((2 : Int32) <<< (x2 &&& 31)) + ((2 : Int32) * x3)) 32 then ((F_Mod_mix (3 : Int32) (V (x0 + 18) (((2 : Int32) <<< (x2 &&& 31)) + ((2 : Int32) * x3)).toNatClampNeg) V).bind fun q3 => (if gx_ib ((((2 : Int32) <<< (x2 &&& 31)) + ((2 : Int32) * x3)) + (1 : Int32)) 32 then ((F_Mod_mix q3.1 (q3.2 (x0 + 18) ((((2 : Int32) <<< (x2 &&& 31)) + ((2 : Int32) * x3)) + (1 : Int32)).toNatClampNeg) q3.2).bind fun q4 => some (q4.1, q4.2)) else none)) else none) else ((F_Mod_mix (2 : Int32) (((1 : Int32) <<< (x8 &&& 31)) ||| ((x6 >>> ((x4 - x8) &&& 31)) - (x3 <<< (x8 &&& 31)))) V).bind fun q1 => (if gx_ib (((1 : Int32) <<< ((x2 + x8) &&& 31)) + (x6 >>> ((x4 - x8) &&& 31))) 32 then ((F_Mod_mix q1.1 (q1.2 (x0 + 18) (((1 : Int32) <<< ((x2 + x8) &&& 31)) + (x6 >>> ((x4 - x8) &&& 31))).toNatClampNeg) q1.2).bind fun q2 => some (q2.1, q2.2)) else none))))
def F_Mod_part_20 : Nat → Nat → Int32 → Int32 → Int32 → Int32 → Int32 → Int32 → Int32 → gx_M → Option (Int32 × gx_M)
  | 0, _, _, _, _, _, _, _, _, _ => none
  | nf + 1, x0, x2, x3, x4, x5, x6, x7, x8, V => (if ((x3 + (1 : Int32)) <<< (x4 &&& 31)) ≤ x8 then (if x5 = 0 then some ((0 : Int32), V) else (if x5 = (1 : Int32) then ((F_Mod_mix (1 : Int32) (((1 : Int32) <<< (x4 &&& 31)) ||| (x6 - (x3 <<< (x4 &&& 31)))) V).bind fun q5 => (if gx_ib x6 16 then ((F_Mod_mix q5.1 (q5.2 (x0 + 20) x6.toNatClampNeg) q5.2).bind fun q6 => some (q6.1, q6.2)) else none)) else (F_Mod_part_111 100  x0 x2 x3 x4 x6 x7 (0 : Int32) V))) else (if gx_ib x8 16 then (if (V (x0 + 19) x8.toNatClampNeg) = 0 then (F_Mod_part_20 nf  x0 x2 x3 x4 x5 x6 x7 (x8 + (1 : Int32)) V) else (if x5 = 0 then (F_Mod_part_20 nf  x0 x2 x3 x4 (x5 + (1 : Int32)) x8 x8 (x8 + (1 : Int32)) V) else (F_Mod_part_20 nf  x0 x2 x3 x4 (x5 + (1 : Int32)) x6 x8 (x8 + (1 : Int32)) V))) else none))
def F_Mod_part (x0 : Nat) (x1 : Int32) (x2 : Int32) (x3 : Int32) (V : gx_M) : Option (Int32 × gx_M) := (F_Mod_part_20 100  x0 x2 x3 (x1 - x2) (0 : Int32) (-1 : Int32) (-1 : Int32) (x3 <<< ((x1 - x2) &&& 31)) V)
set_option maxRecDepth 100000 in
set_option maxHeartbeats 8000000 in
theorem k_Mod_part (l : Launch) (dC : Nat → ClassId) (dI : Nat → Nat → Nat) (cI cR cZ : ClassId) (b tP tN : Nat) {x0 : Nat} {x1 : Int32} {x2 : Int32} {x3 : Int32} {V : gx_M} {q : (Int32 × gx_M)} (hk0 : mx_kd x0 = 6) (h : F_Mod_part x0 x1 x2 x3 V = some q) : mx_C l dC dI cI cR cZ b tP tN y_Mod_part w_Mod_part rm_Mod_part [.ref (b + x0), .int x1, .int x2, .int x3] V (some (.int q.1)) q.2 := by
  refine gx_start (cc := b_Mod_part) (maxL := 10) (ret := rt_Mod_part) (by decide) rfl (Nat.le_of_ble_eq_true rfl) ?_
  intro p e s m args below meth c ls hx hb hr hts hown hlk hml hl hP hK hX hS
  have hts : ∀ w ∈ cx_tb, w.before args s = true := fun w hw => hts w (List.mem_cons_of_mem _ hw)
  have hown : s.vm.findClass "GasLedgerModel" = some m.cls := hown
  have hl : lv_has ls 10 [(0, .ref (b + x0)), (1, .int x1), (2, .int x2), (3, .int x3)] := hl
  have B_111 : ∀ (nf : Nat), ∀ (x0 : Nat) (x2 : Int32) (x3 : Int32) (x4 : Int32) (x6 : Int32) (x7 : Int32) (x8 : Int32), mx_kd x0 = 6 → ∀ (V : gx_M) (H : Heap) (locs : List Loc) (ls : Array Slot), lv_has ls 10 [(0, .ref (b + x0)), (2, .int x2), (3, .int x3), (4, .int x4), (6, .int x6), (7, .int x7), (8, .int x8)] → va_P (dC, dI) cx_cl (gx_w b 22 (gx_v (mx_sh cI cZ b) V)) H → va_S (gx_A b 22) s.heap H locs → F_Mod_part_111 nf x0 x2 x3 x4 x6 x7 x8 V = some q → W p l e (headSpec w_Mod_part rm_Mod_part).room s m args below meth c H locs 0 0 (MQ below (gx_Q (dC, dI) cx_cl b 22 (mx_sh cI cZ b) (some (.int q.1)) q.2) args s 0 0 (gx_A b 22)) (F0 m 111 ls []) := by
    intro nf
    induction nf with
    | zero => intro x0 x2 x3 x4 x6 x7 x8 hk_x0 V H locs ls hl hP hS h; cases h
    | succ nf ihl =>
      intro x0 x2 x3 x4 x6 x7 x8 hk_x0 V H locs ls hl hP hS h
      rw [F_Mod_part_111] at h
      refine lv_iload (pc := 111) hx hb d_Mod_part_111 (lv_at hl 4 rfl) ?_
      refine lv_iload (pc := 113) hx hb d_Mod_part_113 (lv_at hl 3 rfl) ?_
      refine lv_iload (pc := 115) hx hb d_Mod_part_115 (lv_at hl 6 rfl) ?_
      refine lv_isub (pc := 117) hx hb d_Mod_part_117 ?_
      refine lv_iconst (pc := 118) (v := (1 : Int32)) hx hb d_Mod_part_118 (by decide) ?_
      refine lv_isub (pc := 119) hx hb d_Mod_part_119 ?_
      refine lv_ishr (pc := 120) hx hb d_Mod_part_120 ?_
      refine lv_iload (pc := 121) hx hb d_Mod_part_121 (lv_at hl 5 rfl) ?_
      refine lv_iload (pc := 123) hx hb d_Mod_part_123 (lv_at hl 3 rfl) ?_
      refine lv_iload (pc := 125) hx hb d_Mod_part_125 (lv_at hl 6 rfl) ?_
      refine lv_isub (pc := 127) hx hb d_Mod_part_127 ?_
      refine lv_iconst (pc := 128) (v := (1 : Int32)) hx hb d_Mod_part_128 (by decide) ?_
      refine lv_isub (pc := 129) hx hb d_Mod_part_129 ?_
      refine lv_ishr (pc := 130) hx hb d_Mod_part_130 ?_
      refine lv_icmp_ne (pc := 131) (tgt := 140) hx hb d_Mod_part_131 (by decide) (fun g1 => ?_) (fun g1 => ?_)
      · have h := gx_neg g1 h
        refine lv_iload (pc := 140) hx hb d_Mod_part_140 (lv_at hl 6 rfl) ?_
        refine lv_if_ne (pc := 142) (tgt := 179) hx hb d_Mod_part_142 (by decide) (fun g2 => ?_) (fun g2 => ?_)
        · have h := gx_neg g2 h
          refine lv_iload (pc := 179) hx hb d_Mod_part_179 (lv_at hl 4 rfl) ?_
          refine lv_iload (pc := 181) hx hb d_Mod_part_181 (lv_at hl 3 rfl) ?_
          refine lv_iload (pc := 183) hx hb d_Mod_part_183 (lv_at hl 6 rfl) ?_
          refine lv_isub (pc := 185) hx hb d_Mod_part_185 ?_
          refine lv_ishr (pc := 186) hx hb d_Mod_part_186 ?_
          refine lv_istore (pc := 187) (lv' := [(9, .int (x6 >>> ((x4 - x8) &&& 31))), (0, .ref (b + x0)), (2, .int x2), (3, .int x3), (4, .int x4), (6, .int x6), (7, .int x7), (8, .int x8)]) hx hb d_Mod_part_187 hl (by decide) rfl (fun ls hl => ?_)
          refine lv_iconst (pc := 189) (v := (2 : Int32)) hx hb d_Mod_part_189 (by decide) ?_
          refine lv_iconst (pc := 190) (v := (1 : Int32)) hx hb d_Mod_part_190 (by decide) ?_
          refine lv_iload (pc := 191) hx hb d_Mod_part_191 (lv_at hl 7 rfl) ?_
          refine lv_ishl (pc := 193) hx hb d_Mod_part_193 ?_
          refine lv_iload (pc := 194) hx hb d_Mod_part_194 (lv_at hl 0 rfl) ?_
          refine lv_iload_n (pc := 196) hx hb d_Mod_part_196 rfl (lv_at hl 3 rfl) ?_
          refine lv_iload (pc := 197) hx hb d_Mod_part_197 (lv_at hl 7 rfl) ?_
          refine lv_ishl (pc := 199) hx hb d_Mod_part_199 ?_
          refine lv_isub (pc := 200) hx hb d_Mod_part_200 ?_
          refine lv_ior (pc := 201) hx hb d_Mod_part_201 ?_
          obtain ⟨q1, g3, h⟩ := gx_bd h
          refine gx_ci (pc := 202) (va_runS (As := [.int (2 : Int32), .int (((1 : Int32) <<< (x8 &&& 31)) ||| ((x6 >>> ((x4 - x8) &&& 31)) - (x3 <<< (x8 &&& 31))))]) (rest := []) ⟨hx, hb, hml, hown, hts⟩ (k_Mod_mix l dC dI cI cR cZ b tP tN  g3) (gx_cs 2 hts cd_Mod_mix tb_50 tb_744 tb_745 rfl rfl ⟨by decide, by decide, by decide +kernel⟩ ⟨Nat.le_of_ble_eq_true rfl, Nat.le_of_ble_eq_true rfl⟩) (gy_pre (mx_XX b) hX hK hP hS) rfl rfl hl.1 rfl (lv_room (Nat.le_of_ble_eq_true rfl)) d_Mod_part_202 ⟨Nat.zero_le _, Nat.zero_le _⟩) hS (fun H locs hP hS => ?_)
          refine lv_aload_n (pc := 205) hx hb d_Mod_part_205 rfl (lv_at hl 1 rfl) ?_
          refine va_get (pc := 206) (D := (dC, dI)) (ci := 6) (C := R_Mod) (T := T_Mod) (N := 39) hx hb hts in_Mod hown hK hP x0 (gx_at (mx_lt hk_x0 (by decide)) (sh_Mod cI cZ b hk_x0 _)) rfl 35 (by decide) (hts _ tb_636) (fun _ h9 => h9) rfl d_Mod_part_206 ?_
          refine lv_iconst (pc := 209) (v := (1 : Int32)) hx hb d_Mod_part_209 (by decide) ?_
          refine lv_iload_n (pc := 210) hx hb d_Mod_part_210 rfl (lv_at hl 2 rfl) ?_
          refine lv_iload (pc := 211) hx hb d_Mod_part_211 (lv_at hl 7 rfl) ?_
          refine lv_iadd (pc := 213) hx hb d_Mod_part_213 ?_
          refine lv_ishl (pc := 214) hx hb d_Mod_part_214 ?_
          refine lv_iload (pc := 215) hx hb d_Mod_part_215 (lv_at hl 0 rfl) ?_
          refine lv_iadd (pc := 217) hx hb d_Mod_part_217 ?_
          obtain ⟨g4, h⟩ := gx_if h
          refine va_iald (pc := 218) hx hb hK hP (x0 + 18) 0 (gx_at (mx_lt (to_Mod_node hk_x0) (by decide)) (mh_arr cI cZ b (n := 32) (to_Mod_node hk_x0) (by decide) _)) rfl g4 d_Mod_part_218 ?_
          obtain ⟨q2, g5, h⟩ := gx_bd h
          refine gx_ci (pc := 219) (va_runS (As := [.int q1.1, .int (q1.2 (x0 + 18) (((1 : Int32) <<< ((x2 + x8) &&& 31)) + (x6 >>> ((x4 - x8) &&& 31))).toNatClampNeg)]) (rest := []) ⟨hx, hb, hml, hown, hts⟩ (k_Mod_mix l dC dI cI cR cZ b tP tN  g5) (gx_cs 2 hts cd_Mod_mix tb_50 tb_744 tb_745 rfl rfl ⟨by decide, by decide, by decide +kernel⟩ ⟨Nat.le_of_ble_eq_true rfl, Nat.le_of_ble_eq_true rfl⟩) (gy_pre (mx_XX b) hX hK hP hS) rfl rfl hl.1 rfl (lv_room (Nat.le_of_ble_eq_true rfl)) d_Mod_part_219 ⟨Nat.zero_le _, Nat.zero_le _⟩) hS (fun H locs hP hS => ?_)
          exact gx_iret (free := fun _ => True) hx hb hr hlk hP hS d_Mod_part_222 (by cases h; rfl) (by cases h; rfl)
        · have h := gx_pos g2 h
          refine lv_iconst (pc := 145) (v := (3 : Int32)) hx hb d_Mod_part_145 (by decide) ?_
          refine lv_aload_n (pc := 146) hx hb d_Mod_part_146 rfl (lv_at hl 0 rfl) ?_
          refine va_get (pc := 147) (D := (dC, dI)) (ci := 6) (C := R_Mod) (T := T_Mod) (N := 39) hx hb hts in_Mod hown hK hP x0 (gx_at (mx_lt hk_x0 (by decide)) (sh_Mod cI cZ b hk_x0 _)) rfl 35 (by decide) (hts _ tb_636) (fun _ h9 => h9) rfl d_Mod_part_147 ?_
          refine lv_iconst (pc := 150) (v := (2 : Int32)) hx hb d_Mod_part_150 (by decide) ?_
          refine lv_iload_n (pc := 151) hx hb d_Mod_part_151 rfl (lv_at hl 1 rfl) ?_
          refine lv_ishl (pc := 152) hx hb d_Mod_part_152 ?_
          refine lv_iconst (pc := 153) (v := (2 : Int32)) hx hb d_Mod_part_153 (by decide) ?_
          refine lv_iload_n (pc := 154) hx hb d_Mod_part_154 rfl (lv_at hl 2 rfl) ?_
          refine lv_imul (pc := 155) hx hb d_Mod_part_155 ?_
          refine lv_iadd (pc := 156) hx hb d_Mod_part_156 ?_
          obtain ⟨g6, h⟩ := gx_if h
          refine va_iald (pc := 157) hx hb hK hP (x0 + 18) 0 (gx_at (mx_lt (to_Mod_node hk_x0) (by decide)) (mh_arr cI cZ b (n := 32) (to_Mod_node hk_x0) (by decide) _)) rfl g6 d_Mod_part_157 ?_
          obtain ⟨q3, g7, h⟩ := gx_bd h
          refine gx_ci (pc := 158) (va_runS (As := [.int (3 : Int32), .int (V (x0 + 18) (((2 : Int32) <<< (x2 &&& 31)) + ((2 : Int32) * x3)).toNatClampNeg)]) (rest := []) ⟨hx, hb, hml, hown, hts⟩ (k_Mod_mix l dC dI cI cR cZ b tP tN  g7) (gx_cs 2 hts cd_Mod_mix tb_50 tb_744 tb_745 rfl rfl ⟨by decide, by decide, by decide +kernel⟩ ⟨Nat.le_of_ble_eq_true rfl, Nat.le_of_ble_eq_true rfl⟩) (gy_pre (mx_XX b) hX hK hP hS) rfl rfl hl.1 rfl (lv_room (Nat.le_of_ble_eq_true rfl)) d_Mod_part_158 ⟨Nat.zero_le _, Nat.zero_le _⟩) hS (fun H locs hP hS => ?_)
          refine lv_aload_n (pc := 161) hx hb d_Mod_part_161 rfl (lv_at hl 0 rfl) ?_
          refine va_get (pc := 162) (D := (dC, dI)) (ci := 6) (C := R_Mod) (T := T_Mod) (N := 39) hx hb hts in_Mod hown hK hP x0 (gx_at (mx_lt hk_x0 (by decide)) (sh_Mod cI cZ b hk_x0 _)) rfl 35 (by decide) (hts _ tb_636) (fun _ h9 => h9) rfl d_Mod_part_162 ?_
          refine lv_iconst (pc := 165) (v := (2 : Int32)) hx hb d_Mod_part_165 (by decide) ?_
          refine lv_iload_n (pc := 166) hx hb d_Mod_part_166 rfl (lv_at hl 1 rfl) ?_
          refine lv_ishl (pc := 167) hx hb d_Mod_part_167 ?_
          refine lv_iconst (pc := 168) (v := (2 : Int32)) hx hb d_Mod_part_168 (by decide) ?_
          refine lv_iload_n (pc := 169) hx hb d_Mod_part_169 rfl (lv_at hl 2 rfl) ?_
          refine lv_imul (pc := 170) hx hb d_Mod_part_170 ?_
          refine lv_iadd (pc := 171) hx hb d_Mod_part_171 ?_
          refine lv_iconst (pc := 172) (v := (1 : Int32)) hx hb d_Mod_part_172 (by decide) ?_
          refine lv_iadd (pc := 173) hx hb d_Mod_part_173 ?_
          obtain ⟨g8, h⟩ := gx_if h
          refine va_iald (pc := 174) hx hb hK hP (x0 + 18) 0 (gx_at (mx_lt (to_Mod_node hk_x0) (by decide)) (mh_arr cI cZ b (n := 32) (to_Mod_node hk_x0) (by decide) _)) rfl g8 d_Mod_part_174 ?_
          obtain ⟨q4, g9, h⟩ := gx_bd h
          refine gx_ci (pc := 175) (va_runS (As := [.int q3.1, .int (q3.2 (x0 + 18) ((((2 : Int32) <<< (x2 &&& 31)) + ((2 : Int32) * x3)) + (1 : Int32)).toNatClampNeg)]) (rest := []) ⟨hx, hb, hml, hown, hts⟩ (k_Mod_mix l dC dI cI cR cZ b tP tN  g9) (gx_cs 2 hts cd_Mod_mix tb_50 tb_744 tb_745 rfl rfl ⟨by decide, by decide, by decide +kernel⟩ ⟨Nat.le_of_ble_eq_true rfl, Nat.le_of_ble_eq_true rfl⟩) (gy_pre (mx_XX b) hX hK hP hS) rfl rfl hl.1 rfl (lv_room (Nat.le_of_ble_eq_true rfl)) d_Mod_part_175 ⟨Nat.zero_le _, Nat.zero_le _⟩) hS (fun H locs hP hS => ?_)
          exact gx_iret (free := fun _ => True) hx hb hr hlk hP hS d_Mod_part_178 (by cases h; rfl) (by cases h; rfl)
      · have h := gx_pos g1 h
        refine lv_iinc (pc := 134) (k := 6) (lv' := [(8, .int (x8 + (1 : Int32))), (0, .ref (b + x0)), (2, .int x2), (3, .int x3), (4, .int x4), (6, .int x6), (7, .int x7)]) hx hb d_Mod_part_134 hl rfl (gx_inc (by decide)) (by decide) rfl (fun ls hl => ?_)
        refine lv_goto (pc := 137) (tgt := 111) hx hb d_Mod_part_137 (by decide) ?_
        exact ihl _ _ _ _ _ _ _ hk_x0 _ _ _ _ (lv_sub hl [1, 2, 3, 4, 5, 6, 0] rfl) hP hS h
  have B_20 : ∀ (nf : Nat), ∀ (x0 : Nat) (x2 : Int32) (x3 : Int32) (x4 : Int32) (x5 : Int32) (x6 : Int32) (x7 : Int32) (x8 : Int32), mx_kd x0 = 6 → ∀ (V : gx_M) (H : Heap) (locs : List Loc) (ls : Array Slot), lv_has ls 10 [(0, .ref (b + x0)), (2, .int x2), (3, .int x3), (4, .int x4), (5, .int x5), (6, .int x6), (7, .int x7), (8, .int x8)] → va_P (dC, dI) cx_cl (gx_w b 22 (gx_v (mx_sh cI cZ b) V)) H → va_S (gx_A b 22) s.heap H locs → F_Mod_part_20 nf x0 x2 x3 x4 x5 x6 x7 x8 V = some q → W p l e (headSpec w_Mod_part rm_Mod_part).room s m args below meth c H locs 0 0 (MQ below (gx_Q (dC, dI) cx_cl b 22 (mx_sh cI cZ b) (some (.int q.1)) q.2) args s 0 0 (gx_A b 22)) (F0 m 20 ls []) := by
    intro nf
    induction nf with
    | zero => intro x0 x2 x3 x4 x5 x6 x7 x8 hk_x0 V H locs ls hl hP hS h; cases h
    | succ nf ihl =>
      intro x0 x2 x3 x4 x5 x6 x7 x8 hk_x0 V H locs ls hl hP hS h
      rw [F_Mod_part_20] at h
      refine lv_iload (pc := 20) hx hb d_Mod_part_20 (lv_at hl 7 rfl) ?_
      refine lv_iload_n (pc := 22) hx hb d_Mod_part_22 rfl (lv_at hl 2 rfl) ?_
      refine lv_iconst (pc := 23) (v := (1 : Int32)) hx hb d_Mod_part_23 (by decide) ?_
      refine lv_iadd (pc := 24) hx hb d_Mod_part_24 ?_
      refine lv_iload (pc := 25) hx hb d_Mod_part_25 (lv_at hl 3 rfl) ?_
      refine lv_ishl (pc := 27) hx hb d_Mod_part_27 ?_
      refine lv_icmp_ge (pc := 28) (tgt := 68) hx hb d_Mod_part_28 (by decide) (fun g10 => ?_) (fun g10 => ?_)
      · have h := gx_pos g10 h
        refine lv_iload (pc := 68) hx hb d_Mod_part_68 (lv_at hl 4 rfl) ?_
        refine lv_if_ne (pc := 70) (tgt := 75) hx hb d_Mod_part_70 (by decide) (fun g11 => ?_) (fun g11 => ?_)
        · have h := gx_neg g11 h
          refine lv_iload (pc := 75) hx hb d_Mod_part_75 (lv_at hl 4 rfl) ?_
          refine lv_iconst (pc := 77) (v := (1 : Int32)) hx hb d_Mod_part_77 (by decide) ?_
          refine lv_icmp_ne (pc := 78) (tgt := 108) hx hb d_Mod_part_78 (by decide) (fun g12 => ?_) (fun g12 => ?_)
          · have h := gx_neg g12 h
            refine lv_iconst (pc := 108) (v := (0 : Int32)) hx hb d_Mod_part_108 (by decide) ?_
            refine lv_istore (pc := 109) (lv' := [(8, .int (0 : Int32)), (0, .ref (b + x0)), (2, .int x2), (3, .int x3), (4, .int x4), (5, .int x5), (6, .int x6), (7, .int x7)]) hx hb d_Mod_part_109 hl (by decide) rfl (fun ls hl => ?_)
            exact B_111 100  _ _ _ _ _ _ _ hk_x0 _ _ _ _ (lv_sub hl [1, 2, 3, 4, 6, 7, 0] rfl) hP hS h
          · have h := gx_pos g12 h
            refine lv_iconst (pc := 81) (v := (1 : Int32)) hx hb d_Mod_part_81 (by decide) ?_
            refine lv_iconst (pc := 82) (v := (1 : Int32)) hx hb d_Mod_part_82 (by decide) ?_
            refine lv_iload (pc := 83) hx hb d_Mod_part_83 (lv_at hl 3 rfl) ?_
            refine lv_ishl (pc := 85) hx hb d_Mod_part_85 ?_
            refine lv_iload (pc := 86) hx hb d_Mod_part_86 (lv_at hl 5 rfl) ?_
            refine lv_iload_n (pc := 88) hx hb d_Mod_part_88 rfl (lv_at hl 2 rfl) ?_
            refine lv_iload (pc := 89) hx hb d_Mod_part_89 (lv_at hl 3 rfl) ?_
            refine lv_ishl (pc := 91) hx hb d_Mod_part_91 ?_
            refine lv_isub (pc := 92) hx hb d_Mod_part_92 ?_
            refine lv_ior (pc := 93) hx hb d_Mod_part_93 ?_
            obtain ⟨q5, g13, h⟩ := gx_bd h
            refine gx_ci (pc := 94) (va_runS (As := [.int (1 : Int32), .int (((1 : Int32) <<< (x4 &&& 31)) ||| (x6 - (x3 <<< (x4 &&& 31))))]) (rest := []) ⟨hx, hb, hml, hown, hts⟩ (k_Mod_mix l dC dI cI cR cZ b tP tN  g13) (gx_cs 2 hts cd_Mod_mix tb_50 tb_744 tb_745 rfl rfl ⟨by decide, by decide, by decide +kernel⟩ ⟨Nat.le_of_ble_eq_true rfl, Nat.le_of_ble_eq_true rfl⟩) (gy_pre (mx_XX b) hX hK hP hS) rfl rfl hl.1 rfl (lv_room (Nat.le_of_ble_eq_true rfl)) d_Mod_part_94 ⟨Nat.zero_le _, Nat.zero_le _⟩) hS (fun H locs hP hS => ?_)
            refine lv_aload_n (pc := 97) hx hb d_Mod_part_97 rfl (lv_at hl 0 rfl) ?_
            refine va_get (pc := 98) (D := (dC, dI)) (ci := 6) (C := R_Mod) (T := T_Mod) (N := 39) hx hb hts in_Mod hown hK hP x0 (gx_at (mx_lt hk_x0 (by decide)) (sh_Mod cI cZ b hk_x0 _)) rfl 37 (by decide) (hts _ tb_638) (fun _ h9 => h9) rfl d_Mod_part_98 ?_
            refine lv_iload (pc := 101) hx hb d_Mod_part_101 (lv_at hl 5 rfl) ?_
            obtain ⟨g14, h⟩ := gx_if h
            refine va_iald (pc := 103) hx hb hK hP (x0 + 20) 0 (gx_at (mx_lt (to_Mod_worth hk_x0) (by decide)) (mh_arr cI cZ b (n := 16) (to_Mod_worth hk_x0) (by decide) _)) rfl g14 d_Mod_part_103 ?_
            obtain ⟨q6, g15, h⟩ := gx_bd h
            refine gx_ci (pc := 104) (va_runS (As := [.int q5.1, .int (q5.2 (x0 + 20) x6.toNatClampNeg)]) (rest := []) ⟨hx, hb, hml, hown, hts⟩ (k_Mod_mix l dC dI cI cR cZ b tP tN  g15) (gx_cs 2 hts cd_Mod_mix tb_50 tb_744 tb_745 rfl rfl ⟨by decide, by decide, by decide +kernel⟩ ⟨Nat.le_of_ble_eq_true rfl, Nat.le_of_ble_eq_true rfl⟩) (gy_pre (mx_XX b) hX hK hP hS) rfl rfl hl.1 rfl (lv_room (Nat.le_of_ble_eq_true rfl)) d_Mod_part_104 ⟨Nat.zero_le _, Nat.zero_le _⟩) hS (fun H locs hP hS => ?_)
            exact gx_iret (free := fun _ => True) hx hb hr hlk hP hS d_Mod_part_107 (by cases h; rfl) (by cases h; rfl)
        · have h := gx_pos g11 h
          refine lv_iconst (pc := 73) (v := (0 : Int32)) hx hb d_Mod_part_73 (by decide) ?_
          exact gx_iret (free := fun _ => True) hx hb hr hlk hP hS d_Mod_part_74 (by cases h; rfl) (by cases h; rfl)
      · have h := gx_neg g10 h
        refine lv_aload_n (pc := 31) hx hb d_Mod_part_31 rfl (lv_at hl 0 rfl) ?_
        refine va_get (pc := 32) (D := (dC, dI)) (ci := 6) (C := R_Mod) (T := T_Mod) (N := 39) hx hb hts in_Mod hown hK hP x0 (gx_at (mx_lt hk_x0 (by decide)) (sh_Mod cI cZ b hk_x0 _)) rfl 36 (by decide) (hts _ tb_637) (fun _ h9 => h9) rfl d_Mod_part_32 ?_
        refine lv_iload (pc := 35) hx hb d_Mod_part_35 (lv_at hl 7 rfl) ?_
        obtain ⟨g16, h⟩ := gx_if h
        refine va_zald (pc := 37) hx hb hK hP (x0 + 19) 2 (gx_at (mx_lt (to_Mod_has hk_x0) (by decide)) (mh_arrZ cI cZ b (n := 16) (to_Mod_has hk_x0) _)) rfl g16 d_Mod_part_37 ?_
        refine lv_if_eq (pc := 38) (tgt := 62) hx hb d_Mod_part_38 (by decide) (fun g17 => ?_) (fun g17 => ?_)
        · have h := gx_pos g17 h
          refine lv_iinc (pc := 62) (k := 7) (lv' := [(8, .int (x8 + (1 : Int32))), (0, .ref (b + x0)), (2, .int x2), (3, .int x3), (4, .int x4), (5, .int x5), (6, .int x6), (7, .int x7)]) hx hb d_Mod_part_62 hl rfl (gx_inc (by decide)) (by decide) rfl (fun ls hl => ?_)
          refine lv_goto (pc := 65) (tgt := 20) hx hb d_Mod_part_65 (by decide) ?_
          exact ihl _ _ _ _ _ _ _ _ hk_x0 _ _ _ _ (lv_sub hl [1, 2, 3, 4, 5, 6, 7, 0] rfl) hP hS h
        · have h := gx_neg g17 h
          refine lv_iload (pc := 41) hx hb d_Mod_part_41 (lv_at hl 4 rfl) ?_
          refine lv_if_ne (pc := 43) (tgt := 51) hx hb d_Mod_part_43 (by decide) (fun g18 => ?_) (fun g18 => ?_)
          · have h := gx_neg g18 h
            refine lv_iload (pc := 51) hx hb d_Mod_part_51 (lv_at hl 5 rfl) ?_
            refine lv_istore (pc := 53) (lv' := [(6, .int x6), (0, .ref (b + x0)), (2, .int x2), (3, .int x3), (4, .int x4), (5, .int x5), (7, .int x7), (8, .int x8)]) hx hb d_Mod_part_53 hl (by decide) rfl (fun ls hl => ?_)
            refine lv_iload (pc := 55) hx hb d_Mod_part_55 (lv_at hl 7 rfl) ?_
            refine lv_istore (pc := 57) (lv' := [(7, .int x8), (6, .int x6), (0, .ref (b + x0)), (2, .int x2), (3, .int x3), (4, .int x4), (5, .int x5), (8, .int x8)]) hx hb d_Mod_part_57 hl (by decide) rfl (fun ls hl => ?_)
            refine lv_iinc (pc := 59) (k := 6) (lv' := [(5, .int (x5 + (1 : Int32))), (7, .int x8), (6, .int x6), (0, .ref (b + x0)), (2, .int x2), (3, .int x3), (4, .int x4), (8, .int x8)]) hx hb d_Mod_part_59 hl rfl (gx_inc (by decide)) (by decide) rfl (fun ls hl => ?_)
            refine lv_iinc (pc := 62) (k := 7) (lv' := [(8, .int (x8 + (1 : Int32))), (5, .int (x5 + (1 : Int32))), (7, .int x8), (6, .int x6), (0, .ref (b + x0)), (2, .int x2), (3, .int x3), (4, .int x4)]) hx hb d_Mod_part_62 hl rfl (gx_inc (by decide)) (by decide) rfl (fun ls hl => ?_)
            refine lv_goto (pc := 65) (tgt := 20) hx hb d_Mod_part_65 (by decide) ?_
            exact ihl _ _ _ _ _ _ _ _ hk_x0 _ _ _ _ (lv_sub hl [4, 5, 6, 7, 1, 3, 2, 0] rfl) hP hS h
          · have h := gx_pos g18 h
            refine lv_iload (pc := 46) hx hb d_Mod_part_46 (lv_at hl 7 rfl) ?_
            refine lv_goto (pc := 48) (tgt := 53) hx hb d_Mod_part_48 (by decide) ?_
            refine lv_istore (pc := 53) (lv' := [(6, .int x8), (0, .ref (b + x0)), (2, .int x2), (3, .int x3), (4, .int x4), (5, .int x5), (7, .int x7), (8, .int x8)]) hx hb d_Mod_part_53 hl (by decide) rfl (fun ls hl => ?_)
            refine lv_iload (pc := 55) hx hb d_Mod_part_55 (lv_at hl 7 rfl) ?_
            refine lv_istore (pc := 57) (lv' := [(7, .int x8), (6, .int x8), (0, .ref (b + x0)), (2, .int x2), (3, .int x3), (4, .int x4), (5, .int x5), (8, .int x8)]) hx hb d_Mod_part_57 hl (by decide) rfl (fun ls hl => ?_)
            refine lv_iinc (pc := 59) (k := 6) (lv' := [(5, .int (x5 + (1 : Int32))), (7, .int x8), (6, .int x8), (0, .ref (b + x0)), (2, .int x2), (3, .int x3), (4, .int x4), (8, .int x8)]) hx hb d_Mod_part_59 hl rfl (gx_inc (by decide)) (by decide) rfl (fun ls hl => ?_)
            refine lv_iinc (pc := 62) (k := 7) (lv' := [(8, .int (x8 + (1 : Int32))), (5, .int (x5 + (1 : Int32))), (7, .int x8), (6, .int x8), (0, .ref (b + x0)), (2, .int x2), (3, .int x3), (4, .int x4)]) hx hb d_Mod_part_62 hl rfl (gx_inc (by decide)) (by decide) rfl (fun ls hl => ?_)
            refine lv_goto (pc := 65) (tgt := 20) hx hb d_Mod_part_65 (by decide) ?_
            exact ihl _ _ _ _ _ _ _ _ hk_x0 _ _ _ _ (lv_sub hl [4, 5, 6, 7, 1, 3, 2, 0] rfl) hP hS h
  unfold F_Mod_part at h
  refine lv_iload_n (pc := 0) hx hb d_Mod_part_0 rfl (lv_at hl 1 rfl) ?_
  refine lv_iload_n (pc := 1) hx hb d_Mod_part_1 rfl (lv_at hl 2 rfl) ?_
  refine lv_isub (pc := 2) hx hb d_Mod_part_2 ?_
  refine lv_istore (pc := 3) (lv' := [(4, .int (x1 - x2)), (0, .ref (b + x0)), (1, .int x1), (2, .int x2), (3, .int x3)]) hx hb d_Mod_part_3 hl (by decide) rfl (fun ls hl => ?_)
  refine lv_iconst (pc := 5) (v := (0 : Int32)) hx hb d_Mod_part_5 (by decide) ?_
  refine lv_istore (pc := 6) (lv' := [(5, .int (0 : Int32)), (4, .int (x1 - x2)), (0, .ref (b + x0)), (1, .int x1), (2, .int x2), (3, .int x3)]) hx hb d_Mod_part_6 hl (by decide) rfl (fun ls hl => ?_)
  refine lv_iconst (pc := 8) (v := (-1 : Int32)) hx hb d_Mod_part_8 (by decide) ?_
  refine lv_istore (pc := 9) (lv' := [(6, .int (-1 : Int32)), (5, .int (0 : Int32)), (4, .int (x1 - x2)), (0, .ref (b + x0)), (1, .int x1), (2, .int x2), (3, .int x3)]) hx hb d_Mod_part_9 hl (by decide) rfl (fun ls hl => ?_)
  refine lv_iconst (pc := 11) (v := (-1 : Int32)) hx hb d_Mod_part_11 (by decide) ?_
  refine lv_istore (pc := 12) (lv' := [(7, .int (-1 : Int32)), (6, .int (-1 : Int32)), (5, .int (0 : Int32)), (4, .int (x1 - x2)), (0, .ref (b + x0)), (1, .int x1), (2, .int x2), (3, .int x3)]) hx hb d_Mod_part_12 hl (by decide) rfl (fun ls hl => ?_)
  refine lv_iload_n (pc := 14) hx hb d_Mod_part_14 rfl (lv_at hl 7 rfl) ?_
  refine lv_iload (pc := 15) hx hb d_Mod_part_15 (lv_at hl 3 rfl) ?_
  refine lv_ishl (pc := 17) hx hb d_Mod_part_17 ?_
  refine lv_istore (pc := 18) (lv' := [(8, .int (x3 <<< ((x1 - x2) &&& 31))), (7, .int (-1 : Int32)), (6, .int (-1 : Int32)), (5, .int (0 : Int32)), (4, .int (x1 - x2)), (0, .ref (b + x0)), (1, .int x1), (2, .int x2), (3, .int x3)]) hx hb d_Mod_part_18 hl (by decide) rfl (fun ls hl => ?_)
  exact B_20 100  _ _ _ _ _ _ _ _ hk0 _ _ _ _ (lv_sub hl [5, 7, 8, 4, 3, 2, 1, 0] rfl) hP hS h
abbrev rm_Mod_map : Room := { frames := 2, cells := 0, slots := 0, locals := 51 }
def F_Mod_map_8 : Nat → (Nat → Int32 → Int32 → gx_M → Option (Int32 × gx_M)) → Nat → Int32 → Int32 → Int32 → gx_M → Option (Int32 × gx_M)
  | 0, _, _, _, _, _, _ => none
  | nf + 1, kont, x0, x1, x2, x3, V => (if ((1 : Int32) <<< (x2 &&& 31)) ≤ x3 then kont x0 x1 (x2 + (-1 : Int32)) V else ((F_Mod_part x0 x1 x2 x3 V).bind fun q1 => (if gx_ib (((1 : Int32) <<< (x2 &&& 31)) + x3) 32 then (gx_let (gx_u q1.2 (x0 + 18) (((1 : Int32) <<< (x2 &&& 31)) + x3).toNatClampNeg q1.1) fun V1 => (F_Mod_map_8 nf kont x0 x1 x2 (x3 + (1 : Int32)) V1)) else none)))
def F_Mod_map_2 : Nat → Nat → Int32 → Int32 → gx_M → Option (Int32 × gx_M)
  | 0, _, _, _, _ => none
  | nf + 1, x0, x1, x2, V => (if x2 < 0 then (if gx_ib (1 : Int32) 32 then some ((V (x0 + 18) (1 : Int32).toNatClampNeg), V) else none) else (F_Mod_map_8 100 (fun a0 a1 a2 V => F_Mod_map_2 nf a0 a1 a2 V) x0 x1 x2 (0 : Int32) V))
def F_Mod_map (x0 : Nat) (x1 : Int32) (V : gx_M) : Option (Int32 × gx_M) := (F_Mod_map_2 100  x0 x1 x1 V)
set_option maxRecDepth 100000 in
set_option maxHeartbeats 8000000 in
theorem k_Mod_map (l : Launch) (dC : Nat → ClassId) (dI : Nat → Nat → Nat) (cI cR cZ : ClassId) (b tP tN : Nat) {x0 : Nat} {x1 : Int32} {V : gx_M} {q : (Int32 × gx_M)} (hk0 : mx_kd x0 = 6) (h : F_Mod_map x0 x1 V = some q) : mx_C l dC dI cI cR cZ b tP tN y_Mod_map w_Mod_map rm_Mod_map [.ref (b + x0), .int x1] V (some (.int q.1)) q.2 := by
  refine gx_start (cc := b_Mod_map) (maxL := 4) (ret := rt_Mod_map) (by decide) rfl (Nat.le_of_ble_eq_true rfl) ?_
  intro p e s m args below meth c ls hx hb hr hts hown hlk hml hl hP hK hX hS
  have hts : ∀ w ∈ cx_tb, w.before args s = true := fun w hw => hts w (List.mem_cons_of_mem _ hw)
  have hown : s.vm.findClass "GasLedgerModel" = some m.cls := hown
  have hl : lv_has ls 4 [(0, .ref (b + x0)), (1, .int x1)] := hl
  have B_8 : ∀ (nf : Nat) (kont : Nat → Int32 → Int32 → gx_M → Option (Int32 × gx_M)), (∀ (x0 : Nat) (x1 : Int32) (x2 : Int32), mx_kd x0 = 6 → ∀ (V : gx_M) (H : Heap) (locs : List Loc) (ls : Array Slot), lv_has ls 4 [(0, .ref (b + x0)), (1, .int x1), (2, .int x2)] → va_P (dC, dI) cx_cl (gx_w b 22 (gx_v (mx_sh cI cZ b) V)) H → va_S (gx_A b 22) s.heap H locs → kont x0 x1 x2 V = some q → W p l e (headSpec w_Mod_map rm_Mod_map).room s m args below meth c H locs 0 0 (MQ below (gx_Q (dC, dI) cx_cl b 22 (mx_sh cI cZ b) (some (.int q.1)) q.2) args s 0 0 (gx_A b 22)) (F0 m 2 ls [])) → ∀ (x0 : Nat) (x1 : Int32) (x2 : Int32) (x3 : Int32), mx_kd x0 = 6 → ∀ (V : gx_M) (H : Heap) (locs : List Loc) (ls : Array Slot), lv_has ls 4 [(0, .ref (b + x0)), (1, .int x1), (2, .int x2), (3, .int x3)] → va_P (dC, dI) cx_cl (gx_w b 22 (gx_v (mx_sh cI cZ b) V)) H → va_S (gx_A b 22) s.heap H locs → F_Mod_map_8 nf kont x0 x1 x2 x3 V = some q → W p l e (headSpec w_Mod_map rm_Mod_map).room s m args below meth c H locs 0 0 (MQ below (gx_Q (dC, dI) cx_cl b 22 (mx_sh cI cZ b) (some (.int q.1)) q.2) args s 0 0 (gx_A b 22)) (F0 m 8 ls []) := by
    intro nf kont hkont
    induction nf with
    | zero => intro x0 x1 x2 x3 hk_x0 V H locs ls hl hP hS h; cases h
    | succ nf ihl =>
      intro x0 x1 x2 x3 hk_x0 V H locs ls hl hP hS h
      rw [F_Mod_map_8] at h
      refine lv_iload_n (pc := 8) hx hb d_Mod_map_8 rfl (lv_at hl 3 rfl) ?_
      refine lv_iconst (pc := 9) (v := (1 : Int32)) hx hb d_Mod_map_9 (by decide) ?_
      refine lv_iload_n (pc := 10) hx hb d_Mod_map_10 rfl (lv_at hl 2 rfl) ?_
      refine lv_ishl (pc := 11) hx hb d_Mod_map_11 ?_
      refine lv_icmp_ge (pc := 12) (tgt := 38) hx hb d_Mod_map_12 (by decide) (fun g1 => ?_) (fun g1 => ?_)
      · have h := gx_pos g1 h
        refine lv_iinc (pc := 38) (k := 2) (lv' := [(2, .int (x2 + (-1 : Int32))), (0, .ref (b + x0)), (1, .int x1), (3, .int x3)]) hx hb d_Mod_map_38 hl rfl (gx_inc (by decide)) (by decide) rfl (fun ls hl => ?_)
        refine lv_goto (pc := 41) (tgt := 2) hx hb d_Mod_map_41 (by decide) ?_
        exact hkont _ _ _ hk_x0 _ _ _ _ (lv_sub hl [1, 2, 0] rfl) hP hS h
      · have h := gx_neg g1 h
        refine lv_aload_n (pc := 15) hx hb d_Mod_map_15 rfl (lv_at hl 0 rfl) ?_
        refine va_get (pc := 16) (D := (dC, dI)) (ci := 6) (C := R_Mod) (T := T_Mod) (N := 39) hx hb hts in_Mod hown hK hP x0 (gx_at (mx_lt hk_x0 (by decide)) (sh_Mod cI cZ b hk_x0 _)) rfl 35 (by decide) (hts _ tb_636) (fun _ h9 => h9) rfl d_Mod_map_16 ?_
        refine lv_iconst (pc := 19) (v := (1 : Int32)) hx hb d_Mod_map_19 (by decide) ?_
        refine lv_iload_n (pc := 20) hx hb d_Mod_map_20 rfl (lv_at hl 2 rfl) ?_
        refine lv_ishl (pc := 21) hx hb d_Mod_map_21 ?_
        refine lv_iload_n (pc := 22) hx hb d_Mod_map_22 rfl (lv_at hl 3 rfl) ?_
        refine lv_iadd (pc := 23) hx hb d_Mod_map_23 ?_
        refine lv_aload_n (pc := 24) hx hb d_Mod_map_24 rfl (lv_at hl 0 rfl) ?_
        refine lv_iload_n (pc := 25) hx hb d_Mod_map_25 rfl (lv_at hl 1 rfl) ?_
        refine lv_iload_n (pc := 26) hx hb d_Mod_map_26 rfl (lv_at hl 2 rfl) ?_
        refine lv_iload_n (pc := 27) hx hb d_Mod_map_27 rfl (lv_at hl 3 rfl) ?_
        obtain ⟨q1, g2, h⟩ := gx_bd h
        refine gx_ci (pc := 28) (va_runV (C := "GasLedgerModel") (As := [.int x1, .int x2, .int x3]) (rest := [.int (((1 : Int32) <<< (x2 &&& 31)) + x3), .ref (b + (x0 + 18))]) ⟨hx, hb, hml, hown, hts⟩ (k_Mod_part l dC dI cI cR cZ b tP tN hk_x0 g2) (gx_cw 3 hts cd_Mod_part tb_50 tb_756 tb_758 tb_23 rfl rfl ⟨by decide, by decide, by decide +kernel⟩ ⟨Nat.le_of_ble_eq_true rfl, Nat.le_of_ble_eq_true rfl⟩) (gy_preV (mx_XX b) hX hK hP hS (mx_lt hk_x0 (by decide)) (sh_Mod cI cZ b hk_x0 _) rfl) rfl rfl hl.1 rfl (lv_room (Nat.le_of_ble_eq_true rfl)) d_Mod_map_28 ⟨Nat.zero_le _, Nat.zero_le _⟩) hS (fun H locs hP hS => ?_)
        obtain ⟨g3, h⟩ := gx_if h
        obtain ⟨V1, g4, h⟩ := gx_lt h
        refine gx_asi (pc := 31) hx hb hK hP hS (x0 + 18) 0 (mx_lt (to_Mod_node hk_x0) (by decide)) (fun _ => mh_arr cI cZ b (n := 32) (to_Mod_node hk_x0) (by decide) _) rfl g3 d_Mod_map_31 g4 (fun H locs hP hS => ?_)
        refine lv_iinc (pc := 32) (k := 3) (lv' := [(3, .int (x3 + (1 : Int32))), (0, .ref (b + x0)), (1, .int x1), (2, .int x2)]) hx hb d_Mod_map_32 hl rfl (gx_inc (by decide)) (by decide) rfl (fun ls hl => ?_)
        refine lv_goto (pc := 35) (tgt := 8) hx hb d_Mod_map_35 (by decide) ?_
        exact ihl _ _ _ _ hk_x0 _ _ _ _ (lv_sub hl [1, 2, 3, 0] rfl) hP hS h
  have B_2 : ∀ (nf : Nat), ∀ (x0 : Nat) (x1 : Int32) (x2 : Int32), mx_kd x0 = 6 → ∀ (V : gx_M) (H : Heap) (locs : List Loc) (ls : Array Slot), lv_has ls 4 [(0, .ref (b + x0)), (1, .int x1), (2, .int x2)] → va_P (dC, dI) cx_cl (gx_w b 22 (gx_v (mx_sh cI cZ b) V)) H → va_S (gx_A b 22) s.heap H locs → F_Mod_map_2 nf x0 x1 x2 V = some q → W p l e (headSpec w_Mod_map rm_Mod_map).room s m args below meth c H locs 0 0 (MQ below (gx_Q (dC, dI) cx_cl b 22 (mx_sh cI cZ b) (some (.int q.1)) q.2) args s 0 0 (gx_A b 22)) (F0 m 2 ls []) := by
    intro nf
    induction nf with
    | zero => intro x0 x1 x2 hk_x0 V H locs ls hl hP hS h; cases h
    | succ nf ihl =>
      intro x0 x1 x2 hk_x0 V H locs ls hl hP hS h
      rw [F_Mod_map_2] at h
      refine lv_iload_n (pc := 2) hx hb d_Mod_map_2 rfl (lv_at hl 2 rfl) ?_
      refine lv_if_lt (pc := 3) (tgt := 44) hx hb d_Mod_map_3 (by decide) (fun g5 => ?_) (fun g5 => ?_)
      · have h := gx_pos g5 h
        refine lv_aload_n (pc := 44) hx hb d_Mod_map_44 rfl (lv_at hl 0 rfl) ?_
        refine va_get (pc := 45) (D := (dC, dI)) (ci := 6) (C := R_Mod) (T := T_Mod) (N := 39) hx hb hts in_Mod hown hK hP x0 (gx_at (mx_lt hk_x0 (by decide)) (sh_Mod cI cZ b hk_x0 _)) rfl 35 (by decide) (hts _ tb_636) (fun _ h9 => h9) rfl d_Mod_map_45 ?_
        refine lv_iconst (pc := 48) (v := (1 : Int32)) hx hb d_Mod_map_48 (by decide) ?_
        obtain ⟨g6, h⟩ := gx_if h
        refine va_iald (pc := 49) hx hb hK hP (x0 + 18) 0 (gx_at (mx_lt (to_Mod_node hk_x0) (by decide)) (mh_arr cI cZ b (n := 32) (to_Mod_node hk_x0) (by decide) _)) rfl g6 d_Mod_map_49 ?_
        exact gx_iret (free := fun _ => True) hx hb hr hlk hP hS d_Mod_map_50 (by cases h; rfl) (by cases h; rfl)
      · have h := gx_neg g5 h
        refine lv_iconst (pc := 6) (v := (0 : Int32)) hx hb d_Mod_map_6 (by decide) ?_
        refine lv_istore_n (pc := 7) (lv' := [(3, .int (0 : Int32)), (0, .ref (b + x0)), (1, .int x1), (2, .int x2)]) hx hb d_Mod_map_7 rfl hl (by decide) rfl (fun ls hl => ?_)
        exact B_8 100 _ ihl _ _ _ _ hk_x0 _ _ _ _ (lv_sub hl [1, 2, 3, 0] rfl) hP hS h
  unfold F_Mod_map at h
  refine lv_iload_n (pc := 0) hx hb d_Mod_map_0 rfl (lv_at hl 1 rfl) ?_
  refine lv_istore_n (pc := 1) (lv' := [(2, .int x1), (0, .ref (b + x0)), (1, .int x1)]) hx hb d_Mod_map_1 rfl hl (by decide) rfl (fun ls hl => ?_)
  exact B_2 100  _ _ _ hk0 _ _ _ _ (lv_sub hl [1, 2, 0] rfl) hP hS h
abbrev rm_Mod_slotsRoot : Room := { frames := 3, cells := 0, slots := 0, locals := 74 }
def F_Mod_slotsRoot_2 : Nat → Nat → Int32 → Int32 → gx_M → Option (Int32 × gx_M)
  | 0, _, _, _, _ => none
  | nf + 1, x0, x1, x2, V => (if (8 : Int32) ≤ x2 then ((F_Mod_map x0 (3 : Int32) V).bind fun q1 => some (q1.1, q1.2)) else (if gx_ib ((((36 : Int32) * x1) + (27 : Int32)) + x2) 576 then (if gx_ib x2 16 then (gx_let (gx_u V (x0 + 20) x2.toNatClampNeg (V (x0 + 1) ((((36 : Int32) * x1) + (27 : Int32)) + x2).toNatClampNeg)) fun V1 => (if gx_ib x2 16 then (if (V1 (x0 + 20) x2.toNatClampNeg) = 0 then (if gx_ib x2 16 then (gx_let (gx_u V1 (x0 + 19) x2.toNatClampNeg (vp_nar .boolean (0 : Int32))) fun V2 => (F_Mod_slotsRoot_2 nf  x0 x1 (x2 + (1 : Int32)) V2)) else none) else (if gx_ib x2 16 then (gx_let (gx_u V1 (x0 + 19) x2.toNatClampNeg (vp_nar .boolean (1 : Int32))) fun V3 => (F_Mod_slotsRoot_2 nf  x0 x1 (x2 + (1 : Int32)) V3)) else none)) else none)) else none) else none))
def F_Mod_slotsRoot (x0 : Nat) (x1 : Int32) (V : gx_M) : Option (Int32 × gx_M) := (F_Mod_slotsRoot_2 100  x0 x1 (0 : Int32) V)
set_option maxRecDepth 100000 in
set_option maxHeartbeats 8000000 in
theorem k_Mod_slotsRoot (l : Launch) (dC : Nat → ClassId) (dI : Nat → Nat → Nat) (cI cR cZ : ClassId) (b tP tN : Nat) {x0 : Nat} {x1 : Int32} {V : gx_M} {q : (Int32 × gx_M)} (hk0 : mx_kd x0 = 6) (h : F_Mod_slotsRoot x0 x1 V = some q) : mx_C l dC dI cI cR cZ b tP tN y_Mod_slotsRoot w_Mod_slotsRoot rm_Mod_slotsRoot [.ref (b + x0), .int x1] V (some (.int q.1)) q.2 := by
  refine gx_start (cc := b_Mod_slotsRoot) (maxL := 3) (ret := rt_Mod_slotsRoot) (by decide) rfl (Nat.le_of_ble_eq_true rfl) ?_
  intro p e s m args below meth c ls hx hb hr hts hown hlk hml hl hP hK hX hS
  have hts : ∀ w ∈ cx_tb, w.before args s = true := fun w hw => hts w (List.mem_cons_of_mem _ hw)
  have hown : s.vm.findClass "GasLedgerModel" = some m.cls := hown
  have hl : lv_has ls 3 [(0, .ref (b + x0)), (1, .int x1)] := hl
  have B_2 : ∀ (nf : Nat), ∀ (x0 : Nat) (x1 : Int32) (x2 : Int32), mx_kd x0 = 6 → ∀ (V : gx_M) (H : Heap) (locs : List Loc) (ls : Array Slot), lv_has ls 3 [(0, .ref (b + x0)), (1, .int x1), (2, .int x2)] → va_P (dC, dI) cx_cl (gx_w b 22 (gx_v (mx_sh cI cZ b) V)) H → va_S (gx_A b 22) s.heap H locs → F_Mod_slotsRoot_2 nf x0 x1 x2 V = some q → W p l e (headSpec w_Mod_slotsRoot rm_Mod_slotsRoot).room s m args below meth c H locs 0 0 (MQ below (gx_Q (dC, dI) cx_cl b 22 (mx_sh cI cZ b) (some (.int q.1)) q.2) args s 0 0 (gx_A b 22)) (F0 m 2 ls []) := by
    intro nf
    induction nf with
    | zero => intro x0 x1 x2 hk_x0 V H locs ls hl hP hS h; cases h
    | succ nf ihl =>
      intro x0 x1 x2 hk_x0 V H locs ls hl hP hS h
      rw [F_Mod_slotsRoot_2] at h
      refine lv_iload_n (pc := 2) hx hb d_Mod_slotsRoot_2 rfl (lv_at hl 2 rfl) ?_
      refine lv_bipush (pc := 3) (v := (8 : Int32)) hx hb d_Mod_slotsRoot_3 (by decide) ?_
      refine lv_icmp_ge (pc := 5) (tgt := 54) hx hb d_Mod_slotsRoot_5 (by decide) (fun g1 => ?_) (fun g1 => ?_)
      · have h := gx_pos g1 h
        refine lv_aload_n (pc := 54) hx hb d_Mod_slotsRoot_54 rfl (lv_at hl 0 rfl) ?_
        refine lv_iconst (pc := 55) (v := (3 : Int32)) hx hb d_Mod_slotsRoot_55 (by decide) ?_
        obtain ⟨q1, g2, h⟩ := gx_bd h
        refine gx_ci (pc := 56) (va_runV (C := "GasLedgerModel") (As := [.int (3 : Int32)]) (rest := []) ⟨hx, hb, hml, hown, hts⟩ (k_Mod_map l dC dI cI cR cZ b tP tN hk_x0 g2) (gx_cw 1 hts cd_Mod_map tb_50 tb_752 tb_754 tb_22 rfl rfl ⟨by decide, by decide, by decide +kernel⟩ ⟨Nat.le_of_ble_eq_true rfl, Nat.le_of_ble_eq_true rfl⟩) (gy_preV (mx_XX b) hX hK hP hS (mx_lt hk_x0 (by decide)) (sh_Mod cI cZ b hk_x0 _) rfl) rfl rfl hl.1 rfl (lv_room (Nat.le_of_ble_eq_true rfl)) d_Mod_slotsRoot_56 ⟨Nat.zero_le _, Nat.zero_le _⟩) hS (fun H locs hP hS => ?_)
        exact gx_iret (free := fun _ => True) hx hb hr hlk hP hS d_Mod_slotsRoot_59 (by cases h; rfl) (by cases h; rfl)
      · have h := gx_neg g1 h
        refine lv_aload_n (pc := 8) hx hb d_Mod_slotsRoot_8 rfl (lv_at hl 0 rfl) ?_
        refine va_get (pc := 9) (D := (dC, dI)) (ci := 6) (C := R_Mod) (T := T_Mod) (N := 39) hx hb hts in_Mod hown hK hP x0 (gx_at (mx_lt hk_x0 (by decide)) (sh_Mod cI cZ b hk_x0 _)) rfl 37 (by decide) (hts _ tb_638) (fun _ h9 => h9) rfl d_Mod_slotsRoot_9 ?_
        refine lv_iload_n (pc := 12) hx hb d_Mod_slotsRoot_12 rfl (lv_at hl 2 rfl) ?_
        refine lv_aload_n (pc := 13) hx hb d_Mod_slotsRoot_13 rfl (lv_at hl 0 rfl) ?_
        refine va_get (pc := 14) (D := (dC, dI)) (ci := 6) (C := R_Mod) (T := T_Mod) (N := 39) hx hb hts in_Mod hown hK hP x0 (gx_at (mx_lt hk_x0 (by decide)) (sh_Mod cI cZ b hk_x0 _)) rfl 0 (by decide) (hts _ tb_601) (fun _ h9 => h9) rfl d_Mod_slotsRoot_14 ?_
        refine lv_bipush (pc := 17) (v := (36 : Int32)) hx hb d_Mod_slotsRoot_17 (by decide) ?_
        refine lv_iload_n (pc := 19) hx hb d_Mod_slotsRoot_19 rfl (lv_at hl 1 rfl) ?_
        refine lv_imul (pc := 20) hx hb d_Mod_slotsRoot_20 ?_
        refine lv_bipush (pc := 21) (v := (27 : Int32)) hx hb d_Mod_slotsRoot_21 (by decide) ?_
        refine lv_iadd (pc := 23) hx hb d_Mod_slotsRoot_23 ?_
        refine lv_iload_n (pc := 24) hx hb d_Mod_slotsRoot_24 rfl (lv_at hl 2 rfl) ?_
        refine lv_iadd (pc := 25) hx hb d_Mod_slotsRoot_25 ?_
        obtain ⟨g3, h⟩ := gx_if h
        refine va_iald (pc := 26) hx hb hK hP (x0 + 1) 0 (gx_at (mx_lt (to_Mod_now hk_x0) (by decide)) (mh_arr cI cZ b (n := 576) (to_Mod_now hk_x0) (by decide) _)) rfl g3 d_Mod_slotsRoot_26 ?_
        obtain ⟨g4, h⟩ := gx_if h
        obtain ⟨V1, g5, h⟩ := gx_lt h
        refine gx_asi (pc := 27) hx hb hK hP hS (x0 + 20) 0 (mx_lt (to_Mod_worth hk_x0) (by decide)) (fun _ => mh_arr cI cZ b (n := 16) (to_Mod_worth hk_x0) (by decide) _) rfl g4 d_Mod_slotsRoot_27 g5 (fun H locs hP hS => ?_)
        refine lv_aload_n (pc := 28) hx hb d_Mod_slotsRoot_28 rfl (lv_at hl 0 rfl) ?_
        refine va_get (pc := 29) (D := (dC, dI)) (ci := 6) (C := R_Mod) (T := T_Mod) (N := 39) hx hb hts in_Mod hown hK hP x0 (gx_at (mx_lt hk_x0 (by decide)) (sh_Mod cI cZ b hk_x0 _)) rfl 36 (by decide) (hts _ tb_637) (fun _ h9 => h9) rfl d_Mod_slotsRoot_29 ?_
        refine lv_iload_n (pc := 32) hx hb d_Mod_slotsRoot_32 rfl (lv_at hl 2 rfl) ?_
        refine lv_aload_n (pc := 33) hx hb d_Mod_slotsRoot_33 rfl (lv_at hl 0 rfl) ?_
        refine va_get (pc := 34) (D := (dC, dI)) (ci := 6) (C := R_Mod) (T := T_Mod) (N := 39) hx hb hts in_Mod hown hK hP x0 (gx_at (mx_lt hk_x0 (by decide)) (sh_Mod cI cZ b hk_x0 _)) rfl 37 (by decide) (hts _ tb_638) (fun _ h9 => h9) rfl d_Mod_slotsRoot_34 ?_
        refine lv_iload_n (pc := 37) hx hb d_Mod_slotsRoot_37 rfl (lv_at hl 2 rfl) ?_
        obtain ⟨g6, h⟩ := gx_if h
        refine va_iald (pc := 38) hx hb hK hP (x0 + 20) 0 (gx_at (mx_lt (to_Mod_worth hk_x0) (by decide)) (mh_arr cI cZ b (n := 16) (to_Mod_worth hk_x0) (by decide) _)) rfl g6 d_Mod_slotsRoot_38 ?_
        refine lv_if_eq (pc := 39) (tgt := 46) hx hb d_Mod_slotsRoot_39 (by decide) (fun g7 => ?_) (fun g7 => ?_)
        · have h := gx_pos g7 h
          refine lv_iconst (pc := 46) (v := (0 : Int32)) hx hb d_Mod_slotsRoot_46 (by decide) ?_
          obtain ⟨g8, h⟩ := gx_if h
          obtain ⟨V2, g9, h⟩ := gx_lt h
          refine gx_asz (pc := 47) hx hb hK hP hS (x0 + 19) 2 (mx_lt (to_Mod_has hk_x0) (by decide)) (fun _ => mh_arrZ cI cZ b (n := 16) (to_Mod_has hk_x0) _) rfl g8 d_Mod_slotsRoot_47 g9 (fun H locs hP hS => ?_)
          refine lv_iinc (pc := 48) (k := 2) (lv' := [(2, .int (x2 + (1 : Int32))), (0, .ref (b + x0)), (1, .int x1)]) hx hb d_Mod_slotsRoot_48 hl rfl (gx_inc (by decide)) (by decide) rfl (fun ls hl => ?_)
          refine lv_goto (pc := 51) (tgt := 2) hx hb d_Mod_slotsRoot_51 (by decide) ?_
          exact ihl _ _ _ hk_x0 _ _ _ _ (lv_sub hl [1, 2, 0] rfl) hP hS h
        · have h := gx_neg g7 h
          refine lv_iconst (pc := 42) (v := (1 : Int32)) hx hb d_Mod_slotsRoot_42 (by decide) ?_
          refine lv_goto (pc := 43) (tgt := 47) hx hb d_Mod_slotsRoot_43 (by decide) ?_
          obtain ⟨g10, h⟩ := gx_if h
          obtain ⟨V3, g11, h⟩ := gx_lt h
          refine gx_asz (pc := 47) hx hb hK hP hS (x0 + 19) 2 (mx_lt (to_Mod_has hk_x0) (by decide)) (fun _ => mh_arrZ cI cZ b (n := 16) (to_Mod_has hk_x0) _) rfl g10 d_Mod_slotsRoot_47 g11 (fun H locs hP hS => ?_)
          refine lv_iinc (pc := 48) (k := 2) (lv' := [(2, .int (x2 + (1 : Int32))), (0, .ref (b + x0)), (1, .int x1)]) hx hb d_Mod_slotsRoot_48 hl rfl (gx_inc (by decide)) (by decide) rfl (fun ls hl => ?_)
          refine lv_goto (pc := 51) (tgt := 2) hx hb d_Mod_slotsRoot_51 (by decide) ?_
          exact ihl _ _ _ hk_x0 _ _ _ _ (lv_sub hl [1, 2, 0] rfl) hP hS h
  unfold F_Mod_slotsRoot at h
  refine lv_iconst (pc := 0) (v := (0 : Int32)) hx hb d_Mod_slotsRoot_0 (by decide) ?_
  refine lv_istore_n (pc := 1) (lv' := [(2, .int (0 : Int32)), (0, .ref (b + x0)), (1, .int x1)]) hx hb d_Mod_slotsRoot_1 rfl hl (by decide) rfl (fun ls hl => ?_)
  exact B_2 100  _ _ _ hk0 _ _ _ _ (lv_sub hl [1, 2, 0] rfl) hP hS h
