abbrev rm_Mod_fails : Room := { frames := 1, cells := 0, slots := 0, locals := 21 }
def F_Mod_fails_240 (x1 : Int32) (V : gx_M) : Option (Int32 × gx_M) := (if x1 ≤ (28 : Int32) then some ((0 : Int32), V) else some ((1 : Int32), V))
def F_Mod_fails_115 (x0 : Nat) (x1 : Int32) (x3 : Int32) (V : gx_M) : Option (Int32 × gx_M) := (if x1 = (15 : Int32) then ((F_Mod_peek x0 (0 : Int32) V).bind fun q7 => ((F_Mod_in q7.1 (8 : Int32) q7.2).bind fun q8 => (if q8.1 = 0 then some ((1 : Int32), q8.2) else some ((0 : Int32), q8.2)))) else (if x1 = (22 : Int32) then ((F_Mod_peek x0 (2 : Int32) V).bind fun q6 => (if 0 ≤ q6.1 then some ((0 : Int32), q6.2) else some ((1 : Int32), q6.2))) else (if x1 = (24 : Int32) then ((F_Mod_peek x0 (1 : Int32) V).bind fun q3 => ((F_Mod_peek x0 (2 : Int32) q3.2).bind fun q4 => ((F_Mod_peek x0 (0 : Int32) q4.2).bind fun q5 => (if q5.1 < 0 then some ((1 : Int32), q5.2) else (if q4.1 < (1 : Int32) then some ((1 : Int32), q5.2) else (if (24 : Int32) < q4.1 then some ((1 : Int32), q5.2) else (if q3.1 < 0 then some ((1 : Int32), q5.2) else (if q3.1 ≤ (x3 - q4.1) then some ((0 : Int32), q5.2) else some ((1 : Int32), q5.2))))))))) else (if x1 = (28 : Int32) then ((F_Mod_peek x0 (0 : Int32) V).bind fun q1 => ((F_Mod_in q1.1 (16 : Int32) q1.2).bind fun q2 => (if q2.1 = 0 then some ((1 : Int32), q2.2) else (F_Mod_fails_240   x1 q2.2)))) else (F_Mod_fails_240   x1 V)))))
def F_Mod_fails_97 (x0 : Nat) (x3 : Int32) (V : gx_M) : Option (Int32 × gx_M) := ((F_Mod_peek x0 (0 : Int32) V).bind fun q9 => ((F_Mod_in q9.1 x3 q9.2).bind fun q10 => (if q10.1 = 0 then some ((1 : Int32), q10.2) else some ((0 : Int32), q10.2))))
def F_Mod_fails (x0 : Nat) (x1 : Int32) (x2 : Int32) (V : gx_M) : Option (Int32 × gx_M) := (if gx_ib (V x0 19) 8 then (if gx_ib (((36 : Int32) * (V (x0 + 7) (V x0 19).toNatClampNeg)) + (2 : Int32)) 576 then (if x1 = (3 : Int32) then (if x2 < 0 then some ((1 : Int32), V) else (if gx_ib (V x0 19) 8 then (if x2 < (V (x0 + 13) (V x0 19).toNatClampNeg) then some ((0 : Int32), V) else some ((1 : Int32), V)) else none)) else (if x1 = (4 : Int32) then (if x2 < (1 : Int32) then some ((1 : Int32), V) else (if gx_ib (V x0 19) 8 then (if x2 < (V (x0 + 13) (V x0 19).toNatClampNeg) then some ((0 : Int32), V) else some ((1 : Int32), V)) else none)) else (if x1 = (12 : Int32) then (F_Mod_fails_97   x0 (V (x0 + 1) (((36 : Int32) * (V (x0 + 7) (V x0 19).toNatClampNeg)) + (2 : Int32)).toNatClampNeg) V) else (if x1 = (13 : Int32) then ((F_Mod_peek x0 (1 : Int32) V).bind fun q11 => (if q11.1 = 0 then (F_Mod_fails_115   x0 x1 (V (x0 + 1) (((36 : Int32) * (V (x0 + 7) (V x0 19).toNatClampNeg)) + (2 : Int32)).toNatClampNeg) q11.2) else (F_Mod_fails_97   x0 (V (x0 + 1) (((36 : Int32) * (V (x0 + 7) (V x0 19).toNatClampNeg)) + (2 : Int32)).toNatClampNeg) q11.2))) else (F_Mod_fails_115   x0 x1 (V (x0 + 1) (((36 : Int32) * (V (x0 + 7) (V x0 19).toNatClampNeg)) + (2 : Int32)).toNatClampNeg) V))))) else none) else none)
set_option maxRecDepth 100000 in
set_option maxHeartbeats 8000000 in
theorem k_Mod_fails (l : Launch) (dC : Nat → ClassId) (dI : Nat → Nat → Nat) (cI cR cZ : ClassId) (b tP tN : Nat) {x0 : Nat} {x1 : Int32} {x2 : Int32} {V : gx_M} {q : (Int32 × gx_M)} (hk0 : mx_kd x0 = 6) (h : F_Mod_fails x0 x1 x2 V = some q) : mx_C l dC dI cI cR cZ b tP tN y_Mod_fails w_Mod_fails rm_Mod_fails [.ref (b + x0), .int x1, .int x2] V (some (.int q.1)) q.2 := by
  refine gx_start (cc := b_Mod_fails) (maxL := 6) (ret := rt_Mod_fails) (by decide) rfl (Nat.le_of_ble_eq_true rfl) ?_
  intro p e s m args below meth c ls hx hb hr hts hown hlk hml hl hP hK hX hS
  have hts : ∀ w ∈ cx_tb, w.before args s = true := fun w hw => hts w (List.mem_cons_of_mem _ hw)
  have hown : s.vm.findClass "GasLedgerModel" = some m.cls := hown
  have hl : lv_has ls 6 [(0, .ref (b + x0)), (1, .int x1), (2, .int x2)] := hl
  have B_240 : ∀ (x1 : Int32), ∀ (V : gx_M) (H : Heap) (locs : List Loc) (ls : Array Slot), lv_has ls 6 [(1, .int x1)] → va_P (dC, dI) cx_cl (gx_w b 22 (gx_v (mx_sh cI cZ b) V)) H → va_S (gx_A b 22) s.heap H locs → F_Mod_fails_240 x1 V = some q → W p l e (headSpec w_Mod_fails rm_Mod_fails).room s m args below meth c H locs 0 0 (MQ below (gx_Q (dC, dI) cx_cl b 22 (mx_sh cI cZ b) (some (.int q.1)) q.2) args s 0 0 (gx_A b 22)) (F0 m 240 ls []) := by
    intro x1 V H locs ls hl hP hS h
    unfold F_Mod_fails_240 at h
    refine lv_iload_n (pc := 240) hx hb d_Mod_fails_240 rfl (lv_at hl 0 rfl) ?_
    refine lv_bipush (pc := 241) (v := (28 : Int32)) hx hb d_Mod_fails_241 (by decide) ?_
    refine lv_icmp_le (pc := 243) (tgt := 250) hx hb d_Mod_fails_243 (by decide) (fun g1 => ?_) (fun g1 => ?_)
    · have h := gx_pos g1 h
      refine lv_iconst (pc := 250) (v := (0 : Int32)) hx hb d_Mod_fails_250 (by decide) ?_
      exact gx_zret (free := fun _ => True) hx hb hr hlk hP hS d_Mod_fails_251 rfl (by cases h; rfl) (by cases h; rfl)
    · have h := gx_neg g1 h
      refine lv_iconst (pc := 246) (v := (1 : Int32)) hx hb d_Mod_fails_246 (by decide) ?_
      refine lv_goto (pc := 247) (tgt := 251) hx hb d_Mod_fails_247 (by decide) ?_
      exact gx_zret (free := fun _ => True) hx hb hr hlk hP hS d_Mod_fails_251 rfl (by cases h; rfl) (by cases h; rfl)
  have B_115 : ∀ (x0 : Nat) (x1 : Int32) (x3 : Int32), mx_kd x0 = 6 → ∀ (V : gx_M) (H : Heap) (locs : List Loc) (ls : Array Slot), lv_has ls 6 [(0, .ref (b + x0)), (1, .int x1), (3, .int x3)] → va_P (dC, dI) cx_cl (gx_w b 22 (gx_v (mx_sh cI cZ b) V)) H → va_S (gx_A b 22) s.heap H locs → F_Mod_fails_115 x0 x1 x3 V = some q → W p l e (headSpec w_Mod_fails rm_Mod_fails).room s m args below meth c H locs 0 0 (MQ below (gx_Q (dC, dI) cx_cl b 22 (mx_sh cI cZ b) (some (.int q.1)) q.2) args s 0 0 (gx_A b 22)) (F0 m 115 ls []) := by
    intro x0 x1 x3 hk_x0 V H locs ls hl hP hS h
    unfold F_Mod_fails_115 at h
    refine lv_iload_n (pc := 115) hx hb d_Mod_fails_115 rfl (lv_at hl 1 rfl) ?_
    refine lv_bipush (pc := 116) (v := (15 : Int32)) hx hb d_Mod_fails_116 (by decide) ?_
    refine lv_icmp_ne (pc := 118) (tgt := 140) hx hb d_Mod_fails_118 (by decide) (fun g2 => ?_) (fun g2 => ?_)
    · have h := gx_neg g2 h
      refine lv_iload_n (pc := 140) hx hb d_Mod_fails_140 rfl (lv_at hl 1 rfl) ?_
      refine lv_bipush (pc := 141) (v := (22 : Int32)) hx hb d_Mod_fails_141 (by decide) ?_
      refine lv_icmp_ne (pc := 143) (tgt := 160) hx hb d_Mod_fails_143 (by decide) (fun g3 => ?_) (fun g3 => ?_)
      · have h := gx_neg g3 h
        refine lv_iload_n (pc := 160) hx hb d_Mod_fails_160 rfl (lv_at hl 1 rfl) ?_
        refine lv_bipush (pc := 161) (v := (24 : Int32)) hx hb d_Mod_fails_161 (by decide) ?_
        refine lv_icmp_ne (pc := 163) (tgt := 221) hx hb d_Mod_fails_163 (by decide) (fun g4 => ?_) (fun g4 => ?_)
        · have h := gx_neg g4 h
          refine lv_iload_n (pc := 221) hx hb d_Mod_fails_221 rfl (lv_at hl 1 rfl) ?_
          refine lv_bipush (pc := 222) (v := (28 : Int32)) hx hb d_Mod_fails_222 (by decide) ?_
          refine lv_icmp_ne (pc := 224) (tgt := 240) hx hb d_Mod_fails_224 (by decide) (fun g5 => ?_) (fun g5 => ?_)
          · have h := gx_neg g5 h
            exact B_240   _  _ _ _ _ (lv_sub hl [1] rfl) hP hS h
          · have h := gx_pos g5 h
            refine lv_aload_n (pc := 227) hx hb d_Mod_fails_227 rfl (lv_at hl 0 rfl) ?_
            refine lv_iconst (pc := 228) (v := (0 : Int32)) hx hb d_Mod_fails_228 (by decide) ?_
            obtain ⟨q1, g6, h⟩ := gx_bd h
            refine gx_ci (pc := 229) (va_runV (C := "GasLedgerModel") (As := [.int (0 : Int32)]) (rest := []) ⟨hx, hb, hml, hown, hts⟩ (k_Mod_peek l dC dI cI cR cZ b tP tN hk_x0 g6) (gx_cw 1 hts cd_Mod_peek tb_50 tb_807 tb_809 tb_32 rfl rfl ⟨by decide, by decide, by decide +kernel⟩ ⟨Nat.le_of_ble_eq_true rfl, Nat.le_of_ble_eq_true rfl⟩) (gy_preV (mx_XX b) hX hK hP hS (mx_lt hk_x0 (by decide)) (sh_Mod cI cZ b hk_x0 _) rfl) rfl rfl hl.1 rfl (lv_room (Nat.le_of_ble_eq_true rfl)) d_Mod_fails_229 ⟨Nat.zero_le _, Nat.zero_le _⟩) hS (fun H locs hP hS => ?_)
            refine lv_bipush (pc := 232) (v := (16 : Int32)) hx hb d_Mod_fails_232 (by decide) ?_
            obtain ⟨q2, g7, h⟩ := gx_bd h
            refine gx_ci (pc := 234) (va_runS (As := [.int q1.1, .int (16 : Int32)]) (rest := []) ⟨hx, hb, hml, hown, hts⟩ (k_Mod_in l dC dI cI cR cZ b tP tN  g7) (gx_cs 2 hts cd_Mod_in tb_50 tb_724 tb_725 rfl rfl ⟨by decide, by decide, by decide +kernel⟩ ⟨Nat.le_of_ble_eq_true rfl, Nat.le_of_ble_eq_true rfl⟩) (gy_pre (mx_XX b) hX hK hP hS) rfl rfl hl.1 rfl (lv_room (Nat.le_of_ble_eq_true rfl)) d_Mod_fails_234 ⟨Nat.zero_le _, Nat.zero_le _⟩) hS (fun H locs hP hS => ?_)
            refine lv_if_eq (pc := 237) (tgt := 246) hx hb d_Mod_fails_237 (by decide) (fun g8 => ?_) (fun g8 => ?_)
            · have h := gx_pos g8 h
              refine lv_iconst (pc := 246) (v := (1 : Int32)) hx hb d_Mod_fails_246 (by decide) ?_
              refine lv_goto (pc := 247) (tgt := 251) hx hb d_Mod_fails_247 (by decide) ?_
              exact gx_zret (free := fun _ => True) hx hb hr hlk hP hS d_Mod_fails_251 rfl (by cases h; rfl) (by cases h; rfl)
            · have h := gx_neg g8 h
              exact B_240   _  _ _ _ _ (lv_sub hl [1] rfl) hP hS h
        · have h := gx_pos g4 h
          refine lv_aload_n (pc := 166) hx hb d_Mod_fails_166 rfl (lv_at hl 0 rfl) ?_
          refine lv_iconst (pc := 167) (v := (1 : Int32)) hx hb d_Mod_fails_167 (by decide) ?_
          obtain ⟨q3, g9, h⟩ := gx_bd h
          refine gx_ci (pc := 168) (va_runV (C := "GasLedgerModel") (As := [.int (1 : Int32)]) (rest := []) ⟨hx, hb, hml, hown, hts⟩ (k_Mod_peek l dC dI cI cR cZ b tP tN hk_x0 g9) (gx_cw 1 hts cd_Mod_peek tb_50 tb_807 tb_809 tb_32 rfl rfl ⟨by decide, by decide, by decide +kernel⟩ ⟨Nat.le_of_ble_eq_true rfl, Nat.le_of_ble_eq_true rfl⟩) (gy_preV (mx_XX b) hX hK hP hS (mx_lt hk_x0 (by decide)) (sh_Mod cI cZ b hk_x0 _) rfl) rfl rfl hl.1 rfl (lv_room (Nat.le_of_ble_eq_true rfl)) d_Mod_fails_168 ⟨Nat.zero_le _, Nat.zero_le _⟩) hS (fun H locs hP hS => ?_)
          refine lv_istore (pc := 171) (lv' := [(4, .int q3.1), (0, .ref (b + x0)), (1, .int x1), (3, .int x3)]) hx hb d_Mod_fails_171 hl (by decide) rfl (fun ls hl => ?_)
          refine lv_aload_n (pc := 173) hx hb d_Mod_fails_173 rfl (lv_at hl 1 rfl) ?_
          refine lv_iconst (pc := 174) (v := (2 : Int32)) hx hb d_Mod_fails_174 (by decide) ?_
          obtain ⟨q4, g10, h⟩ := gx_bd h
          refine gx_ci (pc := 175) (va_runV (C := "GasLedgerModel") (As := [.int (2 : Int32)]) (rest := []) ⟨hx, hb, hml, hown, hts⟩ (k_Mod_peek l dC dI cI cR cZ b tP tN hk_x0 g10) (gx_cw 1 hts cd_Mod_peek tb_50 tb_807 tb_809 tb_32 rfl rfl ⟨by decide, by decide, by decide +kernel⟩ ⟨Nat.le_of_ble_eq_true rfl, Nat.le_of_ble_eq_true rfl⟩) (gy_preV (mx_XX b) hX hK hP hS (mx_lt hk_x0 (by decide)) (sh_Mod cI cZ b hk_x0 _) rfl) rfl rfl hl.1 rfl (lv_room (Nat.le_of_ble_eq_true rfl)) d_Mod_fails_175 ⟨Nat.zero_le _, Nat.zero_le _⟩) hS (fun H locs hP hS => ?_)
          refine lv_istore (pc := 178) (lv' := [(5, .int q4.1), (4, .int q3.1), (0, .ref (b + x0)), (1, .int x1), (3, .int x3)]) hx hb d_Mod_fails_178 hl (by decide) rfl (fun ls hl => ?_)
          refine lv_aload_n (pc := 180) hx hb d_Mod_fails_180 rfl (lv_at hl 2 rfl) ?_
          refine lv_iconst (pc := 181) (v := (0 : Int32)) hx hb d_Mod_fails_181 (by decide) ?_
          obtain ⟨q5, g11, h⟩ := gx_bd h
          refine gx_ci (pc := 182) (va_runV (C := "GasLedgerModel") (As := [.int (0 : Int32)]) (rest := []) ⟨hx, hb, hml, hown, hts⟩ (k_Mod_peek l dC dI cI cR cZ b tP tN hk_x0 g11) (gx_cw 1 hts cd_Mod_peek tb_50 tb_807 tb_809 tb_32 rfl rfl ⟨by decide, by decide, by decide +kernel⟩ ⟨Nat.le_of_ble_eq_true rfl, Nat.le_of_ble_eq_true rfl⟩) (gy_preV (mx_XX b) hX hK hP hS (mx_lt hk_x0 (by decide)) (sh_Mod cI cZ b hk_x0 _) rfl) rfl rfl hl.1 rfl (lv_room (Nat.le_of_ble_eq_true rfl)) d_Mod_fails_182 ⟨Nat.zero_le _, Nat.zero_le _⟩) hS (fun H locs hP hS => ?_)
          refine lv_if_lt (pc := 185) (tgt := 215) hx hb d_Mod_fails_185 (by decide) (fun g12 => ?_) (fun g12 => ?_)
          · have h := gx_pos g12 h
            refine lv_iconst (pc := 215) (v := (1 : Int32)) hx hb d_Mod_fails_215 (by decide) ?_
            refine lv_goto (pc := 216) (tgt := 220) hx hb d_Mod_fails_216 (by decide) ?_
            exact gx_zret (free := fun _ => True) hx hb hr hlk hP hS d_Mod_fails_220 rfl (by cases h; rfl) (by cases h; rfl)
          · have h := gx_neg g12 h
            refine lv_iload (pc := 188) hx hb d_Mod_fails_188 (lv_at hl 0 rfl) ?_
            refine lv_iconst (pc := 190) (v := (1 : Int32)) hx hb d_Mod_fails_190 (by decide) ?_
            refine lv_icmp_lt (pc := 191) (tgt := 215) hx hb d_Mod_fails_191 (by decide) (fun g13 => ?_) (fun g13 => ?_)
            · have h := gx_pos g13 h
              refine lv_iconst (pc := 215) (v := (1 : Int32)) hx hb d_Mod_fails_215 (by decide) ?_
              refine lv_goto (pc := 216) (tgt := 220) hx hb d_Mod_fails_216 (by decide) ?_
              exact gx_zret (free := fun _ => True) hx hb hr hlk hP hS d_Mod_fails_220 rfl (by cases h; rfl) (by cases h; rfl)
            · have h := gx_neg g13 h
              refine lv_iload (pc := 194) hx hb d_Mod_fails_194 (lv_at hl 0 rfl) ?_
              refine lv_bipush (pc := 196) (v := (24 : Int32)) hx hb d_Mod_fails_196 (by decide) ?_
              refine lv_icmp_gt (pc := 198) (tgt := 215) hx hb d_Mod_fails_198 (by decide) (fun g14 => ?_) (fun g14 => ?_)
              · have h := gx_pos g14 h
                refine lv_iconst (pc := 215) (v := (1 : Int32)) hx hb d_Mod_fails_215 (by decide) ?_
                refine lv_goto (pc := 216) (tgt := 220) hx hb d_Mod_fails_216 (by decide) ?_
                exact gx_zret (free := fun _ => True) hx hb hr hlk hP hS d_Mod_fails_220 rfl (by cases h; rfl) (by cases h; rfl)
              · have h := gx_neg g14 h
                refine lv_iload (pc := 201) hx hb d_Mod_fails_201 (lv_at hl 1 rfl) ?_
                refine lv_if_lt (pc := 203) (tgt := 215) hx hb d_Mod_fails_203 (by decide) (fun g15 => ?_) (fun g15 => ?_)
                · have h := gx_pos g15 h
                  refine lv_iconst (pc := 215) (v := (1 : Int32)) hx hb d_Mod_fails_215 (by decide) ?_
                  refine lv_goto (pc := 216) (tgt := 220) hx hb d_Mod_fails_216 (by decide) ?_
                  exact gx_zret (free := fun _ => True) hx hb hr hlk hP hS d_Mod_fails_220 rfl (by cases h; rfl) (by cases h; rfl)
                · have h := gx_neg g15 h
                  refine lv_iload (pc := 206) hx hb d_Mod_fails_206 (lv_at hl 1 rfl) ?_
                  refine lv_iload_n (pc := 208) hx hb d_Mod_fails_208 rfl (lv_at hl 4 rfl) ?_
                  refine lv_iload (pc := 209) hx hb d_Mod_fails_209 (lv_at hl 0 rfl) ?_
                  refine lv_isub (pc := 211) hx hb d_Mod_fails_211 ?_
                  refine lv_icmp_le (pc := 212) (tgt := 219) hx hb d_Mod_fails_212 (by decide) (fun g16 => ?_) (fun g16 => ?_)
                  · have h := gx_pos g16 h
                    refine lv_iconst (pc := 219) (v := (0 : Int32)) hx hb d_Mod_fails_219 (by decide) ?_
                    exact gx_zret (free := fun _ => True) hx hb hr hlk hP hS d_Mod_fails_220 rfl (by cases h; rfl) (by cases h; rfl)
                  · have h := gx_neg g16 h
                    refine lv_iconst (pc := 215) (v := (1 : Int32)) hx hb d_Mod_fails_215 (by decide) ?_
                    refine lv_goto (pc := 216) (tgt := 220) hx hb d_Mod_fails_216 (by decide) ?_
                    exact gx_zret (free := fun _ => True) hx hb hr hlk hP hS d_Mod_fails_220 rfl (by cases h; rfl) (by cases h; rfl)
      · have h := gx_pos g3 h
        refine lv_aload_n (pc := 146) hx hb d_Mod_fails_146 rfl (lv_at hl 0 rfl) ?_
        refine lv_iconst (pc := 147) (v := (2 : Int32)) hx hb d_Mod_fails_147 (by decide) ?_
        obtain ⟨q6, g17, h⟩ := gx_bd h
        refine gx_ci (pc := 148) (va_runV (C := "GasLedgerModel") (As := [.int (2 : Int32)]) (rest := []) ⟨hx, hb, hml, hown, hts⟩ (k_Mod_peek l dC dI cI cR cZ b tP tN hk_x0 g17) (gx_cw 1 hts cd_Mod_peek tb_50 tb_807 tb_809 tb_32 rfl rfl ⟨by decide, by decide, by decide +kernel⟩ ⟨Nat.le_of_ble_eq_true rfl, Nat.le_of_ble_eq_true rfl⟩) (gy_preV (mx_XX b) hX hK hP hS (mx_lt hk_x0 (by decide)) (sh_Mod cI cZ b hk_x0 _) rfl) rfl rfl hl.1 rfl (lv_room (Nat.le_of_ble_eq_true rfl)) d_Mod_fails_148 ⟨Nat.zero_le _, Nat.zero_le _⟩) hS (fun H locs hP hS => ?_)
        refine lv_if_ge (pc := 151) (tgt := 158) hx hb d_Mod_fails_151 (by decide) (fun g18 => ?_) (fun g18 => ?_)
        · have h := gx_pos g18 h
          refine lv_iconst (pc := 158) (v := (0 : Int32)) hx hb d_Mod_fails_158 (by decide) ?_
          exact gx_zret (free := fun _ => True) hx hb hr hlk hP hS d_Mod_fails_159 rfl (by cases h; rfl) (by cases h; rfl)
        · have h := gx_neg g18 h
          refine lv_iconst (pc := 154) (v := (1 : Int32)) hx hb d_Mod_fails_154 (by decide) ?_
          refine lv_goto (pc := 155) (tgt := 159) hx hb d_Mod_fails_155 (by decide) ?_
          exact gx_zret (free := fun _ => True) hx hb hr hlk hP hS d_Mod_fails_159 rfl (by cases h; rfl) (by cases h; rfl)
    · have h := gx_pos g2 h
      refine lv_aload_n (pc := 121) hx hb d_Mod_fails_121 rfl (lv_at hl 0 rfl) ?_
      refine lv_iconst (pc := 122) (v := (0 : Int32)) hx hb d_Mod_fails_122 (by decide) ?_
      obtain ⟨q7, g19, h⟩ := gx_bd h
      refine gx_ci (pc := 123) (va_runV (C := "GasLedgerModel") (As := [.int (0 : Int32)]) (rest := []) ⟨hx, hb, hml, hown, hts⟩ (k_Mod_peek l dC dI cI cR cZ b tP tN hk_x0 g19) (gx_cw 1 hts cd_Mod_peek tb_50 tb_807 tb_809 tb_32 rfl rfl ⟨by decide, by decide, by decide +kernel⟩ ⟨Nat.le_of_ble_eq_true rfl, Nat.le_of_ble_eq_true rfl⟩) (gy_preV (mx_XX b) hX hK hP hS (mx_lt hk_x0 (by decide)) (sh_Mod cI cZ b hk_x0 _) rfl) rfl rfl hl.1 rfl (lv_room (Nat.le_of_ble_eq_true rfl)) d_Mod_fails_123 ⟨Nat.zero_le _, Nat.zero_le _⟩) hS (fun H locs hP hS => ?_)
      refine lv_bipush (pc := 126) (v := (8 : Int32)) hx hb d_Mod_fails_126 (by decide) ?_
      obtain ⟨q8, g20, h⟩ := gx_bd h
      refine gx_ci (pc := 128) (va_runS (As := [.int q7.1, .int (8 : Int32)]) (rest := []) ⟨hx, hb, hml, hown, hts⟩ (k_Mod_in l dC dI cI cR cZ b tP tN  g20) (gx_cs 2 hts cd_Mod_in tb_50 tb_724 tb_725 rfl rfl ⟨by decide, by decide, by decide +kernel⟩ ⟨Nat.le_of_ble_eq_true rfl, Nat.le_of_ble_eq_true rfl⟩) (gy_pre (mx_XX b) hX hK hP hS) rfl rfl hl.1 rfl (lv_room (Nat.le_of_ble_eq_true rfl)) d_Mod_fails_128 ⟨Nat.zero_le _, Nat.zero_le _⟩) hS (fun H locs hP hS => ?_)
      refine lv_if_ne (pc := 131) (tgt := 138) hx hb d_Mod_fails_131 (by decide) (fun g21 => ?_) (fun g21 => ?_)
      · have h := gx_neg g21 h
        refine lv_iconst (pc := 138) (v := (0 : Int32)) hx hb d_Mod_fails_138 (by decide) ?_
        exact gx_zret (free := fun _ => True) hx hb hr hlk hP hS d_Mod_fails_139 rfl (by cases h; rfl) (by cases h; rfl)
      · have h := gx_pos g21 h
        refine lv_iconst (pc := 134) (v := (1 : Int32)) hx hb d_Mod_fails_134 (by decide) ?_
        refine lv_goto (pc := 135) (tgt := 139) hx hb d_Mod_fails_135 (by decide) ?_
        exact gx_zret (free := fun _ => True) hx hb hr hlk hP hS d_Mod_fails_139 rfl (by cases h; rfl) (by cases h; rfl)
  have B_97 : ∀ (x0 : Nat) (x3 : Int32), mx_kd x0 = 6 → ∀ (V : gx_M) (H : Heap) (locs : List Loc) (ls : Array Slot), lv_has ls 6 [(0, .ref (b + x0)), (3, .int x3)] → va_P (dC, dI) cx_cl (gx_w b 22 (gx_v (mx_sh cI cZ b) V)) H → va_S (gx_A b 22) s.heap H locs → F_Mod_fails_97 x0 x3 V = some q → W p l e (headSpec w_Mod_fails rm_Mod_fails).room s m args below meth c H locs 0 0 (MQ below (gx_Q (dC, dI) cx_cl b 22 (mx_sh cI cZ b) (some (.int q.1)) q.2) args s 0 0 (gx_A b 22)) (F0 m 97 ls []) := by
    intro x0 x3 hk_x0 V H locs ls hl hP hS h
    unfold F_Mod_fails_97 at h
    refine lv_aload_n (pc := 97) hx hb d_Mod_fails_97 rfl (lv_at hl 0 rfl) ?_
    refine lv_iconst (pc := 98) (v := (0 : Int32)) hx hb d_Mod_fails_98 (by decide) ?_
    obtain ⟨q9, g22, h⟩ := gx_bd h
    refine gx_ci (pc := 99) (va_runV (C := "GasLedgerModel") (As := [.int (0 : Int32)]) (rest := []) ⟨hx, hb, hml, hown, hts⟩ (k_Mod_peek l dC dI cI cR cZ b tP tN hk_x0 g22) (gx_cw 1 hts cd_Mod_peek tb_50 tb_807 tb_809 tb_32 rfl rfl ⟨by decide, by decide, by decide +kernel⟩ ⟨Nat.le_of_ble_eq_true rfl, Nat.le_of_ble_eq_true rfl⟩) (gy_preV (mx_XX b) hX hK hP hS (mx_lt hk_x0 (by decide)) (sh_Mod cI cZ b hk_x0 _) rfl) rfl rfl hl.1 rfl (lv_room (Nat.le_of_ble_eq_true rfl)) d_Mod_fails_99 ⟨Nat.zero_le _, Nat.zero_le _⟩) hS (fun H locs hP hS => ?_)
    refine lv_iload_n (pc := 102) hx hb d_Mod_fails_102 rfl (lv_at hl 1 rfl) ?_
    obtain ⟨q10, g23, h⟩ := gx_bd h
    refine gx_ci (pc := 103) (va_runS (As := [.int q9.1, .int x3]) (rest := []) ⟨hx, hb, hml, hown, hts⟩ (k_Mod_in l dC dI cI cR cZ b tP tN  g23) (gx_cs 2 hts cd_Mod_in tb_50 tb_724 tb_725 rfl rfl ⟨by decide, by decide, by decide +kernel⟩ ⟨Nat.le_of_ble_eq_true rfl, Nat.le_of_ble_eq_true rfl⟩) (gy_pre (mx_XX b) hX hK hP hS) rfl rfl hl.1 rfl (lv_room (Nat.le_of_ble_eq_true rfl)) d_Mod_fails_103 ⟨Nat.zero_le _, Nat.zero_le _⟩) hS (fun H locs hP hS => ?_)
    refine lv_if_ne (pc := 106) (tgt := 113) hx hb d_Mod_fails_106 (by decide) (fun g24 => ?_) (fun g24 => ?_)
    · have h := gx_neg g24 h
      refine lv_iconst (pc := 113) (v := (0 : Int32)) hx hb d_Mod_fails_113 (by decide) ?_
      exact gx_zret (free := fun _ => True) hx hb hr hlk hP hS d_Mod_fails_114 rfl (by cases h; rfl) (by cases h; rfl)
    · have h := gx_pos g24 h
      refine lv_iconst (pc := 109) (v := (1 : Int32)) hx hb d_Mod_fails_109 (by decide) ?_
      refine lv_goto (pc := 110) (tgt := 114) hx hb d_Mod_fails_110 (by decide) ?_
      exact gx_zret (free := fun _ => True) hx hb hr hlk hP hS d_Mod_fails_114 rfl (by cases h; rfl) (by cases h; rfl)
  unfold F_Mod_fails at h
  refine lv_aload_n (pc := 0) hx hb d_Mod_fails_0 rfl (lv_at hl 0 rfl) ?_
  refine va_get (pc := 1) (D := (dC, dI)) (ci := 6) (C := R_Mod) (T := T_Mod) (N := 39) hx hb hts in_Mod hown hK hP x0 (gx_at (mx_lt hk0 (by decide)) (sh_Mod cI cZ b hk0 _)) rfl 0 (by decide) (hts _ tb_601) (fun _ h9 => h9) rfl d_Mod_fails_1 ?_
  refine lv_bipush (pc := 4) (v := (36 : Int32)) hx hb d_Mod_fails_4 (by decide) ?_
  refine lv_aload_n (pc := 6) hx hb d_Mod_fails_6 rfl (lv_at hl 0 rfl) ?_
  refine va_get (pc := 7) (D := (dC, dI)) (ci := 6) (C := R_Mod) (T := T_Mod) (N := 39) hx hb hts in_Mod hown hK hP x0 (gx_at (mx_lt hk0 (by decide)) (sh_Mod cI cZ b hk0 _)) rfl 21 (by decide) (hts _ tb_622) (fun _ h9 => h9) rfl d_Mod_fails_7 ?_
  refine lv_aload_n (pc := 10) hx hb d_Mod_fails_10 rfl (lv_at hl 0 rfl) ?_
  refine va_get (pc := 11) (D := (dC, dI)) (ci := 6) (C := R_Mod) (T := T_Mod) (N := 39) hx hb hts in_Mod hown hK hP x0 (gx_at (mx_lt hk0 (by decide)) (sh_Mod cI cZ b hk0 _)) rfl 19 (by decide) (hts _ tb_620) (fun _ h9 => h9) rfl d_Mod_fails_11 ?_
  obtain ⟨g25, h⟩ := gx_if h
  refine va_iald (pc := 14) hx hb hK hP (x0 + 7) 0 (gx_at (mx_lt (to_Mod_runs hk0) (by decide)) (mh_arr cI cZ b (n := 8) (to_Mod_runs hk0) (by decide) _)) rfl g25 d_Mod_fails_14 ?_
  refine lv_imul (pc := 15) hx hb d_Mod_fails_15 ?_
  refine lv_iconst (pc := 16) (v := (2 : Int32)) hx hb d_Mod_fails_16 (by decide) ?_
  refine lv_iadd (pc := 17) hx hb d_Mod_fails_17 ?_
  obtain ⟨g26, h⟩ := gx_if h
  refine va_iald (pc := 18) hx hb hK hP (x0 + 1) 0 (gx_at (mx_lt (to_Mod_now hk0) (by decide)) (mh_arr cI cZ b (n := 576) (to_Mod_now hk0) (by decide) _)) rfl g26 d_Mod_fails_18 ?_
  refine lv_istore_n (pc := 19) (lv' := [(3, .int (V (x0 + 1) (((36 : Int32) * (V (x0 + 7) (V x0 19).toNatClampNeg)) + (2 : Int32)).toNatClampNeg)), (0, .ref (b + x0)), (1, .int x1), (2, .int x2)]) hx hb d_Mod_fails_19 rfl hl (by decide) rfl (fun ls hl => ?_)
  refine lv_iload_n (pc := 20) hx hb d_Mod_fails_20 rfl (lv_at hl 2 rfl) ?_
  refine lv_iconst (pc := 21) (v := (3 : Int32)) hx hb d_Mod_fails_21 (by decide) ?_
  refine lv_icmp_ne (pc := 22) (tgt := 48) hx hb d_Mod_fails_22 (by decide) (fun g27 => ?_) (fun g27 => ?_)
  · have h := gx_neg g27 h
    refine lv_iload_n (pc := 48) hx hb d_Mod_fails_48 rfl (lv_at hl 2 rfl) ?_
    refine lv_iconst (pc := 49) (v := (4 : Int32)) hx hb d_Mod_fails_49 (by decide) ?_
    refine lv_icmp_ne (pc := 50) (tgt := 77) hx hb d_Mod_fails_50 (by decide) (fun g28 => ?_) (fun g28 => ?_)
    · have h := gx_neg g28 h
      refine lv_iload_n (pc := 77) hx hb d_Mod_fails_77 rfl (lv_at hl 2 rfl) ?_
      refine lv_bipush (pc := 78) (v := (12 : Int32)) hx hb d_Mod_fails_78 (by decide) ?_
      refine lv_icmp_eq (pc := 80) (tgt := 97) hx hb d_Mod_fails_80 (by decide) (fun g29 => ?_) (fun g29 => ?_)
      · have h := gx_pos g29 h
        exact B_97   _ _ hk0 _ _ _ _ (lv_sub hl [1, 0] rfl) hP hS h
      · have h := gx_neg g29 h
        refine lv_iload_n (pc := 83) hx hb d_Mod_fails_83 rfl (lv_at hl 2 rfl) ?_
        refine lv_bipush (pc := 84) (v := (13 : Int32)) hx hb d_Mod_fails_84 (by decide) ?_
        refine lv_icmp_ne (pc := 86) (tgt := 115) hx hb d_Mod_fails_86 (by decide) (fun g30 => ?_) (fun g30 => ?_)
        · have h := gx_neg g30 h
          exact B_115   _ _ _ hk0 _ _ _ _ (lv_sub hl [1, 2, 0] rfl) hP hS h
        · have h := gx_pos g30 h
          refine lv_aload_n (pc := 89) hx hb d_Mod_fails_89 rfl (lv_at hl 1 rfl) ?_
          refine lv_iconst (pc := 90) (v := (1 : Int32)) hx hb d_Mod_fails_90 (by decide) ?_
          obtain ⟨q11, g31, h⟩ := gx_bd h
          refine gx_ci (pc := 91) (va_runV (C := "GasLedgerModel") (As := [.int (1 : Int32)]) (rest := []) ⟨hx, hb, hml, hown, hts⟩ (k_Mod_peek l dC dI cI cR cZ b tP tN hk0 g31) (gx_cw 1 hts cd_Mod_peek tb_50 tb_807 tb_809 tb_32 rfl rfl ⟨by decide, by decide, by decide +kernel⟩ ⟨Nat.le_of_ble_eq_true rfl, Nat.le_of_ble_eq_true rfl⟩) (gy_preV (mx_XX b) hX hK hP hS (mx_lt hk0 (by decide)) (sh_Mod cI cZ b hk0 _) rfl) rfl rfl hl.1 rfl (lv_room (Nat.le_of_ble_eq_true rfl)) d_Mod_fails_91 ⟨Nat.zero_le _, Nat.zero_le _⟩) hS (fun H locs hP hS => ?_)
          refine lv_if_eq (pc := 94) (tgt := 115) hx hb d_Mod_fails_94 (by decide) (fun g32 => ?_) (fun g32 => ?_)
          · have h := gx_pos g32 h
            exact B_115   _ _ _ hk0 _ _ _ _ (lv_sub hl [1, 2, 0] rfl) hP hS h
          · have h := gx_neg g32 h
            exact B_97   _ _ hk0 _ _ _ _ (lv_sub hl [1, 0] rfl) hP hS h
    · have h := gx_pos g28 h
      refine lv_iload_n (pc := 53) hx hb d_Mod_fails_53 rfl (lv_at hl 3 rfl) ?_
      refine lv_iconst (pc := 54) (v := (1 : Int32)) hx hb d_Mod_fails_54 (by decide) ?_
      refine lv_icmp_lt (pc := 55) (tgt := 71) hx hb d_Mod_fails_55 (by decide) (fun g33 => ?_) (fun g33 => ?_)
      · have h := gx_pos g33 h
        refine lv_iconst (pc := 71) (v := (1 : Int32)) hx hb d_Mod_fails_71 (by decide) ?_
        refine lv_goto (pc := 72) (tgt := 76) hx hb d_Mod_fails_72 (by decide) ?_
        exact gx_zret (free := fun _ => True) hx hb hr hlk hP hS d_Mod_fails_76 rfl (by cases h; rfl) (by cases h; rfl)
      · have h := gx_neg g33 h
        refine lv_iload_n (pc := 58) hx hb d_Mod_fails_58 rfl (lv_at hl 3 rfl) ?_
        refine lv_aload_n (pc := 59) hx hb d_Mod_fails_59 rfl (lv_at hl 1 rfl) ?_
        refine va_get (pc := 60) (D := (dC, dI)) (ci := 6) (C := R_Mod) (T := T_Mod) (N := 39) hx hb hts in_Mod hown hK hP x0 (gx_at (mx_lt hk0 (by decide)) (sh_Mod cI cZ b hk0 _)) rfl 27 (by decide) (hts _ tb_628) (fun _ h9 => h9) rfl d_Mod_fails_60 ?_
        refine lv_aload_n (pc := 63) hx hb d_Mod_fails_63 rfl (lv_at hl 1 rfl) ?_
        refine va_get (pc := 64) (D := (dC, dI)) (ci := 6) (C := R_Mod) (T := T_Mod) (N := 39) hx hb hts in_Mod hown hK hP x0 (gx_at (mx_lt hk0 (by decide)) (sh_Mod cI cZ b hk0 _)) rfl 19 (by decide) (hts _ tb_620) (fun _ h9 => h9) rfl d_Mod_fails_64 ?_
        obtain ⟨g34, h⟩ := gx_if h
        refine va_iald (pc := 67) hx hb hK hP (x0 + 13) 0 (gx_at (mx_lt (to_Mod_size hk0) (by decide)) (mh_arr cI cZ b (n := 8) (to_Mod_size hk0) (by decide) _)) rfl g34 d_Mod_fails_67 ?_
        refine lv_icmp_lt (pc := 68) (tgt := 75) hx hb d_Mod_fails_68 (by decide) (fun g35 => ?_) (fun g35 => ?_)
        · have h := gx_pos g35 h
          refine lv_iconst (pc := 75) (v := (0 : Int32)) hx hb d_Mod_fails_75 (by decide) ?_
          exact gx_zret (free := fun _ => True) hx hb hr hlk hP hS d_Mod_fails_76 rfl (by cases h; rfl) (by cases h; rfl)
        · have h := gx_neg g35 h
          refine lv_iconst (pc := 71) (v := (1 : Int32)) hx hb d_Mod_fails_71 (by decide) ?_
          refine lv_goto (pc := 72) (tgt := 76) hx hb d_Mod_fails_72 (by decide) ?_
          exact gx_zret (free := fun _ => True) hx hb hr hlk hP hS d_Mod_fails_76 rfl (by cases h; rfl) (by cases h; rfl)
  · have h := gx_pos g27 h
    refine lv_iload_n (pc := 25) hx hb d_Mod_fails_25 rfl (lv_at hl 3 rfl) ?_
    refine lv_if_lt (pc := 26) (tgt := 42) hx hb d_Mod_fails_26 (by decide) (fun g36 => ?_) (fun g36 => ?_)
    · have h := gx_pos g36 h
      refine lv_iconst (pc := 42) (v := (1 : Int32)) hx hb d_Mod_fails_42 (by decide) ?_
      refine lv_goto (pc := 43) (tgt := 47) hx hb d_Mod_fails_43 (by decide) ?_
      exact gx_zret (free := fun _ => True) hx hb hr hlk hP hS d_Mod_fails_47 rfl (by cases h; rfl) (by cases h; rfl)
    · have h := gx_neg g36 h
      refine lv_iload_n (pc := 29) hx hb d_Mod_fails_29 rfl (lv_at hl 3 rfl) ?_
      refine lv_aload_n (pc := 30) hx hb d_Mod_fails_30 rfl (lv_at hl 1 rfl) ?_
      refine va_get (pc := 31) (D := (dC, dI)) (ci := 6) (C := R_Mod) (T := T_Mod) (N := 39) hx hb hts in_Mod hown hK hP x0 (gx_at (mx_lt hk0 (by decide)) (sh_Mod cI cZ b hk0 _)) rfl 27 (by decide) (hts _ tb_628) (fun _ h9 => h9) rfl d_Mod_fails_31 ?_
      refine lv_aload_n (pc := 34) hx hb d_Mod_fails_34 rfl (lv_at hl 1 rfl) ?_
      refine va_get (pc := 35) (D := (dC, dI)) (ci := 6) (C := R_Mod) (T := T_Mod) (N := 39) hx hb hts in_Mod hown hK hP x0 (gx_at (mx_lt hk0 (by decide)) (sh_Mod cI cZ b hk0 _)) rfl 19 (by decide) (hts _ tb_620) (fun _ h9 => h9) rfl d_Mod_fails_35 ?_
      obtain ⟨g37, h⟩ := gx_if h
      refine va_iald (pc := 38) hx hb hK hP (x0 + 13) 0 (gx_at (mx_lt (to_Mod_size hk0) (by decide)) (mh_arr cI cZ b (n := 8) (to_Mod_size hk0) (by decide) _)) rfl g37 d_Mod_fails_38 ?_
      refine lv_icmp_lt (pc := 39) (tgt := 46) hx hb d_Mod_fails_39 (by decide) (fun g38 => ?_) (fun g38 => ?_)
      · have h := gx_pos g38 h
        refine lv_iconst (pc := 46) (v := (0 : Int32)) hx hb d_Mod_fails_46 (by decide) ?_
        exact gx_zret (free := fun _ => True) hx hb hr hlk hP hS d_Mod_fails_47 rfl (by cases h; rfl) (by cases h; rfl)
      · have h := gx_neg g38 h
        refine lv_iconst (pc := 42) (v := (1 : Int32)) hx hb d_Mod_fails_42 (by decide) ?_
        refine lv_goto (pc := 43) (tgt := 47) hx hb d_Mod_fails_43 (by decide) ?_
        exact gx_zret (free := fun _ => True) hx hb hr hlk hP hS d_Mod_fails_47 rfl (by cases h; rfl) (by cases h; rfl)
abbrev rm_Mod_shuffle : Room := { frames := 1, cells := 0, slots := 0, locals := 21 }
def F_Mod_shuffle (x0 : Nat) (x1 : Int32) (x2 : Int32) (V : gx_M) : Option gx_M := (if x1 = (1 : Int32) then ((F_Mod_push x0 x2 V).bind fun q4 => some q4) else (if x1 = (2 : Int32) then ((F_Mod_pop x0 V).bind fun q3 => some q3.2) else (if x1 = (3 : Int32) then ((F_Mod_peek x0 x2 V).bind fun q1 => ((F_Mod_push x0 q1.1 q1.2).bind fun q2 => some q2)) else (if gx_ib (V x0 19) 8 then (if gx_ib ((((12 : Int32) * (V x0 19)) + (V (x0 + 13) (V x0 19).toNatClampNeg)) - (1 : Int32)) 96 then (if gx_ib (((((12 : Int32) * (V x0 19)) + (V (x0 + 13) (V x0 19).toNatClampNeg)) - (1 : Int32)) - x2) 96 then (if gx_ib ((((12 : Int32) * (V x0 19)) + (V (x0 + 13) (V x0 19).toNatClampNeg)) - (1 : Int32)) 96 then (gx_let (gx_u V (x0 + 14) ((((12 : Int32) * (V x0 19)) + (V (x0 + 13) (V x0 19).toNatClampNeg)) - (1 : Int32)).toNatClampNeg (V (x0 + 14) (((((12 : Int32) * (V x0 19)) + (V (x0 + 13) (V x0 19).toNatClampNeg)) - (1 : Int32)) - x2).toNatClampNeg)) fun V1 => (if gx_ib (((((12 : Int32) * (V x0 19)) + (V (x0 + 13) (V x0 19).toNatClampNeg)) - (1 : Int32)) - x2) 96 then (gx_let (gx_u V1 (x0 + 14) (((((12 : Int32) * (V x0 19)) + (V (x0 + 13) (V x0 19).toNatClampNeg)) - (1 : Int32)) - x2).toNatClampNeg (V (x0 + 14) ((((12 : Int32) * (V x0 19)) + (V (x0 + 13) (V x0 19).toNatClampNeg)) - (1 : Int32)).toNatClampNeg)) fun V2 => some V2) else none)) else none) else none) else none) else none))))
set_option maxRecDepth 100000 in
set_option maxHeartbeats 8000000 in
theorem k_Mod_shuffle (l : Launch) (dC : Nat → ClassId) (dI : Nat → Nat → Nat) (cI cR cZ : ClassId) (b tP tN : Nat) {x0 : Nat} {x1 : Int32} {x2 : Int32} {V : gx_M} {q : gx_M} (hk0 : mx_kd x0 = 6) (h : F_Mod_shuffle x0 x1 x2 V = some q) : mx_C l dC dI cI cR cZ b tP tN y_Mod_shuffle w_Mod_shuffle rm_Mod_shuffle [.ref (b + x0), .int x1, .int x2] V none q := by
  refine gx_start (cc := b_Mod_shuffle) (maxL := 5) (ret := rt_Mod_shuffle) (by decide) rfl (Nat.le_of_ble_eq_true rfl) ?_
  intro p e s m args below meth c ls hx hb hr hts hown hlk hml hl hP hK hX hS
  have hts : ∀ w ∈ cx_tb, w.before args s = true := fun w hw => hts w (List.mem_cons_of_mem _ hw)
  have hown : s.vm.findClass "GasLedgerModel" = some m.cls := hown
  have hl : lv_has ls 5 [(0, .ref (b + x0)), (1, .int x1), (2, .int x2)] := hl
  unfold F_Mod_shuffle at h
  refine lv_iload_n (pc := 0) hx hb d_Mod_shuffle_0 rfl (lv_at hl 1 rfl) ?_
  refine lv_iconst (pc := 1) (v := (1 : Int32)) hx hb d_Mod_shuffle_1 (by decide) ?_
  refine lv_icmp_ne (pc := 2) (tgt := 13) hx hb d_Mod_shuffle_2 (by decide) (fun g1 => ?_) (fun g1 => ?_)
  · have h := gx_neg g1 h
    refine lv_iload_n (pc := 13) hx hb d_Mod_shuffle_13 rfl (lv_at hl 1 rfl) ?_
    refine lv_iconst (pc := 14) (v := (2 : Int32)) hx hb d_Mod_shuffle_14 (by decide) ?_
    refine lv_icmp_ne (pc := 15) (tgt := 26) hx hb d_Mod_shuffle_15 (by decide) (fun g2 => ?_) (fun g2 => ?_)
    · have h := gx_neg g2 h
      refine lv_iload_n (pc := 26) hx hb d_Mod_shuffle_26 rfl (lv_at hl 1 rfl) ?_
      refine lv_iconst (pc := 27) (v := (3 : Int32)) hx hb d_Mod_shuffle_27 (by decide) ?_
      refine lv_icmp_ne (pc := 28) (tgt := 43) hx hb d_Mod_shuffle_28 (by decide) (fun g3 => ?_) (fun g3 => ?_)
      · have h := gx_neg g3 h
        refine lv_bipush (pc := 43) (v := (12 : Int32)) hx hb d_Mod_shuffle_43 (by decide) ?_
        refine lv_aload_n (pc := 45) hx hb d_Mod_shuffle_45 rfl (lv_at hl 0 rfl) ?_
        refine va_get (pc := 46) (D := (dC, dI)) (ci := 6) (C := R_Mod) (T := T_Mod) (N := 39) hx hb hts in_Mod hown hK hP x0 (gx_at (mx_lt hk0 (by decide)) (sh_Mod cI cZ b hk0 _)) rfl 19 (by decide) (hts _ tb_620) (fun _ h9 => h9) rfl d_Mod_shuffle_46 ?_
        refine lv_imul (pc := 49) hx hb d_Mod_shuffle_49 ?_
        refine lv_aload_n (pc := 50) hx hb d_Mod_shuffle_50 rfl (lv_at hl 0 rfl) ?_
        refine va_get (pc := 51) (D := (dC, dI)) (ci := 6) (C := R_Mod) (T := T_Mod) (N := 39) hx hb hts in_Mod hown hK hP x0 (gx_at (mx_lt hk0 (by decide)) (sh_Mod cI cZ b hk0 _)) rfl 27 (by decide) (hts _ tb_628) (fun _ h9 => h9) rfl d_Mod_shuffle_51 ?_
        refine lv_aload_n (pc := 54) hx hb d_Mod_shuffle_54 rfl (lv_at hl 0 rfl) ?_
        refine va_get (pc := 55) (D := (dC, dI)) (ci := 6) (C := R_Mod) (T := T_Mod) (N := 39) hx hb hts in_Mod hown hK hP x0 (gx_at (mx_lt hk0 (by decide)) (sh_Mod cI cZ b hk0 _)) rfl 19 (by decide) (hts _ tb_620) (fun _ h9 => h9) rfl d_Mod_shuffle_55 ?_
        obtain ⟨g4, h⟩ := gx_if h
        refine va_iald (pc := 58) hx hb hK hP (x0 + 13) 0 (gx_at (mx_lt (to_Mod_size hk0) (by decide)) (mh_arr cI cZ b (n := 8) (to_Mod_size hk0) (by decide) _)) rfl g4 d_Mod_shuffle_58 ?_
        refine lv_iadd (pc := 59) hx hb d_Mod_shuffle_59 ?_
        refine lv_iconst (pc := 60) (v := (1 : Int32)) hx hb d_Mod_shuffle_60 (by decide) ?_
        refine lv_isub (pc := 61) hx hb d_Mod_shuffle_61 ?_
        refine lv_istore_n (pc := 62) (lv' := [(3, .int ((((12 : Int32) * (V x0 19)) + (V (x0 + 13) (V x0 19).toNatClampNeg)) - (1 : Int32))), (0, .ref (b + x0)), (1, .int x1), (2, .int x2)]) hx hb d_Mod_shuffle_62 rfl hl (by decide) rfl (fun ls hl => ?_)
        refine lv_aload_n (pc := 63) hx hb d_Mod_shuffle_63 rfl (lv_at hl 1 rfl) ?_
        refine va_get (pc := 64) (D := (dC, dI)) (ci := 6) (C := R_Mod) (T := T_Mod) (N := 39) hx hb hts in_Mod hown hK hP x0 (gx_at (mx_lt hk0 (by decide)) (sh_Mod cI cZ b hk0 _)) rfl 28 (by decide) (hts _ tb_629) (fun _ h9 => h9) rfl d_Mod_shuffle_64 ?_
        refine lv_iload_n (pc := 67) hx hb d_Mod_shuffle_67 rfl (lv_at hl 0 rfl) ?_
        obtain ⟨g5, h⟩ := gx_if h
        refine va_iald (pc := 68) hx hb hK hP (x0 + 14) 0 (gx_at (mx_lt (to_Mod_stack hk0) (by decide)) (mh_arr cI cZ b (n := 96) (to_Mod_stack hk0) (by decide) _)) rfl g5 d_Mod_shuffle_68 ?_
        refine lv_istore (pc := 69) (lv' := [(4, .int (V (x0 + 14) ((((12 : Int32) * (V x0 19)) + (V (x0 + 13) (V x0 19).toNatClampNeg)) - (1 : Int32)).toNatClampNeg)), (3, .int ((((12 : Int32) * (V x0 19)) + (V (x0 + 13) (V x0 19).toNatClampNeg)) - (1 : Int32))), (0, .ref (b + x0)), (1, .int x1), (2, .int x2)]) hx hb d_Mod_shuffle_69 hl (by decide) rfl (fun ls hl => ?_)
        refine lv_aload_n (pc := 71) hx hb d_Mod_shuffle_71 rfl (lv_at hl 2 rfl) ?_
        refine va_get (pc := 72) (D := (dC, dI)) (ci := 6) (C := R_Mod) (T := T_Mod) (N := 39) hx hb hts in_Mod hown hK hP x0 (gx_at (mx_lt hk0 (by decide)) (sh_Mod cI cZ b hk0 _)) rfl 28 (by decide) (hts _ tb_629) (fun _ h9 => h9) rfl d_Mod_shuffle_72 ?_
        refine lv_iload_n (pc := 75) hx hb d_Mod_shuffle_75 rfl (lv_at hl 1 rfl) ?_
        refine lv_aload_n (pc := 76) hx hb d_Mod_shuffle_76 rfl (lv_at hl 2 rfl) ?_
        refine va_get (pc := 77) (D := (dC, dI)) (ci := 6) (C := R_Mod) (T := T_Mod) (N := 39) hx hb hts in_Mod hown hK hP x0 (gx_at (mx_lt hk0 (by decide)) (sh_Mod cI cZ b hk0 _)) rfl 28 (by decide) (hts _ tb_629) (fun _ h9 => h9) rfl d_Mod_shuffle_77 ?_
        refine lv_iload_n (pc := 80) hx hb d_Mod_shuffle_80 rfl (lv_at hl 1 rfl) ?_
        refine lv_iload_n (pc := 81) hx hb d_Mod_shuffle_81 rfl (lv_at hl 4 rfl) ?_
        refine lv_isub (pc := 82) hx hb d_Mod_shuffle_82 ?_
        obtain ⟨g6, h⟩ := gx_if h
        refine va_iald (pc := 83) hx hb hK hP (x0 + 14) 0 (gx_at (mx_lt (to_Mod_stack hk0) (by decide)) (mh_arr cI cZ b (n := 96) (to_Mod_stack hk0) (by decide) _)) rfl g6 d_Mod_shuffle_83 ?_
        obtain ⟨g7, h⟩ := gx_if h
        obtain ⟨V1, g8, h⟩ := gx_lt h
        refine gx_asi (pc := 84) hx hb hK hP hS (x0 + 14) 0 (mx_lt (to_Mod_stack hk0) (by decide)) (fun _ => mh_arr cI cZ b (n := 96) (to_Mod_stack hk0) (by decide) _) rfl g7 d_Mod_shuffle_84 g8 (fun H locs hP hS => ?_)
        refine lv_aload_n (pc := 85) hx hb d_Mod_shuffle_85 rfl (lv_at hl 2 rfl) ?_
        refine va_get (pc := 86) (D := (dC, dI)) (ci := 6) (C := R_Mod) (T := T_Mod) (N := 39) hx hb hts in_Mod hown hK hP x0 (gx_at (mx_lt hk0 (by decide)) (sh_Mod cI cZ b hk0 _)) rfl 28 (by decide) (hts _ tb_629) (fun _ h9 => h9) rfl d_Mod_shuffle_86 ?_
        refine lv_iload_n (pc := 89) hx hb d_Mod_shuffle_89 rfl (lv_at hl 1 rfl) ?_
        refine lv_iload_n (pc := 90) hx hb d_Mod_shuffle_90 rfl (lv_at hl 4 rfl) ?_
        refine lv_isub (pc := 91) hx hb d_Mod_shuffle_91 ?_
        refine lv_iload (pc := 92) hx hb d_Mod_shuffle_92 (lv_at hl 0 rfl) ?_
        obtain ⟨g9, h⟩ := gx_if h
        obtain ⟨V2, g10, h⟩ := gx_lt h
        refine gx_asi (pc := 94) hx hb hK hP hS (x0 + 14) 0 (mx_lt (to_Mod_stack hk0) (by decide)) (fun _ => mh_arr cI cZ b (n := 96) (to_Mod_stack hk0) (by decide) _) rfl g9 d_Mod_shuffle_94 g10 (fun H locs hP hS => ?_)
        exact gx_vret hx hb hr hlk hP hS d_Mod_shuffle_95 (by cases h; rfl) (by cases h; rfl)
      · have h := gx_pos g3 h
        refine lv_aload_n (pc := 31) hx hb d_Mod_shuffle_31 rfl (lv_at hl 0 rfl) ?_
        refine lv_aload_n (pc := 32) hx hb d_Mod_shuffle_32 rfl (lv_at hl 0 rfl) ?_
        refine lv_iload_n (pc := 33) hx hb d_Mod_shuffle_33 rfl (lv_at hl 2 rfl) ?_
        obtain ⟨q1, g11, h⟩ := gx_bd h
        refine gx_ci (pc := 34) (va_runV (C := "GasLedgerModel") (As := [.int x2]) (rest := [.ref (b + x0)]) ⟨hx, hb, hml, hown, hts⟩ (k_Mod_peek l dC dI cI cR cZ b tP tN hk0 g11) (gx_cw 1 hts cd_Mod_peek tb_50 tb_807 tb_809 tb_32 rfl rfl ⟨by decide, by decide, by decide +kernel⟩ ⟨Nat.le_of_ble_eq_true rfl, Nat.le_of_ble_eq_true rfl⟩) (gy_preV (mx_XX b) hX hK hP hS (mx_lt hk0 (by decide)) (sh_Mod cI cZ b hk0 _) rfl) rfl rfl hl.1 rfl (lv_room (Nat.le_of_ble_eq_true rfl)) d_Mod_shuffle_34 ⟨Nat.zero_le _, Nat.zero_le _⟩) hS (fun H locs hP hS => ?_)
        obtain ⟨q2, g12, h⟩ := gx_bd h
        refine gx_cv (pc := 37) (va_runV (C := "GasLedgerModel") (As := [.int q1.1]) (rest := []) ⟨hx, hb, hml, hown, hts⟩ (k_Mod_push l dC dI cI cR cZ b tP tN hk0 g12) (gx_cw 1 hts cd_Mod_push tb_50 tb_793 tb_795 tb_30 rfl rfl ⟨by decide, by decide, by decide +kernel⟩ ⟨Nat.le_of_ble_eq_true rfl, Nat.le_of_ble_eq_true rfl⟩) (gy_preV (mx_XX b) hX hK hP hS (mx_lt hk0 (by decide)) (sh_Mod cI cZ b hk0 _) rfl) rfl rfl hl.1 rfl (lv_room (Nat.le_of_ble_eq_true rfl)) d_Mod_shuffle_37 ⟨Nat.zero_le _, Nat.zero_le _⟩) hS (fun H locs hP hS => ?_)
        refine lv_goto (pc := 40) (tgt := 95) hx hb d_Mod_shuffle_40 (by decide) ?_
        exact gx_vret hx hb hr hlk hP hS d_Mod_shuffle_95 (by cases h; rfl) (by cases h; rfl)
    · have h := gx_pos g2 h
      refine lv_aload_n (pc := 18) hx hb d_Mod_shuffle_18 rfl (lv_at hl 0 rfl) ?_
      obtain ⟨q3, g13, h⟩ := gx_bd h
      refine gx_ci (pc := 19) (va_runV (C := "GasLedgerModel") (As := []) (rest := []) ⟨hx, hb, hml, hown, hts⟩ (k_Mod_pop l dC dI cI cR cZ b tP tN hk0 g13) (gx_cw 0 hts cd_Mod_pop tb_50 tb_819 tb_821 tb_35 rfl rfl ⟨by decide, by decide, by decide +kernel⟩ ⟨Nat.le_of_ble_eq_true rfl, Nat.le_of_ble_eq_true rfl⟩) (gy_preV (mx_XX b) hX hK hP hS (mx_lt hk0 (by decide)) (sh_Mod cI cZ b hk0 _) rfl) rfl rfl hl.1 rfl (lv_room (Nat.le_of_ble_eq_true rfl)) d_Mod_shuffle_19 ⟨Nat.zero_le _, Nat.zero_le _⟩) hS (fun H locs hP hS => ?_)
      refine lv_pop (pc := 22) hx hb d_Mod_shuffle_22 rfl ?_
      refine lv_goto (pc := 23) (tgt := 95) hx hb d_Mod_shuffle_23 (by decide) ?_
      exact gx_vret hx hb hr hlk hP hS d_Mod_shuffle_95 (by cases h; rfl) (by cases h; rfl)
  · have h := gx_pos g1 h
    refine lv_aload_n (pc := 5) hx hb d_Mod_shuffle_5 rfl (lv_at hl 0 rfl) ?_
    refine lv_iload_n (pc := 6) hx hb d_Mod_shuffle_6 rfl (lv_at hl 2 rfl) ?_
    obtain ⟨q4, g14, h⟩ := gx_bd h
    refine gx_cv (pc := 7) (va_runV (C := "GasLedgerModel") (As := [.int x2]) (rest := []) ⟨hx, hb, hml, hown, hts⟩ (k_Mod_push l dC dI cI cR cZ b tP tN hk0 g14) (gx_cw 1 hts cd_Mod_push tb_50 tb_793 tb_795 tb_30 rfl rfl ⟨by decide, by decide, by decide +kernel⟩ ⟨Nat.le_of_ble_eq_true rfl, Nat.le_of_ble_eq_true rfl⟩) (gy_preV (mx_XX b) hX hK hP hS (mx_lt hk0 (by decide)) (sh_Mod cI cZ b hk0 _) rfl) rfl rfl hl.1 rfl (lv_room (Nat.le_of_ble_eq_true rfl)) d_Mod_shuffle_7 ⟨Nat.zero_le _, Nat.zero_le _⟩) hS (fun H locs hP hS => ?_)
    refine lv_goto (pc := 10) (tgt := 95) hx hb d_Mod_shuffle_10 (by decide) ?_
    exact gx_vret hx hb hr hlk hP hS d_Mod_shuffle_95 (by cases h; rfl) (by cases h; rfl)
