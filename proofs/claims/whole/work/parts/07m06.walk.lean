abbrev rm_Mod_cost : Room := { frames := 1, cells := 0, slots := 0, locals := 21 }
def F_Mod_cost (x0 : Nat) (x1 : Int32) (V : gx_M) : Option (Int32 × gx_M) := (if x1 = 0 then some ((0 : Int32), V) else (if x1 = (26 : Int32) then some ((0 : Int32), V) else (if x1 = (27 : Int32) then some ((0 : Int32), V) else (if x1 = (15 : Int32) then ((F_Mod_peek x0 (0 : Int32) V).bind fun q3 => ((F_Mod_in q3.1 (8 : Int32) q3.2).bind fun q4 => (if q4.1 = 0 then some ((10 : Int32), q4.2) else (if gx_ib (q4.2 x0 19) 8 then (if gx_ib ((((36 : Int32) * (q4.2 (x0 + 6) (q4.2 x0 19).toNatClampNeg)) + (27 : Int32)) + q3.1) 576 then (if (q4.2 (x0 + 1) ((((36 : Int32) * (q4.2 (x0 + 6) (q4.2 x0 19).toNatClampNeg)) + (27 : Int32)) + q3.1).toNatClampNeg) = 0 then ((F_Mod_peek x0 (1 : Int32) q4.2).bind fun q5 => (if q5.1 = 0 then some ((10 : Int32), q5.2) else some ((40 : Int32), q5.2))) else some ((10 : Int32), q4.2)) else none) else none)))) else (if x1 = (22 : Int32) then ((F_Mod_peek x0 (2 : Int32) V).bind fun q2 => (if q2.1 = 0 then some ((30 : Int32), q2.2) else some ((50 : Int32), q2.2))) else (if x1 = (24 : Int32) then ((F_Mod_peek x0 (2 : Int32) V).bind fun q1 => (if (1 : Int32) ≤ q1.1 then (if q1.1 ≤ (24 : Int32) then some (((60 : Int32) + ((2 : Int32) * q1.1)), q1.2) else some (((60 : Int32) + ((2 : Int32) * (24 : Int32))), q1.2)) else some (((60 : Int32) + ((2 : Int32) * (0 : Int32))), q1.2))) else (if x1 = (7 : Int32) then some ((2 : Int32), V) else (if x1 = (8 : Int32) then some ((2 : Int32), V) else (if x1 = (12 : Int32) then some ((3 : Int32), V) else (if x1 = (13 : Int32) then some ((4 : Int32), V) else (if x1 = (14 : Int32) then some ((10 : Int32), V) else (if x1 = (16 : Int32) then some ((10 : Int32), V) else (if x1 = (23 : Int32) then some ((30 : Int32), V) else (if x1 = (25 : Int32) then some ((12 : Int32), V) else (if x1 = (28 : Int32) then some ((20 : Int32), V) else some ((1 : Int32), V))))))))))))))))
set_option maxRecDepth 100000 in
set_option maxHeartbeats 8000000 in
theorem k_Mod_cost (l : Launch) (dC : Nat → ClassId) (dI : Nat → Nat → Nat) (cI cR cZ : ClassId) (b tP tN : Nat) {x0 : Nat} {x1 : Int32} {V : gx_M} {q : (Int32 × gx_M)} (hk0 : mx_kd x0 = 6) (h : F_Mod_cost x0 x1 V = some q) : mx_C l dC dI cI cR cZ b tP tN y_Mod_cost w_Mod_cost rm_Mod_cost [.ref (b + x0), .int x1] V (some (.int q.1)) q.2 := by
  refine gx_start (cc := b_Mod_cost) (maxL := 3) (ret := rt_Mod_cost) (by decide) rfl (Nat.le_of_ble_eq_true rfl) ?_
  intro p e s m args below meth c ls hx hb hr hts hown hlk hml hl hP hK hX hS
  have hts : ∀ w ∈ cx_tb, w.before args s = true := fun w hw => hts w (List.mem_cons_of_mem _ hw)
  have hown : s.vm.findClass "GasLedgerModel" = some m.cls := hown
  have hl : lv_has ls 3 [(0, .ref (b + x0)), (1, .int x1)] := hl
  unfold F_Mod_cost at h
  refine lv_iload_n (pc := 0) hx hb d_Mod_cost_0 rfl (lv_at hl 1 rfl) ?_
  refine lv_if_eq (pc := 1) (tgt := 16) hx hb d_Mod_cost_1 (by decide) (fun g1 => ?_) (fun g1 => ?_)
  · have h := gx_pos g1 h
    refine lv_iconst (pc := 16) (v := (0 : Int32)) hx hb d_Mod_cost_16 (by decide) ?_
    exact gx_iret (free := fun _ => True) hx hb hr hlk hP hS d_Mod_cost_17 (by cases h; rfl) (by cases h; rfl)
  · have h := gx_neg g1 h
    refine lv_iload_n (pc := 4) hx hb d_Mod_cost_4 rfl (lv_at hl 1 rfl) ?_
    refine lv_bipush (pc := 5) (v := (26 : Int32)) hx hb d_Mod_cost_5 (by decide) ?_
    refine lv_icmp_eq (pc := 7) (tgt := 16) hx hb d_Mod_cost_7 (by decide) (fun g2 => ?_) (fun g2 => ?_)
    · have h := gx_pos g2 h
      refine lv_iconst (pc := 16) (v := (0 : Int32)) hx hb d_Mod_cost_16 (by decide) ?_
      exact gx_iret (free := fun _ => True) hx hb hr hlk hP hS d_Mod_cost_17 (by cases h; rfl) (by cases h; rfl)
    · have h := gx_neg g2 h
      refine lv_iload_n (pc := 10) hx hb d_Mod_cost_10 rfl (lv_at hl 1 rfl) ?_
      refine lv_bipush (pc := 11) (v := (27 : Int32)) hx hb d_Mod_cost_11 (by decide) ?_
      refine lv_icmp_ne (pc := 13) (tgt := 18) hx hb d_Mod_cost_13 (by decide) (fun g3 => ?_) (fun g3 => ?_)
      · have h := gx_neg g3 h
        refine lv_iload_n (pc := 18) hx hb d_Mod_cost_18 rfl (lv_at hl 1 rfl) ?_
        refine lv_bipush (pc := 19) (v := (15 : Int32)) hx hb d_Mod_cost_19 (by decide) ?_
        refine lv_icmp_ne (pc := 21) (tgt := 80) hx hb d_Mod_cost_21 (by decide) (fun g4 => ?_) (fun g4 => ?_)
        · have h := gx_neg g4 h
          refine lv_iload_n (pc := 80) hx hb d_Mod_cost_80 rfl (lv_at hl 1 rfl) ?_
          refine lv_bipush (pc := 81) (v := (22 : Int32)) hx hb d_Mod_cost_81 (by decide) ?_
          refine lv_icmp_ne (pc := 83) (tgt := 102) hx hb d_Mod_cost_83 (by decide) (fun g5 => ?_) (fun g5 => ?_)
          · have h := gx_neg g5 h
            refine lv_iload_n (pc := 102) hx hb d_Mod_cost_102 rfl (lv_at hl 1 rfl) ?_
            refine lv_bipush (pc := 103) (v := (24 : Int32)) hx hb d_Mod_cost_103 (by decide) ?_
            refine lv_icmp_ne (pc := 105) (tgt := 141) hx hb d_Mod_cost_105 (by decide) (fun g6 => ?_) (fun g6 => ?_)
            · have h := gx_neg g6 h
              refine lv_iload_n (pc := 141) hx hb d_Mod_cost_141 rfl (lv_at hl 1 rfl) ?_
              refine lv_bipush (pc := 142) (v := (7 : Int32)) hx hb d_Mod_cost_142 (by decide) ?_
              refine lv_icmp_eq (pc := 144) (tgt := 153) hx hb d_Mod_cost_144 (by decide) (fun g7 => ?_) (fun g7 => ?_)
              · have h := gx_pos g7 h
                refine lv_iconst (pc := 153) (v := (2 : Int32)) hx hb d_Mod_cost_153 (by decide) ?_
                refine lv_goto (pc := 154) (tgt := 228) hx hb d_Mod_cost_154 (by decide) ?_
                exact gx_iret (free := fun _ => True) hx hb hr hlk hP hS d_Mod_cost_228 (by cases h; rfl) (by cases h; rfl)
              · have h := gx_neg g7 h
                refine lv_iload_n (pc := 147) hx hb d_Mod_cost_147 rfl (lv_at hl 1 rfl) ?_
                refine lv_bipush (pc := 148) (v := (8 : Int32)) hx hb d_Mod_cost_148 (by decide) ?_
                refine lv_icmp_ne (pc := 150) (tgt := 157) hx hb d_Mod_cost_150 (by decide) (fun g8 => ?_) (fun g8 => ?_)
                · have h := gx_neg g8 h
                  refine lv_iload_n (pc := 157) hx hb d_Mod_cost_157 rfl (lv_at hl 1 rfl) ?_
                  refine lv_bipush (pc := 158) (v := (12 : Int32)) hx hb d_Mod_cost_158 (by decide) ?_
                  refine lv_icmp_ne (pc := 160) (tgt := 167) hx hb d_Mod_cost_160 (by decide) (fun g9 => ?_) (fun g9 => ?_)
                  · have h := gx_neg g9 h
                    refine lv_iload_n (pc := 167) hx hb d_Mod_cost_167 rfl (lv_at hl 1 rfl) ?_
                    refine lv_bipush (pc := 168) (v := (13 : Int32)) hx hb d_Mod_cost_168 (by decide) ?_
                    refine lv_icmp_ne (pc := 170) (tgt := 177) hx hb d_Mod_cost_170 (by decide) (fun g10 => ?_) (fun g10 => ?_)
                    · have h := gx_neg g10 h
                      refine lv_iload_n (pc := 177) hx hb d_Mod_cost_177 rfl (lv_at hl 1 rfl) ?_
                      refine lv_bipush (pc := 178) (v := (14 : Int32)) hx hb d_Mod_cost_178 (by decide) ?_
                      refine lv_icmp_eq (pc := 180) (tgt := 189) hx hb d_Mod_cost_180 (by decide) (fun g11 => ?_) (fun g11 => ?_)
                      · have h := gx_pos g11 h
                        refine lv_bipush (pc := 189) (v := (10 : Int32)) hx hb d_Mod_cost_189 (by decide) ?_
                        refine lv_goto (pc := 191) (tgt := 228) hx hb d_Mod_cost_191 (by decide) ?_
                        exact gx_iret (free := fun _ => True) hx hb hr hlk hP hS d_Mod_cost_228 (by cases h; rfl) (by cases h; rfl)
                      · have h := gx_neg g11 h
                        refine lv_iload_n (pc := 183) hx hb d_Mod_cost_183 rfl (lv_at hl 1 rfl) ?_
                        refine lv_bipush (pc := 184) (v := (16 : Int32)) hx hb d_Mod_cost_184 (by decide) ?_
                        refine lv_icmp_ne (pc := 186) (tgt := 194) hx hb d_Mod_cost_186 (by decide) (fun g12 => ?_) (fun g12 => ?_)
                        · have h := gx_neg g12 h
                          refine lv_iload_n (pc := 194) hx hb d_Mod_cost_194 rfl (lv_at hl 1 rfl) ?_
                          refine lv_bipush (pc := 195) (v := (23 : Int32)) hx hb d_Mod_cost_195 (by decide) ?_
                          refine lv_icmp_ne (pc := 197) (tgt := 205) hx hb d_Mod_cost_197 (by decide) (fun g13 => ?_) (fun g13 => ?_)
                          · have h := gx_neg g13 h
                            refine lv_iload_n (pc := 205) hx hb d_Mod_cost_205 rfl (lv_at hl 1 rfl) ?_
                            refine lv_bipush (pc := 206) (v := (25 : Int32)) hx hb d_Mod_cost_206 (by decide) ?_
                            refine lv_icmp_ne (pc := 208) (tgt := 216) hx hb d_Mod_cost_208 (by decide) (fun g14 => ?_) (fun g14 => ?_)
                            · have h := gx_neg g14 h
                              refine lv_iload_n (pc := 216) hx hb d_Mod_cost_216 rfl (lv_at hl 1 rfl) ?_
                              refine lv_bipush (pc := 217) (v := (28 : Int32)) hx hb d_Mod_cost_217 (by decide) ?_
                              refine lv_icmp_ne (pc := 219) (tgt := 227) hx hb d_Mod_cost_219 (by decide) (fun g15 => ?_) (fun g15 => ?_)
                              · have h := gx_neg g15 h
                                refine lv_iconst (pc := 227) (v := (1 : Int32)) hx hb d_Mod_cost_227 (by decide) ?_
                                exact gx_iret (free := fun _ => True) hx hb hr hlk hP hS d_Mod_cost_228 (by cases h; rfl) (by cases h; rfl)
                              · have h := gx_pos g15 h
                                refine lv_bipush (pc := 222) (v := (20 : Int32)) hx hb d_Mod_cost_222 (by decide) ?_
                                refine lv_goto (pc := 224) (tgt := 228) hx hb d_Mod_cost_224 (by decide) ?_
                                exact gx_iret (free := fun _ => True) hx hb hr hlk hP hS d_Mod_cost_228 (by cases h; rfl) (by cases h; rfl)
                            · have h := gx_pos g14 h
                              refine lv_bipush (pc := 211) (v := (12 : Int32)) hx hb d_Mod_cost_211 (by decide) ?_
                              refine lv_goto (pc := 213) (tgt := 228) hx hb d_Mod_cost_213 (by decide) ?_
                              exact gx_iret (free := fun _ => True) hx hb hr hlk hP hS d_Mod_cost_228 (by cases h; rfl) (by cases h; rfl)
                          · have h := gx_pos g13 h
                            refine lv_bipush (pc := 200) (v := (30 : Int32)) hx hb d_Mod_cost_200 (by decide) ?_
                            refine lv_goto (pc := 202) (tgt := 228) hx hb d_Mod_cost_202 (by decide) ?_
                            exact gx_iret (free := fun _ => True) hx hb hr hlk hP hS d_Mod_cost_228 (by cases h; rfl) (by cases h; rfl)
                        · have h := gx_pos g12 h
                          refine lv_bipush (pc := 189) (v := (10 : Int32)) hx hb d_Mod_cost_189 (by decide) ?_
                          refine lv_goto (pc := 191) (tgt := 228) hx hb d_Mod_cost_191 (by decide) ?_
                          exact gx_iret (free := fun _ => True) hx hb hr hlk hP hS d_Mod_cost_228 (by cases h; rfl) (by cases h; rfl)
                    · have h := gx_pos g10 h
                      refine lv_iconst (pc := 173) (v := (4 : Int32)) hx hb d_Mod_cost_173 (by decide) ?_
                      refine lv_goto (pc := 174) (tgt := 228) hx hb d_Mod_cost_174 (by decide) ?_
                      exact gx_iret (free := fun _ => True) hx hb hr hlk hP hS d_Mod_cost_228 (by cases h; rfl) (by cases h; rfl)
                  · have h := gx_pos g9 h
                    refine lv_iconst (pc := 163) (v := (3 : Int32)) hx hb d_Mod_cost_163 (by decide) ?_
                    refine lv_goto (pc := 164) (tgt := 228) hx hb d_Mod_cost_164 (by decide) ?_
                    exact gx_iret (free := fun _ => True) hx hb hr hlk hP hS d_Mod_cost_228 (by cases h; rfl) (by cases h; rfl)
                · have h := gx_pos g8 h
                  refine lv_iconst (pc := 153) (v := (2 : Int32)) hx hb d_Mod_cost_153 (by decide) ?_
                  refine lv_goto (pc := 154) (tgt := 228) hx hb d_Mod_cost_154 (by decide) ?_
                  exact gx_iret (free := fun _ => True) hx hb hr hlk hP hS d_Mod_cost_228 (by cases h; rfl) (by cases h; rfl)
            · have h := gx_pos g6 h
              refine lv_aload_n (pc := 108) hx hb d_Mod_cost_108 rfl (lv_at hl 0 rfl) ?_
              refine lv_iconst (pc := 109) (v := (2 : Int32)) hx hb d_Mod_cost_109 (by decide) ?_
              obtain ⟨q1, g16, h⟩ := gx_bd h
              refine gx_ci (pc := 110) (va_runV (C := "GasLedgerModel") (As := [.int (2 : Int32)]) (rest := []) ⟨hx, hb, hml, hown, hts⟩ (k_Mod_peek l dC dI cI cR cZ b tP tN hk0 g16) (gx_cw 1 hts cd_Mod_peek tb_50 tb_807 tb_809 tb_32 rfl rfl ⟨by decide, by decide, by decide +kernel⟩ ⟨Nat.le_of_ble_eq_true rfl, Nat.le_of_ble_eq_true rfl⟩) (gy_preV (mx_XX b) hX hK hP hS (mx_lt hk0 (by decide)) (sh_Mod cI cZ b hk0 _) rfl) rfl rfl hl.1 rfl (lv_room (Nat.le_of_ble_eq_true rfl)) d_Mod_cost_110 ⟨Nat.zero_le _, Nat.zero_le _⟩) hS (fun H locs hP hS => ?_)
              refine lv_istore_n (pc := 113) (lv' := [(2, .int q1.1), (0, .ref (b + x0)), (1, .int x1)]) hx hb d_Mod_cost_113 rfl hl (by decide) rfl (fun ls hl => ?_)
              refine lv_bipush (pc := 114) (v := (60 : Int32)) hx hb d_Mod_cost_114 (by decide) ?_
              refine lv_iconst (pc := 116) (v := (2 : Int32)) hx hb d_Mod_cost_116 (by decide) ?_
              refine lv_iload_n (pc := 117) hx hb d_Mod_cost_117 rfl (lv_at hl 0 rfl) ?_
              refine lv_iconst (pc := 118) (v := (1 : Int32)) hx hb d_Mod_cost_118 (by decide) ?_
              refine lv_icmp_ge (pc := 119) (tgt := 126) hx hb d_Mod_cost_119 (by decide) (fun g17 => ?_) (fun g17 => ?_)
              · have h := gx_pos g17 h
                refine lv_iload_n (pc := 126) hx hb d_Mod_cost_126 rfl (lv_at hl 0 rfl) ?_
                refine lv_bipush (pc := 127) (v := (24 : Int32)) hx hb d_Mod_cost_127 (by decide) ?_
                refine lv_icmp_le (pc := 129) (tgt := 137) hx hb d_Mod_cost_129 (by decide) (fun g18 => ?_) (fun g18 => ?_)
                · have h := gx_pos g18 h
                  refine lv_iload_n (pc := 137) hx hb d_Mod_cost_137 rfl (lv_at hl 0 rfl) ?_
                  refine lv_imul (pc := 138) hx hb d_Mod_cost_138 ?_
                  refine lv_iadd (pc := 139) hx hb d_Mod_cost_139 ?_
                  exact gx_iret (free := fun _ => True) hx hb hr hlk hP hS d_Mod_cost_140 (by cases h; rfl) (by cases h; rfl)
                · have h := gx_neg g18 h
                  refine lv_bipush (pc := 132) (v := (24 : Int32)) hx hb d_Mod_cost_132 (by decide) ?_
                  refine lv_goto (pc := 134) (tgt := 138) hx hb d_Mod_cost_134 (by decide) ?_
                  refine lv_imul (pc := 138) hx hb d_Mod_cost_138 ?_
                  refine lv_iadd (pc := 139) hx hb d_Mod_cost_139 ?_
                  exact gx_iret (free := fun _ => True) hx hb hr hlk hP hS d_Mod_cost_140 (by cases h; rfl) (by cases h; rfl)
              · have h := gx_neg g17 h
                refine lv_iconst (pc := 122) (v := (0 : Int32)) hx hb d_Mod_cost_122 (by decide) ?_
                refine lv_goto (pc := 123) (tgt := 138) hx hb d_Mod_cost_123 (by decide) ?_
                refine lv_imul (pc := 138) hx hb d_Mod_cost_138 ?_
                refine lv_iadd (pc := 139) hx hb d_Mod_cost_139 ?_
                exact gx_iret (free := fun _ => True) hx hb hr hlk hP hS d_Mod_cost_140 (by cases h; rfl) (by cases h; rfl)
          · have h := gx_pos g5 h
            refine lv_aload_n (pc := 86) hx hb d_Mod_cost_86 rfl (lv_at hl 0 rfl) ?_
            refine lv_iconst (pc := 87) (v := (2 : Int32)) hx hb d_Mod_cost_87 (by decide) ?_
            obtain ⟨q2, g19, h⟩ := gx_bd h
            refine gx_ci (pc := 88) (va_runV (C := "GasLedgerModel") (As := [.int (2 : Int32)]) (rest := []) ⟨hx, hb, hml, hown, hts⟩ (k_Mod_peek l dC dI cI cR cZ b tP tN hk0 g19) (gx_cw 1 hts cd_Mod_peek tb_50 tb_807 tb_809 tb_32 rfl rfl ⟨by decide, by decide, by decide +kernel⟩ ⟨Nat.le_of_ble_eq_true rfl, Nat.le_of_ble_eq_true rfl⟩) (gy_preV (mx_XX b) hX hK hP hS (mx_lt hk0 (by decide)) (sh_Mod cI cZ b hk0 _) rfl) rfl rfl hl.1 rfl (lv_room (Nat.le_of_ble_eq_true rfl)) d_Mod_cost_88 ⟨Nat.zero_le _, Nat.zero_le _⟩) hS (fun H locs hP hS => ?_)
            refine lv_if_eq (pc := 91) (tgt := 99) hx hb d_Mod_cost_91 (by decide) (fun g20 => ?_) (fun g20 => ?_)
            · have h := gx_pos g20 h
              refine lv_bipush (pc := 99) (v := (30 : Int32)) hx hb d_Mod_cost_99 (by decide) ?_
              exact gx_iret (free := fun _ => True) hx hb hr hlk hP hS d_Mod_cost_101 (by cases h; rfl) (by cases h; rfl)
            · have h := gx_neg g20 h
              refine lv_bipush (pc := 94) (v := (50 : Int32)) hx hb d_Mod_cost_94 (by decide) ?_
              refine lv_goto (pc := 96) (tgt := 101) hx hb d_Mod_cost_96 (by decide) ?_
              exact gx_iret (free := fun _ => True) hx hb hr hlk hP hS d_Mod_cost_101 (by cases h; rfl) (by cases h; rfl)
        · have h := gx_pos g4 h
          refine lv_aload_n (pc := 24) hx hb d_Mod_cost_24 rfl (lv_at hl 0 rfl) ?_
          refine lv_iconst (pc := 25) (v := (0 : Int32)) hx hb d_Mod_cost_25 (by decide) ?_
          obtain ⟨q3, g21, h⟩ := gx_bd h
          refine gx_ci (pc := 26) (va_runV (C := "GasLedgerModel") (As := [.int (0 : Int32)]) (rest := []) ⟨hx, hb, hml, hown, hts⟩ (k_Mod_peek l dC dI cI cR cZ b tP tN hk0 g21) (gx_cw 1 hts cd_Mod_peek tb_50 tb_807 tb_809 tb_32 rfl rfl ⟨by decide, by decide, by decide +kernel⟩ ⟨Nat.le_of_ble_eq_true rfl, Nat.le_of_ble_eq_true rfl⟩) (gy_preV (mx_XX b) hX hK hP hS (mx_lt hk0 (by decide)) (sh_Mod cI cZ b hk0 _) rfl) rfl rfl hl.1 rfl (lv_room (Nat.le_of_ble_eq_true rfl)) d_Mod_cost_26 ⟨Nat.zero_le _, Nat.zero_le _⟩) hS (fun H locs hP hS => ?_)
          refine lv_istore_n (pc := 29) (lv' := [(2, .int q3.1), (0, .ref (b + x0)), (1, .int x1)]) hx hb d_Mod_cost_29 rfl hl (by decide) rfl (fun ls hl => ?_)
          refine lv_iload_n (pc := 30) hx hb d_Mod_cost_30 rfl (lv_at hl 0 rfl) ?_
          refine lv_bipush (pc := 31) (v := (8 : Int32)) hx hb d_Mod_cost_31 (by decide) ?_
          obtain ⟨q4, g22, h⟩ := gx_bd h
          refine gx_ci (pc := 33) (va_runS (As := [.int q3.1, .int (8 : Int32)]) (rest := []) ⟨hx, hb, hml, hown, hts⟩ (k_Mod_in l dC dI cI cR cZ b tP tN  g22) (gx_cs 2 hts cd_Mod_in tb_50 tb_724 tb_725 rfl rfl ⟨by decide, by decide, by decide +kernel⟩ ⟨Nat.le_of_ble_eq_true rfl, Nat.le_of_ble_eq_true rfl⟩) (gy_pre (mx_XX b) hX hK hP hS) rfl rfl hl.1 rfl (lv_room (Nat.le_of_ble_eq_true rfl)) d_Mod_cost_33 ⟨Nat.zero_le _, Nat.zero_le _⟩) hS (fun H locs hP hS => ?_)
          refine lv_if_eq (pc := 36) (tgt := 77) hx hb d_Mod_cost_36 (by decide) (fun g23 => ?_) (fun g23 => ?_)
          · have h := gx_pos g23 h
            refine lv_bipush (pc := 77) (v := (10 : Int32)) hx hb d_Mod_cost_77 (by decide) ?_
            exact gx_iret (free := fun _ => True) hx hb hr hlk hP hS d_Mod_cost_79 (by cases h; rfl) (by cases h; rfl)
          · have h := gx_neg g23 h
            refine lv_aload_n (pc := 39) hx hb d_Mod_cost_39 rfl (lv_at hl 1 rfl) ?_
            refine va_get (pc := 40) (D := (dC, dI)) (ci := 6) (C := R_Mod) (T := T_Mod) (N := 39) hx hb hts in_Mod hown hK hP x0 (gx_at (mx_lt hk0 (by decide)) (sh_Mod cI cZ b hk0 _)) rfl 0 (by decide) (hts _ tb_601) (fun _ h9 => h9) rfl d_Mod_cost_40 ?_
            refine lv_bipush (pc := 43) (v := (36 : Int32)) hx hb d_Mod_cost_43 (by decide) ?_
            refine lv_aload_n (pc := 45) hx hb d_Mod_cost_45 rfl (lv_at hl 1 rfl) ?_
            refine va_get (pc := 46) (D := (dC, dI)) (ci := 6) (C := R_Mod) (T := T_Mod) (N := 39) hx hb hts in_Mod hown hK hP x0 (gx_at (mx_lt hk0 (by decide)) (sh_Mod cI cZ b hk0 _)) rfl 20 (by decide) (hts _ tb_621) (fun _ h9 => h9) rfl d_Mod_cost_46 ?_
            refine lv_aload_n (pc := 49) hx hb d_Mod_cost_49 rfl (lv_at hl 1 rfl) ?_
            refine va_get (pc := 50) (D := (dC, dI)) (ci := 6) (C := R_Mod) (T := T_Mod) (N := 39) hx hb hts in_Mod hown hK hP x0 (gx_at (mx_lt hk0 (by decide)) (sh_Mod cI cZ b hk0 _)) rfl 19 (by decide) (hts _ tb_620) (fun _ h9 => h9) rfl d_Mod_cost_50 ?_
            obtain ⟨g24, h⟩ := gx_if h
            refine va_iald (pc := 53) hx hb hK hP (x0 + 6) 0 (gx_at (mx_lt (to_Mod_self hk0) (by decide)) (mh_arr cI cZ b (n := 8) (to_Mod_self hk0) (by decide) _)) rfl g24 d_Mod_cost_53 ?_
            refine lv_imul (pc := 54) hx hb d_Mod_cost_54 ?_
            refine lv_bipush (pc := 55) (v := (27 : Int32)) hx hb d_Mod_cost_55 (by decide) ?_
            refine lv_iadd (pc := 57) hx hb d_Mod_cost_57 ?_
            refine lv_iload_n (pc := 58) hx hb d_Mod_cost_58 rfl (lv_at hl 0 rfl) ?_
            refine lv_iadd (pc := 59) hx hb d_Mod_cost_59 ?_
            obtain ⟨g25, h⟩ := gx_if h
            refine va_iald (pc := 60) hx hb hK hP (x0 + 1) 0 (gx_at (mx_lt (to_Mod_now hk0) (by decide)) (mh_arr cI cZ b (n := 576) (to_Mod_now hk0) (by decide) _)) rfl g25 d_Mod_cost_60 ?_
            refine lv_if_ne (pc := 61) (tgt := 77) hx hb d_Mod_cost_61 (by decide) (fun g26 => ?_) (fun g26 => ?_)
            · have h := gx_neg g26 h
              refine lv_bipush (pc := 77) (v := (10 : Int32)) hx hb d_Mod_cost_77 (by decide) ?_
              exact gx_iret (free := fun _ => True) hx hb hr hlk hP hS d_Mod_cost_79 (by cases h; rfl) (by cases h; rfl)
            · have h := gx_pos g26 h
              refine lv_aload_n (pc := 64) hx hb d_Mod_cost_64 rfl (lv_at hl 1 rfl) ?_
              refine lv_iconst (pc := 65) (v := (1 : Int32)) hx hb d_Mod_cost_65 (by decide) ?_
              obtain ⟨q5, g27, h⟩ := gx_bd h
              refine gx_ci (pc := 66) (va_runV (C := "GasLedgerModel") (As := [.int (1 : Int32)]) (rest := []) ⟨hx, hb, hml, hown, hts⟩ (k_Mod_peek l dC dI cI cR cZ b tP tN hk0 g27) (gx_cw 1 hts cd_Mod_peek tb_50 tb_807 tb_809 tb_32 rfl rfl ⟨by decide, by decide, by decide +kernel⟩ ⟨Nat.le_of_ble_eq_true rfl, Nat.le_of_ble_eq_true rfl⟩) (gy_preV (mx_XX b) hX hK hP hS (mx_lt hk0 (by decide)) (sh_Mod cI cZ b hk0 _) rfl) rfl rfl hl.1 rfl (lv_room (Nat.le_of_ble_eq_true rfl)) d_Mod_cost_66 ⟨Nat.zero_le _, Nat.zero_le _⟩) hS (fun H locs hP hS => ?_)
              refine lv_if_eq (pc := 69) (tgt := 77) hx hb d_Mod_cost_69 (by decide) (fun g28 => ?_) (fun g28 => ?_)
              · have h := gx_pos g28 h
                refine lv_bipush (pc := 77) (v := (10 : Int32)) hx hb d_Mod_cost_77 (by decide) ?_
                exact gx_iret (free := fun _ => True) hx hb hr hlk hP hS d_Mod_cost_79 (by cases h; rfl) (by cases h; rfl)
              · have h := gx_neg g28 h
                refine lv_bipush (pc := 72) (v := (40 : Int32)) hx hb d_Mod_cost_72 (by decide) ?_
                refine lv_goto (pc := 74) (tgt := 79) hx hb d_Mod_cost_74 (by decide) ?_
                exact gx_iret (free := fun _ => True) hx hb hr hlk hP hS d_Mod_cost_79 (by cases h; rfl) (by cases h; rfl)
      · have h := gx_pos g3 h
        refine lv_iconst (pc := 16) (v := (0 : Int32)) hx hb d_Mod_cost_16 (by decide) ?_
        exact gx_iret (free := fun _ => True) hx hb hr hlk hP hS d_Mod_cost_17 (by cases h; rfl) (by cases h; rfl)
