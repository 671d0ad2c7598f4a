abbrev rm_Mac_create : Room := { frames := 3, cells := 0, slots := 0, locals := 65 }
def F_Mac_create_131 : Nat → Nat → Nat → Int32 → Int32 → Int32 → Int32 → Int32 → gx_M → Option gx_M
  | 0, _, _, _, _, _, _, _, _ => none
  | nf + 1, x0, x1, x2, x3, x4, x6, x7, V => (if x4 ≤ x7 then ((F_Acc_give (x0 + 1) (V x1 0) x6 x2 V).bind fun q1 => ((F_Frm_push x1 x6 q1).bind fun q2 => some q2)) else ((F_Acc_wordOf (x0 + 1) (V x1 1) (x3 + x7) V).bind fun q3 => ((F_Acc_append (x0 + 1) x6 q3.1 q3.2).bind fun q4 => (F_Mac_create_131 nf  x0 x1 x2 x3 x4 x6 (x7 + (1 : Int32)) q4.2))))
def F_Mac_create (x0 : Nat) (x1 : Nat) (V : gx_M) : Option gx_M := ((F_Frm_pop x1 V).bind fun q5 => ((F_Frm_pop x1 q5.2).bind fun q6 => ((F_Frm_pop x1 q6.2).bind fun q7 => (if gx_ib (q7.2 x1 1) 16 then (if q5.1 < 0 then ((F_Frm_fail x1 q7.2).bind fun q8 => some q8) else (if q7.1 < (1 : Int32) then ((F_Frm_fail x1 q7.2).bind fun q9 => some q9) else (if q6.1 < 0 then ((F_Frm_fail x1 q7.2).bind fun q10 => some q10) else (if (q7.2 ((x0 + 1) + 3) (q7.2 x1 1).toNatClampNeg) < q7.1 then ((F_Frm_fail x1 q7.2).bind fun q11 => some q11) else (if q6.1 ≤ ((q7.2 ((x0 + 1) + 3) (q7.2 x1 1).toNatClampNeg) - q7.1) then ((F_Acc_leastEmpty (x0 + 1) q7.2).bind fun q12 => (if q12.1 < 0 then ((F_Frm_push x1 (-1 : Int32) q12.2).bind fun q13 => some q13) else (if gx_ib (q12.2 x1 0) 16 then (if q5.1 ≤ (q12.2 ((x0 + 1) + 1) (q12.2 x1 0).toNatClampNeg) then (if gx_ib (q12.2 x1 0) 16 then (if gx_ib (q12.2 x1 0) 16 then (gx_let (gx_u q12.2 ((x0 + 1) + 2) (q12.2 x1 0).toNatClampNeg ((q12.2 ((x0 + 1) + 2) (q12.2 x1 0).toNatClampNeg) + (1 : Int32))) fun V1 => (if gx_ib q12.1 16 then (gx_let (gx_u V1 ((x0 + 1) + 2) q12.1.toNatClampNeg (1 : Int32)) fun V2 => (F_Mac_create_131 100  x0 x1 q5.1 q6.1 q7.1 q12.1 (0 : Int32) V2)) else none)) else none) else none) else ((F_Frm_push x1 (-1 : Int32) q12.2).bind fun q14 => some q14)) else none))) else ((F_Frm_fail x1 q7.2).bind fun q15 => some q15)))))) else none))))
set_option maxRecDepth 100000 in
set_option maxHeartbeats 8000000 in
theorem k_Mac_create (l : Launch) (dC : Nat → ClassId) (dI : Nat → Nat → Nat) (cI cR cZ : ClassId) (b tP tN : Nat) {x0 : Nat} {x1 : Nat} {V : gx_M} {q : gx_M} (hk0 : cx_kd x0 = 3) (hk1 : cx_kd x1 = 1) (h : F_Mac_create x0 x1 V = some q) : cx_C l dC dI cI cR cZ b tP tN y_Mac_create w_Mac_create rm_Mac_create [.ref (b + x0), .ref (b + x1)] V none q := by
  refine gx_start (cc := b_Mac_create) (maxL := 8) (ret := rt_Mac_create) (by decide) rfl (Nat.le_of_ble_eq_true rfl) ?_
  intro p e s m args below meth c ls hx hb hr hts hown hlk hml hl hP hK hX hS
  have hts : ∀ w ∈ cx_tb, w.before args s = true := fun w hw => hts w (List.mem_cons_of_mem _ hw)
  have hown : s.vm.findClass "GasLedger$Machine" = some m.cls := hown
  have hl : lv_has ls 8 [(0, .ref (b + x0)), (1, .ref (b + x1))] := hl
  have B_131 : ∀ (nf : Nat), ∀ (x0 : Nat) (x1 : Nat) (x2 : Int32) (x3 : Int32) (x4 : Int32) (x6 : Int32) (x7 : Int32), cx_kd x0 = 3 → cx_kd x1 = 1 → ∀ (V : gx_M) (H : Heap) (locs : List Loc) (ls : Array Slot), lv_has ls 8 [(0, .ref (b + x0)), (1, .ref (b + x1)), (2, .int x2), (3, .int x3), (4, .int x4), (6, .int x6), (7, .int x7)] → va_P (dC, dI) cx_cl (gx_w b 97 (gx_v (cx_sh cI cR b) V)) H → va_S (gx_A b 97) s.heap H locs → F_Mac_create_131 nf x0 x1 x2 x3 x4 x6 x7 V = some q → W p l e (headSpec w_Mac_create rm_Mac_create).room s m args below meth c H locs 0 0 (MQ below (gx_Q (dC, dI) cx_cl b 97 (cx_sh cI cR b) none q) args s 0 0 (gx_A b 97)) (F0 m 131 ls []) := by
    intro nf
    induction nf with
    | zero => intro x0 x1 x2 x3 x4 x6 x7 hk_x0 hk_x1 V H locs ls hl hP hS h; cases h
    | succ nf ihl =>
      intro x0 x1 x2 x3 x4 x6 x7 hk_x0 hk_x1 V H locs ls hl hP hS h
      rw [F_Mac_create_131] at h
      refine lv_iload (pc := 131) hx hb d_Mac_create_131 (lv_at hl 6 rfl) ?_
      refine lv_iload (pc := 133) hx hb d_Mac_create_133 (lv_at hl 4 rfl) ?_
      refine lv_icmp_ge (pc := 135) (tgt := 169) hx hb d_Mac_create_135 (by decide) (fun g1 => ?_) (fun g1 => ?_)
      · have h := gx_pos g1 h
        refine lv_aload_n (pc := 169) hx hb d_Mac_create_169 rfl (lv_at hl 0 rfl) ?_
        refine va_get (pc := 170) (D := (dC, dI)) (ci := 3) (C := R_Mac) (T := T_Mac) (N := 6) hx hb hts in_Mac hown hK hP x0 (gx_at (cx_lt hk_x0 (by decide)) (sh_Mac cI cR b hk_x0 _)) rfl 0 (by decide) (hts _ tb_201) (fun _ h9 => h9) rfl d_Mac_create_170 ?_
        refine lv_aload_n (pc := 173) hx hb d_Mac_create_173 rfl (lv_at hl 1 rfl) ?_
        refine va_get (pc := 174) (D := (dC, dI)) (ci := 1) (C := R_Frm) (T := T_Frm) (N := 17) hx hb hts in_Frm hown hK hP x1 (gx_at (cx_lt hk_x1 (by decide)) (sh_Frm cI cR b hk_x1 _)) rfl 0 (by decide) (hts _ tb_135) (fun _ h9 => h9) rfl d_Mac_create_174 ?_
        refine lv_iload (pc := 177) hx hb d_Mac_create_177 (lv_at hl 5 rfl) ?_
        refine lv_iload_n (pc := 179) hx hb d_Mac_create_179 rfl (lv_at hl 2 rfl) ?_
        obtain ⟨q1, g2, h⟩ := gx_bd h
        refine gx_cv (pc := 180) (va_runV (C := "GasLedger$Accounts") (As := [.int (V x1 0), .int x6, .int x2]) (rest := []) ⟨hx, hb, hml, hown, hts⟩ (k_Acc_give l dC dI cI cR cZ b tP tN (to_Mac_accounts hk_x0) g2) (gx_cw 3 hts cd_Acc_give tb_46 tb_354 tb_355 tb_356 rfl rfl ⟨by decide, by decide, by decide +kernel⟩ ⟨Nat.le_of_ble_eq_true rfl, Nat.le_of_ble_eq_true rfl⟩) (gy_preV (cx_XX b tP tN) hX hK hP hS (cx_lt (to_Mac_accounts hk_x0) (by decide)) (sh_Acc cI cR b (to_Mac_accounts hk_x0) _) rfl) rfl rfl hl.1 rfl (lv_room (Nat.le_of_ble_eq_true rfl)) d_Mac_create_180 ⟨Nat.zero_le _, Nat.zero_le _⟩) hS (fun H locs hP hS => ?_)
        refine lv_aload_n (pc := 183) hx hb d_Mac_create_183 rfl (lv_at hl 1 rfl) ?_
        refine lv_iload (pc := 184) hx hb d_Mac_create_184 (lv_at hl 5 rfl) ?_
        obtain ⟨q2, g3, h⟩ := gx_bd h
        refine gx_cv (pc := 186) (va_runV (C := "GasLedger$Frame") (As := [.int x6]) (rest := []) ⟨hx, hb, hml, hown, hts⟩ (k_Frm_push l dC dI cI cR cZ b tP tN hk_x1 g3) (gx_cw 1 hts cd_Frm_push tb_48 tb_440 tb_441 tb_442 rfl rfl ⟨by decide, by decide, by decide +kernel⟩ ⟨Nat.le_of_ble_eq_true rfl, Nat.le_of_ble_eq_true rfl⟩) (gy_preV (cx_XX b tP tN) hX hK hP hS (cx_lt hk_x1 (by decide)) (sh_Frm cI cR b hk_x1 _) rfl) rfl rfl hl.1 rfl (lv_room (Nat.le_of_ble_eq_true rfl)) d_Mac_create_186 ⟨Nat.zero_le _, Nat.zero_le _⟩) hS (fun H locs hP hS => ?_)
        exact gx_vret hx hb hr hlk hP hS d_Mac_create_189 (by cases h; rfl) (by cases h; rfl)
      · have h := gx_neg g1 h
        refine lv_aload_n (pc := 138) hx hb d_Mac_create_138 rfl (lv_at hl 0 rfl) ?_
        refine va_get (pc := 139) (D := (dC, dI)) (ci := 3) (C := R_Mac) (T := T_Mac) (N := 6) hx hb hts in_Mac hown hK hP x0 (gx_at (cx_lt hk_x0 (by decide)) (sh_Mac cI cR b hk_x0 _)) rfl 0 (by decide) (hts _ tb_201) (fun _ h9 => h9) rfl d_Mac_create_139 ?_
        refine lv_iload (pc := 142) hx hb d_Mac_create_142 (lv_at hl 5 rfl) ?_
        refine lv_aload_n (pc := 144) hx hb d_Mac_create_144 rfl (lv_at hl 0 rfl) ?_
        refine va_get (pc := 145) (D := (dC, dI)) (ci := 3) (C := R_Mac) (T := T_Mac) (N := 6) hx hb hts in_Mac hown hK hP x0 (gx_at (cx_lt hk_x0 (by decide)) (sh_Mac cI cR b hk_x0 _)) rfl 0 (by decide) (hts _ tb_201) (fun _ h9 => h9) rfl d_Mac_create_145 ?_
        refine lv_aload_n (pc := 148) hx hb d_Mac_create_148 rfl (lv_at hl 1 rfl) ?_
        refine va_get (pc := 149) (D := (dC, dI)) (ci := 1) (C := R_Frm) (T := T_Frm) (N := 17) hx hb hts in_Frm hown hK hP x1 (gx_at (cx_lt hk_x1 (by decide)) (sh_Frm cI cR b hk_x1 _)) rfl 1 (by decide) (hts _ tb_137) (fun _ h9 => h9) rfl d_Mac_create_149 ?_
        refine lv_iload_n (pc := 152) hx hb d_Mac_create_152 rfl (lv_at hl 3 rfl) ?_
        refine lv_iload (pc := 153) hx hb d_Mac_create_153 (lv_at hl 6 rfl) ?_
        refine lv_iadd (pc := 155) hx hb d_Mac_create_155 ?_
        obtain ⟨q3, g4, h⟩ := gx_bd h
        refine gx_ci (pc := 156) (va_runV (C := "GasLedger$Accounts") (As := [.int (V x1 1), .int (x3 + x7)]) (rest := [.int x6, .ref (b + (x0 + 1))]) ⟨hx, hb, hml, hown, hts⟩ (k_Acc_wordOf l dC dI cI cR cZ b tP tN (to_Mac_accounts hk_x0) g4) (gx_cw 2 hts cd_Acc_wordOf tb_46 tb_363 tb_364 tb_365 rfl rfl ⟨by decide, by decide, by decide +kernel⟩ ⟨Nat.le_of_ble_eq_true rfl, Nat.le_of_ble_eq_true rfl⟩) (gy_preV (cx_XX b tP tN) hX hK hP hS (cx_lt (to_Mac_accounts hk_x0) (by decide)) (sh_Acc cI cR b (to_Mac_accounts hk_x0) _) rfl) rfl rfl hl.1 rfl (lv_room (Nat.le_of_ble_eq_true rfl)) d_Mac_create_156 ⟨Nat.zero_le _, Nat.zero_le _⟩) hS (fun H locs hP hS => ?_)
        obtain ⟨q4, g5, h⟩ := gx_bd h
        refine gx_ci (pc := 159) (va_runV (C := "GasLedger$Accounts") (As := [.int x6, .int q3.1]) (rest := []) ⟨hx, hb, hml, hown, hts⟩ (k_Acc_append l dC dI cI cR cZ b tP tN (to_Mac_accounts hk_x0) g5) (gx_cw 2 hts cd_Acc_append tb_46 tb_468 tb_304 tb_305 rfl rfl ⟨by decide, by decide, by decide +kernel⟩ ⟨Nat.le_of_ble_eq_true rfl, Nat.le_of_ble_eq_true rfl⟩) (gy_preV (cx_XX b tP tN) hX hK hP hS (cx_lt (to_Mac_accounts hk_x0) (by decide)) (sh_Acc cI cR b (to_Mac_accounts hk_x0) _) rfl) rfl rfl hl.1 rfl (lv_room (Nat.le_of_ble_eq_true rfl)) d_Mac_create_159 ⟨Nat.zero_le _, Nat.zero_le _⟩) hS (fun H locs hP hS => ?_)
        refine lv_pop (pc := 162) hx hb d_Mac_create_162 rfl ?_
        refine lv_iinc (pc := 163) (k := 6) (lv' := [(7, .int (x7 + (1 : Int32))), (0, .ref (b + x0)), (1, .ref (b + x1)), (2, .int x2), (3, .int x3), (4, .int x4), (6, .int x6)]) hx hb d_Mac_create_163 hl rfl (gx_inc (by decide)) (by decide) rfl (fun ls hl => ?_)
        refine lv_goto (pc := 166) (tgt := 131) hx hb d_Mac_create_166 (by decide) ?_
        exact ihl _ _ _ _ _ _ _ hk_x0 hk_x1 _ _ _ _ (lv_sub hl [1, 2, 3, 4, 5, 6, 0] rfl) hP hS h
  unfold F_Mac_create at h
  refine lv_aload_n (pc := 0) hx hb d_Mac_create_0 rfl (lv_at hl 1 rfl) ?_
  obtain ⟨q5, g6, h⟩ := gx_bd h
  refine gx_ci (pc := 1) (va_runV (C := "GasLedger$Frame") (As := []) (rest := []) ⟨hx, hb, hml, hown, hts⟩ (k_Frm_pop l dC dI cI cR cZ b tP tN hk1 g6) (gx_cw 0 hts cd_Frm_pop tb_48 tb_406 tb_407 tb_408 rfl rfl ⟨by decide, by decide, by decide +kernel⟩ ⟨Nat.le_of_ble_eq_true rfl, Nat.le_of_ble_eq_true rfl⟩) (gy_preV (cx_XX b tP tN) hX hK hP hS (cx_lt hk1 (by decide)) (sh_Frm cI cR b hk1 _) rfl) rfl rfl hl.1 rfl (lv_room (Nat.le_of_ble_eq_true rfl)) d_Mac_create_1 ⟨Nat.zero_le _, Nat.zero_le _⟩) hS (fun H locs hP hS => ?_)
  refine lv_istore_n (pc := 4) (lv' := [(2, .int q5.1), (0, .ref (b + x0)), (1, .ref (b + x1))]) hx hb d_Mac_create_4 rfl hl (by decide) rfl (fun ls hl => ?_)
  refine lv_aload_n (pc := 5) hx hb d_Mac_create_5 rfl (lv_at hl 2 rfl) ?_
  obtain ⟨q6, g7, h⟩ := gx_bd h
  refine gx_ci (pc := 6) (va_runV (C := "GasLedger$Frame") (As := []) (rest := []) ⟨hx, hb, hml, hown, hts⟩ (k_Frm_pop l dC dI cI cR cZ b tP tN hk1 g7) (gx_cw 0 hts cd_Frm_pop tb_48 tb_406 tb_407 tb_408 rfl rfl ⟨by decide, by decide, by decide +kernel⟩ ⟨Nat.le_of_ble_eq_true rfl, Nat.le_of_ble_eq_true rfl⟩) (gy_preV (cx_XX b tP tN) hX hK hP hS (cx_lt hk1 (by decide)) (sh_Frm cI cR b hk1 _) rfl) rfl rfl hl.1 rfl (lv_room (Nat.le_of_ble_eq_true rfl)) d_Mac_create_6 ⟨Nat.zero_le _, Nat.zero_le _⟩) hS (fun H locs hP hS => ?_)
  refine lv_istore_n (pc := 9) (lv' := [(3, .int q6.1), (2, .int q5.1), (0, .ref (b + x0)), (1, .ref (b + x1))]) hx hb d_Mac_create_9 rfl hl (by decide) rfl (fun ls hl => ?_)
  refine lv_aload_n (pc := 10) hx hb d_Mac_create_10 rfl (lv_at hl 3 rfl) ?_
  obtain ⟨q7, g8, h⟩ := gx_bd h
  refine gx_ci (pc := 11) (va_runV (C := "GasLedger$Frame") (As := []) (rest := []) ⟨hx, hb, hml, hown, hts⟩ (k_Frm_pop l dC dI cI cR cZ b tP tN hk1 g8) (gx_cw 0 hts cd_Frm_pop tb_48 tb_406 tb_407 tb_408 rfl rfl ⟨by decide, by decide, by decide +kernel⟩ ⟨Nat.le_of_ble_eq_true rfl, Nat.le_of_ble_eq_true rfl⟩) (gy_preV (cx_XX b tP tN) hX hK hP hS (cx_lt hk1 (by decide)) (sh_Frm cI cR b hk1 _) rfl) rfl rfl hl.1 rfl (lv_room (Nat.le_of_ble_eq_true rfl)) d_Mac_create_11 ⟨Nat.zero_le _, Nat.zero_le _⟩) hS (fun H locs hP hS => ?_)
  refine lv_istore (pc := 14) (lv' := [(4, .int q7.1), (3, .int q6.1), (2, .int q5.1), (0, .ref (b + x0)), (1, .ref (b + x1))]) hx hb d_Mac_create_14 hl (by decide) rfl (fun ls hl => ?_)
  refine lv_aload_n (pc := 16) hx hb d_Mac_create_16 rfl (lv_at hl 3 rfl) ?_
  refine va_get (pc := 17) (D := (dC, dI)) (ci := 3) (C := R_Mac) (T := T_Mac) (N := 6) hx hb hts in_Mac hown hK hP x0 (gx_at (cx_lt hk0 (by decide)) (sh_Mac cI cR b hk0 _)) rfl 0 (by decide) (hts _ tb_201) (fun _ h9 => h9) rfl d_Mac_create_17 ?_
  refine va_get (pc := 20) (D := (dC, dI)) (ci := 0) (C := R_Acc) (T := T_Acc) (N := 6) hx hb hts in_Acc hown hK hP (x0 + 1) (gx_at (cx_lt (to_Mac_accounts hk0) (by decide)) (sh_Acc cI cR b (to_Mac_accounts hk0) _)) rfl 2 (by decide) (hts _ tb_82) (fun _ h9 => h9) rfl d_Mac_create_20 ?_
  refine lv_aload_n (pc := 23) hx hb d_Mac_create_23 rfl (lv_at hl 4 rfl) ?_
  refine va_get (pc := 24) (D := (dC, dI)) (ci := 1) (C := R_Frm) (T := T_Frm) (N := 17) hx hb hts in_Frm hown hK hP x1 (gx_at (cx_lt hk1 (by decide)) (sh_Frm cI cR b hk1 _)) rfl 1 (by decide) (hts _ tb_137) (fun _ h9 => h9) rfl d_Mac_create_24 ?_
  obtain ⟨g9, h⟩ := gx_if h
  refine va_iald (pc := 27) hx hb hK hP ((x0 + 1) + 3) 0 (gx_at (cx_lt (to_Acc_sizes (to_Mac_accounts hk0)) (by decide)) (sh_arr cI cR b (n := 16) (to_Acc_sizes (to_Mac_accounts hk0)) _)) rfl g9 d_Mac_create_27 ?_
  refine lv_istore (pc := 28) (lv' := [(5, .int (q7.2 ((x0 + 1) + 3) (q7.2 x1 1).toNatClampNeg)), (4, .int q7.1), (3, .int q6.1), (2, .int q5.1), (0, .ref (b + x0)), (1, .ref (b + x1))]) hx hb d_Mac_create_28 hl (by decide) rfl (fun ls hl => ?_)
  refine lv_iload_n (pc := 30) hx hb d_Mac_create_30 rfl (lv_at hl 3 rfl) ?_
  refine lv_if_lt (pc := 31) (tgt := 60) hx hb d_Mac_create_31 (by decide) (fun g10 => ?_) (fun g10 => ?_)
  · have h := gx_pos g10 h
    refine lv_aload_n (pc := 60) hx hb d_Mac_create_60 rfl (lv_at hl 5 rfl) ?_
    obtain ⟨q8, g11, h⟩ := gx_bd h
    refine gx_cv (pc := 61) (va_runV (C := "GasLedger$Frame") (As := []) (rest := []) ⟨hx, hb, hml, hown, hts⟩ (k_Frm_fail l dC dI cI cR cZ b tP tN hk1 g11) (gx_cw 0 hts cd_Frm_fail tb_48 tb_397 tb_398 tb_399 rfl rfl ⟨by decide, by decide, by decide +kernel⟩ ⟨Nat.le_of_ble_eq_true rfl, Nat.le_of_ble_eq_true rfl⟩) (gy_preV (cx_XX b tP tN) hX hK hP hS (cx_lt hk1 (by decide)) (sh_Frm cI cR b hk1 _) rfl) rfl rfl hl.1 rfl (lv_room (Nat.le_of_ble_eq_true rfl)) d_Mac_create_61 ⟨Nat.zero_le _, Nat.zero_le _⟩) hS (fun H locs hP hS => ?_)
    exact gx_vret hx hb hr hlk hP hS d_Mac_create_64 (by cases h; rfl) (by cases h; rfl)
  · have h := gx_neg g10 h
    refine lv_iload (pc := 34) hx hb d_Mac_create_34 (lv_at hl 1 rfl) ?_
    refine lv_iconst (pc := 36) (v := (1 : Int32)) hx hb d_Mac_create_36 (by decide) ?_
    refine lv_icmp_lt (pc := 37) (tgt := 60) hx hb d_Mac_create_37 (by decide) (fun g12 => ?_) (fun g12 => ?_)
    · have h := gx_pos g12 h
      refine lv_aload_n (pc := 60) hx hb d_Mac_create_60 rfl (lv_at hl 5 rfl) ?_
      obtain ⟨q9, g13, h⟩ := gx_bd h
      refine gx_cv (pc := 61) (va_runV (C := "GasLedger$Frame") (As := []) (rest := []) ⟨hx, hb, hml, hown, hts⟩ (k_Frm_fail l dC dI cI cR cZ b tP tN hk1 g13) (gx_cw 0 hts cd_Frm_fail tb_48 tb_397 tb_398 tb_399 rfl rfl ⟨by decide, by decide, by decide +kernel⟩ ⟨Nat.le_of_ble_eq_true rfl, Nat.le_of_ble_eq_true rfl⟩) (gy_preV (cx_XX b tP tN) hX hK hP hS (cx_lt hk1 (by decide)) (sh_Frm cI cR b hk1 _) rfl) rfl rfl hl.1 rfl (lv_room (Nat.le_of_ble_eq_true rfl)) d_Mac_create_61 ⟨Nat.zero_le _, Nat.zero_le _⟩) hS (fun H locs hP hS => ?_)
      exact gx_vret hx hb hr hlk hP hS d_Mac_create_64 (by cases h; rfl) (by cases h; rfl)
    · have h := gx_neg g12 h
      refine lv_iload_n (pc := 40) hx hb d_Mac_create_40 rfl (lv_at hl 2 rfl) ?_
      refine lv_if_lt (pc := 41) (tgt := 60) hx hb d_Mac_create_41 (by decide) (fun g14 => ?_) (fun g14 => ?_)
      · have h := gx_pos g14 h
        refine lv_aload_n (pc := 60) hx hb d_Mac_create_60 rfl (lv_at hl 5 rfl) ?_
        obtain ⟨q10, g15, h⟩ := gx_bd h
        refine gx_cv (pc := 61) (va_runV (C := "GasLedger$Frame") (As := []) (rest := []) ⟨hx, hb, hml, hown, hts⟩ (k_Frm_fail l dC dI cI cR cZ b tP tN hk1 g15) (gx_cw 0 hts cd_Frm_fail tb_48 tb_397 tb_398 tb_399 rfl rfl ⟨by decide, by decide, by decide +kernel⟩ ⟨Nat.le_of_ble_eq_true rfl, Nat.le_of_ble_eq_true rfl⟩) (gy_preV (cx_XX b tP tN) hX hK hP hS (cx_lt hk1 (by decide)) (sh_Frm cI cR b hk1 _) rfl) rfl rfl hl.1 rfl (lv_room (Nat.le_of_ble_eq_true rfl)) d_Mac_create_61 ⟨Nat.zero_le _, Nat.zero_le _⟩) hS (fun H locs hP hS => ?_)
        exact gx_vret hx hb hr hlk hP hS d_Mac_create_64 (by cases h; rfl) (by cases h; rfl)
      · have h := gx_neg g14 h
        refine lv_iload (pc := 44) hx hb d_Mac_create_44 (lv_at hl 1 rfl) ?_
        refine lv_iload (pc := 46) hx hb d_Mac_create_46 (lv_at hl 0 rfl) ?_
        refine lv_icmp_gt (pc := 48) (tgt := 60) hx hb d_Mac_create_48 (by decide) (fun g16 => ?_) (fun g16 => ?_)
        · have h := gx_pos g16 h
          refine lv_aload_n (pc := 60) hx hb d_Mac_create_60 rfl (lv_at hl 5 rfl) ?_
          obtain ⟨q11, g17, h⟩ := gx_bd h
          refine gx_cv (pc := 61) (va_runV (C := "GasLedger$Frame") (As := []) (rest := []) ⟨hx, hb, hml, hown, hts⟩ (k_Frm_fail l dC dI cI cR cZ b tP tN hk1 g17) (gx_cw 0 hts cd_Frm_fail tb_48 tb_397 tb_398 tb_399 rfl rfl ⟨by decide, by decide, by decide +kernel⟩ ⟨Nat.le_of_ble_eq_true rfl, Nat.le_of_ble_eq_true rfl⟩) (gy_preV (cx_XX b tP tN) hX hK hP hS (cx_lt hk1 (by decide)) (sh_Frm cI cR b hk1 _) rfl) rfl rfl hl.1 rfl (lv_room (Nat.le_of_ble_eq_true rfl)) d_Mac_create_61 ⟨Nat.zero_le _, Nat.zero_le _⟩) hS (fun H locs hP hS => ?_)
          exact gx_vret hx hb hr hlk hP hS d_Mac_create_64 (by cases h; rfl) (by cases h; rfl)
        · have h := gx_neg g16 h
          refine lv_iload_n (pc := 51) hx hb d_Mac_create_51 rfl (lv_at hl 2 rfl) ?_
          refine lv_iload (pc := 52) hx hb d_Mac_create_52 (lv_at hl 0 rfl) ?_
          refine lv_iload (pc := 54) hx hb d_Mac_create_54 (lv_at hl 1 rfl) ?_
          refine lv_isub (pc := 56) hx hb d_Mac_create_56 ?_
          refine lv_icmp_le (pc := 57) (tgt := 65) hx hb d_Mac_create_57 (by decide) (fun g18 => ?_) (fun g18 => ?_)
          · have h := gx_pos g18 h
            refine lv_aload_n (pc := 65) hx hb d_Mac_create_65 rfl (lv_at hl 4 rfl) ?_
            refine va_get (pc := 66) (D := (dC, dI)) (ci := 3) (C := R_Mac) (T := T_Mac) (N := 6) hx hb hts in_Mac hown hK hP x0 (gx_at (cx_lt hk0 (by decide)) (sh_Mac cI cR b hk0 _)) rfl 0 (by decide) (hts _ tb_201) (fun _ h9 => h9) rfl d_Mac_create_66 ?_
            obtain ⟨q12, g19, h⟩ := gx_bd h
            refine gx_ci (pc := 69) (va_runV (C := "GasLedger$Accounts") (As := []) (rest := []) ⟨hx, hb, hml, hown, hts⟩ (k_Acc_leastEmpty l dC dI cI cR cZ b tP tN (to_Mac_accounts hk0) g19) (gx_cw 0 hts cd_Acc_leastEmpty tb_46 tb_456 tb_457 tb_458 rfl rfl ⟨by decide, by decide, by decide +kernel⟩ ⟨Nat.le_of_ble_eq_true rfl, Nat.le_of_ble_eq_true rfl⟩) (gy_preV (cx_XX b tP tN) hX hK hP hS (cx_lt (to_Mac_accounts hk0) (by decide)) (sh_Acc cI cR b (to_Mac_accounts hk0) _) rfl) rfl rfl hl.1 rfl (lv_room (Nat.le_of_ble_eq_true rfl)) d_Mac_create_69 ⟨Nat.zero_le _, Nat.zero_le _⟩) hS (fun H locs hP hS => ?_)
            refine lv_istore (pc := 72) (lv' := [(6, .int q12.1), (5, .int (q7.2 ((x0 + 1) + 3) (q7.2 x1 1).toNatClampNeg)), (4, .int q7.1), (3, .int q6.1), (2, .int q5.1), (0, .ref (b + x0)), (1, .ref (b + x1))]) hx hb d_Mac_create_72 hl (by decide) rfl (fun ls hl => ?_)
            refine lv_iload (pc := 74) hx hb d_Mac_create_74 (lv_at hl 0 rfl) ?_
            refine lv_if_lt (pc := 76) (tgt := 95) hx hb d_Mac_create_76 (by decide) (fun g20 => ?_) (fun g20 => ?_)
            · have h := gx_pos g20 h
              refine lv_aload_n (pc := 95) hx hb d_Mac_create_95 rfl (lv_at hl 6 rfl) ?_
              refine lv_iconst (pc := 96) (v := (-1 : Int32)) hx hb d_Mac_create_96 (by decide) ?_
              obtain ⟨q13, g21, h⟩ := gx_bd h
              refine gx_cv (pc := 97) (va_runV (C := "GasLedger$Frame") (As := [.int (-1 : Int32)]) (rest := []) ⟨hx, hb, hml, hown, hts⟩ (k_Frm_push l dC dI cI cR cZ b tP tN hk1 g21) (gx_cw 1 hts cd_Frm_push tb_48 tb_440 tb_441 tb_442 rfl rfl ⟨by decide, by decide, by decide +kernel⟩ ⟨Nat.le_of_ble_eq_true rfl, Nat.le_of_ble_eq_true rfl⟩) (gy_preV (cx_XX b tP tN) hX hK hP hS (cx_lt hk1 (by decide)) (sh_Frm cI cR b hk1 _) rfl) rfl rfl hl.1 rfl (lv_room (Nat.le_of_ble_eq_true rfl)) d_Mac_create_97 ⟨Nat.zero_le _, Nat.zero_le _⟩) hS (fun H locs hP hS => ?_)
              exact gx_vret hx hb hr hlk hP hS d_Mac_create_100 (by cases h; rfl) (by cases h; rfl)
            · have h := gx_neg g20 h
              refine lv_aload_n (pc := 79) hx hb d_Mac_create_79 rfl (lv_at hl 5 rfl) ?_
              refine va_get (pc := 80) (D := (dC, dI)) (ci := 3) (C := R_Mac) (T := T_Mac) (N := 6) hx hb hts in_Mac hown hK hP x0 (gx_at (cx_lt hk0 (by decide)) (sh_Mac cI cR b hk0 _)) rfl 0 (by decide) (hts _ tb_201) (fun _ h9 => h9) rfl d_Mac_create_80 ?_
              refine va_get (pc := 83) (D := (dC, dI)) (ci := 0) (C := R_Acc) (T := T_Acc) (N := 6) hx hb hts in_Acc hown hK hP (x0 + 1) (gx_at (cx_lt (to_Mac_accounts hk0) (by decide)) (sh_Acc cI cR b (to_Mac_accounts hk0) _)) rfl 0 (by decide) (hts _ tb_76) (fun _ h9 => h9) rfl d_Mac_create_83 ?_
              refine lv_aload_n (pc := 86) hx hb d_Mac_create_86 rfl (lv_at hl 6 rfl) ?_
              refine va_get (pc := 87) (D := (dC, dI)) (ci := 1) (C := R_Frm) (T := T_Frm) (N := 17) hx hb hts in_Frm hown hK hP x1 (gx_at (cx_lt hk1 (by decide)) (sh_Frm cI cR b hk1 _)) rfl 0 (by decide) (hts _ tb_135) (fun _ h9 => h9) rfl d_Mac_create_87 ?_
              obtain ⟨g22, h⟩ := gx_if h
              refine va_iald (pc := 90) hx hb hK hP ((x0 + 1) + 1) 0 (gx_at (cx_lt (to_Acc_balances (to_Mac_accounts hk0)) (by decide)) (sh_arr cI cR b (n := 16) (to_Acc_balances (to_Mac_accounts hk0)) _)) rfl g22 d_Mac_create_90 ?_
              refine lv_iload_n (pc := 91) hx hb d_Mac_create_91 rfl (lv_at hl 4 rfl) ?_
              refine lv_icmp_ge (pc := 92) (tgt := 101) hx hb d_Mac_create_92 (by decide) (fun g23 => ?_) (fun g23 => ?_)
              · have h := gx_pos g23 h
                refine lv_aload_n (pc := 101) hx hb d_Mac_create_101 rfl (lv_at hl 5 rfl) ?_
                refine va_get (pc := 102) (D := (dC, dI)) (ci := 3) (C := R_Mac) (T := T_Mac) (N := 6) hx hb hts in_Mac hown hK hP x0 (gx_at (cx_lt hk0 (by decide)) (sh_Mac cI cR b hk0 _)) rfl 0 (by decide) (hts _ tb_201) (fun _ h9 => h9) rfl d_Mac_create_102 ?_
                refine va_get (pc := 105) (D := (dC, dI)) (ci := 0) (C := R_Acc) (T := T_Acc) (N := 6) hx hb hts in_Acc hown hK hP (x0 + 1) (gx_at (cx_lt (to_Mac_accounts hk0) (by decide)) (sh_Acc cI cR b (to_Mac_accounts hk0) _)) rfl 1 (by decide) (hts _ tb_79) (fun _ h9 => h9) rfl d_Mac_create_105 ?_
                refine lv_aload_n (pc := 108) hx hb d_Mac_create_108 rfl (lv_at hl 6 rfl) ?_
                refine va_get (pc := 109) (D := (dC, dI)) (ci := 1) (C := R_Frm) (T := T_Frm) (N := 17) hx hb hts in_Frm hown hK hP x1 (gx_at (cx_lt hk1 (by decide)) (sh_Frm cI cR b hk1 _)) rfl 0 (by decide) (hts _ tb_135) (fun _ h9 => h9) rfl d_Mac_create_109 ?_
                refine lv_dup2_11 (pc := 112) hx hb d_Mac_create_112 rfl rfl ?_
                obtain ⟨g24, h⟩ := gx_if h
                refine va_iald (pc := 113) hx hb hK hP ((x0 + 1) + 2) 0 (gx_at (cx_lt (to_Acc_nonces (to_Mac_accounts hk0)) (by decide)) (sh_arr cI cR b (n := 16) (to_Acc_nonces (to_Mac_accounts hk0)) _)) rfl g24 d_Mac_create_113 ?_
                refine lv_iconst (pc := 114) (v := (1 : Int32)) hx hb d_Mac_create_114 (by decide) ?_
                refine lv_iadd (pc := 115) hx hb d_Mac_create_115 ?_
                obtain ⟨g25, h⟩ := gx_if h
                obtain ⟨V1, g26, h⟩ := gx_lt h
                refine gx_asi (pc := 116) hx hb hK hP hS ((x0 + 1) + 2) 0 (cx_lt (to_Acc_nonces (to_Mac_accounts hk0)) (by decide)) (fun _ => sh_arr cI cR b (n := 16) (to_Acc_nonces (to_Mac_accounts hk0)) _) rfl g25 d_Mac_create_116 g26 (fun H locs hP hS => ?_)
                refine lv_aload_n (pc := 117) hx hb d_Mac_create_117 rfl (lv_at hl 5 rfl) ?_
                refine va_get (pc := 118) (D := (dC, dI)) (ci := 3) (C := R_Mac) (T := T_Mac) (N := 6) hx hb hts in_Mac hown hK hP x0 (gx_at (cx_lt hk0 (by decide)) (sh_Mac cI cR b hk0 _)) rfl 0 (by decide) (hts _ tb_201) (fun _ h9 => h9) rfl d_Mac_create_118 ?_
                refine va_get (pc := 121) (D := (dC, dI)) (ci := 0) (C := R_Acc) (T := T_Acc) (N := 6) hx hb hts in_Acc hown hK hP (x0 + 1) (gx_at (cx_lt (to_Mac_accounts hk0) (by decide)) (sh_Acc cI cR b (to_Mac_accounts hk0) _)) rfl 1 (by decide) (hts _ tb_79) (fun _ h9 => h9) rfl d_Mac_create_121 ?_
                refine lv_iload (pc := 124) hx hb d_Mac_create_124 (lv_at hl 0 rfl) ?_
                refine lv_iconst (pc := 126) (v := (1 : Int32)) hx hb d_Mac_create_126 (by decide) ?_
                obtain ⟨g27, h⟩ := gx_if h
                obtain ⟨V2, g28, h⟩ := gx_lt h
                refine gx_asi (pc := 127) hx hb hK hP hS ((x0 + 1) + 2) 0 (cx_lt (to_Acc_nonces (to_Mac_accounts hk0)) (by decide)) (fun _ => sh_arr cI cR b (n := 16) (to_Acc_nonces (to_Mac_accounts hk0)) _) rfl g27 d_Mac_create_127 g28 (fun H locs hP hS => ?_)
                refine lv_iconst (pc := 128) (v := (0 : Int32)) hx hb d_Mac_create_128 (by decide) ?_
                refine lv_istore (pc := 129) (lv' := [(7, .int (0 : Int32)), (6, .int q12.1), (5, .int (q7.2 ((x0 + 1) + 3) (q7.2 x1 1).toNatClampNeg)), (4, .int q7.1), (3, .int q6.1), (2, .int q5.1), (0, .ref (b + x0)), (1, .ref (b + x1))]) hx hb d_Mac_create_129 hl (by decide) rfl (fun ls hl => ?_)
                exact B_131 100  _ _ _ _ _ _ _ hk0 hk1 _ _ _ _ (lv_sub hl [6, 7, 5, 4, 3, 1, 0] rfl) hP hS h
              · have h := gx_neg g23 h
                refine lv_aload_n (pc := 95) hx hb d_Mac_create_95 rfl (lv_at hl 6 rfl) ?_
                refine lv_iconst (pc := 96) (v := (-1 : Int32)) hx hb d_Mac_create_96 (by decide) ?_
                obtain ⟨q14, g29, h⟩ := gx_bd h
                refine gx_cv (pc := 97) (va_runV (C := "GasLedger$Frame") (As := [.int (-1 : Int32)]) (rest := []) ⟨hx, hb, hml, hown, hts⟩ (k_Frm_push l dC dI cI cR cZ b tP tN hk1 g29) (gx_cw 1 hts cd_Frm_push tb_48 tb_440 tb_441 tb_442 rfl rfl ⟨by decide, by decide, by decide +kernel⟩ ⟨Nat.le_of_ble_eq_true rfl, Nat.le_of_ble_eq_true rfl⟩) (gy_preV (cx_XX b tP tN) hX hK hP hS (cx_lt hk1 (by decide)) (sh_Frm cI cR b hk1 _) rfl) rfl rfl hl.1 rfl (lv_room (Nat.le_of_ble_eq_true rfl)) d_Mac_create_97 ⟨Nat.zero_le _, Nat.zero_le _⟩) hS (fun H locs hP hS => ?_)
                exact gx_vret hx hb hr hlk hP hS d_Mac_create_100 (by cases h; rfl) (by cases h; rfl)
          · have h := gx_neg g18 h
            refine lv_aload_n (pc := 60) hx hb d_Mac_create_60 rfl (lv_at hl 5 rfl) ?_
            obtain ⟨q15, g30, h⟩ := gx_bd h
            refine gx_cv (pc := 61) (va_runV (C := "GasLedger$Frame") (As := []) (rest := []) ⟨hx, hb, hml, hown, hts⟩ (k_Frm_fail l dC dI cI cR cZ b tP tN hk1 g30) (gx_cw 0 hts cd_Frm_fail tb_48 tb_397 tb_398 tb_399 rfl rfl ⟨by decide, by decide, by decide +kernel⟩ ⟨Nat.le_of_ble_eq_true rfl, Nat.le_of_ble_eq_true rfl⟩) (gy_preV (cx_XX b tP tN) hX hK hP hS (cx_lt hk1 (by decide)) (sh_Frm cI cR b hk1 _) rfl) rfl rfl hl.1 rfl (lv_room (Nat.le_of_ble_eq_true rfl)) d_Mac_create_61 ⟨Nat.zero_le _, Nat.zero_le _⟩) hS (fun H locs hP hS => ?_)
            exact gx_vret hx hb hr hlk hP hS d_Mac_create_64 (by cases h; rfl) (by cases h; rfl)
abbrev rm_Com_mix : Room := { frames := 0, cells := 0, slots := 0, locals := 0 }
def F_Com_mix (x0 : Int32) (x1 : Int32) (V : gx_M) : Option (Int32 × gx_M) := some ((((x0 * (668265263 : Int32)) + x1) ^^^ (((x0 * (668265263 : Int32)) + x1).toUInt32 >>> ((13 : Int32).toUInt32 &&& Int32.toUInt32 31)).toInt32), V)
set_option maxRecDepth 100000 in
set_option maxHeartbeats 8000000 in
theorem k_Com_mix (l : Launch) (dC : Nat → ClassId) (dI : Nat → Nat → Nat) (cI cR cZ : ClassId) (b tP tN : Nat) {x0 : Int32} {x1 : Int32} {V : gx_M} {q : (Int32 × gx_M)}  (h : F_Com_mix x0 x1 V = some q) : cx_C l dC dI cI cR cZ b tP tN y_Com_mix w_Com_mix rm_Com_mix [.int x0, .int x1] V (some (.int q.1)) q.2 := by
  refine gx_start (cc := b_Com_mix) (maxL := 3) (ret := rt_Com_mix) (by decide) rfl (Nat.le_of_ble_eq_true rfl) ?_
  intro p e s m args below meth c ls hx hb hr hts hown hlk hml hl hP hK hX hS
  have hts : ∀ w ∈ cx_tb, w.before args s = true := fun w hw => hts w (List.mem_cons_of_mem _ hw)
  have hown : s.vm.findClass "GasLedger$Commitment" = some m.cls := hown
  have hl : lv_has ls 3 [(0, .int x0), (1, .int x1)] := hl
  unfold F_Com_mix at h
  refine lv_iload_n (pc := 0) hx hb d_Com_mix_0 rfl (lv_at hl 0 rfl) ?_
  refine lv_ldc (pc := 1) (v := (668265263 : Int32)) hx hb hown (hts _ tb_476) d_Com_mix_1 ?_
  refine lv_imul (pc := 3) hx hb d_Com_mix_3 ?_
  refine lv_iload_n (pc := 4) hx hb d_Com_mix_4 rfl (lv_at hl 1 rfl) ?_
  refine lv_iadd (pc := 5) hx hb d_Com_mix_5 ?_
  refine lv_istore_n (pc := 6) (lv' := [(2, .int ((x0 * (668265263 : Int32)) + x1)), (0, .int x0), (1, .int x1)]) hx hb d_Com_mix_6 rfl hl (by decide) rfl (fun ls hl => ?_)
  refine lv_iload_n (pc := 7) hx hb d_Com_mix_7 rfl (lv_at hl 0 rfl) ?_
  refine lv_iload_n (pc := 8) hx hb d_Com_mix_8 rfl (lv_at hl 0 rfl) ?_
  refine lv_bipush (pc := 9) (v := (13 : Int32)) hx hb d_Com_mix_9 (by decide) ?_
  refine lv_iushr (pc := 11) hx hb d_Com_mix_11 rfl ?_
  refine lv_ixor (pc := 12) hx hb d_Com_mix_12 ?_
  exact gx_iret (free := fun _ => True) hx hb hr hlk hP hS d_Com_mix_13 (by cases h; rfl) (by cases h; rfl)
abbrev rm_Log_add : Room := { frames := 1, cells := 0, slots := 0, locals := 22 }
def F_Log_add_29 (x0 : Nat) (x2 : Int32) (V : gx_M) : Option gx_M := (gx_let (gx_u V x0 2 ((V x0 2) + (1 : Int32))) fun V1 => ((F_Com_mix (6 : Int32) x2 V1).bind fun q1 => (gx_let (gx_u q1.2 x0 3 ((V1 x0 3) ||| (((1 : Int32) <<< ((x2 &&& (31 : Int32)) &&& 31)) ||| ((1 : Int32) <<< ((q1.1 &&& (31 : Int32)) &&& 31))))) fun V2 => some V2)))
def F_Log_add (x0 : Nat) (x1 : Int32) (x2 : Int32) (V : gx_M) : Option gx_M := (if (16 : Int32) ≤ (V x0 2) then (F_Log_add_29   x0 x2 V) else (if gx_ib (V x0 2) 16 then (gx_let (gx_u V (x0 + 1) (V x0 2).toNatClampNeg x1) fun V3 => (if gx_ib (V3 x0 2) 16 then (gx_let (gx_u V3 (x0 + 2) (V3 x0 2).toNatClampNeg x2) fun V4 => (F_Log_add_29   x0 x2 V4)) else none)) else none))
set_option maxRecDepth 100000 in
set_option maxHeartbeats 8000000 in
theorem k_Log_add (l : Launch) (dC : Nat → ClassId) (dI : Nat → Nat → Nat) (cI cR cZ : ClassId) (b tP tN : Nat) {x0 : Nat} {x1 : Int32} {x2 : Int32} {V : gx_M} {q : gx_M} (hk0 : cx_kd x0 = 2) (h : F_Log_add x0 x1 x2 V = some q) : cx_C l dC dI cI cR cZ b tP tN y_Log_add w_Log_add rm_Log_add [.ref (b + x0), .int x1, .int x2] V none q := by
  refine gx_start (cc := b_Log_add) (maxL := 3) (ret := rt_Log_add) (by decide) rfl (Nat.le_of_ble_eq_true rfl) ?_
  intro p e s m args below meth c ls hx hb hr hts hown hlk hml hl hP hK hX hS
  have hts : ∀ w ∈ cx_tb, w.before args s = true := fun w hw => hts w (List.mem_cons_of_mem _ hw)
  have hown : s.vm.findClass "GasLedger$Logs" = some m.cls := hown
  have hl : lv_has ls 3 [(0, .ref (b + x0)), (1, .int x1), (2, .int x2)] := hl
  have B_29 : ∀ (x0 : Nat) (x2 : Int32), cx_kd x0 = 2 → ∀ (V : gx_M) (H : Heap) (locs : List Loc) (ls : Array Slot), lv_has ls 3 [(0, .ref (b + x0)), (2, .int x2)] → va_P (dC, dI) cx_cl (gx_w b 97 (gx_v (cx_sh cI cR b) V)) H → va_S (gx_A b 97) s.heap H locs → F_Log_add_29 x0 x2 V = some q → W p l e (headSpec w_Log_add rm_Log_add).room s m args below meth c H locs 0 0 (MQ below (gx_Q (dC, dI) cx_cl b 97 (cx_sh cI cR b) none q) args s 0 0 (gx_A b 97)) (F0 m 29 ls []) := by
    intro x0 x2 hk_x0 V H locs ls hl hP hS h
    unfold F_Log_add_29 at h
    refine lv_aload_n (pc := 29) hx hb d_Log_add_29 rfl (lv_at hl 0 rfl) ?_
    refine lv_dup (pc := 30) hx hb d_Log_add_30 rfl ?_
    refine va_get (pc := 31) (D := (dC, dI)) (ci := 2) (C := R_Log) (T := T_Log) (N := 4) hx hb hts in_Log hown hK hP x0 (gx_at (cx_lt hk_x0 (by decide)) (sh_Log cI cR b hk_x0 _)) rfl 2 (by decide) (hts _ tb_110) (fun _ h9 => h9) rfl d_Log_add_31 ?_
    refine lv_iconst (pc := 34) (v := (1 : Int32)) hx hb d_Log_add_34 (by decide) ?_
    refine lv_iadd (pc := 35) hx hb d_Log_add_35 ?_
    obtain ⟨V1, g1, h⟩ := gx_lt h
    refine gy_put (pc := 36) (D := (dC, dI)) (ci := 2) (C := R_Log) (T := T_Log) (NF := 4) (ty := .int) hx hb hts in_Log t_Log ty_Log nm_Log hown hK hP hS x0 (cx_lt hk_x0 (by decide)) (sh_Log cI cR b hk_x0 _) rfl 2 (by decide) (hts _ tb_110) (fun _ h9 => h9) rfl (by decide +kernel) rfl rfl (Nat.le_of_ble_eq_true rfl) 2 (sh_Log cI cR b hk_x0 _) d_Log_add_36 g1 (fun H locs hP hS => ?_)
    refine lv_aload_n (pc := 39) hx hb d_Log_add_39 rfl (lv_at hl 0 rfl) ?_
    refine lv_dup (pc := 40) hx hb d_Log_add_40 rfl ?_
    refine va_get (pc := 41) (D := (dC, dI)) (ci := 2) (C := R_Log) (T := T_Log) (N := 4) hx hb hts in_Log hown hK hP x0 (gx_at (cx_lt hk_x0 (by decide)) (sh_Log cI cR b hk_x0 _)) rfl 3 (by decide) (hts _ tb_113) (fun _ h9 => h9) rfl d_Log_add_41 ?_
    refine lv_iconst (pc := 44) (v := (1 : Int32)) hx hb d_Log_add_44 (by decide) ?_
    refine lv_iload_n (pc := 45) hx hb d_Log_add_45 rfl (lv_at hl 1 rfl) ?_
    refine lv_bipush (pc := 46) (v := (31 : Int32)) hx hb d_Log_add_46 (by decide) ?_
    refine lv_iand (pc := 48) hx hb d_Log_add_48 ?_
    refine lv_ishl (pc := 49) hx hb d_Log_add_49 ?_
    refine lv_iconst (pc := 50) (v := (1 : Int32)) hx hb d_Log_add_50 (by decide) ?_
    refine lv_bipush (pc := 51) (v := (6 : Int32)) hx hb d_Log_add_51 (by decide) ?_
    refine lv_iload_n (pc := 53) hx hb d_Log_add_53 rfl (lv_at hl 1 rfl) ?_
    obtain ⟨q1, g2, h⟩ := gx_bd h
    refine gx_ci (pc := 54) (va_runS (As := [.int (6 : Int32), .int x2]) (rest := [.int (1 : Int32), .int ((1 : Int32) <<< ((x2 &&& (31 : Int32)) &&& 31)), .int (V1 x0 3), .ref (b + x0)]) ⟨hx, hb, hml, hown, hts⟩ (k_Com_mix l dC dI cI cR cZ b tP tN  g2) (gx_cs 2 hts cd_Com_mix tb_53 tb_473 tb_474 rfl rfl ⟨by decide, by decide, by decide +kernel⟩ ⟨Nat.le_of_ble_eq_true rfl, Nat.le_of_ble_eq_true rfl⟩) (gy_pre (cx_XX b tP tN) hX hK hP hS) rfl rfl hl.1 rfl (lv_room (Nat.le_of_ble_eq_true rfl)) d_Log_add_54 ⟨Nat.zero_le _, Nat.zero_le _⟩) hS (fun H locs hP hS => ?_)
    refine lv_bipush (pc := 57) (v := (31 : Int32)) hx hb d_Log_add_57 (by decide) ?_
    refine lv_iand (pc := 59) hx hb d_Log_add_59 ?_
    refine lv_ishl (pc := 60) hx hb d_Log_add_60 ?_
    refine lv_ior (pc := 61) hx hb d_Log_add_61 ?_
    refine lv_ior (pc := 62) hx hb d_Log_add_62 ?_
    obtain ⟨V2, g3, h⟩ := gx_lt h
    refine gy_put (pc := 63) (D := (dC, dI)) (ci := 2) (C := R_Log) (T := T_Log) (NF := 4) (ty := .int) hx hb hts in_Log t_Log ty_Log nm_Log hown hK hP hS x0 (cx_lt hk_x0 (by decide)) (sh_Log cI cR b hk_x0 _) rfl 3 (by decide) (hts _ tb_113) (fun _ h9 => h9) rfl (by decide +kernel) rfl rfl (Nat.le_of_ble_eq_true rfl) 3 (sh_Log cI cR b hk_x0 _) d_Log_add_63 g3 (fun H locs hP hS => ?_)
    exact gx_vret hx hb hr hlk hP hS d_Log_add_66 (by cases h; rfl) (by cases h; rfl)
  unfold F_Log_add at h
  refine lv_aload_n (pc := 0) hx hb d_Log_add_0 rfl (lv_at hl 0 rfl) ?_
  refine va_get (pc := 1) (D := (dC, dI)) (ci := 2) (C := R_Log) (T := T_Log) (N := 4) hx hb hts in_Log hown hK hP x0 (gx_at (cx_lt hk0 (by decide)) (sh_Log cI cR b hk0 _)) rfl 2 (by decide) (hts _ tb_110) (fun _ h9 => h9) rfl d_Log_add_1 ?_
  refine lv_bipush (pc := 4) (v := (16 : Int32)) hx hb d_Log_add_4 (by decide) ?_
  refine lv_icmp_ge (pc := 6) (tgt := 29) hx hb d_Log_add_6 (by decide) (fun g4 => ?_) (fun g4 => ?_)
  · have h := gx_pos g4 h
    exact B_29   _ _ hk0 _ _ _ _ (lv_sub hl [0, 2] rfl) hP hS h
  · have h := gx_neg g4 h
    refine lv_aload_n (pc := 9) hx hb d_Log_add_9 rfl (lv_at hl 0 rfl) ?_
    refine va_get (pc := 10) (D := (dC, dI)) (ci := 2) (C := R_Log) (T := T_Log) (N := 4) hx hb hts in_Log hown hK hP x0 (gx_at (cx_lt hk0 (by decide)) (sh_Log cI cR b hk0 _)) rfl 0 (by decide) (hts _ tb_108) (fun _ h9 => h9) rfl d_Log_add_10 ?_
    refine lv_aload_n (pc := 13) hx hb d_Log_add_13 rfl (lv_at hl 0 rfl) ?_
    refine va_get (pc := 14) (D := (dC, dI)) (ci := 2) (C := R_Log) (T := T_Log) (N := 4) hx hb hts in_Log hown hK hP x0 (gx_at (cx_lt hk0 (by decide)) (sh_Log cI cR b hk0 _)) rfl 2 (by decide) (hts _ tb_110) (fun _ h9 => h9) rfl d_Log_add_14 ?_
    refine lv_iload_n (pc := 17) hx hb d_Log_add_17 rfl (lv_at hl 1 rfl) ?_
    obtain ⟨g5, h⟩ := gx_if h
    obtain ⟨V3, g6, h⟩ := gx_lt h
    refine gx_asi (pc := 18) hx hb hK hP hS (x0 + 1) 0 (cx_lt (to_Log_accounts hk0) (by decide)) (fun _ => sh_arr cI cR b (n := 16) (to_Log_accounts hk0) _) rfl g5 d_Log_add_18 g6 (fun H locs hP hS => ?_)
    refine lv_aload_n (pc := 19) hx hb d_Log_add_19 rfl (lv_at hl 0 rfl) ?_
    refine va_get (pc := 20) (D := (dC, dI)) (ci := 2) (C := R_Log) (T := T_Log) (N := 4) hx hb hts in_Log hown hK hP x0 (gx_at (cx_lt hk0 (by decide)) (sh_Log cI cR b hk0 _)) rfl 1 (by decide) (hts _ tb_109) (fun _ h9 => h9) rfl d_Log_add_20 ?_
    refine lv_aload_n (pc := 23) hx hb d_Log_add_23 rfl (lv_at hl 0 rfl) ?_
    refine va_get (pc := 24) (D := (dC, dI)) (ci := 2) (C := R_Log) (T := T_Log) (N := 4) hx hb hts in_Log hown hK hP x0 (gx_at (cx_lt hk0 (by decide)) (sh_Log cI cR b hk0 _)) rfl 2 (by decide) (hts _ tb_110) (fun _ h9 => h9) rfl d_Log_add_24 ?_
    refine lv_iload_n (pc := 27) hx hb d_Log_add_27 rfl (lv_at hl 2 rfl) ?_
    obtain ⟨g7, h⟩ := gx_if h
    obtain ⟨V4, g8, h⟩ := gx_lt h
    refine gx_asi (pc := 28) hx hb hK hP hS (x0 + 2) 0 (cx_lt (to_Log_numbers hk0) (by decide)) (fun _ => sh_arr cI cR b (n := 16) (to_Log_numbers hk0) _) rfl g7 d_Log_add_28 g8 (fun H locs hP hS => ?_)
    exact B_29   _ _ hk0 _ _ _ _ (lv_sub hl [0, 2] rfl) hP hS h
abbrev rm_Mac_endSelf : Room := { frames := 2, cells := 0, slots := 0, locals := 42 }
def F_Mac_endSelf (x0 : Nat) (x1 : Nat) (V : gx_M) : Option gx_M := ((F_Frm_pop x1 V).bind fun q1 => ((F_Led_isAccount q1.1 q1.2).bind fun q2 => (if q2.1 = 0 then ((F_Frm_fail x1 q2.2).bind fun q5 => some q5) else (if gx_ib (q2.2 x1 0) 16 then ((F_Acc_give (x0 + 1) (q2.2 x1 0) q1.1 (q2.2 ((x0 + 1) + 1) (q2.2 x1 0).toNatClampNeg) q2.2).bind fun q3 => (gx_let (gx_u q3 x0 5 ((q3 x0 5) ||| ((1 : Int32) <<< ((q3 x1 0) &&& 31)))) fun V1 => ((F_Frm_end x1 (1 : Int32) (0 : Int32) V1).bind fun q4 => some q4))) else none))))
set_option maxRecDepth 100000 in
set_option maxHeartbeats 8000000 in
theorem k_Mac_endSelf (l : Launch) (dC : Nat → ClassId) (dI : Nat → Nat → Nat) (cI cR cZ : ClassId) (b tP tN : Nat) {x0 : Nat} {x1 : Nat} {V : gx_M} {q : gx_M} (hk0 : cx_kd x0 = 3) (hk1 : cx_kd x1 = 1) (h : F_Mac_endSelf x0 x1 V = some q) : cx_C l dC dI cI cR cZ b tP tN y_Mac_endSelf w_Mac_endSelf rm_Mac_endSelf [.ref (b + x0), .ref (b + x1)] V none q := by
  refine gx_start (cc := b_Mac_endSelf) (maxL := 3) (ret := rt_Mac_endSelf) (by decide) rfl (Nat.le_of_ble_eq_true rfl) ?_
  intro p e s m args below meth c ls hx hb hr hts hown hlk hml hl hP hK hX hS
  have hts : ∀ w ∈ cx_tb, w.before args s = true := fun w hw => hts w (List.mem_cons_of_mem _ hw)
  have hown : s.vm.findClass "GasLedger$Machine" = some m.cls := hown
  have hl : lv_has ls 3 [(0, .ref (b + x0)), (1, .ref (b + x1))] := hl
  unfold F_Mac_endSelf at h
  refine lv_aload_n (pc := 0) hx hb d_Mac_endSelf_0 rfl (lv_at hl 1 rfl) ?_
  obtain ⟨q1, g1, h⟩ := gx_bd h
  refine gx_ci (pc := 1) (va_runV (C := "GasLedger$Frame") (As := []) (rest := []) ⟨hx, hb, hml, hown, hts⟩ (k_Frm_pop l dC dI cI cR cZ b tP tN hk1 g1) (gx_cw 0 hts cd_Frm_pop tb_48 tb_406 tb_407 tb_408 rfl rfl ⟨by decide, by decide, by decide +kernel⟩ ⟨Nat.le_of_ble_eq_true rfl, Nat.le_of_ble_eq_true rfl⟩) (gy_preV (cx_XX b tP tN) hX hK hP hS (cx_lt hk1 (by decide)) (sh_Frm cI cR b hk1 _) rfl) rfl rfl hl.1 rfl (lv_room (Nat.le_of_ble_eq_true rfl)) d_Mac_endSelf_1 ⟨Nat.zero_le _, Nat.zero_le _⟩) hS (fun H locs hP hS => ?_)
  refine lv_istore_n (pc := 4) (lv' := [(2, .int q1.1), (0, .ref (b + x0)), (1, .ref (b + x1))]) hx hb d_Mac_endSelf_4 rfl hl (by decide) rfl (fun ls hl => ?_)
  refine lv_iload_n (pc := 5) hx hb d_Mac_endSelf_5 rfl (lv_at hl 0 rfl) ?_
  obtain ⟨q2, g2, h⟩ := gx_bd h
  refine gx_ci (pc := 6) (va_runSN (host := "GasLedger") (As := [.int q1.1]) (rest := []) ⟨hx, hb, hml, hown, hts⟩ (k_Led_isAccount l dC dI cI cR cZ b tP tN  g2) (gx_cn 1 hts cd_Led_isAccount tb_44 hX.2.2.2.2.2.2.2 tb_296 rfl rfl ⟨by decide, by decide, by decide +kernel⟩ ⟨Nat.le_of_ble_eq_true rfl, Nat.le_of_ble_eq_true rfl⟩) (gy_pre (cx_XX b tP tN) hX hK hP hS) rfl rfl hl.1 rfl (lv_room (Nat.le_of_ble_eq_true rfl)) d_Mac_endSelf_6 ⟨Nat.zero_le _, Nat.zero_le _⟩) hS (fun H locs hP hS => ?_)
  refine lv_if_ne (pc := 9) (tgt := 17) hx hb d_Mac_endSelf_9 (by decide) (fun g3 => ?_) (fun g3 => ?_)
  · have h := gx_neg g3 h
    refine lv_aload_n (pc := 17) hx hb d_Mac_endSelf_17 rfl (lv_at hl 1 rfl) ?_
    refine va_get (pc := 18) (D := (dC, dI)) (ci := 3) (C := R_Mac) (T := T_Mac) (N := 6) hx hb hts in_Mac hown hK hP x0 (gx_at (cx_lt hk0 (by decide)) (sh_Mac cI cR b hk0 _)) rfl 0 (by decide) (hts _ tb_201) (fun _ h9 => h9) rfl d_Mac_endSelf_18 ?_
    refine lv_aload_n (pc := 21) hx hb d_Mac_endSelf_21 rfl (lv_at hl 2 rfl) ?_
    refine va_get (pc := 22) (D := (dC, dI)) (ci := 1) (C := R_Frm) (T := T_Frm) (N := 17) hx hb hts in_Frm hown hK hP x1 (gx_at (cx_lt hk1 (by decide)) (sh_Frm cI cR b hk1 _)) rfl 0 (by decide) (hts _ tb_135) (fun _ h9 => h9) rfl d_Mac_endSelf_22 ?_
    refine lv_iload_n (pc := 25) hx hb d_Mac_endSelf_25 rfl (lv_at hl 0 rfl) ?_
    refine lv_aload_n (pc := 26) hx hb d_Mac_endSelf_26 rfl (lv_at hl 1 rfl) ?_
    refine va_get (pc := 27) (D := (dC, dI)) (ci := 3) (C := R_Mac) (T := T_Mac) (N := 6) hx hb hts in_Mac hown hK hP x0 (gx_at (cx_lt hk0 (by decide)) (sh_Mac cI cR b hk0 _)) rfl 0 (by decide) (hts _ tb_201) (fun _ h9 => h9) rfl d_Mac_endSelf_27 ?_
    refine va_get (pc := 30) (D := (dC, dI)) (ci := 0) (C := R_Acc) (T := T_Acc) (N := 6) hx hb hts in_Acc hown hK hP (x0 + 1) (gx_at (cx_lt (to_Mac_accounts hk0) (by decide)) (sh_Acc cI cR b (to_Mac_accounts hk0) _)) rfl 0 (by decide) (hts _ tb_76) (fun _ h9 => h9) rfl d_Mac_endSelf_30 ?_
    refine lv_aload_n (pc := 33) hx hb d_Mac_endSelf_33 rfl (lv_at hl 2 rfl) ?_
    refine va_get (pc := 34) (D := (dC, dI)) (ci := 1) (C := R_Frm) (T := T_Frm) (N := 17) hx hb hts in_Frm hown hK hP x1 (gx_at (cx_lt hk1 (by decide)) (sh_Frm cI cR b hk1 _)) rfl 0 (by decide) (hts _ tb_135) (fun _ h9 => h9) rfl d_Mac_endSelf_34 ?_
    obtain ⟨g4, h⟩ := gx_if h
    refine va_iald (pc := 37) hx hb hK hP ((x0 + 1) + 1) 0 (gx_at (cx_lt (to_Acc_balances (to_Mac_accounts hk0)) (by decide)) (sh_arr cI cR b (n := 16) (to_Acc_balances (to_Mac_accounts hk0)) _)) rfl g4 d_Mac_endSelf_37 ?_
    obtain ⟨q3, g5, h⟩ := gx_bd h
    refine gx_cv (pc := 38) (va_runV (C := "GasLedger$Accounts") (As := [.int (q2.2 x1 0), .int q1.1, .int (q2.2 ((x0 + 1) + 1) (q2.2 x1 0).toNatClampNeg)]) (rest := []) ⟨hx, hb, hml, hown, hts⟩ (k_Acc_give l dC dI cI cR cZ b tP tN (to_Mac_accounts hk0) g5) (gx_cw 3 hts cd_Acc_give tb_46 tb_354 tb_355 tb_356 rfl rfl ⟨by decide, by decide, by decide +kernel⟩ ⟨Nat.le_of_ble_eq_true rfl, Nat.le_of_ble_eq_true rfl⟩) (gy_preV (cx_XX b tP tN) hX hK hP hS (cx_lt (to_Mac_accounts hk0) (by decide)) (sh_Acc cI cR b (to_Mac_accounts hk0) _) rfl) rfl rfl hl.1 rfl (lv_room (Nat.le_of_ble_eq_true rfl)) d_Mac_endSelf_38 ⟨Nat.zero_le _, Nat.zero_le _⟩) hS (fun H locs hP hS => ?_)
    refine lv_aload_n (pc := 41) hx hb d_Mac_endSelf_41 rfl (lv_at hl 1 rfl) ?_
    refine lv_dup (pc := 42) hx hb d_Mac_endSelf_42 rfl ?_
    refine va_get (pc := 43) (D := (dC, dI)) (ci := 3) (C := R_Mac) (T := T_Mac) (N := 6) hx hb hts in_Mac hown hK hP x0 (gx_at (cx_lt hk0 (by decide)) (sh_Mac cI cR b hk0 _)) rfl 5 (by decide) (hts _ tb_209) (fun _ h9 => h9) rfl d_Mac_endSelf_43 ?_
    refine lv_iconst (pc := 46) (v := (1 : Int32)) hx hb d_Mac_endSelf_46 (by decide) ?_
    refine lv_aload_n (pc := 47) hx hb d_Mac_endSelf_47 rfl (lv_at hl 2 rfl) ?_
    refine va_get (pc := 48) (D := (dC, dI)) (ci := 1) (C := R_Frm) (T := T_Frm) (N := 17) hx hb hts in_Frm hown hK hP x1 (gx_at (cx_lt hk1 (by decide)) (sh_Frm cI cR b hk1 _)) rfl 0 (by decide) (hts _ tb_135) (fun _ h9 => h9) rfl d_Mac_endSelf_48 ?_
    refine lv_ishl (pc := 51) hx hb d_Mac_endSelf_51 ?_
    refine lv_ior (pc := 52) hx hb d_Mac_endSelf_52 ?_
    obtain ⟨V1, g6, h⟩ := gx_lt h
    refine gy_put (pc := 53) (D := (dC, dI)) (ci := 3) (C := R_Mac) (T := T_Mac) (NF := 6) (ty := .int) hx hb hts in_Mac t_Mac ty_Mac nm_Mac hown hK hP hS x0 (cx_lt hk0 (by decide)) (sh_Mac cI cR b hk0 _) rfl 5 (by decide) (hts _ tb_209) (fun _ h9 => h9) rfl (by decide +kernel) rfl rfl (Nat.le_of_ble_eq_true rfl) 5 (sh_Mac cI cR b hk0 _) d_Mac_endSelf_53 g6 (fun H locs hP hS => ?_)
    refine lv_aload_n (pc := 56) hx hb d_Mac_endSelf_56 rfl (lv_at hl 2 rfl) ?_
    refine lv_iconst (pc := 57) (v := (1 : Int32)) hx hb d_Mac_endSelf_57 (by decide) ?_
    refine lv_iconst (pc := 58) (v := (0 : Int32)) hx hb d_Mac_endSelf_58 (by decide) ?_
    obtain ⟨q4, g7, h⟩ := gx_bd h
    refine gx_cv (pc := 59) (va_runV (C := "GasLedger$Frame") (As := [.int (1 : Int32), .int (0 : Int32)]) (rest := []) ⟨hx, hb, hml, hown, hts⟩ (k_Frm_end l dC dI cI cR cZ b tP tN hk1 g7) (gx_cw 2 hts cd_Frm_end tb_48 tb_405 tb_402 tb_403 rfl rfl ⟨by decide, by decide, by decide +kernel⟩ ⟨Nat.le_of_ble_eq_true rfl, Nat.le_of_ble_eq_true rfl⟩) (gy_preV (cx_XX b tP tN) hX hK hP hS (cx_lt hk1 (by decide)) (sh_Frm cI cR b hk1 _) rfl) rfl rfl hl.1 rfl (lv_room (Nat.le_of_ble_eq_true rfl)) d_Mac_endSelf_59 ⟨Nat.zero_le _, Nat.zero_le _⟩) hS (fun H locs hP hS => ?_)
    exact gx_vret hx hb hr hlk hP hS d_Mac_endSelf_62 (by cases h; rfl) (by cases h; rfl)
  · have h := gx_pos g3 h
    refine lv_aload_n (pc := 12) hx hb d_Mac_endSelf_12 rfl (lv_at hl 2 rfl) ?_
    obtain ⟨q5, g8, h⟩ := gx_bd h
    refine gx_cv (pc := 13) (va_runV (C := "GasLedger$Frame") (As := []) (rest := []) ⟨hx, hb, hml, hown, hts⟩ (k_Frm_fail l dC dI cI cR cZ b tP tN hk1 g8) (gx_cw 0 hts cd_Frm_fail tb_48 tb_397 tb_398 tb_399 rfl rfl ⟨by decide, by decide, by decide +kernel⟩ ⟨Nat.le_of_ble_eq_true rfl, Nat.le_of_ble_eq_true rfl⟩) (gy_preV (cx_XX b tP tN) hX hK hP hS (cx_lt hk1 (by decide)) (sh_Frm cI cR b hk1 _) rfl) rfl rfl hl.1 rfl (lv_room (Nat.le_of_ble_eq_true rfl)) d_Mac_endSelf_13 ⟨Nat.zero_le _, Nat.zero_le _⟩) hS (fun H locs hP hS => ?_)
    exact gx_vret hx hb hr hlk hP hS d_Mac_endSelf_16 (by cases h; rfl) (by cases h; rfl)
abbrev rm_Acc_balanceOf : Room := { frames := 1, cells := 0, slots := 0, locals := 20 }
def F_Acc_balanceOf (x0 : Nat) (x1 : Int32) (V : gx_M) : Option (Int32 × gx_M) := ((F_Led_isAccount x1 V).bind fun q1 => (if q1.1 = 0 then some ((0 : Int32), q1.2) else (if gx_ib x1 16 then some ((q1.2 (x0 + 1) x1.toNatClampNeg), q1.2) else none)))
set_option maxRecDepth 100000 in
set_option maxHeartbeats 8000000 in
theorem k_Acc_balanceOf (l : Launch) (dC : Nat → ClassId) (dI : Nat → Nat → Nat) (cI cR cZ : ClassId) (b tP tN : Nat) {x0 : Nat} {x1 : Int32} {V : gx_M} {q : (Int32 × gx_M)} (hk0 : cx_kd x0 = 0) (h : F_Acc_balanceOf x0 x1 V = some q) : cx_C l dC dI cI cR cZ b tP tN y_Acc_balanceOf w_Acc_balanceOf rm_Acc_balanceOf [.ref (b + x0), .int x1] V (some (.int q.1)) q.2 := by
  refine gx_start (cc := b_Acc_balanceOf) (maxL := 2) (ret := rt_Acc_balanceOf) (by decide) rfl (Nat.le_of_ble_eq_true rfl) ?_
  intro p e s m args below meth c ls hx hb hr hts hown hlk hml hl hP hK hX hS
  have hts : ∀ w ∈ cx_tb, w.before args s = true := fun w hw => hts w (List.mem_cons_of_mem _ hw)
  have hown : s.vm.findClass "GasLedger$Accounts" = some m.cls := hown
  have hl : lv_has ls 2 [(0, .ref (b + x0)), (1, .int x1)] := hl
  unfold F_Acc_balanceOf at h
  refine lv_iload_n (pc := 0) hx hb d_Acc_balanceOf_0 rfl (lv_at hl 1 rfl) ?_
  obtain ⟨q1, g1, h⟩ := gx_bd h
  refine gx_ci (pc := 1) (va_runSN (host := "GasLedger") (As := [.int x1]) (rest := []) ⟨hx, hb, hml, hown, hts⟩ (k_Led_isAccount l dC dI cI cR cZ b tP tN  g1) (gx_cn 1 hts cd_Led_isAccount tb_44 hX.2.2.2.2.1 tb_296 rfl rfl ⟨by decide, by decide, by decide +kernel⟩ ⟨Nat.le_of_ble_eq_true rfl, Nat.le_of_ble_eq_true rfl⟩) (gy_pre (cx_XX b tP tN) hX hK hP hS) rfl rfl hl.1 rfl (lv_room (Nat.le_of_ble_eq_true rfl)) d_Acc_balanceOf_1 ⟨Nat.zero_le _, Nat.zero_le _⟩) hS (fun H locs hP hS => ?_)
  refine lv_if_eq (pc := 4) (tgt := 16) hx hb d_Acc_balanceOf_4 (by decide) (fun g2 => ?_) (fun g2 => ?_)
  · have h := gx_pos g2 h
    refine lv_iconst (pc := 16) (v := (0 : Int32)) hx hb d_Acc_balanceOf_16 (by decide) ?_
    exact gx_iret (free := fun _ => True) hx hb hr hlk hP hS d_Acc_balanceOf_17 (by cases h; rfl) (by cases h; rfl)
  · have h := gx_neg g2 h
    refine lv_aload_n (pc := 7) hx hb d_Acc_balanceOf_7 rfl (lv_at hl 0 rfl) ?_
    refine va_get (pc := 8) (D := (dC, dI)) (ci := 0) (C := R_Acc) (T := T_Acc) (N := 6) hx hb hts in_Acc hown hK hP x0 (gx_at (cx_lt hk0 (by decide)) (sh_Acc cI cR b hk0 _)) rfl 0 (by decide) (hts _ tb_74) (fun _ h9 => h9) rfl d_Acc_balanceOf_8 ?_
    refine lv_iload_n (pc := 11) hx hb d_Acc_balanceOf_11 rfl (lv_at hl 1 rfl) ?_
    obtain ⟨g3, h⟩ := gx_if h
    refine va_iald (pc := 12) hx hb hK hP (x0 + 1) 0 (gx_at (cx_lt (to_Acc_balances hk0) (by decide)) (sh_arr cI cR b (n := 16) (to_Acc_balances hk0) _)) rfl g3 d_Acc_balanceOf_12 ?_
    refine lv_goto (pc := 13) (tgt := 17) hx hb d_Acc_balanceOf_13 (by decide) ?_
    exact gx_iret (free := fun _ => True) hx hb hr hlk hP hS d_Acc_balanceOf_17 (by cases h; rfl) (by cases h; rfl)
