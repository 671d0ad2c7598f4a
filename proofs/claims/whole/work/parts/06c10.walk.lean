abbrev rm_Rec_add : Room := { frames := 0, cells := 0, slots := 0, locals := 0 }
def F_Rec_add (x0 : Nat) (x1 : Int32) (x2 : Int32) (x3 : Int32) (x4 : Int32) (V : gx_M) : Option gx_M := (if (16 : Int32) ≤ (V x0 4) then (gx_let (gx_u V x0 4 ((V x0 4) + (1 : Int32))) fun V1 => some V1) else (if gx_ib (V x0 4) 16 then (gx_let (gx_u V (x0 + 1) (V x0 4).toNatClampNeg x1) fun V2 => (if gx_ib (V2 x0 4) 16 then (gx_let (gx_u V2 (x0 + 2) (V2 x0 4).toNatClampNeg x2) fun V3 => (if gx_ib (V3 x0 4) 16 then (gx_let (gx_u V3 (x0 + 3) (V3 x0 4).toNatClampNeg x3) fun V4 => (if gx_ib (V4 x0 4) 16 then (gx_let (gx_u V4 (x0 + 4) (V4 x0 4).toNatClampNeg x4) fun V5 => (gx_let (gx_u V5 x0 4 ((V5 x0 4) + (1 : Int32))) fun V6 => some V6)) else none)) else none)) else none)) else none))
set_option maxRecDepth 100000 in
set_option maxHeartbeats 8000000 in
theorem k_Rec_add (l : Launch) (dC : Nat → ClassId) (dI : Nat → Nat → Nat) (cI cR cZ : ClassId) (b tP tN : Nat) {x0 : Nat} {x1 : Int32} {x2 : Int32} {x3 : Int32} {x4 : Int32} {V : gx_M} {q : gx_M} (hk0 : cx_kd x0 = 4) (h : F_Rec_add x0 x1 x2 x3 x4 V = some q) : cx_C l dC dI cI cR cZ b tP tN y_Rec_add w_Rec_add rm_Rec_add [.ref (b + x0), .int x1, .int x2, .int x3, .int x4] V none q := by
  refine gx_start (cc := b_Rec_add) (maxL := 5) (ret := rt_Rec_add) (by decide) rfl (Nat.le_of_ble_eq_true rfl) ?_
  intro p e s m args below meth c ls hx hb hr hts hown hlk hml hl hP hK hX hS
  have hts : ∀ w ∈ cx_tb, w.before args s = true := fun w hw => hts w (List.mem_cons_of_mem _ hw)
  have hown : s.vm.findClass "GasLedger$Receipts" = some m.cls := hown
  have hl : lv_has ls 5 [(0, .ref (b + x0)), (1, .int x1), (2, .int x2), (3, .int x3), (4, .int x4)] := hl
  unfold F_Rec_add at h
  refine lv_aload_n (pc := 0) hx hb d_Rec_add_0 rfl (lv_at hl 0 rfl) ?_
  refine va_get (pc := 1) (D := (dC, dI)) (ci := 4) (C := R_Rec) (T := T_Rec) (N := 5) hx hb hts in_Rec hown hK hP x0 (gx_at (cx_lt hk0 (by decide)) (sh_Rec cI cR b hk0 _)) rfl 4 (by decide) (hts _ tb_235) (fun _ h9 => h9) rfl d_Rec_add_1 ?_
  refine lv_bipush (pc := 4) (v := (16 : Int32)) hx hb d_Rec_add_4 (by decide) ?_
  refine lv_icmp_ge (pc := 6) (tgt := 50) hx hb d_Rec_add_6 (by decide) (fun g1 => ?_) (fun g1 => ?_)
  · have h := gx_pos g1 h
    refine lv_aload_n (pc := 50) hx hb d_Rec_add_50 rfl (lv_at hl 0 rfl) ?_
    refine lv_dup (pc := 51) hx hb d_Rec_add_51 rfl ?_
    refine va_get (pc := 52) (D := (dC, dI)) (ci := 4) (C := R_Rec) (T := T_Rec) (N := 5) hx hb hts in_Rec hown hK hP x0 (gx_at (cx_lt hk0 (by decide)) (sh_Rec cI cR b hk0 _)) rfl 4 (by decide) (hts _ tb_235) (fun _ h9 => h9) rfl d_Rec_add_52 ?_
    refine lv_iconst (pc := 55) (v := (1 : Int32)) hx hb d_Rec_add_55 (by decide) ?_
    refine lv_iadd (pc := 56) hx hb d_Rec_add_56 ?_
    obtain ⟨V1, g2, h⟩ := gx_lt h
    refine gy_put (pc := 57) (D := (dC, dI)) (ci := 4) (C := R_Rec) (T := T_Rec) (NF := 5) (ty := .int) hx hb hts in_Rec t_Rec ty_Rec nm_Rec hown hK hP hS x0 (cx_lt hk0 (by decide)) (sh_Rec cI cR b hk0 _) rfl 4 (by decide) (hts _ tb_235) (fun _ h9 => h9) rfl (by decide +kernel) rfl rfl (Nat.le_of_ble_eq_true rfl) 4 (sh_Rec cI cR b hk0 _) d_Rec_add_57 g2 (fun H locs hP hS => ?_)
    exact gx_vret hx hb hr hlk hP hS d_Rec_add_60 (by cases h; rfl) (by cases h; rfl)
  · have h := gx_neg g1 h
    refine lv_aload_n (pc := 9) hx hb d_Rec_add_9 rfl (lv_at hl 0 rfl) ?_
    refine va_get (pc := 10) (D := (dC, dI)) (ci := 4) (C := R_Rec) (T := T_Rec) (N := 5) hx hb hts in_Rec hown hK hP x0 (gx_at (cx_lt hk0 (by decide)) (sh_Rec cI cR b hk0 _)) rfl 0 (by decide) (hts _ tb_231) (fun _ h9 => h9) rfl d_Rec_add_10 ?_
    refine lv_aload_n (pc := 13) hx hb d_Rec_add_13 rfl (lv_at hl 0 rfl) ?_
    refine va_get (pc := 14) (D := (dC, dI)) (ci := 4) (C := R_Rec) (T := T_Rec) (N := 5) hx hb hts in_Rec hown hK hP x0 (gx_at (cx_lt hk0 (by decide)) (sh_Rec cI cR b hk0 _)) rfl 4 (by decide) (hts _ tb_235) (fun _ h9 => h9) rfl d_Rec_add_14 ?_
    refine lv_iload_n (pc := 17) hx hb d_Rec_add_17 rfl (lv_at hl 1 rfl) ?_
    obtain ⟨g3, h⟩ := gx_if h
    obtain ⟨V2, g4, h⟩ := gx_lt h
    refine gx_asi (pc := 18) hx hb hK hP hS (x0 + 1) 0 (cx_lt (to_Rec_statuses hk0) (by decide)) (fun _ => sh_arr cI cR b (n := 16) (to_Rec_statuses hk0) _) rfl g3 d_Rec_add_18 g4 (fun H locs hP hS => ?_)
    refine lv_aload_n (pc := 19) hx hb d_Rec_add_19 rfl (lv_at hl 0 rfl) ?_
    refine va_get (pc := 20) (D := (dC, dI)) (ci := 4) (C := R_Rec) (T := T_Rec) (N := 5) hx hb hts in_Rec hown hK hP x0 (gx_at (cx_lt hk0 (by decide)) (sh_Rec cI cR b hk0 _)) rfl 1 (by decide) (hts _ tb_232) (fun _ h9 => h9) rfl d_Rec_add_20 ?_
    refine lv_aload_n (pc := 23) hx hb d_Rec_add_23 rfl (lv_at hl 0 rfl) ?_
    refine va_get (pc := 24) (D := (dC, dI)) (ci := 4) (C := R_Rec) (T := T_Rec) (N := 5) hx hb hts in_Rec hown hK hP x0 (gx_at (cx_lt hk0 (by decide)) (sh_Rec cI cR b hk0 _)) rfl 4 (by decide) (hts _ tb_235) (fun _ h9 => h9) rfl d_Rec_add_24 ?_
    refine lv_iload_n (pc := 27) hx hb d_Rec_add_27 rfl (lv_at hl 2 rfl) ?_
    obtain ⟨g5, h⟩ := gx_if h
    obtain ⟨V3, g6, h⟩ := gx_lt h
    refine gx_asi (pc := 28) hx hb hK hP hS (x0 + 2) 0 (cx_lt (to_Rec_usedGas hk0) (by decide)) (fun _ => sh_arr cI cR b (n := 16) (to_Rec_usedGas hk0) _) rfl g5 d_Rec_add_28 g6 (fun H locs hP hS => ?_)
    refine lv_aload_n (pc := 29) hx hb d_Rec_add_29 rfl (lv_at hl 0 rfl) ?_
    refine va_get (pc := 30) (D := (dC, dI)) (ci := 4) (C := R_Rec) (T := T_Rec) (N := 5) hx hb hts in_Rec hown hK hP x0 (gx_at (cx_lt hk0 (by decide)) (sh_Rec cI cR b hk0 _)) rfl 2 (by decide) (hts _ tb_233) (fun _ h9 => h9) rfl d_Rec_add_30 ?_
    refine lv_aload_n (pc := 33) hx hb d_Rec_add_33 rfl (lv_at hl 0 rfl) ?_
    refine va_get (pc := 34) (D := (dC, dI)) (ci := 4) (C := R_Rec) (T := T_Rec) (N := 5) hx hb hts in_Rec hown hK hP x0 (gx_at (cx_lt hk0 (by decide)) (sh_Rec cI cR b hk0 _)) rfl 4 (by decide) (hts _ tb_235) (fun _ h9 => h9) rfl d_Rec_add_34 ?_
    refine lv_iload_n (pc := 37) hx hb d_Rec_add_37 rfl (lv_at hl 3 rfl) ?_
    obtain ⟨g7, h⟩ := gx_if h
    obtain ⟨V4, g8, h⟩ := gx_lt h
    refine gx_asi (pc := 38) hx hb hK hP hS (x0 + 3) 0 (cx_lt (to_Rec_outputs hk0) (by decide)) (fun _ => sh_arr cI cR b (n := 16) (to_Rec_outputs hk0) _) rfl g7 d_Rec_add_38 g8 (fun H locs hP hS => ?_)
    refine lv_aload_n (pc := 39) hx hb d_Rec_add_39 rfl (lv_at hl 0 rfl) ?_
    refine va_get (pc := 40) (D := (dC, dI)) (ci := 4) (C := R_Rec) (T := T_Rec) (N := 5) hx hb hts in_Rec hown hK hP x0 (gx_at (cx_lt hk0 (by decide)) (sh_Rec cI cR b hk0 _)) rfl 3 (by decide) (hts _ tb_234) (fun _ h9 => h9) rfl d_Rec_add_40 ?_
    refine lv_aload_n (pc := 43) hx hb d_Rec_add_43 rfl (lv_at hl 0 rfl) ?_
    refine va_get (pc := 44) (D := (dC, dI)) (ci := 4) (C := R_Rec) (T := T_Rec) (N := 5) hx hb hts in_Rec hown hK hP x0 (gx_at (cx_lt hk0 (by decide)) (sh_Rec cI cR b hk0 _)) rfl 4 (by decide) (hts _ tb_235) (fun _ h9 => h9) rfl d_Rec_add_44 ?_
    refine lv_iload (pc := 47) hx hb d_Rec_add_47 (lv_at hl 4 rfl) ?_
    obtain ⟨g9, h⟩ := gx_if h
    obtain ⟨V5, g10, h⟩ := gx_lt h
    refine gx_asi (pc := 49) hx hb hK hP hS (x0 + 4) 0 (cx_lt (to_Rec_logCounts hk0) (by decide)) (fun _ => sh_arr cI cR b (n := 16) (to_Rec_logCounts hk0) _) rfl g9 d_Rec_add_49 g10 (fun H locs hP hS => ?_)
    refine lv_aload_n (pc := 50) hx hb d_Rec_add_50 rfl (lv_at hl 0 rfl) ?_
    refine lv_dup (pc := 51) hx hb d_Rec_add_51 rfl ?_
    refine va_get (pc := 52) (D := (dC, dI)) (ci := 4) (C := R_Rec) (T := T_Rec) (N := 5) hx hb hts in_Rec hown hK hP x0 (gx_at (cx_lt hk0 (by decide)) (sh_Rec cI cR b hk0 _)) rfl 4 (by decide) (hts _ tb_235) (fun _ h9 => h9) rfl d_Rec_add_52 ?_
    refine lv_iconst (pc := 55) (v := (1 : Int32)) hx hb d_Rec_add_55 (by decide) ?_
    refine lv_iadd (pc := 56) hx hb d_Rec_add_56 ?_
    obtain ⟨V6, g11, h⟩ := gx_lt h
    refine gy_put (pc := 57) (D := (dC, dI)) (ci := 4) (C := R_Rec) (T := T_Rec) (NF := 5) (ty := .int) hx hb hts in_Rec t_Rec ty_Rec nm_Rec hown hK hP hS x0 (cx_lt hk0 (by decide)) (sh_Rec cI cR b hk0 _) rfl 4 (by decide) (hts _ tb_235) (fun _ h9 => h9) rfl (by decide +kernel) rfl rfl (Nat.le_of_ble_eq_true rfl) 4 (sh_Rec cI cR b hk0 _) d_Rec_add_57 g11 (fun H locs hP hS => ?_)
    exact gx_vret hx hb hr hlk hP hS d_Rec_add_60 (by cases h; rfl) (by cases h; rfl)
abbrev rm_Led_perform : Room := { frames := 6, cells := 0, slots := 0, locals := 191 }
def F_Led_perform_166 (x0 : Nat) (x8 : Int32) (x9 : Nat) (x11 : Int32) (s0 : Int32) (s1 : Nat) (V : gx_M) : Option (Int32 × gx_M) := ((F_Rec_add s1 s0 x11 (V x9 11) ((V ((x0 + 1) + 8) 2) - x8) V).bind fun q1 => some (x11, q1))
def F_Led_perform (x0 : Nat) (x1 : Int32) (x2 : Int32) (x3 : Int32) (x4 : Int32) (x5 : Int32) (x6 : Int32) (V : gx_M) : Option (Int32 × gx_M) := (if gx_ib x1 16 then (if gx_ib x1 16 then (gx_let (gx_u V (((x0 + 1) + 1) + 1) x1.toNatClampNeg ((V (((x0 + 1) + 1) + 1) x1.toNatClampNeg) - (x5 * x6))) fun V1 => (if gx_ib x1 16 then (if gx_ib x1 16 then (gx_let (gx_u V1 (((x0 + 1) + 1) + 2) x1.toNatClampNeg ((V1 (((x0 + 1) + 1) + 2) x1.toNatClampNeg) + (1 : Int32))) fun V2 => ((F_Mac_run (x0 + 1) x1 x2 x3 x4 (x5 - (20 : Int32)) V2).bind fun q2 => (if cx_kd q2.1 = 1 then (if gx_ib x1 16 then (if gx_ib x1 16 then (gx_let (gx_u q2.2 (((x0 + 1) + 1) + 1) x1.toNatClampNeg ((q2.2 (((x0 + 1) + 1) + 1) x1.toNatClampNeg) + ((x5 - ((x5 - (q2.2 q2.1 6)) - (if (q2.2 (x0 + 1) 4) < ((x5 - (q2.2 q2.1 6)) / (2 : Int32)) then (q2.2 (x0 + 1) 4) else ((x5 - (q2.2 q2.1 6)) / (2 : Int32))))) * x6))) fun V3 => (if gx_ib (V3 x0 8) 16 then (if gx_ib (V3 x0 8) 16 then (gx_let (gx_u V3 (((x0 + 1) + 1) + 1) (V3 x0 8).toNatClampNeg ((V3 (((x0 + 1) + 1) + 1) (V3 x0 8).toNatClampNeg) + (((x5 - (q2.2 q2.1 6)) - (if (q2.2 (x0 + 1) 4) < ((x5 - (q2.2 q2.1 6)) / (2 : Int32)) then (q2.2 (x0 + 1) 4) else ((x5 - (q2.2 q2.1 6)) / (2 : Int32)))) * x6))) fun V4 => ((F_Mac_removeGoers (x0 + 1) V4).bind fun q3 => (gx_let (gx_u q3 x0 9 ((q3 x0 9) + ((x5 - (q2.2 q2.1 6)) - (if (q2.2 (x0 + 1) 4) < ((x5 - (q2.2 q2.1 6)) / (2 : Int32)) then (q2.2 (x0 + 1) 4) else ((x5 - (q2.2 q2.1 6)) / (2 : Int32)))))) fun V5 => (if (V5 q2.1 10) = 0 then (F_Led_perform_166   x0 (V ((x0 + 1) + 8) 2) q2.1 ((x5 - (q2.2 q2.1 6)) - (if (q2.2 (x0 + 1) 4) < ((x5 - (q2.2 q2.1 6)) / (2 : Int32)) then (q2.2 (x0 + 1) 4) else ((x5 - (q2.2 q2.1 6)) / (2 : Int32)))) (0 : Int32) (x0 + 92) V5) else (F_Led_perform_166   x0 (V ((x0 + 1) + 8) 2) q2.1 ((x5 - (q2.2 q2.1 6)) - (if (q2.2 (x0 + 1) 4) < ((x5 - (q2.2 q2.1 6)) / (2 : Int32)) then (q2.2 (x0 + 1) 4) else ((x5 - (q2.2 q2.1 6)) / (2 : Int32)))) (1 : Int32) (x0 + 92) V5))))) else none) else none)) else none) else none) else none))) else none) else none)) else none) else none)
set_option maxRecDepth 100000 in
set_option maxHeartbeats 8000000 in
theorem k_Led_perform (l : Launch) (dC : Nat → ClassId) (dI : Nat → Nat → Nat) (cI cR cZ : ClassId) (b tP tN : Nat) {x0 : Nat} {x1 : Int32} {x2 : Int32} {x3 : Int32} {x4 : Int32} {x5 : Int32} {x6 : Int32} {V : gx_M} {q : (Int32 × gx_M)} (hk0 : cx_kd x0 = 5) (h : F_Led_perform x0 x1 x2 x3 x4 x5 x6 V = some q) : cx_C l dC dI cI cR cZ b tP tN y_Led_perform w_Led_perform rm_Led_perform [.ref (b + x0), .int x1, .int x2, .int x3, .int x4, .int x5, .int x6] V (some (.int q.1)) q.2 := by
  refine gx_start (cc := b_Led_perform) (maxL := 12) (ret := rt_Led_perform) (by decide) rfl (Nat.le_of_ble_eq_true rfl) ?_
  intro p e s m args below meth c ls hx hb hr hts hown hlk hml hl hP hK hX hS
  have hts : ∀ w ∈ cx_tb, w.before args s = true := fun w hw => hts w (List.mem_cons_of_mem _ hw)
  have hown : s.vm.findClass "GasLedger" = some m.cls := hown
  have hl : lv_has ls 12 [(0, .ref (b + x0)), (1, .int x1), (2, .int x2), (3, .int x3), (4, .int x4), (5, .int x5), (6, .int x6)] := hl
  have B_166 : ∀ (x0 : Nat) (x8 : Int32) (x9 : Nat) (x11 : Int32) (s0 : Int32) (s1 : Nat), cx_kd x0 = 5 → cx_kd x9 = 1 → cx_kd s1 = 4 → ∀ (V : gx_M) (H : Heap) (locs : List Loc) (ls : Array Slot), lv_has ls 12 [(0, .ref (b + x0)), (8, .int x8), (9, .ref (b + x9)), (11, .int x11)] → va_P (dC, dI) cx_cl (gx_w b 97 (gx_v (cx_sh cI cR b) V)) H → va_S (gx_A b 97) s.heap H locs → F_Led_perform_166 x0 x8 x9 x11 s0 s1 V = some q → W p l e (headSpec w_Led_perform rm_Led_perform).room s m args below meth c H locs 0 0 (MQ below (gx_Q (dC, dI) cx_cl b 97 (cx_sh cI cR b) (some (.int q.1)) q.2) args s 0 0 (gx_A b 97)) (F0 m 166 ls [.int s0, .ref (b + s1)]) := by
    intro x0 x8 x9 x11 s0 s1 hk_x0 hk_x9 hk_s1 V H locs ls hl hP hS h
    unfold F_Led_perform_166 at h
    refine lv_iload (pc := 166) hx hb d_Led_perform_166 (lv_at hl 3 rfl) ?_
    refine lv_aload (pc := 168) hx hb d_Led_perform_168 (lv_at hl 2 rfl) ?_
    refine va_get (pc := 170) (D := (dC, dI)) (ci := 1) (C := R_Frm) (T := T_Frm) (N := 17) hx hb hts in_Frm hown hK hP x9 (gx_at (cx_lt hk_x9 (by decide)) (sh_Frm cI cR b hk_x9 _)) rfl 11 (by decide) (hts _ tb_159) (fun _ h9 => h9) rfl d_Led_perform_170 ?_
    refine lv_aload_n (pc := 173) hx hb d_Led_perform_173 rfl (lv_at hl 0 rfl) ?_
    refine va_get (pc := 174) (D := (dC, dI)) (ci := 5) (C := R_Led) (T := T_Led) (N := 14) hx hb hts in_Led hown hK hP x0 (gx_at (cx_lt hk_x0 (by decide)) (sh_Led cI cR b hk_x0 _)) rfl 0 (by decide) (hts _ tb_248) (fun _ h9 => h9) rfl d_Led_perform_174 ?_
    refine va_get (pc := 177) (D := (dC, dI)) (ci := 3) (C := R_Mac) (T := T_Mac) (N := 6) hx hb hts in_Mac hown hK hP (x0 + 1) (gx_at (cx_lt (to_Led_machine hk_x0) (by decide)) (sh_Mac cI cR b (to_Led_machine hk_x0) _)) rfl 1 (by decide) (hts _ tb_204) (fun _ h9 => h9) rfl d_Led_perform_177 ?_
    refine va_get (pc := 180) (D := (dC, dI)) (ci := 2) (C := R_Log) (T := T_Log) (N := 4) hx hb hts in_Log hown hK hP ((x0 + 1) + 8) (gx_at (cx_lt (to_Mac_logs (to_Led_machine hk_x0)) (by decide)) (sh_Log cI cR b (to_Mac_logs (to_Led_machine hk_x0)) _)) rfl 2 (by decide) (hts _ tb_112) (fun _ h9 => h9) rfl d_Led_perform_180 ?_
    refine lv_iload (pc := 183) hx hb d_Led_perform_183 (lv_at hl 1 rfl) ?_
    refine lv_isub (pc := 185) hx hb d_Led_perform_185 ?_
    obtain ⟨q1, g1, h⟩ := gx_bd h
    refine gx_cv (pc := 186) (va_runV (C := "GasLedger$Receipts") (As := [.int s0, .int x11, .int (V x9 11), .int ((V ((x0 + 1) + 8) 2) - x8)]) (rest := []) ⟨hx, hb, hml, hown, hts⟩ (k_Rec_add l dC dI cI cR cZ b tP tN hk_s1 g1) (gx_cw 4 hts cd_Rec_add tb_49 tb_510 tb_511 tb_512 rfl rfl ⟨by decide, by decide, by decide +kernel⟩ ⟨Nat.le_of_ble_eq_true rfl, Nat.le_of_ble_eq_true rfl⟩) (gy_preV (cx_XX b tP tN) hX hK hP hS (cx_lt hk_s1 (by decide)) (sh_Rec cI cR b hk_s1 _) rfl) rfl rfl hl.1 rfl (lv_room (Nat.le_of_ble_eq_true rfl)) d_Led_perform_186 ⟨Nat.zero_le _, Nat.zero_le _⟩) hS (fun H locs hP hS => ?_)
    refine lv_iload (pc := 189) hx hb d_Led_perform_189 (lv_at hl 3 rfl) ?_
    exact gx_iret (free := fun _ => True) hx hb hr hlk hP hS d_Led_perform_191 (by cases h; rfl) (by cases h; rfl)
  unfold F_Led_perform at h
  refine lv_aload_n (pc := 0) hx hb d_Led_perform_0 rfl (lv_at hl 0 rfl) ?_
  refine va_get (pc := 1) (D := (dC, dI)) (ci := 5) (C := R_Led) (T := T_Led) (N := 14) hx hb hts in_Led hown hK hP x0 (gx_at (cx_lt hk0 (by decide)) (sh_Led cI cR b hk0 _)) rfl 0 (by decide) (hts _ tb_248) (fun _ h9 => h9) rfl d_Led_perform_1 ?_
  refine va_get (pc := 4) (D := (dC, dI)) (ci := 3) (C := R_Mac) (T := T_Mac) (N := 6) hx hb hts in_Mac hown hK hP (x0 + 1) (gx_at (cx_lt (to_Led_machine hk0) (by decide)) (sh_Mac cI cR b (to_Led_machine hk0) _)) rfl 0 (by decide) (hts _ tb_202) (fun _ h9 => h9) rfl d_Led_perform_4 ?_
  refine lv_astore (pc := 7) (lv' := [(7, .ref (b + ((x0 + 1) + 1))), (0, .ref (b + x0)), (1, .int x1), (2, .int x2), (3, .int x3), (4, .int x4), (5, .int x5), (6, .int x6)]) hx hb d_Led_perform_7 hl (by decide) rfl (fun ls hl => ?_)
  refine lv_aload_n (pc := 9) hx hb d_Led_perform_9 rfl (lv_at hl 1 rfl) ?_
  refine va_get (pc := 10) (D := (dC, dI)) (ci := 5) (C := R_Led) (T := T_Led) (N := 14) hx hb hts in_Led hown hK hP x0 (gx_at (cx_lt hk0 (by decide)) (sh_Led cI cR b hk0 _)) rfl 0 (by decide) (hts _ tb_248) (fun _ h9 => h9) rfl d_Led_perform_10 ?_
  refine va_get (pc := 13) (D := (dC, dI)) (ci := 3) (C := R_Mac) (T := T_Mac) (N := 6) hx hb hts in_Mac hown hK hP (x0 + 1) (gx_at (cx_lt (to_Led_machine hk0) (by decide)) (sh_Mac cI cR b (to_Led_machine hk0) _)) rfl 1 (by decide) (hts _ tb_204) (fun _ h9 => h9) rfl d_Led_perform_13 ?_
  refine va_get (pc := 16) (D := (dC, dI)) (ci := 2) (C := R_Log) (T := T_Log) (N := 4) hx hb hts in_Log hown hK hP ((x0 + 1) + 8) (gx_at (cx_lt (to_Mac_logs (to_Led_machine hk0)) (by decide)) (sh_Log cI cR b (to_Mac_logs (to_Led_machine hk0)) _)) rfl 2 (by decide) (hts _ tb_112) (fun _ h9 => h9) rfl d_Led_perform_16 ?_
  refine lv_istore (pc := 19) (lv' := [(8, .int (V ((x0 + 1) + 8) 2)), (7, .ref (b + ((x0 + 1) + 1))), (0, .ref (b + x0)), (1, .int x1), (2, .int x2), (3, .int x3), (4, .int x4), (5, .int x5), (6, .int x6)]) hx hb d_Led_perform_19 hl (by decide) rfl (fun ls hl => ?_)
  refine lv_aload (pc := 21) hx hb d_Led_perform_21 (lv_at hl 1 rfl) ?_
  refine va_get (pc := 23) (D := (dC, dI)) (ci := 0) (C := R_Acc) (T := T_Acc) (N := 6) hx hb hts in_Acc hown hK hP ((x0 + 1) + 1) (gx_at (cx_lt (to_Mac_accounts (to_Led_machine hk0)) (by decide)) (sh_Acc cI cR b (to_Mac_accounts (to_Led_machine hk0)) _)) rfl 0 (by decide) (hts _ tb_75) (fun _ h9 => h9) rfl d_Led_perform_23 ?_
  refine lv_iload_n (pc := 26) hx hb d_Led_perform_26 rfl (lv_at hl 3 rfl) ?_
  refine lv_dup2_11 (pc := 27) hx hb d_Led_perform_27 rfl rfl ?_
  obtain ⟨g2, h⟩ := gx_if h
  refine va_iald (pc := 28) hx hb hK hP (((x0 + 1) + 1) + 1) 0 (gx_at (cx_lt (to_Acc_balances (to_Mac_accounts (to_Led_machine hk0))) (by decide)) (sh_arr cI cR b (n := 16) (to_Acc_balances (to_Mac_accounts (to_Led_machine hk0))) _)) rfl g2 d_Led_perform_28 ?_
  refine lv_iload (pc := 29) hx hb d_Led_perform_29 (lv_at hl 7 rfl) ?_
  refine lv_iload (pc := 31) hx hb d_Led_perform_31 (lv_at hl 8 rfl) ?_
  refine lv_imul (pc := 33) hx hb d_Led_perform_33 ?_
  refine lv_isub (pc := 34) hx hb d_Led_perform_34 ?_
  obtain ⟨g3, h⟩ := gx_if h
  obtain ⟨V1, g4, h⟩ := gx_lt h
  refine gx_asi (pc := 35) hx hb hK hP hS (((x0 + 1) + 1) + 1) 0 (cx_lt (to_Acc_balances (to_Mac_accounts (to_Led_machine hk0))) (by decide)) (fun _ => sh_arr cI cR b (n := 16) (to_Acc_balances (to_Mac_accounts (to_Led_machine hk0))) _) rfl g3 d_Led_perform_35 g4 (fun H locs hP hS => ?_)
  refine lv_aload (pc := 36) hx hb d_Led_perform_36 (lv_at hl 1 rfl) ?_
  refine va_get (pc := 38) (D := (dC, dI)) (ci := 0) (C := R_Acc) (T := T_Acc) (N := 6) hx hb hts in_Acc hown hK hP ((x0 + 1) + 1) (gx_at (cx_lt (to_Mac_accounts (to_Led_machine hk0)) (by decide)) (sh_Acc cI cR b (to_Mac_accounts (to_Led_machine hk0)) _)) rfl 1 (by decide) (hts _ tb_78) (fun _ h9 => h9) rfl d_Led_perform_38 ?_
  refine lv_iload_n (pc := 41) hx hb d_Led_perform_41 rfl (lv_at hl 3 rfl) ?_
  refine lv_dup2_11 (pc := 42) hx hb d_Led_perform_42 rfl rfl ?_
  obtain ⟨g5, h⟩ := gx_if h
  refine va_iald (pc := 43) hx hb hK hP (((x0 + 1) + 1) + 2) 0 (gx_at (cx_lt (to_Acc_nonces (to_Mac_accounts (to_Led_machine hk0))) (by decide)) (sh_arr cI cR b (n := 16) (to_Acc_nonces (to_Mac_accounts (to_Led_machine hk0))) _)) rfl g5 d_Led_perform_43 ?_
  refine lv_iconst (pc := 44) (v := (1 : Int32)) hx hb d_Led_perform_44 (by decide) ?_
  refine lv_iadd (pc := 45) hx hb d_Led_perform_45 ?_
  obtain ⟨g6, h⟩ := gx_if h
  obtain ⟨V2, g7, h⟩ := gx_lt h
  refine gx_asi (pc := 46) hx hb hK hP hS (((x0 + 1) + 1) + 2) 0 (cx_lt (to_Acc_nonces (to_Mac_accounts (to_Led_machine hk0))) (by decide)) (fun _ => sh_arr cI cR b (n := 16) (to_Acc_nonces (to_Mac_accounts (to_Led_machine hk0))) _) rfl g6 d_Led_perform_46 g7 (fun H locs hP hS => ?_)
  refine lv_aload_n (pc := 47) hx hb d_Led_perform_47 rfl (lv_at hl 2 rfl) ?_
  refine va_get (pc := 48) (D := (dC, dI)) (ci := 5) (C := R_Led) (T := T_Led) (N := 14) hx hb hts in_Led hown hK hP x0 (gx_at (cx_lt hk0 (by decide)) (sh_Led cI cR b hk0 _)) rfl 0 (by decide) (hts _ tb_248) (fun _ h9 => h9) rfl d_Led_perform_48 ?_
  refine lv_iload_n (pc := 51) hx hb d_Led_perform_51 rfl (lv_at hl 3 rfl) ?_
  refine lv_iload_n (pc := 52) hx hb d_Led_perform_52 rfl (lv_at hl 4 rfl) ?_
  refine lv_iload_n (pc := 53) hx hb d_Led_perform_53 rfl (lv_at hl 5 rfl) ?_
  refine lv_iload (pc := 54) hx hb d_Led_perform_54 (lv_at hl 6 rfl) ?_
  refine lv_iload (pc := 56) hx hb d_Led_perform_56 (lv_at hl 7 rfl) ?_
  refine lv_bipush (pc := 58) (v := (20 : Int32)) hx hb d_Led_perform_58 (by decide) ?_
  refine lv_isub (pc := 60) hx hb d_Led_perform_60 ?_
  obtain ⟨q2, g8, h⟩ := gx_bd h
  refine gx_cr (pc := 61) (va_runV (C := "GasLedger$Machine") (As := [.int x1, .int x2, .int x3, .int x4, .int (x5 - (20 : Int32))]) (rest := []) ⟨hx, hb, hml, hown, hts⟩ (k_Mac_run l dC dI cI cR cZ b tP tN (to_Led_machine hk0) g8) (gx_cw 5 hts cd_Mac_run tb_45 tb_341 tb_342 tb_343 rfl rfl ⟨by decide, by decide, by decide +kernel⟩ ⟨Nat.le_of_ble_eq_true rfl, Nat.le_of_ble_eq_true rfl⟩) (gy_preV (cx_XX b tP tN) hX hK hP hS (cx_lt (to_Led_machine hk0) (by decide)) (sh_Mac cI cR b (to_Led_machine hk0) _) rfl) rfl rfl hl.1 rfl (lv_room (Nat.le_of_ble_eq_true rfl)) d_Led_perform_61 ⟨Nat.zero_le _, Nat.zero_le _⟩) hS (fun H locs hP hS => ?_)
  obtain ⟨g9, h⟩ := gx_if h
  refine lv_astore (pc := 64) (lv' := [(9, .ref (b + q2.1)), (8, .int (V ((x0 + 1) + 8) 2)), (7, .ref (b + ((x0 + 1) + 1))), (0, .ref (b + x0)), (1, .int x1), (2, .int x2), (3, .int x3), (4, .int x4), (5, .int x5), (6, .int x6)]) hx hb d_Led_perform_64 hl (by decide) rfl (fun ls hl => ?_)
  refine lv_iload (pc := 66) hx hb d_Led_perform_66 (lv_at hl 8 rfl) ?_
  refine lv_aload (pc := 68) hx hb d_Led_perform_68 (lv_at hl 0 rfl) ?_
  refine va_get (pc := 70) (D := (dC, dI)) (ci := 1) (C := R_Frm) (T := T_Frm) (N := 17) hx hb hts in_Frm hown hK hP q2.1 (gx_at (cx_lt g9 (by decide)) (sh_Frm cI cR b g9 _)) rfl 6 (by decide) (hts _ tb_148) (fun _ h9 => h9) rfl d_Led_perform_70 ?_
  refine lv_isub (pc := 73) hx hb d_Led_perform_73 ?_
  refine lv_istore (pc := 74) (lv' := [(10, .int (x5 - (q2.2 q2.1 6))), (9, .ref (b + q2.1)), (8, .int (V ((x0 + 1) + 8) 2)), (7, .ref (b + ((x0 + 1) + 1))), (0, .ref (b + x0)), (1, .int x1), (2, .int x2), (3, .int x3), (4, .int x4), (5, .int x5), (6, .int x6)]) hx hb d_Led_perform_74 hl (by decide) rfl (fun ls hl => ?_)
  refine lv_iload (pc := 76) hx hb d_Led_perform_76 (lv_at hl 0 rfl) ?_
  refine lv_iload (pc := 78) hx hb d_Led_perform_78 (lv_at hl 0 rfl) ?_
  refine lv_iconst (pc := 80) (v := (2 : Int32)) hx hb d_Led_perform_80 (by decide) ?_
  refine lv_idiv (pc := 81) hx hb d_Led_perform_81 (by decide) ?_
  refine lv_aload_n (pc := 82) hx hb d_Led_perform_82 rfl (lv_at hl 4 rfl) ?_
  refine va_get (pc := 83) (D := (dC, dI)) (ci := 5) (C := R_Led) (T := T_Led) (N := 14) hx hb hts in_Led hown hK hP x0 (gx_at (cx_lt hk0 (by decide)) (sh_Led cI cR b hk0 _)) rfl 0 (by decide) (hts _ tb_248) (fun _ h9 => h9) rfl d_Led_perform_83 ?_
  refine va_get (pc := 86) (D := (dC, dI)) (ci := 3) (C := R_Mac) (T := T_Mac) (N := 6) hx hb hts in_Mac hown hK hP (x0 + 1) (gx_at (cx_lt (to_Led_machine hk0) (by decide)) (sh_Mac cI cR b (to_Led_machine hk0) _)) rfl 4 (by decide) (hts _ tb_208) (fun _ h9 => h9) rfl d_Led_perform_86 ?_
  refine va_mmin (pc := 89) hx hb (hml.trans hl.1.symm) hown (hts _ tb_501) (hts _ tb_384) (hts _ tb_52) (hts _ tm_min) (Nat.le_of_ble_eq_true rfl) (Nat.le_of_ble_eq_true rfl) (Nat.zero_le _) (Nat.zero_le _) d_Led_perform_89 ?_
  refine lv_isub (pc := 92) hx hb d_Led_perform_92 ?_
  refine lv_istore (pc := 93) (lv' := [(11, .int ((x5 - (q2.2 q2.1 6)) - (if (q2.2 (x0 + 1) 4) < ((x5 - (q2.2 q2.1 6)) / (2 : Int32)) then (q2.2 (x0 + 1) 4) else ((x5 - (q2.2 q2.1 6)) / (2 : Int32))))), (10, .int (x5 - (q2.2 q2.1 6))), (9, .ref (b + q2.1)), (8, .int (V ((x0 + 1) + 8) 2)), (7, .ref (b + ((x0 + 1) + 1))), (0, .ref (b + x0)), (1, .int x1), (2, .int x2), (3, .int x3), (4, .int x4), (5, .int x5), (6, .int x6)]) hx hb d_Led_perform_93 hl (by decide) rfl (fun ls hl => ?_)
  refine lv_aload (pc := 95) hx hb d_Led_perform_95 (lv_at hl 4 rfl) ?_
  refine va_get (pc := 97) (D := (dC, dI)) (ci := 0) (C := R_Acc) (T := T_Acc) (N := 6) hx hb hts in_Acc hown hK hP ((x0 + 1) + 1) (gx_at (cx_lt (to_Mac_accounts (to_Led_machine hk0)) (by decide)) (sh_Acc cI cR b (to_Mac_accounts (to_Led_machine hk0)) _)) rfl 0 (by decide) (hts _ tb_75) (fun _ h9 => h9) rfl d_Led_perform_97 ?_
  refine lv_iload_n (pc := 100) hx hb d_Led_perform_100 rfl (lv_at hl 6 rfl) ?_
  refine lv_dup2_11 (pc := 101) hx hb d_Led_perform_101 rfl rfl ?_
  obtain ⟨g10, h⟩ := gx_if h
  refine va_iald (pc := 102) hx hb hK hP (((x0 + 1) + 1) + 1) 0 (gx_at (cx_lt (to_Acc_balances (to_Mac_accounts (to_Led_machine hk0))) (by decide)) (sh_arr cI cR b (n := 16) (to_Acc_balances (to_Mac_accounts (to_Led_machine hk0))) _)) rfl g10 d_Led_perform_102 ?_
  refine lv_iload (pc := 103) hx hb d_Led_perform_103 (lv_at hl 10 rfl) ?_
  refine lv_iload (pc := 105) hx hb d_Led_perform_105 (lv_at hl 0 rfl) ?_
  refine lv_isub (pc := 107) hx hb d_Led_perform_107 ?_
  refine lv_iload (pc := 108) hx hb d_Led_perform_108 (lv_at hl 11 rfl) ?_
  refine lv_imul (pc := 110) hx hb d_Led_perform_110 ?_
  refine lv_iadd (pc := 111) hx hb d_Led_perform_111 ?_
  obtain ⟨g11, h⟩ := gx_if h
  obtain ⟨V3, g12, h⟩ := gx_lt h
  refine gx_asi (pc := 112) hx hb hK hP hS (((x0 + 1) + 1) + 1) 0 (cx_lt (to_Acc_balances (to_Mac_accounts (to_Led_machine hk0))) (by decide)) (fun _ => sh_arr cI cR b (n := 16) (to_Acc_balances (to_Mac_accounts (to_Led_machine hk0))) _) rfl g11 d_Led_perform_112 g12 (fun H locs hP hS => ?_)
  refine lv_aload (pc := 113) hx hb d_Led_perform_113 (lv_at hl 4 rfl) ?_
  refine va_get (pc := 115) (D := (dC, dI)) (ci := 0) (C := R_Acc) (T := T_Acc) (N := 6) hx hb hts in_Acc hown hK hP ((x0 + 1) + 1) (gx_at (cx_lt (to_Mac_accounts (to_Led_machine hk0)) (by decide)) (sh_Acc cI cR b (to_Mac_accounts (to_Led_machine hk0)) _)) rfl 0 (by decide) (hts _ tb_75) (fun _ h9 => h9) rfl d_Led_perform_115 ?_
  refine lv_aload_n (pc := 118) hx hb d_Led_perform_118 rfl (lv_at hl 5 rfl) ?_
  refine va_get (pc := 119) (D := (dC, dI)) (ci := 5) (C := R_Led) (T := T_Led) (N := 14) hx hb hts in_Led hown hK hP x0 (gx_at (cx_lt hk0 (by decide)) (sh_Led cI cR b hk0 _)) rfl 8 (by decide) (hts _ tb_256) (fun _ h9 => h9) rfl d_Led_perform_119 ?_
  refine lv_dup2_11 (pc := 122) hx hb d_Led_perform_122 rfl rfl ?_
  obtain ⟨g13, h⟩ := gx_if h
  refine va_iald (pc := 123) hx hb hK hP (((x0 + 1) + 1) + 1) 0 (gx_at (cx_lt (to_Acc_balances (to_Mac_accounts (to_Led_machine hk0))) (by decide)) (sh_arr cI cR b (n := 16) (to_Acc_balances (to_Mac_accounts (to_Led_machine hk0))) _)) rfl g13 d_Led_perform_123 ?_
  refine lv_iload (pc := 124) hx hb d_Led_perform_124 (lv_at hl 0 rfl) ?_
  refine lv_iload (pc := 126) hx hb d_Led_perform_126 (lv_at hl 11 rfl) ?_
  refine lv_imul (pc := 128) hx hb d_Led_perform_128 ?_
  refine lv_iadd (pc := 129) hx hb d_Led_perform_129 ?_
  obtain ⟨g14, h⟩ := gx_if h
  obtain ⟨V4, g15, h⟩ := gx_lt h
  refine gx_asi (pc := 130) hx hb hK hP hS (((x0 + 1) + 1) + 1) 0 (cx_lt (to_Acc_balances (to_Mac_accounts (to_Led_machine hk0))) (by decide)) (fun _ => sh_arr cI cR b (n := 16) (to_Acc_balances (to_Mac_accounts (to_Led_machine hk0))) _) rfl g14 d_Led_perform_130 g15 (fun H locs hP hS => ?_)
  refine lv_aload_n (pc := 131) hx hb d_Led_perform_131 rfl (lv_at hl 5 rfl) ?_
  refine va_get (pc := 132) (D := (dC, dI)) (ci := 5) (C := R_Led) (T := T_Led) (N := 14) hx hb hts in_Led hown hK hP x0 (gx_at (cx_lt hk0 (by decide)) (sh_Led cI cR b hk0 _)) rfl 0 (by decide) (hts _ tb_248) (fun _ h9 => h9) rfl d_Led_perform_132 ?_
  obtain ⟨q3, g16, h⟩ := gx_bd h
  refine gx_cv (pc := 135) (va_runV (C := "GasLedger$Machine") (As := []) (rest := []) ⟨hx, hb, hml, hown, hts⟩ (k_Mac_removeGoers l dC dI cI cR cZ b tP tN (to_Led_machine hk0) g16) (gx_cw 0 hts cd_Mac_removeGoers tb_45 tb_502 tb_503 tb_504 rfl rfl ⟨by decide, by decide, by decide +kernel⟩ ⟨Nat.le_of_ble_eq_true rfl, Nat.le_of_ble_eq_true rfl⟩) (gy_preV (cx_XX b tP tN) hX hK hP hS (cx_lt (to_Led_machine hk0) (by decide)) (sh_Mac cI cR b (to_Led_machine hk0) _) rfl) rfl rfl hl.1 rfl (lv_room (Nat.le_of_ble_eq_true rfl)) d_Led_perform_135 ⟨Nat.zero_le _, Nat.zero_le _⟩) hS (fun H locs hP hS => ?_)
  refine lv_aload_n (pc := 138) hx hb d_Led_perform_138 rfl (lv_at hl 5 rfl) ?_
  refine lv_dup (pc := 139) hx hb d_Led_perform_139 rfl ?_
  refine va_get (pc := 140) (D := (dC, dI)) (ci := 5) (C := R_Led) (T := T_Led) (N := 14) hx hb hts in_Led hown hK hP x0 (gx_at (cx_lt hk0 (by decide)) (sh_Led cI cR b hk0 _)) rfl 9 (by decide) (hts _ tb_257) (fun _ h9 => h9) rfl d_Led_perform_140 ?_
  refine lv_iload (pc := 143) hx hb d_Led_perform_143 (lv_at hl 0 rfl) ?_
  refine lv_iadd (pc := 145) hx hb d_Led_perform_145 ?_
  obtain ⟨V5, g17, h⟩ := gx_lt h
  refine gy_put (pc := 146) (D := (dC, dI)) (ci := 5) (C := R_Led) (T := T_Led) (NF := 14) (ty := .int) hx hb hts in_Led t_Led ty_Led nm_Led hown hK hP hS x0 (cx_lt hk0 (by decide)) (sh_Led cI cR b hk0 _) rfl 9 (by decide) (hts _ tb_257) (fun _ h9 => h9) rfl (by decide +kernel) rfl rfl (Nat.le_of_ble_eq_true rfl) 9 (sh_Led cI cR b hk0 _) d_Led_perform_146 g17 (fun H locs hP hS => ?_)
  refine lv_aload_n (pc := 149) hx hb d_Led_perform_149 rfl (lv_at hl 5 rfl) ?_
  refine va_get (pc := 150) (D := (dC, dI)) (ci := 5) (C := R_Led) (T := T_Led) (N := 14) hx hb hts in_Led hown hK hP x0 (gx_at (cx_lt hk0 (by decide)) (sh_Led cI cR b hk0 _)) rfl 2 (by decide) (hts _ tb_250) (fun _ h9 => h9) rfl d_Led_perform_150 ?_
  refine lv_aload (pc := 153) hx hb d_Led_perform_153 (lv_at hl 2 rfl) ?_
  refine va_get (pc := 155) (D := (dC, dI)) (ci := 1) (C := R_Frm) (T := T_Frm) (N := 17) hx hb hts in_Frm hown hK hP q2.1 (gx_at (cx_lt g9 (by decide)) (sh_Frm cI cR b g9 _)) rfl 10 (by decide) (hts _ tb_156) (fun _ h9 => h9) rfl d_Led_perform_155 ?_
  refine lv_if_eq (pc := 158) (tgt := 165) hx hb d_Led_perform_158 (by decide) (fun g18 => ?_) (fun g18 => ?_)
  · have h := gx_pos g18 h
    refine lv_iconst (pc := 165) (v := (0 : Int32)) hx hb d_Led_perform_165 (by decide) ?_
    exact B_166   _ _ _ _ _ _ hk0 g9 (to_Led_receipts hk0) _ _ _ _ (lv_sub hl [5, 3, 2, 0] rfl) hP hS h
  · have h := gx_neg g18 h
    refine lv_iconst (pc := 161) (v := (1 : Int32)) hx hb d_Led_perform_161 (by decide) ?_
    refine lv_goto (pc := 162) (tgt := 166) hx hb d_Led_perform_162 (by decide) ?_
    exact B_166   _ _ _ _ _ _ hk0 g9 (to_Led_receipts hk0) _ _ _ _ (lv_sub hl [5, 3, 2, 0] rfl) hP hS h
abbrev rm_Led_send : Room := { frames := 7, cells := 0, slots := 0, locals := 222 }
def F_Led_send (x0 : Nat) (x1 : Int32) (x2 : Int32) (x3 : Int32) (x4 : Int32) (V : gx_M) : Option (Int32 × gx_M) := ((F_Led_refusalOf x0 x1 x2 x3 (200 : Int32) (1 : Int32) (0 : Int32) V).bind fun q1 => (if 0 ≤ q1.1 then ((F_Led_perform x0 x1 x2 x3 x4 (200 : Int32) (1 : Int32) q1.2).bind fun q2 => some (q2.1, q2.2)) else some (q1.1, q1.2)))
set_option maxRecDepth 100000 in
set_option maxHeartbeats 8000000 in
theorem k_Led_send (l : Launch) (dC : Nat → ClassId) (dI : Nat → Nat → Nat) (cI cR cZ : ClassId) (b tP tN : Nat) {x0 : Nat} {x1 : Int32} {x2 : Int32} {x3 : Int32} {x4 : Int32} {V : gx_M} {q : (Int32 × gx_M)} (hk0 : cx_kd x0 = 5) (h : F_Led_send x0 x1 x2 x3 x4 V = some q) : cx_C l dC dI cI cR cZ b tP tN y_Led_send w_Led_send rm_Led_send [.ref (b + x0), .int x1, .int x2, .int x3, .int x4] V (some (.int q.1)) q.2 := by
  refine gx_start (cc := b_Led_send) (maxL := 6) (ret := rt_Led_send) (by decide) rfl (Nat.le_of_ble_eq_true rfl) ?_
  intro p e s m args below meth c ls hx hb hr hts hown hlk hml hl hP hK hX hS
  have hts : ∀ w ∈ cx_tb, w.before args s = true := fun w hw => hts w (List.mem_cons_of_mem _ hw)
  have hown : s.vm.findClass "GasLedger" = some m.cls := hown
  have hl : lv_has ls 6 [(0, .ref (b + x0)), (1, .int x1), (2, .int x2), (3, .int x3), (4, .int x4)] := hl
  unfold F_Led_send at h
  refine lv_aload_n (pc := 0) hx hb d_Led_send_0 rfl (lv_at hl 0 rfl) ?_
  refine lv_iload_n (pc := 1) hx hb d_Led_send_1 rfl (lv_at hl 1 rfl) ?_
  refine lv_iload_n (pc := 2) hx hb d_Led_send_2 rfl (lv_at hl 2 rfl) ?_
  refine lv_iload_n (pc := 3) hx hb d_Led_send_3 rfl (lv_at hl 3 rfl) ?_
  refine lv_sipush (pc := 4) (v := (200 : Int32)) hx hb d_Led_send_4 (by decide) ?_
  refine lv_iconst (pc := 7) (v := (1 : Int32)) hx hb d_Led_send_7 (by decide) ?_
  refine lv_iconst (pc := 8) (v := (0 : Int32)) hx hb d_Led_send_8 (by decide) ?_
  obtain ⟨q1, g1, h⟩ := gx_bd h
  refine gx_ci (pc := 9) (va_runV (C := "GasLedger") (As := [.int x1, .int x2, .int x3, .int (200 : Int32), .int (1 : Int32), .int (0 : Int32)]) (rest := []) ⟨hx, hb, hml, hown, hts⟩ (k_Led_refusalOf l dC dI cI cR cZ b tP tN hk0 g1) (gx_cw 6 hts cd_Led_refusalOf tb_44 tb_333 tb_335 tb_0 rfl rfl ⟨by decide, by decide, by decide +kernel⟩ ⟨Nat.le_of_ble_eq_true rfl, Nat.le_of_ble_eq_true rfl⟩) (gy_preV (cx_XX b tP tN) hX hK hP hS (cx_lt hk0 (by decide)) (sh_Led cI cR b hk0 _) rfl) rfl rfl hl.1 rfl (lv_room (Nat.le_of_ble_eq_true rfl)) d_Led_send_9 ⟨Nat.zero_le _, Nat.zero_le _⟩) hS (fun H locs hP hS => ?_)
  refine lv_istore (pc := 12) (lv' := [(5, .int q1.1), (0, .ref (b + x0)), (1, .int x1), (2, .int x2), (3, .int x3), (4, .int x4)]) hx hb d_Led_send_12 hl (by decide) rfl (fun ls hl => ?_)
  refine lv_iload (pc := 14) hx hb d_Led_send_14 (lv_at hl 0 rfl) ?_
  refine lv_if_ge (pc := 16) (tgt := 24) hx hb d_Led_send_16 (by decide) (fun g2 => ?_) (fun g2 => ?_)
  · have h := gx_pos g2 h
    refine lv_aload_n (pc := 24) hx hb d_Led_send_24 rfl (lv_at hl 1 rfl) ?_
    refine lv_iload_n (pc := 25) hx hb d_Led_send_25 rfl (lv_at hl 2 rfl) ?_
    refine lv_iload_n (pc := 26) hx hb d_Led_send_26 rfl (lv_at hl 3 rfl) ?_
    refine lv_iload_n (pc := 27) hx hb d_Led_send_27 rfl (lv_at hl 4 rfl) ?_
    refine lv_iload (pc := 28) hx hb d_Led_send_28 (lv_at hl 5 rfl) ?_
    refine lv_sipush (pc := 30) (v := (200 : Int32)) hx hb d_Led_send_30 (by decide) ?_
    refine lv_iconst (pc := 33) (v := (1 : Int32)) hx hb d_Led_send_33 (by decide) ?_
    obtain ⟨q2, g3, h⟩ := gx_bd h
    refine gx_ci (pc := 34) (va_runV (C := "GasLedger") (As := [.int x1, .int x2, .int x3, .int x4, .int (200 : Int32), .int (1 : Int32)]) (rest := []) ⟨hx, hb, hml, hown, hts⟩ (k_Led_perform l dC dI cI cR cZ b tP tN hk0 g3) (gx_cw 6 hts cd_Led_perform tb_44 tb_337 tb_339 tb_1 rfl rfl ⟨by decide, by decide, by decide +kernel⟩ ⟨Nat.le_of_ble_eq_true rfl, Nat.le_of_ble_eq_true rfl⟩) (gy_preV (cx_XX b tP tN) hX hK hP hS (cx_lt hk0 (by decide)) (sh_Led cI cR b hk0 _) rfl) rfl rfl hl.1 rfl (lv_room (Nat.le_of_ble_eq_true rfl)) d_Led_send_34 ⟨Nat.zero_le _, Nat.zero_le _⟩) hS (fun H locs hP hS => ?_)
    exact gx_iret (free := fun _ => True) hx hb hr hlk hP hS d_Led_send_37 (by cases h; rfl) (by cases h; rfl)
  · have h := gx_neg g2 h
    refine lv_iload (pc := 19) hx hb d_Led_send_19 (lv_at hl 0 rfl) ?_
    refine lv_goto (pc := 21) (tgt := 37) hx hb d_Led_send_21 (by decide) ?_
    exact gx_iret (free := fun _ => True) hx hb hr hlk hP hS d_Led_send_37 (by cases h; rfl) (by cases h; rfl)
abbrev rm_Led_terms : Room := { frames := 0, cells := 0, slots := 0, locals := 0 }
def F_Led_terms (x0 : Nat) (x1 : Int32) (x2 : Int32) (x3 : Int32) (V : gx_M) : Option gx_M := (gx_let (gx_u V x0 3 x1) fun V1 => (gx_let (gx_u V1 x0 4 x2) fun V2 => (gx_let (gx_u V2 x0 5 x3) fun V3 => some V3)))
set_option maxRecDepth 100000 in
set_option maxHeartbeats 8000000 in
theorem k_Led_terms (l : Launch) (dC : Nat → ClassId) (dI : Nat → Nat → Nat) (cI cR cZ : ClassId) (b tP tN : Nat) {x0 : Nat} {x1 : Int32} {x2 : Int32} {x3 : Int32} {V : gx_M} {q : gx_M} (hk0 : cx_kd x0 = 5) (h : F_Led_terms x0 x1 x2 x3 V = some q) : cx_C l dC dI cI cR cZ b tP tN y_Led_terms w_Led_terms rm_Led_terms [.ref (b + x0), .int x1, .int x2, .int x3] V none q := by
  refine gx_start (cc := b_Led_terms) (maxL := 4) (ret := rt_Led_terms) (by decide) rfl (Nat.le_of_ble_eq_true rfl) ?_
  intro p e s m args below meth c ls hx hb hr hts hown hlk hml hl hP hK hX hS
  have hts : ∀ w ∈ cx_tb, w.before args s = true := fun w hw => hts w (List.mem_cons_of_mem _ hw)
  have hown : s.vm.findClass "GasLedger" = some m.cls := hown
  have hl : lv_has ls 4 [(0, .ref (b + x0)), (1, .int x1), (2, .int x2), (3, .int x3)] := hl
  unfold F_Led_terms at h
  refine lv_aload_n (pc := 0) hx hb d_Led_terms_0 rfl (lv_at hl 0 rfl) ?_
  refine lv_iload_n (pc := 1) hx hb d_Led_terms_1 rfl (lv_at hl 1 rfl) ?_
  obtain ⟨V1, g1, h⟩ := gx_lt h
  refine gy_put (pc := 2) (D := (dC, dI)) (ci := 5) (C := R_Led) (T := T_Led) (NF := 14) (ty := .int) hx hb hts in_Led t_Led ty_Led nm_Led hown hK hP hS x0 (cx_lt hk0 (by decide)) (sh_Led cI cR b hk0 _) rfl 3 (by decide) (hts _ tb_251) (fun _ h9 => h9) rfl (by decide +kernel) rfl rfl (Nat.le_of_ble_eq_true rfl) 3 (sh_Led cI cR b hk0 _) d_Led_terms_2 g1 (fun H locs hP hS => ?_)
  refine lv_aload_n (pc := 5) hx hb d_Led_terms_5 rfl (lv_at hl 0 rfl) ?_
  refine lv_iload_n (pc := 6) hx hb d_Led_terms_6 rfl (lv_at hl 2 rfl) ?_
  obtain ⟨V2, g2, h⟩ := gx_lt h
  refine gy_put (pc := 7) (D := (dC, dI)) (ci := 5) (C := R_Led) (T := T_Led) (NF := 14) (ty := .int) hx hb hts in_Led t_Led ty_Led nm_Led hown hK hP hS x0 (cx_lt hk0 (by decide)) (sh_Led cI cR b hk0 _) rfl 4 (by decide) (hts _ tb_252) (fun _ h9 => h9) rfl (by decide +kernel) rfl rfl (Nat.le_of_ble_eq_true rfl) 4 (sh_Led cI cR b hk0 _) d_Led_terms_7 g2 (fun H locs hP hS => ?_)
  refine lv_aload_n (pc := 10) hx hb d_Led_terms_10 rfl (lv_at hl 0 rfl) ?_
  refine lv_iload_n (pc := 11) hx hb d_Led_terms_11 rfl (lv_at hl 3 rfl) ?_
  obtain ⟨V3, g3, h⟩ := gx_lt h
  refine gy_put (pc := 12) (D := (dC, dI)) (ci := 5) (C := R_Led) (T := T_Led) (NF := 14) (ty := .int) hx hb hts in_Led t_Led ty_Led nm_Led hown hK hP hS x0 (cx_lt hk0 (by decide)) (sh_Led cI cR b hk0 _) rfl 5 (by decide) (hts _ tb_253) (fun _ h9 => h9) rfl (by decide +kernel) rfl rfl (Nat.le_of_ble_eq_true rfl) 5 (sh_Led cI cR b hk0 _) d_Led_terms_12 g3 (fun H locs hP hS => ?_)
  exact gx_vret hx hb hr hlk hP hS d_Led_terms_15 (by cases h; rfl) (by cases h; rfl)
abbrev rm_Led_pay : Room := { frames := 7, cells := 0, slots := 0, locals := 222 }
def F_Led_pay (x0 : Nat) (x1 : Int32) (x2 : Int32) (x3 : Int32) (x4 : Int32) (V : gx_M) : Option (Int32 × gx_M) := ((F_Led_refusalOf x0 x1 x2 x3 (V x0 3) (V x0 4) (V x0 5) V).bind fun q1 => ((F_Led_terms x0 (200 : Int32) (1 : Int32) (0 : Int32) q1.2).bind fun q2 => (if 0 ≤ q1.1 then ((F_Led_perform x0 x1 x2 x3 x4 (V x0 3) (V x0 4) q2).bind fun q3 => some (q3.1, q3.2)) else some (q1.1, q2))))
set_option maxRecDepth 100000 in
set_option maxHeartbeats 8000000 in
theorem k_Led_pay (l : Launch) (dC : Nat → ClassId) (dI : Nat → Nat → Nat) (cI cR cZ : ClassId) (b tP tN : Nat) {x0 : Nat} {x1 : Int32} {x2 : Int32} {x3 : Int32} {x4 : Int32} {V : gx_M} {q : (Int32 × gx_M)} (hk0 : cx_kd x0 = 5) (h : F_Led_pay x0 x1 x2 x3 x4 V = some q) : cx_C l dC dI cI cR cZ b tP tN y_Led_pay w_Led_pay rm_Led_pay [.ref (b + x0), .int x1, .int x2, .int x3, .int x4] V (some (.int q.1)) q.2 := by
  refine gx_start (cc := b_Led_pay) (maxL := 8) (ret := rt_Led_pay) (by decide) rfl (Nat.le_of_ble_eq_true rfl) ?_
  intro p e s m args below meth c ls hx hb hr hts hown hlk hml hl hP hK hX hS
  have hts : ∀ w ∈ cx_tb, w.before args s = true := fun w hw => hts w (List.mem_cons_of_mem _ hw)
  have hown : s.vm.findClass "GasLedger" = some m.cls := hown
  have hl : lv_has ls 8 [(0, .ref (b + x0)), (1, .int x1), (2, .int x2), (3, .int x3), (4, .int x4)] := hl
  unfold F_Led_pay at h
  refine lv_aload_n (pc := 0) hx hb d_Led_pay_0 rfl (lv_at hl 0 rfl) ?_
  refine va_get (pc := 1) (D := (dC, dI)) (ci := 5) (C := R_Led) (T := T_Led) (N := 14) hx hb hts in_Led hown hK hP x0 (gx_at (cx_lt hk0 (by decide)) (sh_Led cI cR b hk0 _)) rfl 3 (by decide) (hts _ tb_251) (fun _ h9 => h9) rfl d_Led_pay_1 ?_
  refine lv_istore (pc := 4) (lv' := [(5, .int (V x0 3)), (0, .ref (b + x0)), (1, .int x1), (2, .int x2), (3, .int x3), (4, .int x4)]) hx hb d_Led_pay_4 hl (by decide) rfl (fun ls hl => ?_)
  refine lv_aload_n (pc := 6) hx hb d_Led_pay_6 rfl (lv_at hl 1 rfl) ?_
  refine va_get (pc := 7) (D := (dC, dI)) (ci := 5) (C := R_Led) (T := T_Led) (N := 14) hx hb hts in_Led hown hK hP x0 (gx_at (cx_lt hk0 (by decide)) (sh_Led cI cR b hk0 _)) rfl 4 (by decide) (hts _ tb_252) (fun _ h9 => h9) rfl d_Led_pay_7 ?_
  refine lv_istore (pc := 10) (lv' := [(6, .int (V x0 4)), (5, .int (V x0 3)), (0, .ref (b + x0)), (1, .int x1), (2, .int x2), (3, .int x3), (4, .int x4)]) hx hb d_Led_pay_10 hl (by decide) rfl (fun ls hl => ?_)
  refine lv_aload_n (pc := 12) hx hb d_Led_pay_12 rfl (lv_at hl 2 rfl) ?_
  refine lv_iload_n (pc := 13) hx hb d_Led_pay_13 rfl (lv_at hl 3 rfl) ?_
  refine lv_iload_n (pc := 14) hx hb d_Led_pay_14 rfl (lv_at hl 4 rfl) ?_
  refine lv_iload_n (pc := 15) hx hb d_Led_pay_15 rfl (lv_at hl 5 rfl) ?_
  refine lv_iload (pc := 16) hx hb d_Led_pay_16 (lv_at hl 1 rfl) ?_
  refine lv_iload (pc := 18) hx hb d_Led_pay_18 (lv_at hl 0 rfl) ?_
  refine lv_aload_n (pc := 20) hx hb d_Led_pay_20 rfl (lv_at hl 2 rfl) ?_
  refine va_get (pc := 21) (D := (dC, dI)) (ci := 5) (C := R_Led) (T := T_Led) (N := 14) hx hb hts in_Led hown hK hP x0 (gx_at (cx_lt hk0 (by decide)) (sh_Led cI cR b hk0 _)) rfl 5 (by decide) (hts _ tb_253) (fun _ h9 => h9) rfl d_Led_pay_21 ?_
  obtain ⟨q1, g1, h⟩ := gx_bd h
  refine gx_ci (pc := 24) (va_runV (C := "GasLedger") (As := [.int x1, .int x2, .int x3, .int (V x0 3), .int (V x0 4), .int (V x0 5)]) (rest := []) ⟨hx, hb, hml, hown, hts⟩ (k_Led_refusalOf l dC dI cI cR cZ b tP tN hk0 g1) (gx_cw 6 hts cd_Led_refusalOf tb_44 tb_333 tb_335 tb_0 rfl rfl ⟨by decide, by decide, by decide +kernel⟩ ⟨Nat.le_of_ble_eq_true rfl, Nat.le_of_ble_eq_true rfl⟩) (gy_preV (cx_XX b tP tN) hX hK hP hS (cx_lt hk0 (by decide)) (sh_Led cI cR b hk0 _) rfl) rfl rfl hl.1 rfl (lv_room (Nat.le_of_ble_eq_true rfl)) d_Led_pay_24 ⟨Nat.zero_le _, Nat.zero_le _⟩) hS (fun H locs hP hS => ?_)
  refine lv_istore (pc := 27) (lv' := [(7, .int q1.1), (6, .int (V x0 4)), (5, .int (V x0 3)), (0, .ref (b + x0)), (1, .int x1), (2, .int x2), (3, .int x3), (4, .int x4)]) hx hb d_Led_pay_27 hl (by decide) rfl (fun ls hl => ?_)
  refine lv_aload_n (pc := 29) hx hb d_Led_pay_29 rfl (lv_at hl 3 rfl) ?_
  refine lv_sipush (pc := 30) (v := (200 : Int32)) hx hb d_Led_pay_30 (by decide) ?_
  refine lv_iconst (pc := 33) (v := (1 : Int32)) hx hb d_Led_pay_33 (by decide) ?_
  refine lv_iconst (pc := 34) (v := (0 : Int32)) hx hb d_Led_pay_34 (by decide) ?_
  obtain ⟨q2, g2, h⟩ := gx_bd h
  refine gx_cv (pc := 35) (va_runV (C := "GasLedger") (As := [.int (200 : Int32), .int (1 : Int32), .int (0 : Int32)]) (rest := []) ⟨hx, hb, hml, hown, hts⟩ (k_Led_terms l dC dI cI cR cZ b tP tN hk0 g2) (gx_cw 3 hts cd_Led_terms tb_44 tb_522 tb_515 tb_516 rfl rfl ⟨by decide, by decide, by decide +kernel⟩ ⟨Nat.le_of_ble_eq_true rfl, Nat.le_of_ble_eq_true rfl⟩) (gy_preV (cx_XX b tP tN) hX hK hP hS (cx_lt hk0 (by decide)) (sh_Led cI cR b hk0 _) rfl) rfl rfl hl.1 rfl (lv_room (Nat.le_of_ble_eq_true rfl)) d_Led_pay_35 ⟨Nat.zero_le _, Nat.zero_le _⟩) hS (fun H locs hP hS => ?_)
  refine lv_iload (pc := 38) hx hb d_Led_pay_38 (lv_at hl 0 rfl) ?_
  refine lv_if_ge (pc := 40) (tgt := 48) hx hb d_Led_pay_40 (by decide) (fun g3 => ?_) (fun g3 => ?_)
  · have h := gx_pos g3 h
    refine lv_aload_n (pc := 48) hx hb d_Led_pay_48 rfl (lv_at hl 3 rfl) ?_
    refine lv_iload_n (pc := 49) hx hb d_Led_pay_49 rfl (lv_at hl 4 rfl) ?_
    refine lv_iload_n (pc := 50) hx hb d_Led_pay_50 rfl (lv_at hl 5 rfl) ?_
    refine lv_iload_n (pc := 51) hx hb d_Led_pay_51 rfl (lv_at hl 6 rfl) ?_
    refine lv_iload (pc := 52) hx hb d_Led_pay_52 (lv_at hl 7 rfl) ?_
    refine lv_iload (pc := 54) hx hb d_Led_pay_54 (lv_at hl 2 rfl) ?_
    refine lv_iload (pc := 56) hx hb d_Led_pay_56 (lv_at hl 1 rfl) ?_
    obtain ⟨q3, g4, h⟩ := gx_bd h
    refine gx_ci (pc := 58) (va_runV (C := "GasLedger") (As := [.int x1, .int x2, .int x3, .int x4, .int (V x0 3), .int (V x0 4)]) (rest := []) ⟨hx, hb, hml, hown, hts⟩ (k_Led_perform l dC dI cI cR cZ b tP tN hk0 g4) (gx_cw 6 hts cd_Led_perform tb_44 tb_337 tb_339 tb_1 rfl rfl ⟨by decide, by decide, by decide +kernel⟩ ⟨Nat.le_of_ble_eq_true rfl, Nat.le_of_ble_eq_true rfl⟩) (gy_preV (cx_XX b tP tN) hX hK hP hS (cx_lt hk0 (by decide)) (sh_Led cI cR b hk0 _) rfl) rfl rfl hl.1 rfl (lv_room (Nat.le_of_ble_eq_true rfl)) d_Led_pay_58 ⟨Nat.zero_le _, Nat.zero_le _⟩) hS (fun H locs hP hS => ?_)
    exact gx_iret (free := fun _ => True) hx hb hr hlk hP hS d_Led_pay_61 (by cases h; rfl) (by cases h; rfl)
  · have h := gx_neg g3 h
    refine lv_iload (pc := 43) hx hb d_Led_pay_43 (lv_at hl 0 rfl) ?_
    refine lv_goto (pc := 45) (tgt := 61) hx hb d_Led_pay_45 (by decide) ?_
    exact gx_iret (free := fun _ => True) hx hb hr hlk hP hS d_Led_pay_61 (by cases h; rfl) (by cases h; rfl)
