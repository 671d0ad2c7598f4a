abbrev rm_Led_block : Room := { frames := 0, cells := 0, slots := 0, locals := 0 }
def F_Led_block (x0 : Nat) (x1 : Int32) (V : gx_M) : Option (Int32 × gx_M) := (if x1 = (0 : Int32) then some ((V x0 11), V) else (if x1 = (1 : Int32) then some ((V x0 12), V) else (if x1 = (2 : Int32) then some ((V x0 13), V) else (if x1 = (3 : Int32) then (if (V x0 6) = 0 then some ((0 : Int32), V) else some ((1 : Int32), V)) else (if x1 = (4 : Int32) then some ((V x0 9), V) else (if x1 = (5 : Int32) then some ((V ((x0 + 1) + 8) 3), V) else (if x1 = (6 : Int32) then some ((V (x0 + 92) 4), V) else (if x1 = (7 : Int32) then some ((V ((x0 + 1) + 8) 2), V) else some ((-1 : Int32), V)))))))))
set_option maxRecDepth 100000 in
set_option maxHeartbeats 8000000 in
theorem k_Led_block (l : Launch) (dC : Nat → ClassId) (dI : Nat → Nat → Nat) (cI cR cZ : ClassId) (b tP tN : Nat) {x0 : Nat} {x1 : Int32} {V : gx_M} {q : (Int32 × gx_M)} (hk0 : cx_kd x0 = 5) (h : F_Led_block x0 x1 V = some q) : cx_C l dC dI cI cR cZ b tP tN y_Led_block w_Led_block rm_Led_block [.ref (b + x0), .int x1] V (some (.int q.1)) q.2 := by
  refine gx_start (cc := b_Led_block) (maxL := 2) (ret := rt_Led_block) (by decide) rfl (Nat.le_of_ble_eq_true rfl) ?_
  intro p e s m args below meth c ls hx hb hr hts hown hlk hml hl hP hK hX hS
  have hts : ∀ w ∈ cx_tb, w.before args s = true := fun w hw => hts w (List.mem_cons_of_mem _ hw)
  have hown : s.vm.findClass "GasLedger" = some m.cls := hown
  have hl : lv_has ls 2 [(0, .ref (b + x0)), (1, .int x1)] := hl
  unfold F_Led_block at h
  refine lv_iload_n (pc := 0) hx hb d_Led_block_0 rfl (lv_at hl 1 rfl) ?_
  by_cases g1 : x1 = (0 : Int32)
  · have h := gx_pos g1 h
    refine lv_tableIn (pc := 1) (off := 47) (tgt := 48) hx hb d_Led_block_1 (by rw [g1]; decide) (by rw [g1]; decide) (by rw [g1]; rfl) (by decide) ?_
    refine lv_aload_n (pc := 48) hx hb d_Led_block_48 rfl (lv_at hl 0 rfl) ?_
    refine va_get (pc := 49) (D := (dC, dI)) (ci := 5) (C := R_Led) (T := T_Led) (N := 14) hx hb hts in_Led hown hK hP x0 (gx_at (cx_lt hk0 (by decide)) (sh_Led cI cR b hk0 _)) rfl 11 (by decide) (hts _ tb_259) (fun _ h9 => h9) rfl d_Led_block_49 ?_
    exact gx_iret (free := fun _ => True) hx hb hr hlk hP hS d_Led_block_52 (by cases h; rfl) (by cases h; rfl)
  have h := gx_neg g1 h
  by_cases g2 : x1 = (1 : Int32)
  · have h := gx_pos g2 h
    refine lv_tableIn (pc := 1) (off := 52) (tgt := 53) hx hb d_Led_block_1 (by rw [g2]; decide) (by rw [g2]; decide) (by rw [g2]; rfl) (by decide) ?_
    refine lv_aload_n (pc := 53) hx hb d_Led_block_53 rfl (lv_at hl 0 rfl) ?_
    refine va_get (pc := 54) (D := (dC, dI)) (ci := 5) (C := R_Led) (T := T_Led) (N := 14) hx hb hts in_Led hown hK hP x0 (gx_at (cx_lt hk0 (by decide)) (sh_Led cI cR b hk0 _)) rfl 12 (by decide) (hts _ tb_260) (fun _ h9 => h9) rfl d_Led_block_54 ?_
    exact gx_iret (free := fun _ => True) hx hb hr hlk hP hS d_Led_block_57 (by cases h; rfl) (by cases h; rfl)
  have h := gx_neg g2 h
  by_cases g3 : x1 = (2 : Int32)
  · have h := gx_pos g3 h
    refine lv_tableIn (pc := 1) (off := 57) (tgt := 58) hx hb d_Led_block_1 (by rw [g3]; decide) (by rw [g3]; decide) (by rw [g3]; rfl) (by decide) ?_
    refine lv_aload_n (pc := 58) hx hb d_Led_block_58 rfl (lv_at hl 0 rfl) ?_
    refine va_get (pc := 59) (D := (dC, dI)) (ci := 5) (C := R_Led) (T := T_Led) (N := 14) hx hb hts in_Led hown hK hP x0 (gx_at (cx_lt hk0 (by decide)) (sh_Led cI cR b hk0 _)) rfl 13 (by decide) (hts _ tb_261) (fun _ h9 => h9) rfl d_Led_block_59 ?_
    exact gx_iret (free := fun _ => True) hx hb hr hlk hP hS d_Led_block_62 (by cases h; rfl) (by cases h; rfl)
  have h := gx_neg g3 h
  by_cases g4 : x1 = (3 : Int32)
  · have h := gx_pos g4 h
    refine lv_tableIn (pc := 1) (off := 62) (tgt := 63) hx hb d_Led_block_1 (by rw [g4]; decide) (by rw [g4]; decide) (by rw [g4]; rfl) (by decide) ?_
    refine lv_aload_n (pc := 63) hx hb d_Led_block_63 rfl (lv_at hl 0 rfl) ?_
    refine va_get (pc := 64) (D := (dC, dI)) (ci := 5) (C := R_Led) (T := T_Led) (N := 14) hx hb hts in_Led hown hK hP x0 (gx_at (cx_lt hk0 (by decide)) (sh_Led cI cR b hk0 _)) rfl 6 (by decide) (hts _ tb_254) (fun _ h9 => h9) rfl d_Led_block_64 ?_
    refine lv_if_eq (pc := 67) (tgt := 74) hx hb d_Led_block_67 (by decide) (fun g5 => ?_) (fun g5 => ?_)
    · have h := gx_pos g5 h
      refine lv_iconst (pc := 74) (v := (0 : Int32)) hx hb d_Led_block_74 (by decide) ?_
      exact gx_iret (free := fun _ => True) hx hb hr hlk hP hS d_Led_block_75 (by cases h; rfl) (by cases h; rfl)
    · have h := gx_neg g5 h
      refine lv_iconst (pc := 70) (v := (1 : Int32)) hx hb d_Led_block_70 (by decide) ?_
      refine lv_goto (pc := 71) (tgt := 75) hx hb d_Led_block_71 (by decide) ?_
      exact gx_iret (free := fun _ => True) hx hb hr hlk hP hS d_Led_block_75 (by cases h; rfl) (by cases h; rfl)
  have h := gx_neg g4 h
  by_cases g6 : x1 = (4 : Int32)
  · have h := gx_pos g6 h
    refine lv_tableIn (pc := 1) (off := 75) (tgt := 76) hx hb d_Led_block_1 (by rw [g6]; decide) (by rw [g6]; decide) (by rw [g6]; rfl) (by decide) ?_
    refine lv_aload_n (pc := 76) hx hb d_Led_block_76 rfl (lv_at hl 0 rfl) ?_
    refine va_get (pc := 77) (D := (dC, dI)) (ci := 5) (C := R_Led) (T := T_Led) (N := 14) hx hb hts in_Led hown hK hP x0 (gx_at (cx_lt hk0 (by decide)) (sh_Led cI cR b hk0 _)) rfl 9 (by decide) (hts _ tb_257) (fun _ h9 => h9) rfl d_Led_block_77 ?_
    exact gx_iret (free := fun _ => True) hx hb hr hlk hP hS d_Led_block_80 (by cases h; rfl) (by cases h; rfl)
  have h := gx_neg g6 h
  by_cases g7 : x1 = (5 : Int32)
  · have h := gx_pos g7 h
    refine lv_tableIn (pc := 1) (off := 80) (tgt := 81) hx hb d_Led_block_1 (by rw [g7]; decide) (by rw [g7]; decide) (by rw [g7]; rfl) (by decide) ?_
    refine lv_aload_n (pc := 81) hx hb d_Led_block_81 rfl (lv_at hl 0 rfl) ?_
    refine va_get (pc := 82) (D := (dC, dI)) (ci := 5) (C := R_Led) (T := T_Led) (N := 14) hx hb hts in_Led hown hK hP x0 (gx_at (cx_lt hk0 (by decide)) (sh_Led cI cR b hk0 _)) rfl 0 (by decide) (hts _ tb_248) (fun _ h9 => h9) rfl d_Led_block_82 ?_
    refine va_get (pc := 85) (D := (dC, dI)) (ci := 3) (C := R_Mac) (T := T_Mac) (N := 6) hx hb hts in_Mac hown hK hP (x0 + 1) (gx_at (cx_lt (to_Led_machine hk0) (by decide)) (sh_Mac cI cR b (to_Led_machine hk0) _)) rfl 1 (by decide) (hts _ tb_204) (fun _ h9 => h9) rfl d_Led_block_85 ?_
    refine va_get (pc := 88) (D := (dC, dI)) (ci := 2) (C := R_Log) (T := T_Log) (N := 4) hx hb hts in_Log hown hK hP ((x0 + 1) + 8) (gx_at (cx_lt (to_Mac_logs (to_Led_machine hk0)) (by decide)) (sh_Log cI cR b (to_Mac_logs (to_Led_machine hk0)) _)) rfl 3 (by decide) (hts _ tb_115) (fun _ h9 => h9) rfl d_Led_block_88 ?_
    exact gx_iret (free := fun _ => True) hx hb hr hlk hP hS d_Led_block_91 (by cases h; rfl) (by cases h; rfl)
  have h := gx_neg g7 h
  by_cases g8 : x1 = (6 : Int32)
  · have h := gx_pos g8 h
    refine lv_tableIn (pc := 1) (off := 91) (tgt := 92) hx hb d_Led_block_1 (by rw [g8]; decide) (by rw [g8]; decide) (by rw [g8]; rfl) (by decide) ?_
    refine lv_aload_n (pc := 92) hx hb d_Led_block_92 rfl (lv_at hl 0 rfl) ?_
    refine va_get (pc := 93) (D := (dC, dI)) (ci := 5) (C := R_Led) (T := T_Led) (N := 14) hx hb hts in_Led hown hK hP x0 (gx_at (cx_lt hk0 (by decide)) (sh_Led cI cR b hk0 _)) rfl 2 (by decide) (hts _ tb_250) (fun _ h9 => h9) rfl d_Led_block_93 ?_
    refine va_get (pc := 96) (D := (dC, dI)) (ci := 4) (C := R_Rec) (T := T_Rec) (N := 5) hx hb hts in_Rec hown hK hP (x0 + 92) (gx_at (cx_lt (to_Led_receipts hk0) (by decide)) (sh_Rec cI cR b (to_Led_receipts hk0) _)) rfl 4 (by decide) (hts _ tb_236) (fun _ h9 => h9) rfl d_Led_block_96 ?_
    exact gx_iret (free := fun _ => True) hx hb hr hlk hP hS d_Led_block_99 (by cases h; rfl) (by cases h; rfl)
  have h := gx_neg g8 h
  by_cases g9 : x1 = (7 : Int32)
  · have h := gx_pos g9 h
    refine lv_tableIn (pc := 1) (off := 99) (tgt := 100) hx hb d_Led_block_1 (by rw [g9]; decide) (by rw [g9]; decide) (by rw [g9]; rfl) (by decide) ?_
    refine lv_aload_n (pc := 100) hx hb d_Led_block_100 rfl (lv_at hl 0 rfl) ?_
    refine va_get (pc := 101) (D := (dC, dI)) (ci := 5) (C := R_Led) (T := T_Led) (N := 14) hx hb hts in_Led hown hK hP x0 (gx_at (cx_lt hk0 (by decide)) (sh_Led cI cR b hk0 _)) rfl 0 (by decide) (hts _ tb_248) (fun _ h9 => h9) rfl d_Led_block_101 ?_
    refine va_get (pc := 104) (D := (dC, dI)) (ci := 3) (C := R_Mac) (T := T_Mac) (N := 6) hx hb hts in_Mac hown hK hP (x0 + 1) (gx_at (cx_lt (to_Led_machine hk0) (by decide)) (sh_Mac cI cR b (to_Led_machine hk0) _)) rfl 1 (by decide) (hts _ tb_204) (fun _ h9 => h9) rfl d_Led_block_104 ?_
    refine va_get (pc := 107) (D := (dC, dI)) (ci := 2) (C := R_Log) (T := T_Log) (N := 4) hx hb hts in_Log hown hK hP ((x0 + 1) + 8) (gx_at (cx_lt (to_Mac_logs (to_Led_machine hk0)) (by decide)) (sh_Log cI cR b (to_Mac_logs (to_Led_machine hk0)) _)) rfl 2 (by decide) (hts _ tb_112) (fun _ h9 => h9) rfl d_Led_block_107 ?_
    exact gx_iret (free := fun _ => True) hx hb hr hlk hP hS d_Led_block_110 (by cases h; rfl) (by cases h; rfl)
  have h := gx_neg g9 h
  have z9 : x1.toInt < 0 ∨ 7 < x1.toInt := by
    have z_g1 := gx_ne (n := 0) g1 (by decide)
    have z_g2 := gx_ne (n := 1) g2 (by decide)
    have z_g3 := gx_ne (n := 2) g3 (by decide)
    have z_g4 := gx_ne (n := 3) g4 (by decide)
    have z_g6 := gx_ne (n := 4) g6 (by decide)
    have z_g7 := gx_ne (n := 5) g7 (by decide)
    have z_g8 := gx_ne (n := 6) g8 (by decide)
    have z_g9 := gx_ne (n := 7) g9 (by decide)
    omega
  refine lv_tableOut (pc := 1) (tgt := 111) hx hb d_Led_block_1 z9 (by decide) ?_
  refine lv_iconst (pc := 111) (v := (-1 : Int32)) hx hb d_Led_block_111 (by decide) ?_
  exact gx_iret (free := fun _ => True) hx hb hr hlk hP hS d_Led_block_112 (by cases h; rfl) (by cases h; rfl)
abbrev rm_Rec_partOf : Room := { frames := 0, cells := 0, slots := 0, locals := 0 }
def F_Rec_partOf (x0 : Nat) (x1 : Int32) (x2 : Int32) (V : gx_M) : Option (Int32 × gx_M) := (if x1 < 0 then some ((-1 : Int32), V) else (if (V x0 4) ≤ x1 then some ((-1 : Int32), V) else (if x1 < (16 : Int32) then (if x2 = (0 : Int32) then (if gx_ib x1 16 then some ((V (x0 + 1) x1.toNatClampNeg), V) else none) else (if x2 = (1 : Int32) then (if gx_ib x1 16 then some ((V (x0 + 2) x1.toNatClampNeg), V) else none) else (if x2 = (2 : Int32) then (if gx_ib x1 16 then some ((V (x0 + 3) x1.toNatClampNeg), V) else none) else (if x2 = (3 : Int32) then (if gx_ib x1 16 then some ((V (x0 + 4) x1.toNatClampNeg), V) else none) else some ((-1 : Int32), V))))) else some ((-1 : Int32), V))))
set_option maxRecDepth 100000 in
set_option maxHeartbeats 8000000 in
theorem k_Rec_partOf (l : Launch) (dC : Nat → ClassId) (dI : Nat → Nat → Nat) (cI cR cZ : ClassId) (b tP tN : Nat) {x0 : Nat} {x1 : Int32} {x2 : Int32} {V : gx_M} {q : (Int32 × gx_M)} (hk0 : cx_kd x0 = 4) (h : F_Rec_partOf x0 x1 x2 V = some q) : cx_C l dC dI cI cR cZ b tP tN y_Rec_partOf w_Rec_partOf rm_Rec_partOf [.ref (b + x0), .int x1, .int x2] V (some (.int q.1)) q.2 := by
  refine gx_start (cc := b_Rec_partOf) (maxL := 3) (ret := rt_Rec_partOf) (by decide) rfl (Nat.le_of_ble_eq_true rfl) ?_
  intro p e s m args below meth c ls hx hb hr hts hown hlk hml hl hP hK hX hS
  have hts : ∀ w ∈ cx_tb, w.before args s = true := fun w hw => hts w (List.mem_cons_of_mem _ hw)
  have hown : s.vm.findClass "GasLedger$Receipts" = some m.cls := hown
  have hl : lv_has ls 3 [(0, .ref (b + x0)), (1, .int x1), (2, .int x2)] := hl
  unfold F_Rec_partOf at h
  refine lv_iload_n (pc := 0) hx hb d_Rec_partOf_0 rfl (lv_at hl 1 rfl) ?_
  refine lv_if_lt (pc := 1) (tgt := 18) hx hb d_Rec_partOf_1 (by decide) (fun g1 => ?_) (fun g1 => ?_)
  · have h := gx_pos g1 h
    refine lv_iconst (pc := 18) (v := (-1 : Int32)) hx hb d_Rec_partOf_18 (by decide) ?_
    exact gx_iret (free := fun _ => True) hx hb hr hlk hP hS d_Rec_partOf_19 (by cases h; rfl) (by cases h; rfl)
  · have h := gx_neg g1 h
    refine lv_iload_n (pc := 4) hx hb d_Rec_partOf_4 rfl (lv_at hl 1 rfl) ?_
    refine lv_aload_n (pc := 5) hx hb d_Rec_partOf_5 rfl (lv_at hl 0 rfl) ?_
    refine va_get (pc := 6) (D := (dC, dI)) (ci := 4) (C := R_Rec) (T := T_Rec) (N := 5) hx hb hts in_Rec hown hK hP x0 (gx_at (cx_lt hk0 (by decide)) (sh_Rec cI cR b hk0 _)) rfl 4 (by decide) (hts _ tb_235) (fun _ h9 => h9) rfl d_Rec_partOf_6 ?_
    refine lv_icmp_ge (pc := 9) (tgt := 18) hx hb d_Rec_partOf_9 (by decide) (fun g2 => ?_) (fun g2 => ?_)
    · have h := gx_pos g2 h
      refine lv_iconst (pc := 18) (v := (-1 : Int32)) hx hb d_Rec_partOf_18 (by decide) ?_
      exact gx_iret (free := fun _ => True) hx hb hr hlk hP hS d_Rec_partOf_19 (by cases h; rfl) (by cases h; rfl)
    · have h := gx_neg g2 h
      refine lv_iload_n (pc := 12) hx hb d_Rec_partOf_12 rfl (lv_at hl 1 rfl) ?_
      refine lv_bipush (pc := 13) (v := (16 : Int32)) hx hb d_Rec_partOf_13 (by decide) ?_
      refine lv_icmp_lt (pc := 15) (tgt := 20) hx hb d_Rec_partOf_15 (by decide) (fun g3 => ?_) (fun g3 => ?_)
      · have h := gx_pos g3 h
        refine lv_iload_n (pc := 20) hx hb d_Rec_partOf_20 rfl (lv_at hl 2 rfl) ?_
        by_cases g4 : x2 = (0 : Int32)
        · have h := gx_pos g4 h
          refine lv_tableIn (pc := 21) (off := 31) (tgt := 52) hx hb d_Rec_partOf_21 (by rw [g4]; decide) (by rw [g4]; decide) (by rw [g4]; rfl) (by decide) ?_
          refine lv_aload_n (pc := 52) hx hb d_Rec_partOf_52 rfl (lv_at hl 0 rfl) ?_
          refine va_get (pc := 53) (D := (dC, dI)) (ci := 4) (C := R_Rec) (T := T_Rec) (N := 5) hx hb hts in_Rec hown hK hP x0 (gx_at (cx_lt hk0 (by decide)) (sh_Rec cI cR b hk0 _)) rfl 0 (by decide) (hts _ tb_231) (fun _ h9 => h9) rfl d_Rec_partOf_53 ?_
          refine lv_iload_n (pc := 56) hx hb d_Rec_partOf_56 rfl (lv_at hl 1 rfl) ?_
          obtain ⟨g5, h⟩ := gx_if h
          refine va_iald (pc := 57) hx hb hK hP (x0 + 1) 0 (gx_at (cx_lt (to_Rec_statuses hk0) (by decide)) (sh_arr cI cR b (n := 16) (to_Rec_statuses hk0) _)) rfl g5 d_Rec_partOf_57 ?_
          exact gx_iret (free := fun _ => True) hx hb hr hlk hP hS d_Rec_partOf_58 (by cases h; rfl) (by cases h; rfl)
        have h := gx_neg g4 h
        by_cases g6 : x2 = (1 : Int32)
        · have h := gx_pos g6 h
          refine lv_tableIn (pc := 21) (off := 38) (tgt := 59) hx hb d_Rec_partOf_21 (by rw [g6]; decide) (by rw [g6]; decide) (by rw [g6]; rfl) (by decide) ?_
          refine lv_aload_n (pc := 59) hx hb d_Rec_partOf_59 rfl (lv_at hl 0 rfl) ?_
          refine va_get (pc := 60) (D := (dC, dI)) (ci := 4) (C := R_Rec) (T := T_Rec) (N := 5) hx hb hts in_Rec hown hK hP x0 (gx_at (cx_lt hk0 (by decide)) (sh_Rec cI cR b hk0 _)) rfl 1 (by decide) (hts _ tb_232) (fun _ h9 => h9) rfl d_Rec_partOf_60 ?_
          refine lv_iload_n (pc := 63) hx hb d_Rec_partOf_63 rfl (lv_at hl 1 rfl) ?_
          obtain ⟨g7, h⟩ := gx_if h
          refine va_iald (pc := 64) hx hb hK hP (x0 + 2) 0 (gx_at (cx_lt (to_Rec_usedGas hk0) (by decide)) (sh_arr cI cR b (n := 16) (to_Rec_usedGas hk0) _)) rfl g7 d_Rec_partOf_64 ?_
          exact gx_iret (free := fun _ => True) hx hb hr hlk hP hS d_Rec_partOf_65 (by cases h; rfl) (by cases h; rfl)
        have h := gx_neg g6 h
        by_cases g8 : x2 = (2 : Int32)
        · have h := gx_pos g8 h
          refine lv_tableIn (pc := 21) (off := 45) (tgt := 66) hx hb d_Rec_partOf_21 (by rw [g8]; decide) (by rw [g8]; decide) (by rw [g8]; rfl) (by decide) ?_
          refine lv_aload_n (pc := 66) hx hb d_Rec_partOf_66 rfl (lv_at hl 0 rfl) ?_
          refine va_get (pc := 67) (D := (dC, dI)) (ci := 4) (C := R_Rec) (T := T_Rec) (N := 5) hx hb hts in_Rec hown hK hP x0 (gx_at (cx_lt hk0 (by decide)) (sh_Rec cI cR b hk0 _)) rfl 2 (by decide) (hts _ tb_233) (fun _ h9 => h9) rfl d_Rec_partOf_67 ?_
          refine lv_iload_n (pc := 70) hx hb d_Rec_partOf_70 rfl (lv_at hl 1 rfl) ?_
          obtain ⟨g9, h⟩ := gx_if h
          refine va_iald (pc := 71) hx hb hK hP (x0 + 3) 0 (gx_at (cx_lt (to_Rec_outputs hk0) (by decide)) (sh_arr cI cR b (n := 16) (to_Rec_outputs hk0) _)) rfl g9 d_Rec_partOf_71 ?_
          exact gx_iret (free := fun _ => True) hx hb hr hlk hP hS d_Rec_partOf_72 (by cases h; rfl) (by cases h; rfl)
        have h := gx_neg g8 h
        by_cases g10 : x2 = (3 : Int32)
        · have h := gx_pos g10 h
          refine lv_tableIn (pc := 21) (off := 52) (tgt := 73) hx hb d_Rec_partOf_21 (by rw [g10]; decide) (by rw [g10]; decide) (by rw [g10]; rfl) (by decide) ?_
          refine lv_aload_n (pc := 73) hx hb d_Rec_partOf_73 rfl (lv_at hl 0 rfl) ?_
          refine va_get (pc := 74) (D := (dC, dI)) (ci := 4) (C := R_Rec) (T := T_Rec) (N := 5) hx hb hts in_Rec hown hK hP x0 (gx_at (cx_lt hk0 (by decide)) (sh_Rec cI cR b hk0 _)) rfl 3 (by decide) (hts _ tb_234) (fun _ h9 => h9) rfl d_Rec_partOf_74 ?_
          refine lv_iload_n (pc := 77) hx hb d_Rec_partOf_77 rfl (lv_at hl 1 rfl) ?_
          obtain ⟨g11, h⟩ := gx_if h
          refine va_iald (pc := 78) hx hb hK hP (x0 + 4) 0 (gx_at (cx_lt (to_Rec_logCounts hk0) (by decide)) (sh_arr cI cR b (n := 16) (to_Rec_logCounts hk0) _)) rfl g11 d_Rec_partOf_78 ?_
          exact gx_iret (free := fun _ => True) hx hb hr hlk hP hS d_Rec_partOf_79 (by cases h; rfl) (by cases h; rfl)
        have h := gx_neg g10 h
        have z9 : x2.toInt < 0 ∨ 3 < x2.toInt := by
          have z_g4 := gx_ne (n := 0) g4 (by decide)
          have z_g6 := gx_ne (n := 1) g6 (by decide)
          have z_g8 := gx_ne (n := 2) g8 (by decide)
          have z_g10 := gx_ne (n := 3) g10 (by decide)
          omega
        refine lv_tableOut (pc := 21) (tgt := 80) hx hb d_Rec_partOf_21 z9 (by decide) ?_
        refine lv_iconst (pc := 80) (v := (-1 : Int32)) hx hb d_Rec_partOf_80 (by decide) ?_
        exact gx_iret (free := fun _ => True) hx hb hr hlk hP hS d_Rec_partOf_81 (by cases h; rfl) (by cases h; rfl)
      · have h := gx_neg g3 h
        refine lv_iconst (pc := 18) (v := (-1 : Int32)) hx hb d_Rec_partOf_18 (by decide) ?_
        exact gx_iret (free := fun _ => True) hx hb hr hlk hP hS d_Rec_partOf_19 (by cases h; rfl) (by cases h; rfl)
abbrev rm_Led_receipt : Room := { frames := 1, cells := 0, slots := 0, locals := 22 }
def F_Led_receipt (x0 : Nat) (x1 : Int32) (x2 : Int32) (V : gx_M) : Option (Int32 × gx_M) := ((F_Rec_partOf (x0 + 92) x1 x2 V).bind fun q1 => some (q1.1, q1.2))
set_option maxRecDepth 100000 in
set_option maxHeartbeats 8000000 in
theorem k_Led_receipt (l : Launch) (dC : Nat → ClassId) (dI : Nat → Nat → Nat) (cI cR cZ : ClassId) (b tP tN : Nat) {x0 : Nat} {x1 : Int32} {x2 : Int32} {V : gx_M} {q : (Int32 × gx_M)} (hk0 : cx_kd x0 = 5) (h : F_Led_receipt x0 x1 x2 V = some q) : cx_C l dC dI cI cR cZ b tP tN y_Led_receipt w_Led_receipt rm_Led_receipt [.ref (b + x0), .int x1, .int x2] V (some (.int q.1)) q.2 := by
  refine gx_start (cc := b_Led_receipt) (maxL := 3) (ret := rt_Led_receipt) (by decide) rfl (Nat.le_of_ble_eq_true rfl) ?_
  intro p e s m args below meth c ls hx hb hr hts hown hlk hml hl hP hK hX hS
  have hts : ∀ w ∈ cx_tb, w.before args s = true := fun w hw => hts w (List.mem_cons_of_mem _ hw)
  have hown : s.vm.findClass "GasLedger" = some m.cls := hown
  have hl : lv_has ls 3 [(0, .ref (b + x0)), (1, .int x1), (2, .int x2)] := hl
  unfold F_Led_receipt at h
  refine lv_aload_n (pc := 0) hx hb d_Led_receipt_0 rfl (lv_at hl 0 rfl) ?_
  refine va_get (pc := 1) (D := (dC, dI)) (ci := 5) (C := R_Led) (T := T_Led) (N := 14) hx hb hts in_Led hown hK hP x0 (gx_at (cx_lt hk0 (by decide)) (sh_Led cI cR b hk0 _)) rfl 2 (by decide) (hts _ tb_250) (fun _ h9 => h9) rfl d_Led_receipt_1 ?_
  refine lv_iload_n (pc := 4) hx hb d_Led_receipt_4 rfl (lv_at hl 1 rfl) ?_
  refine lv_iload_n (pc := 5) hx hb d_Led_receipt_5 rfl (lv_at hl 2 rfl) ?_
  obtain ⟨q1, g1, h⟩ := gx_bd h
  refine gx_ci (pc := 6) (va_runV (C := "GasLedger$Receipts") (As := [.int x1, .int x2]) (rest := []) ⟨hx, hb, hml, hown, hts⟩ (k_Rec_partOf l dC dI cI cR cZ b tP tN (to_Led_receipts hk0) g1) (gx_cw 2 hts cd_Rec_partOf tb_49 tb_579 tb_580 tb_581 rfl rfl ⟨by decide, by decide, by decide +kernel⟩ ⟨Nat.le_of_ble_eq_true rfl, Nat.le_of_ble_eq_true rfl⟩) (gy_preV (cx_XX b tP tN) hX hK hP hS (cx_lt (to_Led_receipts hk0) (by decide)) (sh_Rec cI cR b (to_Led_receipts hk0) _) rfl) rfl rfl hl.1 rfl (lv_room (Nat.le_of_ble_eq_true rfl)) d_Led_receipt_6 ⟨Nat.zero_le _, Nat.zero_le _⟩) hS (fun H locs hP hS => ?_)
  exact gx_iret (free := fun _ => True) hx hb hr hlk hP hS d_Led_receipt_9 (by cases h; rfl) (by cases h; rfl)
abbrev rm_Log_partOf : Room := { frames := 0, cells := 0, slots := 0, locals := 0 }
def F_Log_partOf (x0 : Nat) (x1 : Int32) (x2 : Int32) (V : gx_M) : Option (Int32 × gx_M) := (if x1 < 0 then some ((-1 : Int32), V) else (if (V x0 2) ≤ x1 then some ((-1 : Int32), V) else (if x1 < (16 : Int32) then (if x2 = (0 : Int32) then (if gx_ib x1 16 then some ((V (x0 + 1) x1.toNatClampNeg), V) else none) else (if x2 = (1 : Int32) then (if gx_ib x1 16 then some ((V (x0 + 2) x1.toNatClampNeg), V) else none) else some ((-1 : Int32), V))) else some ((-1 : Int32), V))))
set_option maxRecDepth 100000 in
set_option maxHeartbeats 8000000 in
theorem k_Log_partOf (l : Launch) (dC : Nat → ClassId) (dI : Nat → Nat → Nat) (cI cR cZ : ClassId) (b tP tN : Nat) {x0 : Nat} {x1 : Int32} {x2 : Int32} {V : gx_M} {q : (Int32 × gx_M)} (hk0 : cx_kd x0 = 2) (h : F_Log_partOf x0 x1 x2 V = some q) : cx_C l dC dI cI cR cZ b tP tN y_Log_partOf w_Log_partOf rm_Log_partOf [.ref (b + x0), .int x1, .int x2] V (some (.int q.1)) q.2 := by
  refine gx_start (cc := b_Log_partOf) (maxL := 3) (ret := rt_Log_partOf) (by decide) rfl (Nat.le_of_ble_eq_true rfl) ?_
  intro p e s m args below meth c ls hx hb hr hts hown hlk hml hl hP hK hX hS
  have hts : ∀ w ∈ cx_tb, w.before args s = true := fun w hw => hts w (List.mem_cons_of_mem _ hw)
  have hown : s.vm.findClass "GasLedger$Logs" = some m.cls := hown
  have hl : lv_has ls 3 [(0, .ref (b + x0)), (1, .int x1), (2, .int x2)] := hl
  unfold F_Log_partOf at h
  refine lv_iload_n (pc := 0) hx hb d_Log_partOf_0 rfl (lv_at hl 1 rfl) ?_
  refine lv_if_lt (pc := 1) (tgt := 18) hx hb d_Log_partOf_1 (by decide) (fun g1 => ?_) (fun g1 => ?_)
  · have h := gx_pos g1 h
    refine lv_iconst (pc := 18) (v := (-1 : Int32)) hx hb d_Log_partOf_18 (by decide) ?_
    exact gx_iret (free := fun _ => True) hx hb hr hlk hP hS d_Log_partOf_19 (by cases h; rfl) (by cases h; rfl)
  · have h := gx_neg g1 h
    refine lv_iload_n (pc := 4) hx hb d_Log_partOf_4 rfl (lv_at hl 1 rfl) ?_
    refine lv_aload_n (pc := 5) hx hb d_Log_partOf_5 rfl (lv_at hl 0 rfl) ?_
    refine va_get (pc := 6) (D := (dC, dI)) (ci := 2) (C := R_Log) (T := T_Log) (N := 4) hx hb hts in_Log hown hK hP x0 (gx_at (cx_lt hk0 (by decide)) (sh_Log cI cR b hk0 _)) rfl 2 (by decide) (hts _ tb_110) (fun _ h9 => h9) rfl d_Log_partOf_6 ?_
    refine lv_icmp_ge (pc := 9) (tgt := 18) hx hb d_Log_partOf_9 (by decide) (fun g2 => ?_) (fun g2 => ?_)
    · have h := gx_pos g2 h
      refine lv_iconst (pc := 18) (v := (-1 : Int32)) hx hb d_Log_partOf_18 (by decide) ?_
      exact gx_iret (free := fun _ => True) hx hb hr hlk hP hS d_Log_partOf_19 (by cases h; rfl) (by cases h; rfl)
    · have h := gx_neg g2 h
      refine lv_iload_n (pc := 12) hx hb d_Log_partOf_12 rfl (lv_at hl 1 rfl) ?_
      refine lv_bipush (pc := 13) (v := (16 : Int32)) hx hb d_Log_partOf_13 (by decide) ?_
      refine lv_icmp_lt (pc := 15) (tgt := 20) hx hb d_Log_partOf_15 (by decide) (fun g3 => ?_) (fun g3 => ?_)
      · have h := gx_pos g3 h
        refine lv_iload_n (pc := 20) hx hb d_Log_partOf_20 rfl (lv_at hl 2 rfl) ?_
        by_cases g4 : x2 = (0 : Int32)
        · have h := gx_pos g4 h
          refine lv_lookup (pc := 21) (off := 27) (tgt := 48) hx hb d_Log_partOf_21 (by decide) (by rw [g4]; decide) (by decide) ?_
          refine lv_aload_n (pc := 48) hx hb d_Log_partOf_48 rfl (lv_at hl 0 rfl) ?_
          refine va_get (pc := 49) (D := (dC, dI)) (ci := 2) (C := R_Log) (T := T_Log) (N := 4) hx hb hts in_Log hown hK hP x0 (gx_at (cx_lt hk0 (by decide)) (sh_Log cI cR b hk0 _)) rfl 0 (by decide) (hts _ tb_108) (fun _ h9 => h9) rfl d_Log_partOf_49 ?_
          refine lv_iload_n (pc := 52) hx hb d_Log_partOf_52 rfl (lv_at hl 1 rfl) ?_
          obtain ⟨g5, h⟩ := gx_if h
          refine va_iald (pc := 53) hx hb hK hP (x0 + 1) 0 (gx_at (cx_lt (to_Log_accounts hk0) (by decide)) (sh_arr cI cR b (n := 16) (to_Log_accounts hk0) _)) rfl g5 d_Log_partOf_53 ?_
          exact gx_iret (free := fun _ => True) hx hb hr hlk hP hS d_Log_partOf_54 (by cases h; rfl) (by cases h; rfl)
        have h := gx_neg g4 h
        by_cases g6 : x2 = (1 : Int32)
        · have h := gx_pos g6 h
          refine lv_lookup (pc := 21) (off := 34) (tgt := 55) hx hb d_Log_partOf_21 (by decide) (by rw [g6]; decide) (by decide) ?_
          refine lv_aload_n (pc := 55) hx hb d_Log_partOf_55 rfl (lv_at hl 0 rfl) ?_
          refine va_get (pc := 56) (D := (dC, dI)) (ci := 2) (C := R_Log) (T := T_Log) (N := 4) hx hb hts in_Log hown hK hP x0 (gx_at (cx_lt hk0 (by decide)) (sh_Log cI cR b hk0 _)) rfl 1 (by decide) (hts _ tb_109) (fun _ h9 => h9) rfl d_Log_partOf_56 ?_
          refine lv_iload_n (pc := 59) hx hb d_Log_partOf_59 rfl (lv_at hl 1 rfl) ?_
          obtain ⟨g7, h⟩ := gx_if h
          refine va_iald (pc := 60) hx hb hK hP (x0 + 2) 0 (gx_at (cx_lt (to_Log_numbers hk0) (by decide)) (sh_arr cI cR b (n := 16) (to_Log_numbers hk0) _)) rfl g7 d_Log_partOf_60 ?_
          exact gx_iret (free := fun _ => True) hx hb hr hlk hP hS d_Log_partOf_61 (by cases h; rfl) (by cases h; rfl)
        have h := gx_neg g6 h
        have z9 : ∀ k ∈ ([(0, 27), (1, 34)] : List (Int × Int)), x2.toInt ≠ k.1 := by
          intro k hk
          simp only [List.mem_cons, List.not_mem_nil, or_false] at hk
          rcases hk with rfl | rfl
          · exact gx_ne g4 (by decide)
          · exact gx_ne g6 (by decide)
        refine lv_lookup (pc := 21) (off := 41) (tgt := 62) hx hb d_Log_partOf_21 (by decide) (gx_lko z9) (by decide) ?_
        refine lv_iconst (pc := 62) (v := (-1 : Int32)) hx hb d_Log_partOf_62 (by decide) ?_
        exact gx_iret (free := fun _ => True) hx hb hr hlk hP hS d_Log_partOf_63 (by cases h; rfl) (by cases h; rfl)
      · have h := gx_neg g3 h
        refine lv_iconst (pc := 18) (v := (-1 : Int32)) hx hb d_Log_partOf_18 (by decide) ?_
        exact gx_iret (free := fun _ => True) hx hb hr hlk hP hS d_Log_partOf_19 (by cases h; rfl) (by cases h; rfl)
abbrev rm_Led_log : Room := { frames := 1, cells := 0, slots := 0, locals := 22 }
def F_Led_log (x0 : Nat) (x1 : Int32) (x2 : Int32) (V : gx_M) : Option (Int32 × gx_M) := ((F_Log_partOf ((x0 + 1) + 8) x1 x2 V).bind fun q1 => some (q1.1, q1.2))
set_option maxRecDepth 100000 in
set_option maxHeartbeats 8000000 in
theorem k_Led_log (l : Launch) (dC : Nat → ClassId) (dI : Nat → Nat → Nat) (cI cR cZ : ClassId) (b tP tN : Nat) {x0 : Nat} {x1 : Int32} {x2 : Int32} {V : gx_M} {q : (Int32 × gx_M)} (hk0 : cx_kd x0 = 5) (h : F_Led_log x0 x1 x2 V = some q) : cx_C l dC dI cI cR cZ b tP tN y_Led_log w_Led_log rm_Led_log [.ref (b + x0), .int x1, .int x2] V (some (.int q.1)) q.2 := by
  refine gx_start (cc := b_Led_log) (maxL := 3) (ret := rt_Led_log) (by decide) rfl (Nat.le_of_ble_eq_true rfl) ?_
  intro p e s m args below meth c ls hx hb hr hts hown hlk hml hl hP hK hX hS
  have hts : ∀ w ∈ cx_tb, w.before args s = true := fun w hw => hts w (List.mem_cons_of_mem _ hw)
  have hown : s.vm.findClass "GasLedger" = some m.cls := hown
  have hl : lv_has ls 3 [(0, .ref (b + x0)), (1, .int x1), (2, .int x2)] := hl
  unfold F_Led_log at h
  refine lv_aload_n (pc := 0) hx hb d_Led_log_0 rfl (lv_at hl 0 rfl) ?_
  refine va_get (pc := 1) (D := (dC, dI)) (ci := 5) (C := R_Led) (T := T_Led) (N := 14) hx hb hts in_Led hown hK hP x0 (gx_at (cx_lt hk0 (by decide)) (sh_Led cI cR b hk0 _)) rfl 0 (by decide) (hts _ tb_248) (fun _ h9 => h9) rfl d_Led_log_1 ?_
  refine va_get (pc := 4) (D := (dC, dI)) (ci := 3) (C := R_Mac) (T := T_Mac) (N := 6) hx hb hts in_Mac hown hK hP (x0 + 1) (gx_at (cx_lt (to_Led_machine hk0) (by decide)) (sh_Mac cI cR b (to_Led_machine hk0) _)) rfl 1 (by decide) (hts _ tb_204) (fun _ h9 => h9) rfl d_Led_log_4 ?_
  refine lv_iload_n (pc := 7) hx hb d_Led_log_7 rfl (lv_at hl 1 rfl) ?_
  refine lv_iload_n (pc := 8) hx hb d_Led_log_8 rfl (lv_at hl 2 rfl) ?_
  obtain ⟨q1, g1, h⟩ := gx_bd h
  refine gx_ci (pc := 9) (va_runV (C := "GasLedger$Logs") (As := [.int x1, .int x2]) (rest := []) ⟨hx, hb, hml, hown, hts⟩ (k_Log_partOf l dC dI cI cR cZ b tP tN (to_Mac_logs (to_Led_machine hk0)) g1) (gx_cw 2 hts cd_Log_partOf tb_47 tb_587 tb_588 tb_589 rfl rfl ⟨by decide, by decide, by decide +kernel⟩ ⟨Nat.le_of_ble_eq_true rfl, Nat.le_of_ble_eq_true rfl⟩) (gy_preV (cx_XX b tP tN) hX hK hP hS (cx_lt (to_Mac_logs (to_Led_machine hk0)) (by decide)) (sh_Log cI cR b (to_Mac_logs (to_Led_machine hk0)) _) rfl) rfl rfl hl.1 rfl (lv_room (Nat.le_of_ble_eq_true rfl)) d_Led_log_9 ⟨Nat.zero_le _, Nat.zero_le _⟩) hS (fun H locs hP hS => ?_)
  exact gx_iret (free := fun _ => True) hx hb hr hlk hP hS d_Led_log_12 (by cases h; rfl) (by cases h; rfl)
abbrev rm_Led_total : Room := { frames := 0, cells := 0, slots := 0, locals := 0 }
def F_Led_total_4 : Nat → Nat → Int64 → Int32 → gx_M → Option (Int64 × gx_M)
  | 0, _, _, _, _ => none
  | nf + 1, x0, x1, x3, V => (if (16 : Int32) ≤ x3 then some (x1, V) else (if gx_ib x3 16 then (F_Led_total_4 nf  x0 (x1 + (V (((x0 + 1) + 1) + 1) x3.toNatClampNeg).toInt64) (x3 + (1 : Int32)) V) else none))
def F_Led_total (x0 : Nat) (V : gx_M) : Option (Int64 × gx_M) := (F_Led_total_4 100  x0 (0 : Int64) (0 : Int32) V)
set_option maxRecDepth 100000 in
set_option maxHeartbeats 8000000 in
theorem k_Led_total (l : Launch) (dC : Nat → ClassId) (dI : Nat → Nat → Nat) (cI cR cZ : ClassId) (b tP tN : Nat) {x0 : Nat} {V : gx_M} {q : (Int64 × gx_M)} (hk0 : cx_kd x0 = 5) (h : F_Led_total x0 V = some q) : cx_C l dC dI cI cR cZ b tP tN y_Led_total w_Led_total rm_Led_total [.ref (b + x0)] V (some (.long q.1)) q.2 := by
  refine gx_start (cc := b_Led_total) (maxL := 4) (ret := rt_Led_total) (by decide) rfl (Nat.le_of_ble_eq_true rfl) ?_
  intro p e s m args below meth c ls hx hb hr hts hown hlk hml hl hP hK hX hS
  have hts : ∀ w ∈ cx_tb, w.before args s = true := fun w hw => hts w (List.mem_cons_of_mem _ hw)
  have hown : s.vm.findClass "GasLedger" = some m.cls := hown
  have hl : lv_has ls 4 [(0, .ref (b + x0))] := hl
  have B_4 : ∀ (nf : Nat), ∀ (x0 : Nat) (x1 : Int64) (x3 : Int32), cx_kd x0 = 5 → ∀ (V : gx_M) (H : Heap) (locs : List Loc) (ls : Array Slot), lv_has ls 4 [(0, .ref (b + x0)), (1, .long x1), (3, .int x3)] → va_P (dC, dI) cx_cl (gx_w b 97 (gx_v (cx_sh cI cR b) V)) H → va_S (gx_A b 97) s.heap H locs → F_Led_total_4 nf x0 x1 x3 V = some q → W p l e (headSpec w_Led_total rm_Led_total).room s m args below meth c H locs 0 0 (MQ below (gx_Q (dC, dI) cx_cl b 97 (cx_sh cI cR b) (some (.long q.1)) q.2) args s 0 0 (gx_A b 97)) (F0 m 4 ls []) := by
    intro nf
    induction nf with
    | zero => intro x0 x1 x3 hk_x0 V H locs ls hl hP hS h; cases h
    | succ nf ihl =>
      intro x0 x1 x3 hk_x0 V H locs ls hl hP hS h
      rw [F_Led_total_4] at h
      refine lv_iload_n (pc := 4) hx hb d_Led_total_4 rfl (lv_at hl 2 rfl) ?_
      refine lv_bipush (pc := 5) (v := (16 : Int32)) hx hb d_Led_total_5 (by decide) ?_
      refine lv_icmp_ge (pc := 7) (tgt := 32) hx hb d_Led_total_7 (by decide) (fun g1 => ?_) (fun g1 => ?_)
      · have h := gx_pos g1 h
        refine lv_lload_n (pc := 32) hx hb d_Led_total_32 rfl (lv_at hl 1 rfl) ?_
        exact gx_lret hx hb hr hlk hP hS d_Led_total_33 (by cases h; rfl) (by cases h; rfl)
      · have h := gx_neg g1 h
        refine lv_lload_n (pc := 10) hx hb d_Led_total_10 rfl (lv_at hl 1 rfl) ?_
        refine lv_aload_n (pc := 11) hx hb d_Led_total_11 rfl (lv_at hl 0 rfl) ?_
        refine va_get (pc := 12) (D := (dC, dI)) (ci := 5) (C := R_Led) (T := T_Led) (N := 14) hx hb hts in_Led hown hK hP x0 (gx_at (cx_lt hk_x0 (by decide)) (sh_Led cI cR b hk_x0 _)) rfl 0 (by decide) (hts _ tb_248) (fun _ h9 => h9) rfl d_Led_total_12 ?_
        refine va_get (pc := 15) (D := (dC, dI)) (ci := 3) (C := R_Mac) (T := T_Mac) (N := 6) hx hb hts in_Mac hown hK hP (x0 + 1) (gx_at (cx_lt (to_Led_machine hk_x0) (by decide)) (sh_Mac cI cR b (to_Led_machine hk_x0) _)) rfl 0 (by decide) (hts _ tb_202) (fun _ h9 => h9) rfl d_Led_total_15 ?_
        refine va_get (pc := 18) (D := (dC, dI)) (ci := 0) (C := R_Acc) (T := T_Acc) (N := 6) hx hb hts in_Acc hown hK hP ((x0 + 1) + 1) (gx_at (cx_lt (to_Mac_accounts (to_Led_machine hk_x0)) (by decide)) (sh_Acc cI cR b (to_Mac_accounts (to_Led_machine hk_x0)) _)) rfl 0 (by decide) (hts _ tb_75) (fun _ h9 => h9) rfl d_Led_total_18 ?_
        refine lv_iload_n (pc := 21) hx hb d_Led_total_21 rfl (lv_at hl 2 rfl) ?_
        obtain ⟨g2, h⟩ := gx_if h
        refine va_iald (pc := 22) hx hb hK hP (((x0 + 1) + 1) + 1) 0 (gx_at (cx_lt (to_Acc_balances (to_Mac_accounts (to_Led_machine hk_x0))) (by decide)) (sh_arr cI cR b (n := 16) (to_Acc_balances (to_Mac_accounts (to_Led_machine hk_x0))) _)) rfl g2 d_Led_total_22 ?_
        refine lv_i2l (pc := 23) hx hb d_Led_total_23 rfl ?_
        refine lv_ladd (pc := 24) hx hb d_Led_total_24 ?_
        refine lv_lstore_n (pc := 25) (lv' := [(1, .long (x1 + (V (((x0 + 1) + 1) + 1) x3.toNatClampNeg).toInt64)), (0, .ref (b + x0)), (3, .int x3)]) hx hb d_Led_total_25 rfl hl (by decide) rfl (fun ls hl => ?_)
        refine lv_iinc (pc := 26) (k := 2) (lv' := [(3, .int (x3 + (1 : Int32))), (1, .long (x1 + (V (((x0 + 1) + 1) + 1) x3.toNatClampNeg).toInt64)), (0, .ref (b + x0))]) hx hb d_Led_total_26 hl rfl (gx_inc (by decide)) (by decide) rfl (fun ls hl => ?_)
        refine lv_goto (pc := 29) (tgt := 4) hx hb d_Led_total_29 (by decide) ?_
        exact ihl _ _ _ hk_x0 _ _ _ _ (lv_sub hl [2, 1, 0] rfl) hP hS h
  unfold F_Led_total at h
  refine lv_lconst (pc := 0) (v := 0) hx hb d_Led_total_0 rfl ?_
  refine lv_lstore_n (pc := 1) (lv' := [(1, .long (0 : Int64)), (0, .ref (b + x0))]) hx hb d_Led_total_1 rfl hl (by decide) rfl (fun ls hl => ?_)
  refine lv_iconst (pc := 2) (v := (0 : Int32)) hx hb d_Led_total_2 (by decide) ?_
  refine lv_istore_n (pc := 3) (lv' := [(3, .int (0 : Int32)), (1, .long (0 : Int64)), (0, .ref (b + x0))]) hx hb d_Led_total_3 rfl hl (by decide) rfl (fun ls hl => ?_)
  exact B_4 100  _ _ _ hk0 _ _ _ _ (lv_sub hl [2, 1, 0] rfl) hP hS h
