abbrev rm_Acc_wordOf : Room := { frames := 1, cells := 0, slots := 0, locals := 20 }
def F_Acc_wordOf (x0 : Nat) (x1 : Int32) (x2 : Int32) (V : gx_M) : Option (Int32 × gx_M) := ((F_Led_isAccount x1 V).bind fun q1 => (if q1.1 = 0 then some ((0 : Int32), q1.2) else (if x2 < 0 then some ((0 : Int32), q1.2) else (if gx_ib x1 16 then (if x2 < (q1.2 (x0 + 3) x1.toNatClampNeg) then (if gx_ib ((x1 * (24 : Int32)) + x2) 384 then some ((q1.2 (x0 + 4) ((x1 * (24 : Int32)) + x2).toNatClampNeg), q1.2) else none) else some ((0 : Int32), q1.2)) else none))))
set_option maxRecDepth 100000 in
set_option maxHeartbeats 8000000 in
theorem k_Acc_wordOf (l : Launch) (dC : Nat → ClassId) (dI : Nat → Nat → Nat) (cI cR cZ : ClassId) (b tP tN : Nat) {x0 : Nat} {x1 : Int32} {x2 : Int32} {V : gx_M} {q : (Int32 × gx_M)} (hk0 : cx_kd x0 = 0) (h : F_Acc_wordOf x0 x1 x2 V = some q) : cx_C l dC dI cI cR cZ b tP tN y_Acc_wordOf w_Acc_wordOf rm_Acc_wordOf [.ref (b + x0), .int x1, .int x2] V (some (.int q.1)) q.2 := by
  refine gx_start (cc := b_Acc_wordOf) (maxL := 3) (ret := rt_Acc_wordOf) (by decide) rfl (Nat.le_of_ble_eq_true rfl) ?_
  intro p e s m args below meth c ls hx hb hr hts hown hlk hml hl hP hK hX hS
  have hts : ∀ w ∈ cx_tb, w.before args s = true := fun w hw => hts w (List.mem_cons_of_mem _ hw)
  have hown : s.vm.findClass "GasLedger$Accounts" = some m.cls := hown
  have hl : lv_has ls 3 [(0, .ref (b + x0)), (1, .int x1), (2, .int x2)] := hl
  unfold F_Acc_wordOf at h
  refine lv_iload_n (pc := 0) hx hb d_Acc_wordOf_0 rfl (lv_at hl 1 rfl) ?_
  obtain ⟨q1, g1, h⟩ := gx_bd h
  refine gx_ci (pc := 1) (va_runSN (host := "GasLedger") (As := [.int x1]) (rest := []) ⟨hx, hb, hml, hown, hts⟩ (k_Led_isAccount l dC dI cI cR cZ b tP tN  g1) (gx_cn 1 hts cd_Led_isAccount tb_44 hX.2.2.2.2.1 tb_296 rfl rfl ⟨by decide, by decide, by decide +kernel⟩ ⟨Nat.le_of_ble_eq_true rfl, Nat.le_of_ble_eq_true rfl⟩) (gy_pre (cx_XX b tP tN) hX hK hP hS) rfl rfl hl.1 rfl (lv_room (Nat.le_of_ble_eq_true rfl)) d_Acc_wordOf_1 ⟨Nat.zero_le _, Nat.zero_le _⟩) hS (fun H locs hP hS => ?_)
  refine lv_if_eq (pc := 4) (tgt := 21) hx hb d_Acc_wordOf_4 (by decide) (fun g2 => ?_) (fun g2 => ?_)
  · have h := gx_pos g2 h
    refine lv_iconst (pc := 21) (v := (0 : Int32)) hx hb d_Acc_wordOf_21 (by decide) ?_
    exact gx_iret (free := fun _ => True) hx hb hr hlk hP hS d_Acc_wordOf_22 (by cases h; rfl) (by cases h; rfl)
  · have h := gx_neg g2 h
    refine lv_iload_n (pc := 7) hx hb d_Acc_wordOf_7 rfl (lv_at hl 2 rfl) ?_
    refine lv_if_lt (pc := 8) (tgt := 21) hx hb d_Acc_wordOf_8 (by decide) (fun g3 => ?_) (fun g3 => ?_)
    · have h := gx_pos g3 h
      refine lv_iconst (pc := 21) (v := (0 : Int32)) hx hb d_Acc_wordOf_21 (by decide) ?_
      exact gx_iret (free := fun _ => True) hx hb hr hlk hP hS d_Acc_wordOf_22 (by cases h; rfl) (by cases h; rfl)
    · have h := gx_neg g3 h
      refine lv_iload_n (pc := 11) hx hb d_Acc_wordOf_11 rfl (lv_at hl 2 rfl) ?_
      refine lv_aload_n (pc := 12) hx hb d_Acc_wordOf_12 rfl (lv_at hl 0 rfl) ?_
      refine va_get (pc := 13) (D := (dC, dI)) (ci := 0) (C := R_Acc) (T := T_Acc) (N := 6) hx hb hts in_Acc hown hK hP x0 (gx_at (cx_lt hk0 (by decide)) (sh_Acc cI cR b hk0 _)) rfl 2 (by decide) (hts _ tb_80) (fun _ h9 => h9) rfl d_Acc_wordOf_13 ?_
      refine lv_iload_n (pc := 16) hx hb d_Acc_wordOf_16 rfl (lv_at hl 1 rfl) ?_
      obtain ⟨g4, h⟩ := gx_if h
      refine va_iald (pc := 17) hx hb hK hP (x0 + 3) 0 (gx_at (cx_lt (to_Acc_sizes hk0) (by decide)) (sh_arr cI cR b (n := 16) (to_Acc_sizes hk0) _)) rfl g4 d_Acc_wordOf_17 ?_
      refine lv_icmp_lt (pc := 18) (tgt := 23) hx hb d_Acc_wordOf_18 (by decide) (fun g5 => ?_) (fun g5 => ?_)
      · have h := gx_pos g5 h
        refine lv_aload_n (pc := 23) hx hb d_Acc_wordOf_23 rfl (lv_at hl 0 rfl) ?_
        refine va_get (pc := 24) (D := (dC, dI)) (ci := 0) (C := R_Acc) (T := T_Acc) (N := 6) hx hb hts in_Acc hown hK hP x0 (gx_at (cx_lt hk0 (by decide)) (sh_Acc cI cR b hk0 _)) rfl 3 (by decide) (hts _ tb_83) (fun _ h9 => h9) rfl d_Acc_wordOf_24 ?_
        refine lv_iload_n (pc := 27) hx hb d_Acc_wordOf_27 rfl (lv_at hl 1 rfl) ?_
        refine lv_bipush (pc := 28) (v := (24 : Int32)) hx hb d_Acc_wordOf_28 (by decide) ?_
        refine lv_imul (pc := 30) hx hb d_Acc_wordOf_30 ?_
        refine lv_iload_n (pc := 31) hx hb d_Acc_wordOf_31 rfl (lv_at hl 2 rfl) ?_
        refine lv_iadd (pc := 32) hx hb d_Acc_wordOf_32 ?_
        obtain ⟨g6, h⟩ := gx_if h
        refine va_iald (pc := 33) hx hb hK hP (x0 + 4) 0 (gx_at (cx_lt (to_Acc_words hk0) (by decide)) (sh_arr cI cR b (n := 384) (to_Acc_words hk0) _)) rfl g6 d_Acc_wordOf_33 ?_
        exact gx_iret (free := fun _ => True) hx hb hr hlk hP hS d_Acc_wordOf_34 (by cases h; rfl) (by cases h; rfl)
      · have h := gx_neg g5 h
        refine lv_iconst (pc := 21) (v := (0 : Int32)) hx hb d_Acc_wordOf_21 (by decide) ?_
        exact gx_iret (free := fun _ => True) hx hb hr hlk hP hS d_Acc_wordOf_22 (by cases h; rfl) (by cases h; rfl)
abbrev rm_Frm_below : Room := { frames := 0, cells := 0, slots := 0, locals := 0 }
def F_Frm_below (x0 : Nat) (x1 : Int32) (V : gx_M) : Option (Int32 × gx_M) := (if (((V x0 8) - (1 : Int32)) - x1) < 0 then some ((0 : Int32), V) else (if (V x0 8) ≤ (((V x0 8) - (1 : Int32)) - x1) then some ((0 : Int32), V) else (if gx_ib (((V x0 8) - (1 : Int32)) - x1) 12 then some ((V (x0 + 1) (((V x0 8) - (1 : Int32)) - x1).toNatClampNeg), V) else none)))
set_option maxRecDepth 100000 in
set_option maxHeartbeats 8000000 in
theorem k_Frm_below (l : Launch) (dC : Nat → ClassId) (dI : Nat → Nat → Nat) (cI cR cZ : ClassId) (b tP tN : Nat) {x0 : Nat} {x1 : Int32} {V : gx_M} {q : (Int32 × gx_M)} (hk0 : cx_kd x0 = 1) (h : F_Frm_below x0 x1 V = some q) : cx_C l dC dI cI cR cZ b tP tN y_Frm_below w_Frm_below rm_Frm_below [.ref (b + x0), .int x1] V (some (.int q.1)) q.2 := by
  refine gx_start (cc := b_Frm_below) (maxL := 3) (ret := rt_Frm_below) (by decide) rfl (Nat.le_of_ble_eq_true rfl) ?_
  intro p e s m args below meth c ls hx hb hr hts hown hlk hml hl hP hK hX hS
  have hts : ∀ w ∈ cx_tb, w.before args s = true := fun w hw => hts w (List.mem_cons_of_mem _ hw)
  have hown : s.vm.findClass "GasLedger$Frame" = some m.cls := hown
  have hl : lv_has ls 3 [(0, .ref (b + x0)), (1, .int x1)] := hl
  unfold F_Frm_below at h
  refine lv_aload_n (pc := 0) hx hb d_Frm_below_0 rfl (lv_at hl 0 rfl) ?_
  refine va_get (pc := 1) (D := (dC, dI)) (ci := 1) (C := R_Frm) (T := T_Frm) (N := 17) hx hb hts in_Frm hown hK hP x0 (gx_at (cx_lt hk0 (by decide)) (sh_Frm cI cR b hk0 _)) rfl 8 (by decide) (hts _ tb_150) (fun _ h9 => h9) rfl d_Frm_below_1 ?_
  refine lv_iconst (pc := 4) (v := (1 : Int32)) hx hb d_Frm_below_4 (by decide) ?_
  refine lv_isub (pc := 5) hx hb d_Frm_below_5 ?_
  refine lv_iload_n (pc := 6) hx hb d_Frm_below_6 rfl (lv_at hl 1 rfl) ?_
  refine lv_isub (pc := 7) hx hb d_Frm_below_7 ?_
  refine lv_istore_n (pc := 8) (lv' := [(2, .int (((V x0 8) - (1 : Int32)) - x1)), (0, .ref (b + x0)), (1, .int x1)]) hx hb d_Frm_below_8 rfl hl (by decide) rfl (fun ls hl => ?_)
  refine lv_iload_n (pc := 9) hx hb d_Frm_below_9 rfl (lv_at hl 0 rfl) ?_
  refine lv_if_lt (pc := 10) (tgt := 30) hx hb d_Frm_below_10 (by decide) (fun g1 => ?_) (fun g1 => ?_)
  · have h := gx_pos g1 h
    refine lv_iconst (pc := 30) (v := (0 : Int32)) hx hb d_Frm_below_30 (by decide) ?_
    exact gx_iret (free := fun _ => True) hx hb hr hlk hP hS d_Frm_below_31 (by cases h; rfl) (by cases h; rfl)
  · have h := gx_neg g1 h
    refine lv_iload_n (pc := 13) hx hb d_Frm_below_13 rfl (lv_at hl 0 rfl) ?_
    refine lv_aload_n (pc := 14) hx hb d_Frm_below_14 rfl (lv_at hl 1 rfl) ?_
    refine va_get (pc := 15) (D := (dC, dI)) (ci := 1) (C := R_Frm) (T := T_Frm) (N := 17) hx hb hts in_Frm hown hK hP x0 (gx_at (cx_lt hk0 (by decide)) (sh_Frm cI cR b hk0 _)) rfl 8 (by decide) (hts _ tb_150) (fun _ h9 => h9) rfl d_Frm_below_15 ?_
    refine lv_icmp_ge (pc := 18) (tgt := 30) hx hb d_Frm_below_18 (by decide) (fun g2 => ?_) (fun g2 => ?_)
    · have h := gx_pos g2 h
      refine lv_iconst (pc := 30) (v := (0 : Int32)) hx hb d_Frm_below_30 (by decide) ?_
      exact gx_iret (free := fun _ => True) hx hb hr hlk hP hS d_Frm_below_31 (by cases h; rfl) (by cases h; rfl)
    · have h := gx_neg g2 h
      refine lv_aload_n (pc := 21) hx hb d_Frm_below_21 rfl (lv_at hl 1 rfl) ?_
      refine va_get (pc := 22) (D := (dC, dI)) (ci := 1) (C := R_Frm) (T := T_Frm) (N := 17) hx hb hts in_Frm hown hK hP x0 (gx_at (cx_lt hk0 (by decide)) (sh_Frm cI cR b hk0 _)) rfl 7 (by decide) (hts _ tb_149) (fun _ h9 => h9) rfl d_Frm_below_22 ?_
      refine lv_iload_n (pc := 25) hx hb d_Frm_below_25 rfl (lv_at hl 0 rfl) ?_
      obtain ⟨g3, h⟩ := gx_if h
      refine va_iald (pc := 26) hx hb hK hP (x0 + 1) 0 (gx_at (cx_lt (to_Frm_stack hk0) (by decide)) (sh_arr cI cR b (n := 12) (to_Frm_stack hk0) _)) rfl g3 d_Frm_below_26 ?_
      refine lv_goto (pc := 27) (tgt := 31) hx hb d_Frm_below_27 (by decide) ?_
      exact gx_iret (free := fun _ => True) hx hb hr hlk hP hS d_Frm_below_31 (by cases h; rfl) (by cases h; rfl)
abbrev rm_Acc_slotOf : Room := { frames := 1, cells := 0, slots := 0, locals := 20 }
def F_Acc_slotOf (x0 : Nat) (x1 : Int32) (x2 : Int32) (V : gx_M) : Option (Int32 × gx_M) := ((F_Led_isAccount x1 V).bind fun q1 => (if q1.1 = 0 then some ((0 : Int32), q1.2) else ((F_Led_isSlot x2 q1.2).bind fun q2 => (if q2.1 = 0 then some ((0 : Int32), q2.2) else (if gx_ib ((x1 * (8 : Int32)) + x2) 128 then some ((q2.2 (x0 + 5) ((x1 * (8 : Int32)) + x2).toNatClampNeg), q2.2) else none)))))
set_option maxRecDepth 100000 in
set_option maxHeartbeats 8000000 in
theorem k_Acc_slotOf (l : Launch) (dC : Nat → ClassId) (dI : Nat → Nat → Nat) (cI cR cZ : ClassId) (b tP tN : Nat) {x0 : Nat} {x1 : Int32} {x2 : Int32} {V : gx_M} {q : (Int32 × gx_M)} (hk0 : cx_kd x0 = 0) (h : F_Acc_slotOf x0 x1 x2 V = some q) : cx_C l dC dI cI cR cZ b tP tN y_Acc_slotOf w_Acc_slotOf rm_Acc_slotOf [.ref (b + x0), .int x1, .int x2] V (some (.int q.1)) q.2 := by
  refine gx_start (cc := b_Acc_slotOf) (maxL := 3) (ret := rt_Acc_slotOf) (by decide) rfl (Nat.le_of_ble_eq_true rfl) ?_
  intro p e s m args below meth c ls hx hb hr hts hown hlk hml hl hP hK hX hS
  have hts : ∀ w ∈ cx_tb, w.before args s = true := fun w hw => hts w (List.mem_cons_of_mem _ hw)
  have hown : s.vm.findClass "GasLedger$Accounts" = some m.cls := hown
  have hl : lv_has ls 3 [(0, .ref (b + x0)), (1, .int x1), (2, .int x2)] := hl
  unfold F_Acc_slotOf at h
  refine lv_iload_n (pc := 0) hx hb d_Acc_slotOf_0 rfl (lv_at hl 1 rfl) ?_
  obtain ⟨q1, g1, h⟩ := gx_bd h
  refine gx_ci (pc := 1) (va_runSN (host := "GasLedger") (As := [.int x1]) (rest := []) ⟨hx, hb, hml, hown, hts⟩ (k_Led_isAccount l dC dI cI cR cZ b tP tN  g1) (gx_cn 1 hts cd_Led_isAccount tb_44 hX.2.2.2.2.1 tb_296 rfl rfl ⟨by decide, by decide, by decide +kernel⟩ ⟨Nat.le_of_ble_eq_true rfl, Nat.le_of_ble_eq_true rfl⟩) (gy_pre (cx_XX b tP tN) hX hK hP hS) rfl rfl hl.1 rfl (lv_room (Nat.le_of_ble_eq_true rfl)) d_Acc_slotOf_1 ⟨Nat.zero_le _, Nat.zero_le _⟩) hS (fun H locs hP hS => ?_)
  refine lv_if_eq (pc := 4) (tgt := 28) hx hb d_Acc_slotOf_4 (by decide) (fun g2 => ?_) (fun g2 => ?_)
  · have h := gx_pos g2 h
    refine lv_iconst (pc := 28) (v := (0 : Int32)) hx hb d_Acc_slotOf_28 (by decide) ?_
    exact gx_iret (free := fun _ => True) hx hb hr hlk hP hS d_Acc_slotOf_29 (by cases h; rfl) (by cases h; rfl)
  · have h := gx_neg g2 h
    refine lv_iload_n (pc := 7) hx hb d_Acc_slotOf_7 rfl (lv_at hl 2 rfl) ?_
    obtain ⟨q2, g3, h⟩ := gx_bd h
    refine gx_ci (pc := 8) (va_runSN (host := "GasLedger") (As := [.int x2]) (rest := []) ⟨hx, hb, hml, hown, hts⟩ (k_Led_isSlot l dC dI cI cR cZ b tP tN  g3) (gx_cn 1 hts cd_Led_isSlot tb_44 hX.2.2.2.2.2.1 tb_312 rfl rfl ⟨by decide, by decide, by decide +kernel⟩ ⟨Nat.le_of_ble_eq_true rfl, Nat.le_of_ble_eq_true rfl⟩) (gy_pre (cx_XX b tP tN) hX hK hP hS) rfl rfl hl.1 rfl (lv_room (Nat.le_of_ble_eq_true rfl)) d_Acc_slotOf_8 ⟨Nat.zero_le _, Nat.zero_le _⟩) hS (fun H locs hP hS => ?_)
    refine lv_if_eq (pc := 11) (tgt := 28) hx hb d_Acc_slotOf_11 (by decide) (fun g4 => ?_) (fun g4 => ?_)
    · have h := gx_pos g4 h
      refine lv_iconst (pc := 28) (v := (0 : Int32)) hx hb d_Acc_slotOf_28 (by decide) ?_
      exact gx_iret (free := fun _ => True) hx hb hr hlk hP hS d_Acc_slotOf_29 (by cases h; rfl) (by cases h; rfl)
    · have h := gx_neg g4 h
      refine lv_aload_n (pc := 14) hx hb d_Acc_slotOf_14 rfl (lv_at hl 0 rfl) ?_
      refine va_get (pc := 15) (D := (dC, dI)) (ci := 0) (C := R_Acc) (T := T_Acc) (N := 6) hx hb hts in_Acc hown hK hP x0 (gx_at (cx_lt hk0 (by decide)) (sh_Acc cI cR b hk0 _)) rfl 4 (by decide) (hts _ tb_84) (fun _ h9 => h9) rfl d_Acc_slotOf_15 ?_
      refine lv_iload_n (pc := 18) hx hb d_Acc_slotOf_18 rfl (lv_at hl 1 rfl) ?_
      refine lv_bipush (pc := 19) (v := (8 : Int32)) hx hb d_Acc_slotOf_19 (by decide) ?_
      refine lv_imul (pc := 21) hx hb d_Acc_slotOf_21 ?_
      refine lv_iload_n (pc := 22) hx hb d_Acc_slotOf_22 rfl (lv_at hl 2 rfl) ?_
      refine lv_iadd (pc := 23) hx hb d_Acc_slotOf_23 ?_
      obtain ⟨g5, h⟩ := gx_if h
      refine va_iald (pc := 24) hx hb hK hP (x0 + 5) 0 (gx_at (cx_lt (to_Acc_slots hk0) (by decide)) (sh_arr cI cR b (n := 128) (to_Acc_slots hk0) _)) rfl g5 d_Acc_slotOf_24 ?_
      refine lv_goto (pc := 25) (tgt := 29) hx hb d_Acc_slotOf_25 (by decide) ?_
      exact gx_iret (free := fun _ => True) hx hb hr hlk hP hS d_Acc_slotOf_29 (by cases h; rfl) (by cases h; rfl)
abbrev rm_Mac_priceOf : Room := { frames := 2, cells := 0, slots := 0, locals := 64 }
def F_Mac_priceOf_72 (x3 : Int32) (s0 : Int32) (V : gx_M) : Option (Int32 × gx_M) := (if s0 = 0 then some (x3, V) else some ((40 : Int32), V))
def F_Mac_priceOf_71 (x3 : Int32) (V : gx_M) : Option (Int32 × gx_M) := (F_Mac_priceOf_72   x3 (0 : Int32) V)
def F_Mac_priceOf (x0 : Nat) (x1 : Nat) (x2 : Int32) (V : gx_M) : Option (Int32 × gx_M) := (if gx_ib x2 32 then (if x2 = (15 : Int32) then ((F_Frm_below x1 (0 : Int32) V).bind fun q1 => ((F_Acc_slotOf (x0 + 1) (V x1 0) q1.1 q1.2).bind fun q2 => (if q2.1 = 0 then ((F_Frm_below x1 (1 : Int32) q2.2).bind fun q3 => (if q3.1 = 0 then (F_Mac_priceOf_71   (cx_prices x2.toNatClampNeg) q3.2) else (F_Mac_priceOf_72   (cx_prices x2.toNatClampNeg) (1 : Int32) q3.2))) else (F_Mac_priceOf_71   (cx_prices x2.toNatClampNeg) q2.2)))) else (if x2 = (22 : Int32) then ((F_Frm_below x1 (2 : Int32) V).bind fun q4 => (if q4.1 = 0 then some ((cx_prices x2.toNatClampNeg), q4.2) else some (((cx_prices x2.toNatClampNeg) + (20 : Int32)), q4.2))) else (if x2 = (24 : Int32) then ((F_Frm_below x1 (2 : Int32) V).bind fun q5 => some (((cx_prices x2.toNatClampNeg) + ((2 : Int32) * (if (0 : Int32) < (if (24 : Int32) < q5.1 then (24 : Int32) else q5.1) then (if (24 : Int32) < q5.1 then (24 : Int32) else q5.1) else (0 : Int32)))), q5.2)) else some ((cx_prices x2.toNatClampNeg), V)))) else none)
set_option maxRecDepth 100000 in
set_option maxHeartbeats 8000000 in
theorem k_Mac_priceOf (l : Launch) (dC : Nat → ClassId) (dI : Nat → Nat → Nat) (cI cR cZ : ClassId) (b tP tN : Nat) {x0 : Nat} {x1 : Nat} {x2 : Int32} {V : gx_M} {q : (Int32 × gx_M)} (hk0 : cx_kd x0 = 3) (hk1 : cx_kd x1 = 1) (h : F_Mac_priceOf x0 x1 x2 V = some q) : cx_C l dC dI cI cR cZ b tP tN y_Mac_priceOf w_Mac_priceOf rm_Mac_priceOf [.ref (b + x0), .ref (b + x1), .int x2] V (some (.int q.1)) q.2 := by
  refine gx_start (cc := b_Mac_priceOf) (maxL := 5) (ret := rt_Mac_priceOf) (by decide) rfl (Nat.le_of_ble_eq_true rfl) ?_
  intro p e s m args below meth c ls hx hb hr hts hown hlk hml hl hP hK hX hS
  have hts : ∀ w ∈ cx_tb, w.before args s = true := fun w hw => hts w (List.mem_cons_of_mem _ hw)
  have hown : s.vm.findClass "GasLedger$Machine" = some m.cls := hown
  have hl : lv_has ls 5 [(0, .ref (b + x0)), (1, .ref (b + x1)), (2, .int x2)] := hl
  have B_72 : ∀ (x3 : Int32) (s0 : Int32), ∀ (V : gx_M) (H : Heap) (locs : List Loc) (ls : Array Slot), lv_has ls 5 [(3, .int x3)] → va_P (dC, dI) cx_cl (gx_w b 97 (gx_v (cx_sh cI cR b) V)) H → va_S (gx_A b 97) s.heap H locs → F_Mac_priceOf_72 x3 s0 V = some q → W p l e (headSpec w_Mac_priceOf rm_Mac_priceOf).room s m args below meth c H locs 0 0 (MQ below (gx_Q (dC, dI) cx_cl b 97 (cx_sh cI cR b) (some (.int q.1)) q.2) args s 0 0 (gx_A b 97)) (F0 m 72 ls [.int s0]) := by
    intro x3 s0 V H locs ls hl hP hS h
    unfold F_Mac_priceOf_72 at h
    refine lv_istore (pc := 72) (lv' := [(4, .int s0), (3, .int x3)]) hx hb d_Mac_priceOf_72 hl (by decide) rfl (fun ls hl => ?_)
    refine lv_iload (pc := 74) hx hb d_Mac_priceOf_74 (lv_at hl 0 rfl) ?_
    refine lv_if_eq (pc := 76) (tgt := 84) hx hb d_Mac_priceOf_76 (by decide) (fun g1 => ?_) (fun g1 => ?_)
    · have h := gx_pos g1 h
      refine lv_iload_n (pc := 84) hx hb d_Mac_priceOf_84 rfl (lv_at hl 1 rfl) ?_
      exact gx_iret (free := fun _ => True) hx hb hr hlk hP hS d_Mac_priceOf_85 (by cases h; rfl) (by cases h; rfl)
    · have h := gx_neg g1 h
      refine lv_bipush (pc := 79) (v := (40 : Int32)) hx hb d_Mac_priceOf_79 (by decide) ?_
      refine lv_goto (pc := 81) (tgt := 85) hx hb d_Mac_priceOf_81 (by decide) ?_
      exact gx_iret (free := fun _ => True) hx hb hr hlk hP hS d_Mac_priceOf_85 (by cases h; rfl) (by cases h; rfl)
  have B_71 : ∀ (x3 : Int32), ∀ (V : gx_M) (H : Heap) (locs : List Loc) (ls : Array Slot), lv_has ls 5 [(3, .int x3)] → va_P (dC, dI) cx_cl (gx_w b 97 (gx_v (cx_sh cI cR b) V)) H → va_S (gx_A b 97) s.heap H locs → F_Mac_priceOf_71 x3 V = some q → W p l e (headSpec w_Mac_priceOf rm_Mac_priceOf).room s m args below meth c H locs 0 0 (MQ below (gx_Q (dC, dI) cx_cl b 97 (cx_sh cI cR b) (some (.int q.1)) q.2) args s 0 0 (gx_A b 97)) (F0 m 71 ls []) := by
    intro x3 V H locs ls hl hP hS h
    unfold F_Mac_priceOf_71 at h
    refine lv_iconst (pc := 71) (v := (0 : Int32)) hx hb d_Mac_priceOf_71 (by decide) ?_
    exact B_72   _ _  _ _ _ _ (lv_sub hl [0] rfl) hP hS h
  unfold F_Mac_priceOf at h
  refine va_gets (pc := 0) (C := "GasLedger$Machine") (n := "PRICES") (d := "[I") (v := .ref tP) hx hb hX.1 hS hown (hts _ tb_372) (fun _ h9 => h9) d_Mac_priceOf_0 ?_
  refine lv_iload_n (pc := 3) hx hb d_Mac_priceOf_3 rfl (lv_at hl 2 rfl) ?_
  obtain ⟨g2, h⟩ := gx_if h
  refine va_ti (pc := 4) (v := .int (cx_prices x2.toNatClampNeg)) hx hb hX.2.1 hS g2 rfl d_Mac_priceOf_4 ?_
  refine lv_istore_n (pc := 5) (lv' := [(3, .int (cx_prices x2.toNatClampNeg)), (0, .ref (b + x0)), (1, .ref (b + x1)), (2, .int x2)]) hx hb d_Mac_priceOf_5 rfl hl (by decide) rfl (fun ls hl => ?_)
  refine lv_iload_n (pc := 6) hx hb d_Mac_priceOf_6 rfl (lv_at hl 3 rfl) ?_
  by_cases g3 : x2 = (15 : Int32)
  · have h := gx_pos g3 h
    refine lv_lookup (pc := 7) (off := 33) (tgt := 40) hx hb d_Mac_priceOf_7 (by decide) (by rw [g3]; decide) (by decide) ?_
    refine lv_aload_n (pc := 40) hx hb d_Mac_priceOf_40 rfl (lv_at hl 1 rfl) ?_
    refine va_get (pc := 41) (D := (dC, dI)) (ci := 3) (C := R_Mac) (T := T_Mac) (N := 6) hx hb hts in_Mac hown hK hP x0 (gx_at (cx_lt hk0 (by decide)) (sh_Mac cI cR b hk0 _)) rfl 0 (by decide) (hts _ tb_201) (fun _ h9 => h9) rfl d_Mac_priceOf_41 ?_
    refine lv_aload_n (pc := 44) hx hb d_Mac_priceOf_44 rfl (lv_at hl 2 rfl) ?_
    refine va_get (pc := 45) (D := (dC, dI)) (ci := 1) (C := R_Frm) (T := T_Frm) (N := 17) hx hb hts in_Frm hown hK hP x1 (gx_at (cx_lt hk1 (by decide)) (sh_Frm cI cR b hk1 _)) rfl 0 (by decide) (hts _ tb_135) (fun _ h9 => h9) rfl d_Mac_priceOf_45 ?_
    refine lv_aload_n (pc := 48) hx hb d_Mac_priceOf_48 rfl (lv_at hl 2 rfl) ?_
    refine lv_iconst (pc := 49) (v := (0 : Int32)) hx hb d_Mac_priceOf_49 (by decide) ?_
    obtain ⟨q1, g4, h⟩ := gx_bd h
    refine gx_ci (pc := 50) (va_runV (C := "GasLedger$Frame") (As := [.int (0 : Int32)]) (rest := [.int (V x1 0), .ref (b + (x0 + 1))]) ⟨hx, hb, hml, hown, hts⟩ (k_Frm_below l dC dI cI cR cZ b tP tN hk1 g4) (gx_cw 1 hts cd_Frm_below tb_48 tb_374 tb_375 tb_376 rfl rfl ⟨by decide, by decide, by decide +kernel⟩ ⟨Nat.le_of_ble_eq_true rfl, Nat.le_of_ble_eq_true rfl⟩) (gy_preV (cx_XX b tP tN) hX hK hP hS (cx_lt hk1 (by decide)) (sh_Frm cI cR b hk1 _) rfl) rfl rfl hl.1 rfl (lv_room (Nat.le_of_ble_eq_true rfl)) d_Mac_priceOf_50 ⟨Nat.zero_le _, Nat.zero_le _⟩) hS (fun H locs hP hS => ?_)
    obtain ⟨q2, g5, h⟩ := gx_bd h
    refine gx_ci (pc := 53) (va_runV (C := "GasLedger$Accounts") (As := [.int (V x1 0), .int q1.1]) (rest := []) ⟨hx, hb, hml, hown, hts⟩ (k_Acc_slotOf l dC dI cI cR cZ b tP tN (to_Mac_accounts hk0) g5) (gx_cw 2 hts cd_Acc_slotOf tb_46 tb_378 tb_379 tb_380 rfl rfl ⟨by decide, by decide, by decide +kernel⟩ ⟨Nat.le_of_ble_eq_true rfl, Nat.le_of_ble_eq_true rfl⟩) (gy_preV (cx_XX b tP tN) hX hK hP hS (cx_lt (to_Mac_accounts hk0) (by decide)) (sh_Acc cI cR b (to_Mac_accounts hk0) _) rfl) rfl rfl hl.1 rfl (lv_room (Nat.le_of_ble_eq_true rfl)) d_Mac_priceOf_53 ⟨Nat.zero_le _, Nat.zero_le _⟩) hS (fun H locs hP hS => ?_)
    refine lv_if_ne (pc := 56) (tgt := 71) hx hb d_Mac_priceOf_56 (by decide) (fun g6 => ?_) (fun g6 => ?_)
    · have h := gx_neg g6 h
      exact B_71   _  _ _ _ _ (lv_sub hl [0] rfl) hP hS h
    · have h := gx_pos g6 h
      refine lv_aload_n (pc := 59) hx hb d_Mac_priceOf_59 rfl (lv_at hl 2 rfl) ?_
      refine lv_iconst (pc := 60) (v := (1 : Int32)) hx hb d_Mac_priceOf_60 (by decide) ?_
      obtain ⟨q3, g7, h⟩ := gx_bd h
      refine gx_ci (pc := 61) (va_runV (C := "GasLedger$Frame") (As := [.int (1 : Int32)]) (rest := []) ⟨hx, hb, hml, hown, hts⟩ (k_Frm_below l dC dI cI cR cZ b tP tN hk1 g7) (gx_cw 1 hts cd_Frm_below tb_48 tb_374 tb_375 tb_376 rfl rfl ⟨by decide, by decide, by decide +kernel⟩ ⟨Nat.le_of_ble_eq_true rfl, Nat.le_of_ble_eq_true rfl⟩) (gy_preV (cx_XX b tP tN) hX hK hP hS (cx_lt hk1 (by decide)) (sh_Frm cI cR b hk1 _) rfl) rfl rfl hl.1 rfl (lv_room (Nat.le_of_ble_eq_true rfl)) d_Mac_priceOf_61 ⟨Nat.zero_le _, Nat.zero_le _⟩) hS (fun H locs hP hS => ?_)
      refine lv_if_eq (pc := 64) (tgt := 71) hx hb d_Mac_priceOf_64 (by decide) (fun g8 => ?_) (fun g8 => ?_)
      · have h := gx_pos g8 h
        exact B_71   _  _ _ _ _ (lv_sub hl [0] rfl) hP hS h
      · have h := gx_neg g8 h
        refine lv_iconst (pc := 67) (v := (1 : Int32)) hx hb d_Mac_priceOf_67 (by decide) ?_
        refine lv_goto (pc := 68) (tgt := 72) hx hb d_Mac_priceOf_68 (by decide) ?_
        exact B_72   _ _  _ _ _ _ (lv_sub hl [0] rfl) hP hS h
  have h := gx_neg g3 h
  by_cases g9 : x2 = (22 : Int32)
  · have h := gx_pos g9 h
    refine lv_lookup (pc := 7) (off := 79) (tgt := 86) hx hb d_Mac_priceOf_7 (by decide) (by rw [g9]; decide) (by decide) ?_
    refine lv_aload_n (pc := 86) hx hb d_Mac_priceOf_86 rfl (lv_at hl 2 rfl) ?_
    refine lv_iconst (pc := 87) (v := (2 : Int32)) hx hb d_Mac_priceOf_87 (by decide) ?_
    obtain ⟨q4, g10, h⟩ := gx_bd h
    refine gx_ci (pc := 88) (va_runV (C := "GasLedger$Frame") (As := [.int (2 : Int32)]) (rest := []) ⟨hx, hb, hml, hown, hts⟩ (k_Frm_below l dC dI cI cR cZ b tP tN hk1 g10) (gx_cw 1 hts cd_Frm_below tb_48 tb_374 tb_375 tb_376 rfl rfl ⟨by decide, by decide, by decide +kernel⟩ ⟨Nat.le_of_ble_eq_true rfl, Nat.le_of_ble_eq_true rfl⟩) (gy_preV (cx_XX b tP tN) hX hK hP hS (cx_lt hk1 (by decide)) (sh_Frm cI cR b hk1 _) rfl) rfl rfl hl.1 rfl (lv_room (Nat.le_of_ble_eq_true rfl)) d_Mac_priceOf_88 ⟨Nat.zero_le _, Nat.zero_le _⟩) hS (fun H locs hP hS => ?_)
    refine lv_if_eq (pc := 91) (tgt := 101) hx hb d_Mac_priceOf_91 (by decide) (fun g11 => ?_) (fun g11 => ?_)
    · have h := gx_pos g11 h
      refine lv_iload_n (pc := 101) hx hb d_Mac_priceOf_101 rfl (lv_at hl 0 rfl) ?_
      exact gx_iret (free := fun _ => True) hx hb hr hlk hP hS d_Mac_priceOf_102 (by cases h; rfl) (by cases h; rfl)
    · have h := gx_neg g11 h
      refine lv_iload_n (pc := 94) hx hb d_Mac_priceOf_94 rfl (lv_at hl 0 rfl) ?_
      refine lv_bipush (pc := 95) (v := (20 : Int32)) hx hb d_Mac_priceOf_95 (by decide) ?_
      refine lv_iadd (pc := 97) hx hb d_Mac_priceOf_97 ?_
      refine lv_goto (pc := 98) (tgt := 102) hx hb d_Mac_priceOf_98 (by decide) ?_
      exact gx_iret (free := fun _ => True) hx hb hr hlk hP hS d_Mac_priceOf_102 (by cases h; rfl) (by cases h; rfl)
  have h := gx_neg g9 h
  by_cases g12 : x2 = (24 : Int32)
  · have h := gx_pos g12 h
    refine lv_lookup (pc := 7) (off := 96) (tgt := 103) hx hb d_Mac_priceOf_7 (by decide) (by rw [g12]; decide) (by decide) ?_
    refine lv_iload_n (pc := 103) hx hb d_Mac_priceOf_103 rfl (lv_at hl 0 rfl) ?_
    refine lv_iconst (pc := 104) (v := (2 : Int32)) hx hb d_Mac_priceOf_104 (by decide) ?_
    refine lv_iconst (pc := 105) (v := (0 : Int32)) hx hb d_Mac_priceOf_105 (by decide) ?_
    refine lv_aload_n (pc := 106) hx hb d_Mac_priceOf_106 rfl (lv_at hl 2 rfl) ?_
    refine lv_iconst (pc := 107) (v := (2 : Int32)) hx hb d_Mac_priceOf_107 (by decide) ?_
    obtain ⟨q5, g13, h⟩ := gx_bd h
    refine gx_ci (pc := 108) (va_runV (C := "GasLedger$Frame") (As := [.int (2 : Int32)]) (rest := [.int (0 : Int32), .int (2 : Int32), .int (cx_prices x2.toNatClampNeg)]) ⟨hx, hb, hml, hown, hts⟩ (k_Frm_below l dC dI cI cR cZ b tP tN hk1 g13) (gx_cw 1 hts cd_Frm_below tb_48 tb_374 tb_375 tb_376 rfl rfl ⟨by decide, by decide, by decide +kernel⟩ ⟨Nat.le_of_ble_eq_true rfl, Nat.le_of_ble_eq_true rfl⟩) (gy_preV (cx_XX b tP tN) hX hK hP hS (cx_lt hk1 (by decide)) (sh_Frm cI cR b hk1 _) rfl) rfl rfl hl.1 rfl (lv_room (Nat.le_of_ble_eq_true rfl)) d_Mac_priceOf_108 ⟨Nat.zero_le _, Nat.zero_le _⟩) hS (fun H locs hP hS => ?_)
    refine lv_bipush (pc := 111) (v := (24 : Int32)) hx hb d_Mac_priceOf_111 (by decide) ?_
    refine va_mmin (pc := 113) hx hb (hml.trans hl.1.symm) hown (hts _ tb_383) (hts _ tb_384) (hts _ tb_52) (hts _ tm_min) (Nat.le_of_ble_eq_true rfl) (Nat.le_of_ble_eq_true rfl) (Nat.zero_le _) (Nat.zero_le _) d_Mac_priceOf_113 ?_
    refine va_mmax (pc := 116) hx hb (hml.trans hl.1.symm) hown (hts _ tb_386) (hts _ tb_387) (hts _ tb_52) (hts _ tm_max) (Nat.le_of_ble_eq_true rfl) (Nat.le_of_ble_eq_true rfl) (Nat.zero_le _) (Nat.zero_le _) d_Mac_priceOf_116 ?_
    refine lv_imul (pc := 119) hx hb d_Mac_priceOf_119 ?_
    refine lv_iadd (pc := 120) hx hb d_Mac_priceOf_120 ?_
    exact gx_iret (free := fun _ => True) hx hb hr hlk hP hS d_Mac_priceOf_121 (by cases h; rfl) (by cases h; rfl)
  have h := gx_neg g12 h
  have z9 : ∀ k ∈ ([(15, 33), (22, 79), (24, 96)] : List (Int × Int)), x2.toInt ≠ k.1 := by
    intro k hk
    simp only [List.mem_cons, List.not_mem_nil, or_false] at hk
    rcases hk with rfl | rfl | rfl
    · exact gx_ne g3 (by decide)
    · exact gx_ne g9 (by decide)
    · exact gx_ne g12 (by decide)
  refine lv_lookup (pc := 7) (off := 115) (tgt := 122) hx hb d_Mac_priceOf_7 (by decide) (gx_lko z9) (by decide) ?_
  refine lv_iload_n (pc := 122) hx hb d_Mac_priceOf_122 rfl (lv_at hl 0 rfl) ?_
  exact gx_iret (free := fun _ => True) hx hb hr hlk hP hS d_Mac_priceOf_123 (by cases h; rfl) (by cases h; rfl)
abbrev rm_Mac_onlyPushes : Room := { frames := 0, cells := 0, slots := 0, locals := 0 }
def F_Mac_onlyPushes (x0 : Int32) (V : gx_M) : Option (Int32 × gx_M) := (if x0 = (1 : Int32) then some ((1 : Int32), V) else (if x0 = (3 : Int32) then some ((1 : Int32), V) else (if x0 < (17 : Int32) then some ((0 : Int32), V) else (if (21 : Int32) < x0 then some ((0 : Int32), V) else some ((1 : Int32), V)))))
set_option maxRecDepth 100000 in
set_option maxHeartbeats 8000000 in
theorem k_Mac_onlyPushes (l : Launch) (dC : Nat → ClassId) (dI : Nat → Nat → Nat) (cI cR cZ : ClassId) (b tP tN : Nat) {x0 : Int32} {V : gx_M} {q : (Int32 × gx_M)}  (h : F_Mac_onlyPushes x0 V = some q) : cx_C l dC dI cI cR cZ b tP tN y_Mac_onlyPushes w_Mac_onlyPushes rm_Mac_onlyPushes [.int x0] V (some (.int q.1)) q.2 := by
  refine gx_start (cc := b_Mac_onlyPushes) (maxL := 1) (ret := rt_Mac_onlyPushes) (by decide) rfl (Nat.le_of_ble_eq_true rfl) ?_
  intro p e s m args below meth c ls hx hb hr hts hown hlk hml hl hP hK hX hS
  have hts : ∀ w ∈ cx_tb, w.before args s = true := fun w hw => hts w (List.mem_cons_of_mem _ hw)
  have hown : s.vm.findClass "GasLedger$Machine" = some m.cls := hown
  have hl : lv_has ls 1 [(0, .int x0)] := hl
  unfold F_Mac_onlyPushes at h
  refine lv_iload_n (pc := 0) hx hb d_Mac_onlyPushes_0 rfl (lv_at hl 0 rfl) ?_
  refine lv_iconst (pc := 1) (v := (1 : Int32)) hx hb d_Mac_onlyPushes_1 (by decide) ?_
  refine lv_icmp_eq (pc := 2) (tgt := 22) hx hb d_Mac_onlyPushes_2 (by decide) (fun g1 => ?_) (fun g1 => ?_)
  · have h := gx_pos g1 h
    refine lv_iconst (pc := 22) (v := (1 : Int32)) hx hb d_Mac_onlyPushes_22 (by decide) ?_
    refine lv_goto (pc := 23) (tgt := 27) hx hb d_Mac_onlyPushes_23 (by decide) ?_
    exact gx_zret (free := fun _ => True) hx hb hr hlk hP hS d_Mac_onlyPushes_27 rfl (by cases h; rfl) (by cases h; rfl)
  · have h := gx_neg g1 h
    refine lv_iload_n (pc := 5) hx hb d_Mac_onlyPushes_5 rfl (lv_at hl 0 rfl) ?_
    refine lv_iconst (pc := 6) (v := (3 : Int32)) hx hb d_Mac_onlyPushes_6 (by decide) ?_
    refine lv_icmp_eq (pc := 7) (tgt := 22) hx hb d_Mac_onlyPushes_7 (by decide) (fun g2 => ?_) (fun g2 => ?_)
    · have h := gx_pos g2 h
      refine lv_iconst (pc := 22) (v := (1 : Int32)) hx hb d_Mac_onlyPushes_22 (by decide) ?_
      refine lv_goto (pc := 23) (tgt := 27) hx hb d_Mac_onlyPushes_23 (by decide) ?_
      exact gx_zret (free := fun _ => True) hx hb hr hlk hP hS d_Mac_onlyPushes_27 rfl (by cases h; rfl) (by cases h; rfl)
    · have h := gx_neg g2 h
      refine lv_iload_n (pc := 10) hx hb d_Mac_onlyPushes_10 rfl (lv_at hl 0 rfl) ?_
      refine lv_bipush (pc := 11) (v := (17 : Int32)) hx hb d_Mac_onlyPushes_11 (by decide) ?_
      refine lv_icmp_lt (pc := 13) (tgt := 26) hx hb d_Mac_onlyPushes_13 (by decide) (fun g3 => ?_) (fun g3 => ?_)
      · have h := gx_pos g3 h
        refine lv_iconst (pc := 26) (v := (0 : Int32)) hx hb d_Mac_onlyPushes_26 (by decide) ?_
        exact gx_zret (free := fun _ => True) hx hb hr hlk hP hS d_Mac_onlyPushes_27 rfl (by cases h; rfl) (by cases h; rfl)
      · have h := gx_neg g3 h
        refine lv_iload_n (pc := 16) hx hb d_Mac_onlyPushes_16 rfl (lv_at hl 0 rfl) ?_
        refine lv_bipush (pc := 17) (v := (21 : Int32)) hx hb d_Mac_onlyPushes_17 (by decide) ?_
        refine lv_icmp_gt (pc := 19) (tgt := 26) hx hb d_Mac_onlyPushes_19 (by decide) (fun g4 => ?_) (fun g4 => ?_)
        · have h := gx_pos g4 h
          refine lv_iconst (pc := 26) (v := (0 : Int32)) hx hb d_Mac_onlyPushes_26 (by decide) ?_
          exact gx_zret (free := fun _ => True) hx hb hr hlk hP hS d_Mac_onlyPushes_27 rfl (by cases h; rfl) (by cases h; rfl)
        · have h := gx_neg g4 h
          refine lv_iconst (pc := 22) (v := (1 : Int32)) hx hb d_Mac_onlyPushes_22 (by decide) ?_
          refine lv_goto (pc := 23) (tgt := 27) hx hb d_Mac_onlyPushes_23 (by decide) ?_
          exact gx_zret (free := fun _ => True) hx hb hr hlk hP hS d_Mac_onlyPushes_27 rfl (by cases h; rfl) (by cases h; rfl)
abbrev rm_Mac_needsOf : Room := { frames := 0, cells := 0, slots := 0, locals := 0 }
def F_Mac_needsOf (x0 : Int32) (x1 : Int32) (V : gx_M) : Option (Int32 × gx_M) := (if x0 = (3 : Int32) then (if 0 ≤ x1 then some ((x1 + (1 : Int32)), V) else some ((13 : Int32), V)) else (if x0 = (4 : Int32) then (if (1 : Int32) ≤ x1 then some ((x1 + (1 : Int32)), V) else some ((13 : Int32), V)) else (if gx_ib x0 32 then some ((cx_needs x0.toNatClampNeg), V) else none)))
set_option maxRecDepth 100000 in
set_option maxHeartbeats 8000000 in
theorem k_Mac_needsOf (l : Launch) (dC : Nat → ClassId) (dI : Nat → Nat → Nat) (cI cR cZ : ClassId) (b tP tN : Nat) {x0 : Int32} {x1 : Int32} {V : gx_M} {q : (Int32 × gx_M)}  (h : F_Mac_needsOf x0 x1 V = some q) : cx_C l dC dI cI cR cZ b tP tN y_Mac_needsOf w_Mac_needsOf rm_Mac_needsOf [.int x0, .int x1] V (some (.int q.1)) q.2 := by
  refine gx_start (cc := b_Mac_needsOf) (maxL := 2) (ret := rt_Mac_needsOf) (by decide) rfl (Nat.le_of_ble_eq_true rfl) ?_
  intro p e s m args below meth c ls hx hb hr hts hown hlk hml hl hP hK hX hS
  have hts : ∀ w ∈ cx_tb, w.before args s = true := fun w hw => hts w (List.mem_cons_of_mem _ hw)
  have hown : s.vm.findClass "GasLedger$Machine" = some m.cls := hown
  have hl : lv_has ls 2 [(0, .int x0), (1, .int x1)] := hl
  unfold F_Mac_needsOf at h
  refine lv_iload_n (pc := 0) hx hb d_Mac_needsOf_0 rfl (lv_at hl 0 rfl) ?_
  by_cases g1 : x0 = (3 : Int32)
  · have h := gx_pos g1 h
    refine lv_lookup (pc := 1) (off := 27) (tgt := 28) hx hb d_Mac_needsOf_1 (by decide) (by rw [g1]; decide) (by decide) ?_
    refine lv_iload_n (pc := 28) hx hb d_Mac_needsOf_28 rfl (lv_at hl 1 rfl) ?_
    refine lv_if_ge (pc := 29) (tgt := 37) hx hb d_Mac_needsOf_29 (by decide) (fun g2 => ?_) (fun g2 => ?_)
    · have h := gx_pos g2 h
      refine lv_iload_n (pc := 37) hx hb d_Mac_needsOf_37 rfl (lv_at hl 1 rfl) ?_
      refine lv_iconst (pc := 38) (v := (1 : Int32)) hx hb d_Mac_needsOf_38 (by decide) ?_
      refine lv_iadd (pc := 39) hx hb d_Mac_needsOf_39 ?_
      exact gx_iret (free := fun _ => True) hx hb hr hlk hP hS d_Mac_needsOf_40 (by cases h; rfl) (by cases h; rfl)
    · have h := gx_neg g2 h
      refine lv_bipush (pc := 32) (v := (13 : Int32)) hx hb d_Mac_needsOf_32 (by decide) ?_
      refine lv_goto (pc := 34) (tgt := 40) hx hb d_Mac_needsOf_34 (by decide) ?_
      exact gx_iret (free := fun _ => True) hx hb hr hlk hP hS d_Mac_needsOf_40 (by cases h; rfl) (by cases h; rfl)
  have h := gx_neg g1 h
  by_cases g3 : x0 = (4 : Int32)
  · have h := gx_pos g3 h
    refine lv_lookup (pc := 1) (off := 40) (tgt := 41) hx hb d_Mac_needsOf_1 (by decide) (by rw [g3]; decide) (by decide) ?_
    refine lv_iload_n (pc := 41) hx hb d_Mac_needsOf_41 rfl (lv_at hl 1 rfl) ?_
    refine lv_iconst (pc := 42) (v := (1 : Int32)) hx hb d_Mac_needsOf_42 (by decide) ?_
    refine lv_icmp_ge (pc := 43) (tgt := 51) hx hb d_Mac_needsOf_43 (by decide) (fun g4 => ?_) (fun g4 => ?_)
    · have h := gx_pos g4 h
      refine lv_iload_n (pc := 51) hx hb d_Mac_needsOf_51 rfl (lv_at hl 1 rfl) ?_
      refine lv_iconst (pc := 52) (v := (1 : Int32)) hx hb d_Mac_needsOf_52 (by decide) ?_
      refine lv_iadd (pc := 53) hx hb d_Mac_needsOf_53 ?_
      exact gx_iret (free := fun _ => True) hx hb hr hlk hP hS d_Mac_needsOf_54 (by cases h; rfl) (by cases h; rfl)
    · have h := gx_neg g4 h
      refine lv_bipush (pc := 46) (v := (13 : Int32)) hx hb d_Mac_needsOf_46 (by decide) ?_
      refine lv_goto (pc := 48) (tgt := 54) hx hb d_Mac_needsOf_48 (by decide) ?_
      exact gx_iret (free := fun _ => True) hx hb hr hlk hP hS d_Mac_needsOf_54 (by cases h; rfl) (by cases h; rfl)
  have h := gx_neg g3 h
  have z9 : ∀ k ∈ ([(3, 27), (4, 40)] : List (Int × Int)), x0.toInt ≠ k.1 := by
    intro k hk
    simp only [List.mem_cons, List.not_mem_nil, or_false] at hk
    rcases hk with rfl | rfl
    · exact gx_ne g1 (by decide)
    · exact gx_ne g3 (by decide)
  refine lv_lookup (pc := 1) (off := 54) (tgt := 55) hx hb d_Mac_needsOf_1 (by decide) (gx_lko z9) (by decide) ?_
  refine va_gets (pc := 55) (C := "GasLedger$Machine") (n := "NEEDS") (d := "[I") (v := .ref tN) hx hb hX.2.2.1 hS hown (hts _ tb_395) (fun _ h9 => h9) d_Mac_needsOf_55 ?_
  refine lv_iload_n (pc := 58) hx hb d_Mac_needsOf_58 rfl (lv_at hl 0 rfl) ?_
  obtain ⟨g5, h⟩ := gx_if h
  refine va_ti (pc := 59) (v := .int (cx_needs x0.toNatClampNeg)) hx hb hX.2.2.2.1 hS g5 rfl d_Mac_needsOf_59 ?_
  exact gx_iret (free := fun _ => True) hx hb hr hlk hP hS d_Mac_needsOf_60 (by cases h; rfl) (by cases h; rfl)
abbrev rm_Frm_end : Room := { frames := 0, cells := 0, slots := 0, locals := 0 }
def F_Frm_end (x0 : Nat) (x1 : Int32) (x2 : Int32) (V : gx_M) : Option gx_M := (gx_let (gx_u V x0 9 (1 : Int32)) fun V1 => (if x1 = 0 ∨ x1 = 1 then (gx_let (gx_u V1 x0 10 x1) fun V2 => (gx_let (gx_u V2 x0 11 x2) fun V3 => some V3)) else none))
set_option maxRecDepth 100000 in
set_option maxHeartbeats 8000000 in
theorem k_Frm_end (l : Launch) (dC : Nat → ClassId) (dI : Nat → Nat → Nat) (cI cR cZ : ClassId) (b tP tN : Nat) {x0 : Nat} {x1 : Int32} {x2 : Int32} {V : gx_M} {q : gx_M} (hk0 : cx_kd x0 = 1) (h : F_Frm_end x0 x1 x2 V = some q) : cx_C l dC dI cI cR cZ b tP tN y_Frm_end w_Frm_end rm_Frm_end [.ref (b + x0), .int x1, .int x2] V none q := by
  refine gx_start (cc := b_Frm_end) (maxL := 3) (ret := rt_Frm_end) (by decide) rfl (Nat.le_of_ble_eq_true rfl) ?_
  intro p e s m args below meth c ls hx hb hr hts hown hlk hml hl hP hK hX hS
  have hts : ∀ w ∈ cx_tb, w.before args s = true := fun w hw => hts w (List.mem_cons_of_mem _ hw)
  have hown : s.vm.findClass "GasLedger$Frame" = some m.cls := hown
  have hl : lv_has ls 3 [(0, .ref (b + x0)), (1, .int x1), (2, .int x2)] := hl
  unfold F_Frm_end at h
  refine lv_aload_n (pc := 0) hx hb d_Frm_end_0 rfl (lv_at hl 0 rfl) ?_
  refine lv_iconst (pc := 1) (v := (1 : Int32)) hx hb d_Frm_end_1 (by decide) ?_
  obtain ⟨V1, g1, h⟩ := gx_lt h
  refine gy_put (pc := 2) (D := (dC, dI)) (ci := 1) (C := R_Frm) (T := T_Frm) (NF := 17) (ty := .boolean) hx hb hts in_Frm t_Frm ty_Frm nm_Frm hown hK hP hS x0 (cx_lt hk0 (by decide)) (sh_Frm cI cR b hk0 _) rfl 9 (by decide) (hts _ tb_152) (fun _ h9 => h9) rfl (by decide +kernel) rfl rfl (Nat.le_of_ble_eq_true rfl) 9 (sh_Frm cI cR b hk0 _) d_Frm_end_2 g1 (fun H locs hP hS => ?_)
  refine lv_aload_n (pc := 5) hx hb d_Frm_end_5 rfl (lv_at hl 0 rfl) ?_
  refine lv_iload_n (pc := 6) hx hb d_Frm_end_6 rfl (lv_at hl 1 rfl) ?_
  obtain ⟨g2, h⟩ := gx_if h
  obtain ⟨V2, g3, h⟩ := gx_lt h
  refine gy_put (pc := 7) (D := (dC, dI)) (ci := 1) (C := R_Frm) (T := T_Frm) (NF := 17) (ty := .boolean) hx hb hts in_Frm t_Frm ty_Frm nm_Frm hown hK hP hS x0 (cx_lt hk0 (by decide)) (sh_Frm cI cR b hk0 _) rfl 10 (by decide) (hts _ tb_154) (fun _ h9 => h9) rfl (by decide +kernel) (gx_nz g2) (gx_fz g2) (Nat.le_of_ble_eq_true rfl) 10 (sh_Frm cI cR b hk0 _) d_Frm_end_7 g3 (fun H locs hP hS => ?_)
  refine lv_aload_n (pc := 10) hx hb d_Frm_end_10 rfl (lv_at hl 0 rfl) ?_
  refine lv_iload_n (pc := 11) hx hb d_Frm_end_11 rfl (lv_at hl 2 rfl) ?_
  obtain ⟨V3, g4, h⟩ := gx_lt h
  refine gy_put (pc := 12) (D := (dC, dI)) (ci := 1) (C := R_Frm) (T := T_Frm) (NF := 17) (ty := .int) hx hb hts in_Frm t_Frm ty_Frm nm_Frm hown hK hP hS x0 (cx_lt hk0 (by decide)) (sh_Frm cI cR b hk0 _) rfl 11 (by decide) (hts _ tb_157) (fun _ h9 => h9) rfl (by decide +kernel) rfl rfl (Nat.le_of_ble_eq_true rfl) 11 (sh_Frm cI cR b hk0 _) d_Frm_end_12 g4 (fun H locs hP hS => ?_)
  exact gx_vret hx hb hr hlk hP hS d_Frm_end_15 (by cases h; rfl) (by cases h; rfl)
abbrev rm_Frm_fail : Room := { frames := 1, cells := 0, slots := 0, locals := 22 }
def F_Frm_fail (x0 : Nat) (V : gx_M) : Option gx_M := (gx_let (gx_u V x0 6 (0 : Int32)) fun V1 => ((F_Frm_end x0 (0 : Int32) (0 : Int32) V1).bind fun q1 => some q1))
set_option maxRecDepth 100000 in
set_option maxHeartbeats 8000000 in
theorem k_Frm_fail (l : Launch) (dC : Nat → ClassId) (dI : Nat → Nat → Nat) (cI cR cZ : ClassId) (b tP tN : Nat) {x0 : Nat} {V : gx_M} {q : gx_M} (hk0 : cx_kd x0 = 1) (h : F_Frm_fail x0 V = some q) : cx_C l dC dI cI cR cZ b tP tN y_Frm_fail w_Frm_fail rm_Frm_fail [.ref (b + x0)] V none q := by
  refine gx_start (cc := b_Frm_fail) (maxL := 1) (ret := rt_Frm_fail) (by decide) rfl (Nat.le_of_ble_eq_true rfl) ?_
  intro p e s m args below meth c ls hx hb hr hts hown hlk hml hl hP hK hX hS
  have hts : ∀ w ∈ cx_tb, w.before args s = true := fun w hw => hts w (List.mem_cons_of_mem _ hw)
  have hown : s.vm.findClass "GasLedger$Frame" = some m.cls := hown
  have hl : lv_has ls 1 [(0, .ref (b + x0))] := hl
  unfold F_Frm_fail at h
  refine lv_aload_n (pc := 0) hx hb d_Frm_fail_0 rfl (lv_at hl 0 rfl) ?_
  refine lv_iconst (pc := 1) (v := (0 : Int32)) hx hb d_Frm_fail_1 (by decide) ?_
  obtain ⟨V1, g1, h⟩ := gx_lt h
  refine gy_put (pc := 2) (D := (dC, dI)) (ci := 1) (C := R_Frm) (T := T_Frm) (NF := 17) (ty := .int) hx hb hts in_Frm t_Frm ty_Frm nm_Frm hown hK hP hS x0 (cx_lt hk0 (by decide)) (sh_Frm cI cR b hk0 _) rfl 6 (by decide) (hts _ tb_146) (fun _ h9 => h9) rfl (by decide +kernel) rfl rfl (Nat.le_of_ble_eq_true rfl) 6 (sh_Frm cI cR b hk0 _) d_Frm_fail_2 g1 (fun H locs hP hS => ?_)
  refine lv_aload_n (pc := 5) hx hb d_Frm_fail_5 rfl (lv_at hl 0 rfl) ?_
  refine lv_iconst (pc := 6) (v := (0 : Int32)) hx hb d_Frm_fail_6 (by decide) ?_
  refine lv_iconst (pc := 7) (v := (0 : Int32)) hx hb d_Frm_fail_7 (by decide) ?_
  obtain ⟨q1, g2, h⟩ := gx_bd h
  refine gx_cv (pc := 8) (va_runV (C := "GasLedger$Frame") (As := [.int (0 : Int32), .int (0 : Int32)]) (rest := []) ⟨hx, hb, hml, hown, hts⟩ (k_Frm_end l dC dI cI cR cZ b tP tN hk0 g2) (gx_cw 2 hts cd_Frm_end tb_48 tb_401 tb_402 tb_403 rfl rfl ⟨by decide, by decide, by decide +kernel⟩ ⟨Nat.le_of_ble_eq_true rfl, Nat.le_of_ble_eq_true rfl⟩) (gy_preV (cx_XX b tP tN) hX hK hP hS (cx_lt hk0 (by decide)) (sh_Frm cI cR b hk0 _) rfl) rfl rfl hl.1 rfl (lv_room (Nat.le_of_ble_eq_true rfl)) d_Frm_fail_8 ⟨Nat.zero_le _, Nat.zero_le _⟩) hS (fun H locs hP hS => ?_)
  exact gx_vret hx hb hr hlk hP hS d_Frm_fail_11 (by cases h; rfl) (by cases h; rfl)
abbrev rm_Frm_pop : Room := { frames := 0, cells := 0, slots := 0, locals := 0 }
def F_Frm_pop (x0 : Nat) (V : gx_M) : Option (Int32 × gx_M) := (if 0 < (V x0 8) then (gx_let (gx_u V x0 8 ((V x0 8) - (1 : Int32))) fun V1 => (if gx_ib (V1 x0 8) 12 then some ((V1 (x0 + 1) (V1 x0 8).toNatClampNeg), V1) else none)) else some ((0 : Int32), V))
set_option maxRecDepth 100000 in
set_option maxHeartbeats 8000000 in
theorem k_Frm_pop (l : Launch) (dC : Nat → ClassId) (dI : Nat → Nat → Nat) (cI cR cZ : ClassId) (b tP tN : Nat) {x0 : Nat} {V : gx_M} {q : (Int32 × gx_M)} (hk0 : cx_kd x0 = 1) (h : F_Frm_pop x0 V = some q) : cx_C l dC dI cI cR cZ b tP tN y_Frm_pop w_Frm_pop rm_Frm_pop [.ref (b + x0)] V (some (.int q.1)) q.2 := by
  refine gx_start (cc := b_Frm_pop) (maxL := 1) (ret := rt_Frm_pop) (by decide) rfl (Nat.le_of_ble_eq_true rfl) ?_
  intro p e s m args below meth c ls hx hb hr hts hown hlk hml hl hP hK hX hS
  have hts : ∀ w ∈ cx_tb, w.before args s = true := fun w hw => hts w (List.mem_cons_of_mem _ hw)
  have hown : s.vm.findClass "GasLedger$Frame" = some m.cls := hown
  have hl : lv_has ls 1 [(0, .ref (b + x0))] := hl
  unfold F_Frm_pop at h
  refine lv_aload_n (pc := 0) hx hb d_Frm_pop_0 rfl (lv_at hl 0 rfl) ?_
  refine va_get (pc := 1) (D := (dC, dI)) (ci := 1) (C := R_Frm) (T := T_Frm) (N := 17) hx hb hts in_Frm hown hK hP x0 (gx_at (cx_lt hk0 (by decide)) (sh_Frm cI cR b hk0 _)) rfl 8 (by decide) (hts _ tb_150) (fun _ h9 => h9) rfl d_Frm_pop_1 ?_
  refine lv_if_gt (pc := 4) (tgt := 9) hx hb d_Frm_pop_4 (by decide) (fun g1 => ?_) (fun g1 => ?_)
  · have h := gx_pos g1 h
    refine lv_aload_n (pc := 9) hx hb d_Frm_pop_9 rfl (lv_at hl 0 rfl) ?_
    refine lv_dup (pc := 10) hx hb d_Frm_pop_10 rfl ?_
    refine va_get (pc := 11) (D := (dC, dI)) (ci := 1) (C := R_Frm) (T := T_Frm) (N := 17) hx hb hts in_Frm hown hK hP x0 (gx_at (cx_lt hk0 (by decide)) (sh_Frm cI cR b hk0 _)) rfl 8 (by decide) (hts _ tb_150) (fun _ h9 => h9) rfl d_Frm_pop_11 ?_
    refine lv_iconst (pc := 14) (v := (1 : Int32)) hx hb d_Frm_pop_14 (by decide) ?_
    refine lv_isub (pc := 15) hx hb d_Frm_pop_15 ?_
    obtain ⟨V1, g2, h⟩ := gx_lt h
    refine gy_put (pc := 16) (D := (dC, dI)) (ci := 1) (C := R_Frm) (T := T_Frm) (NF := 17) (ty := .int) hx hb hts in_Frm t_Frm ty_Frm nm_Frm hown hK hP hS x0 (cx_lt hk0 (by decide)) (sh_Frm cI cR b hk0 _) rfl 8 (by decide) (hts _ tb_150) (fun _ h9 => h9) rfl (by decide +kernel) rfl rfl (Nat.le_of_ble_eq_true rfl) 8 (sh_Frm cI cR b hk0 _) d_Frm_pop_16 g2 (fun H locs hP hS => ?_)
    refine lv_aload_n (pc := 19) hx hb d_Frm_pop_19 rfl (lv_at hl 0 rfl) ?_
    refine va_get (pc := 20) (D := (dC, dI)) (ci := 1) (C := R_Frm) (T := T_Frm) (N := 17) hx hb hts in_Frm hown hK hP x0 (gx_at (cx_lt hk0 (by decide)) (sh_Frm cI cR b hk0 _)) rfl 7 (by decide) (hts _ tb_149) (fun _ h9 => h9) rfl d_Frm_pop_20 ?_
    refine lv_aload_n (pc := 23) hx hb d_Frm_pop_23 rfl (lv_at hl 0 rfl) ?_
    refine va_get (pc := 24) (D := (dC, dI)) (ci := 1) (C := R_Frm) (T := T_Frm) (N := 17) hx hb hts in_Frm hown hK hP x0 (gx_at (cx_lt hk0 (by decide)) (sh_Frm cI cR b hk0 _)) rfl 8 (by decide) (hts _ tb_150) (fun _ h9 => h9) rfl d_Frm_pop_24 ?_
    obtain ⟨g3, h⟩ := gx_if h
    refine va_iald (pc := 27) hx hb hK hP (x0 + 1) 0 (gx_at (cx_lt (to_Frm_stack hk0) (by decide)) (sh_arr cI cR b (n := 12) (to_Frm_stack hk0) _)) rfl g3 d_Frm_pop_27 ?_
    exact gx_iret (free := fun _ => True) hx hb hr hlk hP hS d_Frm_pop_28 (by cases h; rfl) (by cases h; rfl)
  · have h := gx_neg g1 h
    refine lv_iconst (pc := 7) (v := (0 : Int32)) hx hb d_Frm_pop_7 (by decide) ?_
    exact gx_iret (free := fun _ => True) hx hb hr hlk hP hS d_Frm_pop_8 (by cases h; rfl) (by cases h; rfl)
