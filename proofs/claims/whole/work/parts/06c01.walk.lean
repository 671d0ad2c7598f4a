abbrev rm_Led_isAccount : Room := { frames := 0, cells := 0, slots := 0, locals := 0 }
def F_Led_isAccount (x0 : Int32) (V : gx_M) : Option (Int32 × gx_M) := (if x0 < 0 then some ((0 : Int32), V) else (if (16 : Int32) ≤ x0 then some ((0 : Int32), V) else some ((1 : Int32), V)))
set_option maxRecDepth 100000 in
set_option maxHeartbeats 8000000 in
theorem k_Led_isAccount (l : Launch) (dC : Nat → ClassId) (dI : Nat → Nat → Nat) (cI cR cZ : ClassId) (b tP tN : Nat) {x0 : Int32} {V : gx_M} {q : (Int32 × gx_M)}  (h : F_Led_isAccount x0 V = some q) : cx_C l dC dI cI cR cZ b tP tN y_Led_isAccount w_Led_isAccount rm_Led_isAccount [.int x0] V (some (.int q.1)) q.2 := by
  refine gx_start (cc := b_Led_isAccount) (maxL := 1) (ret := rt_Led_isAccount) (by decide) rfl (Nat.le_of_ble_eq_true rfl) ?_
  intro p e s m args below meth c ls hx hb hr hts hown hlk hml hl hP hK hX hS
  have hts : ∀ w ∈ cx_tb, w.before args s = true := fun w hw => hts w (List.mem_cons_of_mem _ hw)
  have hown : s.vm.findClass "GasLedger" = some m.cls := hown
  have hl : lv_has ls 1 [(0, .int x0)] := hl
  unfold F_Led_isAccount at h
  refine lv_iload_n (pc := 0) hx hb d_Led_isAccount_0 rfl (lv_at hl 0 rfl) ?_
  refine lv_if_lt (pc := 1) (tgt := 14) hx hb d_Led_isAccount_1 (by decide) (fun g1 => ?_) (fun g1 => ?_)
  · have h := gx_pos g1 h
    refine lv_iconst (pc := 14) (v := (0 : Int32)) hx hb d_Led_isAccount_14 (by decide) ?_
    exact gx_zret (free := fun _ => True) hx hb hr hlk hP hS d_Led_isAccount_15 rfl (by cases h; rfl) (by cases h; rfl)
  · have h := gx_neg g1 h
    refine lv_iload_n (pc := 4) hx hb d_Led_isAccount_4 rfl (lv_at hl 0 rfl) ?_
    refine lv_bipush (pc := 5) (v := (16 : Int32)) hx hb d_Led_isAccount_5 (by decide) ?_
    refine lv_icmp_ge (pc := 7) (tgt := 14) hx hb d_Led_isAccount_7 (by decide) (fun g2 => ?_) (fun g2 => ?_)
    · have h := gx_pos g2 h
      refine lv_iconst (pc := 14) (v := (0 : Int32)) hx hb d_Led_isAccount_14 (by decide) ?_
      exact gx_zret (free := fun _ => True) hx hb hr hlk hP hS d_Led_isAccount_15 rfl (by cases h; rfl) (by cases h; rfl)
    · have h := gx_neg g2 h
      refine lv_iconst (pc := 10) (v := (1 : Int32)) hx hb d_Led_isAccount_10 (by decide) ?_
      refine lv_goto (pc := 11) (tgt := 15) hx hb d_Led_isAccount_11 (by decide) ?_
      exact gx_zret (free := fun _ => True) hx hb hr hlk hP hS d_Led_isAccount_15 rfl (by cases h; rfl) (by cases h; rfl)
abbrev rm_Led_fund : Room := { frames := 1, cells := 0, slots := 0, locals := 20 }
def F_Led_fund (x0 : Nat) (x1 : Int32) (x2 : Int32) (V : gx_M) : Option (Int32 × gx_M) := (if 0 < (V x0 10) then some ((0 : Int32), V) else ((F_Led_isAccount x1 V).bind fun q1 => (if q1.1 = 0 then some ((0 : Int32), q1.2) else (if x2 < 0 then some ((0 : Int32), q1.2) else (if x2 ≤ (1000000 : Int32) then (if gx_ib x1 16 then (if gx_ib x1 16 then (gx_let (gx_u q1.2 (((x0 + 1) + 1) + 1) x1.toNatClampNeg ((q1.2 (((x0 + 1) + 1) + 1) x1.toNatClampNeg) + x2)) fun V1 => some ((1 : Int32), V1)) else none) else none) else some ((0 : Int32), q1.2))))))
set_option maxRecDepth 100000 in
set_option maxHeartbeats 8000000 in
theorem k_Led_fund (l : Launch) (dC : Nat → ClassId) (dI : Nat → Nat → Nat) (cI cR cZ : ClassId) (b tP tN : Nat) {x0 : Nat} {x1 : Int32} {x2 : Int32} {V : gx_M} {q : (Int32 × gx_M)} (hk0 : cx_kd x0 = 5) (h : F_Led_fund x0 x1 x2 V = some q) : cx_C l dC dI cI cR cZ b tP tN y_Led_fund w_Led_fund rm_Led_fund [.ref (b + x0), .int x1, .int x2] V (some (.int q.1)) q.2 := by
  refine gx_start (cc := b_Led_fund) (maxL := 3) (ret := rt_Led_fund) (by decide) rfl (Nat.le_of_ble_eq_true rfl) ?_
  intro p e s m args below meth c ls hx hb hr hts hown hlk hml hl hP hK hX hS
  have hts : ∀ w ∈ cx_tb, w.before args s = true := fun w hw => hts w (List.mem_cons_of_mem _ hw)
  have hown : s.vm.findClass "GasLedger" = some m.cls := hown
  have hl : lv_has ls 3 [(0, .ref (b + x0)), (1, .int x1), (2, .int x2)] := hl
  unfold F_Led_fund at h
  refine lv_aload_n (pc := 0) hx hb d_Led_fund_0 rfl (lv_at hl 0 rfl) ?_
  refine va_get (pc := 1) (D := (dC, dI)) (ci := 5) (C := R_Led) (T := T_Led) (N := 14) hx hb hts in_Led hown hK hP x0 (gx_at (cx_lt hk0 (by decide)) (sh_Led cI cR b hk0 _)) rfl 10 (by decide) (hts _ tb_258) (fun _ h9 => h9) rfl d_Led_fund_1 ?_
  refine lv_if_gt (pc := 4) (tgt := 24) hx hb d_Led_fund_4 (by decide) (fun g1 => ?_) (fun g1 => ?_)
  · have h := gx_pos g1 h
    refine lv_iconst (pc := 24) (v := (0 : Int32)) hx hb d_Led_fund_24 (by decide) ?_
    exact gx_zret (free := fun _ => True) hx hb hr hlk hP hS d_Led_fund_25 rfl (by cases h; rfl) (by cases h; rfl)
  · have h := gx_neg g1 h
    refine lv_iload_n (pc := 7) hx hb d_Led_fund_7 rfl (lv_at hl 1 rfl) ?_
    obtain ⟨q1, g2, h⟩ := gx_bd h
    refine gx_ci (pc := 8) (va_runS (As := [.int x1]) (rest := []) ⟨hx, hb, hml, hown, hts⟩ (k_Led_isAccount l dC dI cI cR cZ b tP tN  g2) (gx_cs 1 hts cd_Led_isAccount tb_44 tb_295 tb_296 rfl rfl ⟨by decide, by decide, by decide +kernel⟩ ⟨Nat.le_of_ble_eq_true rfl, Nat.le_of_ble_eq_true rfl⟩) (gy_pre (cx_XX b tP tN) hX hK hP hS) rfl rfl hl.1 rfl (lv_room (Nat.le_of_ble_eq_true rfl)) d_Led_fund_8 ⟨Nat.zero_le _, Nat.zero_le _⟩) hS (fun H locs hP hS => ?_)
    refine lv_if_eq (pc := 11) (tgt := 24) hx hb d_Led_fund_11 (by decide) (fun g3 => ?_) (fun g3 => ?_)
    · have h := gx_pos g3 h
      refine lv_iconst (pc := 24) (v := (0 : Int32)) hx hb d_Led_fund_24 (by decide) ?_
      exact gx_zret (free := fun _ => True) hx hb hr hlk hP hS d_Led_fund_25 rfl (by cases h; rfl) (by cases h; rfl)
    · have h := gx_neg g3 h
      refine lv_iload_n (pc := 14) hx hb d_Led_fund_14 rfl (lv_at hl 2 rfl) ?_
      refine lv_if_lt (pc := 15) (tgt := 24) hx hb d_Led_fund_15 (by decide) (fun g4 => ?_) (fun g4 => ?_)
      · have h := gx_pos g4 h
        refine lv_iconst (pc := 24) (v := (0 : Int32)) hx hb d_Led_fund_24 (by decide) ?_
        exact gx_zret (free := fun _ => True) hx hb hr hlk hP hS d_Led_fund_25 rfl (by cases h; rfl) (by cases h; rfl)
      · have h := gx_neg g4 h
        refine lv_iload_n (pc := 18) hx hb d_Led_fund_18 rfl (lv_at hl 2 rfl) ?_
        refine lv_ldc (pc := 19) (v := (1000000 : Int32)) hx hb hown (hts _ tb_298) d_Led_fund_19 ?_
        refine lv_icmp_le (pc := 21) (tgt := 26) hx hb d_Led_fund_21 (by decide) (fun g5 => ?_) (fun g5 => ?_)
        · have h := gx_pos g5 h
          refine lv_aload_n (pc := 26) hx hb d_Led_fund_26 rfl (lv_at hl 0 rfl) ?_
          refine va_get (pc := 27) (D := (dC, dI)) (ci := 5) (C := R_Led) (T := T_Led) (N := 14) hx hb hts in_Led hown hK hP x0 (gx_at (cx_lt hk0 (by decide)) (sh_Led cI cR b hk0 _)) rfl 0 (by decide) (hts _ tb_248) (fun _ h9 => h9) rfl d_Led_fund_27 ?_
          refine va_get (pc := 30) (D := (dC, dI)) (ci := 3) (C := R_Mac) (T := T_Mac) (N := 6) hx hb hts in_Mac hown hK hP (x0 + 1) (gx_at (cx_lt (to_Led_machine hk0) (by decide)) (sh_Mac cI cR b (to_Led_machine hk0) _)) rfl 0 (by decide) (hts _ tb_202) (fun _ h9 => h9) rfl d_Led_fund_30 ?_
          refine va_get (pc := 33) (D := (dC, dI)) (ci := 0) (C := R_Acc) (T := T_Acc) (N := 6) hx hb hts in_Acc hown hK hP ((x0 + 1) + 1) (gx_at (cx_lt (to_Mac_accounts (to_Led_machine hk0)) (by decide)) (sh_Acc cI cR b (to_Mac_accounts (to_Led_machine hk0)) _)) rfl 0 (by decide) (hts _ tb_75) (fun _ h9 => h9) rfl d_Led_fund_33 ?_
          refine lv_iload_n (pc := 36) hx hb d_Led_fund_36 rfl (lv_at hl 1 rfl) ?_
          refine lv_dup2_11 (pc := 37) hx hb d_Led_fund_37 rfl rfl ?_
          obtain ⟨g6, h⟩ := gx_if h
          refine va_iald (pc := 38) hx hb hK hP (((x0 + 1) + 1) + 1) 0 (gx_at (cx_lt (to_Acc_balances (to_Mac_accounts (to_Led_machine hk0))) (by decide)) (sh_arr cI cR b (n := 16) (to_Acc_balances (to_Mac_accounts (to_Led_machine hk0))) _)) rfl g6 d_Led_fund_38 ?_
          refine lv_iload_n (pc := 39) hx hb d_Led_fund_39 rfl (lv_at hl 2 rfl) ?_
          refine lv_iadd (pc := 40) hx hb d_Led_fund_40 ?_
          obtain ⟨g7, h⟩ := gx_if h
          obtain ⟨V1, g8, h⟩ := gx_lt h
          refine gx_asi (pc := 41) hx hb hK hP hS (((x0 + 1) + 1) + 1) 0 (cx_lt (to_Acc_balances (to_Mac_accounts (to_Led_machine hk0))) (by decide)) (fun _ => sh_arr cI cR b (n := 16) (to_Acc_balances (to_Mac_accounts (to_Led_machine hk0))) _) rfl g7 d_Led_fund_41 g8 (fun H locs hP hS => ?_)
          refine lv_iconst (pc := 42) (v := (1 : Int32)) hx hb d_Led_fund_42 (by decide) ?_
          exact gx_zret (free := fun _ => True) hx hb hr hlk hP hS d_Led_fund_43 rfl (by cases h; rfl) (by cases h; rfl)
        · have h := gx_neg g5 h
          refine lv_iconst (pc := 24) (v := (0 : Int32)) hx hb d_Led_fund_24 (by decide) ?_
          exact gx_zret (free := fun _ => True) hx hb hr hlk hP hS d_Led_fund_25 rfl (by cases h; rfl) (by cases h; rfl)
abbrev rm_Acc_append : Room := { frames := 0, cells := 0, slots := 0, locals := 0 }
def F_Acc_append (x0 : Nat) (x1 : Int32) (x2 : Int32) (V : gx_M) : Option (Int32 × gx_M) := (if gx_ib x1 16 then (if (V (x0 + 3) x1.toNatClampNeg) < (24 : Int32) then (if gx_ib x1 16 then (if gx_ib ((x1 * (24 : Int32)) + (V (x0 + 3) x1.toNatClampNeg)) 384 then (gx_let (gx_u V (x0 + 4) ((x1 * (24 : Int32)) + (V (x0 + 3) x1.toNatClampNeg)).toNatClampNeg x2) fun V1 => (if gx_ib x1 16 then (if gx_ib x1 16 then (gx_let (gx_u V1 (x0 + 3) x1.toNatClampNeg ((V1 (x0 + 3) x1.toNatClampNeg) + (1 : Int32))) fun V2 => some ((1 : Int32), V2)) else none) else none)) else none) else none) else some ((0 : Int32), V)) else none)
set_option maxRecDepth 100000 in
set_option maxHeartbeats 8000000 in
theorem k_Acc_append (l : Launch) (dC : Nat → ClassId) (dI : Nat → Nat → Nat) (cI cR cZ : ClassId) (b tP tN : Nat) {x0 : Nat} {x1 : Int32} {x2 : Int32} {V : gx_M} {q : (Int32 × gx_M)} (hk0 : cx_kd x0 = 0) (h : F_Acc_append x0 x1 x2 V = some q) : cx_C l dC dI cI cR cZ b tP tN y_Acc_append w_Acc_append rm_Acc_append [.ref (b + x0), .int x1, .int x2] V (some (.int q.1)) q.2 := by
  refine gx_start (cc := b_Acc_append) (maxL := 3) (ret := rt_Acc_append) (by decide) rfl (Nat.le_of_ble_eq_true rfl) ?_
  intro p e s m args below meth c ls hx hb hr hts hown hlk hml hl hP hK hX hS
  have hts : ∀ w ∈ cx_tb, w.before args s = true := fun w hw => hts w (List.mem_cons_of_mem _ hw)
  have hown : s.vm.findClass "GasLedger$Accounts" = some m.cls := hown
  have hl : lv_has ls 3 [(0, .ref (b + x0)), (1, .int x1), (2, .int x2)] := hl
  unfold F_Acc_append at h
  refine lv_aload_n (pc := 0) hx hb d_Acc_append_0 rfl (lv_at hl 0 rfl) ?_
  refine va_get (pc := 1) (D := (dC, dI)) (ci := 0) (C := R_Acc) (T := T_Acc) (N := 6) hx hb hts in_Acc hown hK hP x0 (gx_at (cx_lt hk0 (by decide)) (sh_Acc cI cR b hk0 _)) rfl 2 (by decide) (hts _ tb_80) (fun _ h9 => h9) rfl d_Acc_append_1 ?_
  refine lv_iload_n (pc := 4) hx hb d_Acc_append_4 rfl (lv_at hl 1 rfl) ?_
  obtain ⟨g1, h⟩ := gx_if h
  refine va_iald (pc := 5) hx hb hK hP (x0 + 3) 0 (gx_at (cx_lt (to_Acc_sizes hk0) (by decide)) (sh_arr cI cR b (n := 16) (to_Acc_sizes hk0) _)) rfl g1 d_Acc_append_5 ?_
  refine lv_bipush (pc := 6) (v := (24 : Int32)) hx hb d_Acc_append_6 (by decide) ?_
  refine lv_icmp_lt (pc := 8) (tgt := 13) hx hb d_Acc_append_8 (by decide) (fun g2 => ?_) (fun g2 => ?_)
  · have h := gx_pos g2 h
    refine lv_aload_n (pc := 13) hx hb d_Acc_append_13 rfl (lv_at hl 0 rfl) ?_
    refine va_get (pc := 14) (D := (dC, dI)) (ci := 0) (C := R_Acc) (T := T_Acc) (N := 6) hx hb hts in_Acc hown hK hP x0 (gx_at (cx_lt hk0 (by decide)) (sh_Acc cI cR b hk0 _)) rfl 3 (by decide) (hts _ tb_83) (fun _ h9 => h9) rfl d_Acc_append_14 ?_
    refine lv_iload_n (pc := 17) hx hb d_Acc_append_17 rfl (lv_at hl 1 rfl) ?_
    refine lv_bipush (pc := 18) (v := (24 : Int32)) hx hb d_Acc_append_18 (by decide) ?_
    refine lv_imul (pc := 20) hx hb d_Acc_append_20 ?_
    refine lv_aload_n (pc := 21) hx hb d_Acc_append_21 rfl (lv_at hl 0 rfl) ?_
    refine va_get (pc := 22) (D := (dC, dI)) (ci := 0) (C := R_Acc) (T := T_Acc) (N := 6) hx hb hts in_Acc hown hK hP x0 (gx_at (cx_lt hk0 (by decide)) (sh_Acc cI cR b hk0 _)) rfl 2 (by decide) (hts _ tb_80) (fun _ h9 => h9) rfl d_Acc_append_22 ?_
    refine lv_iload_n (pc := 25) hx hb d_Acc_append_25 rfl (lv_at hl 1 rfl) ?_
    obtain ⟨g3, h⟩ := gx_if h
    refine va_iald (pc := 26) hx hb hK hP (x0 + 3) 0 (gx_at (cx_lt (to_Acc_sizes hk0) (by decide)) (sh_arr cI cR b (n := 16) (to_Acc_sizes hk0) _)) rfl g3 d_Acc_append_26 ?_
    refine lv_iadd (pc := 27) hx hb d_Acc_append_27 ?_
    refine lv_iload_n (pc := 28) hx hb d_Acc_append_28 rfl (lv_at hl 2 rfl) ?_
    obtain ⟨g4, h⟩ := gx_if h
    obtain ⟨V1, g5, h⟩ := gx_lt h
    refine gx_asi (pc := 29) hx hb hK hP hS (x0 + 4) 0 (cx_lt (to_Acc_words hk0) (by decide)) (fun _ => sh_arr cI cR b (n := 384) (to_Acc_words hk0) _) rfl g4 d_Acc_append_29 g5 (fun H locs hP hS => ?_)
    refine lv_aload_n (pc := 30) hx hb d_Acc_append_30 rfl (lv_at hl 0 rfl) ?_
    refine va_get (pc := 31) (D := (dC, dI)) (ci := 0) (C := R_Acc) (T := T_Acc) (N := 6) hx hb hts in_Acc hown hK hP x0 (gx_at (cx_lt hk0 (by decide)) (sh_Acc cI cR b hk0 _)) rfl 2 (by decide) (hts _ tb_80) (fun _ h9 => h9) rfl d_Acc_append_31 ?_
    refine lv_iload_n (pc := 34) hx hb d_Acc_append_34 rfl (lv_at hl 1 rfl) ?_
    refine lv_dup2_11 (pc := 35) hx hb d_Acc_append_35 rfl rfl ?_
    obtain ⟨g6, h⟩ := gx_if h
    refine va_iald (pc := 36) hx hb hK hP (x0 + 3) 0 (gx_at (cx_lt (to_Acc_sizes hk0) (by decide)) (sh_arr cI cR b (n := 16) (to_Acc_sizes hk0) _)) rfl g6 d_Acc_append_36 ?_
    refine lv_iconst (pc := 37) (v := (1 : Int32)) hx hb d_Acc_append_37 (by decide) ?_
    refine lv_iadd (pc := 38) hx hb d_Acc_append_38 ?_
    obtain ⟨g7, h⟩ := gx_if h
    obtain ⟨V2, g8, h⟩ := gx_lt h
    refine gx_asi (pc := 39) hx hb hK hP hS (x0 + 3) 0 (cx_lt (to_Acc_sizes hk0) (by decide)) (fun _ => sh_arr cI cR b (n := 16) (to_Acc_sizes hk0) _) rfl g7 d_Acc_append_39 g8 (fun H locs hP hS => ?_)
    refine lv_iconst (pc := 40) (v := (1 : Int32)) hx hb d_Acc_append_40 (by decide) ?_
    exact gx_zret (free := fun _ => True) hx hb hr hlk hP hS d_Acc_append_41 rfl (by cases h; rfl) (by cases h; rfl)
  · have h := gx_neg g2 h
    refine lv_iconst (pc := 11) (v := (0 : Int32)) hx hb d_Acc_append_11 (by decide) ?_
    exact gx_zret (free := fun _ => True) hx hb hr hlk hP hS d_Acc_append_12 rfl (by cases h; rfl) (by cases h; rfl)
abbrev rm_Led_code : Room := { frames := 1, cells := 0, slots := 0, locals := 22 }
def F_Led_code (x0 : Nat) (x1 : Int32) (x2 : Int32) (V : gx_M) : Option (Int32 × gx_M) := (if 0 < (V x0 10) then some ((0 : Int32), V) else ((F_Led_isAccount x1 V).bind fun q1 => (if q1.1 = 0 then some ((0 : Int32), q1.2) else ((F_Acc_append ((x0 + 1) + 1) x1 x2 q1.2).bind fun q2 => (if q2.1 = 0 ∨ q2.1 = 1 then some (q2.1, q2.2) else none)))))
set_option maxRecDepth 100000 in
set_option maxHeartbeats 8000000 in
theorem k_Led_code (l : Launch) (dC : Nat → ClassId) (dI : Nat → Nat → Nat) (cI cR cZ : ClassId) (b tP tN : Nat) {x0 : Nat} {x1 : Int32} {x2 : Int32} {V : gx_M} {q : (Int32 × gx_M)} (hk0 : cx_kd x0 = 5) (h : F_Led_code x0 x1 x2 V = some q) : cx_C l dC dI cI cR cZ b tP tN y_Led_code w_Led_code rm_Led_code [.ref (b + x0), .int x1, .int x2] V (some (.int q.1)) q.2 := by
  refine gx_start (cc := b_Led_code) (maxL := 3) (ret := rt_Led_code) (by decide) rfl (Nat.le_of_ble_eq_true rfl) ?_
  intro p e s m args below meth c ls hx hb hr hts hown hlk hml hl hP hK hX hS
  have hts : ∀ w ∈ cx_tb, w.before args s = true := fun w hw => hts w (List.mem_cons_of_mem _ hw)
  have hown : s.vm.findClass "GasLedger" = some m.cls := hown
  have hl : lv_has ls 3 [(0, .ref (b + x0)), (1, .int x1), (2, .int x2)] := hl
  unfold F_Led_code at h
  refine lv_aload_n (pc := 0) hx hb d_Led_code_0 rfl (lv_at hl 0 rfl) ?_
  refine va_get (pc := 1) (D := (dC, dI)) (ci := 5) (C := R_Led) (T := T_Led) (N := 14) hx hb hts in_Led hown hK hP x0 (gx_at (cx_lt hk0 (by decide)) (sh_Led cI cR b hk0 _)) rfl 10 (by decide) (hts _ tb_258) (fun _ h9 => h9) rfl d_Led_code_1 ?_
  refine lv_if_gt (pc := 4) (tgt := 14) hx hb d_Led_code_4 (by decide) (fun g1 => ?_) (fun g1 => ?_)
  · have h := gx_pos g1 h
    refine lv_iconst (pc := 14) (v := (0 : Int32)) hx hb d_Led_code_14 (by decide) ?_
    exact gx_zret (free := fun _ => True) hx hb hr hlk hP hS d_Led_code_15 rfl (by cases h; rfl) (by cases h; rfl)
  · have h := gx_neg g1 h
    refine lv_iload_n (pc := 7) hx hb d_Led_code_7 rfl (lv_at hl 1 rfl) ?_
    obtain ⟨q1, g2, h⟩ := gx_bd h
    refine gx_ci (pc := 8) (va_runS (As := [.int x1]) (rest := []) ⟨hx, hb, hml, hown, hts⟩ (k_Led_isAccount l dC dI cI cR cZ b tP tN  g2) (gx_cs 1 hts cd_Led_isAccount tb_44 tb_295 tb_296 rfl rfl ⟨by decide, by decide, by decide +kernel⟩ ⟨Nat.le_of_ble_eq_true rfl, Nat.le_of_ble_eq_true rfl⟩) (gy_pre (cx_XX b tP tN) hX hK hP hS) rfl rfl hl.1 rfl (lv_room (Nat.le_of_ble_eq_true rfl)) d_Led_code_8 ⟨Nat.zero_le _, Nat.zero_le _⟩) hS (fun H locs hP hS => ?_)
    refine lv_if_ne (pc := 11) (tgt := 16) hx hb d_Led_code_11 (by decide) (fun g3 => ?_) (fun g3 => ?_)
    · have h := gx_neg g3 h
      refine lv_aload_n (pc := 16) hx hb d_Led_code_16 rfl (lv_at hl 0 rfl) ?_
      refine va_get (pc := 17) (D := (dC, dI)) (ci := 5) (C := R_Led) (T := T_Led) (N := 14) hx hb hts in_Led hown hK hP x0 (gx_at (cx_lt hk0 (by decide)) (sh_Led cI cR b hk0 _)) rfl 0 (by decide) (hts _ tb_248) (fun _ h9 => h9) rfl d_Led_code_17 ?_
      refine va_get (pc := 20) (D := (dC, dI)) (ci := 3) (C := R_Mac) (T := T_Mac) (N := 6) hx hb hts in_Mac hown hK hP (x0 + 1) (gx_at (cx_lt (to_Led_machine hk0) (by decide)) (sh_Mac cI cR b (to_Led_machine hk0) _)) rfl 0 (by decide) (hts _ tb_202) (fun _ h9 => h9) rfl d_Led_code_20 ?_
      refine lv_iload_n (pc := 23) hx hb d_Led_code_23 rfl (lv_at hl 1 rfl) ?_
      refine lv_iload_n (pc := 24) hx hb d_Led_code_24 rfl (lv_at hl 2 rfl) ?_
      obtain ⟨q2, g4, h⟩ := gx_bd h
      refine gx_ci (pc := 25) (va_runV (C := "GasLedger$Accounts") (As := [.int x1, .int x2]) (rest := []) ⟨hx, hb, hml, hown, hts⟩ (k_Acc_append l dC dI cI cR cZ b tP tN (to_Mac_accounts (to_Led_machine hk0)) g4) (gx_cw 2 hts cd_Acc_append tb_46 tb_303 tb_304 tb_305 rfl rfl ⟨by decide, by decide, by decide +kernel⟩ ⟨Nat.le_of_ble_eq_true rfl, Nat.le_of_ble_eq_true rfl⟩) (gy_preV (cx_XX b tP tN) hX hK hP hS (cx_lt (to_Mac_accounts (to_Led_machine hk0)) (by decide)) (sh_Acc cI cR b (to_Mac_accounts (to_Led_machine hk0)) _) rfl) rfl rfl hl.1 rfl (lv_room (Nat.le_of_ble_eq_true rfl)) d_Led_code_25 ⟨Nat.zero_le _, Nat.zero_le _⟩) hS (fun H locs hP hS => ?_)
      obtain ⟨g5, h⟩ := gx_if h
      exact gx_zret (free := fun _ => True) hx hb hr hlk hP hS d_Led_code_28 (gx_nz g5) (by cases h; rfl) (by cases h; rfl)
    · have h := gx_pos g3 h
      refine lv_iconst (pc := 14) (v := (0 : Int32)) hx hb d_Led_code_14 (by decide) ?_
      exact gx_zret (free := fun _ => True) hx hb hr hlk hP hS d_Led_code_15 rfl (by cases h; rfl) (by cases h; rfl)
abbrev rm_Led_isSlot : Room := { frames := 0, cells := 0, slots := 0, locals := 0 }
def F_Led_isSlot (x0 : Int32) (V : gx_M) : Option (Int32 × gx_M) := (if x0 < 0 then some ((0 : Int32), V) else (if (8 : Int32) ≤ x0 then some ((0 : Int32), V) else some ((1 : Int32), V)))
set_option maxRecDepth 100000 in
set_option maxHeartbeats 8000000 in
theorem k_Led_isSlot (l : Launch) (dC : Nat → ClassId) (dI : Nat → Nat → Nat) (cI cR cZ : ClassId) (b tP tN : Nat) {x0 : Int32} {V : gx_M} {q : (Int32 × gx_M)}  (h : F_Led_isSlot x0 V = some q) : cx_C l dC dI cI cR cZ b tP tN y_Led_isSlot w_Led_isSlot rm_Led_isSlot [.int x0] V (some (.int q.1)) q.2 := by
  refine gx_start (cc := b_Led_isSlot) (maxL := 1) (ret := rt_Led_isSlot) (by decide) rfl (Nat.le_of_ble_eq_true rfl) ?_
  intro p e s m args below meth c ls hx hb hr hts hown hlk hml hl hP hK hX hS
  have hts : ∀ w ∈ cx_tb, w.before args s = true := fun w hw => hts w (List.mem_cons_of_mem _ hw)
  have hown : s.vm.findClass "GasLedger" = some m.cls := hown
  have hl : lv_has ls 1 [(0, .int x0)] := hl
  unfold F_Led_isSlot at h
  refine lv_iload_n (pc := 0) hx hb d_Led_isSlot_0 rfl (lv_at hl 0 rfl) ?_
  refine lv_if_lt (pc := 1) (tgt := 14) hx hb d_Led_isSlot_1 (by decide) (fun g1 => ?_) (fun g1 => ?_)
  · have h := gx_pos g1 h
    refine lv_iconst (pc := 14) (v := (0 : Int32)) hx hb d_Led_isSlot_14 (by decide) ?_
    exact gx_zret (free := fun _ => True) hx hb hr hlk hP hS d_Led_isSlot_15 rfl (by cases h; rfl) (by cases h; rfl)
  · have h := gx_neg g1 h
    refine lv_iload_n (pc := 4) hx hb d_Led_isSlot_4 rfl (lv_at hl 0 rfl) ?_
    refine lv_bipush (pc := 5) (v := (8 : Int32)) hx hb d_Led_isSlot_5 (by decide) ?_
    refine lv_icmp_ge (pc := 7) (tgt := 14) hx hb d_Led_isSlot_7 (by decide) (fun g2 => ?_) (fun g2 => ?_)
    · have h := gx_pos g2 h
      refine lv_iconst (pc := 14) (v := (0 : Int32)) hx hb d_Led_isSlot_14 (by decide) ?_
      exact gx_zret (free := fun _ => True) hx hb hr hlk hP hS d_Led_isSlot_15 rfl (by cases h; rfl) (by cases h; rfl)
    · have h := gx_neg g2 h
      refine lv_iconst (pc := 10) (v := (1 : Int32)) hx hb d_Led_isSlot_10 (by decide) ?_
      refine lv_goto (pc := 11) (tgt := 15) hx hb d_Led_isSlot_11 (by decide) ?_
      exact gx_zret (free := fun _ => True) hx hb hr hlk hP hS d_Led_isSlot_15 rfl (by cases h; rfl) (by cases h; rfl)
abbrev rm_Led_preset : Room := { frames := 1, cells := 0, slots := 0, locals := 20 }
def F_Led_preset (x0 : Nat) (x1 : Int32) (x2 : Int32) (x3 : Int32) (V : gx_M) : Option (Int32 × gx_M) := (if 0 < (V x0 10) then some ((0 : Int32), V) else ((F_Led_isAccount x1 V).bind fun q1 => (if q1.1 = 0 then some ((0 : Int32), q1.2) else ((F_Led_isSlot x2 q1.2).bind fun q2 => (if q2.1 = 0 then some ((0 : Int32), q2.2) else (if gx_ib ((x1 * (8 : Int32)) + x2) 128 then (gx_let (gx_u q2.2 (((x0 + 1) + 1) + 5) ((x1 * (8 : Int32)) + x2).toNatClampNeg x3) fun V1 => some ((1 : Int32), V1)) else none))))))
set_option maxRecDepth 100000 in
set_option maxHeartbeats 8000000 in
theorem k_Led_preset (l : Launch) (dC : Nat → ClassId) (dI : Nat → Nat → Nat) (cI cR cZ : ClassId) (b tP tN : Nat) {x0 : Nat} {x1 : Int32} {x2 : Int32} {x3 : Int32} {V : gx_M} {q : (Int32 × gx_M)} (hk0 : cx_kd x0 = 5) (h : F_Led_preset x0 x1 x2 x3 V = some q) : cx_C l dC dI cI cR cZ b tP tN y_Led_preset w_Led_preset rm_Led_preset [.ref (b + x0), .int x1, .int x2, .int x3] V (some (.int q.1)) q.2 := by
  refine gx_start (cc := b_Led_preset) (maxL := 4) (ret := rt_Led_preset) (by decide) rfl (Nat.le_of_ble_eq_true rfl) ?_
  intro p e s m args below meth c ls hx hb hr hts hown hlk hml hl hP hK hX hS
  have hts : ∀ w ∈ cx_tb, w.before args s = true := fun w hw => hts w (List.mem_cons_of_mem _ hw)
  have hown : s.vm.findClass "GasLedger" = some m.cls := hown
  have hl : lv_has ls 4 [(0, .ref (b + x0)), (1, .int x1), (2, .int x2), (3, .int x3)] := hl
  unfold F_Led_preset at h
  refine lv_aload_n (pc := 0) hx hb d_Led_preset_0 rfl (lv_at hl 0 rfl) ?_
  refine va_get (pc := 1) (D := (dC, dI)) (ci := 5) (C := R_Led) (T := T_Led) (N := 14) hx hb hts in_Led hown hK hP x0 (gx_at (cx_lt hk0 (by decide)) (sh_Led cI cR b hk0 _)) rfl 10 (by decide) (hts _ tb_258) (fun _ h9 => h9) rfl d_Led_preset_1 ?_
  refine lv_if_gt (pc := 4) (tgt := 21) hx hb d_Led_preset_4 (by decide) (fun g1 => ?_) (fun g1 => ?_)
  · have h := gx_pos g1 h
    refine lv_iconst (pc := 21) (v := (0 : Int32)) hx hb d_Led_preset_21 (by decide) ?_
    exact gx_zret (free := fun _ => True) hx hb hr hlk hP hS d_Led_preset_22 rfl (by cases h; rfl) (by cases h; rfl)
  · have h := gx_neg g1 h
    refine lv_iload_n (pc := 7) hx hb d_Led_preset_7 rfl (lv_at hl 1 rfl) ?_
    obtain ⟨q1, g2, h⟩ := gx_bd h
    refine gx_ci (pc := 8) (va_runS (As := [.int x1]) (rest := []) ⟨hx, hb, hml, hown, hts⟩ (k_Led_isAccount l dC dI cI cR cZ b tP tN  g2) (gx_cs 1 hts cd_Led_isAccount tb_44 tb_295 tb_296 rfl rfl ⟨by decide, by decide, by decide +kernel⟩ ⟨Nat.le_of_ble_eq_true rfl, Nat.le_of_ble_eq_true rfl⟩) (gy_pre (cx_XX b tP tN) hX hK hP hS) rfl rfl hl.1 rfl (lv_room (Nat.le_of_ble_eq_true rfl)) d_Led_preset_8 ⟨Nat.zero_le _, Nat.zero_le _⟩) hS (fun H locs hP hS => ?_)
    refine lv_if_eq (pc := 11) (tgt := 21) hx hb d_Led_preset_11 (by decide) (fun g3 => ?_) (fun g3 => ?_)
    · have h := gx_pos g3 h
      refine lv_iconst (pc := 21) (v := (0 : Int32)) hx hb d_Led_preset_21 (by decide) ?_
      exact gx_zret (free := fun _ => True) hx hb hr hlk hP hS d_Led_preset_22 rfl (by cases h; rfl) (by cases h; rfl)
    · have h := gx_neg g3 h
      refine lv_iload_n (pc := 14) hx hb d_Led_preset_14 rfl (lv_at hl 2 rfl) ?_
      obtain ⟨q2, g4, h⟩ := gx_bd h
      refine gx_ci (pc := 15) (va_runS (As := [.int x2]) (rest := []) ⟨hx, hb, hml, hown, hts⟩ (k_Led_isSlot l dC dI cI cR cZ b tP tN  g4) (gx_cs 1 hts cd_Led_isSlot tb_44 tb_311 tb_312 rfl rfl ⟨by decide, by decide, by decide +kernel⟩ ⟨Nat.le_of_ble_eq_true rfl, Nat.le_of_ble_eq_true rfl⟩) (gy_pre (cx_XX b tP tN) hX hK hP hS) rfl rfl hl.1 rfl (lv_room (Nat.le_of_ble_eq_true rfl)) d_Led_preset_15 ⟨Nat.zero_le _, Nat.zero_le _⟩) hS (fun H locs hP hS => ?_)
      refine lv_if_ne (pc := 18) (tgt := 23) hx hb d_Led_preset_18 (by decide) (fun g5 => ?_) (fun g5 => ?_)
      · have h := gx_neg g5 h
        refine lv_aload_n (pc := 23) hx hb d_Led_preset_23 rfl (lv_at hl 0 rfl) ?_
        refine va_get (pc := 24) (D := (dC, dI)) (ci := 5) (C := R_Led) (T := T_Led) (N := 14) hx hb hts in_Led hown hK hP x0 (gx_at (cx_lt hk0 (by decide)) (sh_Led cI cR b hk0 _)) rfl 0 (by decide) (hts _ tb_248) (fun _ h9 => h9) rfl d_Led_preset_24 ?_
        refine va_get (pc := 27) (D := (dC, dI)) (ci := 3) (C := R_Mac) (T := T_Mac) (N := 6) hx hb hts in_Mac hown hK hP (x0 + 1) (gx_at (cx_lt (to_Led_machine hk0) (by decide)) (sh_Mac cI cR b (to_Led_machine hk0) _)) rfl 0 (by decide) (hts _ tb_202) (fun _ h9 => h9) rfl d_Led_preset_27 ?_
        refine va_get (pc := 30) (D := (dC, dI)) (ci := 0) (C := R_Acc) (T := T_Acc) (N := 6) hx hb hts in_Acc hown hK hP ((x0 + 1) + 1) (gx_at (cx_lt (to_Mac_accounts (to_Led_machine hk0)) (by decide)) (sh_Acc cI cR b (to_Mac_accounts (to_Led_machine hk0)) _)) rfl 4 (by decide) (hts _ tb_85) (fun _ h9 => h9) rfl d_Led_preset_30 ?_
        refine lv_iload_n (pc := 33) hx hb d_Led_preset_33 rfl (lv_at hl 1 rfl) ?_
        refine lv_bipush (pc := 34) (v := (8 : Int32)) hx hb d_Led_preset_34 (by decide) ?_
        refine lv_imul (pc := 36) hx hb d_Led_preset_36 ?_
        refine lv_iload_n (pc := 37) hx hb d_Led_preset_37 rfl (lv_at hl 2 rfl) ?_
        refine lv_iadd (pc := 38) hx hb d_Led_preset_38 ?_
        refine lv_iload_n (pc := 39) hx hb d_Led_preset_39 rfl (lv_at hl 3 rfl) ?_
        obtain ⟨g6, h⟩ := gx_if h
        obtain ⟨V1, g7, h⟩ := gx_lt h
        refine gx_asi (pc := 40) hx hb hK hP hS (((x0 + 1) + 1) + 5) 0 (cx_lt (to_Acc_slots (to_Mac_accounts (to_Led_machine hk0))) (by decide)) (fun _ => sh_arr cI cR b (n := 128) (to_Acc_slots (to_Mac_accounts (to_Led_machine hk0))) _) rfl g6 d_Led_preset_40 g7 (fun H locs hP hS => ?_)
        refine lv_iconst (pc := 41) (v := (1 : Int32)) hx hb d_Led_preset_41 (by decide) ?_
        exact gx_zret (free := fun _ => True) hx hb hr hlk hP hS d_Led_preset_42 rfl (by cases h; rfl) (by cases h; rfl)
      · have h := gx_pos g5 h
        refine lv_iconst (pc := 21) (v := (0 : Int32)) hx hb d_Led_preset_21 (by decide) ?_
        exact gx_zret (free := fun _ => True) hx hb hr hlk hP hS d_Led_preset_22 rfl (by cases h; rfl) (by cases h; rfl)
abbrev rm_Log_cutBackTo : Room := { frames := 0, cells := 0, slots := 0, locals := 0 }
def F_Log_cutBackTo (x0 : Nat) (x1 : Int32) (x2 : Int32) (V : gx_M) : Option gx_M := (gx_let (gx_u V x0 2 x1) fun V1 => (gx_let (gx_u V1 x0 3 x2) fun V2 => some V2))
set_option maxRecDepth 100000 in
set_option maxHeartbeats 8000000 in
theorem k_Log_cutBackTo (l : Launch) (dC : Nat → ClassId) (dI : Nat → Nat → Nat) (cI cR cZ : ClassId) (b tP tN : Nat) {x0 : Nat} {x1 : Int32} {x2 : Int32} {V : gx_M} {q : gx_M} (hk0 : cx_kd x0 = 2) (h : F_Log_cutBackTo x0 x1 x2 V = some q) : cx_C l dC dI cI cR cZ b tP tN y_Log_cutBackTo w_Log_cutBackTo rm_Log_cutBackTo [.ref (b + x0), .int x1, .int x2] V none q := by
  refine gx_start (cc := b_Log_cutBackTo) (maxL := 3) (ret := rt_Log_cutBackTo) (by decide) rfl (Nat.le_of_ble_eq_true rfl) ?_
  intro p e s m args below meth c ls hx hb hr hts hown hlk hml hl hP hK hX hS
  have hts : ∀ w ∈ cx_tb, w.before args s = true := fun w hw => hts w (List.mem_cons_of_mem _ hw)
  have hown : s.vm.findClass "GasLedger$Logs" = some m.cls := hown
  have hl : lv_has ls 3 [(0, .ref (b + x0)), (1, .int x1), (2, .int x2)] := hl
  unfold F_Log_cutBackTo at h
  refine lv_aload_n (pc := 0) hx hb d_Log_cutBackTo_0 rfl (lv_at hl 0 rfl) ?_
  refine lv_iload_n (pc := 1) hx hb d_Log_cutBackTo_1 rfl (lv_at hl 1 rfl) ?_
  obtain ⟨V1, g1, h⟩ := gx_lt h
  refine gy_put (pc := 2) (D := (dC, dI)) (ci := 2) (C := R_Log) (T := T_Log) (NF := 4) (ty := .int) hx hb hts in_Log t_Log ty_Log nm_Log hown hK hP hS x0 (cx_lt hk0 (by decide)) (sh_Log cI cR b hk0 _) rfl 2 (by decide) (hts _ tb_110) (fun _ h9 => h9) rfl (by decide +kernel) rfl rfl (Nat.le_of_ble_eq_true rfl) 2 (sh_Log cI cR b hk0 _) d_Log_cutBackTo_2 g1 (fun H locs hP hS => ?_)
  refine lv_aload_n (pc := 5) hx hb d_Log_cutBackTo_5 rfl (lv_at hl 0 rfl) ?_
  refine lv_iload_n (pc := 6) hx hb d_Log_cutBackTo_6 rfl (lv_at hl 2 rfl) ?_
  obtain ⟨V2, g2, h⟩ := gx_lt h
  refine gy_put (pc := 7) (D := (dC, dI)) (ci := 2) (C := R_Log) (T := T_Log) (NF := 4) (ty := .int) hx hb hts in_Log t_Log ty_Log nm_Log hown hK hP hS x0 (cx_lt hk0 (by decide)) (sh_Log cI cR b hk0 _) rfl 3 (by decide) (hts _ tb_113) (fun _ h9 => h9) rfl (by decide +kernel) rfl rfl (Nat.le_of_ble_eq_true rfl) 3 (sh_Log cI cR b hk0 _) d_Log_cutBackTo_7 g2 (fun H locs hP hS => ?_)
  exact gx_vret hx hb hr hlk hP hS d_Log_cutBackTo_10 (by cases h; rfl) (by cases h; rfl)
abbrev rm_Acc_copyFrom : Room := { frames := 1, cells := 0, slots := 0, locals := 64 }
def F_Acc_copyFrom (x0 : Nat) (x1 : Nat) (V : gx_M) : Option gx_M := (gx_let (va_up V (x0 + 1) (va_cpy (V (x1 + 1)) (V (x0 + 1)) 0 0 16)) fun V1 => (gx_let (va_up V1 (x0 + 2) (va_cpy (V1 (x1 + 2)) (V1 (x0 + 2)) 0 0 16)) fun V2 => (gx_let (va_up V2 (x0 + 3) (va_cpy (V2 (x1 + 3)) (V2 (x0 + 3)) 0 0 16)) fun V3 => (gx_let (va_up V3 (x0 + 4) (va_cpy (V3 (x1 + 4)) (V3 (x0 + 4)) 0 0 384)) fun V4 => (gx_let (va_up V4 (x0 + 5) (va_cpy (V4 (x1 + 5)) (V4 (x0 + 5)) 0 0 128)) fun V5 => some V5)))))
set_option maxRecDepth 100000 in
set_option maxHeartbeats 8000000 in
theorem k_Acc_copyFrom (l : Launch) (dC : Nat → ClassId) (dI : Nat → Nat → Nat) (cI cR cZ : ClassId) (b tP tN : Nat) {x0 : Nat} {x1 : Nat} {V : gx_M} {q : gx_M} (hk0 : cx_kd x0 = 0) (hk1 : cx_kd x1 = 0) (h : F_Acc_copyFrom x0 x1 V = some q) : cx_C l dC dI cI cR cZ b tP tN y_Acc_copyFrom w_Acc_copyFrom rm_Acc_copyFrom [.ref (b + x0), .ref (b + x1)] V none q := by
  refine gx_start (cc := b_Acc_copyFrom) (maxL := 2) (ret := rt_Acc_copyFrom) (by decide) rfl (Nat.le_of_ble_eq_true rfl) ?_
  intro p e s m args below meth c ls hx hb hr hts hown hlk hml hl hP hK hX hS
  have hts : ∀ w ∈ cx_tb, w.before args s = true := fun w hw => hts w (List.mem_cons_of_mem _ hw)
  have hown : s.vm.findClass "GasLedger$Accounts" = some m.cls := hown
  have hl : lv_has ls 2 [(0, .ref (b + x0)), (1, .ref (b + x1))] := hl
  unfold F_Acc_copyFrom at h
  refine lv_aload_n (pc := 0) hx hb d_Acc_copyFrom_0 rfl (lv_at hl 1 rfl) ?_
  refine va_get (pc := 1) (D := (dC, dI)) (ci := 0) (C := R_Acc) (T := T_Acc) (N := 6) hx hb hts in_Acc hown hK hP x1 (gx_at (cx_lt hk1 (by decide)) (sh_Acc cI cR b hk1 _)) rfl 0 (by decide) (hts _ tb_74) (fun _ h9 => h9) rfl d_Acc_copyFrom_1 ?_
  refine lv_iconst (pc := 4) (v := (0 : Int32)) hx hb d_Acc_copyFrom_4 (by decide) ?_
  refine lv_aload_n (pc := 5) hx hb d_Acc_copyFrom_5 rfl (lv_at hl 0 rfl) ?_
  refine va_get (pc := 6) (D := (dC, dI)) (ci := 0) (C := R_Acc) (T := T_Acc) (N := 6) hx hb hts in_Acc hown hK hP x0 (gx_at (cx_lt hk0 (by decide)) (sh_Acc cI cR b hk0 _)) rfl 0 (by decide) (hts _ tb_74) (fun _ h9 => h9) rfl d_Acc_copyFrom_6 ?_
  refine lv_iconst (pc := 9) (v := (0 : Int32)) hx hb d_Acc_copyFrom_9 (by decide) ?_
  refine lv_bipush (pc := 10) (v := (16 : Int32)) hx hb d_Acc_copyFrom_10 (by decide) ?_
  obtain ⟨V1, g1, h⟩ := gx_lt h
  refine gx_copy (pc := 12) hx hb (hml.trans hl.1.symm) hown (hts _ tb_326) (hts _ tb_328) (hts _ tb_327) (hts _ tb_51) hK hP hS (x1 + 1) (x0 + 1) 0 (cx_lt (to_Acc_balances hk1) (by decide)) (cx_lt (to_Acc_balances hk0) (by decide)) (fun _ => sh_arr cI cR b (n := 16) (to_Acc_balances hk1) _) (fun _ => sh_arr cI cR b (n := 16) (to_Acc_balances hk0) _) rfl (nn := 16) (by decide) (by decide) (by decide) (by decide) (Nat.le_of_ble_eq_true rfl) (Nat.le_of_ble_eq_true rfl) d_Acc_copyFrom_12 g1 (fun H locs hP hS => ?_)
  refine lv_aload_n (pc := 15) hx hb d_Acc_copyFrom_15 rfl (lv_at hl 1 rfl) ?_
  refine va_get (pc := 16) (D := (dC, dI)) (ci := 0) (C := R_Acc) (T := T_Acc) (N := 6) hx hb hts in_Acc hown hK hP x1 (gx_at (cx_lt hk1 (by decide)) (sh_Acc cI cR b hk1 _)) rfl 1 (by decide) (hts _ tb_77) (fun _ h9 => h9) rfl d_Acc_copyFrom_16 ?_
  refine lv_iconst (pc := 19) (v := (0 : Int32)) hx hb d_Acc_copyFrom_19 (by decide) ?_
  refine lv_aload_n (pc := 20) hx hb d_Acc_copyFrom_20 rfl (lv_at hl 0 rfl) ?_
  refine va_get (pc := 21) (D := (dC, dI)) (ci := 0) (C := R_Acc) (T := T_Acc) (N := 6) hx hb hts in_Acc hown hK hP x0 (gx_at (cx_lt hk0 (by decide)) (sh_Acc cI cR b hk0 _)) rfl 1 (by decide) (hts _ tb_77) (fun _ h9 => h9) rfl d_Acc_copyFrom_21 ?_
  refine lv_iconst (pc := 24) (v := (0 : Int32)) hx hb d_Acc_copyFrom_24 (by decide) ?_
  refine lv_bipush (pc := 25) (v := (16 : Int32)) hx hb d_Acc_copyFrom_25 (by decide) ?_
  obtain ⟨V2, g2, h⟩ := gx_lt h
  refine gx_copy (pc := 27) hx hb (hml.trans hl.1.symm) hown (hts _ tb_326) (hts _ tb_328) (hts _ tb_327) (hts _ tb_51) hK hP hS (x1 + 2) (x0 + 2) 0 (cx_lt (to_Acc_nonces hk1) (by decide)) (cx_lt (to_Acc_nonces hk0) (by decide)) (fun _ => sh_arr cI cR b (n := 16) (to_Acc_nonces hk1) _) (fun _ => sh_arr cI cR b (n := 16) (to_Acc_nonces hk0) _) rfl (nn := 16) (by decide) (by decide) (by decide) (by decide) (Nat.le_of_ble_eq_true rfl) (Nat.le_of_ble_eq_true rfl) d_Acc_copyFrom_27 g2 (fun H locs hP hS => ?_)
  refine lv_aload_n (pc := 30) hx hb d_Acc_copyFrom_30 rfl (lv_at hl 1 rfl) ?_
  refine va_get (pc := 31) (D := (dC, dI)) (ci := 0) (C := R_Acc) (T := T_Acc) (N := 6) hx hb hts in_Acc hown hK hP x1 (gx_at (cx_lt hk1 (by decide)) (sh_Acc cI cR b hk1 _)) rfl 2 (by decide) (hts _ tb_80) (fun _ h9 => h9) rfl d_Acc_copyFrom_31 ?_
  refine lv_iconst (pc := 34) (v := (0 : Int32)) hx hb d_Acc_copyFrom_34 (by decide) ?_
  refine lv_aload_n (pc := 35) hx hb d_Acc_copyFrom_35 rfl (lv_at hl 0 rfl) ?_
  refine va_get (pc := 36) (D := (dC, dI)) (ci := 0) (C := R_Acc) (T := T_Acc) (N := 6) hx hb hts in_Acc hown hK hP x0 (gx_at (cx_lt hk0 (by decide)) (sh_Acc cI cR b hk0 _)) rfl 2 (by decide) (hts _ tb_80) (fun _ h9 => h9) rfl d_Acc_copyFrom_36 ?_
  refine lv_iconst (pc := 39) (v := (0 : Int32)) hx hb d_Acc_copyFrom_39 (by decide) ?_
  refine lv_bipush (pc := 40) (v := (16 : Int32)) hx hb d_Acc_copyFrom_40 (by decide) ?_
  obtain ⟨V3, g3, h⟩ := gx_lt h
  refine gx_copy (pc := 42) hx hb (hml.trans hl.1.symm) hown (hts _ tb_326) (hts _ tb_328) (hts _ tb_327) (hts _ tb_51) hK hP hS (x1 + 3) (x0 + 3) 0 (cx_lt (to_Acc_sizes hk1) (by decide)) (cx_lt (to_Acc_sizes hk0) (by decide)) (fun _ => sh_arr cI cR b (n := 16) (to_Acc_sizes hk1) _) (fun _ => sh_arr cI cR b (n := 16) (to_Acc_sizes hk0) _) rfl (nn := 16) (by decide) (by decide) (by decide) (by decide) (Nat.le_of_ble_eq_true rfl) (Nat.le_of_ble_eq_true rfl) d_Acc_copyFrom_42 g3 (fun H locs hP hS => ?_)
  refine lv_aload_n (pc := 45) hx hb d_Acc_copyFrom_45 rfl (lv_at hl 1 rfl) ?_
  refine va_get (pc := 46) (D := (dC, dI)) (ci := 0) (C := R_Acc) (T := T_Acc) (N := 6) hx hb hts in_Acc hown hK hP x1 (gx_at (cx_lt hk1 (by decide)) (sh_Acc cI cR b hk1 _)) rfl 3 (by decide) (hts _ tb_83) (fun _ h9 => h9) rfl d_Acc_copyFrom_46 ?_
  refine lv_iconst (pc := 49) (v := (0 : Int32)) hx hb d_Acc_copyFrom_49 (by decide) ?_
  refine lv_aload_n (pc := 50) hx hb d_Acc_copyFrom_50 rfl (lv_at hl 0 rfl) ?_
  refine va_get (pc := 51) (D := (dC, dI)) (ci := 0) (C := R_Acc) (T := T_Acc) (N := 6) hx hb hts in_Acc hown hK hP x0 (gx_at (cx_lt hk0 (by decide)) (sh_Acc cI cR b hk0 _)) rfl 3 (by decide) (hts _ tb_83) (fun _ h9 => h9) rfl d_Acc_copyFrom_51 ?_
  refine lv_iconst (pc := 54) (v := (0 : Int32)) hx hb d_Acc_copyFrom_54 (by decide) ?_
  refine lv_sipush (pc := 55) (v := (384 : Int32)) hx hb d_Acc_copyFrom_55 (by decide) ?_
  obtain ⟨V4, g4, h⟩ := gx_lt h
  refine gx_copy (pc := 58) hx hb (hml.trans hl.1.symm) hown (hts _ tb_326) (hts _ tb_328) (hts _ tb_327) (hts _ tb_51) hK hP hS (x1 + 4) (x0 + 4) 0 (cx_lt (to_Acc_words hk1) (by decide)) (cx_lt (to_Acc_words hk0) (by decide)) (fun _ => sh_arr cI cR b (n := 384) (to_Acc_words hk1) _) (fun _ => sh_arr cI cR b (n := 384) (to_Acc_words hk0) _) rfl (nn := 384) (by decide) (by decide) (by decide) (by decide) (Nat.le_of_ble_eq_true rfl) (Nat.le_of_ble_eq_true rfl) d_Acc_copyFrom_58 g4 (fun H locs hP hS => ?_)
  refine lv_aload_n (pc := 61) hx hb d_Acc_copyFrom_61 rfl (lv_at hl 1 rfl) ?_
  refine va_get (pc := 62) (D := (dC, dI)) (ci := 0) (C := R_Acc) (T := T_Acc) (N := 6) hx hb hts in_Acc hown hK hP x1 (gx_at (cx_lt hk1 (by decide)) (sh_Acc cI cR b hk1 _)) rfl 4 (by decide) (hts _ tb_84) (fun _ h9 => h9) rfl d_Acc_copyFrom_62 ?_
  refine lv_iconst (pc := 65) (v := (0 : Int32)) hx hb d_Acc_copyFrom_65 (by decide) ?_
  refine lv_aload_n (pc := 66) hx hb d_Acc_copyFrom_66 rfl (lv_at hl 0 rfl) ?_
  refine va_get (pc := 67) (D := (dC, dI)) (ci := 0) (C := R_Acc) (T := T_Acc) (N := 6) hx hb hts in_Acc hown hK hP x0 (gx_at (cx_lt hk0 (by decide)) (sh_Acc cI cR b hk0 _)) rfl 4 (by decide) (hts _ tb_84) (fun _ h9 => h9) rfl d_Acc_copyFrom_67 ?_
  refine lv_iconst (pc := 70) (v := (0 : Int32)) hx hb d_Acc_copyFrom_70 (by decide) ?_
  refine lv_sipush (pc := 71) (v := (128 : Int32)) hx hb d_Acc_copyFrom_71 (by decide) ?_
  obtain ⟨V5, g5, h⟩ := gx_lt h
  refine gx_copy (pc := 74) hx hb (hml.trans hl.1.symm) hown (hts _ tb_326) (hts _ tb_328) (hts _ tb_327) (hts _ tb_51) hK hP hS (x1 + 5) (x0 + 5) 0 (cx_lt (to_Acc_slots hk1) (by decide)) (cx_lt (to_Acc_slots hk0) (by decide)) (fun _ => sh_arr cI cR b (n := 128) (to_Acc_slots hk1) _) (fun _ => sh_arr cI cR b (n := 128) (to_Acc_slots hk0) _) rfl (nn := 128) (by decide) (by decide) (by decide) (by decide) (Nat.le_of_ble_eq_true rfl) (Nat.le_of_ble_eq_true rfl) d_Acc_copyFrom_74 g5 (fun H locs hP hS => ?_)
  exact gx_vret hx hb hr hlk hP hS d_Acc_copyFrom_77 (by cases h; rfl) (by cases h; rfl)
