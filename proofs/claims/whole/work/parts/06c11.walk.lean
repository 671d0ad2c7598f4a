abbrev rm_Led_seal : Room := { frames := 2, cells := 0, slots := 0, locals := 85 }
def F_Led_seal (x0 : Nat) (x1 : Int32) (V : gx_M) : Option (Int32 × gx_M) := (if (V x0 6) = 0 then some ((-1 : Int32), V) else (gx_let (gx_u V x0 6 (0 : Int32)) fun V1 => (if gx_ib (V1 x0 8) 16 then (if gx_ib (V1 x0 8) 16 then (gx_let (gx_u V1 (((x0 + 1) + 1) + 1) (V1 x0 8).toNatClampNeg ((V1 (((x0 + 1) + 1) + 1) (V1 x0 8).toNatClampNeg) + (50 : Int32))) fun V2 => (if x1 = 0 then (gx_let (gx_u V2 x0 11 ((V2 x0 11) + (1 : Int32))) fun V4 => (gx_let (gx_u V4 x0 13 (V4 x0 7)) fun V5 => some ((1 : Int32), V5))) else (gx_let (gx_u V2 x0 12 ((V2 x0 12) + (1 : Int32))) fun V3 => ((F_Acc_copyFrom ((x0 + 1) + 1) (x0 + 85) V3).bind fun q1 => some ((0 : Int32), q1))))) else none) else none)))
set_option maxRecDepth 100000 in
set_option maxHeartbeats 8000000 in
theorem k_Led_seal (l : Launch) (dC : Nat → ClassId) (dI : Nat → Nat → Nat) (cI cR cZ : ClassId) (b tP tN : Nat) {x0 : Nat} {x1 : Int32} {V : gx_M} {q : (Int32 × gx_M)} (hk0 : cx_kd x0 = 5) (h : F_Led_seal x0 x1 V = some q) : cx_C l dC dI cI cR cZ b tP tN y_Led_seal w_Led_seal rm_Led_seal [.ref (b + x0), .int x1] V (some (.int q.1)) q.2 := by
  refine gx_start (cc := b_Led_seal) (maxL := 2) (ret := rt_Led_seal) (by decide) rfl (Nat.le_of_ble_eq_true rfl) ?_
  intro p e s m args below meth c ls hx hb hr hts hown hlk hml hl hP hK hX hS
  have hts : ∀ w ∈ cx_tb, w.before args s = true := fun w hw => hts w (List.mem_cons_of_mem _ hw)
  have hown : s.vm.findClass "GasLedger" = some m.cls := hown
  have hl : lv_has ls 2 [(0, .ref (b + x0)), (1, .int x1)] := hl
  unfold F_Led_seal at h
  refine lv_aload_n (pc := 0) hx hb d_Led_seal_0 rfl (lv_at hl 0 rfl) ?_
  refine va_get (pc := 1) (D := (dC, dI)) (ci := 5) (C := R_Led) (T := T_Led) (N := 14) hx hb hts in_Led hown hK hP x0 (gx_at (cx_lt hk0 (by decide)) (sh_Led cI cR b hk0 _)) rfl 6 (by decide) (hts _ tb_254) (fun _ h9 => h9) rfl d_Led_seal_1 ?_
  refine lv_if_ne (pc := 4) (tgt := 9) hx hb d_Led_seal_4 (by decide) (fun g1 => ?_) (fun g1 => ?_)
  · have h := gx_neg g1 h
    refine lv_aload_n (pc := 9) hx hb d_Led_seal_9 rfl (lv_at hl 0 rfl) ?_
    refine lv_iconst (pc := 10) (v := (0 : Int32)) hx hb d_Led_seal_10 (by decide) ?_
    obtain ⟨V1, g2, h⟩ := gx_lt h
    refine gy_put (pc := 11) (D := (dC, dI)) (ci := 5) (C := R_Led) (T := T_Led) (NF := 14) (ty := .boolean) hx hb hts in_Led t_Led ty_Led nm_Led hown hK hP hS x0 (cx_lt hk0 (by decide)) (sh_Led cI cR b hk0 _) rfl 6 (by decide) (hts _ tb_254) (fun _ h9 => h9) rfl (by decide +kernel) rfl rfl (Nat.le_of_ble_eq_true rfl) 6 (sh_Led cI cR b hk0 _) d_Led_seal_11 g2 (fun H locs hP hS => ?_)
    refine lv_aload_n (pc := 14) hx hb d_Led_seal_14 rfl (lv_at hl 0 rfl) ?_
    refine va_get (pc := 15) (D := (dC, dI)) (ci := 5) (C := R_Led) (T := T_Led) (N := 14) hx hb hts in_Led hown hK hP x0 (gx_at (cx_lt hk0 (by decide)) (sh_Led cI cR b hk0 _)) rfl 0 (by decide) (hts _ tb_248) (fun _ h9 => h9) rfl d_Led_seal_15 ?_
    refine va_get (pc := 18) (D := (dC, dI)) (ci := 3) (C := R_Mac) (T := T_Mac) (N := 6) hx hb hts in_Mac hown hK hP (x0 + 1) (gx_at (cx_lt (to_Led_machine hk0) (by decide)) (sh_Mac cI cR b (to_Led_machine hk0) _)) rfl 0 (by decide) (hts _ tb_202) (fun _ h9 => h9) rfl d_Led_seal_18 ?_
    refine va_get (pc := 21) (D := (dC, dI)) (ci := 0) (C := R_Acc) (T := T_Acc) (N := 6) hx hb hts in_Acc hown hK hP ((x0 + 1) + 1) (gx_at (cx_lt (to_Mac_accounts (to_Led_machine hk0)) (by decide)) (sh_Acc cI cR b (to_Mac_accounts (to_Led_machine hk0)) _)) rfl 0 (by decide) (hts _ tb_75) (fun _ h9 => h9) rfl d_Led_seal_21 ?_
    refine lv_aload_n (pc := 24) hx hb d_Led_seal_24 rfl (lv_at hl 0 rfl) ?_
    refine va_get (pc := 25) (D := (dC, dI)) (ci := 5) (C := R_Led) (T := T_Led) (N := 14) hx hb hts in_Led hown hK hP x0 (gx_at (cx_lt hk0 (by decide)) (sh_Led cI cR b hk0 _)) rfl 8 (by decide) (hts _ tb_256) (fun _ h9 => h9) rfl d_Led_seal_25 ?_
    refine lv_dup2_11 (pc := 28) hx hb d_Led_seal_28 rfl rfl ?_
    obtain ⟨g3, h⟩ := gx_if h
    refine va_iald (pc := 29) hx hb hK hP (((x0 + 1) + 1) + 1) 0 (gx_at (cx_lt (to_Acc_balances (to_Mac_accounts (to_Led_machine hk0))) (by decide)) (sh_arr cI cR b (n := 16) (to_Acc_balances (to_Mac_accounts (to_Led_machine hk0))) _)) rfl g3 d_Led_seal_29 ?_
    refine lv_bipush (pc := 30) (v := (50 : Int32)) hx hb d_Led_seal_30 (by decide) ?_
    refine lv_iadd (pc := 32) hx hb d_Led_seal_32 ?_
    obtain ⟨g4, h⟩ := gx_if h
    obtain ⟨V2, g5, h⟩ := gx_lt h
    refine gx_asi (pc := 33) hx hb hK hP hS (((x0 + 1) + 1) + 1) 0 (cx_lt (to_Acc_balances (to_Mac_accounts (to_Led_machine hk0))) (by decide)) (fun _ => sh_arr cI cR b (n := 16) (to_Acc_balances (to_Mac_accounts (to_Led_machine hk0))) _) rfl g4 d_Led_seal_33 g5 (fun H locs hP hS => ?_)
    refine lv_iload_n (pc := 34) hx hb d_Led_seal_34 rfl (lv_at hl 1 rfl) ?_
    refine lv_if_ne (pc := 35) (tgt := 58) hx hb d_Led_seal_35 (by decide) (fun g6 => ?_) (fun g6 => ?_)
    · have h := gx_neg g6 h
      refine lv_aload_n (pc := 58) hx hb d_Led_seal_58 rfl (lv_at hl 0 rfl) ?_
      refine lv_dup (pc := 59) hx hb d_Led_seal_59 rfl ?_
      refine va_get (pc := 60) (D := (dC, dI)) (ci := 5) (C := R_Led) (T := T_Led) (N := 14) hx hb hts in_Led hown hK hP x0 (gx_at (cx_lt hk0 (by decide)) (sh_Led cI cR b hk0 _)) rfl 12 (by decide) (hts _ tb_260) (fun _ h9 => h9) rfl d_Led_seal_60 ?_
      refine lv_iconst (pc := 63) (v := (1 : Int32)) hx hb d_Led_seal_63 (by decide) ?_
      refine lv_iadd (pc := 64) hx hb d_Led_seal_64 ?_
      obtain ⟨V3, g7, h⟩ := gx_lt h
      refine gy_put (pc := 65) (D := (dC, dI)) (ci := 5) (C := R_Led) (T := T_Led) (NF := 14) (ty := .int) hx hb hts in_Led t_Led ty_Led nm_Led hown hK hP hS x0 (cx_lt hk0 (by decide)) (sh_Led cI cR b hk0 _) rfl 12 (by decide) (hts _ tb_260) (fun _ h9 => h9) rfl (by decide +kernel) rfl rfl (Nat.le_of_ble_eq_true rfl) 12 (sh_Led cI cR b hk0 _) d_Led_seal_65 g7 (fun H locs hP hS => ?_)
      refine lv_aload_n (pc := 68) hx hb d_Led_seal_68 rfl (lv_at hl 0 rfl) ?_
      refine va_get (pc := 69) (D := (dC, dI)) (ci := 5) (C := R_Led) (T := T_Led) (N := 14) hx hb hts in_Led hown hK hP x0 (gx_at (cx_lt hk0 (by decide)) (sh_Led cI cR b hk0 _)) rfl 0 (by decide) (hts _ tb_248) (fun _ h9 => h9) rfl d_Led_seal_69 ?_
      refine va_get (pc := 72) (D := (dC, dI)) (ci := 3) (C := R_Mac) (T := T_Mac) (N := 6) hx hb hts in_Mac hown hK hP (x0 + 1) (gx_at (cx_lt (to_Led_machine hk0) (by decide)) (sh_Mac cI cR b (to_Led_machine hk0) _)) rfl 0 (by decide) (hts _ tb_202) (fun _ h9 => h9) rfl d_Led_seal_72 ?_
      refine lv_aload_n (pc := 75) hx hb d_Led_seal_75 rfl (lv_at hl 0 rfl) ?_
      refine va_get (pc := 76) (D := (dC, dI)) (ci := 5) (C := R_Led) (T := T_Led) (N := 14) hx hb hts in_Led hown hK hP x0 (gx_at (cx_lt hk0 (by decide)) (sh_Led cI cR b hk0 _)) rfl 1 (by decide) (hts _ tb_249) (fun _ h9 => h9) rfl d_Led_seal_76 ?_
      obtain ⟨q1, g8, h⟩ := gx_bd h
      refine gx_cv (pc := 79) (va_runV (C := "GasLedger$Accounts") (As := [.ref (b + (x0 + 85))]) (rest := []) ⟨hx, hb, hml, hown, hts⟩ (k_Acc_copyFrom l dC dI cI cR cZ b tP tN (to_Mac_accounts (to_Led_machine hk0)) (to_Led_atBegin hk0) g8) (gx_cw 1 hts cd_Acc_copyFrom tb_46 tb_322 tb_323 tb_324 rfl rfl ⟨by decide, by decide, by decide +kernel⟩ ⟨Nat.le_of_ble_eq_true rfl, Nat.le_of_ble_eq_true rfl⟩) (gy_preV (cx_XX b tP tN) hX hK hP hS (cx_lt (to_Mac_accounts (to_Led_machine hk0)) (by decide)) (sh_Acc cI cR b (to_Mac_accounts (to_Led_machine hk0)) _) rfl) rfl rfl hl.1 rfl (lv_room (Nat.le_of_ble_eq_true rfl)) d_Led_seal_79 ⟨Nat.zero_le _, Nat.zero_le _⟩) hS (fun H locs hP hS => ?_)
      refine lv_iconst (pc := 82) (v := (0 : Int32)) hx hb d_Led_seal_82 (by decide) ?_
      exact gx_iret (free := fun _ => True) hx hb hr hlk hP hS d_Led_seal_83 (by cases h; rfl) (by cases h; rfl)
    · have h := gx_pos g6 h
      refine lv_aload_n (pc := 38) hx hb d_Led_seal_38 rfl (lv_at hl 0 rfl) ?_
      refine lv_dup (pc := 39) hx hb d_Led_seal_39 rfl ?_
      refine va_get (pc := 40) (D := (dC, dI)) (ci := 5) (C := R_Led) (T := T_Led) (N := 14) hx hb hts in_Led hown hK hP x0 (gx_at (cx_lt hk0 (by decide)) (sh_Led cI cR b hk0 _)) rfl 11 (by decide) (hts _ tb_259) (fun _ h9 => h9) rfl d_Led_seal_40 ?_
      refine lv_iconst (pc := 43) (v := (1 : Int32)) hx hb d_Led_seal_43 (by decide) ?_
      refine lv_iadd (pc := 44) hx hb d_Led_seal_44 ?_
      obtain ⟨V4, g9, h⟩ := gx_lt h
      refine gy_put (pc := 45) (D := (dC, dI)) (ci := 5) (C := R_Led) (T := T_Led) (NF := 14) (ty := .int) hx hb hts in_Led t_Led ty_Led nm_Led hown hK hP hS x0 (cx_lt hk0 (by decide)) (sh_Led cI cR b hk0 _) rfl 11 (by decide) (hts _ tb_259) (fun _ h9 => h9) rfl (by decide +kernel) rfl rfl (Nat.le_of_ble_eq_true rfl) 11 (sh_Led cI cR b hk0 _) d_Led_seal_45 g9 (fun H locs hP hS => ?_)
      refine lv_aload_n (pc := 48) hx hb d_Led_seal_48 rfl (lv_at hl 0 rfl) ?_
      refine lv_aload_n (pc := 49) hx hb d_Led_seal_49 rfl (lv_at hl 0 rfl) ?_
      refine va_get (pc := 50) (D := (dC, dI)) (ci := 5) (C := R_Led) (T := T_Led) (N := 14) hx hb hts in_Led hown hK hP x0 (gx_at (cx_lt hk0 (by decide)) (sh_Led cI cR b hk0 _)) rfl 7 (by decide) (hts _ tb_255) (fun _ h9 => h9) rfl d_Led_seal_50 ?_
      obtain ⟨V5, g10, h⟩ := gx_lt h
      refine gy_put (pc := 53) (D := (dC, dI)) (ci := 5) (C := R_Led) (T := T_Led) (NF := 14) (ty := .int) hx hb hts in_Led t_Led ty_Led nm_Led hown hK hP hS x0 (cx_lt hk0 (by decide)) (sh_Led cI cR b hk0 _) rfl 13 (by decide) (hts _ tb_261) (fun _ h9 => h9) rfl (by decide +kernel) rfl rfl (Nat.le_of_ble_eq_true rfl) 13 (sh_Led cI cR b hk0 _) d_Led_seal_53 g10 (fun H locs hP hS => ?_)
      refine lv_iconst (pc := 56) (v := (1 : Int32)) hx hb d_Led_seal_56 (by decide) ?_
      exact gx_iret (free := fun _ => True) hx hb hr hlk hP hS d_Led_seal_57 (by cases h; rfl) (by cases h; rfl)
  · have h := gx_pos g1 h
    refine lv_iconst (pc := 7) (v := (-1 : Int32)) hx hb d_Led_seal_7 (by decide) ?_
    exact gx_iret (free := fun _ => True) hx hb hr hlk hP hS d_Led_seal_8 (by cases h; rfl) (by cases h; rfl)
def rm_Com_rootOfPart (n : Nat) : Room := { frames := n + 2, cells := 0, slots := 0, locals := 64 * (n + 2) }
def F_Com_rootOfPart_124 (self : Nat → Int32 → Int32 → Int32 → Int32 → gx_M → Option (Int32 × gx_M)) (x0 : Nat) (x1 : Int32) (x2 : Int32) (x3 : Int32) (x4 : Int32) (x5 : Int32) (x7 : Int32) (V : gx_M) : Option (Int32 × gx_M) := (if x4 ≤ x7 then ((self x0 x1 x2 x3 (x4 - (1 : Int32)) V).bind fun q1 => ((self x0 x1 x2 (x3 + ((1 : Int32) <<< ((x4 - (1 : Int32)) &&& 31))) (x4 - (1 : Int32)) q1.2).bind fun q2 => ((F_Com_mix (3 : Int32) q1.1 q2.2).bind fun q3 => ((F_Com_mix q3.1 q2.1 q3.2).bind fun q4 => some (q4.1, q4.2))))) else ((F_Com_mix (2 : Int32) (((1 : Int32) <<< ((x4 - x7) &&& 31)) + ((((x5 >>> (x7 &&& 31)) <<< (x7 &&& 31)) - x3) >>> (x7 &&& 31))) V).bind fun q5 => ((self x0 x1 x2 ((x5 >>> (x7 &&& 31)) <<< (x7 &&& 31)) x7 q5.2).bind fun q6 => ((F_Com_mix q5.1 q6.1 q6.2).bind fun q7 => some (q7.1, q7.2)))))
def F_Com_rootOfPart_98 : Nat → (Nat → Int32 → Int32 → Int32 → Int32 → gx_M → Option (Int32 × gx_M)) → Nat → Int32 → Int32 → Int32 → Int32 → Int32 → Int32 → Int32 → gx_M → Option (Int32 × gx_M)
  | 0, _, _, _, _, _, _, _, _, _, _ => none
  | nf + 1, self, x0, x1, x2, x3, x4, x5, x6, x7, V => (if x4 ≤ x7 then (F_Com_rootOfPart_124  self  x0 x1 x2 x3 x4 x5 x7 V) else (if (x5 >>> (x7 &&& 31)) = (x6 >>> (x7 &&& 31)) then (F_Com_rootOfPart_124  self  x0 x1 x2 x3 x4 x5 x7 V) else (F_Com_rootOfPart_98 nf self  x0 x1 x2 x3 x4 x5 x6 (x7 + (1 : Int32)) V)))
def F_Com_rootOfPart_72 (self : Nat → Int32 → Int32 → Int32 → Int32 → gx_M → Option (Int32 × gx_M)) (x0 : Nat) (x1 : Int32) (x3 : Int32) (x4 : Int32) (x5 : Int32) (V : gx_M) : Option (Int32 × gx_M) := ((F_Com_mix (1 : Int32) ((((1 : Int32) <<< (x4 &&& 31)) + x5) - x3) V).bind fun q8 => (if gx_ib (x1 + x5) (cx_kd x0 - 100) then ((F_Com_mix q8.1 (q8.2 x0 (x1 + x5).toNatClampNeg) q8.2).bind fun q9 => some (q9.1, q9.2)) else none))
def F_Com_rootOfPart_9 : Nat → (Nat → Int32 → Int32 → Int32 → Int32 → gx_M → Option (Int32 × gx_M)) → Nat → Int32 → Int32 → Int32 → Int32 → Int32 → Int32 → Int32 → gx_M → Option (Int32 × gx_M)
  | 0, _, _, _, _, _, _, _, _, _, _ => none
  | nf + 1, self, x0, x1, x2, x3, x4, x5, x6, x7, V => (if (x3 + ((1 : Int32) <<< (x4 &&& 31))) ≤ x7 then (if 0 ≤ x5 then (if x4 ≤ 0 then (F_Com_rootOfPart_72  self  x0 x1 x3 x4 x5 V) else (if x5 = x6 then (F_Com_rootOfPart_72  self  x0 x1 x3 x4 x5 V) else (F_Com_rootOfPart_98 100 self  x0 x1 x2 x3 x4 x5 x6 (1 : Int32) V))) else some ((0 : Int32), V)) else (if ((x2.toUInt32 >>> (x7.toUInt32 &&& Int32.toUInt32 31)).toInt32 &&& (1 : Int32)) = 0 then (F_Com_rootOfPart_9 nf self  x0 x1 x2 x3 x4 x5 x6 (x7 + (1 : Int32)) V) else (if 0 ≤ x5 then (F_Com_rootOfPart_9 nf self  x0 x1 x2 x3 x4 x5 x7 (x7 + (1 : Int32)) V) else (F_Com_rootOfPart_9 nf self  x0 x1 x2 x3 x4 x7 x7 (x7 + (1 : Int32)) V))))
def F_Com_rootOfPart : Nat → Nat → Int32 → Int32 → Int32 → Int32 → gx_M → Option (Int32 × gx_M)
  | 0, _, _, _, _, _, _ => none
  | n + 1, x0, x1, x2, x3, x4, V => (F_Com_rootOfPart_9 100 (F_Com_rootOfPart n)  x0 x1 x2 x3 x4 (-1 : Int32) (-1 : Int32) x3 V)
set_option maxRecDepth 100000 in
set_option maxHeartbeats 8000000 in
theorem k_Com_rootOfPart (l : Launch) (dC : Nat → ClassId) (dI : Nat → Nat → Nat) (cI cR cZ : ClassId) (b tP tN : Nat) (n : Nat) : ∀ {x0 : Nat} {x1 : Int32} {x2 : Int32} {x3 : Int32} {x4 : Int32} {V : gx_M} {q : (Int32 × gx_M)} (hk0 : 100 ≤ cx_kd x0) (h : F_Com_rootOfPart n x0 x1 x2 x3 x4 V = some q), cx_C l dC dI cI cR cZ b tP tN y_Com_rootOfPart w_Com_rootOfPart (rm_Com_rootOfPart n) [.ref (b + x0), .int x1, .int x2, .int x3, .int x4] V (some (.int q.1)) q.2 := by
  induction n with
  | zero => intros; rename_i h; cases h
  | succ n ih =>
  intro x0 x1 x2 x3 x4 V q hk0 h
  refine gx_start (cc := b_Com_rootOfPart) (maxL := 10) (ret := rt_Com_rootOfPart) (by decide) rfl (Nat.le_of_ble_eq_true rfl) ?_
  intro p e s m args below meth c ls hx hb hr hts hown hlk hml hl hP hK hX hS
  have hts : ∀ w ∈ cx_tb, w.before args s = true := fun w hw => hts w (List.mem_cons_of_mem _ hw)
  have hown : s.vm.findClass "GasLedger$Commitment" = some m.cls := hown
  have hl : lv_has ls 10 [(0, .ref (b + x0)), (1, .int x1), (2, .int x2), (3, .int x3), (4, .int x4)] := hl
  have B_124 : ∀ (x0 : Nat) (x1 : Int32) (x2 : Int32) (x3 : Int32) (x4 : Int32) (x5 : Int32) (x7 : Int32), 100 ≤ cx_kd x0 → ∀ (V : gx_M) (H : Heap) (locs : List Loc) (ls : Array Slot), lv_has ls 10 [(0, .ref (b + x0)), (1, .int x1), (2, .int x2), (3, .int x3), (4, .int x4), (5, .int x5), (7, .int x7)] → va_P (dC, dI) cx_cl (gx_w b 97 (gx_v (cx_sh cI cR b) V)) H → va_S (gx_A b 97) s.heap H locs → F_Com_rootOfPart_124 (F_Com_rootOfPart n) x0 x1 x2 x3 x4 x5 x7 V = some q → W p l e (headSpec w_Com_rootOfPart (rm_Com_rootOfPart (n + 1))).room s m args below meth c H locs 0 0 (MQ below (gx_Q (dC, dI) cx_cl b 97 (cx_sh cI cR b) (some (.int q.1)) q.2) args s 0 0 (gx_A b 97)) (F0 m 124 ls []) := by
    intro x0 x1 x2 x3 x4 x5 x7 hk_x0 V H locs ls hl hP hS h
    unfold F_Com_rootOfPart_124 at h
    refine lv_iload (pc := 124) hx hb d_Com_rootOfPart_124 (lv_at hl 6 rfl) ?_
    refine lv_iload (pc := 126) hx hb d_Com_rootOfPart_126 (lv_at hl 4 rfl) ?_
    refine lv_icmp_ge (pc := 128) (tgt := 178) hx hb d_Com_rootOfPart_128 (by decide) (fun g1 => ?_) (fun g1 => ?_)
    · have h := gx_pos g1 h
      refine lv_aload_n (pc := 178) hx hb d_Com_rootOfPart_178 rfl (lv_at hl 0 rfl) ?_
      refine lv_iload_n (pc := 179) hx hb d_Com_rootOfPart_179 rfl (lv_at hl 1 rfl) ?_
      refine lv_iload_n (pc := 180) hx hb d_Com_rootOfPart_180 rfl (lv_at hl 2 rfl) ?_
      refine lv_iload_n (pc := 181) hx hb d_Com_rootOfPart_181 rfl (lv_at hl 3 rfl) ?_
      refine lv_iload (pc := 182) hx hb d_Com_rootOfPart_182 (lv_at hl 4 rfl) ?_
      refine lv_iconst (pc := 184) (v := (1 : Int32)) hx hb d_Com_rootOfPart_184 (by decide) ?_
      refine lv_isub (pc := 185) hx hb d_Com_rootOfPart_185 ?_
      obtain ⟨q1, g2, h⟩ := gx_bd h
      refine gx_ci (pc := 186) (va_runS (As := [.ref (b + x0), .int x1, .int x2, .int x3, .int (x4 - (1 : Int32))]) (rest := []) ⟨hx, hb, hml, hown, hts⟩ (ih hk_x0 g2) (gx_cs 5 hts cd_Com_rootOfPart tb_53 tb_538 tb_539 rfl rfl ⟨by decide, by decide, by decide +kernel⟩ ⟨by show _ + 2 + 1 ≤ _ + 1 + 2; omega, by show 8 + (10 + 11) + 64 * (_ + 2) ≤ 64 * (_ + 1 + 2); omega⟩) (gy_pre (cx_XX b tP tN) hX hK hP hS) rfl rfl hl.1 rfl (lv_room (Nat.le_of_ble_eq_true rfl)) d_Com_rootOfPart_186 ⟨Nat.zero_le _, Nat.zero_le _⟩) hS (fun H locs hP hS => ?_)
      refine lv_istore (pc := 189) (lv' := [(8, .int q1.1), (0, .ref (b + x0)), (1, .int x1), (2, .int x2), (3, .int x3), (4, .int x4), (5, .int x5), (7, .int x7)]) hx hb d_Com_rootOfPart_189 hl (by decide) rfl (fun ls hl => ?_)
      refine lv_aload_n (pc := 191) hx hb d_Com_rootOfPart_191 rfl (lv_at hl 1 rfl) ?_
      refine lv_iload_n (pc := 192) hx hb d_Com_rootOfPart_192 rfl (lv_at hl 2 rfl) ?_
      refine lv_iload_n (pc := 193) hx hb d_Com_rootOfPart_193 rfl (lv_at hl 3 rfl) ?_
      refine lv_iload_n (pc := 194) hx hb d_Com_rootOfPart_194 rfl (lv_at hl 4 rfl) ?_
      refine lv_iconst (pc := 195) (v := (1 : Int32)) hx hb d_Com_rootOfPart_195 (by decide) ?_
      refine lv_iload (pc := 196) hx hb d_Com_rootOfPart_196 (lv_at hl 5 rfl) ?_
      refine lv_iconst (pc := 198) (v := (1 : Int32)) hx hb d_Com_rootOfPart_198 (by decide) ?_
      refine lv_isub (pc := 199) hx hb d_Com_rootOfPart_199 ?_
      refine lv_ishl (pc := 200) hx hb d_Com_rootOfPart_200 ?_
      refine lv_iadd (pc := 201) hx hb d_Com_rootOfPart_201 ?_
      refine lv_iload (pc := 202) hx hb d_Com_rootOfPart_202 (lv_at hl 5 rfl) ?_
      refine lv_iconst (pc := 204) (v := (1 : Int32)) hx hb d_Com_rootOfPart_204 (by decide) ?_
      refine lv_isub (pc := 205) hx hb d_Com_rootOfPart_205 ?_
      obtain ⟨q2, g3, h⟩ := gx_bd h
      refine gx_ci (pc := 206) (va_runS (As := [.ref (b + x0), .int x1, .int x2, .int (x3 + ((1 : Int32) <<< ((x4 - (1 : Int32)) &&& 31))), .int (x4 - (1 : Int32))]) (rest := []) ⟨hx, hb, hml, hown, hts⟩ (ih hk_x0 g3) (gx_cs 5 hts cd_Com_rootOfPart tb_53 tb_538 tb_539 rfl rfl ⟨by decide, by decide, by decide +kernel⟩ ⟨by show _ + 2 + 1 ≤ _ + 1 + 2; omega, by show 8 + (10 + 11) + 64 * (_ + 2) ≤ 64 * (_ + 1 + 2); omega⟩) (gy_pre (cx_XX b tP tN) hX hK hP hS) rfl rfl hl.1 rfl (lv_room (Nat.le_of_ble_eq_true rfl)) d_Com_rootOfPart_206 ⟨Nat.zero_le _, Nat.zero_le _⟩) hS (fun H locs hP hS => ?_)
      refine lv_istore (pc := 209) (lv' := [(9, .int q2.1), (8, .int q1.1), (0, .ref (b + x0)), (1, .int x1), (2, .int x2), (3, .int x3), (4, .int x4), (5, .int x5), (7, .int x7)]) hx hb d_Com_rootOfPart_209 hl (by decide) rfl (fun ls hl => ?_)
      refine lv_iconst (pc := 211) (v := (3 : Int32)) hx hb d_Com_rootOfPart_211 (by decide) ?_
      refine lv_iload (pc := 212) hx hb d_Com_rootOfPart_212 (lv_at hl 1 rfl) ?_
      obtain ⟨q3, g4, h⟩ := gx_bd h
      refine gx_ci (pc := 214) (va_runS (As := [.int (3 : Int32), .int q1.1]) (rest := []) ⟨hx, hb, hml, hown, hts⟩ (k_Com_mix l dC dI cI cR cZ b tP tN  g4) (gx_cs 2 hts cd_Com_mix tb_53 tb_541 tb_474 rfl rfl ⟨by decide, by decide, by decide +kernel⟩ ⟨by show 0 + 1 ≤ _ + 1 + 2; omega, by show 8 + (3 + 11) + 0 ≤ 64 * (_ + 1 + 2); omega⟩) (gy_pre (cx_XX b tP tN) hX hK hP hS) rfl rfl hl.1 rfl (lv_room (Nat.le_of_ble_eq_true rfl)) d_Com_rootOfPart_214 ⟨Nat.zero_le _, Nat.zero_le _⟩) hS (fun H locs hP hS => ?_)
      refine lv_iload (pc := 217) hx hb d_Com_rootOfPart_217 (lv_at hl 0 rfl) ?_
      obtain ⟨q4, g5, h⟩ := gx_bd h
      refine gx_ci (pc := 219) (va_runS (As := [.int q3.1, .int q2.1]) (rest := []) ⟨hx, hb, hml, hown, hts⟩ (k_Com_mix l dC dI cI cR cZ b tP tN  g5) (gx_cs 2 hts cd_Com_mix tb_53 tb_541 tb_474 rfl rfl ⟨by decide, by decide, by decide +kernel⟩ ⟨by show 0 + 1 ≤ _ + 1 + 2; omega, by show 8 + (3 + 11) + 0 ≤ 64 * (_ + 1 + 2); omega⟩) (gy_pre (cx_XX b tP tN) hX hK hP hS) rfl rfl hl.1 rfl (lv_room (Nat.le_of_ble_eq_true rfl)) d_Com_rootOfPart_219 ⟨Nat.zero_le _, Nat.zero_le _⟩) hS (fun H locs hP hS => ?_)
      exact gx_iret (free := fun _ => True) hx hb hr hlk hP hS d_Com_rootOfPart_222 (by cases h; rfl) (by cases h; rfl)
    · have h := gx_neg g1 h
      refine lv_iload (pc := 131) hx hb d_Com_rootOfPart_131 (lv_at hl 5 rfl) ?_
      refine lv_iload (pc := 133) hx hb d_Com_rootOfPart_133 (lv_at hl 6 rfl) ?_
      refine lv_ishr (pc := 135) hx hb d_Com_rootOfPart_135 ?_
      refine lv_iload (pc := 136) hx hb d_Com_rootOfPart_136 (lv_at hl 6 rfl) ?_
      refine lv_ishl (pc := 138) hx hb d_Com_rootOfPart_138 ?_
      refine lv_istore (pc := 139) (lv' := [(8, .int ((x5 >>> (x7 &&& 31)) <<< (x7 &&& 31))), (0, .ref (b + x0)), (1, .int x1), (2, .int x2), (3, .int x3), (4, .int x4), (5, .int x5), (7, .int x7)]) hx hb d_Com_rootOfPart_139 hl (by decide) rfl (fun ls hl => ?_)
      refine lv_iconst (pc := 141) (v := (1 : Int32)) hx hb d_Com_rootOfPart_141 (by decide) ?_
      refine lv_iload (pc := 142) hx hb d_Com_rootOfPart_142 (lv_at hl 5 rfl) ?_
      refine lv_iload (pc := 144) hx hb d_Com_rootOfPart_144 (lv_at hl 7 rfl) ?_
      refine lv_isub (pc := 146) hx hb d_Com_rootOfPart_146 ?_
      refine lv_ishl (pc := 147) hx hb d_Com_rootOfPart_147 ?_
      refine lv_iload (pc := 148) hx hb d_Com_rootOfPart_148 (lv_at hl 0 rfl) ?_
      refine lv_iload_n (pc := 150) hx hb d_Com_rootOfPart_150 rfl (lv_at hl 4 rfl) ?_
      refine lv_isub (pc := 151) hx hb d_Com_rootOfPart_151 ?_
      refine lv_iload (pc := 152) hx hb d_Com_rootOfPart_152 (lv_at hl 7 rfl) ?_
      refine lv_ishr (pc := 154) hx hb d_Com_rootOfPart_154 ?_
      refine lv_iadd (pc := 155) hx hb d_Com_rootOfPart_155 ?_
      refine lv_istore (pc := 156) (lv' := [(9, .int (((1 : Int32) <<< ((x4 - x7) &&& 31)) + ((((x5 >>> (x7 &&& 31)) <<< (x7 &&& 31)) - x3) >>> (x7 &&& 31)))), (8, .int ((x5 >>> (x7 &&& 31)) <<< (x7 &&& 31))), (0, .ref (b + x0)), (1, .int x1), (2, .int x2), (3, .int x3), (4, .int x4), (5, .int x5), (7, .int x7)]) hx hb d_Com_rootOfPart_156 hl (by decide) rfl (fun ls hl => ?_)
      refine lv_iconst (pc := 158) (v := (2 : Int32)) hx hb d_Com_rootOfPart_158 (by decide) ?_
      refine lv_iload (pc := 159) hx hb d_Com_rootOfPart_159 (lv_at hl 0 rfl) ?_
      obtain ⟨q5, g6, h⟩ := gx_bd h
      refine gx_ci (pc := 161) (va_runS (As := [.int (2 : Int32), .int (((1 : Int32) <<< ((x4 - x7) &&& 31)) + ((((x5 >>> (x7 &&& 31)) <<< (x7 &&& 31)) - x3) >>> (x7 &&& 31)))]) (rest := []) ⟨hx, hb, hml, hown, hts⟩ (k_Com_mix l dC dI cI cR cZ b tP tN  g6) (gx_cs 2 hts cd_Com_mix tb_53 tb_541 tb_474 rfl rfl ⟨by decide, by decide, by decide +kernel⟩ ⟨by show 0 + 1 ≤ _ + 1 + 2; omega, by show 8 + (3 + 11) + 0 ≤ 64 * (_ + 1 + 2); omega⟩) (gy_pre (cx_XX b tP tN) hX hK hP hS) rfl rfl hl.1 rfl (lv_room (Nat.le_of_ble_eq_true rfl)) d_Com_rootOfPart_161 ⟨Nat.zero_le _, Nat.zero_le _⟩) hS (fun H locs hP hS => ?_)
      refine lv_aload_n (pc := 164) hx hb d_Com_rootOfPart_164 rfl (lv_at hl 2 rfl) ?_
      refine lv_iload_n (pc := 165) hx hb d_Com_rootOfPart_165 rfl (lv_at hl 3 rfl) ?_
      refine lv_iload_n (pc := 166) hx hb d_Com_rootOfPart_166 rfl (lv_at hl 4 rfl) ?_
      refine lv_iload (pc := 167) hx hb d_Com_rootOfPart_167 (lv_at hl 1 rfl) ?_
      refine lv_iload (pc := 169) hx hb d_Com_rootOfPart_169 (lv_at hl 8 rfl) ?_
      obtain ⟨q6, g7, h⟩ := gx_bd h
      refine gx_ci (pc := 171) (va_runS (As := [.ref (b + x0), .int x1, .int x2, .int ((x5 >>> (x7 &&& 31)) <<< (x7 &&& 31)), .int x7]) (rest := [.int q5.1]) ⟨hx, hb, hml, hown, hts⟩ (ih hk_x0 g7) (gx_cs 5 hts cd_Com_rootOfPart tb_53 tb_538 tb_539 rfl rfl ⟨by decide, by decide, by decide +kernel⟩ ⟨by show _ + 2 + 1 ≤ _ + 1 + 2; omega, by show 8 + (10 + 11) + 64 * (_ + 2) ≤ 64 * (_ + 1 + 2); omega⟩) (gy_pre (cx_XX b tP tN) hX hK hP hS) rfl rfl hl.1 rfl (lv_room (Nat.le_of_ble_eq_true rfl)) d_Com_rootOfPart_171 ⟨Nat.zero_le _, Nat.zero_le _⟩) hS (fun H locs hP hS => ?_)
      obtain ⟨q7, g8, h⟩ := gx_bd h
      refine gx_ci (pc := 174) (va_runS (As := [.int q5.1, .int q6.1]) (rest := []) ⟨hx, hb, hml, hown, hts⟩ (k_Com_mix l dC dI cI cR cZ b tP tN  g8) (gx_cs 2 hts cd_Com_mix tb_53 tb_541 tb_474 rfl rfl ⟨by decide, by decide, by decide +kernel⟩ ⟨by show 0 + 1 ≤ _ + 1 + 2; omega, by show 8 + (3 + 11) + 0 ≤ 64 * (_ + 1 + 2); omega⟩) (gy_pre (cx_XX b tP tN) hX hK hP hS) rfl rfl hl.1 rfl (lv_room (Nat.le_of_ble_eq_true rfl)) d_Com_rootOfPart_174 ⟨Nat.zero_le _, Nat.zero_le _⟩) hS (fun H locs hP hS => ?_)
      exact gx_iret (free := fun _ => True) hx hb hr hlk hP hS d_Com_rootOfPart_177 (by cases h; rfl) (by cases h; rfl)
  have B_98 : ∀ (nf : Nat), ∀ (x0 : Nat) (x1 : Int32) (x2 : Int32) (x3 : Int32) (x4 : Int32) (x5 : Int32) (x6 : Int32) (x7 : Int32), 100 ≤ cx_kd x0 → ∀ (V : gx_M) (H : Heap) (locs : List Loc) (ls : Array Slot), lv_has ls 10 [(0, .ref (b + x0)), (1, .int x1), (2, .int x2), (3, .int x3), (4, .int x4), (5, .int x5), (6, .int x6), (7, .int x7)] → va_P (dC, dI) cx_cl (gx_w b 97 (gx_v (cx_sh cI cR b) V)) H → va_S (gx_A b 97) s.heap H locs → F_Com_rootOfPart_98 nf (F_Com_rootOfPart n) x0 x1 x2 x3 x4 x5 x6 x7 V = some q → W p l e (headSpec w_Com_rootOfPart (rm_Com_rootOfPart (n + 1))).room s m args below meth c H locs 0 0 (MQ below (gx_Q (dC, dI) cx_cl b 97 (cx_sh cI cR b) (some (.int q.1)) q.2) args s 0 0 (gx_A b 97)) (F0 m 98 ls []) := by
    intro nf
    induction nf with
    | zero => intro x0 x1 x2 x3 x4 x5 x6 x7 hk_x0 V H locs ls hl hP hS h; cases h
    | succ nf ihl =>
      intro x0 x1 x2 x3 x4 x5 x6 x7 hk_x0 V H locs ls hl hP hS h
      rw [F_Com_rootOfPart_98] at h
      refine lv_iload (pc := 98) hx hb d_Com_rootOfPart_98 (lv_at hl 7 rfl) ?_
      refine lv_iload (pc := 100) hx hb d_Com_rootOfPart_100 (lv_at hl 4 rfl) ?_
      refine lv_icmp_ge (pc := 102) (tgt := 124) hx hb d_Com_rootOfPart_102 (by decide) (fun g9 => ?_) (fun g9 => ?_)
      · have h := gx_pos g9 h
        exact B_124   _ _ _ _ _ _ _ hk_x0 _ _ _ _ (lv_sub hl [0, 1, 2, 3, 4, 5, 7] rfl) hP hS h
      · have h := gx_neg g9 h
        refine lv_iload (pc := 105) hx hb d_Com_rootOfPart_105 (lv_at hl 5 rfl) ?_
        refine lv_iload (pc := 107) hx hb d_Com_rootOfPart_107 (lv_at hl 7 rfl) ?_
        refine lv_ishr (pc := 109) hx hb d_Com_rootOfPart_109 ?_
        refine lv_iload (pc := 110) hx hb d_Com_rootOfPart_110 (lv_at hl 6 rfl) ?_
        refine lv_iload (pc := 112) hx hb d_Com_rootOfPart_112 (lv_at hl 7 rfl) ?_
        refine lv_ishr (pc := 114) hx hb d_Com_rootOfPart_114 ?_
        refine lv_icmp_eq (pc := 115) (tgt := 124) hx hb d_Com_rootOfPart_115 (by decide) (fun g10 => ?_) (fun g10 => ?_)
        · have h := gx_pos g10 h
          exact B_124   _ _ _ _ _ _ _ hk_x0 _ _ _ _ (lv_sub hl [0, 1, 2, 3, 4, 5, 7] rfl) hP hS h
        · have h := gx_neg g10 h
          refine lv_iinc (pc := 118) (k := 7) (lv' := [(7, .int (x7 + (1 : Int32))), (0, .ref (b + x0)), (1, .int x1), (2, .int x2), (3, .int x3), (4, .int x4), (5, .int x5), (6, .int x6)]) hx hb d_Com_rootOfPart_118 hl rfl (gx_inc (by decide)) (by decide) rfl (fun ls hl => ?_)
          refine lv_goto (pc := 121) (tgt := 98) hx hb d_Com_rootOfPart_121 (by decide) ?_
          exact ihl _ _ _ _ _ _ _ _ hk_x0 _ _ _ _ (lv_sub hl [1, 2, 3, 4, 5, 6, 7, 0] rfl) hP hS h
  have B_72 : ∀ (x0 : Nat) (x1 : Int32) (x3 : Int32) (x4 : Int32) (x5 : Int32), 100 ≤ cx_kd x0 → ∀ (V : gx_M) (H : Heap) (locs : List Loc) (ls : Array Slot), lv_has ls 10 [(0, .ref (b + x0)), (1, .int x1), (3, .int x3), (4, .int x4), (5, .int x5)] → va_P (dC, dI) cx_cl (gx_w b 97 (gx_v (cx_sh cI cR b) V)) H → va_S (gx_A b 97) s.heap H locs → F_Com_rootOfPart_72 (F_Com_rootOfPart n) x0 x1 x3 x4 x5 V = some q → W p l e (headSpec w_Com_rootOfPart (rm_Com_rootOfPart (n + 1))).room s m args below meth c H locs 0 0 (MQ below (gx_Q (dC, dI) cx_cl b 97 (cx_sh cI cR b) (some (.int q.1)) q.2) args s 0 0 (gx_A b 97)) (F0 m 72 ls []) := by
    intro x0 x1 x3 x4 x5 hk_x0 V H locs ls hl hP hS h
    unfold F_Com_rootOfPart_72 at h
    refine lv_iconst (pc := 72) (v := (1 : Int32)) hx hb d_Com_rootOfPart_72 (by decide) ?_
    refine lv_iconst (pc := 73) (v := (1 : Int32)) hx hb d_Com_rootOfPart_73 (by decide) ?_
    refine lv_iload (pc := 74) hx hb d_Com_rootOfPart_74 (lv_at hl 3 rfl) ?_
    refine lv_ishl (pc := 76) hx hb d_Com_rootOfPart_76 ?_
    refine lv_iload (pc := 77) hx hb d_Com_rootOfPart_77 (lv_at hl 4 rfl) ?_
    refine lv_iadd (pc := 79) hx hb d_Com_rootOfPart_79 ?_
    refine lv_iload_n (pc := 80) hx hb d_Com_rootOfPart_80 rfl (lv_at hl 2 rfl) ?_
    refine lv_isub (pc := 81) hx hb d_Com_rootOfPart_81 ?_
    obtain ⟨q8, g11, h⟩ := gx_bd h
    refine gx_ci (pc := 82) (va_runS (As := [.int (1 : Int32), .int ((((1 : Int32) <<< (x4 &&& 31)) + x5) - x3)]) (rest := []) ⟨hx, hb, hml, hown, hts⟩ (k_Com_mix l dC dI cI cR cZ b tP tN  g11) (gx_cs 2 hts cd_Com_mix tb_53 tb_541 tb_474 rfl rfl ⟨by decide, by decide, by decide +kernel⟩ ⟨by show 0 + 1 ≤ _ + 1 + 2; omega, by show 8 + (3 + 11) + 0 ≤ 64 * (_ + 1 + 2); omega⟩) (gy_pre (cx_XX b tP tN) hX hK hP hS) rfl rfl hl.1 rfl (lv_room (Nat.le_of_ble_eq_true rfl)) d_Com_rootOfPart_82 ⟨Nat.zero_le _, Nat.zero_le _⟩) hS (fun H locs hP hS => ?_)
    refine lv_aload_n (pc := 85) hx hb d_Com_rootOfPart_85 rfl (lv_at hl 0 rfl) ?_
    refine lv_iload_n (pc := 86) hx hb d_Com_rootOfPart_86 rfl (lv_at hl 1 rfl) ?_
    refine lv_iload (pc := 87) hx hb d_Com_rootOfPart_87 (lv_at hl 4 rfl) ?_
    refine lv_iadd (pc := 89) hx hb d_Com_rootOfPart_89 ?_
    obtain ⟨g12, h⟩ := gx_if h
    refine va_iald (pc := 90) hx hb hK hP x0 0 (gx_at (gx_plt hk_x0) (sh_arrP cI cR b hk_x0 _)) rfl g12 d_Com_rootOfPart_90 ?_
    obtain ⟨q9, g13, h⟩ := gx_bd h
    refine gx_ci (pc := 91) (va_runS (As := [.int q8.1, .int (q8.2 x0 (x1 + x5).toNatClampNeg)]) (rest := []) ⟨hx, hb, hml, hown, hts⟩ (k_Com_mix l dC dI cI cR cZ b tP tN  g13) (gx_cs 2 hts cd_Com_mix tb_53 tb_541 tb_474 rfl rfl ⟨by decide, by decide, by decide +kernel⟩ ⟨by show 0 + 1 ≤ _ + 1 + 2; omega, by show 8 + (3 + 11) + 0 ≤ 64 * (_ + 1 + 2); omega⟩) (gy_pre (cx_XX b tP tN) hX hK hP hS) rfl rfl hl.1 rfl (lv_room (Nat.le_of_ble_eq_true rfl)) d_Com_rootOfPart_91 ⟨Nat.zero_le _, Nat.zero_le _⟩) hS (fun H locs hP hS => ?_)
    exact gx_iret (free := fun _ => True) hx hb hr hlk hP hS d_Com_rootOfPart_94 (by cases h; rfl) (by cases h; rfl)
  have B_9 : ∀ (nf : Nat), ∀ (x0 : Nat) (x1 : Int32) (x2 : Int32) (x3 : Int32) (x4 : Int32) (x5 : Int32) (x6 : Int32) (x7 : Int32), 100 ≤ cx_kd x0 → ∀ (V : gx_M) (H : Heap) (locs : List Loc) (ls : Array Slot), lv_has ls 10 [(0, .ref (b + x0)), (1, .int x1), (2, .int x2), (3, .int x3), (4, .int x4), (5, .int x5), (6, .int x6), (7, .int x7)] → va_P (dC, dI) cx_cl (gx_w b 97 (gx_v (cx_sh cI cR b) V)) H → va_S (gx_A b 97) s.heap H locs → F_Com_rootOfPart_9 nf (F_Com_rootOfPart n) x0 x1 x2 x3 x4 x5 x6 x7 V = some q → W p l e (headSpec w_Com_rootOfPart (rm_Com_rootOfPart (n + 1))).room s m args below meth c H locs 0 0 (MQ below (gx_Q (dC, dI) cx_cl b 97 (cx_sh cI cR b) (some (.int q.1)) q.2) args s 0 0 (gx_A b 97)) (F0 m 9 ls []) := by
    intro nf
    induction nf with
    | zero => intro x0 x1 x2 x3 x4 x5 x6 x7 hk_x0 V H locs ls hl hP hS h; cases h
    | succ nf ihl =>
      intro x0 x1 x2 x3 x4 x5 x6 x7 hk_x0 V H locs ls hl hP hS h
      rw [F_Com_rootOfPart_9] at h
      refine lv_iload (pc := 9) hx hb d_Com_rootOfPart_9 (lv_at hl 7 rfl) ?_
      refine lv_iload_n (pc := 11) hx hb d_Com_rootOfPart_11 rfl (lv_at hl 3 rfl) ?_
      refine lv_iconst (pc := 12) (v := (1 : Int32)) hx hb d_Com_rootOfPart_12 (by decide) ?_
      refine lv_iload (pc := 13) hx hb d_Com_rootOfPart_13 (lv_at hl 4 rfl) ?_
      refine lv_ishl (pc := 15) hx hb d_Com_rootOfPart_15 ?_
      refine lv_iadd (pc := 16) hx hb d_Com_rootOfPart_16 ?_
      refine lv_icmp_ge (pc := 17) (tgt := 53) hx hb d_Com_rootOfPart_17 (by decide) (fun g14 => ?_) (fun g14 => ?_)
      · have h := gx_pos g14 h
        refine lv_iload (pc := 53) hx hb d_Com_rootOfPart_53 (lv_at hl 5 rfl) ?_
        refine lv_if_ge (pc := 55) (tgt := 60) hx hb d_Com_rootOfPart_55 (by decide) (fun g15 => ?_) (fun g15 => ?_)
        · have h := gx_pos g15 h
          refine lv_iload (pc := 60) hx hb d_Com_rootOfPart_60 (lv_at hl 4 rfl) ?_
          refine lv_if_le (pc := 62) (tgt := 72) hx hb d_Com_rootOfPart_62 (by decide) (fun g16 => ?_) (fun g16 => ?_)
          · have h := gx_pos g16 h
            exact B_72   _ _ _ _ _ hk_x0 _ _ _ _ (lv_sub hl [0, 1, 3, 4, 5] rfl) hP hS h
          · have h := gx_neg g16 h
            refine lv_iload (pc := 65) hx hb d_Com_rootOfPart_65 (lv_at hl 5 rfl) ?_
            refine lv_iload (pc := 67) hx hb d_Com_rootOfPart_67 (lv_at hl 6 rfl) ?_
            refine lv_icmp_ne (pc := 69) (tgt := 95) hx hb d_Com_rootOfPart_69 (by decide) (fun g17 => ?_) (fun g17 => ?_)
            · have h := gx_neg g17 h
              refine lv_iconst (pc := 95) (v := (1 : Int32)) hx hb d_Com_rootOfPart_95 (by decide) ?_
              refine lv_istore (pc := 96) (lv' := [(7, .int (1 : Int32)), (0, .ref (b + x0)), (1, .int x1), (2, .int x2), (3, .int x3), (4, .int x4), (5, .int x5), (6, .int x6)]) hx hb d_Com_rootOfPart_96 hl (by decide) rfl (fun ls hl => ?_)
              exact B_98 100  _ _ _ _ _ _ _ _ hk_x0 _ _ _ _ (lv_sub hl [1, 2, 3, 4, 5, 6, 7, 0] rfl) hP hS h
            · have h := gx_pos g17 h
              exact B_72   _ _ _ _ _ hk_x0 _ _ _ _ (lv_sub hl [0, 1, 3, 4, 5] rfl) hP hS h
        · have h := gx_neg g15 h
          refine lv_iconst (pc := 58) (v := (0 : Int32)) hx hb d_Com_rootOfPart_58 (by decide) ?_
          exact gx_iret (free := fun _ => True) hx hb hr hlk hP hS d_Com_rootOfPart_59 (by cases h; rfl) (by cases h; rfl)
      · have h := gx_neg g14 h
        refine lv_iload_n (pc := 20) hx hb d_Com_rootOfPart_20 rfl (lv_at hl 2 rfl) ?_
        refine lv_iload (pc := 21) hx hb d_Com_rootOfPart_21 (lv_at hl 7 rfl) ?_
        refine lv_iushr (pc := 23) hx hb d_Com_rootOfPart_23 rfl ?_
        refine lv_iconst (pc := 24) (v := (1 : Int32)) hx hb d_Com_rootOfPart_24 (by decide) ?_
        refine lv_iand (pc := 25) hx hb d_Com_rootOfPart_25 ?_
        refine lv_if_eq (pc := 26) (tgt := 47) hx hb d_Com_rootOfPart_26 (by decide) (fun g18 => ?_) (fun g18 => ?_)
        · have h := gx_pos g18 h
          refine lv_iinc (pc := 47) (k := 7) (lv' := [(7, .int (x7 + (1 : Int32))), (0, .ref (b + x0)), (1, .int x1), (2, .int x2), (3, .int x3), (4, .int x4), (5, .int x5), (6, .int x6)]) hx hb d_Com_rootOfPart_47 hl rfl (gx_inc (by decide)) (by decide) rfl (fun ls hl => ?_)
          refine lv_goto (pc := 50) (tgt := 9) hx hb d_Com_rootOfPart_50 (by decide) ?_
          exact ihl _ _ _ _ _ _ _ _ hk_x0 _ _ _ _ (lv_sub hl [1, 2, 3, 4, 5, 6, 7, 0] rfl) hP hS h
        · have h := gx_neg g18 h
          refine lv_iload (pc := 29) hx hb d_Com_rootOfPart_29 (lv_at hl 5 rfl) ?_
          refine lv_if_ge (pc := 31) (tgt := 39) hx hb d_Com_rootOfPart_31 (by decide) (fun g19 => ?_) (fun g19 => ?_)
          · have h := gx_pos g19 h
            refine lv_iload (pc := 39) hx hb d_Com_rootOfPart_39 (lv_at hl 5 rfl) ?_
            refine lv_istore (pc := 41) (lv' := [(5, .int x5), (0, .ref (b + x0)), (1, .int x1), (2, .int x2), (3, .int x3), (4, .int x4), (6, .int x6), (7, .int x7)]) hx hb d_Com_rootOfPart_41 hl (by decide) rfl (fun ls hl => ?_)
            refine lv_iload (pc := 43) hx hb d_Com_rootOfPart_43 (lv_at hl 7 rfl) ?_
            refine lv_istore (pc := 45) (lv' := [(6, .int x7), (5, .int x5), (0, .ref (b + x0)), (1, .int x1), (2, .int x2), (3, .int x3), (4, .int x4), (7, .int x7)]) hx hb d_Com_rootOfPart_45 hl (by decide) rfl (fun ls hl => ?_)
            refine lv_iinc (pc := 47) (k := 7) (lv' := [(7, .int (x7 + (1 : Int32))), (6, .int x7), (5, .int x5), (0, .ref (b + x0)), (1, .int x1), (2, .int x2), (3, .int x3), (4, .int x4)]) hx hb d_Com_rootOfPart_47 hl rfl (gx_inc (by decide)) (by decide) rfl (fun ls hl => ?_)
            refine lv_goto (pc := 50) (tgt := 9) hx hb d_Com_rootOfPart_50 (by decide) ?_
            exact ihl _ _ _ _ _ _ _ _ hk_x0 _ _ _ _ (lv_sub hl [3, 4, 5, 6, 7, 2, 1, 0] rfl) hP hS h
          · have h := gx_neg g19 h
            refine lv_iload (pc := 34) hx hb d_Com_rootOfPart_34 (lv_at hl 7 rfl) ?_
            refine lv_goto (pc := 36) (tgt := 41) hx hb d_Com_rootOfPart_36 (by decide) ?_
            refine lv_istore (pc := 41) (lv' := [(5, .int x7), (0, .ref (b + x0)), (1, .int x1), (2, .int x2), (3, .int x3), (4, .int x4), (6, .int x6), (7, .int x7)]) hx hb d_Com_rootOfPart_41 hl (by decide) rfl (fun ls hl => ?_)
            refine lv_iload (pc := 43) hx hb d_Com_rootOfPart_43 (lv_at hl 7 rfl) ?_
            refine lv_istore (pc := 45) (lv' := [(6, .int x7), (5, .int x7), (0, .ref (b + x0)), (1, .int x1), (2, .int x2), (3, .int x3), (4, .int x4), (7, .int x7)]) hx hb d_Com_rootOfPart_45 hl (by decide) rfl (fun ls hl => ?_)
            refine lv_iinc (pc := 47) (k := 7) (lv' := [(7, .int (x7 + (1 : Int32))), (6, .int x7), (5, .int x7), (0, .ref (b + x0)), (1, .int x1), (2, .int x2), (3, .int x3), (4, .int x4)]) hx hb d_Com_rootOfPart_47 hl rfl (gx_inc (by decide)) (by decide) rfl (fun ls hl => ?_)
            refine lv_goto (pc := 50) (tgt := 9) hx hb d_Com_rootOfPart_50 (by decide) ?_
            exact ihl _ _ _ _ _ _ _ _ hk_x0 _ _ _ _ (lv_sub hl [3, 4, 5, 6, 7, 2, 1, 0] rfl) hP hS h
  rw [F_Com_rootOfPart] at h
  refine lv_iconst (pc := 0) (v := (-1 : Int32)) hx hb d_Com_rootOfPart_0 (by decide) ?_
  refine lv_istore (pc := 1) (lv' := [(5, .int (-1 : Int32)), (0, .ref (b + x0)), (1, .int x1), (2, .int x2), (3, .int x3), (4, .int x4)]) hx hb d_Com_rootOfPart_1 hl (by decide) rfl (fun ls hl => ?_)
  refine lv_iconst (pc := 3) (v := (-1 : Int32)) hx hb d_Com_rootOfPart_3 (by decide) ?_
  refine lv_istore (pc := 4) (lv' := [(6, .int (-1 : Int32)), (5, .int (-1 : Int32)), (0, .ref (b + x0)), (1, .int x1), (2, .int x2), (3, .int x3), (4, .int x4)]) hx hb d_Com_rootOfPart_4 hl (by decide) rfl (fun ls hl => ?_)
  refine lv_iload_n (pc := 6) hx hb d_Com_rootOfPart_6 rfl (lv_at hl 5 rfl) ?_
  refine lv_istore (pc := 7) (lv' := [(7, .int x3), (6, .int (-1 : Int32)), (5, .int (-1 : Int32)), (0, .ref (b + x0)), (1, .int x1), (2, .int x2), (3, .int x3), (4, .int x4)]) hx hb d_Com_rootOfPart_7 hl (by decide) rfl (fun ls hl => ?_)
  exact B_9 100  _ _ _ _ _ _ _ _ hk0 _ _ _ _ (lv_sub hl [3, 4, 5, 6, 7, 2, 1, 0] rfl) hP hS h
abbrev rm_Com_rootOfMap : Room := { frames := 9, cells := 0, slots := 0, locals := 541 }
def F_Com_rootOfMap (x0 : Nat) (x1 : Int32) (x2 : Int32) (x3 : Int32) (V : gx_M) : Option (Int32 × gx_M) := ((F_Com_rootOfPart 6 x0 x1 x2 (0 : Int32) x3 V).bind fun q1 => some (q1.1, q1.2))
set_option maxRecDepth 100000 in
set_option maxHeartbeats 8000000 in
theorem k_Com_rootOfMap (l : Launch) (dC : Nat → ClassId) (dI : Nat → Nat → Nat) (cI cR cZ : ClassId) (b tP tN : Nat) {x0 : Nat} {x1 : Int32} {x2 : Int32} {x3 : Int32} {V : gx_M} {q : (Int32 × gx_M)} (hk0 : 100 ≤ cx_kd x0) (h : F_Com_rootOfMap x0 x1 x2 x3 V = some q) : cx_C l dC dI cI cR cZ b tP tN y_Com_rootOfMap w_Com_rootOfMap rm_Com_rootOfMap [.ref (b + x0), .int x1, .int x2, .int x3] V (some (.int q.1)) q.2 := by
  refine gx_start (cc := b_Com_rootOfMap) (maxL := 4) (ret := rt_Com_rootOfMap) (by decide) rfl (Nat.le_of_ble_eq_true rfl) ?_
  intro p e s m args below meth c ls hx hb hr hts hown hlk hml hl hP hK hX hS
  have hts : ∀ w ∈ cx_tb, w.before args s = true := fun w hw => hts w (List.mem_cons_of_mem _ hw)
  have hown : s.vm.findClass "GasLedger$Commitment" = some m.cls := hown
  have hl : lv_has ls 4 [(0, .ref (b + x0)), (1, .int x1), (2, .int x2), (3, .int x3)] := hl
  unfold F_Com_rootOfMap at h
  refine lv_aload_n (pc := 0) hx hb d_Com_rootOfMap_0 rfl (lv_at hl 0 rfl) ?_
  refine lv_iload_n (pc := 1) hx hb d_Com_rootOfMap_1 rfl (lv_at hl 1 rfl) ?_
  refine lv_iload_n (pc := 2) hx hb d_Com_rootOfMap_2 rfl (lv_at hl 2 rfl) ?_
  refine lv_iconst (pc := 3) (v := (0 : Int32)) hx hb d_Com_rootOfMap_3 (by decide) ?_
  refine lv_iload_n (pc := 4) hx hb d_Com_rootOfMap_4 rfl (lv_at hl 3 rfl) ?_
  obtain ⟨q1, g1, h⟩ := gx_bd h
  refine gx_ci (pc := 5) (va_runS (As := [.ref (b + x0), .int x1, .int x2, .int (0 : Int32), .int x3]) (rest := []) ⟨hx, hb, hml, hown, hts⟩ (k_Com_rootOfPart l dC dI cI cR cZ b tP tN 6 hk0 g1) (gx_cs 5 hts cd_Com_rootOfPart tb_53 tb_538 tb_539 rfl rfl ⟨by decide, by decide, by decide +kernel⟩ ⟨Nat.le_of_ble_eq_true rfl, Nat.le_of_ble_eq_true rfl⟩) (gy_pre (cx_XX b tP tN) hX hK hP hS) rfl rfl hl.1 rfl (lv_room (Nat.le_of_ble_eq_true rfl)) d_Com_rootOfMap_5 ⟨Nat.zero_le _, Nat.zero_le _⟩) hS (fun H locs hP hS => ?_)
  exact gx_iret (free := fun _ => True) hx hb hr hlk hP hS d_Com_rootOfMap_8 (by cases h; rfl) (by cases h; rfl)
abbrev rm_Acc_slotsRoot : Room := { frames := 10, cells := 0, slots := 0, locals := 564 }
def F_Acc_slotsRoot (x0 : Nat) (x1 : Int32) (V : gx_M) : Option (Int32 × gx_M) := ((F_Acc_filledSlots x0 x1 V).bind fun q1 => ((F_Com_rootOfMap (x0 + 5) (x1 * (8 : Int32)) q1.1 (3 : Int32) q1.2).bind fun q2 => some (q2.1, q2.2)))
set_option maxRecDepth 100000 in
set_option maxHeartbeats 8000000 in
theorem k_Acc_slotsRoot (l : Launch) (dC : Nat → ClassId) (dI : Nat → Nat → Nat) (cI cR cZ : ClassId) (b tP tN : Nat) {x0 : Nat} {x1 : Int32} {V : gx_M} {q : (Int32 × gx_M)} (hk0 : cx_kd x0 = 0) (h : F_Acc_slotsRoot x0 x1 V = some q) : cx_C l dC dI cI cR cZ b tP tN y_Acc_slotsRoot w_Acc_slotsRoot rm_Acc_slotsRoot [.ref (b + x0), .int x1] V (some (.int q.1)) q.2 := by
  refine gx_start (cc := b_Acc_slotsRoot) (maxL := 2) (ret := rt_Acc_slotsRoot) (by decide) rfl (Nat.le_of_ble_eq_true rfl) ?_
  intro p e s m args below meth c ls hx hb hr hts hown hlk hml hl hP hK hX hS
  have hts : ∀ w ∈ cx_tb, w.before args s = true := fun w hw => hts w (List.mem_cons_of_mem _ hw)
  have hown : s.vm.findClass "GasLedger$Accounts" = some m.cls := hown
  have hl : lv_has ls 2 [(0, .ref (b + x0)), (1, .int x1)] := hl
  unfold F_Acc_slotsRoot at h
  refine lv_aload_n (pc := 0) hx hb d_Acc_slotsRoot_0 rfl (lv_at hl 0 rfl) ?_
  refine va_get (pc := 1) (D := (dC, dI)) (ci := 0) (C := R_Acc) (T := T_Acc) (N := 6) hx hb hts in_Acc hown hK hP x0 (gx_at (cx_lt hk0 (by decide)) (sh_Acc cI cR b hk0 _)) rfl 4 (by decide) (hts _ tb_84) (fun _ h9 => h9) rfl d_Acc_slotsRoot_1 ?_
  refine lv_iload_n (pc := 4) hx hb d_Acc_slotsRoot_4 rfl (lv_at hl 1 rfl) ?_
  refine lv_bipush (pc := 5) (v := (8 : Int32)) hx hb d_Acc_slotsRoot_5 (by decide) ?_
  refine lv_imul (pc := 7) hx hb d_Acc_slotsRoot_7 ?_
  refine lv_aload_n (pc := 8) hx hb d_Acc_slotsRoot_8 rfl (lv_at hl 0 rfl) ?_
  refine lv_iload_n (pc := 9) hx hb d_Acc_slotsRoot_9 rfl (lv_at hl 1 rfl) ?_
  obtain ⟨q1, g1, h⟩ := gx_bd h
  refine gx_ci (pc := 10) (va_runV (C := "GasLedger$Accounts") (As := [.int x1]) (rest := [.int (x1 * (8 : Int32)), .ref (b + (x0 + 5))]) ⟨hx, hb, hml, hown, hts⟩ (k_Acc_filledSlots l dC dI cI cR cZ b tP tN hk0 g1) (gx_cw 1 hts cd_Acc_filledSlots tb_46 tb_464 tb_466 tb_14 rfl rfl ⟨by decide, by decide, by decide +kernel⟩ ⟨Nat.le_of_ble_eq_true rfl, Nat.le_of_ble_eq_true rfl⟩) (gy_preV (cx_XX b tP tN) hX hK hP hS (cx_lt hk0 (by decide)) (sh_Acc cI cR b hk0 _) rfl) rfl rfl hl.1 rfl (lv_room (Nat.le_of_ble_eq_true rfl)) d_Acc_slotsRoot_10 ⟨Nat.zero_le _, Nat.zero_le _⟩) hS (fun H locs hP hS => ?_)
  refine lv_iconst (pc := 13) (v := (3 : Int32)) hx hb d_Acc_slotsRoot_13 (by decide) ?_
  obtain ⟨q2, g2, h⟩ := gx_bd h
  refine gx_ci (pc := 14) (va_runS (As := [.ref (b + (x0 + 5)), .int (x1 * (8 : Int32)), .int q1.1, .int (3 : Int32)]) (rest := []) ⟨hx, hb, hml, hown, hts⟩ (k_Com_rootOfMap l dC dI cI cR cZ b tP tN (Nat.le_trans (m := 228) (by decide) (Nat.le_of_eq (to_Acc_slots hk0).symm)) g2) (gx_cs 4 hts cd_Com_rootOfMap tb_53 tb_535 tb_536 rfl rfl ⟨by decide, by decide, by decide +kernel⟩ ⟨Nat.le_of_ble_eq_true rfl, Nat.le_of_ble_eq_true rfl⟩) (gy_pre (cx_XX b tP tN) hX hK hP hS) rfl rfl hl.1 rfl (lv_room (Nat.le_of_ble_eq_true rfl)) d_Acc_slotsRoot_14 ⟨Nat.zero_le _, Nat.zero_le _⟩) hS (fun H locs hP hS => ?_)
  exact gx_iret (free := fun _ => True) hx hb hr hlk hP hS d_Acc_slotsRoot_17 (by cases h; rfl) (by cases h; rfl)
