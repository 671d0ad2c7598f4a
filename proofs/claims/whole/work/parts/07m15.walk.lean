abbrev rm_Mod_bloom : Room := { frames := 1, cells := 0, slots := 0, locals := 22 }
def F_Mod_bloom_4 : Nat → Nat → Int32 → Int32 → gx_M → Option (Int32 × gx_M)
  | 0, _, _, _, _ => none
  | nf + 1, x0, x1, x2, V => (if (V x0 13) ≤ x2 then some (x1, V) else (if gx_ib x2 512 then ((F_Mod_mix (6 : Int32) (V (x0 + 5) x2.toNatClampNeg) V).bind fun q1 => (F_Mod_bloom_4 nf  x0 ((x1 ||| ((1 : Int32) <<< (((V (x0 + 5) x2.toNatClampNeg) &&& (31 : Int32)) &&& 31))) ||| ((1 : Int32) <<< ((q1.1 &&& (31 : Int32)) &&& 31))) (x2 + (1 : Int32)) q1.2)) else none))
def F_Mod_bloom (x0 : Nat) (V : gx_M) : Option (Int32 × gx_M) := (F_Mod_bloom_4 1000  x0 (0 : Int32) (0 : Int32) V)
set_option maxRecDepth 100000 in
set_option maxHeartbeats 8000000 in
theorem k_Mod_bloom (l : Launch) (dC : Nat → ClassId) (dI : Nat → Nat → Nat) (cI cR cZ : ClassId) (b tP tN : Nat) {x0 : Nat} {V : gx_M} {q : (Int32 × gx_M)} (hk0 : mx_kd x0 = 6) (h : F_Mod_bloom x0 V = some q) : mx_C l dC dI cI cR cZ b tP tN y_Mod_bloom w_Mod_bloom rm_Mod_bloom [.ref (b + x0)] V (some (.int q.1)) q.2 := by
  refine gx_start (cc := b_Mod_bloom) (maxL := 4) (ret := rt_Mod_bloom) (by decide) rfl (Nat.le_of_ble_eq_true rfl) ?_
  intro p e s m args below meth c ls hx hb hr hts hown hlk hml hl hP hK hX hS
  have hts : ∀ w ∈ cx_tb, w.before args s = true := fun w hw => hts w (List.mem_cons_of_mem _ hw)
  have hown : s.vm.findClass "GasLedgerModel" = some m.cls := hown
  have hl : lv_has ls 4 [(0, .ref (b + x0))] := hl
  have B_4 : ∀ (nf : Nat), ∀ (x0 : Nat) (x1 : Int32) (x2 : Int32), mx_kd x0 = 6 → ∀ (V : gx_M) (H : Heap) (locs : List Loc) (ls : Array Slot), lv_has ls 4 [(0, .ref (b + x0)), (1, .int x1), (2, .int x2)] → va_P (dC, dI) cx_cl (gx_w b 22 (gx_v (mx_sh cI cZ b) V)) H → va_S (gx_A b 22) s.heap H locs → F_Mod_bloom_4 nf x0 x1 x2 V = some q → W p l e (headSpec w_Mod_bloom rm_Mod_bloom).room s m args below meth c H locs 0 0 (MQ below (gx_Q (dC, dI) cx_cl b 22 (mx_sh cI cZ b) (some (.int q.1)) q.2) args s 0 0 (gx_A b 22)) (F0 m 4 ls []) := by
    intro nf
    induction nf with
    | zero => intro x0 x1 x2 hk_x0 V H locs ls hl hP hS h; cases h
    | succ nf ihl =>
      intro x0 x1 x2 hk_x0 V H locs ls hl hP hS h
      rw [F_Mod_bloom_4] at h
      refine lv_iload_n (pc := 4) hx hb d_Mod_bloom_4 rfl (lv_at hl 2 rfl) ?_
      refine lv_aload_n (pc := 5) hx hb d_Mod_bloom_5 rfl (lv_at hl 0 rfl) ?_
      refine va_get (pc := 6) (D := (dC, dI)) (ci := 6) (C := R_Mod) (T := T_Mod) (N := 39) hx hb hts in_Mod hown hK hP x0 (gx_at (mx_lt hk_x0 (by decide)) (sh_Mod cI cZ b hk_x0 _)) rfl 13 (by decide) (hts _ tb_614) (fun _ h9 => h9) rfl d_Mod_bloom_6 ?_
      refine lv_icmp_ge (pc := 9) (tgt := 46) hx hb d_Mod_bloom_9 (by decide) (fun g1 => ?_) (fun g1 => ?_)
      · have h := gx_pos g1 h
        refine lv_iload_n (pc := 46) hx hb d_Mod_bloom_46 rfl (lv_at hl 1 rfl) ?_
        exact gx_iret (free := fun _ => True) hx hb hr hlk hP hS d_Mod_bloom_47 (by cases h; rfl) (by cases h; rfl)
      · have h := gx_neg g1 h
        refine lv_aload_n (pc := 12) hx hb d_Mod_bloom_12 rfl (lv_at hl 0 rfl) ?_
        refine va_get (pc := 13) (D := (dC, dI)) (ci := 6) (C := R_Mod) (T := T_Mod) (N := 39) hx hb hts in_Mod hown hK hP x0 (gx_at (mx_lt hk_x0 (by decide)) (sh_Mod cI cZ b hk_x0 _)) rfl 15 (by decide) (hts _ tb_616) (fun _ h9 => h9) rfl d_Mod_bloom_13 ?_
        refine lv_iload_n (pc := 16) hx hb d_Mod_bloom_16 rfl (lv_at hl 2 rfl) ?_
        obtain ⟨g2, h⟩ := gx_if h
        refine va_iald (pc := 17) hx hb hK hP (x0 + 5) 0 (gx_at (mx_lt (to_Mod_logNumber hk_x0) (by decide)) (mh_arr cI cZ b (n := 512) (to_Mod_logNumber hk_x0) (by decide) _)) rfl g2 d_Mod_bloom_17 ?_
        refine lv_istore_n (pc := 18) (lv' := [(3, .int (V (x0 + 5) x2.toNatClampNeg)), (0, .ref (b + x0)), (1, .int x1), (2, .int x2)]) hx hb d_Mod_bloom_18 rfl hl (by decide) rfl (fun ls hl => ?_)
        refine lv_iload_n (pc := 19) hx hb d_Mod_bloom_19 rfl (lv_at hl 2 rfl) ?_
        refine lv_iconst (pc := 20) (v := (1 : Int32)) hx hb d_Mod_bloom_20 (by decide) ?_
        refine lv_iload_n (pc := 21) hx hb d_Mod_bloom_21 rfl (lv_at hl 0 rfl) ?_
        refine lv_bipush (pc := 22) (v := (31 : Int32)) hx hb d_Mod_bloom_22 (by decide) ?_
        refine lv_iand (pc := 24) hx hb d_Mod_bloom_24 ?_
        refine lv_ishl (pc := 25) hx hb d_Mod_bloom_25 ?_
        refine lv_ior (pc := 26) hx hb d_Mod_bloom_26 ?_
        refine lv_iconst (pc := 27) (v := (1 : Int32)) hx hb d_Mod_bloom_27 (by decide) ?_
        refine lv_bipush (pc := 28) (v := (6 : Int32)) hx hb d_Mod_bloom_28 (by decide) ?_
        refine lv_iload_n (pc := 30) hx hb d_Mod_bloom_30 rfl (lv_at hl 0 rfl) ?_
        obtain ⟨q1, g3, h⟩ := gx_bd h
        refine gx_ci (pc := 31) (va_runS (As := [.int (6 : Int32), .int (V (x0 + 5) x2.toNatClampNeg)]) (rest := [.int (1 : Int32), .int (x1 ||| ((1 : Int32) <<< (((V (x0 + 5) x2.toNatClampNeg) &&& (31 : Int32)) &&& 31)))]) ⟨hx, hb, hml, hown, hts⟩ (k_Mod_mix l dC dI cI cR cZ b tP tN  g3) (gx_cs 2 hts cd_Mod_mix tb_50 tb_744 tb_745 rfl rfl ⟨by decide, by decide, by decide +kernel⟩ ⟨Nat.le_of_ble_eq_true rfl, Nat.le_of_ble_eq_true rfl⟩) (gy_pre (mx_XX b) hX hK hP hS) rfl rfl hl.1 rfl (lv_room (Nat.le_of_ble_eq_true rfl)) d_Mod_bloom_31 ⟨Nat.zero_le _, Nat.zero_le _⟩) hS (fun H locs hP hS => ?_)
        refine lv_bipush (pc := 34) (v := (31 : Int32)) hx hb d_Mod_bloom_34 (by decide) ?_
        refine lv_iand (pc := 36) hx hb d_Mod_bloom_36 ?_
        refine lv_ishl (pc := 37) hx hb d_Mod_bloom_37 ?_
        refine lv_ior (pc := 38) hx hb d_Mod_bloom_38 ?_
        refine lv_istore_n (pc := 39) (lv' := [(1, .int ((x1 ||| ((1 : Int32) <<< (((V (x0 + 5) x2.toNatClampNeg) &&& (31 : Int32)) &&& 31))) ||| ((1 : Int32) <<< ((q1.1 &&& (31 : Int32)) &&& 31)))), (3, .int (V (x0 + 5) x2.toNatClampNeg)), (0, .ref (b + x0)), (2, .int x2)]) hx hb d_Mod_bloom_39 rfl hl (by decide) rfl (fun ls hl => ?_)
        refine lv_iinc (pc := 40) (k := 3) (lv' := [(2, .int (x2 + (1 : Int32))), (1, .int ((x1 ||| ((1 : Int32) <<< (((V (x0 + 5) x2.toNatClampNeg) &&& (31 : Int32)) &&& 31))) ||| ((1 : Int32) <<< ((q1.1 &&& (31 : Int32)) &&& 31)))), (3, .int (V (x0 + 5) x2.toNatClampNeg)), (0, .ref (b + x0))]) hx hb d_Mod_bloom_40 hl rfl (gx_inc (by decide)) (by decide) rfl (fun ls hl => ?_)
        refine lv_goto (pc := 43) (tgt := 4) hx hb d_Mod_bloom_43 (by decide) ?_
        exact ihl _ _ _ hk_x0 _ _ _ _ (lv_sub hl [3, 1, 0] rfl) hP hS h
  unfold F_Mod_bloom at h
  refine lv_iconst (pc := 0) (v := (0 : Int32)) hx hb d_Mod_bloom_0 (by decide) ?_
  refine lv_istore_n (pc := 1) (lv' := [(1, .int (0 : Int32)), (0, .ref (b + x0))]) hx hb d_Mod_bloom_1 rfl hl (by decide) rfl (fun ls hl => ?_)
  refine lv_iconst (pc := 2) (v := (0 : Int32)) hx hb d_Mod_bloom_2 (by decide) ?_
  refine lv_istore_n (pc := 3) (lv' := [(2, .int (0 : Int32)), (1, .int (0 : Int32)), (0, .ref (b + x0))]) hx hb d_Mod_bloom_3 rfl hl (by decide) rfl (fun ls hl => ?_)
  exact B_4 1000  _ _ _ hk0 _ _ _ _ (lv_sub hl [2, 1, 0] rfl) hP hS h
abbrev rm_Mod_block : Room := { frames := 2, cells := 0, slots := 0, locals := 45 }
def F_Mod_block (x0 : Nat) (x1 : Int32) (V : gx_M) : Option (Int32 × gx_M) := (if (4 : Int32) ≤ x1 then (if x1 = (4 : Int32) then some ((V x0 10), V) else (if x1 = (5 : Int32) then ((F_Mod_bloom x0 V).bind fun q1 => some (q1.1, q1.2)) else (if x1 = (6 : Int32) then some ((V x0 11), V) else (if x1 = (7 : Int32) then some ((V x0 13), V) else some ((-1 : Int32), V))))) else (if x1 = 0 then some ((V x0 8), V) else (if x1 = (1 : Int32) then some ((V x0 9), V) else (if x1 = (2 : Int32) then some ((V x0 7), V) else (if x1 = (3 : Int32) then (if (V x0 4) = 0 then some ((0 : Int32), V) else some ((1 : Int32), V)) else some ((-1 : Int32), V))))))
set_option maxRecDepth 100000 in
set_option maxHeartbeats 8000000 in
theorem k_Mod_block (l : Launch) (dC : Nat → ClassId) (dI : Nat → Nat → Nat) (cI cR cZ : ClassId) (b tP tN : Nat) {x0 : Nat} {x1 : Int32} {V : gx_M} {q : (Int32 × gx_M)} (hk0 : mx_kd x0 = 6) (h : F_Mod_block x0 x1 V = some q) : mx_C l dC dI cI cR cZ b tP tN y_Mod_block w_Mod_block rm_Mod_block [.ref (b + x0), .int x1] V (some (.int q.1)) q.2 := by
  refine gx_start (cc := b_Mod_block) (maxL := 2) (ret := rt_Mod_block) (by decide) rfl (Nat.le_of_ble_eq_true rfl) ?_
  intro p e s m args below meth c ls hx hb hr hts hown hlk hml hl hP hK hX hS
  have hts : ∀ w ∈ cx_tb, w.before args s = true := fun w hw => hts w (List.mem_cons_of_mem _ hw)
  have hown : s.vm.findClass "GasLedgerModel" = some m.cls := hown
  have hl : lv_has ls 2 [(0, .ref (b + x0)), (1, .int x1)] := hl
  unfold F_Mod_block at h
  refine lv_iload_n (pc := 0) hx hb d_Mod_block_0 rfl (lv_at hl 1 rfl) ?_
  refine lv_iconst (pc := 1) (v := (4 : Int32)) hx hb d_Mod_block_1 (by decide) ?_
  refine lv_icmp_ge (pc := 2) (tgt := 62) hx hb d_Mod_block_2 (by decide) (fun g1 => ?_) (fun g1 => ?_)
  · have h := gx_pos g1 h
    refine lv_iload_n (pc := 62) hx hb d_Mod_block_62 rfl (lv_at hl 1 rfl) ?_
    refine lv_iconst (pc := 63) (v := (4 : Int32)) hx hb d_Mod_block_63 (by decide) ?_
    refine lv_icmp_ne (pc := 64) (tgt := 74) hx hb d_Mod_block_64 (by decide) (fun g2 => ?_) (fun g2 => ?_)
    · have h := gx_neg g2 h
      refine lv_iload_n (pc := 74) hx hb d_Mod_block_74 rfl (lv_at hl 1 rfl) ?_
      refine lv_iconst (pc := 75) (v := (5 : Int32)) hx hb d_Mod_block_75 (by decide) ?_
      refine lv_icmp_ne (pc := 76) (tgt := 86) hx hb d_Mod_block_76 (by decide) (fun g3 => ?_) (fun g3 => ?_)
      · have h := gx_neg g3 h
        refine lv_iload_n (pc := 86) hx hb d_Mod_block_86 rfl (lv_at hl 1 rfl) ?_
        refine lv_bipush (pc := 87) (v := (6 : Int32)) hx hb d_Mod_block_87 (by decide) ?_
        refine lv_icmp_ne (pc := 89) (tgt := 99) hx hb d_Mod_block_89 (by decide) (fun g4 => ?_) (fun g4 => ?_)
        · have h := gx_neg g4 h
          refine lv_iload_n (pc := 99) hx hb d_Mod_block_99 rfl (lv_at hl 1 rfl) ?_
          refine lv_bipush (pc := 100) (v := (7 : Int32)) hx hb d_Mod_block_100 (by decide) ?_
          refine lv_icmp_ne (pc := 102) (tgt := 112) hx hb d_Mod_block_102 (by decide) (fun g5 => ?_) (fun g5 => ?_)
          · have h := gx_neg g5 h
            refine lv_iconst (pc := 112) (v := (-1 : Int32)) hx hb d_Mod_block_112 (by decide) ?_
            exact gx_iret (free := fun _ => True) hx hb hr hlk hP hS d_Mod_block_113 (by cases h; rfl) (by cases h; rfl)
          · have h := gx_pos g5 h
            refine lv_aload_n (pc := 105) hx hb d_Mod_block_105 rfl (lv_at hl 0 rfl) ?_
            refine va_get (pc := 106) (D := (dC, dI)) (ci := 6) (C := R_Mod) (T := T_Mod) (N := 39) hx hb hts in_Mod hown hK hP x0 (gx_at (mx_lt hk0 (by decide)) (sh_Mod cI cZ b hk0 _)) rfl 13 (by decide) (hts _ tb_614) (fun _ h9 => h9) rfl d_Mod_block_106 ?_
            refine lv_goto (pc := 109) (tgt := 113) hx hb d_Mod_block_109 (by decide) ?_
            exact gx_iret (free := fun _ => True) hx hb hr hlk hP hS d_Mod_block_113 (by cases h; rfl) (by cases h; rfl)
        · have h := gx_pos g4 h
          refine lv_aload_n (pc := 92) hx hb d_Mod_block_92 rfl (lv_at hl 0 rfl) ?_
          refine va_get (pc := 93) (D := (dC, dI)) (ci := 6) (C := R_Mod) (T := T_Mod) (N := 39) hx hb hts in_Mod hown hK hP x0 (gx_at (mx_lt hk0 (by decide)) (sh_Mod cI cZ b hk0 _)) rfl 11 (by decide) (hts _ tb_612) (fun _ h9 => h9) rfl d_Mod_block_93 ?_
          refine lv_goto (pc := 96) (tgt := 113) hx hb d_Mod_block_96 (by decide) ?_
          exact gx_iret (free := fun _ => True) hx hb hr hlk hP hS d_Mod_block_113 (by cases h; rfl) (by cases h; rfl)
      · have h := gx_pos g3 h
        refine lv_aload_n (pc := 79) hx hb d_Mod_block_79 rfl (lv_at hl 0 rfl) ?_
        obtain ⟨q1, g6, h⟩ := gx_bd h
        refine gx_ci (pc := 80) (va_runV (C := "GasLedgerModel") (As := []) (rest := []) ⟨hx, hb, hml, hown, hts⟩ (k_Mod_bloom l dC dI cI cR cZ b tP tN hk0 g6) (gx_cw 0 hts cd_Mod_bloom tb_50 tb_876 tb_878 tb_42 rfl rfl ⟨by decide, by decide, by decide +kernel⟩ ⟨Nat.le_of_ble_eq_true rfl, Nat.le_of_ble_eq_true rfl⟩) (gy_preV (mx_XX b) hX hK hP hS (mx_lt hk0 (by decide)) (sh_Mod cI cZ b hk0 _) rfl) rfl rfl hl.1 rfl (lv_room (Nat.le_of_ble_eq_true rfl)) d_Mod_block_80 ⟨Nat.zero_le _, Nat.zero_le _⟩) hS (fun H locs hP hS => ?_)
        refine lv_goto (pc := 83) (tgt := 113) hx hb d_Mod_block_83 (by decide) ?_
        exact gx_iret (free := fun _ => True) hx hb hr hlk hP hS d_Mod_block_113 (by cases h; rfl) (by cases h; rfl)
    · have h := gx_pos g2 h
      refine lv_aload_n (pc := 67) hx hb d_Mod_block_67 rfl (lv_at hl 0 rfl) ?_
      refine va_get (pc := 68) (D := (dC, dI)) (ci := 6) (C := R_Mod) (T := T_Mod) (N := 39) hx hb hts in_Mod hown hK hP x0 (gx_at (mx_lt hk0 (by decide)) (sh_Mod cI cZ b hk0 _)) rfl 10 (by decide) (hts _ tb_611) (fun _ h9 => h9) rfl d_Mod_block_68 ?_
      refine lv_goto (pc := 71) (tgt := 113) hx hb d_Mod_block_71 (by decide) ?_
      exact gx_iret (free := fun _ => True) hx hb hr hlk hP hS d_Mod_block_113 (by cases h; rfl) (by cases h; rfl)
  · have h := gx_neg g1 h
    refine lv_iload_n (pc := 5) hx hb d_Mod_block_5 rfl (lv_at hl 1 rfl) ?_
    refine lv_if_ne (pc := 6) (tgt := 16) hx hb d_Mod_block_6 (by decide) (fun g7 => ?_) (fun g7 => ?_)
    · have h := gx_neg g7 h
      refine lv_iload_n (pc := 16) hx hb d_Mod_block_16 rfl (lv_at hl 1 rfl) ?_
      refine lv_iconst (pc := 17) (v := (1 : Int32)) hx hb d_Mod_block_17 (by decide) ?_
      refine lv_icmp_ne (pc := 18) (tgt := 28) hx hb d_Mod_block_18 (by decide) (fun g8 => ?_) (fun g8 => ?_)
      · have h := gx_neg g8 h
        refine lv_iload_n (pc := 28) hx hb d_Mod_block_28 rfl (lv_at hl 1 rfl) ?_
        refine lv_iconst (pc := 29) (v := (2 : Int32)) hx hb d_Mod_block_29 (by decide) ?_
        refine lv_icmp_ne (pc := 30) (tgt := 40) hx hb d_Mod_block_30 (by decide) (fun g9 => ?_) (fun g9 => ?_)
        · have h := gx_neg g9 h
          refine lv_iload_n (pc := 40) hx hb d_Mod_block_40 rfl (lv_at hl 1 rfl) ?_
          refine lv_iconst (pc := 41) (v := (3 : Int32)) hx hb d_Mod_block_41 (by decide) ?_
          refine lv_icmp_ne (pc := 42) (tgt := 60) hx hb d_Mod_block_42 (by decide) (fun g10 => ?_) (fun g10 => ?_)
          · have h := gx_neg g10 h
            refine lv_iconst (pc := 60) (v := (-1 : Int32)) hx hb d_Mod_block_60 (by decide) ?_
            exact gx_iret (free := fun _ => True) hx hb hr hlk hP hS d_Mod_block_61 (by cases h; rfl) (by cases h; rfl)
          · have h := gx_pos g10 h
            refine lv_aload_n (pc := 45) hx hb d_Mod_block_45 rfl (lv_at hl 0 rfl) ?_
            refine va_get (pc := 46) (D := (dC, dI)) (ci := 6) (C := R_Mod) (T := T_Mod) (N := 39) hx hb hts in_Mod hown hK hP x0 (gx_at (mx_lt hk0 (by decide)) (sh_Mod cI cZ b hk0 _)) rfl 4 (by decide) (hts _ tb_605) (fun _ h9 => h9) rfl d_Mod_block_46 ?_
            refine lv_if_eq (pc := 49) (tgt := 56) hx hb d_Mod_block_49 (by decide) (fun g11 => ?_) (fun g11 => ?_)
            · have h := gx_pos g11 h
              refine lv_iconst (pc := 56) (v := (0 : Int32)) hx hb d_Mod_block_56 (by decide) ?_
              refine lv_goto (pc := 57) (tgt := 61) hx hb d_Mod_block_57 (by decide) ?_
              exact gx_iret (free := fun _ => True) hx hb hr hlk hP hS d_Mod_block_61 (by cases h; rfl) (by cases h; rfl)
            · have h := gx_neg g11 h
              refine lv_iconst (pc := 52) (v := (1 : Int32)) hx hb d_Mod_block_52 (by decide) ?_
              refine lv_goto (pc := 53) (tgt := 61) hx hb d_Mod_block_53 (by decide) ?_
              exact gx_iret (free := fun _ => True) hx hb hr hlk hP hS d_Mod_block_61 (by cases h; rfl) (by cases h; rfl)
        · have h := gx_pos g9 h
          refine lv_aload_n (pc := 33) hx hb d_Mod_block_33 rfl (lv_at hl 0 rfl) ?_
          refine va_get (pc := 34) (D := (dC, dI)) (ci := 6) (C := R_Mod) (T := T_Mod) (N := 39) hx hb hts in_Mod hown hK hP x0 (gx_at (mx_lt hk0 (by decide)) (sh_Mod cI cZ b hk0 _)) rfl 7 (by decide) (hts _ tb_608) (fun _ h9 => h9) rfl d_Mod_block_34 ?_
          refine lv_goto (pc := 37) (tgt := 61) hx hb d_Mod_block_37 (by decide) ?_
          exact gx_iret (free := fun _ => True) hx hb hr hlk hP hS d_Mod_block_61 (by cases h; rfl) (by cases h; rfl)
      · have h := gx_pos g8 h
        refine lv_aload_n (pc := 21) hx hb d_Mod_block_21 rfl (lv_at hl 0 rfl) ?_
        refine va_get (pc := 22) (D := (dC, dI)) (ci := 6) (C := R_Mod) (T := T_Mod) (N := 39) hx hb hts in_Mod hown hK hP x0 (gx_at (mx_lt hk0 (by decide)) (sh_Mod cI cZ b hk0 _)) rfl 9 (by decide) (hts _ tb_610) (fun _ h9 => h9) rfl d_Mod_block_22 ?_
        refine lv_goto (pc := 25) (tgt := 61) hx hb d_Mod_block_25 (by decide) ?_
        exact gx_iret (free := fun _ => True) hx hb hr hlk hP hS d_Mod_block_61 (by cases h; rfl) (by cases h; rfl)
    · have h := gx_pos g7 h
      refine lv_aload_n (pc := 9) hx hb d_Mod_block_9 rfl (lv_at hl 0 rfl) ?_
      refine va_get (pc := 10) (D := (dC, dI)) (ci := 6) (C := R_Mod) (T := T_Mod) (N := 39) hx hb hts in_Mod hown hK hP x0 (gx_at (mx_lt hk0 (by decide)) (sh_Mod cI cZ b hk0 _)) rfl 8 (by decide) (hts _ tb_609) (fun _ h9 => h9) rfl d_Mod_block_10 ?_
      refine lv_goto (pc := 13) (tgt := 61) hx hb d_Mod_block_13 (by decide) ?_
      exact gx_iret (free := fun _ => True) hx hb hr hlk hP hS d_Mod_block_61 (by cases h; rfl) (by cases h; rfl)
abbrev rm_Mod_receipt : Room := { frames := 1, cells := 0, slots := 0, locals := 21 }
def F_Mod_receipt (x0 : Nat) (x1 : Int32) (x2 : Int32) (V : gx_M) : Option (Int32 × gx_M) := (if x1 < 0 then some ((-1 : Int32), V) else (if (V x0 11) ≤ x1 then some ((-1 : Int32), V) else (if (16 : Int32) ≤ x1 then some ((-1 : Int32), V) else ((F_Mod_in x2 (4 : Int32) V).bind fun q1 => (if q1.1 = 0 then some ((-1 : Int32), q1.2) else (if gx_ib (((4 : Int32) * x1) + x2) 64 then some ((q1.2 (x0 + 3) (((4 : Int32) * x1) + x2).toNatClampNeg), q1.2) else none))))))
set_option maxRecDepth 100000 in
set_option maxHeartbeats 8000000 in
theorem k_Mod_receipt (l : Launch) (dC : Nat → ClassId) (dI : Nat → Nat → Nat) (cI cR cZ : ClassId) (b tP tN : Nat) {x0 : Nat} {x1 : Int32} {x2 : Int32} {V : gx_M} {q : (Int32 × gx_M)} (hk0 : mx_kd x0 = 6) (h : F_Mod_receipt x0 x1 x2 V = some q) : mx_C l dC dI cI cR cZ b tP tN y_Mod_receipt w_Mod_receipt rm_Mod_receipt [.ref (b + x0), .int x1, .int x2] V (some (.int q.1)) q.2 := by
  refine gx_start (cc := b_Mod_receipt) (maxL := 3) (ret := rt_Mod_receipt) (by decide) rfl (Nat.le_of_ble_eq_true rfl) ?_
  intro p e s m args below meth c ls hx hb hr hts hown hlk hml hl hP hK hX hS
  have hts : ∀ w ∈ cx_tb, w.before args s = true := fun w hw => hts w (List.mem_cons_of_mem _ hw)
  have hown : s.vm.findClass "GasLedgerModel" = some m.cls := hown
  have hl : lv_has ls 3 [(0, .ref (b + x0)), (1, .int x1), (2, .int x2)] := hl
  unfold F_Mod_receipt at h
  refine lv_iload_n (pc := 0) hx hb d_Mod_receipt_0 rfl (lv_at hl 1 rfl) ?_
  refine lv_if_lt (pc := 1) (tgt := 39) hx hb d_Mod_receipt_1 (by decide) (fun g1 => ?_) (fun g1 => ?_)
  · have h := gx_pos g1 h
    refine lv_iconst (pc := 39) (v := (-1 : Int32)) hx hb d_Mod_receipt_39 (by decide) ?_
    exact gx_iret (free := fun _ => True) hx hb hr hlk hP hS d_Mod_receipt_40 (by cases h; rfl) (by cases h; rfl)
  · have h := gx_neg g1 h
    refine lv_iload_n (pc := 4) hx hb d_Mod_receipt_4 rfl (lv_at hl 1 rfl) ?_
    refine lv_aload_n (pc := 5) hx hb d_Mod_receipt_5 rfl (lv_at hl 0 rfl) ?_
    refine va_get (pc := 6) (D := (dC, dI)) (ci := 6) (C := R_Mod) (T := T_Mod) (N := 39) hx hb hts in_Mod hown hK hP x0 (gx_at (mx_lt hk0 (by decide)) (sh_Mod cI cZ b hk0 _)) rfl 11 (by decide) (hts _ tb_612) (fun _ h9 => h9) rfl d_Mod_receipt_6 ?_
    refine lv_icmp_ge (pc := 9) (tgt := 39) hx hb d_Mod_receipt_9 (by decide) (fun g2 => ?_) (fun g2 => ?_)
    · have h := gx_pos g2 h
      refine lv_iconst (pc := 39) (v := (-1 : Int32)) hx hb d_Mod_receipt_39 (by decide) ?_
      exact gx_iret (free := fun _ => True) hx hb hr hlk hP hS d_Mod_receipt_40 (by cases h; rfl) (by cases h; rfl)
    · have h := gx_neg g2 h
      refine lv_iload_n (pc := 12) hx hb d_Mod_receipt_12 rfl (lv_at hl 1 rfl) ?_
      refine lv_bipush (pc := 13) (v := (16 : Int32)) hx hb d_Mod_receipt_13 (by decide) ?_
      refine lv_icmp_ge (pc := 15) (tgt := 39) hx hb d_Mod_receipt_15 (by decide) (fun g3 => ?_) (fun g3 => ?_)
      · have h := gx_pos g3 h
        refine lv_iconst (pc := 39) (v := (-1 : Int32)) hx hb d_Mod_receipt_39 (by decide) ?_
        exact gx_iret (free := fun _ => True) hx hb hr hlk hP hS d_Mod_receipt_40 (by cases h; rfl) (by cases h; rfl)
      · have h := gx_neg g3 h
        refine lv_iload_n (pc := 18) hx hb d_Mod_receipt_18 rfl (lv_at hl 2 rfl) ?_
        refine lv_iconst (pc := 19) (v := (4 : Int32)) hx hb d_Mod_receipt_19 (by decide) ?_
        obtain ⟨q1, g4, h⟩ := gx_bd h
        refine gx_ci (pc := 20) (va_runS (As := [.int x2, .int (4 : Int32)]) (rest := []) ⟨hx, hb, hml, hown, hts⟩ (k_Mod_in l dC dI cI cR cZ b tP tN  g4) (gx_cs 2 hts cd_Mod_in tb_50 tb_724 tb_725 rfl rfl ⟨by decide, by decide, by decide +kernel⟩ ⟨Nat.le_of_ble_eq_true rfl, Nat.le_of_ble_eq_true rfl⟩) (gy_pre (mx_XX b) hX hK hP hS) rfl rfl hl.1 rfl (lv_room (Nat.le_of_ble_eq_true rfl)) d_Mod_receipt_20 ⟨Nat.zero_le _, Nat.zero_le _⟩) hS (fun H locs hP hS => ?_)
        refine lv_if_eq (pc := 23) (tgt := 39) hx hb d_Mod_receipt_23 (by decide) (fun g5 => ?_) (fun g5 => ?_)
        · have h := gx_pos g5 h
          refine lv_iconst (pc := 39) (v := (-1 : Int32)) hx hb d_Mod_receipt_39 (by decide) ?_
          exact gx_iret (free := fun _ => True) hx hb hr hlk hP hS d_Mod_receipt_40 (by cases h; rfl) (by cases h; rfl)
        · have h := gx_neg g5 h
          refine lv_aload_n (pc := 26) hx hb d_Mod_receipt_26 rfl (lv_at hl 0 rfl) ?_
          refine va_get (pc := 27) (D := (dC, dI)) (ci := 6) (C := R_Mod) (T := T_Mod) (N := 39) hx hb hts in_Mod hown hK hP x0 (gx_at (mx_lt hk0 (by decide)) (sh_Mod cI cZ b hk0 _)) rfl 12 (by decide) (hts _ tb_613) (fun _ h9 => h9) rfl d_Mod_receipt_27 ?_
          refine lv_iconst (pc := 30) (v := (4 : Int32)) hx hb d_Mod_receipt_30 (by decide) ?_
          refine lv_iload_n (pc := 31) hx hb d_Mod_receipt_31 rfl (lv_at hl 1 rfl) ?_
          refine lv_imul (pc := 32) hx hb d_Mod_receipt_32 ?_
          refine lv_iload_n (pc := 33) hx hb d_Mod_receipt_33 rfl (lv_at hl 2 rfl) ?_
          refine lv_iadd (pc := 34) hx hb d_Mod_receipt_34 ?_
          obtain ⟨g6, h⟩ := gx_if h
          refine va_iald (pc := 35) hx hb hK hP (x0 + 3) 0 (gx_at (mx_lt (to_Mod_receipt hk0) (by decide)) (mh_arr cI cZ b (n := 64) (to_Mod_receipt hk0) (by decide) _)) rfl g6 d_Mod_receipt_35 ?_
          refine lv_goto (pc := 36) (tgt := 40) hx hb d_Mod_receipt_36 (by decide) ?_
          exact gx_iret (free := fun _ => True) hx hb hr hlk hP hS d_Mod_receipt_40 (by cases h; rfl) (by cases h; rfl)
abbrev rm_Mod_log : Room := { frames := 1, cells := 0, slots := 0, locals := 21 }
def F_Mod_log (x0 : Nat) (x1 : Int32) (x2 : Int32) (V : gx_M) : Option (Int32 × gx_M) := (if x1 < 0 then some ((-1 : Int32), V) else (if (V x0 13) ≤ x1 then some ((-1 : Int32), V) else (if (15 : Int32) < x1 then some ((-1 : Int32), V) else ((F_Mod_in x2 (2 : Int32) V).bind fun q1 => (if q1.1 = 0 then some ((-1 : Int32), q1.2) else (if x2 = 0 then (if gx_ib x1 512 then some ((q1.2 (x0 + 4) x1.toNatClampNeg), q1.2) else none) else (if gx_ib x1 512 then some ((q1.2 (x0 + 5) x1.toNatClampNeg), q1.2) else none)))))))
set_option maxRecDepth 100000 in
set_option maxHeartbeats 8000000 in
theorem k_Mod_log (l : Launch) (dC : Nat → ClassId) (dI : Nat → Nat → Nat) (cI cR cZ : ClassId) (b tP tN : Nat) {x0 : Nat} {x1 : Int32} {x2 : Int32} {V : gx_M} {q : (Int32 × gx_M)} (hk0 : mx_kd x0 = 6) (h : F_Mod_log x0 x1 x2 V = some q) : mx_C l dC dI cI cR cZ b tP tN y_Mod_log w_Mod_log rm_Mod_log [.ref (b + x0), .int x1, .int x2] V (some (.int q.1)) q.2 := by
  refine gx_start (cc := b_Mod_log) (maxL := 3) (ret := rt_Mod_log) (by decide) rfl (Nat.le_of_ble_eq_true rfl) ?_
  intro p e s m args below meth c ls hx hb hr hts hown hlk hml hl hP hK hX hS
  have hts : ∀ w ∈ cx_tb, w.before args s = true := fun w hw => hts w (List.mem_cons_of_mem _ hw)
  have hown : s.vm.findClass "GasLedgerModel" = some m.cls := hown
  have hl : lv_has ls 3 [(0, .ref (b + x0)), (1, .int x1), (2, .int x2)] := hl
  unfold F_Mod_log at h
  refine lv_iload_n (pc := 0) hx hb d_Mod_log_0 rfl (lv_at hl 1 rfl) ?_
  refine lv_if_lt (pc := 1) (tgt := 26) hx hb d_Mod_log_1 (by decide) (fun g1 => ?_) (fun g1 => ?_)
  · have h := gx_pos g1 h
    refine lv_iconst (pc := 26) (v := (-1 : Int32)) hx hb d_Mod_log_26 (by decide) ?_
    refine lv_goto (pc := 27) (tgt := 49) hx hb d_Mod_log_27 (by decide) ?_
    exact gx_iret (free := fun _ => True) hx hb hr hlk hP hS d_Mod_log_49 (by cases h; rfl) (by cases h; rfl)
  · have h := gx_neg g1 h
    refine lv_iload_n (pc := 4) hx hb d_Mod_log_4 rfl (lv_at hl 1 rfl) ?_
    refine lv_aload_n (pc := 5) hx hb d_Mod_log_5 rfl (lv_at hl 0 rfl) ?_
    refine va_get (pc := 6) (D := (dC, dI)) (ci := 6) (C := R_Mod) (T := T_Mod) (N := 39) hx hb hts in_Mod hown hK hP x0 (gx_at (mx_lt hk0 (by decide)) (sh_Mod cI cZ b hk0 _)) rfl 13 (by decide) (hts _ tb_614) (fun _ h9 => h9) rfl d_Mod_log_6 ?_
    refine lv_icmp_ge (pc := 9) (tgt := 26) hx hb d_Mod_log_9 (by decide) (fun g2 => ?_) (fun g2 => ?_)
    · have h := gx_pos g2 h
      refine lv_iconst (pc := 26) (v := (-1 : Int32)) hx hb d_Mod_log_26 (by decide) ?_
      refine lv_goto (pc := 27) (tgt := 49) hx hb d_Mod_log_27 (by decide) ?_
      exact gx_iret (free := fun _ => True) hx hb hr hlk hP hS d_Mod_log_49 (by cases h; rfl) (by cases h; rfl)
    · have h := gx_neg g2 h
      refine lv_iload_n (pc := 12) hx hb d_Mod_log_12 rfl (lv_at hl 1 rfl) ?_
      refine lv_bipush (pc := 13) (v := (15 : Int32)) hx hb d_Mod_log_13 (by decide) ?_
      refine lv_icmp_gt (pc := 15) (tgt := 26) hx hb d_Mod_log_15 (by decide) (fun g3 => ?_) (fun g3 => ?_)
      · have h := gx_pos g3 h
        refine lv_iconst (pc := 26) (v := (-1 : Int32)) hx hb d_Mod_log_26 (by decide) ?_
        refine lv_goto (pc := 27) (tgt := 49) hx hb d_Mod_log_27 (by decide) ?_
        exact gx_iret (free := fun _ => True) hx hb hr hlk hP hS d_Mod_log_49 (by cases h; rfl) (by cases h; rfl)
      · have h := gx_neg g3 h
        refine lv_iload_n (pc := 18) hx hb d_Mod_log_18 rfl (lv_at hl 2 rfl) ?_
        refine lv_iconst (pc := 19) (v := (2 : Int32)) hx hb d_Mod_log_19 (by decide) ?_
        obtain ⟨q1, g4, h⟩ := gx_bd h
        refine gx_ci (pc := 20) (va_runS (As := [.int x2, .int (2 : Int32)]) (rest := []) ⟨hx, hb, hml, hown, hts⟩ (k_Mod_in l dC dI cI cR cZ b tP tN  g4) (gx_cs 2 hts cd_Mod_in tb_50 tb_724 tb_725 rfl rfl ⟨by decide, by decide, by decide +kernel⟩ ⟨Nat.le_of_ble_eq_true rfl, Nat.le_of_ble_eq_true rfl⟩) (gy_pre (mx_XX b) hX hK hP hS) rfl rfl hl.1 rfl (lv_room (Nat.le_of_ble_eq_true rfl)) d_Mod_log_20 ⟨Nat.zero_le _, Nat.zero_le _⟩) hS (fun H locs hP hS => ?_)
        refine lv_if_ne (pc := 23) (tgt := 30) hx hb d_Mod_log_23 (by decide) (fun g5 => ?_) (fun g5 => ?_)
        · have h := gx_neg g5 h
          refine lv_iload_n (pc := 30) hx hb d_Mod_log_30 rfl (lv_at hl 2 rfl) ?_
          refine lv_if_ne (pc := 31) (tgt := 43) hx hb d_Mod_log_31 (by decide) (fun g6 => ?_) (fun g6 => ?_)
          · have h := gx_neg g6 h
            refine lv_aload_n (pc := 43) hx hb d_Mod_log_43 rfl (lv_at hl 0 rfl) ?_
            refine va_get (pc := 44) (D := (dC, dI)) (ci := 6) (C := R_Mod) (T := T_Mod) (N := 39) hx hb hts in_Mod hown hK hP x0 (gx_at (mx_lt hk0 (by decide)) (sh_Mod cI cZ b hk0 _)) rfl 15 (by decide) (hts _ tb_616) (fun _ h9 => h9) rfl d_Mod_log_44 ?_
            refine lv_iload_n (pc := 47) hx hb d_Mod_log_47 rfl (lv_at hl 1 rfl) ?_
            obtain ⟨g7, h⟩ := gx_if h
            refine va_iald (pc := 48) hx hb hK hP (x0 + 5) 0 (gx_at (mx_lt (to_Mod_logNumber hk0) (by decide)) (mh_arr cI cZ b (n := 512) (to_Mod_logNumber hk0) (by decide) _)) rfl g7 d_Mod_log_48 ?_
            exact gx_iret (free := fun _ => True) hx hb hr hlk hP hS d_Mod_log_49 (by cases h; rfl) (by cases h; rfl)
          · have h := gx_pos g6 h
            refine lv_aload_n (pc := 34) hx hb d_Mod_log_34 rfl (lv_at hl 0 rfl) ?_
            refine va_get (pc := 35) (D := (dC, dI)) (ci := 6) (C := R_Mod) (T := T_Mod) (N := 39) hx hb hts in_Mod hown hK hP x0 (gx_at (mx_lt hk0 (by decide)) (sh_Mod cI cZ b hk0 _)) rfl 14 (by decide) (hts _ tb_615) (fun _ h9 => h9) rfl d_Mod_log_35 ?_
            refine lv_iload_n (pc := 38) hx hb d_Mod_log_38 rfl (lv_at hl 1 rfl) ?_
            obtain ⟨g8, h⟩ := gx_if h
            refine va_iald (pc := 39) hx hb hK hP (x0 + 4) 0 (gx_at (mx_lt (to_Mod_logAccount hk0) (by decide)) (mh_arr cI cZ b (n := 512) (to_Mod_logAccount hk0) (by decide) _)) rfl g8 d_Mod_log_39 ?_
            refine lv_goto (pc := 40) (tgt := 49) hx hb d_Mod_log_40 (by decide) ?_
            exact gx_iret (free := fun _ => True) hx hb hr hlk hP hS d_Mod_log_49 (by cases h; rfl) (by cases h; rfl)
        · have h := gx_pos g5 h
          refine lv_iconst (pc := 26) (v := (-1 : Int32)) hx hb d_Mod_log_26 (by decide) ?_
          refine lv_goto (pc := 27) (tgt := 49) hx hb d_Mod_log_27 (by decide) ?_
          exact gx_iret (free := fun _ => True) hx hb hr hlk hP hS d_Mod_log_49 (by cases h; rfl) (by cases h; rfl)
abbrev rm_Mod_total : Room := { frames := 0, cells := 0, slots := 0, locals := 0 }
def F_Mod_total_4 : Nat → Nat → Int64 → Int32 → gx_M → Option (Int64 × gx_M)
  | 0, _, _, _, _ => none
  | nf + 1, x0, x1, x3, V => (if (16 : Int32) ≤ x3 then some (x1, V) else (if gx_ib ((36 : Int32) * x3) 576 then (F_Mod_total_4 nf  x0 (x1 + (V (x0 + 1) ((36 : Int32) * x3).toNatClampNeg).toInt64) (x3 + (1 : Int32)) V) else none))
def F_Mod_total (x0 : Nat) (V : gx_M) : Option (Int64 × gx_M) := (F_Mod_total_4 100  x0 (0 : Int64) (0 : Int32) V)
set_option maxRecDepth 100000 in
set_option maxHeartbeats 8000000 in
theorem k_Mod_total (l : Launch) (dC : Nat → ClassId) (dI : Nat → Nat → Nat) (cI cR cZ : ClassId) (b tP tN : Nat) {x0 : Nat} {V : gx_M} {q : (Int64 × gx_M)} (hk0 : mx_kd x0 = 6) (h : F_Mod_total x0 V = some q) : mx_C l dC dI cI cR cZ b tP tN y_Mod_total w_Mod_total rm_Mod_total [.ref (b + x0)] V (some (.long q.1)) q.2 := by
  refine gx_start (cc := b_Mod_total) (maxL := 4) (ret := rt_Mod_total) (by decide) rfl (Nat.le_of_ble_eq_true rfl) ?_
  intro p e s m args below meth c ls hx hb hr hts hown hlk hml hl hP hK hX hS
  have hts : ∀ w ∈ cx_tb, w.before args s = true := fun w hw => hts w (List.mem_cons_of_mem _ hw)
  have hown : s.vm.findClass "GasLedgerModel" = some m.cls := hown
  have hl : lv_has ls 4 [(0, .ref (b + x0))] := hl
  have B_4 : ∀ (nf : Nat), ∀ (x0 : Nat) (x1 : Int64) (x3 : Int32), mx_kd x0 = 6 → ∀ (V : gx_M) (H : Heap) (locs : List Loc) (ls : Array Slot), lv_has ls 4 [(0, .ref (b + x0)), (1, .long x1), (3, .int x3)] → va_P (dC, dI) cx_cl (gx_w b 22 (gx_v (mx_sh cI cZ b) V)) H → va_S (gx_A b 22) s.heap H locs → F_Mod_total_4 nf x0 x1 x3 V = some q → W p l e (headSpec w_Mod_total rm_Mod_total).room s m args below meth c H locs 0 0 (MQ below (gx_Q (dC, dI) cx_cl b 22 (mx_sh cI cZ b) (some (.long q.1)) q.2) args s 0 0 (gx_A b 22)) (F0 m 4 ls []) := by
    intro nf
    induction nf with
    | zero => intro x0 x1 x3 hk_x0 V H locs ls hl hP hS h; cases h
    | succ nf ihl =>
      intro x0 x1 x3 hk_x0 V H locs ls hl hP hS h
      rw [F_Mod_total_4] at h
      refine lv_iload_n (pc := 4) hx hb d_Mod_total_4 rfl (lv_at hl 2 rfl) ?_
      refine lv_bipush (pc := 5) (v := (16 : Int32)) hx hb d_Mod_total_5 (by decide) ?_
      refine lv_icmp_ge (pc := 7) (tgt := 29) hx hb d_Mod_total_7 (by decide) (fun g1 => ?_) (fun g1 => ?_)
      · have h := gx_pos g1 h
        refine lv_lload_n (pc := 29) hx hb d_Mod_total_29 rfl (lv_at hl 1 rfl) ?_
        exact gx_lret hx hb hr hlk hP hS d_Mod_total_30 (by cases h; rfl) (by cases h; rfl)
      · have h := gx_neg g1 h
        refine lv_lload_n (pc := 10) hx hb d_Mod_total_10 rfl (lv_at hl 1 rfl) ?_
        refine lv_aload_n (pc := 11) hx hb d_Mod_total_11 rfl (lv_at hl 0 rfl) ?_
        refine va_get (pc := 12) (D := (dC, dI)) (ci := 6) (C := R_Mod) (T := T_Mod) (N := 39) hx hb hts in_Mod hown hK hP x0 (gx_at (mx_lt hk_x0 (by decide)) (sh_Mod cI cZ b hk_x0 _)) rfl 0 (by decide) (hts _ tb_601) (fun _ h9 => h9) rfl d_Mod_total_12 ?_
        refine lv_bipush (pc := 15) (v := (36 : Int32)) hx hb d_Mod_total_15 (by decide) ?_
        refine lv_iload_n (pc := 17) hx hb d_Mod_total_17 rfl (lv_at hl 2 rfl) ?_
        refine lv_imul (pc := 18) hx hb d_Mod_total_18 ?_
        obtain ⟨g2, h⟩ := gx_if h
        refine va_iald (pc := 19) hx hb hK hP (x0 + 1) 0 (gx_at (mx_lt (to_Mod_now hk_x0) (by decide)) (mh_arr cI cZ b (n := 576) (to_Mod_now hk_x0) (by decide) _)) rfl g2 d_Mod_total_19 ?_
        refine lv_i2l (pc := 20) hx hb d_Mod_total_20 rfl ?_
        refine lv_ladd (pc := 21) hx hb d_Mod_total_21 ?_
        refine lv_lstore_n (pc := 22) (lv' := [(1, .long (x1 + (V (x0 + 1) ((36 : Int32) * x3).toNatClampNeg).toInt64)), (0, .ref (b + x0)), (3, .int x3)]) hx hb d_Mod_total_22 rfl hl (by decide) rfl (fun ls hl => ?_)
        refine lv_iinc (pc := 23) (k := 2) (lv' := [(3, .int (x3 + (1 : Int32))), (1, .long (x1 + (V (x0 + 1) ((36 : Int32) * x3).toNatClampNeg).toInt64)), (0, .ref (b + x0))]) hx hb d_Mod_total_23 hl rfl (gx_inc (by decide)) (by decide) rfl (fun ls hl => ?_)
        refine lv_goto (pc := 26) (tgt := 4) hx hb d_Mod_total_26 (by decide) ?_
        exact ihl _ _ _ hk_x0 _ _ _ _ (lv_sub hl [2, 1, 0] rfl) hP hS h
  unfold F_Mod_total at h
  refine lv_lconst (pc := 0) (v := 0) hx hb d_Mod_total_0 rfl ?_
  refine lv_lstore_n (pc := 1) (lv' := [(1, .long (0 : Int64)), (0, .ref (b + x0))]) hx hb d_Mod_total_1 rfl hl (by decide) rfl (fun ls hl => ?_)
  refine lv_iconst (pc := 2) (v := (0 : Int32)) hx hb d_Mod_total_2 (by decide) ?_
  refine lv_istore_n (pc := 3) (lv' := [(3, .int (0 : Int32)), (1, .long (0 : Int64)), (0, .ref (b + x0))]) hx hb d_Mod_total_3 rfl hl (by decide) rfl (fun ls hl => ?_)
  exact B_4 100  _ _ _ hk0 _ _ _ _ (lv_sub hl [2, 1, 0] rfl) hP hS h
