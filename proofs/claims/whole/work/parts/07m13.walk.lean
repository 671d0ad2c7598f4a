abbrev rm_Mod_transact : Room := { frames := 4, cells := 0, slots := 0, locals := 103 }
def F_Mod_transact_431 (x0 : Nat) (x9 : Int32) (V : gx_M) : Option (Int32 × gx_M) := (gx_let (gx_u V x0 11 ((V x0 11) + (1 : Int32))) fun V1 => (gx_let (gx_u V1 x0 10 ((V1 x0 10) + x9)) fun V2 => some (x9, V2)))
def F_Mod_transact_319 : Nat → Nat → Int32 → Int32 → Int32 → gx_M → Option (Int32 × gx_M)
  | 0, _, _, _, _, _ => none
  | nf + 1, x0, x8, x9, x10, V => (if (16 : Int32) ≤ x10 then (if (16 : Int32) ≤ (V x0 11) then (F_Mod_transact_431   x0 x9 V) else (if gx_ib ((4 : Int32) * (V x0 11)) 64 then (gx_let (gx_u V (x0 + 3) ((4 : Int32) * (V x0 11)).toNatClampNeg (V x0 33)) fun V3 => (if gx_ib (((4 : Int32) * (V3 x0 11)) + (1 : Int32)) 64 then (gx_let (gx_u V3 (x0 + 3) (((4 : Int32) * (V3 x0 11)) + (1 : Int32)).toNatClampNeg x9) fun V4 => (if gx_ib (((4 : Int32) * (V4 x0 11)) + (2 : Int32)) 64 then (gx_let (gx_u V4 (x0 + 3) (((4 : Int32) * (V4 x0 11)) + (2 : Int32)).toNatClampNeg (V4 x0 34)) fun V5 => (if gx_ib (((4 : Int32) * (V5 x0 11)) + (3 : Int32)) 64 then (gx_let (gx_u V5 (x0 + 3) (((4 : Int32) * (V5 x0 11)) + (3 : Int32)).toNatClampNeg ((V5 x0 13) - x8)) fun V6 => (F_Mod_transact_431   x0 x9 V6)) else none)) else none)) else none)) else none)) else (if gx_ib (((36 : Int32) * x10) + (35 : Int32)) 576 then (if (V (x0 + 1) (((36 : Int32) * x10) + (35 : Int32)).toNatClampNeg) = (1 : Int32) then ((F_Mod_wipe x0 x10 V).bind fun q1 => (F_Mod_transact_319 nf  x0 x8 x9 (x10 + (1 : Int32)) q1)) else (F_Mod_transact_319 nf  x0 x8 x9 (x10 + (1 : Int32)) V)) else none))
def F_Mod_transact_273 (x0 : Nat) (x1 : Int32) (x5 : Int32) (x6 : Int32) (x8 : Int32) (s0 : Int32) (s1 : Int32) (V : gx_M) : Option (Int32 × gx_M) := (if gx_ib ((36 : Int32) * x1) 576 then (if gx_ib ((36 : Int32) * x1) 576 then (gx_let (gx_u V (x0 + 1) ((36 : Int32) * x1).toNatClampNeg ((V (x0 + 1) ((36 : Int32) * x1).toNatClampNeg) + ((x5 - (s1 - s0)) * x6))) fun V7 => (if gx_ib ((36 : Int32) * (V7 x0 5)) 576 then (if gx_ib ((36 : Int32) * (V7 x0 5)) 576 then (gx_let (gx_u V7 (x0 + 1) ((36 : Int32) * (V7 x0 5)).toNatClampNeg ((V7 (x0 + 1) ((36 : Int32) * (V7 x0 5)).toNatClampNeg) + ((s1 - s0) * x6))) fun V8 => (F_Mod_transact_319 200000  x0 x8 (s1 - s0) (0 : Int32) V8)) else none) else none)) else none) else none)
def F_Mod_transact_240 (x0 : Nat) (x1 : Int32) (x5 : Int32) (x6 : Int32) (x8 : Int32) (V : gx_M) : Option (Int32 × gx_M) := (if (V x0 2) ≤ ((x5 - (V x0 32)) / (2 : Int32)) then (F_Mod_transact_273   x0 x1 x5 x6 x8 (V x0 2) (x5 - (V x0 32)) V) else (F_Mod_transact_273   x0 x1 x5 x6 x8 ((x5 - (V x0 32)) / (2 : Int32)) (x5 - (V x0 32)) V))
def F_Mod_transact_216 : Nat → Nat → Int32 → Int32 → Int32 → Int32 → Int32 → gx_M → Option (Int32 × gx_M)
  | 0, _, _, _, _, _, _, _ => none
  | nf + 1, x0, x1, x5, x6, x8, x9, V => (if (100000 : Int32) ≤ x9 then (F_Mod_transact_240   x0 x1 x5 x6 x8 V) else (if (V x0 19) < 0 then (F_Mod_transact_240   x0 x1 x5 x6 x8 V) else ((F_Mod_step x0 V).bind fun q2 => (F_Mod_transact_216 nf  x0 x1 x5 x6 x8 (x9 + (1 : Int32)) q2))))
def F_Mod_transact_121 : Nat → Nat → Int32 → Int32 → Int32 → Int32 → Int32 → Int32 → Int32 → gx_M → Option (Int32 × gx_M)
  | 0, _, _, _, _, _, _, _, _, _ => none
  | nf + 1, x0, x1, x2, x3, x4, x5, x6, x8, V => (if (16 : Int32) ≤ x8 then (if gx_ib ((36 : Int32) * x1) 576 then (if gx_ib ((36 : Int32) * x1) 576 then (gx_let (gx_u V (x0 + 1) ((36 : Int32) * x1).toNatClampNeg ((V (x0 + 1) ((36 : Int32) * x1).toNatClampNeg) - (x5 * x6))) fun V9 => (if gx_ib (((36 : Int32) * x1) + (1 : Int32)) 576 then (if gx_ib (((36 : Int32) * x1) + (1 : Int32)) 576 then (gx_let (gx_u V9 (x0 + 1) (((36 : Int32) * x1) + (1 : Int32)).toNatClampNeg ((V9 (x0 + 1) (((36 : Int32) * x1) + (1 : Int32)).toNatClampNeg) + (1 : Int32))) fun V10 => (gx_let (gx_u V10 x0 19 (-1 : Int32)) fun V11 => ((F_Mod_enter x0 x2 x2 x1 x3 x4 (x5 - (20 : Int32)) V11).bind fun q3 => ((F_Mod_give x0 x1 x2 x3 q3).bind fun q4 => (F_Mod_transact_216 200000  x0 x1 x5 x6 (V x0 13) (0 : Int32) q4))))) else none) else none)) else none) else none) else (if gx_ib (((36 : Int32) * x8) + (35 : Int32)) 576 then (gx_let (gx_u V (x0 + 1) (((36 : Int32) * x8) + (35 : Int32)).toNatClampNeg (0 : Int32)) fun V12 => (F_Mod_transact_121 nf  x0 x1 x2 x3 x4 x5 x6 (x8 + (1 : Int32)) V12)) else none))
def F_Mod_transact (x0 : Nat) (x1 : Int32) (x2 : Int32) (x3 : Int32) (x4 : Int32) (x5 : Int32) (x6 : Int32) (x7 : Int32) (V : gx_M) : Option (Int32 × gx_M) := (if (V x0 4) = 0 then some ((-1 : Int32), V) else ((F_Mod_in x1 (16 : Int32) V).bind fun q5 => (if q5.1 = 0 then some ((-2 : Int32), q5.2) else ((F_Mod_in x2 (16 : Int32) q5.2).bind fun q6 => (if q6.1 = 0 then some ((-2 : Int32), q6.2) else (if 0 ≤ x3 then (if x7 = 0 then (if x5 < (20 : Int32) then some ((-4 : Int32), q6.2) else (if (3000 : Int32) < x5 then some ((-4 : Int32), q6.2) else ((F_Mod_in x6 (101 : Int32) q6.2).bind fun q7 => (if q7.1 = 0 then some ((-4 : Int32), q7.2) else (if x5 ≤ ((3000 : Int32) - (q7.2 x0 10)) then (if gx_ib ((36 : Int32) * x1) 576 then (if 0 ≤ (lg_cmp (q7.2 (x0 + 1) ((36 : Int32) * x1).toNatClampNeg).toInt64 ((x5.toInt64 * x6.toInt64) + x3.toInt64)) then (gx_let (gx_u q7.2 x0 2 (0 : Int32)) fun V13 => (F_Mod_transact_121 200000  x0 x1 x2 x3 x4 x5 x6 (0 : Int32) V13)) else some ((-6 : Int32), q7.2)) else none) else some ((-5 : Int32), q7.2)))))) else some ((-3 : Int32), q6.2)) else some ((-2 : Int32), q6.2)))))))
set_option maxRecDepth 100000 in
set_option maxHeartbeats 8000000 in
theorem k_Mod_transact (l : Launch) (dC : Nat → ClassId) (dI : Nat → Nat → Nat) (cI cR cZ : ClassId) (b tP tN : Nat) {x0 : Nat} {x1 : Int32} {x2 : Int32} {x3 : Int32} {x4 : Int32} {x5 : Int32} {x6 : Int32} {x7 : Int32} {V : gx_M} {q : (Int32 × gx_M)} (hk0 : mx_kd x0 = 6) (h : F_Mod_transact x0 x1 x2 x3 x4 x5 x6 x7 V = some q) : mx_C l dC dI cI cR cZ b tP tN y_Mod_transact w_Mod_transact rm_Mod_transact [.ref (b + x0), .int x1, .int x2, .int x3, .int x4, .int x5, .int x6, .int x7] V (some (.int q.1)) q.2 := by
  refine gx_start (cc := b_Mod_transact) (maxL := 11) (ret := rt_Mod_transact) (by decide) rfl (Nat.le_of_ble_eq_true rfl) ?_
  intro p e s m args below meth c ls hx hb hr hts hown hlk hml hl hP hK hX hS
  have hts : ∀ w ∈ cx_tb, w.before args s = true := fun w hw => hts w (List.mem_cons_of_mem _ hw)
  have hown : s.vm.findClass "GasLedgerModel" = some m.cls := hown
  have hl : lv_has ls 11 [(0, .ref (b + x0)), (1, .int x1), (2, .int x2), (3, .int x3), (4, .int x4), (5, .int x5), (6, .int x6), (7, .int x7)] := hl
  have B_431 : ∀ (x0 : Nat) (x9 : Int32), mx_kd x0 = 6 → ∀ (V : gx_M) (H : Heap) (locs : List Loc) (ls : Array Slot), lv_has ls 11 [(0, .ref (b + x0)), (9, .int x9)] → va_P (dC, dI) cx_cl (gx_w b 22 (gx_v (mx_sh cI cZ b) V)) H → va_S (gx_A b 22) s.heap H locs → F_Mod_transact_431 x0 x9 V = some q → W p l e (headSpec w_Mod_transact rm_Mod_transact).room s m args below meth c H locs 0 0 (MQ below (gx_Q (dC, dI) cx_cl b 22 (mx_sh cI cZ b) (some (.int q.1)) q.2) args s 0 0 (gx_A b 22)) (F0 m 431 ls []) := by
    intro x0 x9 hk_x0 V H locs ls hl hP hS h
    unfold F_Mod_transact_431 at h
    refine lv_aload_n (pc := 431) hx hb d_Mod_transact_431 rfl (lv_at hl 0 rfl) ?_
    refine lv_dup (pc := 432) hx hb d_Mod_transact_432 rfl ?_
    refine va_get (pc := 433) (D := (dC, dI)) (ci := 6) (C := R_Mod) (T := T_Mod) (N := 39) hx hb hts in_Mod hown hK hP x0 (gx_at (mx_lt hk_x0 (by decide)) (sh_Mod cI cZ b hk_x0 _)) rfl 11 (by decide) (hts _ tb_612) (fun _ h9 => h9) rfl d_Mod_transact_433 ?_
    refine lv_iconst (pc := 436) (v := (1 : Int32)) hx hb d_Mod_transact_436 (by decide) ?_
    refine lv_iadd (pc := 437) hx hb d_Mod_transact_437 ?_
    obtain ⟨V1, g1, h⟩ := gx_lt h
    refine gy_put (pc := 438) (D := (dC, dI)) (ci := 6) (C := R_Mod) (T := T_Mod) (NF := 39) (ty := .int) hx hb hts in_Mod t_Mod ty_Mod nm_Mod hown hK hP hS x0 (mx_lt hk_x0 (by decide)) (sh_Mod cI cZ b hk_x0 _) rfl 11 (by decide) (hts _ tb_612) (fun _ h9 => h9) rfl (by decide +kernel) rfl rfl (Nat.le_of_ble_eq_true rfl) 11 (sh_Mod cI cZ b hk_x0 _) d_Mod_transact_438 g1 (fun H locs hP hS => ?_)
    refine lv_aload_n (pc := 441) hx hb d_Mod_transact_441 rfl (lv_at hl 0 rfl) ?_
    refine lv_dup (pc := 442) hx hb d_Mod_transact_442 rfl ?_
    refine va_get (pc := 443) (D := (dC, dI)) (ci := 6) (C := R_Mod) (T := T_Mod) (N := 39) hx hb hts in_Mod hown hK hP x0 (gx_at (mx_lt hk_x0 (by decide)) (sh_Mod cI cZ b hk_x0 _)) rfl 10 (by decide) (hts _ tb_611) (fun _ h9 => h9) rfl d_Mod_transact_443 ?_
    refine lv_iload (pc := 446) hx hb d_Mod_transact_446 (lv_at hl 1 rfl) ?_
    refine lv_iadd (pc := 448) hx hb d_Mod_transact_448 ?_
    obtain ⟨V2, g2, h⟩ := gx_lt h
    refine gy_put (pc := 449) (D := (dC, dI)) (ci := 6) (C := R_Mod) (T := T_Mod) (NF := 39) (ty := .int) hx hb hts in_Mod t_Mod ty_Mod nm_Mod hown hK hP hS x0 (mx_lt hk_x0 (by decide)) (sh_Mod cI cZ b hk_x0 _) rfl 10 (by decide) (hts _ tb_611) (fun _ h9 => h9) rfl (by decide +kernel) rfl rfl (Nat.le_of_ble_eq_true rfl) 10 (sh_Mod cI cZ b hk_x0 _) d_Mod_transact_449 g2 (fun H locs hP hS => ?_)
    refine lv_iload (pc := 452) hx hb d_Mod_transact_452 (lv_at hl 1 rfl) ?_
    exact gx_iret (free := fun _ => True) hx hb hr hlk hP hS d_Mod_transact_454 (by cases h; rfl) (by cases h; rfl)
  have B_319 : ∀ (nf : Nat), ∀ (x0 : Nat) (x8 : Int32) (x9 : Int32) (x10 : Int32), mx_kd x0 = 6 → ∀ (V : gx_M) (H : Heap) (locs : List Loc) (ls : Array Slot), lv_has ls 11 [(0, .ref (b + x0)), (8, .int x8), (9, .int x9), (10, .int x10)] → va_P (dC, dI) cx_cl (gx_w b 22 (gx_v (mx_sh cI cZ b) V)) H → va_S (gx_A b 22) s.heap H locs → F_Mod_transact_319 nf x0 x8 x9 x10 V = some q → W p l e (headSpec w_Mod_transact rm_Mod_transact).room s m args below meth c H locs 0 0 (MQ below (gx_Q (dC, dI) cx_cl b 22 (mx_sh cI cZ b) (some (.int q.1)) q.2) args s 0 0 (gx_A b 22)) (F0 m 319 ls []) := by
    intro nf
    induction nf with
    | zero => intro x0 x8 x9 x10 hk_x0 V H locs ls hl hP hS h; cases h
    | succ nf ihl =>
      intro x0 x8 x9 x10 hk_x0 V H locs ls hl hP hS h
      rw [F_Mod_transact_319] at h
      refine lv_iload (pc := 319) hx hb d_Mod_transact_319 (lv_at hl 3 rfl) ?_
      refine lv_bipush (pc := 321) (v := (16 : Int32)) hx hb d_Mod_transact_321 (by decide) ?_
      refine lv_icmp_ge (pc := 323) (tgt := 355) hx hb d_Mod_transact_323 (by decide) (fun g3 => ?_) (fun g3 => ?_)
      · have h := gx_pos g3 h
        refine lv_aload_n (pc := 355) hx hb d_Mod_transact_355 rfl (lv_at hl 0 rfl) ?_
        refine va_get (pc := 356) (D := (dC, dI)) (ci := 6) (C := R_Mod) (T := T_Mod) (N := 39) hx hb hts in_Mod hown hK hP x0 (gx_at (mx_lt hk_x0 (by decide)) (sh_Mod cI cZ b hk_x0 _)) rfl 11 (by decide) (hts _ tb_612) (fun _ h9 => h9) rfl d_Mod_transact_356 ?_
        refine lv_bipush (pc := 359) (v := (16 : Int32)) hx hb d_Mod_transact_359 (by decide) ?_
        refine lv_icmp_ge (pc := 361) (tgt := 431) hx hb d_Mod_transact_361 (by decide) (fun g4 => ?_) (fun g4 => ?_)
        · have h := gx_pos g4 h
          exact B_431   _ _ hk_x0 _ _ _ _ (lv_sub hl [0, 2] rfl) hP hS h
        · have h := gx_neg g4 h
          refine lv_aload_n (pc := 364) hx hb d_Mod_transact_364 rfl (lv_at hl 0 rfl) ?_
          refine va_get (pc := 365) (D := (dC, dI)) (ci := 6) (C := R_Mod) (T := T_Mod) (N := 39) hx hb hts in_Mod hown hK hP x0 (gx_at (mx_lt hk_x0 (by decide)) (sh_Mod cI cZ b hk_x0 _)) rfl 12 (by decide) (hts _ tb_613) (fun _ h9 => h9) rfl d_Mod_transact_365 ?_
          refine lv_iconst (pc := 368) (v := (4 : Int32)) hx hb d_Mod_transact_368 (by decide) ?_
          refine lv_aload_n (pc := 369) hx hb d_Mod_transact_369 rfl (lv_at hl 0 rfl) ?_
          refine va_get (pc := 370) (D := (dC, dI)) (ci := 6) (C := R_Mod) (T := T_Mod) (N := 39) hx hb hts in_Mod hown hK hP x0 (gx_at (mx_lt hk_x0 (by decide)) (sh_Mod cI cZ b hk_x0 _)) rfl 11 (by decide) (hts _ tb_612) (fun _ h9 => h9) rfl d_Mod_transact_370 ?_
          refine lv_imul (pc := 373) hx hb d_Mod_transact_373 ?_
          refine lv_aload_n (pc := 374) hx hb d_Mod_transact_374 rfl (lv_at hl 0 rfl) ?_
          refine va_get (pc := 375) (D := (dC, dI)) (ci := 6) (C := R_Mod) (T := T_Mod) (N := 39) hx hb hts in_Mod hown hK hP x0 (gx_at (mx_lt hk_x0 (by decide)) (sh_Mod cI cZ b hk_x0 _)) rfl 33 (by decide) (hts _ tb_634) (fun _ h9 => h9) rfl d_Mod_transact_375 ?_
          obtain ⟨g5, h⟩ := gx_if h
          obtain ⟨V3, g6, h⟩ := gx_lt h
          refine gx_asi (pc := 378) hx hb hK hP hS (x0 + 3) 0 (mx_lt (to_Mod_receipt hk_x0) (by decide)) (fun _ => mh_arr cI cZ b (n := 64) (to_Mod_receipt hk_x0) (by decide) _) rfl g5 d_Mod_transact_378 g6 (fun H locs hP hS => ?_)
          refine lv_aload_n (pc := 379) hx hb d_Mod_transact_379 rfl (lv_at hl 0 rfl) ?_
          refine va_get (pc := 380) (D := (dC, dI)) (ci := 6) (C := R_Mod) (T := T_Mod) (N := 39) hx hb hts in_Mod hown hK hP x0 (gx_at (mx_lt hk_x0 (by decide)) (sh_Mod cI cZ b hk_x0 _)) rfl 12 (by decide) (hts _ tb_613) (fun _ h9 => h9) rfl d_Mod_transact_380 ?_
          refine lv_iconst (pc := 383) (v := (4 : Int32)) hx hb d_Mod_transact_383 (by decide) ?_
          refine lv_aload_n (pc := 384) hx hb d_Mod_transact_384 rfl (lv_at hl 0 rfl) ?_
          refine va_get (pc := 385) (D := (dC, dI)) (ci := 6) (C := R_Mod) (T := T_Mod) (N := 39) hx hb hts in_Mod hown hK hP x0 (gx_at (mx_lt hk_x0 (by decide)) (sh_Mod cI cZ b hk_x0 _)) rfl 11 (by decide) (hts _ tb_612) (fun _ h9 => h9) rfl d_Mod_transact_385 ?_
          refine lv_imul (pc := 388) hx hb d_Mod_transact_388 ?_
          refine lv_iconst (pc := 389) (v := (1 : Int32)) hx hb d_Mod_transact_389 (by decide) ?_
          refine lv_iadd (pc := 390) hx hb d_Mod_transact_390 ?_
          refine lv_iload (pc := 391) hx hb d_Mod_transact_391 (lv_at hl 2 rfl) ?_
          obtain ⟨g7, h⟩ := gx_if h
          obtain ⟨V4, g8, h⟩ := gx_lt h
          refine gx_asi (pc := 393) hx hb hK hP hS (x0 + 3) 0 (mx_lt (to_Mod_receipt hk_x0) (by decide)) (fun _ => mh_arr cI cZ b (n := 64) (to_Mod_receipt hk_x0) (by decide) _) rfl g7 d_Mod_transact_393 g8 (fun H locs hP hS => ?_)
          refine lv_aload_n (pc := 394) hx hb d_Mod_transact_394 rfl (lv_at hl 0 rfl) ?_
          refine va_get (pc := 395) (D := (dC, dI)) (ci := 6) (C := R_Mod) (T := T_Mod) (N := 39) hx hb hts in_Mod hown hK hP x0 (gx_at (mx_lt hk_x0 (by decide)) (sh_Mod cI cZ b hk_x0 _)) rfl 12 (by decide) (hts _ tb_613) (fun _ h9 => h9) rfl d_Mod_transact_395 ?_
          refine lv_iconst (pc := 398) (v := (4 : Int32)) hx hb d_Mod_transact_398 (by decide) ?_
          refine lv_aload_n (pc := 399) hx hb d_Mod_transact_399 rfl (lv_at hl 0 rfl) ?_
          refine va_get (pc := 400) (D := (dC, dI)) (ci := 6) (C := R_Mod) (T := T_Mod) (N := 39) hx hb hts in_Mod hown hK hP x0 (gx_at (mx_lt hk_x0 (by decide)) (sh_Mod cI cZ b hk_x0 _)) rfl 11 (by decide) (hts _ tb_612) (fun _ h9 => h9) rfl d_Mod_transact_400 ?_
          refine lv_imul (pc := 403) hx hb d_Mod_transact_403 ?_
          refine lv_iconst (pc := 404) (v := (2 : Int32)) hx hb d_Mod_transact_404 (by decide) ?_
          refine lv_iadd (pc := 405) hx hb d_Mod_transact_405 ?_
          refine lv_aload_n (pc := 406) hx hb d_Mod_transact_406 rfl (lv_at hl 0 rfl) ?_
          refine va_get (pc := 407) (D := (dC, dI)) (ci := 6) (C := R_Mod) (T := T_Mod) (N := 39) hx hb hts in_Mod hown hK hP x0 (gx_at (mx_lt hk_x0 (by decide)) (sh_Mod cI cZ b hk_x0 _)) rfl 34 (by decide) (hts _ tb_635) (fun _ h9 => h9) rfl d_Mod_transact_407 ?_
          obtain ⟨g9, h⟩ := gx_if h
          obtain ⟨V5, g10, h⟩ := gx_lt h
          refine gx_asi (pc := 410) hx hb hK hP hS (x0 + 3) 0 (mx_lt (to_Mod_receipt hk_x0) (by decide)) (fun _ => mh_arr cI cZ b (n := 64) (to_Mod_receipt hk_x0) (by decide) _) rfl g9 d_Mod_transact_410 g10 (fun H locs hP hS => ?_)
          refine lv_aload_n (pc := 411) hx hb d_Mod_transact_411 rfl (lv_at hl 0 rfl) ?_
          refine va_get (pc := 412) (D := (dC, dI)) (ci := 6) (C := R_Mod) (T := T_Mod) (N := 39) hx hb hts in_Mod hown hK hP x0 (gx_at (mx_lt hk_x0 (by decide)) (sh_Mod cI cZ b hk_x0 _)) rfl 12 (by decide) (hts _ tb_613) (fun _ h9 => h9) rfl d_Mod_transact_412 ?_
          refine lv_iconst (pc := 415) (v := (4 : Int32)) hx hb d_Mod_transact_415 (by decide) ?_
          refine lv_aload_n (pc := 416) hx hb d_Mod_transact_416 rfl (lv_at hl 0 rfl) ?_
          refine va_get (pc := 417) (D := (dC, dI)) (ci := 6) (C := R_Mod) (T := T_Mod) (N := 39) hx hb hts in_Mod hown hK hP x0 (gx_at (mx_lt hk_x0 (by decide)) (sh_Mod cI cZ b hk_x0 _)) rfl 11 (by decide) (hts _ tb_612) (fun _ h9 => h9) rfl d_Mod_transact_417 ?_
          refine lv_imul (pc := 420) hx hb d_Mod_transact_420 ?_
          refine lv_iconst (pc := 421) (v := (3 : Int32)) hx hb d_Mod_transact_421 (by decide) ?_
          refine lv_iadd (pc := 422) hx hb d_Mod_transact_422 ?_
          refine lv_aload_n (pc := 423) hx hb d_Mod_transact_423 rfl (lv_at hl 0 rfl) ?_
          refine va_get (pc := 424) (D := (dC, dI)) (ci := 6) (C := R_Mod) (T := T_Mod) (N := 39) hx hb hts in_Mod hown hK hP x0 (gx_at (mx_lt hk_x0 (by decide)) (sh_Mod cI cZ b hk_x0 _)) rfl 13 (by decide) (hts _ tb_614) (fun _ h9 => h9) rfl d_Mod_transact_424 ?_
          refine lv_iload (pc := 427) hx hb d_Mod_transact_427 (lv_at hl 1 rfl) ?_
          refine lv_isub (pc := 429) hx hb d_Mod_transact_429 ?_
          obtain ⟨g11, h⟩ := gx_if h
          obtain ⟨V6, g12, h⟩ := gx_lt h
          refine gx_asi (pc := 430) hx hb hK hP hS (x0 + 3) 0 (mx_lt (to_Mod_receipt hk_x0) (by decide)) (fun _ => mh_arr cI cZ b (n := 64) (to_Mod_receipt hk_x0) (by decide) _) rfl g11 d_Mod_transact_430 g12 (fun H locs hP hS => ?_)
          exact B_431   _ _ hk_x0 _ _ _ _ (lv_sub hl [0, 2] rfl) hP hS h
      · have h := gx_neg g3 h
        refine lv_aload_n (pc := 326) hx hb d_Mod_transact_326 rfl (lv_at hl 0 rfl) ?_
        refine va_get (pc := 327) (D := (dC, dI)) (ci := 6) (C := R_Mod) (T := T_Mod) (N := 39) hx hb hts in_Mod hown hK hP x0 (gx_at (mx_lt hk_x0 (by decide)) (sh_Mod cI cZ b hk_x0 _)) rfl 0 (by decide) (hts _ tb_601) (fun _ h9 => h9) rfl d_Mod_transact_327 ?_
        refine lv_bipush (pc := 330) (v := (36 : Int32)) hx hb d_Mod_transact_330 (by decide) ?_
        refine lv_iload (pc := 332) hx hb d_Mod_transact_332 (lv_at hl 3 rfl) ?_
        refine lv_imul (pc := 334) hx hb d_Mod_transact_334 ?_
        refine lv_bipush (pc := 335) (v := (35 : Int32)) hx hb d_Mod_transact_335 (by decide) ?_
        refine lv_iadd (pc := 337) hx hb d_Mod_transact_337 ?_
        obtain ⟨g13, h⟩ := gx_if h
        refine va_iald (pc := 338) hx hb hK hP (x0 + 1) 0 (gx_at (mx_lt (to_Mod_now hk_x0) (by decide)) (mh_arr cI cZ b (n := 576) (to_Mod_now hk_x0) (by decide) _)) rfl g13 d_Mod_transact_338 ?_
        refine lv_iconst (pc := 339) (v := (1 : Int32)) hx hb d_Mod_transact_339 (by decide) ?_
        refine lv_icmp_ne (pc := 340) (tgt := 349) hx hb d_Mod_transact_340 (by decide) (fun g14 => ?_) (fun g14 => ?_)
        · have h := gx_neg g14 h
          refine lv_iinc (pc := 349) (k := 3) (lv' := [(10, .int (x10 + (1 : Int32))), (0, .ref (b + x0)), (8, .int x8), (9, .int x9)]) hx hb d_Mod_transact_349 hl rfl (gx_inc (by decide)) (by decide) rfl (fun ls hl => ?_)
          refine lv_goto (pc := 352) (tgt := 319) hx hb d_Mod_transact_352 (by decide) ?_
          exact ihl _ _ _ _ hk_x0 _ _ _ _ (lv_sub hl [1, 2, 3, 0] rfl) hP hS h
        · have h := gx_pos g14 h
          refine lv_aload_n (pc := 343) hx hb d_Mod_transact_343 rfl (lv_at hl 0 rfl) ?_
          refine lv_iload (pc := 344) hx hb d_Mod_transact_344 (lv_at hl 3 rfl) ?_
          obtain ⟨q1, g15, h⟩ := gx_bd h
          refine gx_cv (pc := 346) (va_runV (C := "GasLedgerModel") (As := [.int x10]) (rest := []) ⟨hx, hb, hml, hown, hts⟩ (k_Mod_wipe l dC dI cI cR cZ b tP tN hk_x0 g15) (gx_cw 1 hts cd_Mod_wipe tb_50 tb_843 tb_845 tb_41 rfl rfl ⟨by decide, by decide, by decide +kernel⟩ ⟨Nat.le_of_ble_eq_true rfl, Nat.le_of_ble_eq_true rfl⟩) (gy_preV (mx_XX b) hX hK hP hS (mx_lt hk_x0 (by decide)) (sh_Mod cI cZ b hk_x0 _) rfl) rfl rfl hl.1 rfl (lv_room (Nat.le_of_ble_eq_true rfl)) d_Mod_transact_346 ⟨Nat.zero_le _, Nat.zero_le _⟩) hS (fun H locs hP hS => ?_)
          refine lv_iinc (pc := 349) (k := 3) (lv' := [(10, .int (x10 + (1 : Int32))), (0, .ref (b + x0)), (8, .int x8), (9, .int x9)]) hx hb d_Mod_transact_349 hl rfl (gx_inc (by decide)) (by decide) rfl (fun ls hl => ?_)
          refine lv_goto (pc := 352) (tgt := 319) hx hb d_Mod_transact_352 (by decide) ?_
          exact ihl _ _ _ _ hk_x0 _ _ _ _ (lv_sub hl [1, 2, 3, 0] rfl) hP hS h
  have B_273 : ∀ (x0 : Nat) (x1 : Int32) (x5 : Int32) (x6 : Int32) (x8 : Int32) (s0 : Int32) (s1 : Int32), mx_kd x0 = 6 → ∀ (V : gx_M) (H : Heap) (locs : List Loc) (ls : Array Slot), lv_has ls 11 [(0, .ref (b + x0)), (1, .int x1), (5, .int x5), (6, .int x6), (8, .int x8)] → va_P (dC, dI) cx_cl (gx_w b 22 (gx_v (mx_sh cI cZ b) V)) H → va_S (gx_A b 22) s.heap H locs → F_Mod_transact_273 x0 x1 x5 x6 x8 s0 s1 V = some q → W p l e (headSpec w_Mod_transact rm_Mod_transact).room s m args below meth c H locs 0 0 (MQ below (gx_Q (dC, dI) cx_cl b 22 (mx_sh cI cZ b) (some (.int q.1)) q.2) args s 0 0 (gx_A b 22)) (F0 m 273 ls [.int s0, .int s1]) := by
    intro x0 x1 x5 x6 x8 s0 s1 hk_x0 V H locs ls hl hP hS h
    unfold F_Mod_transact_273 at h
    refine lv_isub (pc := 273) hx hb d_Mod_transact_273 ?_
    refine lv_istore (pc := 274) (lv' := [(9, .int (s1 - s0)), (0, .ref (b + x0)), (1, .int x1), (5, .int x5), (6, .int x6), (8, .int x8)]) hx hb d_Mod_transact_274 hl (by decide) rfl (fun ls hl => ?_)
    refine lv_aload_n (pc := 276) hx hb d_Mod_transact_276 rfl (lv_at hl 1 rfl) ?_
    refine va_get (pc := 277) (D := (dC, dI)) (ci := 6) (C := R_Mod) (T := T_Mod) (N := 39) hx hb hts in_Mod hown hK hP x0 (gx_at (mx_lt hk_x0 (by decide)) (sh_Mod cI cZ b hk_x0 _)) rfl 0 (by decide) (hts _ tb_601) (fun _ h9 => h9) rfl d_Mod_transact_277 ?_
    refine lv_bipush (pc := 280) (v := (36 : Int32)) hx hb d_Mod_transact_280 (by decide) ?_
    refine lv_iload_n (pc := 282) hx hb d_Mod_transact_282 rfl (lv_at hl 2 rfl) ?_
    refine lv_imul (pc := 283) hx hb d_Mod_transact_283 ?_
    refine lv_dup2_11 (pc := 284) hx hb d_Mod_transact_284 rfl rfl ?_
    obtain ⟨g16, h⟩ := gx_if h
    refine va_iald (pc := 285) hx hb hK hP (x0 + 1) 0 (gx_at (mx_lt (to_Mod_now hk_x0) (by decide)) (mh_arr cI cZ b (n := 576) (to_Mod_now hk_x0) (by decide) _)) rfl g16 d_Mod_transact_285 ?_
    refine lv_iload (pc := 286) hx hb d_Mod_transact_286 (lv_at hl 3 rfl) ?_
    refine lv_iload (pc := 288) hx hb d_Mod_transact_288 (lv_at hl 0 rfl) ?_
    refine lv_isub (pc := 290) hx hb d_Mod_transact_290 ?_
    refine lv_iload (pc := 291) hx hb d_Mod_transact_291 (lv_at hl 4 rfl) ?_
    refine lv_imul (pc := 293) hx hb d_Mod_transact_293 ?_
    refine lv_iadd (pc := 294) hx hb d_Mod_transact_294 ?_
    obtain ⟨g17, h⟩ := gx_if h
    obtain ⟨V7, g18, h⟩ := gx_lt h
    refine gx_asi (pc := 295) hx hb hK hP hS (x0 + 1) 0 (mx_lt (to_Mod_now hk_x0) (by decide)) (fun _ => mh_arr cI cZ b (n := 576) (to_Mod_now hk_x0) (by decide) _) rfl g17 d_Mod_transact_295 g18 (fun H locs hP hS => ?_)
    refine lv_aload_n (pc := 296) hx hb d_Mod_transact_296 rfl (lv_at hl 1 rfl) ?_
    refine va_get (pc := 297) (D := (dC, dI)) (ci := 6) (C := R_Mod) (T := T_Mod) (N := 39) hx hb hts in_Mod hown hK hP x0 (gx_at (mx_lt hk_x0 (by decide)) (sh_Mod cI cZ b hk_x0 _)) rfl 0 (by decide) (hts _ tb_601) (fun _ h9 => h9) rfl d_Mod_transact_297 ?_
    refine lv_bipush (pc := 300) (v := (36 : Int32)) hx hb d_Mod_transact_300 (by decide) ?_
    refine lv_aload_n (pc := 302) hx hb d_Mod_transact_302 rfl (lv_at hl 1 rfl) ?_
    refine va_get (pc := 303) (D := (dC, dI)) (ci := 6) (C := R_Mod) (T := T_Mod) (N := 39) hx hb hts in_Mod hown hK hP x0 (gx_at (mx_lt hk_x0 (by decide)) (sh_Mod cI cZ b hk_x0 _)) rfl 5 (by decide) (hts _ tb_606) (fun _ h9 => h9) rfl d_Mod_transact_303 ?_
    refine lv_imul (pc := 306) hx hb d_Mod_transact_306 ?_
    refine lv_dup2_11 (pc := 307) hx hb d_Mod_transact_307 rfl rfl ?_
    obtain ⟨g19, h⟩ := gx_if h
    refine va_iald (pc := 308) hx hb hK hP (x0 + 1) 0 (gx_at (mx_lt (to_Mod_now hk_x0) (by decide)) (mh_arr cI cZ b (n := 576) (to_Mod_now hk_x0) (by decide) _)) rfl g19 d_Mod_transact_308 ?_
    refine lv_iload (pc := 309) hx hb d_Mod_transact_309 (lv_at hl 0 rfl) ?_
    refine lv_iload (pc := 311) hx hb d_Mod_transact_311 (lv_at hl 4 rfl) ?_
    refine lv_imul (pc := 313) hx hb d_Mod_transact_313 ?_
    refine lv_iadd (pc := 314) hx hb d_Mod_transact_314 ?_
    obtain ⟨g20, h⟩ := gx_if h
    obtain ⟨V8, g21, h⟩ := gx_lt h
    refine gx_asi (pc := 315) hx hb hK hP hS (x0 + 1) 0 (mx_lt (to_Mod_now hk_x0) (by decide)) (fun _ => mh_arr cI cZ b (n := 576) (to_Mod_now hk_x0) (by decide) _) rfl g20 d_Mod_transact_315 g21 (fun H locs hP hS => ?_)
    refine lv_iconst (pc := 316) (v := (0 : Int32)) hx hb d_Mod_transact_316 (by decide) ?_
    refine lv_istore (pc := 317) (lv' := [(10, .int (0 : Int32)), (9, .int (s1 - s0)), (0, .ref (b + x0)), (1, .int x1), (5, .int x5), (6, .int x6), (8, .int x8)]) hx hb d_Mod_transact_317 hl (by decide) rfl (fun ls hl => ?_)
    exact B_319 200000  _ _ _ _ hk_x0 _ _ _ _ (lv_sub hl [2, 6, 1, 0] rfl) hP hS h
  have B_240 : ∀ (x0 : Nat) (x1 : Int32) (x5 : Int32) (x6 : Int32) (x8 : Int32), mx_kd x0 = 6 → ∀ (V : gx_M) (H : Heap) (locs : List Loc) (ls : Array Slot), lv_has ls 11 [(0, .ref (b + x0)), (1, .int x1), (5, .int x5), (6, .int x6), (8, .int x8)] → va_P (dC, dI) cx_cl (gx_w b 22 (gx_v (mx_sh cI cZ b) V)) H → va_S (gx_A b 22) s.heap H locs → F_Mod_transact_240 x0 x1 x5 x6 x8 V = some q → W p l e (headSpec w_Mod_transact rm_Mod_transact).room s m args below meth c H locs 0 0 (MQ below (gx_Q (dC, dI) cx_cl b 22 (mx_sh cI cZ b) (some (.int q.1)) q.2) args s 0 0 (gx_A b 22)) (F0 m 240 ls []) := by
    intro x0 x1 x5 x6 x8 hk_x0 V H locs ls hl hP hS h
    unfold F_Mod_transact_240 at h
    refine lv_iload (pc := 240) hx hb d_Mod_transact_240 (lv_at hl 2 rfl) ?_
    refine lv_aload_n (pc := 242) hx hb d_Mod_transact_242 rfl (lv_at hl 0 rfl) ?_
    refine va_get (pc := 243) (D := (dC, dI)) (ci := 6) (C := R_Mod) (T := T_Mod) (N := 39) hx hb hts in_Mod hown hK hP x0 (gx_at (mx_lt hk_x0 (by decide)) (sh_Mod cI cZ b hk_x0 _)) rfl 32 (by decide) (hts _ tb_633) (fun _ h9 => h9) rfl d_Mod_transact_243 ?_
    refine lv_isub (pc := 246) hx hb d_Mod_transact_246 ?_
    refine lv_istore (pc := 247) (lv' := [(9, .int (x5 - (V x0 32))), (0, .ref (b + x0)), (1, .int x1), (5, .int x5), (6, .int x6), (8, .int x8)]) hx hb d_Mod_transact_247 hl (by decide) rfl (fun ls hl => ?_)
    refine lv_iload (pc := 249) hx hb d_Mod_transact_249 (lv_at hl 0 rfl) ?_
    refine lv_iload (pc := 251) hx hb d_Mod_transact_251 (lv_at hl 0 rfl) ?_
    refine lv_iconst (pc := 253) (v := (2 : Int32)) hx hb d_Mod_transact_253 (by decide) ?_
    refine lv_idiv (pc := 254) hx hb d_Mod_transact_254 (by decide) ?_
    refine lv_aload_n (pc := 255) hx hb d_Mod_transact_255 rfl (lv_at hl 1 rfl) ?_
    refine va_get (pc := 256) (D := (dC, dI)) (ci := 6) (C := R_Mod) (T := T_Mod) (N := 39) hx hb hts in_Mod hown hK hP x0 (gx_at (mx_lt hk_x0 (by decide)) (sh_Mod cI cZ b hk_x0 _)) rfl 2 (by decide) (hts _ tb_603) (fun _ h9 => h9) rfl d_Mod_transact_256 ?_
    refine lv_icmp_ge (pc := 259) (tgt := 269) hx hb d_Mod_transact_259 (by decide) (fun g22 => ?_) (fun g22 => ?_)
    · have h := gx_pos g22 h
      refine lv_aload_n (pc := 269) hx hb d_Mod_transact_269 rfl (lv_at hl 1 rfl) ?_
      refine va_get (pc := 270) (D := (dC, dI)) (ci := 6) (C := R_Mod) (T := T_Mod) (N := 39) hx hb hts in_Mod hown hK hP x0 (gx_at (mx_lt hk_x0 (by decide)) (sh_Mod cI cZ b hk_x0 _)) rfl 2 (by decide) (hts _ tb_603) (fun _ h9 => h9) rfl d_Mod_transact_270 ?_
      exact B_273   _ _ _ _ _ _ _ hk_x0 _ _ _ _ (lv_sub hl [1, 2, 3, 4, 5] rfl) hP hS h
    · have h := gx_neg g22 h
      refine lv_iload (pc := 262) hx hb d_Mod_transact_262 (lv_at hl 0 rfl) ?_
      refine lv_iconst (pc := 264) (v := (2 : Int32)) hx hb d_Mod_transact_264 (by decide) ?_
      refine lv_idiv (pc := 265) hx hb d_Mod_transact_265 (by decide) ?_
      refine lv_goto (pc := 266) (tgt := 273) hx hb d_Mod_transact_266 (by decide) ?_
      exact B_273   _ _ _ _ _ _ _ hk_x0 _ _ _ _ (lv_sub hl [1, 2, 3, 4, 5] rfl) hP hS h
  have B_216 : ∀ (nf : Nat), ∀ (x0 : Nat) (x1 : Int32) (x5 : Int32) (x6 : Int32) (x8 : Int32) (x9 : Int32), mx_kd x0 = 6 → ∀ (V : gx_M) (H : Heap) (locs : List Loc) (ls : Array Slot), lv_has ls 11 [(0, .ref (b + x0)), (1, .int x1), (5, .int x5), (6, .int x6), (8, .int x8), (9, .int x9)] → va_P (dC, dI) cx_cl (gx_w b 22 (gx_v (mx_sh cI cZ b) V)) H → va_S (gx_A b 22) s.heap H locs → F_Mod_transact_216 nf x0 x1 x5 x6 x8 x9 V = some q → W p l e (headSpec w_Mod_transact rm_Mod_transact).room s m args below meth c H locs 0 0 (MQ below (gx_Q (dC, dI) cx_cl b 22 (mx_sh cI cZ b) (some (.int q.1)) q.2) args s 0 0 (gx_A b 22)) (F0 m 216 ls []) := by
    intro nf
    induction nf with
    | zero => intro x0 x1 x5 x6 x8 x9 hk_x0 V H locs ls hl hP hS h; cases h
    | succ nf ihl =>
      intro x0 x1 x5 x6 x8 x9 hk_x0 V H locs ls hl hP hS h
      rw [F_Mod_transact_216] at h
      refine lv_iload (pc := 216) hx hb d_Mod_transact_216 (lv_at hl 5 rfl) ?_
      refine lv_ldc (pc := 218) (v := (100000 : Int32)) hx hb hown (hts _ tb_784) d_Mod_transact_218 ?_
      refine lv_icmp_ge (pc := 220) (tgt := 240) hx hb d_Mod_transact_220 (by decide) (fun g23 => ?_) (fun g23 => ?_)
      · have h := gx_pos g23 h
        exact B_240   _ _ _ _ _ hk_x0 _ _ _ _ (lv_sub hl [0, 1, 2, 3, 4] rfl) hP hS h
      · have h := gx_neg g23 h
        refine lv_aload_n (pc := 223) hx hb d_Mod_transact_223 rfl (lv_at hl 0 rfl) ?_
        refine va_get (pc := 224) (D := (dC, dI)) (ci := 6) (C := R_Mod) (T := T_Mod) (N := 39) hx hb hts in_Mod hown hK hP x0 (gx_at (mx_lt hk_x0 (by decide)) (sh_Mod cI cZ b hk_x0 _)) rfl 19 (by decide) (hts _ tb_620) (fun _ h9 => h9) rfl d_Mod_transact_224 ?_
        refine lv_if_lt (pc := 227) (tgt := 240) hx hb d_Mod_transact_227 (by decide) (fun g24 => ?_) (fun g24 => ?_)
        · have h := gx_pos g24 h
          exact B_240   _ _ _ _ _ hk_x0 _ _ _ _ (lv_sub hl [0, 1, 2, 3, 4] rfl) hP hS h
        · have h := gx_neg g24 h
          refine lv_aload_n (pc := 230) hx hb d_Mod_transact_230 rfl (lv_at hl 0 rfl) ?_
          obtain ⟨q2, g25, h⟩ := gx_bd h
          refine gx_cv (pc := 231) (va_runV (C := "GasLedgerModel") (As := []) (rest := []) ⟨hx, hb, hml, hown, hts⟩ (k_Mod_step l dC dI cI cR cZ b tP tN hk_x0 g25) (gx_cw 0 hts cd_Mod_step tb_50 tb_785 tb_787 tb_28 rfl rfl ⟨by decide, by decide, by decide +kernel⟩ ⟨Nat.le_of_ble_eq_true rfl, Nat.le_of_ble_eq_true rfl⟩) (gy_preV (mx_XX b) hX hK hP hS (mx_lt hk_x0 (by decide)) (sh_Mod cI cZ b hk_x0 _) rfl) rfl rfl hl.1 rfl (lv_room (Nat.le_of_ble_eq_true rfl)) d_Mod_transact_231 ⟨Nat.zero_le _, Nat.zero_le _⟩) hS (fun H locs hP hS => ?_)
          refine lv_iinc (pc := 234) (k := 5) (lv' := [(9, .int (x9 + (1 : Int32))), (0, .ref (b + x0)), (1, .int x1), (5, .int x5), (6, .int x6), (8, .int x8)]) hx hb d_Mod_transact_234 hl rfl (gx_inc (by decide)) (by decide) rfl (fun ls hl => ?_)
          refine lv_goto (pc := 237) (tgt := 216) hx hb d_Mod_transact_237 (by decide) ?_
          exact ihl _ _ _ _ _ _ hk_x0 _ _ _ _ (lv_sub hl [1, 2, 3, 4, 5, 0] rfl) hP hS h
  have B_121 : ∀ (nf : Nat), ∀ (x0 : Nat) (x1 : Int32) (x2 : Int32) (x3 : Int32) (x4 : Int32) (x5 : Int32) (x6 : Int32) (x8 : Int32), mx_kd x0 = 6 → ∀ (V : gx_M) (H : Heap) (locs : List Loc) (ls : Array Slot), lv_has ls 11 [(0, .ref (b + x0)), (1, .int x1), (2, .int x2), (3, .int x3), (4, .int x4), (5, .int x5), (6, .int x6), (8, .int x8)] → va_P (dC, dI) cx_cl (gx_w b 22 (gx_v (mx_sh cI cZ b) V)) H → va_S (gx_A b 22) s.heap H locs → F_Mod_transact_121 nf x0 x1 x2 x3 x4 x5 x6 x8 V = some q → W p l e (headSpec w_Mod_transact rm_Mod_transact).room s m args below meth c H locs 0 0 (MQ below (gx_Q (dC, dI) cx_cl b 22 (mx_sh cI cZ b) (some (.int q.1)) q.2) args s 0 0 (gx_A b 22)) (F0 m 121 ls []) := by
    intro nf
    induction nf with
    | zero => intro x0 x1 x2 x3 x4 x5 x6 x8 hk_x0 V H locs ls hl hP hS h; cases h
    | succ nf ihl =>
      intro x0 x1 x2 x3 x4 x5 x6 x8 hk_x0 V H locs ls hl hP hS h
      rw [F_Mod_transact_121] at h
      refine lv_iload (pc := 121) hx hb d_Mod_transact_121 (lv_at hl 7 rfl) ?_
      refine lv_bipush (pc := 123) (v := (16 : Int32)) hx hb d_Mod_transact_123 (by decide) ?_
      refine lv_icmp_ge (pc := 125) (tgt := 148) hx hb d_Mod_transact_125 (by decide) (fun g26 => ?_) (fun g26 => ?_)
      · have h := gx_pos g26 h
        refine lv_aload_n (pc := 148) hx hb d_Mod_transact_148 rfl (lv_at hl 0 rfl) ?_
        refine va_get (pc := 149) (D := (dC, dI)) (ci := 6) (C := R_Mod) (T := T_Mod) (N := 39) hx hb hts in_Mod hown hK hP x0 (gx_at (mx_lt hk_x0 (by decide)) (sh_Mod cI cZ b hk_x0 _)) rfl 13 (by decide) (hts _ tb_614) (fun _ h9 => h9) rfl d_Mod_transact_149 ?_
        refine lv_istore (pc := 152) (lv' := [(8, .int (V x0 13)), (0, .ref (b + x0)), (1, .int x1), (2, .int x2), (3, .int x3), (4, .int x4), (5, .int x5), (6, .int x6)]) hx hb d_Mod_transact_152 hl (by decide) rfl (fun ls hl => ?_)
        refine lv_aload_n (pc := 154) hx hb d_Mod_transact_154 rfl (lv_at hl 1 rfl) ?_
        refine va_get (pc := 155) (D := (dC, dI)) (ci := 6) (C := R_Mod) (T := T_Mod) (N := 39) hx hb hts in_Mod hown hK hP x0 (gx_at (mx_lt hk_x0 (by decide)) (sh_Mod cI cZ b hk_x0 _)) rfl 0 (by decide) (hts _ tb_601) (fun _ h9 => h9) rfl d_Mod_transact_155 ?_
        refine lv_bipush (pc := 158) (v := (36 : Int32)) hx hb d_Mod_transact_158 (by decide) ?_
        refine lv_iload_n (pc := 160) hx hb d_Mod_transact_160 rfl (lv_at hl 2 rfl) ?_
        refine lv_imul (pc := 161) hx hb d_Mod_transact_161 ?_
        refine lv_dup2_11 (pc := 162) hx hb d_Mod_transact_162 rfl rfl ?_
        obtain ⟨g27, h⟩ := gx_if h
        refine va_iald (pc := 163) hx hb hK hP (x0 + 1) 0 (gx_at (mx_lt (to_Mod_now hk_x0) (by decide)) (mh_arr cI cZ b (n := 576) (to_Mod_now hk_x0) (by decide) _)) rfl g27 d_Mod_transact_163 ?_
        refine lv_iload (pc := 164) hx hb d_Mod_transact_164 (lv_at hl 6 rfl) ?_
        refine lv_iload (pc := 166) hx hb d_Mod_transact_166 (lv_at hl 7 rfl) ?_
        refine lv_imul (pc := 168) hx hb d_Mod_transact_168 ?_
        refine lv_isub (pc := 169) hx hb d_Mod_transact_169 ?_
        obtain ⟨g28, h⟩ := gx_if h
        obtain ⟨V9, g29, h⟩ := gx_lt h
        refine gx_asi (pc := 170) hx hb hK hP hS (x0 + 1) 0 (mx_lt (to_Mod_now hk_x0) (by decide)) (fun _ => mh_arr cI cZ b (n := 576) (to_Mod_now hk_x0) (by decide) _) rfl g28 d_Mod_transact_170 g29 (fun H locs hP hS => ?_)
        refine lv_aload_n (pc := 171) hx hb d_Mod_transact_171 rfl (lv_at hl 1 rfl) ?_
        refine va_get (pc := 172) (D := (dC, dI)) (ci := 6) (C := R_Mod) (T := T_Mod) (N := 39) hx hb hts in_Mod hown hK hP x0 (gx_at (mx_lt hk_x0 (by decide)) (sh_Mod cI cZ b hk_x0 _)) rfl 0 (by decide) (hts _ tb_601) (fun _ h9 => h9) rfl d_Mod_transact_172 ?_
        refine lv_bipush (pc := 175) (v := (36 : Int32)) hx hb d_Mod_transact_175 (by decide) ?_
        refine lv_iload_n (pc := 177) hx hb d_Mod_transact_177 rfl (lv_at hl 2 rfl) ?_
        refine lv_imul (pc := 178) hx hb d_Mod_transact_178 ?_
        refine lv_iconst (pc := 179) (v := (1 : Int32)) hx hb d_Mod_transact_179 (by decide) ?_
        refine lv_iadd (pc := 180) hx hb d_Mod_transact_180 ?_
        refine lv_dup2_11 (pc := 181) hx hb d_Mod_transact_181 rfl rfl ?_
        obtain ⟨g30, h⟩ := gx_if h
        refine va_iald (pc := 182) hx hb hK hP (x0 + 1) 0 (gx_at (mx_lt (to_Mod_now hk_x0) (by decide)) (mh_arr cI cZ b (n := 576) (to_Mod_now hk_x0) (by decide) _)) rfl g30 d_Mod_transact_182 ?_
        refine lv_iconst (pc := 183) (v := (1 : Int32)) hx hb d_Mod_transact_183 (by decide) ?_
        refine lv_iadd (pc := 184) hx hb d_Mod_transact_184 ?_
        obtain ⟨g31, h⟩ := gx_if h
        obtain ⟨V10, g32, h⟩ := gx_lt h
        refine gx_asi (pc := 185) hx hb hK hP hS (x0 + 1) 0 (mx_lt (to_Mod_now hk_x0) (by decide)) (fun _ => mh_arr cI cZ b (n := 576) (to_Mod_now hk_x0) (by decide) _) rfl g31 d_Mod_transact_185 g32 (fun H locs hP hS => ?_)
        refine lv_aload_n (pc := 186) hx hb d_Mod_transact_186 rfl (lv_at hl 1 rfl) ?_
        refine lv_iconst (pc := 187) (v := (-1 : Int32)) hx hb d_Mod_transact_187 (by decide) ?_
        obtain ⟨V11, g33, h⟩ := gx_lt h
        refine gy_put (pc := 188) (D := (dC, dI)) (ci := 6) (C := R_Mod) (T := T_Mod) (NF := 39) (ty := .int) hx hb hts in_Mod t_Mod ty_Mod nm_Mod hown hK hP hS x0 (mx_lt hk_x0 (by decide)) (sh_Mod cI cZ b hk_x0 _) rfl 19 (by decide) (hts _ tb_620) (fun _ h9 => h9) rfl (by decide +kernel) rfl rfl (Nat.le_of_ble_eq_true rfl) 19 (sh_Mod cI cZ b hk_x0 _) d_Mod_transact_188 g33 (fun H locs hP hS => ?_)
        refine lv_aload_n (pc := 191) hx hb d_Mod_transact_191 rfl (lv_at hl 1 rfl) ?_
        refine lv_iload_n (pc := 192) hx hb d_Mod_transact_192 rfl (lv_at hl 3 rfl) ?_
        refine lv_iload_n (pc := 193) hx hb d_Mod_transact_193 rfl (lv_at hl 3 rfl) ?_
        refine lv_iload_n (pc := 194) hx hb d_Mod_transact_194 rfl (lv_at hl 2 rfl) ?_
        refine lv_iload_n (pc := 195) hx hb d_Mod_transact_195 rfl (lv_at hl 4 rfl) ?_
        refine lv_iload (pc := 196) hx hb d_Mod_transact_196 (lv_at hl 5 rfl) ?_
        refine lv_iload (pc := 198) hx hb d_Mod_transact_198 (lv_at hl 6 rfl) ?_
        refine lv_bipush (pc := 200) (v := (20 : Int32)) hx hb d_Mod_transact_200 (by decide) ?_
        refine lv_isub (pc := 202) hx hb d_Mod_transact_202 ?_
        obtain ⟨q3, g34, h⟩ := gx_bd h
        refine gx_cv (pc := 203) (va_runV (C := "GasLedgerModel") (As := [.int x2, .int x2, .int x1, .int x3, .int x4, .int (x5 - (20 : Int32))]) (rest := []) ⟨hx, hb, hml, hown, hts⟩ (k_Mod_enter l dC dI cI cR cZ b tP tN hk_x0 g34) (gx_cw 6 hts cd_Mod_enter tb_50 tb_776 tb_778 tb_26 rfl rfl ⟨by decide, by decide, by decide +kernel⟩ ⟨Nat.le_of_ble_eq_true rfl, Nat.le_of_ble_eq_true rfl⟩) (gy_preV (mx_XX b) hX hK hP hS (mx_lt hk_x0 (by decide)) (sh_Mod cI cZ b hk_x0 _) rfl) rfl rfl hl.1 rfl (lv_room (Nat.le_of_ble_eq_true rfl)) d_Mod_transact_203 ⟨Nat.zero_le _, Nat.zero_le _⟩) hS (fun H locs hP hS => ?_)
        refine lv_aload_n (pc := 206) hx hb d_Mod_transact_206 rfl (lv_at hl 1 rfl) ?_
        refine lv_iload_n (pc := 207) hx hb d_Mod_transact_207 rfl (lv_at hl 2 rfl) ?_
        refine lv_iload_n (pc := 208) hx hb d_Mod_transact_208 rfl (lv_at hl 3 rfl) ?_
        refine lv_iload_n (pc := 209) hx hb d_Mod_transact_209 rfl (lv_at hl 4 rfl) ?_
        obtain ⟨q4, g35, h⟩ := gx_bd h
        refine gx_cv (pc := 210) (va_runV (C := "GasLedgerModel") (As := [.int x1, .int x2, .int x3]) (rest := []) ⟨hx, hb, hml, hown, hts⟩ (k_Mod_give l dC dI cI cR cZ b tP tN hk_x0 g35) (gx_cw 3 hts cd_Mod_give tb_50 tb_780 tb_782 tb_27 rfl rfl ⟨by decide, by decide, by decide +kernel⟩ ⟨Nat.le_of_ble_eq_true rfl, Nat.le_of_ble_eq_true rfl⟩) (gy_preV (mx_XX b) hX hK hP hS (mx_lt hk_x0 (by decide)) (sh_Mod cI cZ b hk_x0 _) rfl) rfl rfl hl.1 rfl (lv_room (Nat.le_of_ble_eq_true rfl)) d_Mod_transact_210 ⟨Nat.zero_le _, Nat.zero_le _⟩) hS (fun H locs hP hS => ?_)
        refine lv_iconst (pc := 213) (v := (0 : Int32)) hx hb d_Mod_transact_213 (by decide) ?_
        refine lv_istore (pc := 214) (lv' := [(9, .int (0 : Int32)), (8, .int (V x0 13)), (0, .ref (b + x0)), (1, .int x1), (2, .int x2), (3, .int x3), (4, .int x4), (5, .int x5), (6, .int x6)]) hx hb d_Mod_transact_214 hl (by decide) rfl (fun ls hl => ?_)
        exact B_216 200000  _ _ _ _ _ _ hk_x0 _ _ _ _ (lv_sub hl [2, 3, 7, 8, 1, 0] rfl) hP hS h
      · have h := gx_neg g26 h
        refine lv_aload_n (pc := 128) hx hb d_Mod_transact_128 rfl (lv_at hl 0 rfl) ?_
        refine va_get (pc := 129) (D := (dC, dI)) (ci := 6) (C := R_Mod) (T := T_Mod) (N := 39) hx hb hts in_Mod hown hK hP x0 (gx_at (mx_lt hk_x0 (by decide)) (sh_Mod cI cZ b hk_x0 _)) rfl 0 (by decide) (hts _ tb_601) (fun _ h9 => h9) rfl d_Mod_transact_129 ?_
        refine lv_bipush (pc := 132) (v := (36 : Int32)) hx hb d_Mod_transact_132 (by decide) ?_
        refine lv_iload (pc := 134) hx hb d_Mod_transact_134 (lv_at hl 7 rfl) ?_
        refine lv_imul (pc := 136) hx hb d_Mod_transact_136 ?_
        refine lv_bipush (pc := 137) (v := (35 : Int32)) hx hb d_Mod_transact_137 (by decide) ?_
        refine lv_iadd (pc := 139) hx hb d_Mod_transact_139 ?_
        refine lv_iconst (pc := 140) (v := (0 : Int32)) hx hb d_Mod_transact_140 (by decide) ?_
        obtain ⟨g36, h⟩ := gx_if h
        obtain ⟨V12, g37, h⟩ := gx_lt h
        refine gx_asi (pc := 141) hx hb hK hP hS (x0 + 1) 0 (mx_lt (to_Mod_now hk_x0) (by decide)) (fun _ => mh_arr cI cZ b (n := 576) (to_Mod_now hk_x0) (by decide) _) rfl g36 d_Mod_transact_141 g37 (fun H locs hP hS => ?_)
        refine lv_iinc (pc := 142) (k := 7) (lv' := [(8, .int (x8 + (1 : Int32))), (0, .ref (b + x0)), (1, .int x1), (2, .int x2), (3, .int x3), (4, .int x4), (5, .int x5), (6, .int x6)]) hx hb d_Mod_transact_142 hl rfl (gx_inc (by decide)) (by decide) rfl (fun ls hl => ?_)
        refine lv_goto (pc := 145) (tgt := 121) hx hb d_Mod_transact_145 (by decide) ?_
        exact ihl _ _ _ _ _ _ _ _ hk_x0 _ _ _ _ (lv_sub hl [1, 2, 3, 4, 5, 6, 7, 0] rfl) hP hS h
  unfold F_Mod_transact at h
  refine lv_aload_n (pc := 0) hx hb d_Mod_transact_0 rfl (lv_at hl 0 rfl) ?_
  refine va_get (pc := 1) (D := (dC, dI)) (ci := 6) (C := R_Mod) (T := T_Mod) (N := 39) hx hb hts in_Mod hown hK hP x0 (gx_at (mx_lt hk0 (by decide)) (sh_Mod cI cZ b hk0 _)) rfl 4 (by decide) (hts _ tb_605) (fun _ h9 => h9) rfl d_Mod_transact_1 ?_
  refine lv_if_ne (pc := 4) (tgt := 9) hx hb d_Mod_transact_4 (by decide) (fun g38 => ?_) (fun g38 => ?_)
  · have h := gx_neg g38 h
    refine lv_iload_n (pc := 9) hx hb d_Mod_transact_9 rfl (lv_at hl 1 rfl) ?_
    refine lv_bipush (pc := 10) (v := (16 : Int32)) hx hb d_Mod_transact_10 (by decide) ?_
    obtain ⟨q5, g39, h⟩ := gx_bd h
    refine gx_ci (pc := 12) (va_runS (As := [.int x1, .int (16 : Int32)]) (rest := []) ⟨hx, hb, hml, hown, hts⟩ (k_Mod_in l dC dI cI cR cZ b tP tN  g39) (gx_cs 2 hts cd_Mod_in tb_50 tb_724 tb_725 rfl rfl ⟨by decide, by decide, by decide +kernel⟩ ⟨Nat.le_of_ble_eq_true rfl, Nat.le_of_ble_eq_true rfl⟩) (gy_pre (mx_XX b) hX hK hP hS) rfl rfl hl.1 rfl (lv_room (Nat.le_of_ble_eq_true rfl)) d_Mod_transact_12 ⟨Nat.zero_le _, Nat.zero_le _⟩) hS (fun H locs hP hS => ?_)
    refine lv_if_eq (pc := 15) (tgt := 31) hx hb d_Mod_transact_15 (by decide) (fun g40 => ?_) (fun g40 => ?_)
    · have h := gx_pos g40 h
      refine lv_bipush (pc := 31) (v := (-2 : Int32)) hx hb d_Mod_transact_31 (by decide) ?_
      exact gx_iret (free := fun _ => True) hx hb hr hlk hP hS d_Mod_transact_33 (by cases h; rfl) (by cases h; rfl)
    · have h := gx_neg g40 h
      refine lv_iload_n (pc := 18) hx hb d_Mod_transact_18 rfl (lv_at hl 2 rfl) ?_
      refine lv_bipush (pc := 19) (v := (16 : Int32)) hx hb d_Mod_transact_19 (by decide) ?_
      obtain ⟨q6, g41, h⟩ := gx_bd h
      refine gx_ci (pc := 21) (va_runS (As := [.int x2, .int (16 : Int32)]) (rest := []) ⟨hx, hb, hml, hown, hts⟩ (k_Mod_in l dC dI cI cR cZ b tP tN  g41) (gx_cs 2 hts cd_Mod_in tb_50 tb_724 tb_725 rfl rfl ⟨by decide, by decide, by decide +kernel⟩ ⟨Nat.le_of_ble_eq_true rfl, Nat.le_of_ble_eq_true rfl⟩) (gy_pre (mx_XX b) hX hK hP hS) rfl rfl hl.1 rfl (lv_room (Nat.le_of_ble_eq_true rfl)) d_Mod_transact_21 ⟨Nat.zero_le _, Nat.zero_le _⟩) hS (fun H locs hP hS => ?_)
      refine lv_if_eq (pc := 24) (tgt := 31) hx hb d_Mod_transact_24 (by decide) (fun g42 => ?_) (fun g42 => ?_)
      · have h := gx_pos g42 h
        refine lv_bipush (pc := 31) (v := (-2 : Int32)) hx hb d_Mod_transact_31 (by decide) ?_
        exact gx_iret (free := fun _ => True) hx hb hr hlk hP hS d_Mod_transact_33 (by cases h; rfl) (by cases h; rfl)
      · have h := gx_neg g42 h
        refine lv_iload_n (pc := 27) hx hb d_Mod_transact_27 rfl (lv_at hl 3 rfl) ?_
        refine lv_if_ge (pc := 28) (tgt := 34) hx hb d_Mod_transact_28 (by decide) (fun g43 => ?_) (fun g43 => ?_)
        · have h := gx_pos g43 h
          refine lv_iload (pc := 34) hx hb d_Mod_transact_34 (lv_at hl 7 rfl) ?_
          refine lv_if_eq (pc := 36) (tgt := 42) hx hb d_Mod_transact_36 (by decide) (fun g44 => ?_) (fun g44 => ?_)
          · have h := gx_pos g44 h
            refine lv_iload (pc := 42) hx hb d_Mod_transact_42 (lv_at hl 5 rfl) ?_
            refine lv_bipush (pc := 44) (v := (20 : Int32)) hx hb d_Mod_transact_44 (by decide) ?_
            refine lv_icmp_lt (pc := 46) (tgt := 67) hx hb d_Mod_transact_46 (by decide) (fun g45 => ?_) (fun g45 => ?_)
            · have h := gx_pos g45 h
              refine lv_bipush (pc := 67) (v := (-4 : Int32)) hx hb d_Mod_transact_67 (by decide) ?_
              exact gx_iret (free := fun _ => True) hx hb hr hlk hP hS d_Mod_transact_69 (by cases h; rfl) (by cases h; rfl)
            · have h := gx_neg g45 h
              refine lv_iload (pc := 49) hx hb d_Mod_transact_49 (lv_at hl 5 rfl) ?_
              refine lv_sipush (pc := 51) (v := (3000 : Int32)) hx hb d_Mod_transact_51 (by decide) ?_
              refine lv_icmp_gt (pc := 54) (tgt := 67) hx hb d_Mod_transact_54 (by decide) (fun g46 => ?_) (fun g46 => ?_)
              · have h := gx_pos g46 h
                refine lv_bipush (pc := 67) (v := (-4 : Int32)) hx hb d_Mod_transact_67 (by decide) ?_
                exact gx_iret (free := fun _ => True) hx hb hr hlk hP hS d_Mod_transact_69 (by cases h; rfl) (by cases h; rfl)
              · have h := gx_neg g46 h
                refine lv_iload (pc := 57) hx hb d_Mod_transact_57 (lv_at hl 6 rfl) ?_
                refine lv_bipush (pc := 59) (v := (101 : Int32)) hx hb d_Mod_transact_59 (by decide) ?_
                obtain ⟨q7, g47, h⟩ := gx_bd h
                refine gx_ci (pc := 61) (va_runS (As := [.int x6, .int (101 : Int32)]) (rest := []) ⟨hx, hb, hml, hown, hts⟩ (k_Mod_in l dC dI cI cR cZ b tP tN  g47) (gx_cs 2 hts cd_Mod_in tb_50 tb_724 tb_725 rfl rfl ⟨by decide, by decide, by decide +kernel⟩ ⟨Nat.le_of_ble_eq_true rfl, Nat.le_of_ble_eq_true rfl⟩) (gy_pre (mx_XX b) hX hK hP hS) rfl rfl hl.1 rfl (lv_room (Nat.le_of_ble_eq_true rfl)) d_Mod_transact_61 ⟨Nat.zero_le _, Nat.zero_le _⟩) hS (fun H locs hP hS => ?_)
                refine lv_if_ne (pc := 64) (tgt := 70) hx hb d_Mod_transact_64 (by decide) (fun g48 => ?_) (fun g48 => ?_)
                · have h := gx_neg g48 h
                  refine lv_iload (pc := 70) hx hb d_Mod_transact_70 (lv_at hl 5 rfl) ?_
                  refine lv_sipush (pc := 72) (v := (3000 : Int32)) hx hb d_Mod_transact_72 (by decide) ?_
                  refine lv_aload_n (pc := 75) hx hb d_Mod_transact_75 rfl (lv_at hl 0 rfl) ?_
                  refine va_get (pc := 76) (D := (dC, dI)) (ci := 6) (C := R_Mod) (T := T_Mod) (N := 39) hx hb hts in_Mod hown hK hP x0 (gx_at (mx_lt hk0 (by decide)) (sh_Mod cI cZ b hk0 _)) rfl 10 (by decide) (hts _ tb_611) (fun _ h9 => h9) rfl d_Mod_transact_76 ?_
                  refine lv_isub (pc := 79) hx hb d_Mod_transact_79 ?_
                  refine lv_icmp_le (pc := 80) (tgt := 86) hx hb d_Mod_transact_80 (by decide) (fun g49 => ?_) (fun g49 => ?_)
                  · have h := gx_pos g49 h
                    refine lv_aload_n (pc := 86) hx hb d_Mod_transact_86 rfl (lv_at hl 0 rfl) ?_
                    refine va_get (pc := 87) (D := (dC, dI)) (ci := 6) (C := R_Mod) (T := T_Mod) (N := 39) hx hb hts in_Mod hown hK hP x0 (gx_at (mx_lt hk0 (by decide)) (sh_Mod cI cZ b hk0 _)) rfl 0 (by decide) (hts _ tb_601) (fun _ h9 => h9) rfl d_Mod_transact_87 ?_
                    refine lv_bipush (pc := 90) (v := (36 : Int32)) hx hb d_Mod_transact_90 (by decide) ?_
                    refine lv_iload_n (pc := 92) hx hb d_Mod_transact_92 rfl (lv_at hl 1 rfl) ?_
                    refine lv_imul (pc := 93) hx hb d_Mod_transact_93 ?_
                    obtain ⟨g50, h⟩ := gx_if h
                    refine va_iald (pc := 94) hx hb hK hP (x0 + 1) 0 (gx_at (mx_lt (to_Mod_now hk0) (by decide)) (mh_arr cI cZ b (n := 576) (to_Mod_now hk0) (by decide) _)) rfl g50 d_Mod_transact_94 ?_
                    refine lv_i2l (pc := 95) hx hb d_Mod_transact_95 rfl ?_
                    refine lv_iload (pc := 96) hx hb d_Mod_transact_96 (lv_at hl 5 rfl) ?_
                    refine lv_i2l (pc := 98) hx hb d_Mod_transact_98 rfl ?_
                    refine lv_iload (pc := 99) hx hb d_Mod_transact_99 (lv_at hl 6 rfl) ?_
                    refine lv_i2l (pc := 101) hx hb d_Mod_transact_101 rfl ?_
                    refine lv_lmul (pc := 102) hx hb d_Mod_transact_102 ?_
                    refine lv_iload_n (pc := 103) hx hb d_Mod_transact_103 rfl (lv_at hl 3 rfl) ?_
                    refine lv_i2l (pc := 104) hx hb d_Mod_transact_104 rfl ?_
                    refine lv_ladd (pc := 105) hx hb d_Mod_transact_105 ?_
                    refine W.lcmp (pc := 106) hx hb d_Mod_transact_106 ?_
                    refine lv_if_ge (pc := 107) (tgt := 113) hx hb d_Mod_transact_107 (by decide) (fun g51 => ?_) (fun g51 => ?_)
                    · have h := gx_pos g51 h
                      refine lv_aload_n (pc := 113) hx hb d_Mod_transact_113 rfl (lv_at hl 0 rfl) ?_
                      refine lv_iconst (pc := 114) (v := (0 : Int32)) hx hb d_Mod_transact_114 (by decide) ?_
                      obtain ⟨V13, g52, h⟩ := gx_lt h
                      refine gy_put (pc := 115) (D := (dC, dI)) (ci := 6) (C := R_Mod) (T := T_Mod) (NF := 39) (ty := .int) hx hb hts in_Mod t_Mod ty_Mod nm_Mod hown hK hP hS x0 (mx_lt hk0 (by decide)) (sh_Mod cI cZ b hk0 _) rfl 2 (by decide) (hts _ tb_603) (fun _ h9 => h9) rfl (by decide +kernel) rfl rfl (Nat.le_of_ble_eq_true rfl) 2 (sh_Mod cI cZ b hk0 _) d_Mod_transact_115 g52 (fun H locs hP hS => ?_)
                      refine lv_iconst (pc := 118) (v := (0 : Int32)) hx hb d_Mod_transact_118 (by decide) ?_
                      refine lv_istore (pc := 119) (lv' := [(8, .int (0 : Int32)), (0, .ref (b + x0)), (1, .int x1), (2, .int x2), (3, .int x3), (4, .int x4), (5, .int x5), (6, .int x6), (7, .int x7)]) hx hb d_Mod_transact_119 hl (by decide) rfl (fun ls hl => ?_)
                      exact B_121 200000  _ _ _ _ _ _ _ _ hk0 _ _ _ _ (lv_sub hl [1, 2, 3, 4, 5, 6, 7, 0] rfl) hP hS h
                    · have h := gx_neg g51 h
                      refine lv_bipush (pc := 110) (v := (-6 : Int32)) hx hb d_Mod_transact_110 (by decide) ?_
                      exact gx_iret (free := fun _ => True) hx hb hr hlk hP hS d_Mod_transact_112 (by cases h; rfl) (by cases h; rfl)
                  · have h := gx_neg g49 h
                    refine lv_bipush (pc := 83) (v := (-5 : Int32)) hx hb d_Mod_transact_83 (by decide) ?_
                    exact gx_iret (free := fun _ => True) hx hb hr hlk hP hS d_Mod_transact_85 (by cases h; rfl) (by cases h; rfl)
                · have h := gx_pos g48 h
                  refine lv_bipush (pc := 67) (v := (-4 : Int32)) hx hb d_Mod_transact_67 (by decide) ?_
                  exact gx_iret (free := fun _ => True) hx hb hr hlk hP hS d_Mod_transact_69 (by cases h; rfl) (by cases h; rfl)
          · have h := gx_neg g44 h
            refine lv_bipush (pc := 39) (v := (-3 : Int32)) hx hb d_Mod_transact_39 (by decide) ?_
            exact gx_iret (free := fun _ => True) hx hb hr hlk hP hS d_Mod_transact_41 (by cases h; rfl) (by cases h; rfl)
        · have h := gx_neg g43 h
          refine lv_bipush (pc := 31) (v := (-2 : Int32)) hx hb d_Mod_transact_31 (by decide) ?_
          exact gx_iret (free := fun _ => True) hx hb hr hlk hP hS d_Mod_transact_33 (by cases h; rfl) (by cases h; rfl)
  · have h := gx_pos g38 h
    refine lv_iconst (pc := 7) (v := (-1 : Int32)) hx hb d_Mod_transact_7 (by decide) ?_
    exact gx_iret (free := fun _ => True) hx hb hr hlk hP hS d_Mod_transact_8 (by cases h; rfl) (by cases h; rfl)
