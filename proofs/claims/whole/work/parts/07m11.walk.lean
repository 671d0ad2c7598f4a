abbrev rm_Mod_step : Room := { frames := 3, cells := 0, slots := 0, locals := 77 }
def F_Mod_step (x0 : Nat) (V : gx_M) : Option gx_M := (if gx_ib (V x0 19) 8 then (if gx_ib (V x0 19) 8 then (if gx_ib (((36 : Int32) * (V (x0 + 7) (V x0 19).toNatClampNeg)) + (2 : Int32)) 576 then (if (V (x0 + 8) (V x0 19).toNatClampNeg) < (V (x0 + 1) (((36 : Int32) * (V (x0 + 7) (V x0 19).toNatClampNeg)) + (2 : Int32)).toNatClampNeg) then (if gx_ib (V x0 19) 8 then (if gx_ib ((((36 : Int32) * (V (x0 + 7) (V x0 19).toNatClampNeg)) + (3 : Int32)) + (V (x0 + 8) (V x0 19).toNatClampNeg)) 576 then (if gx_ib (V x0 19) 8 then ((F_Mod_pops ((V (x0 + 1) ((((36 : Int32) * (V (x0 + 7) (V x0 19).toNatClampNeg)) + (3 : Int32)) + (V (x0 + 8) (V x0 19).toNatClampNeg)).toNatClampNeg) &&& (31 : Int32)) V).bind fun q1 => (if (V (x0 + 13) (V x0 19).toNatClampNeg) < q1.1 then ((F_Mod_leave x0 (0 : Int32) (0 : Int32) (0 : Int32) q1.2).bind fun q2 => some q2) else ((F_Mod_pops ((V (x0 + 1) ((((36 : Int32) * (V (x0 + 7) (V x0 19).toNatClampNeg)) + (3 : Int32)) + (V (x0 + 8) (V x0 19).toNatClampNeg)).toNatClampNeg) &&& (31 : Int32)) q1.2).bind fun q3 => ((F_Mod_pushes ((V (x0 + 1) ((((36 : Int32) * (V (x0 + 7) (V x0 19).toNatClampNeg)) + (3 : Int32)) + (V (x0 + 8) (V x0 19).toNatClampNeg)).toNatClampNeg) &&& (31 : Int32)) q3.2).bind fun q4 => (if (12 : Int32) < (((V (x0 + 13) (V x0 19).toNatClampNeg) - q3.1) + q4.1) then ((F_Mod_leave x0 (0 : Int32) (0 : Int32) (0 : Int32) q4.2).bind fun q5 => some q5) else (if gx_ib (q4.2 x0 19) 8 then ((F_Mod_cost x0 ((V (x0 + 1) ((((36 : Int32) * (V (x0 + 7) (V x0 19).toNatClampNeg)) + (3 : Int32)) + (V (x0 + 8) (V x0 19).toNatClampNeg)).toNatClampNeg) &&& (31 : Int32)) q4.2).bind fun q6 => (if (q4.2 (x0 + 12) (q4.2 x0 19).toNatClampNeg) < q6.1 then ((F_Mod_leave x0 (0 : Int32) (0 : Int32) (0 : Int32) q6.2).bind fun q7 => some q7) else ((F_Mod_fails x0 ((V (x0 + 1) ((((36 : Int32) * (V (x0 + 7) (V x0 19).toNatClampNeg)) + (3 : Int32)) + (V (x0 + 8) (V x0 19).toNatClampNeg)).toNatClampNeg) &&& (31 : Int32)) ((V (x0 + 1) ((((36 : Int32) * (V (x0 + 7) (V x0 19).toNatClampNeg)) + (3 : Int32)) + (V (x0 + 8) (V x0 19).toNatClampNeg)).toNatClampNeg) >>> ((5 : Int32) &&& 31)) q6.2).bind fun q8 => (if q8.1 = 0 then (if gx_ib (q8.2 x0 19) 8 then ((F_Mod_cost x0 ((V (x0 + 1) ((((36 : Int32) * (V (x0 + 7) (V x0 19).toNatClampNeg)) + (3 : Int32)) + (V (x0 + 8) (V x0 19).toNatClampNeg)).toNatClampNeg) &&& (31 : Int32)) q8.2).bind fun q9 => (if gx_ib (q8.2 x0 19) 8 then (gx_let (gx_u q9.2 (x0 + 12) (q8.2 x0 19).toNatClampNeg ((q8.2 (x0 + 12) (q8.2 x0 19).toNatClampNeg) - q9.1)) fun V1 => (if gx_ib (V1 x0 19) 8 then (if gx_ib (V1 x0 19) 8 then (gx_let (gx_u V1 (x0 + 8) (V1 x0 19).toNatClampNeg ((V1 (x0 + 8) (V1 x0 19).toNatClampNeg) + (1 : Int32))) fun V2 => (if ((V (x0 + 1) ((((36 : Int32) * (V (x0 + 7) (V x0 19).toNatClampNeg)) + (3 : Int32)) + (V (x0 + 8) (V x0 19).toNatClampNeg)).toNatClampNeg) &&& (31 : Int32)) = 0 then (if gx_ib (V2 x0 19) 8 then ((F_Mod_leave x0 (1 : Int32) (0 : Int32) (V2 (x0 + 12) (V2 x0 19).toNatClampNeg) V2).bind fun q16 => some q16) else none) else (if (5 : Int32) ≤ ((V (x0 + 1) ((((36 : Int32) * (V (x0 + 7) (V x0 19).toNatClampNeg)) + (3 : Int32)) + (V (x0 + 8) (V x0 19).toNatClampNeg)).toNatClampNeg) &&& (31 : Int32)) then (if (12 : Int32) ≤ ((V (x0 + 1) ((((36 : Int32) * (V (x0 + 7) (V x0 19).toNatClampNeg)) + (3 : Int32)) + (V (x0 + 8) (V x0 19).toNatClampNeg)).toNatClampNeg) &&& (31 : Int32)) then (if (14 : Int32) ≤ ((V (x0 + 1) ((((36 : Int32) * (V (x0 + 7) (V x0 19).toNatClampNeg)) + (3 : Int32)) + (V (x0 + 8) (V x0 19).toNatClampNeg)).toNatClampNeg) &&& (31 : Int32)) then (if (22 : Int32) ≤ ((V (x0 + 1) ((((36 : Int32) * (V (x0 + 7) (V x0 19).toNatClampNeg)) + (3 : Int32)) + (V (x0 + 8) (V x0 19).toNatClampNeg)).toNatClampNeg) &&& (31 : Int32)) then ((F_Mod_act x0 ((V (x0 + 1) ((((36 : Int32) * (V (x0 + 7) (V x0 19).toNatClampNeg)) + (3 : Int32)) + (V (x0 + 8) (V x0 19).toNatClampNeg)).toNatClampNeg) &&& (31 : Int32)) V2).bind fun q10 => some q10) else ((F_Mod_hold x0 ((V (x0 + 1) ((((36 : Int32) * (V (x0 + 7) (V x0 19).toNatClampNeg)) + (3 : Int32)) + (V (x0 + 8) (V x0 19).toNatClampNeg)).toNatClampNeg) &&& (31 : Int32)) V2).bind fun q11 => some q11)) else ((F_Mod_pop x0 V2).bind fun q12 => (if ((V (x0 + 1) ((((36 : Int32) * (V (x0 + 7) (V x0 19).toNatClampNeg)) + (3 : Int32)) + (V (x0 + 8) (V x0 19).toNatClampNeg)).toNatClampNeg) &&& (31 : Int32)) = (12 : Int32) then (if gx_ib (q12.2 x0 19) 8 then (gx_let (gx_u q12.2 (x0 + 8) (q12.2 x0 19).toNatClampNeg q12.1) fun V3 => some V3) else none) else ((F_Mod_pop x0 q12.2).bind fun q13 => (if q13.1 = 0 then some q13.2 else (if gx_ib (q13.2 x0 19) 8 then (gx_let (gx_u q13.2 (x0 + 8) (q13.2 x0 19).toNatClampNeg q12.1) fun V4 => some V4) else none)))))) else ((F_Mod_reckon x0 ((V (x0 + 1) ((((36 : Int32) * (V (x0 + 7) (V x0 19).toNatClampNeg)) + (3 : Int32)) + (V (x0 + 8) (V x0 19).toNatClampNeg)).toNatClampNeg) &&& (31 : Int32)) V2).bind fun q14 => some q14)) else ((F_Mod_shuffle x0 ((V (x0 + 1) ((((36 : Int32) * (V (x0 + 7) (V x0 19).toNatClampNeg)) + (3 : Int32)) + (V (x0 + 8) (V x0 19).toNatClampNeg)).toNatClampNeg) &&& (31 : Int32)) ((V (x0 + 1) ((((36 : Int32) * (V (x0 + 7) (V x0 19).toNatClampNeg)) + (3 : Int32)) + (V (x0 + 8) (V x0 19).toNatClampNeg)).toNatClampNeg) >>> ((5 : Int32) &&& 31)) V2).bind fun q15 => some q15)))) else none) else none)) else none)) else none) else ((F_Mod_leave x0 (0 : Int32) (0 : Int32) (0 : Int32) q8.2).bind fun q17 => some q17))))) else none)))))) else none) else none) else none) else (if gx_ib (V x0 19) 8 then ((F_Mod_leave x0 (1 : Int32) (0 : Int32) (V (x0 + 12) (V x0 19).toNatClampNeg) V).bind fun q18 => some q18) else none)) else none) else none) else none)
set_option maxRecDepth 100000 in
set_option maxHeartbeats 8000000 in
theorem k_Mod_step (l : Launch) (dC : Nat → ClassId) (dI : Nat → Nat → Nat) (cI cR cZ : ClassId) (b tP tN : Nat) {x0 : Nat} {V : gx_M} {q : gx_M} (hk0 : mx_kd x0 = 6) (h : F_Mod_step x0 V = some q) : mx_C l dC dI cI cR cZ b tP tN y_Mod_step w_Mod_step rm_Mod_step [.ref (b + x0)] V none q := by
  refine gx_start (cc := b_Mod_step) (maxL := 7) (ret := rt_Mod_step) (by decide) rfl (Nat.le_of_ble_eq_true rfl) ?_
  intro p e s m args below meth c ls hx hb hr hts hown hlk hml hl hP hK hX hS
  have hts : ∀ w ∈ cx_tb, w.before args s = true := fun w hw => hts w (List.mem_cons_of_mem _ hw)
  have hown : s.vm.findClass "GasLedgerModel" = some m.cls := hown
  have hl : lv_has ls 7 [(0, .ref (b + x0))] := hl
  unfold F_Mod_step at h
  refine lv_aload_n (pc := 0) hx hb d_Mod_step_0 rfl (lv_at hl 0 rfl) ?_
  refine va_get (pc := 1) (D := (dC, dI)) (ci := 6) (C := R_Mod) (T := T_Mod) (N := 39) hx hb hts in_Mod hown hK hP x0 (gx_at (mx_lt hk0 (by decide)) (sh_Mod cI cZ b hk0 _)) rfl 22 (by decide) (hts _ tb_623) (fun _ h9 => h9) rfl d_Mod_step_1 ?_
  refine lv_aload_n (pc := 4) hx hb d_Mod_step_4 rfl (lv_at hl 0 rfl) ?_
  refine va_get (pc := 5) (D := (dC, dI)) (ci := 6) (C := R_Mod) (T := T_Mod) (N := 39) hx hb hts in_Mod hown hK hP x0 (gx_at (mx_lt hk0 (by decide)) (sh_Mod cI cZ b hk0 _)) rfl 19 (by decide) (hts _ tb_620) (fun _ h9 => h9) rfl d_Mod_step_5 ?_
  obtain ⟨g1, h⟩ := gx_if h
  refine va_iald (pc := 8) hx hb hK hP (x0 + 8) 0 (gx_at (mx_lt (to_Mod_place hk0) (by decide)) (mh_arr cI cZ b (n := 8) (to_Mod_place hk0) (by decide) _)) rfl g1 d_Mod_step_8 ?_
  refine lv_istore_n (pc := 9) (lv' := [(1, .int (V (x0 + 8) (V x0 19).toNatClampNeg)), (0, .ref (b + x0))]) hx hb d_Mod_step_9 rfl hl (by decide) rfl (fun ls hl => ?_)
  refine lv_iload_n (pc := 10) hx hb d_Mod_step_10 rfl (lv_at hl 0 rfl) ?_
  refine lv_aload_n (pc := 11) hx hb d_Mod_step_11 rfl (lv_at hl 1 rfl) ?_
  refine va_get (pc := 12) (D := (dC, dI)) (ci := 6) (C := R_Mod) (T := T_Mod) (N := 39) hx hb hts in_Mod hown hK hP x0 (gx_at (mx_lt hk0 (by decide)) (sh_Mod cI cZ b hk0 _)) rfl 0 (by decide) (hts _ tb_601) (fun _ h9 => h9) rfl d_Mod_step_12 ?_
  refine lv_bipush (pc := 15) (v := (36 : Int32)) hx hb d_Mod_step_15 (by decide) ?_
  refine lv_aload_n (pc := 17) hx hb d_Mod_step_17 rfl (lv_at hl 1 rfl) ?_
  refine va_get (pc := 18) (D := (dC, dI)) (ci := 6) (C := R_Mod) (T := T_Mod) (N := 39) hx hb hts in_Mod hown hK hP x0 (gx_at (mx_lt hk0 (by decide)) (sh_Mod cI cZ b hk0 _)) rfl 21 (by decide) (hts _ tb_622) (fun _ h9 => h9) rfl d_Mod_step_18 ?_
  refine lv_aload_n (pc := 21) hx hb d_Mod_step_21 rfl (lv_at hl 1 rfl) ?_
  refine va_get (pc := 22) (D := (dC, dI)) (ci := 6) (C := R_Mod) (T := T_Mod) (N := 39) hx hb hts in_Mod hown hK hP x0 (gx_at (mx_lt hk0 (by decide)) (sh_Mod cI cZ b hk0 _)) rfl 19 (by decide) (hts _ tb_620) (fun _ h9 => h9) rfl d_Mod_step_22 ?_
  obtain ⟨g2, h⟩ := gx_if h
  refine va_iald (pc := 25) hx hb hK hP (x0 + 7) 0 (gx_at (mx_lt (to_Mod_runs hk0) (by decide)) (mh_arr cI cZ b (n := 8) (to_Mod_runs hk0) (by decide) _)) rfl g2 d_Mod_step_25 ?_
  refine lv_imul (pc := 26) hx hb d_Mod_step_26 ?_
  refine lv_iconst (pc := 27) (v := (2 : Int32)) hx hb d_Mod_step_27 (by decide) ?_
  refine lv_iadd (pc := 28) hx hb d_Mod_step_28 ?_
  obtain ⟨g3, h⟩ := gx_if h
  refine va_iald (pc := 29) hx hb hK hP (x0 + 1) 0 (gx_at (mx_lt (to_Mod_now hk0) (by decide)) (mh_arr cI cZ b (n := 576) (to_Mod_now hk0) (by decide) _)) rfl g3 d_Mod_step_29 ?_
  refine lv_icmp_lt (pc := 30) (tgt := 49) hx hb d_Mod_step_30 (by decide) (fun g4 => ?_) (fun g4 => ?_)
  · have h := gx_pos g4 h
    refine lv_aload_n (pc := 49) hx hb d_Mod_step_49 rfl (lv_at hl 1 rfl) ?_
    refine va_get (pc := 50) (D := (dC, dI)) (ci := 6) (C := R_Mod) (T := T_Mod) (N := 39) hx hb hts in_Mod hown hK hP x0 (gx_at (mx_lt hk0 (by decide)) (sh_Mod cI cZ b hk0 _)) rfl 0 (by decide) (hts _ tb_601) (fun _ h9 => h9) rfl d_Mod_step_50 ?_
    refine lv_bipush (pc := 53) (v := (36 : Int32)) hx hb d_Mod_step_53 (by decide) ?_
    refine lv_aload_n (pc := 55) hx hb d_Mod_step_55 rfl (lv_at hl 1 rfl) ?_
    refine va_get (pc := 56) (D := (dC, dI)) (ci := 6) (C := R_Mod) (T := T_Mod) (N := 39) hx hb hts in_Mod hown hK hP x0 (gx_at (mx_lt hk0 (by decide)) (sh_Mod cI cZ b hk0 _)) rfl 21 (by decide) (hts _ tb_622) (fun _ h9 => h9) rfl d_Mod_step_56 ?_
    refine lv_aload_n (pc := 59) hx hb d_Mod_step_59 rfl (lv_at hl 1 rfl) ?_
    refine va_get (pc := 60) (D := (dC, dI)) (ci := 6) (C := R_Mod) (T := T_Mod) (N := 39) hx hb hts in_Mod hown hK hP x0 (gx_at (mx_lt hk0 (by decide)) (sh_Mod cI cZ b hk0 _)) rfl 19 (by decide) (hts _ tb_620) (fun _ h9 => h9) rfl d_Mod_step_60 ?_
    obtain ⟨g5, h⟩ := gx_if h
    refine va_iald (pc := 63) hx hb hK hP (x0 + 7) 0 (gx_at (mx_lt (to_Mod_runs hk0) (by decide)) (mh_arr cI cZ b (n := 8) (to_Mod_runs hk0) (by decide) _)) rfl g5 d_Mod_step_63 ?_
    refine lv_imul (pc := 64) hx hb d_Mod_step_64 ?_
    refine lv_iconst (pc := 65) (v := (3 : Int32)) hx hb d_Mod_step_65 (by decide) ?_
    refine lv_iadd (pc := 66) hx hb d_Mod_step_66 ?_
    refine lv_iload_n (pc := 67) hx hb d_Mod_step_67 rfl (lv_at hl 0 rfl) ?_
    refine lv_iadd (pc := 68) hx hb d_Mod_step_68 ?_
    obtain ⟨g6, h⟩ := gx_if h
    refine va_iald (pc := 69) hx hb hK hP (x0 + 1) 0 (gx_at (mx_lt (to_Mod_now hk0) (by decide)) (mh_arr cI cZ b (n := 576) (to_Mod_now hk0) (by decide) _)) rfl g6 d_Mod_step_69 ?_
    refine lv_istore_n (pc := 70) (lv' := [(2, .int (V (x0 + 1) ((((36 : Int32) * (V (x0 + 7) (V x0 19).toNatClampNeg)) + (3 : Int32)) + (V (x0 + 8) (V x0 19).toNatClampNeg)).toNatClampNeg)), (1, .int (V (x0 + 8) (V x0 19).toNatClampNeg)), (0, .ref (b + x0))]) hx hb d_Mod_step_70 rfl hl (by decide) rfl (fun ls hl => ?_)
    refine lv_iload_n (pc := 71) hx hb d_Mod_step_71 rfl (lv_at hl 0 rfl) ?_
    refine lv_bipush (pc := 72) (v := (31 : Int32)) hx hb d_Mod_step_72 (by decide) ?_
    refine lv_iand (pc := 74) hx hb d_Mod_step_74 ?_
    refine lv_istore_n (pc := 75) (lv' := [(3, .int ((V (x0 + 1) ((((36 : Int32) * (V (x0 + 7) (V x0 19).toNatClampNeg)) + (3 : Int32)) + (V (x0 + 8) (V x0 19).toNatClampNeg)).toNatClampNeg) &&& (31 : Int32))), (2, .int (V (x0 + 1) ((((36 : Int32) * (V (x0 + 7) (V x0 19).toNatClampNeg)) + (3 : Int32)) + (V (x0 + 8) (V x0 19).toNatClampNeg)).toNatClampNeg)), (1, .int (V (x0 + 8) (V x0 19).toNatClampNeg)), (0, .ref (b + x0))]) hx hb d_Mod_step_75 rfl hl (by decide) rfl (fun ls hl => ?_)
    refine lv_iload_n (pc := 76) hx hb d_Mod_step_76 rfl (lv_at hl 1 rfl) ?_
    refine lv_iconst (pc := 77) (v := (5 : Int32)) hx hb d_Mod_step_77 (by decide) ?_
    refine lv_ishr (pc := 78) hx hb d_Mod_step_78 ?_
    refine lv_istore (pc := 79) (lv' := [(4, .int ((V (x0 + 1) ((((36 : Int32) * (V (x0 + 7) (V x0 19).toNatClampNeg)) + (3 : Int32)) + (V (x0 + 8) (V x0 19).toNatClampNeg)).toNatClampNeg) >>> ((5 : Int32) &&& 31))), (3, .int ((V (x0 + 1) ((((36 : Int32) * (V (x0 + 7) (V x0 19).toNatClampNeg)) + (3 : Int32)) + (V (x0 + 8) (V x0 19).toNatClampNeg)).toNatClampNeg) &&& (31 : Int32))), (2, .int (V (x0 + 1) ((((36 : Int32) * (V (x0 + 7) (V x0 19).toNatClampNeg)) + (3 : Int32)) + (V (x0 + 8) (V x0 19).toNatClampNeg)).toNatClampNeg)), (1, .int (V (x0 + 8) (V x0 19).toNatClampNeg)), (0, .ref (b + x0))]) hx hb d_Mod_step_79 hl (by decide) rfl (fun ls hl => ?_)
    refine lv_aload_n (pc := 81) hx hb d_Mod_step_81 rfl (lv_at hl 4 rfl) ?_
    refine va_get (pc := 82) (D := (dC, dI)) (ci := 6) (C := R_Mod) (T := T_Mod) (N := 39) hx hb hts in_Mod hown hK hP x0 (gx_at (mx_lt hk0 (by decide)) (sh_Mod cI cZ b hk0 _)) rfl 27 (by decide) (hts _ tb_628) (fun _ h9 => h9) rfl d_Mod_step_82 ?_
    refine lv_aload_n (pc := 85) hx hb d_Mod_step_85 rfl (lv_at hl 4 rfl) ?_
    refine va_get (pc := 86) (D := (dC, dI)) (ci := 6) (C := R_Mod) (T := T_Mod) (N := 39) hx hb hts in_Mod hown hK hP x0 (gx_at (mx_lt hk0 (by decide)) (sh_Mod cI cZ b hk0 _)) rfl 19 (by decide) (hts _ tb_620) (fun _ h9 => h9) rfl d_Mod_step_86 ?_
    obtain ⟨g7, h⟩ := gx_if h
    refine va_iald (pc := 89) hx hb hK hP (x0 + 13) 0 (gx_at (mx_lt (to_Mod_size hk0) (by decide)) (mh_arr cI cZ b (n := 8) (to_Mod_size hk0) (by decide) _)) rfl g7 d_Mod_step_89 ?_
    refine lv_istore (pc := 90) (lv' := [(5, .int (V (x0 + 13) (V x0 19).toNatClampNeg)), (4, .int ((V (x0 + 1) ((((36 : Int32) * (V (x0 + 7) (V x0 19).toNatClampNeg)) + (3 : Int32)) + (V (x0 + 8) (V x0 19).toNatClampNeg)).toNatClampNeg) >>> ((5 : Int32) &&& 31))), (3, .int ((V (x0 + 1) ((((36 : Int32) * (V (x0 + 7) (V x0 19).toNatClampNeg)) + (3 : Int32)) + (V (x0 + 8) (V x0 19).toNatClampNeg)).toNatClampNeg) &&& (31 : Int32))), (2, .int (V (x0 + 1) ((((36 : Int32) * (V (x0 + 7) (V x0 19).toNatClampNeg)) + (3 : Int32)) + (V (x0 + 8) (V x0 19).toNatClampNeg)).toNatClampNeg)), (1, .int (V (x0 + 8) (V x0 19).toNatClampNeg)), (0, .ref (b + x0))]) hx hb d_Mod_step_90 hl (by decide) rfl (fun ls hl => ?_)
    refine lv_iload (pc := 92) hx hb d_Mod_step_92 (lv_at hl 0 rfl) ?_
    refine lv_iload_n (pc := 94) hx hb d_Mod_step_94 rfl (lv_at hl 2 rfl) ?_
    obtain ⟨q1, g8, h⟩ := gx_bd h
    refine gx_ci (pc := 95) (va_runS (As := [.int ((V (x0 + 1) ((((36 : Int32) * (V (x0 + 7) (V x0 19).toNatClampNeg)) + (3 : Int32)) + (V (x0 + 8) (V x0 19).toNatClampNeg)).toNatClampNeg) &&& (31 : Int32))]) (rest := [.int (V (x0 + 13) (V x0 19).toNatClampNeg)]) ⟨hx, hb, hml, hown, hts⟩ (k_Mod_pops l dC dI cI cR cZ b tP tN  g8) (gx_cs 1 hts cd_Mod_pops tb_50 tb_797 tb_798 rfl rfl ⟨by decide, by decide, by decide +kernel⟩ ⟨Nat.le_of_ble_eq_true rfl, Nat.le_of_ble_eq_true rfl⟩) (gy_pre (mx_XX b) hX hK hP hS) rfl rfl hl.1 rfl (lv_room (Nat.le_of_ble_eq_true rfl)) d_Mod_step_95 ⟨Nat.zero_le _, Nat.zero_le _⟩) hS (fun H locs hP hS => ?_)
    refine lv_icmp_lt (pc := 98) (tgt := 145) hx hb d_Mod_step_98 (by decide) (fun g9 => ?_) (fun g9 => ?_)
    · have h := gx_pos g9 h
      refine lv_aload_n (pc := 145) hx hb d_Mod_step_145 rfl (lv_at hl 5 rfl) ?_
      refine lv_iconst (pc := 146) (v := (0 : Int32)) hx hb d_Mod_step_146 (by decide) ?_
      refine lv_iconst (pc := 147) (v := (0 : Int32)) hx hb d_Mod_step_147 (by decide) ?_
      refine lv_iconst (pc := 148) (v := (0 : Int32)) hx hb d_Mod_step_148 (by decide) ?_
      obtain ⟨q2, g10, h⟩ := gx_bd h
      refine gx_cv (pc := 149) (va_runV (C := "GasLedgerModel") (As := [.int (0 : Int32), .int (0 : Int32), .int (0 : Int32)]) (rest := []) ⟨hx, hb, hml, hown, hts⟩ (k_Mod_leave l dC dI cI cR cZ b tP tN hk0 g10) (gx_cw 3 hts cd_Mod_leave tb_50 tb_789 tb_791 tb_29 rfl rfl ⟨by decide, by decide, by decide +kernel⟩ ⟨Nat.le_of_ble_eq_true rfl, Nat.le_of_ble_eq_true rfl⟩) (gy_preV (mx_XX b) hX hK hP hS (mx_lt hk0 (by decide)) (sh_Mod cI cZ b hk0 _) rfl) rfl rfl hl.1 rfl (lv_room (Nat.le_of_ble_eq_true rfl)) d_Mod_step_149 ⟨Nat.zero_le _, Nat.zero_le _⟩) hS (fun H locs hP hS => ?_)
      exact gx_vret hx hb hr hlk hP hS d_Mod_step_152 (by cases h; rfl) (by cases h; rfl)
    · have h := gx_neg g9 h
      refine lv_iload (pc := 101) hx hb d_Mod_step_101 (lv_at hl 0 rfl) ?_
      refine lv_iload_n (pc := 103) hx hb d_Mod_step_103 rfl (lv_at hl 2 rfl) ?_
      obtain ⟨q3, g11, h⟩ := gx_bd h
      refine gx_ci (pc := 104) (va_runS (As := [.int ((V (x0 + 1) ((((36 : Int32) * (V (x0 + 7) (V x0 19).toNatClampNeg)) + (3 : Int32)) + (V (x0 + 8) (V x0 19).toNatClampNeg)).toNatClampNeg) &&& (31 : Int32))]) (rest := [.int (V (x0 + 13) (V x0 19).toNatClampNeg)]) ⟨hx, hb, hml, hown, hts⟩ (k_Mod_pops l dC dI cI cR cZ b tP tN  g11) (gx_cs 1 hts cd_Mod_pops tb_50 tb_797 tb_798 rfl rfl ⟨by decide, by decide, by decide +kernel⟩ ⟨Nat.le_of_ble_eq_true rfl, Nat.le_of_ble_eq_true rfl⟩) (gy_pre (mx_XX b) hX hK hP hS) rfl rfl hl.1 rfl (lv_room (Nat.le_of_ble_eq_true rfl)) d_Mod_step_104 ⟨Nat.zero_le _, Nat.zero_le _⟩) hS (fun H locs hP hS => ?_)
      refine lv_isub (pc := 107) hx hb d_Mod_step_107 ?_
      refine lv_iload_n (pc := 108) hx hb d_Mod_step_108 rfl (lv_at hl 2 rfl) ?_
      obtain ⟨q4, g12, h⟩ := gx_bd h
      refine gx_ci (pc := 109) (va_runS (As := [.int ((V (x0 + 1) ((((36 : Int32) * (V (x0 + 7) (V x0 19).toNatClampNeg)) + (3 : Int32)) + (V (x0 + 8) (V x0 19).toNatClampNeg)).toNatClampNeg) &&& (31 : Int32))]) (rest := [.int ((V (x0 + 13) (V x0 19).toNatClampNeg) - q3.1)]) ⟨hx, hb, hml, hown, hts⟩ (k_Mod_pushes l dC dI cI cR cZ b tP tN  g12) (gx_cs 1 hts cd_Mod_pushes tb_50 tb_800 tb_801 rfl rfl ⟨by decide, by decide, by decide +kernel⟩ ⟨Nat.le_of_ble_eq_true rfl, Nat.le_of_ble_eq_true rfl⟩) (gy_pre (mx_XX b) hX hK hP hS) rfl rfl hl.1 rfl (lv_room (Nat.le_of_ble_eq_true rfl)) d_Mod_step_109 ⟨Nat.zero_le _, Nat.zero_le _⟩) hS (fun H locs hP hS => ?_)
      refine lv_iadd (pc := 112) hx hb d_Mod_step_112 ?_
      refine lv_bipush (pc := 113) (v := (12 : Int32)) hx hb d_Mod_step_113 (by decide) ?_
      refine lv_icmp_gt (pc := 115) (tgt := 145) hx hb d_Mod_step_115 (by decide) (fun g13 => ?_) (fun g13 => ?_)
      · have h := gx_pos g13 h
        refine lv_aload_n (pc := 145) hx hb d_Mod_step_145 rfl (lv_at hl 5 rfl) ?_
        refine lv_iconst (pc := 146) (v := (0 : Int32)) hx hb d_Mod_step_146 (by decide) ?_
        refine lv_iconst (pc := 147) (v := (0 : Int32)) hx hb d_Mod_step_147 (by decide) ?_
        refine lv_iconst (pc := 148) (v := (0 : Int32)) hx hb d_Mod_step_148 (by decide) ?_
        obtain ⟨q5, g14, h⟩ := gx_bd h
        refine gx_cv (pc := 149) (va_runV (C := "GasLedgerModel") (As := [.int (0 : Int32), .int (0 : Int32), .int (0 : Int32)]) (rest := []) ⟨hx, hb, hml, hown, hts⟩ (k_Mod_leave l dC dI cI cR cZ b tP tN hk0 g14) (gx_cw 3 hts cd_Mod_leave tb_50 tb_789 tb_791 tb_29 rfl rfl ⟨by decide, by decide, by decide +kernel⟩ ⟨Nat.le_of_ble_eq_true rfl, Nat.le_of_ble_eq_true rfl⟩) (gy_preV (mx_XX b) hX hK hP hS (mx_lt hk0 (by decide)) (sh_Mod cI cZ b hk0 _) rfl) rfl rfl hl.1 rfl (lv_room (Nat.le_of_ble_eq_true rfl)) d_Mod_step_149 ⟨Nat.zero_le _, Nat.zero_le _⟩) hS (fun H locs hP hS => ?_)
        exact gx_vret hx hb hr hlk hP hS d_Mod_step_152 (by cases h; rfl) (by cases h; rfl)
      · have h := gx_neg g13 h
        refine lv_aload_n (pc := 118) hx hb d_Mod_step_118 rfl (lv_at hl 5 rfl) ?_
        refine va_get (pc := 119) (D := (dC, dI)) (ci := 6) (C := R_Mod) (T := T_Mod) (N := 39) hx hb hts in_Mod hown hK hP x0 (gx_at (mx_lt hk0 (by decide)) (sh_Mod cI cZ b hk0 _)) rfl 26 (by decide) (hts _ tb_627) (fun _ h9 => h9) rfl d_Mod_step_119 ?_
        refine lv_aload_n (pc := 122) hx hb d_Mod_step_122 rfl (lv_at hl 5 rfl) ?_
        refine va_get (pc := 123) (D := (dC, dI)) (ci := 6) (C := R_Mod) (T := T_Mod) (N := 39) hx hb hts in_Mod hown hK hP x0 (gx_at (mx_lt hk0 (by decide)) (sh_Mod cI cZ b hk0 _)) rfl 19 (by decide) (hts _ tb_620) (fun _ h9 => h9) rfl d_Mod_step_123 ?_
        obtain ⟨g15, h⟩ := gx_if h
        refine va_iald (pc := 126) hx hb hK hP (x0 + 12) 0 (gx_at (mx_lt (to_Mod_gas hk0) (by decide)) (mh_arr cI cZ b (n := 8) (to_Mod_gas hk0) (by decide) _)) rfl g15 d_Mod_step_126 ?_
        refine lv_aload_n (pc := 127) hx hb d_Mod_step_127 rfl (lv_at hl 5 rfl) ?_
        refine lv_iload_n (pc := 128) hx hb d_Mod_step_128 rfl (lv_at hl 2 rfl) ?_
        obtain ⟨q6, g16, h⟩ := gx_bd h
        refine gx_ci (pc := 129) (va_runV (C := "GasLedgerModel") (As := [.int ((V (x0 + 1) ((((36 : Int32) * (V (x0 + 7) (V x0 19).toNatClampNeg)) + (3 : Int32)) + (V (x0 + 8) (V x0 19).toNatClampNeg)).toNatClampNeg) &&& (31 : Int32))]) (rest := [.int (q4.2 (x0 + 12) (q4.2 x0 19).toNatClampNeg)]) ⟨hx, hb, hml, hown, hts⟩ (k_Mod_cost l dC dI cI cR cZ b tP tN hk0 g16) (gx_cw 1 hts cd_Mod_cost tb_50 tb_803 tb_805 tb_31 rfl rfl ⟨by decide, by decide, by decide +kernel⟩ ⟨Nat.le_of_ble_eq_true rfl, Nat.le_of_ble_eq_true rfl⟩) (gy_preV (mx_XX b) hX hK hP hS (mx_lt hk0 (by decide)) (sh_Mod cI cZ b hk0 _) rfl) rfl rfl hl.1 rfl (lv_room (Nat.le_of_ble_eq_true rfl)) d_Mod_step_129 ⟨Nat.zero_le _, Nat.zero_le _⟩) hS (fun H locs hP hS => ?_)
        refine lv_icmp_lt (pc := 132) (tgt := 145) hx hb d_Mod_step_132 (by decide) (fun g17 => ?_) (fun g17 => ?_)
        · have h := gx_pos g17 h
          refine lv_aload_n (pc := 145) hx hb d_Mod_step_145 rfl (lv_at hl 5 rfl) ?_
          refine lv_iconst (pc := 146) (v := (0 : Int32)) hx hb d_Mod_step_146 (by decide) ?_
          refine lv_iconst (pc := 147) (v := (0 : Int32)) hx hb d_Mod_step_147 (by decide) ?_
          refine lv_iconst (pc := 148) (v := (0 : Int32)) hx hb d_Mod_step_148 (by decide) ?_
          obtain ⟨q7, g18, h⟩ := gx_bd h
          refine gx_cv (pc := 149) (va_runV (C := "GasLedgerModel") (As := [.int (0 : Int32), .int (0 : Int32), .int (0 : Int32)]) (rest := []) ⟨hx, hb, hml, hown, hts⟩ (k_Mod_leave l dC dI cI cR cZ b tP tN hk0 g18) (gx_cw 3 hts cd_Mod_leave tb_50 tb_789 tb_791 tb_29 rfl rfl ⟨by decide, by decide, by decide +kernel⟩ ⟨Nat.le_of_ble_eq_true rfl, Nat.le_of_ble_eq_true rfl⟩) (gy_preV (mx_XX b) hX hK hP hS (mx_lt hk0 (by decide)) (sh_Mod cI cZ b hk0 _) rfl) rfl rfl hl.1 rfl (lv_room (Nat.le_of_ble_eq_true rfl)) d_Mod_step_149 ⟨Nat.zero_le _, Nat.zero_le _⟩) hS (fun H locs hP hS => ?_)
          exact gx_vret hx hb hr hlk hP hS d_Mod_step_152 (by cases h; rfl) (by cases h; rfl)
        · have h := gx_neg g17 h
          refine lv_aload_n (pc := 135) hx hb d_Mod_step_135 rfl (lv_at hl 5 rfl) ?_
          refine lv_iload_n (pc := 136) hx hb d_Mod_step_136 rfl (lv_at hl 2 rfl) ?_
          refine lv_iload (pc := 137) hx hb d_Mod_step_137 (lv_at hl 1 rfl) ?_
          obtain ⟨q8, g19, h⟩ := gx_bd h
          refine gx_ci (pc := 139) (va_runV (C := "GasLedgerModel") (As := [.int ((V (x0 + 1) ((((36 : Int32) * (V (x0 + 7) (V x0 19).toNatClampNeg)) + (3 : Int32)) + (V (x0 + 8) (V x0 19).toNatClampNeg)).toNatClampNeg) &&& (31 : Int32)), .int ((V (x0 + 1) ((((36 : Int32) * (V (x0 + 7) (V x0 19).toNatClampNeg)) + (3 : Int32)) + (V (x0 + 8) (V x0 19).toNatClampNeg)).toNatClampNeg) >>> ((5 : Int32) &&& 31))]) (rest := []) ⟨hx, hb, hml, hown, hts⟩ (k_Mod_fails l dC dI cI cR cZ b tP tN hk0 g19) (gx_cw 2 hts cd_Mod_fails tb_50 tb_811 tb_813 tb_33 rfl rfl ⟨by decide, by decide, by decide +kernel⟩ ⟨Nat.le_of_ble_eq_true rfl, Nat.le_of_ble_eq_true rfl⟩) (gy_preV (mx_XX b) hX hK hP hS (mx_lt hk0 (by decide)) (sh_Mod cI cZ b hk0 _) rfl) rfl rfl hl.1 rfl (lv_room (Nat.le_of_ble_eq_true rfl)) d_Mod_step_139 ⟨Nat.zero_le _, Nat.zero_le _⟩) hS (fun H locs hP hS => ?_)
          refine lv_if_eq (pc := 142) (tgt := 153) hx hb d_Mod_step_142 (by decide) (fun g20 => ?_) (fun g20 => ?_)
          · have h := gx_pos g20 h
            refine lv_aload_n (pc := 153) hx hb d_Mod_step_153 rfl (lv_at hl 5 rfl) ?_
            refine va_get (pc := 154) (D := (dC, dI)) (ci := 6) (C := R_Mod) (T := T_Mod) (N := 39) hx hb hts in_Mod hown hK hP x0 (gx_at (mx_lt hk0 (by decide)) (sh_Mod cI cZ b hk0 _)) rfl 26 (by decide) (hts _ tb_627) (fun _ h9 => h9) rfl d_Mod_step_154 ?_
            refine lv_aload_n (pc := 157) hx hb d_Mod_step_157 rfl (lv_at hl 5 rfl) ?_
            refine va_get (pc := 158) (D := (dC, dI)) (ci := 6) (C := R_Mod) (T := T_Mod) (N := 39) hx hb hts in_Mod hown hK hP x0 (gx_at (mx_lt hk0 (by decide)) (sh_Mod cI cZ b hk0 _)) rfl 19 (by decide) (hts _ tb_620) (fun _ h9 => h9) rfl d_Mod_step_158 ?_
            refine lv_dup2_11 (pc := 161) hx hb d_Mod_step_161 rfl rfl ?_
            obtain ⟨g21, h⟩ := gx_if h
            refine va_iald (pc := 162) hx hb hK hP (x0 + 12) 0 (gx_at (mx_lt (to_Mod_gas hk0) (by decide)) (mh_arr cI cZ b (n := 8) (to_Mod_gas hk0) (by decide) _)) rfl g21 d_Mod_step_162 ?_
            refine lv_aload_n (pc := 163) hx hb d_Mod_step_163 rfl (lv_at hl 5 rfl) ?_
            refine lv_iload_n (pc := 164) hx hb d_Mod_step_164 rfl (lv_at hl 2 rfl) ?_
            obtain ⟨q9, g22, h⟩ := gx_bd h
            refine gx_ci (pc := 165) (va_runV (C := "GasLedgerModel") (As := [.int ((V (x0 + 1) ((((36 : Int32) * (V (x0 + 7) (V x0 19).toNatClampNeg)) + (3 : Int32)) + (V (x0 + 8) (V x0 19).toNatClampNeg)).toNatClampNeg) &&& (31 : Int32))]) (rest := [.int (q8.2 (x0 + 12) (q8.2 x0 19).toNatClampNeg), .int (q8.2 x0 19), .ref (b + (x0 + 12))]) ⟨hx, hb, hml, hown, hts⟩ (k_Mod_cost l dC dI cI cR cZ b tP tN hk0 g22) (gx_cw 1 hts cd_Mod_cost tb_50 tb_803 tb_805 tb_31 rfl rfl ⟨by decide, by decide, by decide +kernel⟩ ⟨Nat.le_of_ble_eq_true rfl, Nat.le_of_ble_eq_true rfl⟩) (gy_preV (mx_XX b) hX hK hP hS (mx_lt hk0 (by decide)) (sh_Mod cI cZ b hk0 _) rfl) rfl rfl hl.1 rfl (lv_room (Nat.le_of_ble_eq_true rfl)) d_Mod_step_165 ⟨Nat.zero_le _, Nat.zero_le _⟩) hS (fun H locs hP hS => ?_)
            refine lv_isub (pc := 168) hx hb d_Mod_step_168 ?_
            obtain ⟨g23, h⟩ := gx_if h
            obtain ⟨V1, g24, h⟩ := gx_lt h
            refine gx_asi (pc := 169) hx hb hK hP hS (x0 + 12) 0 (mx_lt (to_Mod_gas hk0) (by decide)) (fun _ => mh_arr cI cZ b (n := 8) (to_Mod_gas hk0) (by decide) _) rfl g23 d_Mod_step_169 g24 (fun H locs hP hS => ?_)
            refine lv_aload_n (pc := 170) hx hb d_Mod_step_170 rfl (lv_at hl 5 rfl) ?_
            refine va_get (pc := 171) (D := (dC, dI)) (ci := 6) (C := R_Mod) (T := T_Mod) (N := 39) hx hb hts in_Mod hown hK hP x0 (gx_at (mx_lt hk0 (by decide)) (sh_Mod cI cZ b hk0 _)) rfl 22 (by decide) (hts _ tb_623) (fun _ h9 => h9) rfl d_Mod_step_171 ?_
            refine lv_aload_n (pc := 174) hx hb d_Mod_step_174 rfl (lv_at hl 5 rfl) ?_
            refine va_get (pc := 175) (D := (dC, dI)) (ci := 6) (C := R_Mod) (T := T_Mod) (N := 39) hx hb hts in_Mod hown hK hP x0 (gx_at (mx_lt hk0 (by decide)) (sh_Mod cI cZ b hk0 _)) rfl 19 (by decide) (hts _ tb_620) (fun _ h9 => h9) rfl d_Mod_step_175 ?_
            refine lv_dup2_11 (pc := 178) hx hb d_Mod_step_178 rfl rfl ?_
            obtain ⟨g25, h⟩ := gx_if h
            refine va_iald (pc := 179) hx hb hK hP (x0 + 8) 0 (gx_at (mx_lt (to_Mod_place hk0) (by decide)) (mh_arr cI cZ b (n := 8) (to_Mod_place hk0) (by decide) _)) rfl g25 d_Mod_step_179 ?_
            refine lv_iconst (pc := 180) (v := (1 : Int32)) hx hb d_Mod_step_180 (by decide) ?_
            refine lv_iadd (pc := 181) hx hb d_Mod_step_181 ?_
            obtain ⟨g26, h⟩ := gx_if h
            obtain ⟨V2, g27, h⟩ := gx_lt h
            refine gx_asi (pc := 182) hx hb hK hP hS (x0 + 8) 0 (mx_lt (to_Mod_place hk0) (by decide)) (fun _ => mh_arr cI cZ b (n := 8) (to_Mod_place hk0) (by decide) _) rfl g26 d_Mod_step_182 g27 (fun H locs hP hS => ?_)
            refine lv_iload_n (pc := 183) hx hb d_Mod_step_183 rfl (lv_at hl 2 rfl) ?_
            refine lv_if_ne (pc := 184) (tgt := 205) hx hb d_Mod_step_184 (by decide) (fun g28 => ?_) (fun g28 => ?_)
            · have h := gx_neg g28 h
              refine lv_iload_n (pc := 205) hx hb d_Mod_step_205 rfl (lv_at hl 2 rfl) ?_
              refine lv_iconst (pc := 206) (v := (5 : Int32)) hx hb d_Mod_step_206 (by decide) ?_
              refine lv_icmp_ge (pc := 207) (tgt := 220) hx hb d_Mod_step_207 (by decide) (fun g29 => ?_) (fun g29 => ?_)
              · have h := gx_pos g29 h
                refine lv_iload_n (pc := 220) hx hb d_Mod_step_220 rfl (lv_at hl 2 rfl) ?_
                refine lv_bipush (pc := 221) (v := (12 : Int32)) hx hb d_Mod_step_221 (by decide) ?_
                refine lv_icmp_ge (pc := 223) (tgt := 234) hx hb d_Mod_step_223 (by decide) (fun g30 => ?_) (fun g30 => ?_)
                · have h := gx_pos g30 h
                  refine lv_iload_n (pc := 234) hx hb d_Mod_step_234 rfl (lv_at hl 2 rfl) ?_
                  refine lv_bipush (pc := 235) (v := (14 : Int32)) hx hb d_Mod_step_235 (by decide) ?_
                  refine lv_icmp_ge (pc := 237) (tgt := 273) hx hb d_Mod_step_237 (by decide) (fun g31 => ?_) (fun g31 => ?_)
                  · have h := gx_pos g31 h
                    refine lv_iload_n (pc := 273) hx hb d_Mod_step_273 rfl (lv_at hl 2 rfl) ?_
                    refine lv_bipush (pc := 274) (v := (22 : Int32)) hx hb d_Mod_step_274 (by decide) ?_
                    refine lv_icmp_ge (pc := 276) (tgt := 287) hx hb d_Mod_step_276 (by decide) (fun g32 => ?_) (fun g32 => ?_)
                    · have h := gx_pos g32 h
                      refine lv_aload_n (pc := 287) hx hb d_Mod_step_287 rfl (lv_at hl 5 rfl) ?_
                      refine lv_iload_n (pc := 288) hx hb d_Mod_step_288 rfl (lv_at hl 2 rfl) ?_
                      obtain ⟨q10, g33, h⟩ := gx_bd h
                      refine gx_cv (pc := 289) (va_runV (C := "GasLedgerModel") (As := [.int ((V (x0 + 1) ((((36 : Int32) * (V (x0 + 7) (V x0 19).toNatClampNeg)) + (3 : Int32)) + (V (x0 + 8) (V x0 19).toNatClampNeg)).toNatClampNeg) &&& (31 : Int32))]) (rest := []) ⟨hx, hb, hml, hown, hts⟩ (k_Mod_act l dC dI cI cR cZ b tP tN hk0 g33) (gx_cw 1 hts cd_Mod_act tb_50 tb_831 tb_833 tb_38 rfl rfl ⟨by decide, by decide, by decide +kernel⟩ ⟨Nat.le_of_ble_eq_true rfl, Nat.le_of_ble_eq_true rfl⟩) (gy_preV (mx_XX b) hX hK hP hS (mx_lt hk0 (by decide)) (sh_Mod cI cZ b hk0 _) rfl) rfl rfl hl.1 rfl (lv_room (Nat.le_of_ble_eq_true rfl)) d_Mod_step_289 ⟨Nat.zero_le _, Nat.zero_le _⟩) hS (fun H locs hP hS => ?_)
                      exact gx_vret hx hb hr hlk hP hS d_Mod_step_292 (by cases h; rfl) (by cases h; rfl)
                    · have h := gx_neg g32 h
                      refine lv_aload_n (pc := 279) hx hb d_Mod_step_279 rfl (lv_at hl 5 rfl) ?_
                      refine lv_iload_n (pc := 280) hx hb d_Mod_step_280 rfl (lv_at hl 2 rfl) ?_
                      obtain ⟨q11, g34, h⟩ := gx_bd h
                      refine gx_cv (pc := 281) (va_runV (C := "GasLedgerModel") (As := [.int ((V (x0 + 1) ((((36 : Int32) * (V (x0 + 7) (V x0 19).toNatClampNeg)) + (3 : Int32)) + (V (x0 + 8) (V x0 19).toNatClampNeg)).toNatClampNeg) &&& (31 : Int32))]) (rest := []) ⟨hx, hb, hml, hown, hts⟩ (k_Mod_hold l dC dI cI cR cZ b tP tN hk0 g34) (gx_cw 1 hts cd_Mod_hold tb_50 tb_827 tb_829 tb_37 rfl rfl ⟨by decide, by decide, by decide +kernel⟩ ⟨Nat.le_of_ble_eq_true rfl, Nat.le_of_ble_eq_true rfl⟩) (gy_preV (mx_XX b) hX hK hP hS (mx_lt hk0 (by decide)) (sh_Mod cI cZ b hk0 _) rfl) rfl rfl hl.1 rfl (lv_room (Nat.le_of_ble_eq_true rfl)) d_Mod_step_281 ⟨Nat.zero_le _, Nat.zero_le _⟩) hS (fun H locs hP hS => ?_)
                      refine lv_goto (pc := 284) (tgt := 292) hx hb d_Mod_step_284 (by decide) ?_
                      exact gx_vret hx hb hr hlk hP hS d_Mod_step_292 (by cases h; rfl) (by cases h; rfl)
                  · have h := gx_neg g31 h
                    refine lv_aload_n (pc := 240) hx hb d_Mod_step_240 rfl (lv_at hl 5 rfl) ?_
                    obtain ⟨q12, g35, h⟩ := gx_bd h
                    refine gx_ci (pc := 241) (va_runV (C := "GasLedgerModel") (As := []) (rest := []) ⟨hx, hb, hml, hown, hts⟩ (k_Mod_pop l dC dI cI cR cZ b tP tN hk0 g35) (gx_cw 0 hts cd_Mod_pop tb_50 tb_819 tb_821 tb_35 rfl rfl ⟨by decide, by decide, by decide +kernel⟩ ⟨Nat.le_of_ble_eq_true rfl, Nat.le_of_ble_eq_true rfl⟩) (gy_preV (mx_XX b) hX hK hP hS (mx_lt hk0 (by decide)) (sh_Mod cI cZ b hk0 _) rfl) rfl rfl hl.1 rfl (lv_room (Nat.le_of_ble_eq_true rfl)) d_Mod_step_241 ⟨Nat.zero_le _, Nat.zero_le _⟩) hS (fun H locs hP hS => ?_)
                    refine lv_istore (pc := 244) (lv' := [(6, .int q12.1), (5, .int (V (x0 + 13) (V x0 19).toNatClampNeg)), (4, .int ((V (x0 + 1) ((((36 : Int32) * (V (x0 + 7) (V x0 19).toNatClampNeg)) + (3 : Int32)) + (V (x0 + 8) (V x0 19).toNatClampNeg)).toNatClampNeg) >>> ((5 : Int32) &&& 31))), (3, .int ((V (x0 + 1) ((((36 : Int32) * (V (x0 + 7) (V x0 19).toNatClampNeg)) + (3 : Int32)) + (V (x0 + 8) (V x0 19).toNatClampNeg)).toNatClampNeg) &&& (31 : Int32))), (2, .int (V (x0 + 1) ((((36 : Int32) * (V (x0 + 7) (V x0 19).toNatClampNeg)) + (3 : Int32)) + (V (x0 + 8) (V x0 19).toNatClampNeg)).toNatClampNeg)), (1, .int (V (x0 + 8) (V x0 19).toNatClampNeg)), (0, .ref (b + x0))]) hx hb d_Mod_step_244 hl (by decide) rfl (fun ls hl => ?_)
                    refine lv_iload_n (pc := 246) hx hb d_Mod_step_246 rfl (lv_at hl 3 rfl) ?_
                    refine lv_bipush (pc := 247) (v := (12 : Int32)) hx hb d_Mod_step_247 (by decide) ?_
                    refine lv_icmp_eq (pc := 249) (tgt := 259) hx hb d_Mod_step_249 (by decide) (fun g36 => ?_) (fun g36 => ?_)
                    · have h := gx_pos g36 h
                      refine lv_aload_n (pc := 259) hx hb d_Mod_step_259 rfl (lv_at hl 6 rfl) ?_
                      refine va_get (pc := 260) (D := (dC, dI)) (ci := 6) (C := R_Mod) (T := T_Mod) (N := 39) hx hb hts in_Mod hown hK hP x0 (gx_at (mx_lt hk0 (by decide)) (sh_Mod cI cZ b hk0 _)) rfl 22 (by decide) (hts _ tb_623) (fun _ h9 => h9) rfl d_Mod_step_260 ?_
                      refine lv_aload_n (pc := 263) hx hb d_Mod_step_263 rfl (lv_at hl 6 rfl) ?_
                      refine va_get (pc := 264) (D := (dC, dI)) (ci := 6) (C := R_Mod) (T := T_Mod) (N := 39) hx hb hts in_Mod hown hK hP x0 (gx_at (mx_lt hk0 (by decide)) (sh_Mod cI cZ b hk0 _)) rfl 19 (by decide) (hts _ tb_620) (fun _ h9 => h9) rfl d_Mod_step_264 ?_
                      refine lv_iload (pc := 267) hx hb d_Mod_step_267 (lv_at hl 0 rfl) ?_
                      obtain ⟨g37, h⟩ := gx_if h
                      obtain ⟨V3, g38, h⟩ := gx_lt h
                      refine gx_asi (pc := 269) hx hb hK hP hS (x0 + 8) 0 (mx_lt (to_Mod_place hk0) (by decide)) (fun _ => mh_arr cI cZ b (n := 8) (to_Mod_place hk0) (by decide) _) rfl g37 d_Mod_step_269 g38 (fun H locs hP hS => ?_)
                      refine lv_goto (pc := 270) (tgt := 292) hx hb d_Mod_step_270 (by decide) ?_
                      exact gx_vret hx hb hr hlk hP hS d_Mod_step_292 (by cases h; rfl) (by cases h; rfl)
                    · have h := gx_neg g36 h
                      refine lv_aload_n (pc := 252) hx hb d_Mod_step_252 rfl (lv_at hl 6 rfl) ?_
                      obtain ⟨q13, g39, h⟩ := gx_bd h
                      refine gx_ci (pc := 253) (va_runV (C := "GasLedgerModel") (As := []) (rest := []) ⟨hx, hb, hml, hown, hts⟩ (k_Mod_pop l dC dI cI cR cZ b tP tN hk0 g39) (gx_cw 0 hts cd_Mod_pop tb_50 tb_819 tb_821 tb_35 rfl rfl ⟨by decide, by decide, by decide +kernel⟩ ⟨Nat.le_of_ble_eq_true rfl, Nat.le_of_ble_eq_true rfl⟩) (gy_preV (mx_XX b) hX hK hP hS (mx_lt hk0 (by decide)) (sh_Mod cI cZ b hk0 _) rfl) rfl rfl hl.1 rfl (lv_room (Nat.le_of_ble_eq_true rfl)) d_Mod_step_253 ⟨Nat.zero_le _, Nat.zero_le _⟩) hS (fun H locs hP hS => ?_)
                      refine lv_if_eq (pc := 256) (tgt := 270) hx hb d_Mod_step_256 (by decide) (fun g40 => ?_) (fun g40 => ?_)
                      · have h := gx_pos g40 h
                        refine lv_goto (pc := 270) (tgt := 292) hx hb d_Mod_step_270 (by decide) ?_
                        exact gx_vret hx hb hr hlk hP hS d_Mod_step_292 (by cases h; rfl) (by cases h; rfl)
                      · have h := gx_neg g40 h
                        refine lv_aload_n (pc := 259) hx hb d_Mod_step_259 rfl (lv_at hl 6 rfl) ?_
                        refine va_get (pc := 260) (D := (dC, dI)) (ci := 6) (C := R_Mod) (T := T_Mod) (N := 39) hx hb hts in_Mod hown hK hP x0 (gx_at (mx_lt hk0 (by decide)) (sh_Mod cI cZ b hk0 _)) rfl 22 (by decide) (hts _ tb_623) (fun _ h9 => h9) rfl d_Mod_step_260 ?_
                        refine lv_aload_n (pc := 263) hx hb d_Mod_step_263 rfl (lv_at hl 6 rfl) ?_
                        refine va_get (pc := 264) (D := (dC, dI)) (ci := 6) (C := R_Mod) (T := T_Mod) (N := 39) hx hb hts in_Mod hown hK hP x0 (gx_at (mx_lt hk0 (by decide)) (sh_Mod cI cZ b hk0 _)) rfl 19 (by decide) (hts _ tb_620) (fun _ h9 => h9) rfl d_Mod_step_264 ?_
                        refine lv_iload (pc := 267) hx hb d_Mod_step_267 (lv_at hl 0 rfl) ?_
                        obtain ⟨g41, h⟩ := gx_if h
                        obtain ⟨V4, g42, h⟩ := gx_lt h
                        refine gx_asi (pc := 269) hx hb hK hP hS (x0 + 8) 0 (mx_lt (to_Mod_place hk0) (by decide)) (fun _ => mh_arr cI cZ b (n := 8) (to_Mod_place hk0) (by decide) _) rfl g41 d_Mod_step_269 g42 (fun H locs hP hS => ?_)
                        refine lv_goto (pc := 270) (tgt := 292) hx hb d_Mod_step_270 (by decide) ?_
                        exact gx_vret hx hb hr hlk hP hS d_Mod_step_292 (by cases h; rfl) (by cases h; rfl)
                · have h := gx_neg g30 h
                  refine lv_aload_n (pc := 226) hx hb d_Mod_step_226 rfl (lv_at hl 5 rfl) ?_
                  refine lv_iload_n (pc := 227) hx hb d_Mod_step_227 rfl (lv_at hl 2 rfl) ?_
                  obtain ⟨q14, g43, h⟩ := gx_bd h
                  refine gx_cv (pc := 228) (va_runV (C := "GasLedgerModel") (As := [.int ((V (x0 + 1) ((((36 : Int32) * (V (x0 + 7) (V x0 19).toNatClampNeg)) + (3 : Int32)) + (V (x0 + 8) (V x0 19).toNatClampNeg)).toNatClampNeg) &&& (31 : Int32))]) (rest := []) ⟨hx, hb, hml, hown, hts⟩ (k_Mod_reckon l dC dI cI cR cZ b tP tN hk0 g43) (gx_cw 1 hts cd_Mod_reckon tb_50 tb_823 tb_825 tb_36 rfl rfl ⟨by decide, by decide, by decide +kernel⟩ ⟨Nat.le_of_ble_eq_true rfl, Nat.le_of_ble_eq_true rfl⟩) (gy_preV (mx_XX b) hX hK hP hS (mx_lt hk0 (by decide)) (sh_Mod cI cZ b hk0 _) rfl) rfl rfl hl.1 rfl (lv_room (Nat.le_of_ble_eq_true rfl)) d_Mod_step_228 ⟨Nat.zero_le _, Nat.zero_le _⟩) hS (fun H locs hP hS => ?_)
                  refine lv_goto (pc := 231) (tgt := 292) hx hb d_Mod_step_231 (by decide) ?_
                  exact gx_vret hx hb hr hlk hP hS d_Mod_step_292 (by cases h; rfl) (by cases h; rfl)
              · have h := gx_neg g29 h
                refine lv_aload_n (pc := 210) hx hb d_Mod_step_210 rfl (lv_at hl 5 rfl) ?_
                refine lv_iload_n (pc := 211) hx hb d_Mod_step_211 rfl (lv_at hl 2 rfl) ?_
                refine lv_iload (pc := 212) hx hb d_Mod_step_212 (lv_at hl 1 rfl) ?_
                obtain ⟨q15, g44, h⟩ := gx_bd h
                refine gx_cv (pc := 214) (va_runV (C := "GasLedgerModel") (As := [.int ((V (x0 + 1) ((((36 : Int32) * (V (x0 + 7) (V x0 19).toNatClampNeg)) + (3 : Int32)) + (V (x0 + 8) (V x0 19).toNatClampNeg)).toNatClampNeg) &&& (31 : Int32)), .int ((V (x0 + 1) ((((36 : Int32) * (V (x0 + 7) (V x0 19).toNatClampNeg)) + (3 : Int32)) + (V (x0 + 8) (V x0 19).toNatClampNeg)).toNatClampNeg) >>> ((5 : Int32) &&& 31))]) (rest := []) ⟨hx, hb, hml, hown, hts⟩ (k_Mod_shuffle l dC dI cI cR cZ b tP tN hk0 g44) (gx_cw 2 hts cd_Mod_shuffle tb_50 tb_815 tb_817 tb_34 rfl rfl ⟨by decide, by decide, by decide +kernel⟩ ⟨Nat.le_of_ble_eq_true rfl, Nat.le_of_ble_eq_true rfl⟩) (gy_preV (mx_XX b) hX hK hP hS (mx_lt hk0 (by decide)) (sh_Mod cI cZ b hk0 _) rfl) rfl rfl hl.1 rfl (lv_room (Nat.le_of_ble_eq_true rfl)) d_Mod_step_214 ⟨Nat.zero_le _, Nat.zero_le _⟩) hS (fun H locs hP hS => ?_)
                refine lv_goto (pc := 217) (tgt := 292) hx hb d_Mod_step_217 (by decide) ?_
                exact gx_vret hx hb hr hlk hP hS d_Mod_step_292 (by cases h; rfl) (by cases h; rfl)
            · have h := gx_pos g28 h
              refine lv_aload_n (pc := 187) hx hb d_Mod_step_187 rfl (lv_at hl 5 rfl) ?_
              refine lv_iconst (pc := 188) (v := (1 : Int32)) hx hb d_Mod_step_188 (by decide) ?_
              refine lv_iconst (pc := 189) (v := (0 : Int32)) hx hb d_Mod_step_189 (by decide) ?_
              refine lv_aload_n (pc := 190) hx hb d_Mod_step_190 rfl (lv_at hl 5 rfl) ?_
              refine va_get (pc := 191) (D := (dC, dI)) (ci := 6) (C := R_Mod) (T := T_Mod) (N := 39) hx hb hts in_Mod hown hK hP x0 (gx_at (mx_lt hk0 (by decide)) (sh_Mod cI cZ b hk0 _)) rfl 26 (by decide) (hts _ tb_627) (fun _ h9 => h9) rfl d_Mod_step_191 ?_
              refine lv_aload_n (pc := 194) hx hb d_Mod_step_194 rfl (lv_at hl 5 rfl) ?_
              refine va_get (pc := 195) (D := (dC, dI)) (ci := 6) (C := R_Mod) (T := T_Mod) (N := 39) hx hb hts in_Mod hown hK hP x0 (gx_at (mx_lt hk0 (by decide)) (sh_Mod cI cZ b hk0 _)) rfl 19 (by decide) (hts _ tb_620) (fun _ h9 => h9) rfl d_Mod_step_195 ?_
              obtain ⟨g45, h⟩ := gx_if h
              refine va_iald (pc := 198) hx hb hK hP (x0 + 12) 0 (gx_at (mx_lt (to_Mod_gas hk0) (by decide)) (mh_arr cI cZ b (n := 8) (to_Mod_gas hk0) (by decide) _)) rfl g45 d_Mod_step_198 ?_
              obtain ⟨q16, g46, h⟩ := gx_bd h
              refine gx_cv (pc := 199) (va_runV (C := "GasLedgerModel") (As := [.int (1 : Int32), .int (0 : Int32), .int (V2 (x0 + 12) (V2 x0 19).toNatClampNeg)]) (rest := []) ⟨hx, hb, hml, hown, hts⟩ (k_Mod_leave l dC dI cI cR cZ b tP tN hk0 g46) (gx_cw 3 hts cd_Mod_leave tb_50 tb_789 tb_791 tb_29 rfl rfl ⟨by decide, by decide, by decide +kernel⟩ ⟨Nat.le_of_ble_eq_true rfl, Nat.le_of_ble_eq_true rfl⟩) (gy_preV (mx_XX b) hX hK hP hS (mx_lt hk0 (by decide)) (sh_Mod cI cZ b hk0 _) rfl) rfl rfl hl.1 rfl (lv_room (Nat.le_of_ble_eq_true rfl)) d_Mod_step_199 ⟨Nat.zero_le _, Nat.zero_le _⟩) hS (fun H locs hP hS => ?_)
              refine lv_goto (pc := 202) (tgt := 292) hx hb d_Mod_step_202 (by decide) ?_
              exact gx_vret hx hb hr hlk hP hS d_Mod_step_292 (by cases h; rfl) (by cases h; rfl)
          · have h := gx_neg g20 h
            refine lv_aload_n (pc := 145) hx hb d_Mod_step_145 rfl (lv_at hl 5 rfl) ?_
            refine lv_iconst (pc := 146) (v := (0 : Int32)) hx hb d_Mod_step_146 (by decide) ?_
            refine lv_iconst (pc := 147) (v := (0 : Int32)) hx hb d_Mod_step_147 (by decide) ?_
            refine lv_iconst (pc := 148) (v := (0 : Int32)) hx hb d_Mod_step_148 (by decide) ?_
            obtain ⟨q17, g47, h⟩ := gx_bd h
            refine gx_cv (pc := 149) (va_runV (C := "GasLedgerModel") (As := [.int (0 : Int32), .int (0 : Int32), .int (0 : Int32)]) (rest := []) ⟨hx, hb, hml, hown, hts⟩ (k_Mod_leave l dC dI cI cR cZ b tP tN hk0 g47) (gx_cw 3 hts cd_Mod_leave tb_50 tb_789 tb_791 tb_29 rfl rfl ⟨by decide, by decide, by decide +kernel⟩ ⟨Nat.le_of_ble_eq_true rfl, Nat.le_of_ble_eq_true rfl⟩) (gy_preV (mx_XX b) hX hK hP hS (mx_lt hk0 (by decide)) (sh_Mod cI cZ b hk0 _) rfl) rfl rfl hl.1 rfl (lv_room (Nat.le_of_ble_eq_true rfl)) d_Mod_step_149 ⟨Nat.zero_le _, Nat.zero_le _⟩) hS (fun H locs hP hS => ?_)
            exact gx_vret hx hb hr hlk hP hS d_Mod_step_152 (by cases h; rfl) (by cases h; rfl)
  · have h := gx_neg g4 h
    refine lv_aload_n (pc := 33) hx hb d_Mod_step_33 rfl (lv_at hl 1 rfl) ?_
    refine lv_iconst (pc := 34) (v := (1 : Int32)) hx hb d_Mod_step_34 (by decide) ?_
    refine lv_iconst (pc := 35) (v := (0 : Int32)) hx hb d_Mod_step_35 (by decide) ?_
    refine lv_aload_n (pc := 36) hx hb d_Mod_step_36 rfl (lv_at hl 1 rfl) ?_
    refine va_get (pc := 37) (D := (dC, dI)) (ci := 6) (C := R_Mod) (T := T_Mod) (N := 39) hx hb hts in_Mod hown hK hP x0 (gx_at (mx_lt hk0 (by decide)) (sh_Mod cI cZ b hk0 _)) rfl 26 (by decide) (hts _ tb_627) (fun _ h9 => h9) rfl d_Mod_step_37 ?_
    refine lv_aload_n (pc := 40) hx hb d_Mod_step_40 rfl (lv_at hl 1 rfl) ?_
    refine va_get (pc := 41) (D := (dC, dI)) (ci := 6) (C := R_Mod) (T := T_Mod) (N := 39) hx hb hts in_Mod hown hK hP x0 (gx_at (mx_lt hk0 (by decide)) (sh_Mod cI cZ b hk0 _)) rfl 19 (by decide) (hts _ tb_620) (fun _ h9 => h9) rfl d_Mod_step_41 ?_
    obtain ⟨g48, h⟩ := gx_if h
    refine va_iald (pc := 44) hx hb hK hP (x0 + 12) 0 (gx_at (mx_lt (to_Mod_gas hk0) (by decide)) (mh_arr cI cZ b (n := 8) (to_Mod_gas hk0) (by decide) _)) rfl g48 d_Mod_step_44 ?_
    obtain ⟨q18, g49, h⟩ := gx_bd h
    refine gx_cv (pc := 45) (va_runV (C := "GasLedgerModel") (As := [.int (1 : Int32), .int (0 : Int32), .int (V (x0 + 12) (V x0 19).toNatClampNeg)]) (rest := []) ⟨hx, hb, hml, hown, hts⟩ (k_Mod_leave l dC dI cI cR cZ b tP tN hk0 g49) (gx_cw 3 hts cd_Mod_leave tb_50 tb_789 tb_791 tb_29 rfl rfl ⟨by decide, by decide, by decide +kernel⟩ ⟨Nat.le_of_ble_eq_true rfl, Nat.le_of_ble_eq_true rfl⟩) (gy_preV (mx_XX b) hX hK hP hS (mx_lt hk0 (by decide)) (sh_Mod cI cZ b hk0 _) rfl) rfl rfl hl.1 rfl (lv_room (Nat.le_of_ble_eq_true rfl)) d_Mod_step_45 ⟨Nat.zero_le _, Nat.zero_le _⟩) hS (fun H locs hP hS => ?_)
    exact gx_vret hx hb hr hlk hP hS d_Mod_step_48 (by cases h; rfl) (by cases h; rfl)
abbrev rm_Mod_terms : Room := { frames := 0, cells := 0, slots := 0, locals := 0 }
def F_Mod_terms (x0 : Nat) (x1 : Int32) (x2 : Int32) (x3 : Int32) (V : gx_M) : Option gx_M := (gx_let (gx_u V x0 16 x1) fun V1 => (gx_let (gx_u V1 x0 17 x2) fun V2 => (gx_let (gx_u V2 x0 18 x3) fun V3 => some V3)))
set_option maxRecDepth 100000 in
set_option maxHeartbeats 8000000 in
theorem k_Mod_terms (l : Launch) (dC : Nat → ClassId) (dI : Nat → Nat → Nat) (cI cR cZ : ClassId) (b tP tN : Nat) {x0 : Nat} {x1 : Int32} {x2 : Int32} {x3 : Int32} {V : gx_M} {q : gx_M} (hk0 : mx_kd x0 = 6) (h : F_Mod_terms x0 x1 x2 x3 V = some q) : mx_C l dC dI cI cR cZ b tP tN y_Mod_terms w_Mod_terms rm_Mod_terms [.ref (b + x0), .int x1, .int x2, .int x3] V none q := by
  refine gx_start (cc := b_Mod_terms) (maxL := 4) (ret := rt_Mod_terms) (by decide) rfl (Nat.le_of_ble_eq_true rfl) ?_
  intro p e s m args below meth c ls hx hb hr hts hown hlk hml hl hP hK hX hS
  have hts : ∀ w ∈ cx_tb, w.before args s = true := fun w hw => hts w (List.mem_cons_of_mem _ hw)
  have hown : s.vm.findClass "GasLedgerModel" = some m.cls := hown
  have hl : lv_has ls 4 [(0, .ref (b + x0)), (1, .int x1), (2, .int x2), (3, .int x3)] := hl
  unfold F_Mod_terms at h
  refine lv_aload_n (pc := 0) hx hb d_Mod_terms_0 rfl (lv_at hl 0 rfl) ?_
  refine lv_iload_n (pc := 1) hx hb d_Mod_terms_1 rfl (lv_at hl 1 rfl) ?_
  obtain ⟨V1, g1, h⟩ := gx_lt h
  refine gy_put (pc := 2) (D := (dC, dI)) (ci := 6) (C := R_Mod) (T := T_Mod) (NF := 39) (ty := .int) hx hb hts in_Mod t_Mod ty_Mod nm_Mod hown hK hP hS x0 (mx_lt hk0 (by decide)) (sh_Mod cI cZ b hk0 _) rfl 16 (by decide) (hts _ tb_617) (fun _ h9 => h9) rfl (by decide +kernel) rfl rfl (Nat.le_of_ble_eq_true rfl) 16 (sh_Mod cI cZ b hk0 _) d_Mod_terms_2 g1 (fun H locs hP hS => ?_)
  refine lv_aload_n (pc := 5) hx hb d_Mod_terms_5 rfl (lv_at hl 0 rfl) ?_
  refine lv_iload_n (pc := 6) hx hb d_Mod_terms_6 rfl (lv_at hl 2 rfl) ?_
  obtain ⟨V2, g2, h⟩ := gx_lt h
  refine gy_put (pc := 7) (D := (dC, dI)) (ci := 6) (C := R_Mod) (T := T_Mod) (NF := 39) (ty := .int) hx hb hts in_Mod t_Mod ty_Mod nm_Mod hown hK hP hS x0 (mx_lt hk0 (by decide)) (sh_Mod cI cZ b hk0 _) rfl 17 (by decide) (hts _ tb_618) (fun _ h9 => h9) rfl (by decide +kernel) rfl rfl (Nat.le_of_ble_eq_true rfl) 17 (sh_Mod cI cZ b hk0 _) d_Mod_terms_7 g2 (fun H locs hP hS => ?_)
  refine lv_aload_n (pc := 10) hx hb d_Mod_terms_10 rfl (lv_at hl 0 rfl) ?_
  refine lv_iload_n (pc := 11) hx hb d_Mod_terms_11 rfl (lv_at hl 3 rfl) ?_
  obtain ⟨V3, g3, h⟩ := gx_lt h
  refine gy_put (pc := 12) (D := (dC, dI)) (ci := 6) (C := R_Mod) (T := T_Mod) (NF := 39) (ty := .int) hx hb hts in_Mod t_Mod ty_Mod nm_Mod hown hK hP hS x0 (mx_lt hk0 (by decide)) (sh_Mod cI cZ b hk0 _) rfl 18 (by decide) (hts _ tb_619) (fun _ h9 => h9) rfl (by decide +kernel) rfl rfl (Nat.le_of_ble_eq_true rfl) 18 (sh_Mod cI cZ b hk0 _) d_Mod_terms_12 g3 (fun H locs hP hS => ?_)
  exact gx_vret hx hb hr hlk hP hS d_Mod_terms_15 (by cases h; rfl) (by cases h; rfl)
