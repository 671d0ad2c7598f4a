abbrev rm_Mod_wipe : Room := { frames := 0, cells := 0, slots := 0, locals := 0 }
def F_Mod_wipe_2 : Nat → Nat → Int32 → Int32 → gx_M → Option gx_M
  | 0, _, _, _, _ => none
  | nf + 1, x0, x1, x2, V => (if (36 : Int32) ≤ x2 then some V else (if gx_ib (((36 : Int32) * x1) + x2) 576 then (gx_let (gx_u V (x0 + 1) (((36 : Int32) * x1) + x2).toNatClampNeg (0 : Int32)) fun V1 => (F_Mod_wipe_2 nf  x0 x1 (x2 + (1 : Int32)) V1)) else none))
def F_Mod_wipe (x0 : Nat) (x1 : Int32) (V : gx_M) : Option gx_M := (F_Mod_wipe_2 100  x0 x1 (0 : Int32) V)
set_option maxRecDepth 100000 in
set_option maxHeartbeats 8000000 in
theorem k_Mod_wipe (l : Launch) (dC : Nat → ClassId) (dI : Nat → Nat → Nat) (cI cR cZ : ClassId) (b tP tN : Nat) {x0 : Nat} {x1 : Int32} {V : gx_M} {q : gx_M} (hk0 : mx_kd x0 = 6) (h : F_Mod_wipe x0 x1 V = some q) : mx_C l dC dI cI cR cZ b tP tN y_Mod_wipe w_Mod_wipe rm_Mod_wipe [.ref (b + x0), .int x1] V none q := by
  refine gx_start (cc := b_Mod_wipe) (maxL := 3) (ret := rt_Mod_wipe) (by decide) rfl (Nat.le_of_ble_eq_true rfl) ?_
  intro p e s m args below meth c ls hx hb hr hts hown hlk hml hl hP hK hX hS
  have hts : ∀ w ∈ cx_tb, w.before args s = true := fun w hw => hts w (List.mem_cons_of_mem _ hw)
  have hown : s.vm.findClass "GasLedgerModel" = some m.cls := hown
  have hl : lv_has ls 3 [(0, .ref (b + x0)), (1, .int x1)] := hl
  have B_2 : ∀ (nf : Nat), ∀ (x0 : Nat) (x1 : Int32) (x2 : Int32), mx_kd x0 = 6 → ∀ (V : gx_M) (H : Heap) (locs : List Loc) (ls : Array Slot), lv_has ls 3 [(0, .ref (b + x0)), (1, .int x1), (2, .int x2)] → va_P (dC, dI) cx_cl (gx_w b 22 (gx_v (mx_sh cI cZ b) V)) H → va_S (gx_A b 22) s.heap H locs → F_Mod_wipe_2 nf x0 x1 x2 V = some q → W p l e (headSpec w_Mod_wipe rm_Mod_wipe).room s m args below meth c H locs 0 0 (MQ below (gx_Q (dC, dI) cx_cl b 22 (mx_sh cI cZ b) none q) args s 0 0 (gx_A b 22)) (F0 m 2 ls []) := by
    intro nf
    induction nf with
    | zero => intro x0 x1 x2 hk_x0 V H locs ls hl hP hS h; cases h
    | succ nf ihl =>
      intro x0 x1 x2 hk_x0 V H locs ls hl hP hS h
      rw [F_Mod_wipe_2] at h
      refine lv_iload_n (pc := 2) hx hb d_Mod_wipe_2 rfl (lv_at hl 2 rfl) ?_
      refine lv_bipush (pc := 3) (v := (36 : Int32)) hx hb d_Mod_wipe_3 (by decide) ?_
      refine lv_icmp_ge (pc := 5) (tgt := 26) hx hb d_Mod_wipe_5 (by decide) (fun g1 => ?_) (fun g1 => ?_)
      · have h := gx_pos g1 h
        exact gx_vret hx hb hr hlk hP hS d_Mod_wipe_26 (by cases h; rfl) (by cases h; rfl)
      · have h := gx_neg g1 h
        refine lv_aload_n (pc := 8) hx hb d_Mod_wipe_8 rfl (lv_at hl 0 rfl) ?_
        refine va_get (pc := 9) (D := (dC, dI)) (ci := 6) (C := R_Mod) (T := T_Mod) (N := 39) hx hb hts in_Mod hown hK hP x0 (gx_at (mx_lt hk_x0 (by decide)) (sh_Mod cI cZ b hk_x0 _)) rfl 0 (by decide) (hts _ tb_601) (fun _ h9 => h9) rfl d_Mod_wipe_9 ?_
        refine lv_bipush (pc := 12) (v := (36 : Int32)) hx hb d_Mod_wipe_12 (by decide) ?_
        refine lv_iload_n (pc := 14) hx hb d_Mod_wipe_14 rfl (lv_at hl 1 rfl) ?_
        refine lv_imul (pc := 15) hx hb d_Mod_wipe_15 ?_
        refine lv_iload_n (pc := 16) hx hb d_Mod_wipe_16 rfl (lv_at hl 2 rfl) ?_
        refine lv_iadd (pc := 17) hx hb d_Mod_wipe_17 ?_
        refine lv_iconst (pc := 18) (v := (0 : Int32)) hx hb d_Mod_wipe_18 (by decide) ?_
        obtain ⟨g2, h⟩ := gx_if h
        obtain ⟨V1, g3, h⟩ := gx_lt h
        refine gx_asi (pc := 19) hx hb hK hP hS (x0 + 1) 0 (mx_lt (to_Mod_now hk_x0) (by decide)) (fun _ => mh_arr cI cZ b (n := 576) (to_Mod_now hk_x0) (by decide) _) rfl g2 d_Mod_wipe_19 g3 (fun H locs hP hS => ?_)
        refine lv_iinc (pc := 20) (k := 2) (lv' := [(2, .int (x2 + (1 : Int32))), (0, .ref (b + x0)), (1, .int x1)]) hx hb d_Mod_wipe_20 hl rfl (gx_inc (by decide)) (by decide) rfl (fun ls hl => ?_)
        refine lv_goto (pc := 23) (tgt := 2) hx hb d_Mod_wipe_23 (by decide) ?_
        exact ihl _ _ _ hk_x0 _ _ _ _ (lv_sub hl [1, 2, 0] rfl) hP hS h
  unfold F_Mod_wipe at h
  refine lv_iconst (pc := 0) (v := (0 : Int32)) hx hb d_Mod_wipe_0 (by decide) ?_
  refine lv_istore_n (pc := 1) (lv' := [(2, .int (0 : Int32)), (0, .ref (b + x0)), (1, .int x1)]) hx hb d_Mod_wipe_1 rfl hl (by decide) rfl (fun ls hl => ?_)
  exact B_2 100  _ _ _ hk0 _ _ _ _ (lv_sub hl [1, 2, 0] rfl) hP hS h
