abbrev rm_Mac_init : Room := { frames := 3, cells := 83, slots := 5514, locals := 104 }
set_option maxRecDepth 100000 in
set_option maxHeartbeats 8000000 in
theorem k_Mac_init (l : Launch) (dC : Nat → ClassId) (dI : Nat → Nat → Nat) (cI cR cZ : ClassId) (b tP tN : Nat) : gz_C l y_Mac_init w_Mac_init rm_Mac_init (dC, dI) cx_cl (gx_ty cI cR cZ) (cx_sh cI cR b) b 1 84 5514 (fun _ _ => 0) (.inr (3, [.null, .null, .null, .int 0, .int 0, .int 0])) := by
  refine Met.ofW (cc := b_Mac_init) (maxL := 2) (ret := none) (by decide) rfl ?_
  intro p e s m args below meth c s₁ B hml hv
  obtain ⟨rfl, hz, hP, hK, hX⟩ := hv
  have hx := B.exec
  have hb := B.bytes
  have hr := B.returns
  have hlk := B.notSynchronized
  have hts0 := atoms_spec (ws := w_Mac_init) B.pre
  have hts : ∀ w ∈ cx_tb, w.before _ s = true := fun w hw => hts0 w (List.mem_cons_of_mem _ hw)
  have hown : s.vm.findClass "GasLedger$Machine" = some m.cls := findClass_of_methodNamed B.named
  have hin : meth.name = "<init>" := (name_of_methodNamed B.named B.method).1
  generalize hAe : va_A [(b + 1, .inr (3, [.null, .null, .null, .int 0, .int 0, .int 0]))] (b + (1 + 1)) = A
  have hA : ∀ q : Nat, s.heap.size ≤ q → A q := fun q h => by rw [← hAe]; exact Or.inr (by rw [← hz]; exact h)
  have hD : va_D A [(b + 1, .inr (3, [.null, .null, .null, .int 0, .int 0, .int 0]))] := gz_D1 (by rw [← hAe]; exact Or.inl ⟨0, _, rfl⟩)
  have hS : va_S A s.heap s.heap [] := va_S.rf
  have hz : s.heap.size = (b + 2) := hz
  have hl := lv_entry ([.ref (b + 1)]) (n := 2) (Nat.le_of_ble_eq_true rfl)
  rw [lg_entry_eq]
  generalize (lg_sl ([.ref (b + 1)]) ++ List.replicate (2 - (lg_sl ([.ref (b + 1)])).length) Slot.unset).toArray = ls at hl ⊢
  have hl : lv_has ls 2 [(0, .ref (b + 1))] := hl
  refine lv_aload_n (pc := 0) hx hb d_Mac_init_0 rfl (lv_at hl 0 rfl) ?_
  refine W.objInit hx hb hown (hts _ tb_67) (hts _ tb_60) (hts _ tb_oi) rfl (by rw [hml]; exact hl.1) rfl d_Mac_init_1 (Nat.le_of_ble_eq_true rfl) (Nat.le_of_ble_eq_true rfl) ?_
  refine W.eq (g2 := F0 m 4 ls []) rfl ?_
  refine lv_aload_n (pc := 4) hx hb d_Mac_init_4 rfl (lv_at hl 0 rfl) ?_
  refine gz_new (pc := 5) (ci := 0) (fs := [.null, .null, .null, .null, .null, .null]) (C := R_Acc) (T := T_Acc) (N := 6) hx hb hts in_Acc t_Acc ty_Acc hown (hts _ tb_68) (hts _ tb_69) (hts _ tb_46) hK hP hD hS hA rfl df_Acc (by show 0 + 1 ≤ _; exact Nat.le_of_ble_eq_true rfl) (by show 0 + 6 ≤ _; exact Nat.le_of_ble_eq_true rfl) (z := (b + 2)) hz d_Mac_init_5 (fun H hP hD hS hz => ?_)
  have hz : H.size = (b + 3) := hz
  refine lv_dup (pc := 8) hx hb d_Mac_init_8 rfl ?_
  refine gz_call (pc := 9) (k := 2) (n := 7) (mc := 6) (ms := 576) (va_runI (As := []) (rest := [.ref (b + 2), .ref (b + 1)]) ⟨hx, hb, hml, hown, hts⟩ (k_Acc_init l dC dI cI cR cZ b tP tN (by decide)) (cwI 0 hts (gx_good cd_Acc_init) rfl rfl rfl (hts _ tb_46) (hts _ tb_70) (hts _ tb_71) rfl ⟨by decide, by decide, by decide +kernel⟩ ⟨Nat.le_of_ble_eq_true rfl, Nat.le_of_ble_eq_true rfl⟩) (gz_pre hK hX hP hz) rfl rfl hl.1 rfl (lv_room (Nat.le_of_ble_eq_true rfl)) d_Mac_init_9 ⟨by show 1 + 6 ≤ _; exact Nat.le_of_ble_eq_true rfl, by show 6 + 576 ≤ _; exact Nat.le_of_ble_eq_true rfl⟩) hP hD hS hA hz (z := (b + 9)) rfl (fun H locs hP hD hS hz => ?_)
  have hP : va_P (dC, dI) cx_cl (((b + 1), .inr (3, [.null, .null, .null, .int 0, .int 0, .int 0])) :: gz_L (cx_sh cI cR b) b 2 7 (fun _ _ => 0)) H := hP
  have hD : va_D A (((b + 1), .inr (3, [.null, .null, .null, .int 0, .int 0, .int 0])) :: gz_L (cx_sh cI cR b) b 2 7 (fun _ _ => 0)) := hD
  refine gz_put (pc := 12) (D := (dC, dI)) (ci := 3) (v := .ref (b + 2)) (ty := (.object "GasLedger$Accounts")) (C := R_Mac) (T := T_Mac) (N := 6) hx hb hts in_Mac t_Mac ty_Mac nm_Mac hown hK rfl hP hD hS hz rfl 0 (by decide) (hts _ tb_201) rfl hin (by decide +kernel) rfl rfl (Nat.le_of_ble_eq_true rfl) (fs' := [.ref (b + 2), .null, .null, .int 0, .int 0, .int 0]) rfl d_Mac_init_12 (fun H locs hP hD hS hz => ?_)
  refine lv_aload_n (pc := 15) hx hb d_Mac_init_15 rfl (lv_at hl 0 rfl) ?_
  refine gz_new (pc := 16) (ci := 2) (fs := [.null, .null, .int 0, .int 0]) (C := R_Log) (T := T_Log) (N := 4) hx hb hts in_Log t_Log ty_Log hown (hts _ tb_102) (hts _ tb_103) (hts _ tb_47) hK hP hD hS hA rfl df_Log (by show 7 + 1 ≤ _; exact Nat.le_of_ble_eq_true rfl) (by show 582 + 4 ≤ _; exact Nat.le_of_ble_eq_true rfl) (z := (b + 9)) hz d_Mac_init_16 (fun H hP hD hS hz => ?_)
  have hz : H.size = (b + 10) := hz
  refine lv_dup (pc := 19) hx hb d_Mac_init_19 rfl ?_
  refine gz_call (pc := 20) (k := 9) (n := 3) (mc := 2) (ms := 32) (va_runI (As := []) (rest := [.ref (b + 9), .ref (b + 1)]) ⟨hx, hb, hml, hown, hts⟩ (k_Log_init l dC dI cI cR cZ b tP tN (by decide)) (cwI 0 hts (gx_good cd_Log_init) rfl rfl rfl (hts _ tb_47) (hts _ tb_104) (hts _ tb_105) rfl ⟨by decide, by decide, by decide +kernel⟩ ⟨Nat.le_of_ble_eq_true rfl, Nat.le_of_ble_eq_true rfl⟩) (gz_pre hK hX hP hz) rfl rfl hl.1 rfl (lv_room (Nat.le_of_ble_eq_true rfl)) d_Mac_init_20 ⟨by show 8 + 2 ≤ _; exact Nat.le_of_ble_eq_true rfl, by show 586 + 32 ≤ _; exact Nat.le_of_ble_eq_true rfl⟩) hP hD hS hA hz (z := (b + 12)) rfl (fun H locs hP hD hS hz => ?_)
  have hP : va_P (dC, dI) cx_cl (((b + 1), .inr (3, [.ref (b + 2), .null, .null, .int 0, .int 0, .int 0])) :: gz_L (cx_sh cI cR b) b 2 10 (fun _ _ => 0)) H := (by rw [← gz_app (n := 7) (m := 3)]; exact hP)
  have hD : va_D A (((b + 1), .inr (3, [.ref (b + 2), .null, .null, .int 0, .int 0, .int 0])) :: gz_L (cx_sh cI cR b) b 2 10 (fun _ _ => 0)) := (by rw [← gz_app (n := 7) (m := 3)]; exact hD)
  refine gz_put (pc := 23) (D := (dC, dI)) (ci := 3) (v := .ref (b + 9)) (ty := (.object "GasLedger$Logs")) (C := R_Mac) (T := T_Mac) (N := 6) hx hb hts in_Mac t_Mac ty_Mac nm_Mac hown hK rfl hP hD hS hz rfl 1 (by decide) (hts _ tb_203) rfl hin (by decide +kernel) rfl rfl (Nat.le_of_ble_eq_true rfl) (fs' := [.ref (b + 2), .ref (b + 9), .null, .int 0, .int 0, .int 0]) rfl d_Mac_init_23 (fun H locs hP hD hS hz => ?_)
  refine lv_aload_n (pc := 26) hx hb d_Mac_init_26 rfl (lv_at hl 0 rfl) ?_
  refine lv_bipush (pc := 27) (v := (8 : Int32)) hx hb d_Mac_init_27 (by decide) ?_
  refine gz_anew (pc := 29) hx hb hown (hts _ tb_125) hX (gz_ra (hK.2 1 _ rfl).2) hP hD hS hA (by decide) (N' := 8) (by decide) (by decide) (by show 10 + 1 ≤ _; exact Nat.le_of_ble_eq_true rfl) (by show 618 + 8 ≤ _; exact Nat.le_of_ble_eq_true rfl) (z := (b + 12)) hz d_Mac_init_29 (fun H hP hD hS hz => ?_)
  have hz : H.size = (b + 13) := hz
  have hP : va_P (dC, dI) cx_cl (((b + 1), .inr (3, [.ref (b + 2), .ref (b + 9), .null, .int 0, .int 0, .int 0])) :: (gz_L (cx_sh cI cR b) b 2 10 (fun _ _ => 0) ++ ((b + 12, .inl (cR, 8, .inr (.inr (.inr (.inr (fun _ => none)))))) :: gz_L (cx_sh cI cR b) b 13 0 (fun _ _ => 0)))) H := hP
  have hD : va_D A (((b + 1), .inr (3, [.ref (b + 2), .ref (b + 9), .null, .int 0, .int 0, .int 0])) :: (gz_L (cx_sh cI cR b) b 2 10 (fun _ _ => 0) ++ ((b + 12, .inl (cR, 8, .inr (.inr (.inr (.inr (fun _ => none)))))) :: gz_L (cx_sh cI cR b) b 13 0 (fun _ _ => 0)))) := hD
  refine gz_put (pc := 32) (D := (dC, dI)) (ci := 3) (v := .ref (b + 12)) (ty := (.array (.object "GasLedger$Frame"))) (C := R_Mac) (T := T_Mac) (N := 6) hx hb hts in_Mac t_Mac ty_Mac nm_Mac hown hK rfl hP hD hS hz rfl 2 (by decide) (hts _ tb_205) rfl hin (by decide +kernel) rfl rfl (Nat.le_of_ble_eq_true rfl) (fs' := [.ref (b + 2), .ref (b + 9), .ref (b + 12), .int 0, .int 0, .int 0]) rfl d_Mac_init_32 (fun H locs hP hD hS hz => ?_)
  refine lv_iconst (pc := 35) (v := (0 : Int32)) hx hb d_Mac_init_35 (by decide) ?_
  refine lv_istore_n (pc := 36) (lv' := [(1, .int (0 : Int32)), (0, .ref (b + 1))]) hx hb d_Mac_init_36 rfl hl (by decide) rfl (fun ls hl => ?_)
  refine lv_iload_n (pc := 37) hx hb d_Mac_init_37 rfl (lv_at hl 0 rfl) ?_
  refine lv_bipush (pc := 38) (v := (8 : Int32)) hx hb d_Mac_init_38 (by decide) ?_
  refine lv_icmp_ge (pc := 40) (tgt := 62) hx hb d_Mac_init_40 (by decide) (fun g => absurd g (by decide)) (fun _ => ?_)
  refine lv_aload_n (pc := 43) hx hb d_Mac_init_43 rfl (lv_at hl 1 rfl) ?_
  refine va_get (pc := 44) (D := (dC, dI)) (ci := 3) (v := .ref (b + 12)) (C := R_Mac) (T := T_Mac) (N := 6) hx hb hts in_Mac hown hK hP 0 rfl rfl 2 (by decide) (hts _ tb_205) (fun _ h9 => h9) rfl d_Mac_init_44 ?_
  refine lv_iload_n (pc := 47) hx hb d_Mac_init_47 rfl (lv_at hl 0 rfl) ?_
  refine gz_new (pc := 48) (ci := 1) (fs := [.int 0, .int 0, .int 0, .int 0, .int 0, .int 0, .int 0, .null, .int 0, .int 0, .int 0, .int 0, .null, .int 0, .int 0, .int 0, .int 0]) (C := R_Frm) (T := T_Frm) (N := 17) hx hb hts in_Frm t_Frm ty_Frm hown (hts _ tb_125) (hts _ tb_127) (hts _ tb_48) hK hP hD hS hA rfl df_Frm (by show 11 + 1 ≤ _; exact Nat.le_of_ble_eq_true rfl) (by show 626 + 17 ≤ _; exact Nat.le_of_ble_eq_true rfl) (z := (b + 13)) hz d_Mac_init_48 (fun H hP hD hS hz => ?_)
  have hz : H.size = (b + 14) := hz
  refine lv_dup (pc := 51) hx hb d_Mac_init_51 rfl ?_
  refine gz_call (pc := 52) (k := 13) (n := 9) (mc := 8) (ms := 594) (va_runI (As := []) (rest := [.ref (b + 13), .int (0 : Int32), .ref (b + 12)]) ⟨hx, hb, hml, hown, hts⟩ (k_Frm_init l dC dI cI cR cZ b tP tN (by decide)) (cwI 0 hts (gx_good cd_Frm_init) rfl rfl rfl (hts _ tb_48) (hts _ tb_128) (hts _ tb_129) rfl ⟨by decide, by decide, by decide +kernel⟩ ⟨Nat.le_of_ble_eq_true rfl, Nat.le_of_ble_eq_true rfl⟩) (gz_pre hK hX hP hz) rfl rfl hl.1 rfl (lv_room (Nat.le_of_ble_eq_true rfl)) d_Mac_init_52 ⟨by show 12 + 8 ≤ _; exact Nat.le_of_ble_eq_true rfl, by show 643 + 594 ≤ _; exact Nat.le_of_ble_eq_true rfl⟩) hP hD hS hA hz (z := (b + 22)) rfl (fun H locs hP hD hS hz => ?_)
  rw [gz_nm (n := 0) (m := 9)] at hP hD
  have hv9 : va_at (dC, dI) cx_cl ((b + 13), .inr (1, [.int 0, .int 0, .int 0, .int 0, .int 0, .int 0, .int 0, .ref (b + (13 + 1)), .int 0, .int 0, .int 0, .int 0, .ref (b + (13 + 2)), .int 0, .int 0, .int 0, .int 0])) H := by rw [← sh_Frm cI cR b (k := 13) (by decide) (fun _ => 0)]; exact gz_i (gz_c (gz_r (gz_c hP))) 0 (by decide) rfl
  refine gz_ast (pc := 55) hx hb hK hP hD hS hz 11 1 1 (r := (R_Frm, T_Frm, 17)) gz_at11 rfl hv9 rfl (by unfold vp_in; decide) d_Mac_init_55 (fun H locs hP hD hS hz => ?_)
  rw [gz_set11] at hP hD
  refine lv_iinc (pc := 56) (k := 0) (v := (1 : Int32)) (lv' := [(1, .int (1 : Int32)), (0, .ref (b + 1))]) hx hb d_Mac_init_56 hl rfl (by decide) (by decide) rfl (fun ls hl => ?_)
  refine lv_goto (pc := 59) (tgt := 37) hx hb d_Mac_init_59 (by decide) ?_
  refine lv_iload_n (pc := 37) hx hb d_Mac_init_37 rfl (lv_at hl 0 rfl) ?_
  refine lv_bipush (pc := 38) (v := (8 : Int32)) hx hb d_Mac_init_38 (by decide) ?_
  refine lv_icmp_ge (pc := 40) (tgt := 62) hx hb d_Mac_init_40 (by decide) (fun g => absurd g (by decide)) (fun _ => ?_)
  refine lv_aload_n (pc := 43) hx hb d_Mac_init_43 rfl (lv_at hl 1 rfl) ?_
  refine va_get (pc := 44) (D := (dC, dI)) (ci := 3) (v := .ref (b + 12)) (C := R_Mac) (T := T_Mac) (N := 6) hx hb hts in_Mac hown hK hP 0 rfl rfl 2 (by decide) (hts _ tb_205) (fun _ h9 => h9) rfl d_Mac_init_44 ?_
  refine lv_iload_n (pc := 47) hx hb d_Mac_init_47 rfl (lv_at hl 0 rfl) ?_
  refine gz_new (pc := 48) (ci := 1) (fs := [.int 0, .int 0, .int 0, .int 0, .int 0, .int 0, .int 0, .null, .int 0, .int 0, .int 0, .int 0, .null, .int 0, .int 0, .int 0, .int 0]) (C := R_Frm) (T := T_Frm) (N := 17) hx hb hts in_Frm t_Frm ty_Frm hown (hts _ tb_125) (hts _ tb_127) (hts _ tb_48) hK hP hD hS hA rfl df_Frm (by show 20 + 1 ≤ _; exact Nat.le_of_ble_eq_true rfl) (by show 1237 + 17 ≤ _; exact Nat.le_of_ble_eq_true rfl) (z := (b + 22)) hz d_Mac_init_48 (fun H hP hD hS hz => ?_)
  have hz : H.size = (b + 23) := hz
  refine lv_dup (pc := 51) hx hb d_Mac_init_51 rfl ?_
  refine gz_call (pc := 52) (k := 22) (n := 9) (mc := 8) (ms := 594) (va_runI (As := []) (rest := [.ref (b + 22), .int (1 : Int32), .ref (b + 12)]) ⟨hx, hb, hml, hown, hts⟩ (k_Frm_init l dC dI cI cR cZ b tP tN (by decide)) (cwI 0 hts (gx_good cd_Frm_init) rfl rfl rfl (hts _ tb_48) (hts _ tb_128) (hts _ tb_129) rfl ⟨by decide, by decide, by decide +kernel⟩ ⟨Nat.le_of_ble_eq_true rfl, Nat.le_of_ble_eq_true rfl⟩) (gz_pre hK hX hP hz) rfl rfl hl.1 rfl (lv_room (Nat.le_of_ble_eq_true rfl)) d_Mac_init_52 ⟨by show 21 + 8 ≤ _; exact Nat.le_of_ble_eq_true rfl, by show 1254 + 594 ≤ _; exact Nat.le_of_ble_eq_true rfl⟩) hP hD hS hA hz (z := (b + 31)) rfl (fun H locs hP hD hS hz => ?_)
  rw [gz_nm (n := 9) (m := 9)] at hP hD
  have hv9 : va_at (dC, dI) cx_cl ((b + 22), .inr (1, [.int 0, .int 0, .int 0, .int 0, .int 0, .int 0, .int 0, .ref (b + (22 + 1)), .int 0, .int 0, .int 0, .int 0, .ref (b + (22 + 2)), .int 0, .int 0, .int 0, .int 0])) H := by rw [← sh_Frm cI cR b (k := 22) (by decide) (fun _ => 0)]; exact gz_i (gz_c (gz_r (gz_c hP))) 9 (by decide) rfl
  refine gz_ast (pc := 55) hx hb hK hP hD hS hz 11 1 1 (r := (R_Frm, T_Frm, 17)) gz_at11 rfl hv9 rfl (by unfold vp_in; decide) d_Mac_init_55 (fun H locs hP hD hS hz => ?_)
  rw [gz_set11] at hP hD
  refine lv_iinc (pc := 56) (k := 0) (v := (2 : Int32)) (lv' := [(1, .int (2 : Int32)), (0, .ref (b + 1))]) hx hb d_Mac_init_56 hl rfl (by decide) (by decide) rfl (fun ls hl => ?_)
  refine lv_goto (pc := 59) (tgt := 37) hx hb d_Mac_init_59 (by decide) ?_
  refine lv_iload_n (pc := 37) hx hb d_Mac_init_37 rfl (lv_at hl 0 rfl) ?_
  refine lv_bipush (pc := 38) (v := (8 : Int32)) hx hb d_Mac_init_38 (by decide) ?_
  refine lv_icmp_ge (pc := 40) (tgt := 62) hx hb d_Mac_init_40 (by decide) (fun g => absurd g (by decide)) (fun _ => ?_)
  refine lv_aload_n (pc := 43) hx hb d_Mac_init_43 rfl (lv_at hl 1 rfl) ?_
  refine va_get (pc := 44) (D := (dC, dI)) (ci := 3) (v := .ref (b + 12)) (C := R_Mac) (T := T_Mac) (N := 6) hx hb hts in_Mac hown hK hP 0 rfl rfl 2 (by decide) (hts _ tb_205) (fun _ h9 => h9) rfl d_Mac_init_44 ?_
  refine lv_iload_n (pc := 47) hx hb d_Mac_init_47 rfl (lv_at hl 0 rfl) ?_
  refine gz_new (pc := 48) (ci := 1) (fs := [.int 0, .int 0, .int 0, .int 0, .int 0, .int 0, .int 0, .null, .int 0, .int 0, .int 0, .int 0, .null, .int 0, .int 0, .int 0, .int 0]) (C := R_Frm) (T := T_Frm) (N := 17) hx hb hts in_Frm t_Frm ty_Frm hown (hts _ tb_125) (hts _ tb_127) (hts _ tb_48) hK hP hD hS hA rfl df_Frm (by show 29 + 1 ≤ _; exact Nat.le_of_ble_eq_true rfl) (by show 1848 + 17 ≤ _; exact Nat.le_of_ble_eq_true rfl) (z := (b + 31)) hz d_Mac_init_48 (fun H hP hD hS hz => ?_)
  have hz : H.size = (b + 32) := hz
  refine lv_dup (pc := 51) hx hb d_Mac_init_51 rfl ?_
  refine gz_call (pc := 52) (k := 31) (n := 9) (mc := 8) (ms := 594) (va_runI (As := []) (rest := [.ref (b + 31), .int (2 : Int32), .ref (b + 12)]) ⟨hx, hb, hml, hown, hts⟩ (k_Frm_init l dC dI cI cR cZ b tP tN (by decide)) (cwI 0 hts (gx_good cd_Frm_init) rfl rfl rfl (hts _ tb_48) (hts _ tb_128) (hts _ tb_129) rfl ⟨by decide, by decide, by decide +kernel⟩ ⟨Nat.le_of_ble_eq_true rfl, Nat.le_of_ble_eq_true rfl⟩) (gz_pre hK hX hP hz) rfl rfl hl.1 rfl (lv_room (Nat.le_of_ble_eq_true rfl)) d_Mac_init_52 ⟨by show 30 + 8 ≤ _; exact Nat.le_of_ble_eq_true rfl, by show 1865 + 594 ≤ _; exact Nat.le_of_ble_eq_true rfl⟩) hP hD hS hA hz (z := (b + 40)) rfl (fun H locs hP hD hS hz => ?_)
  rw [gz_nm (n := 18) (m := 9)] at hP hD
  have hv9 : va_at (dC, dI) cx_cl ((b + 31), .inr (1, [.int 0, .int 0, .int 0, .int 0, .int 0, .int 0, .int 0, .ref (b + (31 + 1)), .int 0, .int 0, .int 0, .int 0, .ref (b + (31 + 2)), .int 0, .int 0, .int 0, .int 0])) H := by rw [← sh_Frm cI cR b (k := 31) (by decide) (fun _ => 0)]; exact gz_i (gz_c (gz_r (gz_c hP))) 18 (by decide) rfl
  refine gz_ast (pc := 55) hx hb hK hP hD hS hz 11 1 1 (r := (R_Frm, T_Frm, 17)) gz_at11 rfl hv9 rfl (by unfold vp_in; decide) d_Mac_init_55 (fun H locs hP hD hS hz => ?_)
  rw [gz_set11] at hP hD
  refine lv_iinc (pc := 56) (k := 0) (v := (3 : Int32)) (lv' := [(1, .int (3 : Int32)), (0, .ref (b + 1))]) hx hb d_Mac_init_56 hl rfl (by decide) (by decide) rfl (fun ls hl => ?_)
  refine lv_goto (pc := 59) (tgt := 37) hx hb d_Mac_init_59 (by decide) ?_
  refine lv_iload_n (pc := 37) hx hb d_Mac_init_37 rfl (lv_at hl 0 rfl) ?_
  refine lv_bipush (pc := 38) (v := (8 : Int32)) hx hb d_Mac_init_38 (by decide) ?_
  refine lv_icmp_ge (pc := 40) (tgt := 62) hx hb d_Mac_init_40 (by decide) (fun g => absurd g (by decide)) (fun _ => ?_)
  refine lv_aload_n (pc := 43) hx hb d_Mac_init_43 rfl (lv_at hl 1 rfl) ?_
  refine va_get (pc := 44) (D := (dC, dI)) (ci := 3) (v := .ref (b + 12)) (C := R_Mac) (T := T_Mac) (N := 6) hx hb hts in_Mac hown hK hP 0 rfl rfl 2 (by decide) (hts _ tb_205) (fun _ h9 => h9) rfl d_Mac_init_44 ?_
  refine lv_iload_n (pc := 47) hx hb d_Mac_init_47 rfl (lv_at hl 0 rfl) ?_
  refine gz_new (pc := 48) (ci := 1) (fs := [.int 0, .int 0, .int 0, .int 0, .int 0, .int 0, .int 0, .null, .int 0, .int 0, .int 0, .int 0, .null, .int 0, .int 0, .int 0, .int 0]) (C := R_Frm) (T := T_Frm) (N := 17) hx hb hts in_Frm t_Frm ty_Frm hown (hts _ tb_125) (hts _ tb_127) (hts _ tb_48) hK hP hD hS hA rfl df_Frm (by show 38 + 1 ≤ _; exact Nat.le_of_ble_eq_true rfl) (by show 2459 + 17 ≤ _; exact Nat.le_of_ble_eq_true rfl) (z := (b + 40)) hz d_Mac_init_48 (fun H hP hD hS hz => ?_)
  have hz : H.size = (b + 41) := hz
  refine lv_dup (pc := 51) hx hb d_Mac_init_51 rfl ?_
  refine gz_call (pc := 52) (k := 40) (n := 9) (mc := 8) (ms := 594) (va_runI (As := []) (rest := [.ref (b + 40), .int (3 : Int32), .ref (b + 12)]) ⟨hx, hb, hml, hown, hts⟩ (k_Frm_init l dC dI cI cR cZ b tP tN (by decide)) (cwI 0 hts (gx_good cd_Frm_init) rfl rfl rfl (hts _ tb_48) (hts _ tb_128) (hts _ tb_129) rfl ⟨by decide, by decide, by decide +kernel⟩ ⟨Nat.le_of_ble_eq_true rfl, Nat.le_of_ble_eq_true rfl⟩) (gz_pre hK hX hP hz) rfl rfl hl.1 rfl (lv_room (Nat.le_of_ble_eq_true rfl)) d_Mac_init_52 ⟨by show 39 + 8 ≤ _; exact Nat.le_of_ble_eq_true rfl, by show 2476 + 594 ≤ _; exact Nat.le_of_ble_eq_true rfl⟩) hP hD hS hA hz (z := (b + 49)) rfl (fun H locs hP hD hS hz => ?_)
  rw [gz_nm (n := 27) (m := 9)] at hP hD
  have hv9 : va_at (dC, dI) cx_cl ((b + 40), .inr (1, [.int 0, .int 0, .int 0, .int 0, .int 0, .int 0, .int 0, .ref (b + (40 + 1)), .int 0, .int 0, .int 0, .int 0, .ref (b + (40 + 2)), .int 0, .int 0, .int 0, .int 0])) H := by rw [← sh_Frm cI cR b (k := 40) (by decide) (fun _ => 0)]; exact gz_i (gz_c (gz_r (gz_c hP))) 27 (by decide) rfl
  refine gz_ast (pc := 55) hx hb hK hP hD hS hz 11 1 1 (r := (R_Frm, T_Frm, 17)) gz_at11 rfl hv9 rfl (by unfold vp_in; decide) d_Mac_init_55 (fun H locs hP hD hS hz => ?_)
  rw [gz_set11] at hP hD
  refine lv_iinc (pc := 56) (k := 0) (v := (4 : Int32)) (lv' := [(1, .int (4 : Int32)), (0, .ref (b + 1))]) hx hb d_Mac_init_56 hl rfl (by decide) (by decide) rfl (fun ls hl => ?_)
  refine lv_goto (pc := 59) (tgt := 37) hx hb d_Mac_init_59 (by decide) ?_
  refine lv_iload_n (pc := 37) hx hb d_Mac_init_37 rfl (lv_at hl 0 rfl) ?_
  refine lv_bipush (pc := 38) (v := (8 : Int32)) hx hb d_Mac_init_38 (by decide) ?_
  refine lv_icmp_ge (pc := 40) (tgt := 62) hx hb d_Mac_init_40 (by decide) (fun g => absurd g (by decide)) (fun _ => ?_)
  refine lv_aload_n (pc := 43) hx hb d_Mac_init_43 rfl (lv_at hl 1 rfl) ?_
  refine va_get (pc := 44) (D := (dC, dI)) (ci := 3) (v := .ref (b + 12)) (C := R_Mac) (T := T_Mac) (N := 6) hx hb hts in_Mac hown hK hP 0 rfl rfl 2 (by decide) (hts _ tb_205) (fun _ h9 => h9) rfl d_Mac_init_44 ?_
  refine lv_iload_n (pc := 47) hx hb d_Mac_init_47 rfl (lv_at hl 0 rfl) ?_
  refine gz_new (pc := 48) (ci := 1) (fs := [.int 0, .int 0, .int 0, .int 0, .int 0, .int 0, .int 0, .null, .int 0, .int 0, .int 0, .int 0, .null, .int 0, .int 0, .int 0, .int 0]) (C := R_Frm) (T := T_Frm) (N := 17) hx hb hts in_Frm t_Frm ty_Frm hown (hts _ tb_125) (hts _ tb_127) (hts _ tb_48) hK hP hD hS hA rfl df_Frm (by show 47 + 1 ≤ _; exact Nat.le_of_ble_eq_true rfl) (by show 3070 + 17 ≤ _; exact Nat.le_of_ble_eq_true rfl) (z := (b + 49)) hz d_Mac_init_48 (fun H hP hD hS hz => ?_)
  have hz : H.size = (b + 50) := hz
  refine lv_dup (pc := 51) hx hb d_Mac_init_51 rfl ?_
  refine gz_call (pc := 52) (k := 49) (n := 9) (mc := 8) (ms := 594) (va_runI (As := []) (rest := [.ref (b + 49), .int (4 : Int32), .ref (b + 12)]) ⟨hx, hb, hml, hown, hts⟩ (k_Frm_init l dC dI cI cR cZ b tP tN (by decide)) (cwI 0 hts (gx_good cd_Frm_init) rfl rfl rfl (hts _ tb_48) (hts _ tb_128) (hts _ tb_129) rfl ⟨by decide, by decide, by decide +kernel⟩ ⟨Nat.le_of_ble_eq_true rfl, Nat.le_of_ble_eq_true rfl⟩) (gz_pre hK hX hP hz) rfl rfl hl.1 rfl (lv_room (Nat.le_of_ble_eq_true rfl)) d_Mac_init_52 ⟨by show 48 + 8 ≤ _; exact Nat.le_of_ble_eq_true rfl, by show 3087 + 594 ≤ _; exact Nat.le_of_ble_eq_true rfl⟩) hP hD hS hA hz (z := (b + 58)) rfl (fun H locs hP hD hS hz => ?_)
  rw [gz_nm (n := 36) (m := 9)] at hP hD
  have hv9 : va_at (dC, dI) cx_cl ((b + 49), .inr (1, [.int 0, .int 0, .int 0, .int 0, .int 0, .int 0, .int 0, .ref (b + (49 + 1)), .int 0, .int 0, .int 0, .int 0, .ref (b + (49 + 2)), .int 0, .int 0, .int 0, .int 0])) H := by rw [← sh_Frm cI cR b (k := 49) (by decide) (fun _ => 0)]; exact gz_i (gz_c (gz_r (gz_c hP))) 36 (by decide) rfl
  refine gz_ast (pc := 55) hx hb hK hP hD hS hz 11 1 1 (r := (R_Frm, T_Frm, 17)) gz_at11 rfl hv9 rfl (by unfold vp_in; decide) d_Mac_init_55 (fun H locs hP hD hS hz => ?_)
  rw [gz_set11] at hP hD
  refine lv_iinc (pc := 56) (k := 0) (v := (5 : Int32)) (lv' := [(1, .int (5 : Int32)), (0, .ref (b + 1))]) hx hb d_Mac_init_56 hl rfl (by decide) (by decide) rfl (fun ls hl => ?_)
  refine lv_goto (pc := 59) (tgt := 37) hx hb d_Mac_init_59 (by decide) ?_
  refine lv_iload_n (pc := 37) hx hb d_Mac_init_37 rfl (lv_at hl 0 rfl) ?_
  refine lv_bipush (pc := 38) (v := (8 : Int32)) hx hb d_Mac_init_38 (by decide) ?_
  refine lv_icmp_ge (pc := 40) (tgt := 62) hx hb d_Mac_init_40 (by decide) (fun g => absurd g (by decide)) (fun _ => ?_)
  refine lv_aload_n (pc := 43) hx hb d_Mac_init_43 rfl (lv_at hl 1 rfl) ?_
  refine va_get (pc := 44) (D := (dC, dI)) (ci := 3) (v := .ref (b + 12)) (C := R_Mac) (T := T_Mac) (N := 6) hx hb hts in_Mac hown hK hP 0 rfl rfl 2 (by decide) (hts _ tb_205) (fun _ h9 => h9) rfl d_Mac_init_44 ?_
  refine lv_iload_n (pc := 47) hx hb d_Mac_init_47 rfl (lv_at hl 0 rfl) ?_
  refine gz_new (pc := 48) (ci := 1) (fs := [.int 0, .int 0, .int 0, .int 0, .int 0, .int 0, .int 0, .null, .int 0, .int 0, .int 0, .int 0, .null, .int 0, .int 0, .int 0, .int 0]) (C := R_Frm) (T := T_Frm) (N := 17) hx hb hts in_Frm t_Frm ty_Frm hown (hts _ tb_125) (hts _ tb_127) (hts _ tb_48) hK hP hD hS hA rfl df_Frm (by show 56 + 1 ≤ _; exact Nat.le_of_ble_eq_true rfl) (by show 3681 + 17 ≤ _; exact Nat.le_of_ble_eq_true rfl) (z := (b + 58)) hz d_Mac_init_48 (fun H hP hD hS hz => ?_)
  have hz : H.size = (b + 59) := hz
  refine lv_dup (pc := 51) hx hb d_Mac_init_51 rfl ?_
  refine gz_call (pc := 52) (k := 58) (n := 9) (mc := 8) (ms := 594) (va_runI (As := []) (rest := [.ref (b + 58), .int (5 : Int32), .ref (b + 12)]) ⟨hx, hb, hml, hown, hts⟩ (k_Frm_init l dC dI cI cR cZ b tP tN (by decide)) (cwI 0 hts (gx_good cd_Frm_init) rfl rfl rfl (hts _ tb_48) (hts _ tb_128) (hts _ tb_129) rfl ⟨by decide, by decide, by decide +kernel⟩ ⟨Nat.le_of_ble_eq_true rfl, Nat.le_of_ble_eq_true rfl⟩) (gz_pre hK hX hP hz) rfl rfl hl.1 rfl (lv_room (Nat.le_of_ble_eq_true rfl)) d_Mac_init_52 ⟨by show 57 + 8 ≤ _; exact Nat.le_of_ble_eq_true rfl, by show 3698 + 594 ≤ _; exact Nat.le_of_ble_eq_true rfl⟩) hP hD hS hA hz (z := (b + 67)) rfl (fun H locs hP hD hS hz => ?_)
  rw [gz_nm (n := 45) (m := 9)] at hP hD
  have hv9 : va_at (dC, dI) cx_cl ((b + 58), .inr (1, [.int 0, .int 0, .int 0, .int 0, .int 0, .int 0, .int 0, .ref (b + (58 + 1)), .int 0, .int 0, .int 0, .int 0, .ref (b + (58 + 2)), .int 0, .int 0, .int 0, .int 0])) H := by rw [← sh_Frm cI cR b (k := 58) (by decide) (fun _ => 0)]; exact gz_i (gz_c (gz_r (gz_c hP))) 45 (by decide) rfl
  refine gz_ast (pc := 55) hx hb hK hP hD hS hz 11 1 1 (r := (R_Frm, T_Frm, 17)) gz_at11 rfl hv9 rfl (by unfold vp_in; decide) d_Mac_init_55 (fun H locs hP hD hS hz => ?_)
  rw [gz_set11] at hP hD
  refine lv_iinc (pc := 56) (k := 0) (v := (6 : Int32)) (lv' := [(1, .int (6 : Int32)), (0, .ref (b + 1))]) hx hb d_Mac_init_56 hl rfl (by decide) (by decide) rfl (fun ls hl => ?_)
  refine lv_goto (pc := 59) (tgt := 37) hx hb d_Mac_init_59 (by decide) ?_
  refine lv_iload_n (pc := 37) hx hb d_Mac_init_37 rfl (lv_at hl 0 rfl) ?_
  refine lv_bipush (pc := 38) (v := (8 : Int32)) hx hb d_Mac_init_38 (by decide) ?_
  refine lv_icmp_ge (pc := 40) (tgt := 62) hx hb d_Mac_init_40 (by decide) (fun g => absurd g (by decide)) (fun _ => ?_)
  refine lv_aload_n (pc := 43) hx hb d_Mac_init_43 rfl (lv_at hl 1 rfl) ?_
  refine va_get (pc := 44) (D := (dC, dI)) (ci := 3) (v := .ref (b + 12)) (C := R_Mac) (T := T_Mac) (N := 6) hx hb hts in_Mac hown hK hP 0 rfl rfl 2 (by decide) (hts _ tb_205) (fun _ h9 => h9) rfl d_Mac_init_44 ?_
  refine lv_iload_n (pc := 47) hx hb d_Mac_init_47 rfl (lv_at hl 0 rfl) ?_
  refine gz_new (pc := 48) (ci := 1) (fs := [.int 0, .int 0, .int 0, .int 0, .int 0, .int 0, .int 0, .null, .int 0, .int 0, .int 0, .int 0, .null, .int 0, .int 0, .int 0, .int 0]) (C := R_Frm) (T := T_Frm) (N := 17) hx hb hts in_Frm t_Frm ty_Frm hown (hts _ tb_125) (hts _ tb_127) (hts _ tb_48) hK hP hD hS hA rfl df_Frm (by show 65 + 1 ≤ _; exact Nat.le_of_ble_eq_true rfl) (by show 4292 + 17 ≤ _; exact Nat.le_of_ble_eq_true rfl) (z := (b + 67)) hz d_Mac_init_48 (fun H hP hD hS hz => ?_)
  have hz : H.size = (b + 68) := hz
  refine lv_dup (pc := 51) hx hb d_Mac_init_51 rfl ?_
  refine gz_call (pc := 52) (k := 67) (n := 9) (mc := 8) (ms := 594) (va_runI (As := []) (rest := [.ref (b + 67), .int (6 : Int32), .ref (b + 12)]) ⟨hx, hb, hml, hown, hts⟩ (k_Frm_init l dC dI cI cR cZ b tP tN (by decide)) (cwI 0 hts (gx_good cd_Frm_init) rfl rfl rfl (hts _ tb_48) (hts _ tb_128) (hts _ tb_129) rfl ⟨by decide, by decide, by decide +kernel⟩ ⟨Nat.le_of_ble_eq_true rfl, Nat.le_of_ble_eq_true rfl⟩) (gz_pre hK hX hP hz) rfl rfl hl.1 rfl (lv_room (Nat.le_of_ble_eq_true rfl)) d_Mac_init_52 ⟨by show 66 + 8 ≤ _; exact Nat.le_of_ble_eq_true rfl, by show 4309 + 594 ≤ _; exact Nat.le_of_ble_eq_true rfl⟩) hP hD hS hA hz (z := (b + 76)) rfl (fun H locs hP hD hS hz => ?_)
  rw [gz_nm (n := 54) (m := 9)] at hP hD
  have hv9 : va_at (dC, dI) cx_cl ((b + 67), .inr (1, [.int 0, .int 0, .int 0, .int 0, .int 0, .int 0, .int 0, .ref (b + (67 + 1)), .int 0, .int 0, .int 0, .int 0, .ref (b + (67 + 2)), .int 0, .int 0, .int 0, .int 0])) H := by rw [← sh_Frm cI cR b (k := 67) (by decide) (fun _ => 0)]; exact gz_i (gz_c (gz_r (gz_c hP))) 54 (by decide) rfl
  refine gz_ast (pc := 55) hx hb hK hP hD hS hz 11 1 1 (r := (R_Frm, T_Frm, 17)) gz_at11 rfl hv9 rfl (by unfold vp_in; decide) d_Mac_init_55 (fun H locs hP hD hS hz => ?_)
  rw [gz_set11] at hP hD
  refine lv_iinc (pc := 56) (k := 0) (v := (7 : Int32)) (lv' := [(1, .int (7 : Int32)), (0, .ref (b + 1))]) hx hb d_Mac_init_56 hl rfl (by decide) (by decide) rfl (fun ls hl => ?_)
  refine lv_goto (pc := 59) (tgt := 37) hx hb d_Mac_init_59 (by decide) ?_
  refine lv_iload_n (pc := 37) hx hb d_Mac_init_37 rfl (lv_at hl 0 rfl) ?_
  refine lv_bipush (pc := 38) (v := (8 : Int32)) hx hb d_Mac_init_38 (by decide) ?_
  refine lv_icmp_ge (pc := 40) (tgt := 62) hx hb d_Mac_init_40 (by decide) (fun g => absurd g (by decide)) (fun _ => ?_)
  refine lv_aload_n (pc := 43) hx hb d_Mac_init_43 rfl (lv_at hl 1 rfl) ?_
  refine va_get (pc := 44) (D := (dC, dI)) (ci := 3) (v := .ref (b + 12)) (C := R_Mac) (T := T_Mac) (N := 6) hx hb hts in_Mac hown hK hP 0 rfl rfl 2 (by decide) (hts _ tb_205) (fun _ h9 => h9) rfl d_Mac_init_44 ?_
  refine lv_iload_n (pc := 47) hx hb d_Mac_init_47 rfl (lv_at hl 0 rfl) ?_
  refine gz_new (pc := 48) (ci := 1) (fs := [.int 0, .int 0, .int 0, .int 0, .int 0, .int 0, .int 0, .null, .int 0, .int 0, .int 0, .int 0, .null, .int 0, .int 0, .int 0, .int 0]) (C := R_Frm) (T := T_Frm) (N := 17) hx hb hts in_Frm t_Frm ty_Frm hown (hts _ tb_125) (hts _ tb_127) (hts _ tb_48) hK hP hD hS hA rfl df_Frm (by show 74 + 1 ≤ _; exact Nat.le_of_ble_eq_true rfl) (by show 4903 + 17 ≤ _; exact Nat.le_of_ble_eq_true rfl) (z := (b + 76)) hz d_Mac_init_48 (fun H hP hD hS hz => ?_)
  have hz : H.size = (b + 77) := hz
  refine lv_dup (pc := 51) hx hb d_Mac_init_51 rfl ?_
  refine gz_call (pc := 52) (k := 76) (n := 9) (mc := 8) (ms := 594) (va_runI (As := []) (rest := [.ref (b + 76), .int (7 : Int32), .ref (b + 12)]) ⟨hx, hb, hml, hown, hts⟩ (k_Frm_init l dC dI cI cR cZ b tP tN (by decide)) (cwI 0 hts (gx_good cd_Frm_init) rfl rfl rfl (hts _ tb_48) (hts _ tb_128) (hts _ tb_129) rfl ⟨by decide, by decide, by decide +kernel⟩ ⟨Nat.le_of_ble_eq_true rfl, Nat.le_of_ble_eq_true rfl⟩) (gz_pre hK hX hP hz) rfl rfl hl.1 rfl (lv_room (Nat.le_of_ble_eq_true rfl)) d_Mac_init_52 ⟨by show 75 + 8 ≤ _; exact Nat.le_of_ble_eq_true rfl, by show 4920 + 594 ≤ _; exact Nat.le_of_ble_eq_true rfl⟩) hP hD hS hA hz (z := (b + 85)) rfl (fun H locs hP hD hS hz => ?_)
  rw [gz_nm (n := 63) (m := 9)] at hP hD
  have hv9 : va_at (dC, dI) cx_cl ((b + 76), .inr (1, [.int 0, .int 0, .int 0, .int 0, .int 0, .int 0, .int 0, .ref (b + (76 + 1)), .int 0, .int 0, .int 0, .int 0, .ref (b + (76 + 2)), .int 0, .int 0, .int 0, .int 0])) H := by rw [← sh_Frm cI cR b (k := 76) (by decide) (fun _ => 0)]; exact gz_i (gz_c (gz_r (gz_c hP))) 63 (by decide) rfl
  refine gz_ast (pc := 55) hx hb hK hP hD hS hz 11 1 1 (r := (R_Frm, T_Frm, 17)) gz_at11 rfl hv9 rfl (by unfold vp_in; decide) d_Mac_init_55 (fun H locs hP hD hS hz => ?_)
  rw [gz_set11] at hP hD
  refine lv_iinc (pc := 56) (k := 0) (v := (8 : Int32)) (lv' := [(1, .int (8 : Int32)), (0, .ref (b + 1))]) hx hb d_Mac_init_56 hl rfl (by decide) (by decide) rfl (fun ls hl => ?_)
  refine lv_goto (pc := 59) (tgt := 37) hx hb d_Mac_init_59 (by decide) ?_
  refine lv_iload_n (pc := 37) hx hb d_Mac_init_37 rfl (lv_at hl 0 rfl) ?_
  refine lv_bipush (pc := 38) (v := (8 : Int32)) hx hb d_Mac_init_38 (by decide) ?_
  refine lv_icmp_ge (pc := 40) (tgt := 62) hx hb d_Mac_init_40 (by decide) (fun _ => ?_) (fun g => absurd (by decide) g)
  have hF : va_P (dC, dI) cx_cl (gz_L (cx_sh cI cR b) b 1 84 (fun _ _ => 0)) H := by
    refine gz_fin (fun j hj => ?_)
    rw [Nat.add_assoc]
    by_cases h0 : j = 0
    · subst h0
      exact (show va_at _ _ (b + 1, cx_sh cI cR b 1 (fun _ => 0)) H from by rw [sh_Mac cI cR b (k := 1) (by decide)]; exact gz_h hP)
    by_cases h1 : j < 11
    · exact gz_i (gz_l (gz_c hP)) (j - 1) (by omega) (by omega)
    by_cases h2 : j = 11
    · subst h2
      exact (show va_at _ _ (b + 12, cx_sh cI cR b 12 (fun _ => 0)) H from by
        rw [sh_frames cI cR b (k := 12) (by decide)]
        exact gz_ext (fun j hj => by
          match j, hj with
          | 0, _ => rfl
          | 1, _ => rfl
          | 2, _ => rfl
          | 3, _ => rfl
          | 4, _ => rfl
          | 5, _ => rfl
          | 6, _ => rfl
          | 7, _ => rfl
          | j + 8, hj => exact absurd hj (by omega)) (gz_h (gz_r (gz_c hP))))
    exact gz_i (gz_c (gz_r (gz_c hP))) (j - 12) (by omega) (by omega)
  have hz : H.size = b + (1 + 84) := hz
  exact W.vret (cells := 83) (slots := 5514) hx hb hr (fun t ht _ => ⟨rfl, by rw [ht]; exact hF, by rw [ht]; exact hz, by rw [hAe]; exact hS.F ht⟩) hS.2.2 d_Mac_init_62
