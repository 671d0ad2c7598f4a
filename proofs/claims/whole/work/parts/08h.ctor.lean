abbrev rm_Led_init : Room := { frames := 4, cells := 96, slots := 6171, locals := 125 }
set_option maxRecDepth 100000 in
set_option maxHeartbeats 8000000 in
theorem k_Led_init (l : Launch) (dC : Nat → ClassId) (dI : Nat → Nat → Nat) (cI cR cZ : ClassId) (b tP tN : Nat) : gz_C l y_Led_init w_Led_init rm_Led_init (dC, dI) cx_cl (gx_ty cI cR cZ) (cx_sh cI cR b) b 0 97 6171 cx_V0 (.inr (5, [.null, .null, .null, .int 0, .int 0, .int 0, .int 0, .int 0, .int 0, .int 0, .int 0, .int 0, .int 0, .int 0])) := by
  refine Met.ofW (cc := b_Led_init) (maxL := 1) (ret := none) (by decide) rfl ?_
  intro p e s m args below meth c s₁ B hml hv
  obtain ⟨rfl, hz, hP, hK, hX⟩ := hv
  have hx := B.exec
  have hb := B.bytes
  have hr := B.returns
  have hlk := B.notSynchronized
  have hts0 := atoms_spec (ws := w_Led_init) B.pre
  have hts : ∀ w ∈ cx_tb, w.before _ s = true := fun w hw => hts0 w (List.mem_cons_of_mem _ hw)
  have hown : s.vm.findClass "GasLedger" = some m.cls := findClass_of_methodNamed B.named
  have hin : meth.name = "<init>" := (name_of_methodNamed B.named B.method).1
  generalize hAe : va_A [(b + 0, .inr (5, [.null, .null, .null, .int 0, .int 0, .int 0, .int 0, .int 0, .int 0, .int 0, .int 0, .int 0, .int 0, .int 0]))] (b + (0 + 1)) = A
  have hA : ∀ q : Nat, s.heap.size ≤ q → A q := fun q h => by rw [← hAe]; exact Or.inr (by rw [← hz]; exact h)
  have hD : va_D A [(b + 0, .inr (5, [.null, .null, .null, .int 0, .int 0, .int 0, .int 0, .int 0, .int 0, .int 0, .int 0, .int 0, .int 0, .int 0]))] := gz_D1 (by rw [← hAe]; exact Or.inl ⟨0, _, rfl⟩)
  have hS : va_S A s.heap s.heap [] := va_S.rf
  have hz : s.heap.size = (b + 1) := hz
  have hl := lv_entry ([.ref (b + 0)]) (n := 1) (Nat.le_of_ble_eq_true rfl)
  rw [lg_entry_eq]
  generalize (lg_sl ([.ref (b + 0)]) ++ List.replicate (1 - (lg_sl ([.ref (b + 0)])).length) Slot.unset).toArray = ls at hl ⊢
  have hl : lv_has ls 1 [(0, .ref (b + 0))] := hl
  refine lv_aload_n (pc := 0) hx hb d_Led_init_0 rfl (lv_at hl 0 rfl) ?_
  refine W.objInit hx hb hown (hts _ tb_59) (hts _ tb_60) (hts _ tb_oi) rfl (by rw [hml]; exact hl.1) rfl d_Led_init_1 (Nat.le_of_ble_eq_true rfl) (Nat.le_of_ble_eq_true rfl) ?_
  refine W.eq (g2 := F0 m 4 ls []) rfl ?_
  refine lv_aload_n (pc := 4) hx hb d_Led_init_4 rfl (lv_at hl 0 rfl) ?_
  refine gz_new (pc := 5) (ci := 3) (fs := [.null, .null, .null, .int 0, .int 0, .int 0]) (C := R_Mac) (T := T_Mac) (N := 6) hx hb hts in_Mac t_Mac ty_Mac hown (hts _ tb_62) (hts _ tb_63) (hts _ tb_45) hK hP hD hS hA rfl df_Mac (by show 0 + 1 ≤ _; exact Nat.le_of_ble_eq_true rfl) (by show 0 + 6 ≤ _; exact Nat.le_of_ble_eq_true rfl) (z := (b + 1)) hz d_Led_init_5 (fun H hP hD hS hz => ?_)
  have hz : H.size = (b + 2) := hz
  refine lv_dup (pc := 8) hx hb d_Led_init_8 rfl ?_
  refine gz_call (pc := 9) (k := 1) (n := 84) (mc := 83) (ms := 5514) (va_runI (As := []) (rest := [.ref (b + 1), .ref (b + 0)]) ⟨hx, hb, hml, hown, hts⟩ (k_Mac_init l dC dI cI cR cZ b tP tN) (cwI 0 hts (gx_good cd_Mac_init) rfl rfl rfl (hts _ tb_45) (hts _ tb_64) (hts _ tb_65) rfl ⟨by decide, by decide, by decide +kernel⟩ ⟨Nat.le_of_ble_eq_true rfl, Nat.le_of_ble_eq_true rfl⟩) (gz_pre hK hX hP hz) rfl rfl hl.1 rfl (lv_room (Nat.le_of_ble_eq_true rfl)) d_Led_init_9 ⟨by show 1 + 83 ≤ _; exact Nat.le_of_ble_eq_true rfl, by show 6 + 5514 ≤ _; exact Nat.le_of_ble_eq_true rfl⟩) hP hD hS hA hz (z := (b + 85)) rfl (fun H locs hP hD hS hz => ?_)
  have hP : va_P (dC, dI) cx_cl (((b + 0), .inr (5, [.null, .null, .null, .int 0, .int 0, .int 0, .int 0, .int 0, .int 0, .int 0, .int 0, .int 0, .int 0, .int 0])) :: gz_L (cx_sh cI cR b) b 1 84 (fun _ _ => 0)) H := hP
  have hD : va_D A (((b + 0), .inr (5, [.null, .null, .null, .int 0, .int 0, .int 0, .int 0, .int 0, .int 0, .int 0, .int 0, .int 0, .int 0, .int 0])) :: gz_L (cx_sh cI cR b) b 1 84 (fun _ _ => 0)) := hD
  refine gz_put (pc := 12) (D := (dC, dI)) (ci := 5) (v := .ref (b + 1)) (ty := (.object "GasLedger$Machine")) (C := R_Led) (T := T_Led) (N := 14) hx hb hts in_Led t_Led ty_Led nm_Led hown hK rfl hP hD hS hz rfl 0 (by decide) (hts _ tb_248) rfl hin (by decide +kernel) rfl rfl (Nat.le_of_ble_eq_true rfl) (fs' := [.ref (b + 1), .null, .null, .int 0, .int 0, .int 0, .int 0, .int 0, .int 0, .int 0, .int 0, .int 0, .int 0, .int 0]) rfl d_Led_init_12 (fun H locs hP hD hS hz => ?_)
  refine lv_aload_n (pc := 15) hx hb d_Led_init_15 rfl (lv_at hl 0 rfl) ?_
  refine gz_new (pc := 16) (ci := 0) (fs := [.null, .null, .null, .null, .null, .null]) (C := R_Acc) (T := T_Acc) (N := 6) hx hb hts in_Acc t_Acc ty_Acc hown (hts _ tb_223) (hts _ tb_69) (hts _ tb_46) hK hP hD hS hA rfl df_Acc (by show 84 + 1 ≤ _; exact Nat.le_of_ble_eq_true rfl) (by show 5520 + 6 ≤ _; exact Nat.le_of_ble_eq_true rfl) (z := (b + 85)) hz d_Led_init_16 (fun H hP hD hS hz => ?_)
  have hz : H.size = (b + 86) := hz
  refine lv_dup (pc := 19) hx hb d_Led_init_19 rfl ?_
  refine gz_call (pc := 20) (k := 85) (n := 7) (mc := 6) (ms := 576) (va_runI (As := []) (rest := [.ref (b + 85), .ref (b + 0)]) ⟨hx, hb, hml, hown, hts⟩ (k_Acc_init l dC dI cI cR cZ b tP tN (by decide)) (cwI 0 hts (gx_good cd_Acc_init) rfl rfl rfl (hts _ tb_46) (hts _ tb_224) (hts _ tb_71) rfl ⟨by decide, by decide, by decide +kernel⟩ ⟨Nat.le_of_ble_eq_true rfl, Nat.le_of_ble_eq_true rfl⟩) (gz_pre hK hX hP hz) rfl rfl hl.1 rfl (lv_room (Nat.le_of_ble_eq_true rfl)) d_Led_init_20 ⟨by show 85 + 6 ≤ _; exact Nat.le_of_ble_eq_true rfl, by show 5526 + 576 ≤ _; exact Nat.le_of_ble_eq_true rfl⟩) hP hD hS hA hz (z := (b + 92)) rfl (fun H locs hP hD hS hz => ?_)
  have hP : va_P (dC, dI) cx_cl (((b + 0), .inr (5, [.ref (b + 1), .null, .null, .int 0, .int 0, .int 0, .int 0, .int 0, .int 0, .int 0, .int 0, .int 0, .int 0, .int 0])) :: gz_L (cx_sh cI cR b) b 1 91 (fun _ _ => 0)) H := (by rw [← gz_app (n := 84) (m := 7)]; exact hP)
  have hD : va_D A (((b + 0), .inr (5, [.ref (b + 1), .null, .null, .int 0, .int 0, .int 0, .int 0, .int 0, .int 0, .int 0, .int 0, .int 0, .int 0, .int 0])) :: gz_L (cx_sh cI cR b) b 1 91 (fun _ _ => 0)) := (by rw [← gz_app (n := 84) (m := 7)]; exact hD)
  refine gz_put (pc := 23) (D := (dC, dI)) (ci := 5) (v := .ref (b + 85)) (ty := (.object "GasLedger$Accounts")) (C := R_Led) (T := T_Led) (N := 14) hx hb hts in_Led t_Led ty_Led nm_Led hown hK rfl hP hD hS hz rfl 1 (by decide) (hts _ tb_249) rfl hin (by decide +kernel) rfl rfl (Nat.le_of_ble_eq_true rfl) (fs' := [.ref (b + 1), .ref (b + 85), .null, .int 0, .int 0, .int 0, .int 0, .int 0, .int 0, .int 0, .int 0, .int 0, .int 0, .int 0]) rfl d_Led_init_23 (fun H locs hP hD hS hz => ?_)
  refine lv_aload_n (pc := 26) hx hb d_Led_init_26 rfl (lv_at hl 0 rfl) ?_
  refine gz_new (pc := 27) (ci := 4) (fs := [.null, .null, .null, .null, .int 0]) (C := R_Rec) (T := T_Rec) (N := 5) hx hb hts in_Rec t_Rec ty_Rec hown (hts _ tb_225) (hts _ tb_226) (hts _ tb_49) hK hP hD hS hA rfl df_Rec (by show 91 + 1 ≤ _; exact Nat.le_of_ble_eq_true rfl) (by show 6102 + 5 ≤ _; exact Nat.le_of_ble_eq_true rfl) (z := (b + 92)) hz d_Led_init_27 (fun H hP hD hS hz => ?_)
  have hz : H.size = (b + 93) := hz
  refine lv_dup (pc := 30) hx hb d_Led_init_30 rfl ?_
  refine gz_call (pc := 31) (k := 92) (n := 5) (mc := 4) (ms := 64) (va_runI (As := []) (rest := [.ref (b + 92), .ref (b + 0)]) ⟨hx, hb, hml, hown, hts⟩ (k_Rec_init l dC dI cI cR cZ b tP tN (by decide)) (cwI 0 hts (gx_good cd_Rec_init) rfl rfl rfl (hts _ tb_49) (hts _ tb_227) (hts _ tb_228) rfl ⟨by decide, by decide, by decide +kernel⟩ ⟨Nat.le_of_ble_eq_true rfl, Nat.le_of_ble_eq_true rfl⟩) (gz_pre hK hX hP hz) rfl rfl hl.1 rfl (lv_room (Nat.le_of_ble_eq_true rfl)) d_Led_init_31 ⟨by show 92 + 4 ≤ _; exact Nat.le_of_ble_eq_true rfl, by show 6107 + 64 ≤ _; exact Nat.le_of_ble_eq_true rfl⟩) hP hD hS hA hz (z := (b + 97)) rfl (fun H locs hP hD hS hz => ?_)
  have hP : va_P (dC, dI) cx_cl (((b + 0), .inr (5, [.ref (b + 1), .ref (b + 85), .null, .int 0, .int 0, .int 0, .int 0, .int 0, .int 0, .int 0, .int 0, .int 0, .int 0, .int 0])) :: gz_L (cx_sh cI cR b) b 1 96 (fun _ _ => 0)) H := (by rw [← gz_app (n := 91) (m := 5)]; exact hP)
  have hD : va_D A (((b + 0), .inr (5, [.ref (b + 1), .ref (b + 85), .null, .int 0, .int 0, .int 0, .int 0, .int 0, .int 0, .int 0, .int 0, .int 0, .int 0, .int 0])) :: gz_L (cx_sh cI cR b) b 1 96 (fun _ _ => 0)) := (by rw [← gz_app (n := 91) (m := 5)]; exact hD)
  refine gz_put (pc := 34) (D := (dC, dI)) (ci := 5) (v := .ref (b + 92)) (ty := (.object "GasLedger$Receipts")) (C := R_Led) (T := T_Led) (N := 14) hx hb hts in_Led t_Led ty_Led nm_Led hown hK rfl hP hD hS hz rfl 2 (by decide) (hts _ tb_250) rfl hin (by decide +kernel) rfl rfl (Nat.le_of_ble_eq_true rfl) (fs' := [.ref (b + 1), .ref (b + 85), .ref (b + 92), .int 0, .int 0, .int 0, .int 0, .int 0, .int 0, .int 0, .int 0, .int 0, .int 0, .int 0]) rfl d_Led_init_34 (fun H locs hP hD hS hz => ?_)
  refine lv_aload_n (pc := 37) hx hb d_Led_init_37 rfl (lv_at hl 0 rfl) ?_
  refine lv_sipush (pc := 38) (v := (200 : Int32)) hx hb d_Led_init_38 (by decide) ?_
  refine gz_put (pc := 41) (D := (dC, dI)) (ci := 5) (v := .int (200 : Int32)) (ty := .int) (C := R_Led) (T := T_Led) (N := 14) hx hb hts in_Led t_Led ty_Led nm_Led hown hK rfl hP hD hS hz rfl 3 (by decide) (hts _ tb_251) rfl hin (by decide +kernel) rfl rfl (Nat.le_of_ble_eq_true rfl) (fs' := [.ref (b + 1), .ref (b + 85), .ref (b + 92), .int (200 : Int32), .int 0, .int 0, .int 0, .int 0, .int 0, .int 0, .int 0, .int 0, .int 0, .int 0]) rfl d_Led_init_41 (fun H locs hP hD hS hz => ?_)
  refine lv_aload_n (pc := 44) hx hb d_Led_init_44 rfl (lv_at hl 0 rfl) ?_
  refine lv_iconst (pc := 45) (v := (1 : Int32)) hx hb d_Led_init_45 (by decide) ?_
  refine gz_put (pc := 46) (D := (dC, dI)) (ci := 5) (v := .int (1 : Int32)) (ty := .int) (C := R_Led) (T := T_Led) (N := 14) hx hb hts in_Led t_Led ty_Led nm_Led hown hK rfl hP hD hS hz rfl 4 (by decide) (hts _ tb_252) rfl hin (by decide +kernel) rfl rfl (Nat.le_of_ble_eq_true rfl) (fs' := [.ref (b + 1), .ref (b + 85), .ref (b + 92), .int (200 : Int32), .int (1 : Int32), .int 0, .int 0, .int 0, .int 0, .int 0, .int 0, .int 0, .int 0, .int 0]) rfl d_Led_init_46 (fun H locs hP hD hS hz => ?_)
  have hF : va_P (dC, dI) cx_cl (gz_L (cx_sh cI cR b) b 0 97 cx_V0) H := by
    refine gz_fin (fun j hj => ?_)
    rw [Nat.add_assoc]
    by_cases h0 : j = 0
    · subst h0
      have e0 : cx_sh cI cR b 0 (cx_V0 0) = .inr (5, [.ref (b + 1), .ref (b + 85), .ref (b + 92), .int (200 : Int32), .int (1 : Int32), .int 0, .int 0, .int 0, .int 0, .int 0, .int 0, .int 0, .int 0, .int 0]) := sh_Led cI cR b (by decide) _
      exact (show va_at _ _ (b + 0, cx_sh cI cR b 0 (cx_V0 0)) H from by rw [e0]; exact gz_h hP)
    have e1 : cx_V0 (0 + j) = fun _ => 0 := by
      obtain ⟨i, rfl⟩ : ∃ i, j = i + 1 := ⟨j - 1, by omega⟩
      rw [Nat.zero_add]
      rfl
    rw [e1]
    exact gz_i (V := fun _ _ => 0) (gz_c hP) (j - 1) (by omega) (by omega)
  have hz : H.size = b + (0 + 97) := hz
  exact W.vret (cells := 96) (slots := 6171) hx hb hr (fun t ht _ => ⟨rfl, by rw [ht]; exact hF, by rw [ht]; exact hz, by rw [hAe]; exact hS.F ht⟩) hS.2.2 d_Led_init_49
