abbrev rm_Acc_init : Room := { frames := 1, cells := 6, slots := 576, locals := 64 }
set_option maxRecDepth 100000 in
set_option maxHeartbeats 8000000 in
theorem k_Acc_init (l : Launch) (dC : Nat → ClassId) (dI : Nat → Nat → Nat) (cI cR cZ : ClassId) (b tP tN : Nat) {k : Nat} (hk : cx_kd k = 0) : gz_C l y_Acc_init w_Acc_init rm_Acc_init (dC, dI) cx_cl (gx_ty cI cR cZ) (cx_sh cI cR b) b k 7 576 (fun _ _ => 0) (.inr (0, [.null, .null, .null, .null, .null, .null])) := by
  refine Met.ofW (cc := b_Acc_init) (maxL := 1) (ret := none) (by decide) rfl ?_
  intro p e s m args below meth c s₁ B hml hv
  obtain ⟨rfl, hz, hP, hK, hX⟩ := hv
  have hx := B.exec
  have hb := B.bytes
  have hr := B.returns
  have hlk := B.notSynchronized
  have hts0 := atoms_spec (ws := w_Acc_init) B.pre
  have hts : ∀ w ∈ cx_tb, w.before _ s = true := fun w hw => hts0 w (List.mem_cons_of_mem _ hw)
  have hown : s.vm.findClass "GasLedger$Accounts" = some m.cls := findClass_of_methodNamed B.named
  have hin : meth.name = "<init>" := (name_of_methodNamed B.named B.method).1
  generalize hAe : va_A [(b + k, .inr (0, [.null, .null, .null, .null, .null, .null]))] (b + (k + 1)) = A
  have hA : ∀ q : Nat, s.heap.size ≤ q → A q := fun q h => by rw [← hAe]; exact Or.inr (by rw [← hz]; exact h)
  have hD : va_D A [(b + k, .inr (0, [.null, .null, .null, .null, .null, .null]))] := gz_D1 (by rw [← hAe]; exact Or.inl ⟨0, _, rfl⟩)
  have hS : va_S A s.heap s.heap [] := va_S.rf
  have hz : s.heap.size = (b + (k + 1)) := hz
  have hl := lv_entry ([.ref (b + k)]) (n := 1) (Nat.le_of_ble_eq_true rfl)
  rw [lg_entry_eq]
  generalize (lg_sl ([.ref (b + k)]) ++ List.replicate (1 - (lg_sl ([.ref (b + k)])).length) Slot.unset).toArray = ls at hl ⊢
  have hl : lv_has ls 1 [(0, .ref (b + k))] := hl
  refine lv_aload_n (pc := 0) hx hb d_Acc_init_0 rfl (lv_at hl 0 rfl) ?_
  refine W.objInit hx hb hown (hts _ tb_73) (hts _ tb_60) (hts _ tb_oi) rfl (by rw [hml]; exact hl.1) rfl d_Acc_init_1 (Nat.le_of_ble_eq_true rfl) (Nat.le_of_ble_eq_true rfl) ?_
  refine W.eq (g2 := F0 m 4 ls []) rfl ?_
  refine lv_aload_n (pc := 4) hx hb d_Acc_init_4 rfl (lv_at hl 0 rfl) ?_
  refine lv_bipush (pc := 5) (v := (16 : Int32)) hx hb d_Acc_init_5 (by decide) ?_
  refine gz_newa (pc := 7) (atype := .int) hx hb (hts _ tb_101) (hK.2 0 _ rfl).2 hP hD hS hA (a0 := (16, .inl (fun _ => 0))) (gz_ai _) (by decide) (N' := 16) (by decide) (by decide) (by show 0 + 1 ≤ _; exact Nat.le_of_ble_eq_true rfl) (by show 0 + 16 ≤ _; exact Nat.le_of_ble_eq_true rfl) (z := (b + (k + 1))) hz d_Acc_init_7 (fun H hP hD hS hz => ?_)
  have hz : H.size = (b + (k + 2)) := hz
  have hP : va_P (dC, dI) cx_cl [((b + k), .inr (0, [.null, .null, .null, .null, .null, .null])), ((b + (k + 1)), .inl (cI, 16, .inl (fun _ => 0)))] H := hP
  have hD : va_D A [((b + k), .inr (0, [.null, .null, .null, .null, .null, .null])), ((b + (k + 1)), .inl (cI, 16, .inl (fun _ => 0)))] := hD
  refine gz_put (pc := 9) (D := (dC, dI)) (ci := 0) (v := .ref (b + (k + 1))) (ty := (.array .int)) (C := R_Acc) (T := T_Acc) (N := 6) hx hb hts in_Acc t_Acc ty_Acc nm_Acc hown hK rfl hP hD hS hz rfl 0 (by decide) (hts _ tb_74) rfl hin (by decide +kernel) rfl rfl (Nat.le_of_ble_eq_true rfl) (fs' := [.ref (b + (k + 1)), .null, .null, .null, .null, .null]) rfl d_Acc_init_9 (fun H locs hP hD hS hz => ?_)
  refine lv_aload_n (pc := 12) hx hb d_Acc_init_12 rfl (lv_at hl 0 rfl) ?_
  refine lv_bipush (pc := 13) (v := (16 : Int32)) hx hb d_Acc_init_13 (by decide) ?_
  refine gz_newa (pc := 15) (atype := .int) hx hb (hts _ tb_101) (hK.2 0 _ rfl).2 hP hD hS hA (a0 := (16, .inl (fun _ => 0))) (gz_ai _) (by decide) (N' := 16) (by decide) (by decide) (by show 1 + 1 ≤ _; exact Nat.le_of_ble_eq_true rfl) (by show 16 + 16 ≤ _; exact Nat.le_of_ble_eq_true rfl) (z := (b + (k + 2))) hz d_Acc_init_15 (fun H hP hD hS hz => ?_)
  have hz : H.size = (b + (k + 3)) := hz
  have hP : va_P (dC, dI) cx_cl [((b + k), .inr (0, [.ref (b + (k + 1)), .null, .null, .null, .null, .null])), ((b + (k + 1)), .inl (cI, 16, .inl (fun _ => 0))), ((b + (k + 2)), .inl (cI, 16, .inl (fun _ => 0)))] H := hP
  have hD : va_D A [((b + k), .inr (0, [.ref (b + (k + 1)), .null, .null, .null, .null, .null])), ((b + (k + 1)), .inl (cI, 16, .inl (fun _ => 0))), ((b + (k + 2)), .inl (cI, 16, .inl (fun _ => 0)))] := hD
  refine gz_put (pc := 17) (D := (dC, dI)) (ci := 0) (v := .ref (b + (k + 2))) (ty := (.array .int)) (C := R_Acc) (T := T_Acc) (N := 6) hx hb hts in_Acc t_Acc ty_Acc nm_Acc hown hK rfl hP hD hS hz rfl 1 (by decide) (hts _ tb_77) rfl hin (by decide +kernel) rfl rfl (Nat.le_of_ble_eq_true rfl) (fs' := [.ref (b + (k + 1)), .ref (b + (k + 2)), .null, .null, .null, .null]) rfl d_Acc_init_17 (fun H locs hP hD hS hz => ?_)
  refine lv_aload_n (pc := 20) hx hb d_Acc_init_20 rfl (lv_at hl 0 rfl) ?_
  refine lv_bipush (pc := 21) (v := (16 : Int32)) hx hb d_Acc_init_21 (by decide) ?_
  refine gz_newa (pc := 23) (atype := .int) hx hb (hts _ tb_101) (hK.2 0 _ rfl).2 hP hD hS hA (a0 := (16, .inl (fun _ => 0))) (gz_ai _) (by decide) (N' := 16) (by decide) (by decide) (by show 2 + 1 ≤ _; exact Nat.le_of_ble_eq_true rfl) (by show 32 + 16 ≤ _; exact Nat.le_of_ble_eq_true rfl) (z := (b + (k + 3))) hz d_Acc_init_23 (fun H hP hD hS hz => ?_)
  have hz : H.size = (b + (k + 4)) := hz
  have hP : va_P (dC, dI) cx_cl [((b + k), .inr (0, [.ref (b + (k + 1)), .ref (b + (k + 2)), .null, .null, .null, .null])), ((b + (k + 1)), .inl (cI, 16, .inl (fun _ => 0))), ((b + (k + 2)), .inl (cI, 16, .inl (fun _ => 0))), ((b + (k + 3)), .inl (cI, 16, .inl (fun _ => 0)))] H := hP
  have hD : va_D A [((b + k), .inr (0, [.ref (b + (k + 1)), .ref (b + (k + 2)), .null, .null, .null, .null])), ((b + (k + 1)), .inl (cI, 16, .inl (fun _ => 0))), ((b + (k + 2)), .inl (cI, 16, .inl (fun _ => 0))), ((b + (k + 3)), .inl (cI, 16, .inl (fun _ => 0)))] := hD
  refine gz_put (pc := 25) (D := (dC, dI)) (ci := 0) (v := .ref (b + (k + 3))) (ty := (.array .int)) (C := R_Acc) (T := T_Acc) (N := 6) hx hb hts in_Acc t_Acc ty_Acc nm_Acc hown hK rfl hP hD hS hz rfl 2 (by decide) (hts _ tb_80) rfl hin (by decide +kernel) rfl rfl (Nat.le_of_ble_eq_true rfl) (fs' := [.ref (b + (k + 1)), .ref (b + (k + 2)), .ref (b + (k + 3)), .null, .null, .null]) rfl d_Acc_init_25 (fun H locs hP hD hS hz => ?_)
  refine lv_aload_n (pc := 28) hx hb d_Acc_init_28 rfl (lv_at hl 0 rfl) ?_
  refine lv_sipush (pc := 29) (v := (384 : Int32)) hx hb d_Acc_init_29 (by decide) ?_
  refine gz_newa (pc := 32) (atype := .int) hx hb (hts _ tb_101) (hK.2 0 _ rfl).2 hP hD hS hA (a0 := (384, .inl (fun _ => 0))) (gz_ai _) (by decide) (N' := 384) (by decide) (by decide) (by show 3 + 1 ≤ _; exact Nat.le_of_ble_eq_true rfl) (by show 48 + 384 ≤ _; exact Nat.le_of_ble_eq_true rfl) (z := (b + (k + 4))) hz d_Acc_init_32 (fun H hP hD hS hz => ?_)
  have hz : H.size = (b + (k + 5)) := hz
  have hP : va_P (dC, dI) cx_cl [((b + k), .inr (0, [.ref (b + (k + 1)), .ref (b + (k + 2)), .ref (b + (k + 3)), .null, .null, .null])), ((b + (k + 1)), .inl (cI, 16, .inl (fun _ => 0))), ((b + (k + 2)), .inl (cI, 16, .inl (fun _ => 0))), ((b + (k + 3)), .inl (cI, 16, .inl (fun _ => 0))), ((b + (k + 4)), .inl (cI, 384, .inl (fun _ => 0)))] H := hP
  have hD : va_D A [((b + k), .inr (0, [.ref (b + (k + 1)), .ref (b + (k + 2)), .ref (b + (k + 3)), .null, .null, .null])), ((b + (k + 1)), .inl (cI, 16, .inl (fun _ => 0))), ((b + (k + 2)), .inl (cI, 16, .inl (fun _ => 0))), ((b + (k + 3)), .inl (cI, 16, .inl (fun _ => 0))), ((b + (k + 4)), .inl (cI, 384, .inl (fun _ => 0)))] := hD
  refine gz_put (pc := 34) (D := (dC, dI)) (ci := 0) (v := .ref (b + (k + 4))) (ty := (.array .int)) (C := R_Acc) (T := T_Acc) (N := 6) hx hb hts in_Acc t_Acc ty_Acc nm_Acc hown hK rfl hP hD hS hz rfl 3 (by decide) (hts _ tb_83) rfl hin (by decide +kernel) rfl rfl (Nat.le_of_ble_eq_true rfl) (fs' := [.ref (b + (k + 1)), .ref (b + (k + 2)), .ref (b + (k + 3)), .ref (b + (k + 4)), .null, .null]) rfl d_Acc_init_34 (fun H locs hP hD hS hz => ?_)
  refine lv_aload_n (pc := 37) hx hb d_Acc_init_37 rfl (lv_at hl 0 rfl) ?_
  refine lv_sipush (pc := 38) (v := (128 : Int32)) hx hb d_Acc_init_38 (by decide) ?_
  refine gz_newa (pc := 41) (atype := .int) hx hb (hts _ tb_101) (hK.2 0 _ rfl).2 hP hD hS hA (a0 := (128, .inl (fun _ => 0))) (gz_ai _) (by decide) (N' := 128) (by decide) (by decide) (by show 4 + 1 ≤ _; exact Nat.le_of_ble_eq_true rfl) (by show 432 + 128 ≤ _; exact Nat.le_of_ble_eq_true rfl) (z := (b + (k + 5))) hz d_Acc_init_41 (fun H hP hD hS hz => ?_)
  have hz : H.size = (b + (k + 6)) := hz
  have hP : va_P (dC, dI) cx_cl [((b + k), .inr (0, [.ref (b + (k + 1)), .ref (b + (k + 2)), .ref (b + (k + 3)), .ref (b + (k + 4)), .null, .null])), ((b + (k + 1)), .inl (cI, 16, .inl (fun _ => 0))), ((b + (k + 2)), .inl (cI, 16, .inl (fun _ => 0))), ((b + (k + 3)), .inl (cI, 16, .inl (fun _ => 0))), ((b + (k + 4)), .inl (cI, 384, .inl (fun _ => 0))), ((b + (k + 5)), .inl (cI, 128, .inl (fun _ => 0)))] H := hP
  have hD : va_D A [((b + k), .inr (0, [.ref (b + (k + 1)), .ref (b + (k + 2)), .ref (b + (k + 3)), .ref (b + (k + 4)), .null, .null])), ((b + (k + 1)), .inl (cI, 16, .inl (fun _ => 0))), ((b + (k + 2)), .inl (cI, 16, .inl (fun _ => 0))), ((b + (k + 3)), .inl (cI, 16, .inl (fun _ => 0))), ((b + (k + 4)), .inl (cI, 384, .inl (fun _ => 0))), ((b + (k + 5)), .inl (cI, 128, .inl (fun _ => 0)))] := hD
  refine gz_put (pc := 43) (D := (dC, dI)) (ci := 0) (v := .ref (b + (k + 5))) (ty := (.array .int)) (C := R_Acc) (T := T_Acc) (N := 6) hx hb hts in_Acc t_Acc ty_Acc nm_Acc hown hK rfl hP hD hS hz rfl 4 (by decide) (hts _ tb_84) rfl hin (by decide +kernel) rfl rfl (Nat.le_of_ble_eq_true rfl) (fs' := [.ref (b + (k + 1)), .ref (b + (k + 2)), .ref (b + (k + 3)), .ref (b + (k + 4)), .ref (b + (k + 5)), .null]) rfl d_Acc_init_43 (fun H locs hP hD hS hz => ?_)
  refine lv_aload_n (pc := 46) hx hb d_Acc_init_46 rfl (lv_at hl 0 rfl) ?_
  refine lv_bipush (pc := 47) (v := (16 : Int32)) hx hb d_Acc_init_47 (by decide) ?_
  refine gz_newa (pc := 49) (atype := .int) hx hb (hts _ tb_101) (hK.2 0 _ rfl).2 hP hD hS hA (a0 := (16, .inl (fun _ => 0))) (gz_ai _) (by decide) (N' := 16) (by decide) (by decide) (by show 5 + 1 ≤ _; exact Nat.le_of_ble_eq_true rfl) (by show 560 + 16 ≤ _; exact Nat.le_of_ble_eq_true rfl) (z := (b + (k + 6))) hz d_Acc_init_49 (fun H hP hD hS hz => ?_)
  have hz : H.size = (b + (k + 7)) := hz
  have hP : va_P (dC, dI) cx_cl [((b + k), .inr (0, [.ref (b + (k + 1)), .ref (b + (k + 2)), .ref (b + (k + 3)), .ref (b + (k + 4)), .ref (b + (k + 5)), .null])), ((b + (k + 1)), .inl (cI, 16, .inl (fun _ => 0))), ((b + (k + 2)), .inl (cI, 16, .inl (fun _ => 0))), ((b + (k + 3)), .inl (cI, 16, .inl (fun _ => 0))), ((b + (k + 4)), .inl (cI, 384, .inl (fun _ => 0))), ((b + (k + 5)), .inl (cI, 128, .inl (fun _ => 0))), ((b + (k + 6)), .inl (cI, 16, .inl (fun _ => 0)))] H := hP
  have hD : va_D A [((b + k), .inr (0, [.ref (b + (k + 1)), .ref (b + (k + 2)), .ref (b + (k + 3)), .ref (b + (k + 4)), .ref (b + (k + 5)), .null])), ((b + (k + 1)), .inl (cI, 16, .inl (fun _ => 0))), ((b + (k + 2)), .inl (cI, 16, .inl (fun _ => 0))), ((b + (k + 3)), .inl (cI, 16, .inl (fun _ => 0))), ((b + (k + 4)), .inl (cI, 384, .inl (fun _ => 0))), ((b + (k + 5)), .inl (cI, 128, .inl (fun _ => 0))), ((b + (k + 6)), .inl (cI, 16, .inl (fun _ => 0)))] := hD
  refine gz_put (pc := 51) (D := (dC, dI)) (ci := 0) (v := .ref (b + (k + 6))) (ty := (.array .int)) (C := R_Acc) (T := T_Acc) (N := 6) hx hb hts in_Acc t_Acc ty_Acc nm_Acc hown hK rfl hP hD hS hz rfl 5 (by decide) (hts _ tb_87) rfl hin (by decide +kernel) rfl rfl (Nat.le_of_ble_eq_true rfl) (fs' := [.ref (b + (k + 1)), .ref (b + (k + 2)), .ref (b + (k + 3)), .ref (b + (k + 4)), .ref (b + (k + 5)), .ref (b + (k + 6))]) rfl d_Acc_init_51 (fun H locs hP hD hS hz => ?_)
  have hF : va_P (dC, dI) cx_cl (gz_L (cx_sh cI cR b) b k 7 (fun _ _ => 0)) H := by
    refine gz_fin (fun j hj => ?_)
    rw [Nat.add_assoc]
    match j, hj with
    | 0, _ => exact (show va_at _ _ (b + k, cx_sh cI cR b k _) H from (sh_Acc cI cR b hk _).symm ▸ hP 0 _ rfl)
    | 1, _ => exact (show va_at _ _ (b + (k + 1), cx_sh cI cR b (k + 1) _) H from by rw [sh_arr cI cR b (k := (k + 1)) (n := 16) (to_Acc_balances hk) _]; exact hP 1 _ rfl)
    | 2, _ => exact (show va_at _ _ (b + (k + 2), cx_sh cI cR b (k + 2) _) H from by rw [sh_arr cI cR b (k := (k + 2)) (n := 16) (to_Acc_nonces hk) _]; exact hP 2 _ rfl)
    | 3, _ => exact (show va_at _ _ (b + (k + 3), cx_sh cI cR b (k + 3) _) H from by rw [sh_arr cI cR b (k := (k + 3)) (n := 16) (to_Acc_sizes hk) _]; exact hP 3 _ rfl)
    | 4, _ => exact (show va_at _ _ (b + (k + 4), cx_sh cI cR b (k + 4) _) H from by rw [sh_arr cI cR b (k := (k + 4)) (n := 384) (to_Acc_words hk) _]; exact hP 4 _ rfl)
    | 5, _ => exact (show va_at _ _ (b + (k + 5), cx_sh cI cR b (k + 5) _) H from by rw [sh_arr cI cR b (k := (k + 5)) (n := 128) (to_Acc_slots hk) _]; exact hP 5 _ rfl)
    | 6, _ => exact (show va_at _ _ (b + (k + 6), cx_sh cI cR b (k + 6) _) H from by rw [sh_arr cI cR b (k := (k + 6)) (n := 16) (to_Acc_values hk) _]; exact hP 6 _ rfl)
    | j + 7, hj => exact absurd hj (by omega)
  have hz : H.size = b + (k + 7) := hz
  exact W.vret (cells := 6) (slots := 576) hx hb hr (fun t ht _ => ⟨rfl, by rw [ht]; exact hF, by rw [ht]; exact hz, by rw [hAe]; exact hS.F ht⟩) hS.2.2 d_Acc_init_54
