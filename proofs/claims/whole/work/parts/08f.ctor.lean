abbrev rm_Frm_init : Room := { frames := 2, cells := 8, slots := 594, locals := 84 }
set_option maxRecDepth 100000 in
set_option maxHeartbeats 8000000 in
theorem k_Frm_init (l : Launch) (dC : Nat → ClassId) (dI : Nat → Nat → Nat) (cI cR cZ : ClassId) (b tP tN : Nat) {k : Nat} (hk : cx_kd k = 1) : gz_C l y_Frm_init w_Frm_init rm_Frm_init (dC, dI) cx_cl (gx_ty cI cR cZ) (cx_sh cI cR b) b k 9 594 (fun _ _ => 0) (.inr (1, [.int 0, .int 0, .int 0, .int 0, .int 0, .int 0, .int 0, .null, .int 0, .int 0, .int 0, .int 0, .null, .int 0, .int 0, .int 0, .int 0])) := by
  refine Met.ofW (cc := b_Frm_init) (maxL := 1) (ret := none) (by decide) rfl ?_
  intro p e s m args below meth c s₁ B hml hv
  obtain ⟨rfl, hz, hP, hK, hX⟩ := hv
  have hx := B.exec
  have hb := B.bytes
  have hr := B.returns
  have hlk := B.notSynchronized
  have hts0 := atoms_spec (ws := w_Frm_init) B.pre
  have hts : ∀ w ∈ cx_tb, w.before _ s = true := fun w hw => hts0 w (List.mem_cons_of_mem _ hw)
  have hown : s.vm.findClass "GasLedger$Frame" = some m.cls := findClass_of_methodNamed B.named
  have hin : meth.name = "<init>" := (name_of_methodNamed B.named B.method).1
  generalize hAe : va_A [(b + k, .inr (1, [.int 0, .int 0, .int 0, .int 0, .int 0, .int 0, .int 0, .null, .int 0, .int 0, .int 0, .int 0, .null, .int 0, .int 0, .int 0, .int 0]))] (b + (k + 1)) = A
  have hA : ∀ q : Nat, s.heap.size ≤ q → A q := fun q h => by rw [← hAe]; exact Or.inr (by rw [← hz]; exact h)
  have hD : va_D A [(b + k, .inr (1, [.int 0, .int 0, .int 0, .int 0, .int 0, .int 0, .int 0, .null, .int 0, .int 0, .int 0, .int 0, .null, .int 0, .int 0, .int 0, .int 0]))] := gz_D1 (by rw [← hAe]; exact Or.inl ⟨0, _, rfl⟩)
  have hS : va_S A s.heap s.heap [] := va_S.rf
  have hz : s.heap.size = (b + (k + 1)) := hz
  have hl := lv_entry ([.ref (b + k)]) (n := 1) (Nat.le_of_ble_eq_true rfl)
  rw [lg_entry_eq]
  generalize (lg_sl ([.ref (b + k)]) ++ List.replicate (1 - (lg_sl ([.ref (b + k)])).length) Slot.unset).toArray = ls at hl ⊢
  have hl : lv_has ls 1 [(0, .ref (b + k))] := hl
  refine lv_aload_n (pc := 0) hx hb d_Frm_init_0 rfl (lv_at hl 0 rfl) ?_
  refine W.objInit hx hb hown (hts _ tb_131) (hts _ tb_60) (hts _ tb_oi) rfl (by rw [hml]; exact hl.1) rfl d_Frm_init_1 (Nat.le_of_ble_eq_true rfl) (Nat.le_of_ble_eq_true rfl) ?_
  refine W.eq (g2 := F0 m 4 ls []) rfl ?_
  refine lv_aload_n (pc := 4) hx hb d_Frm_init_4 rfl (lv_at hl 0 rfl) ?_
  refine lv_bipush (pc := 5) (v := (12 : Int32)) hx hb d_Frm_init_5 (by decide) ?_
  refine gz_newa (pc := 7) (atype := .int) hx hb (hts _ tb_101) (hK.2 0 _ rfl).2 hP hD hS hA (a0 := (12, .inl (fun _ => 0))) (gz_ai _) (by decide) (N' := 12) (by decide) (by decide) (by show 0 + 1 ≤ _; exact Nat.le_of_ble_eq_true rfl) (by show 0 + 12 ≤ _; exact Nat.le_of_ble_eq_true rfl) (z := (b + (k + 1))) hz d_Frm_init_7 (fun H hP hD hS hz => ?_)
  have hz : H.size = (b + (k + 2)) := hz
  have hP : va_P (dC, dI) cx_cl [((b + k), .inr (1, [.int 0, .int 0, .int 0, .int 0, .int 0, .int 0, .int 0, .null, .int 0, .int 0, .int 0, .int 0, .null, .int 0, .int 0, .int 0, .int 0])), ((b + (k + 1)), .inl (cI, 12, .inl (fun _ => 0)))] H := hP
  have hD : va_D A [((b + k), .inr (1, [.int 0, .int 0, .int 0, .int 0, .int 0, .int 0, .int 0, .null, .int 0, .int 0, .int 0, .int 0, .null, .int 0, .int 0, .int 0, .int 0])), ((b + (k + 1)), .inl (cI, 12, .inl (fun _ => 0)))] := hD
  refine gz_put (pc := 9) (D := (dC, dI)) (ci := 1) (v := .ref (b + (k + 1))) (ty := (.array .int)) (C := R_Frm) (T := T_Frm) (N := 17) hx hb hts in_Frm t_Frm ty_Frm nm_Frm hown hK rfl hP hD hS hz rfl 7 (by decide) (hts _ tb_149) rfl hin (by decide +kernel) rfl rfl (Nat.le_of_ble_eq_true rfl) (fs' := [.int 0, .int 0, .int 0, .int 0, .int 0, .int 0, .int 0, .ref (b + (k + 1)), .int 0, .int 0, .int 0, .int 0, .null, .int 0, .int 0, .int 0, .int 0]) rfl d_Frm_init_9 (fun H locs hP hD hS hz => ?_)
  refine lv_aload_n (pc := 12) hx hb d_Frm_init_12 rfl (lv_at hl 0 rfl) ?_
  refine gz_new (pc := 13) (ci := 0) (fs := [.null, .null, .null, .null, .null, .null]) (C := R_Acc) (T := T_Acc) (N := 6) hx hb hts in_Acc t_Acc ty_Acc hown (hts _ tb_132) (hts _ tb_69) (hts _ tb_46) hK hP hD hS hA rfl df_Acc (by show 1 + 1 ≤ _; exact Nat.le_of_ble_eq_true rfl) (by show 12 + 6 ≤ _; exact Nat.le_of_ble_eq_true rfl) (z := (b + (k + 2))) hz d_Frm_init_13 (fun H hP hD hS hz => ?_)
  have hz : H.size = (b + (k + 3)) := hz
  refine lv_dup (pc := 16) hx hb d_Frm_init_16 rfl ?_
  refine gz_call (pc := 17) (k := (k + 2)) (n := 7) (mc := 6) (ms := 576) (va_runI (As := []) (rest := [.ref (b + (k + 2)), .ref (b + k)]) ⟨hx, hb, hml, hown, hts⟩ (k_Acc_init l dC dI cI cR cZ b tP tN (to_Frm_accountsBefore hk)) (cwI 0 hts (gx_good cd_Acc_init) rfl rfl rfl (hts _ tb_46) (hts _ tb_133) (hts _ tb_71) rfl ⟨by decide, by decide, by decide +kernel⟩ ⟨Nat.le_of_ble_eq_true rfl, Nat.le_of_ble_eq_true rfl⟩) (gz_pre hK hX hP hz) rfl rfl hl.1 rfl (lv_room (Nat.le_of_ble_eq_true rfl)) d_Frm_init_17 ⟨by show 2 + 6 ≤ _; exact Nat.le_of_ble_eq_true rfl, by show 18 + 576 ≤ _; exact Nat.le_of_ble_eq_true rfl⟩) hP hD hS hA hz (z := (b + (k + 9))) rfl (fun H locs hP hD hS hz => ?_)
  refine gz_put (pc := 20) (D := (dC, dI)) (ci := 1) (v := .ref (b + (k + 2))) (ty := (.object "GasLedger$Accounts")) (C := R_Frm) (T := T_Frm) (N := 17) hx hb hts in_Frm t_Frm ty_Frm nm_Frm hown hK rfl hP hD hS hz rfl 12 (by decide) (hts _ tb_160) rfl hin (by decide +kernel) rfl rfl (Nat.le_of_ble_eq_true rfl) (fs' := [.int 0, .int 0, .int 0, .int 0, .int 0, .int 0, .int 0, .ref (b + (k + 1)), .int 0, .int 0, .int 0, .int 0, .ref (b + (k + 2)), .int 0, .int 0, .int 0, .int 0]) rfl d_Frm_init_20 (fun H locs hP hD hS hz => ?_)
  have hF : va_P (dC, dI) cx_cl (gz_L (cx_sh cI cR b) b k 9 (fun _ _ => 0)) H := by
    refine gz_fin (fun j hj => ?_)
    rw [Nat.add_assoc]
    match j, hj with
    | 0, _ => exact (show va_at _ _ (b + k, cx_sh cI cR b k _) H from (sh_Frm cI cR b hk _).symm ▸ hP 0 _ rfl)
    | 1, _ => exact (show va_at _ _ (b + (k + 1), cx_sh cI cR b (k + 1) _) H from by rw [sh_arr cI cR b (k := (k + 1)) (n := 12) (to_Frm_stack hk) _]; exact hP 1 _ rfl)
    | 2, _ => exact hP 2 _ rfl
    | 3, _ => exact hP 3 _ rfl
    | 4, _ => exact hP 4 _ rfl
    | 5, _ => exact hP 5 _ rfl
    | 6, _ => exact hP 6 _ rfl
    | 7, _ => exact hP 7 _ rfl
    | 8, _ => exact hP 8 _ rfl
    | j + 9, hj => exact absurd hj (by omega)
  have hz : H.size = b + (k + 9) := hz
  exact W.vret (cells := 8) (slots := 594) hx hb hr (fun t ht _ => ⟨rfl, by rw [ht]; exact hF, by rw [ht]; exact hz, by rw [hAe]; exact hS.F ht⟩) hS.2.2 d_Frm_init_23
