abbrev rm_Log_init : Room := { frames := 1, cells := 2, slots := 32, locals := 64 }
set_option maxRecDepth 100000 in
set_option maxHeartbeats 8000000 in
theorem k_Log_init (l : Launch) (dC : Nat → ClassId) (dI : Nat → Nat → Nat) (cI cR cZ : ClassId) (b tP tN : Nat) {k : Nat} (hk : cx_kd k = 2) : gz_C l y_Log_init w_Log_init rm_Log_init (dC, dI) cx_cl (gx_ty cI cR cZ) (cx_sh cI cR b) b k 3 32 (fun _ _ => 0) (.inr (2, [.null, .null, .int 0, .int 0])) := by
  refine Met.ofW (cc := b_Log_init) (maxL := 1) (ret := none) (by decide) rfl ?_
  intro p e s m args below meth c s₁ B hml hv
  obtain ⟨rfl, hz, hP, hK, hX⟩ := hv
  have hx := B.exec
  have hb := B.bytes
  have hr := B.returns
  have hlk := B.notSynchronized
  have hts0 := atoms_spec (ws := w_Log_init) B.pre
  have hts : ∀ w ∈ cx_tb, w.before _ s = true := fun w hw => hts0 w (List.mem_cons_of_mem _ hw)
  have hown : s.vm.findClass "GasLedger$Logs" = some m.cls := findClass_of_methodNamed B.named
  have hin : meth.name = "<init>" := (name_of_methodNamed B.named B.method).1
  generalize hAe : va_A [(b + k, .inr (2, [.null, .null, .int 0, .int 0]))] (b + (k + 1)) = A
  have hA : ∀ q : Nat, s.heap.size ≤ q → A q := fun q h => by rw [← hAe]; exact Or.inr (by rw [← hz]; exact h)
  have hD : va_D A [(b + k, .inr (2, [.null, .null, .int 0, .int 0]))] := gz_D1 (by rw [← hAe]; exact Or.inl ⟨0, _, rfl⟩)
  have hS : va_S A s.heap s.heap [] := va_S.rf
  have hz : s.heap.size = (b + (k + 1)) := hz
  have hl := lv_entry ([.ref (b + k)]) (n := 1) (Nat.le_of_ble_eq_true rfl)
  rw [lg_entry_eq]
  generalize (lg_sl ([.ref (b + k)]) ++ List.replicate (1 - (lg_sl ([.ref (b + k)])).length) Slot.unset).toArray = ls at hl ⊢
  have hl : lv_has ls 1 [(0, .ref (b + k))] := hl
  refine lv_aload_n (pc := 0) hx hb d_Log_init_0 rfl (lv_at hl 0 rfl) ?_
  refine W.objInit hx hb hown (hts _ tb_107) (hts _ tb_60) (hts _ tb_oi) rfl (by rw [hml]; exact hl.1) rfl d_Log_init_1 (Nat.le_of_ble_eq_true rfl) (Nat.le_of_ble_eq_true rfl) ?_
  refine W.eq (g2 := F0 m 4 ls []) rfl ?_
  refine lv_aload_n (pc := 4) hx hb d_Log_init_4 rfl (lv_at hl 0 rfl) ?_
  refine lv_bipush (pc := 5) (v := (16 : Int32)) hx hb d_Log_init_5 (by decide) ?_
  refine gz_newa (pc := 7) (atype := .int) hx hb (hts _ tb_101) (hK.2 0 _ rfl).2 hP hD hS hA (a0 := (16, .inl (fun _ => 0))) (gz_ai _) (by decide) (N' := 16) (by decide) (by decide) (by show 0 + 1 ≤ _; exact Nat.le_of_ble_eq_true rfl) (by show 0 + 16 ≤ _; exact Nat.le_of_ble_eq_true rfl) (z := (b + (k + 1))) hz d_Log_init_7 (fun H hP hD hS hz => ?_)
  have hz : H.size = (b + (k + 2)) := hz
  have hP : va_P (dC, dI) cx_cl [((b + k), .inr (2, [.null, .null, .int 0, .int 0])), ((b + (k + 1)), .inl (cI, 16, .inl (fun _ => 0)))] H := hP
  have hD : va_D A [((b + k), .inr (2, [.null, .null, .int 0, .int 0])), ((b + (k + 1)), .inl (cI, 16, .inl (fun _ => 0)))] := hD
  refine gz_put (pc := 9) (D := (dC, dI)) (ci := 2) (v := .ref (b + (k + 1))) (ty := (.array .int)) (C := R_Log) (T := T_Log) (N := 4) hx hb hts in_Log t_Log ty_Log nm_Log hown hK rfl hP hD hS hz rfl 0 (by decide) (hts _ tb_108) rfl hin (by decide +kernel) rfl rfl (Nat.le_of_ble_eq_true rfl) (fs' := [.ref (b + (k + 1)), .null, .int 0, .int 0]) rfl d_Log_init_9 (fun H locs hP hD hS hz => ?_)
  refine lv_aload_n (pc := 12) hx hb d_Log_init_12 rfl (lv_at hl 0 rfl) ?_
  refine lv_bipush (pc := 13) (v := (16 : Int32)) hx hb d_Log_init_13 (by decide) ?_
  refine gz_newa (pc := 15) (atype := .int) hx hb (hts _ tb_101) (hK.2 0 _ rfl).2 hP hD hS hA (a0 := (16, .inl (fun _ => 0))) (gz_ai _) (by decide) (N' := 16) (by decide) (by decide) (by show 1 + 1 ≤ _; exact Nat.le_of_ble_eq_true rfl) (by show 16 + 16 ≤ _; exact Nat.le_of_ble_eq_true rfl) (z := (b + (k + 2))) hz d_Log_init_15 (fun H hP hD hS hz => ?_)
  have hz : H.size = (b + (k + 3)) := hz
  have hP : va_P (dC, dI) cx_cl [((b + k), .inr (2, [.ref (b + (k + 1)), .null, .int 0, .int 0])), ((b + (k + 1)), .inl (cI, 16, .inl (fun _ => 0))), ((b + (k + 2)), .inl (cI, 16, .inl (fun _ => 0)))] H := hP
  have hD : va_D A [((b + k), .inr (2, [.ref (b + (k + 1)), .null, .int 0, .int 0])), ((b + (k + 1)), .inl (cI, 16, .inl (fun _ => 0))), ((b + (k + 2)), .inl (cI, 16, .inl (fun _ => 0)))] := hD
  refine gz_put (pc := 17) (D := (dC, dI)) (ci := 2) (v := .ref (b + (k + 2))) (ty := (.array .int)) (C := R_Log) (T := T_Log) (N := 4) hx hb hts in_Log t_Log ty_Log nm_Log hown hK rfl hP hD hS hz rfl 1 (by decide) (hts _ tb_109) rfl hin (by decide +kernel) rfl rfl (Nat.le_of_ble_eq_true rfl) (fs' := [.ref (b + (k + 1)), .ref (b + (k + 2)), .int 0, .int 0]) rfl d_Log_init_17 (fun H locs hP hD hS hz => ?_)
  have hF : va_P (dC, dI) cx_cl (gz_L (cx_sh cI cR b) b k 3 (fun _ _ => 0)) H := by
    refine gz_fin (fun j hj => ?_)
    rw [Nat.add_assoc]
    match j, hj with
    | 0, _ => exact (show va_at _ _ (b + k, cx_sh cI cR b k _) H from (sh_Log cI cR b hk _).symm ▸ hP 0 _ rfl)
    | 1, _ => exact (show va_at _ _ (b + (k + 1), cx_sh cI cR b (k + 1) _) H from by rw [sh_arr cI cR b (k := (k + 1)) (n := 16) (to_Log_accounts hk) _]; exact hP 1 _ rfl)
    | 2, _ => exact (show va_at _ _ (b + (k + 2), cx_sh cI cR b (k + 2) _) H from by rw [sh_arr cI cR b (k := (k + 2)) (n := 16) (to_Log_numbers hk) _]; exact hP 2 _ rfl)
    | j + 3, hj => exact absurd hj (by omega)
  have hz : H.size = b + (k + 3) := hz
  exact W.vret (cells := 2) (slots := 32) hx hb hr (fun t ht _ => ⟨rfl, by rw [ht]; exact hF, by rw [ht]; exact hz, by rw [hAe]; exact hS.F ht⟩) hS.2.2 d_Log_init_20
