/-- the reference copies one of its rows of 576 into another, from place i on -/
def cpv (U : gx_M) (d s i : Nat) : gx_M := va_up U d (fun j => if i ≤ j ∧ j < 576 then U s j else U d j)
theorem cpv_end (U : gx_M) (d s : Nat) : cpv U d s 576 = U := by
  funext k
  unfold cpv va_up
  by_cases h : k = d
  · subst h
    rw [if_pos rfl]
    funext j
    rw [if_neg (by omega)]
  · rw [if_neg h]
theorem cpv_step {U : gx_M} {d s i : Nat} (hd : s ≠ d) (hi : i < 576) : cpv (gx_u U d i (U s i)) d s (i + 1) = cpv U d s i := by
  funext k
  unfold cpv va_up
  by_cases h : k = d
  · subst h
    rw [if_pos rfl, if_pos rfl]
    funext j
    rw [gx_uK hd]
    by_cases h1 : j = i
    · subst h1
      rw [if_neg (by omega), gx_us, if_pos ⟨Nat.le_refl _, hi⟩]
    · rw [gx_up h1]
      by_cases h2 : i + 1 ≤ j ∧ j < 576
      · rw [if_pos h2, if_pos ⟨by omega, h2.2⟩]
      · rw [if_neg h2, if_neg (by omega)]
  · rw [if_neg h, if_neg h, gx_uK h]
theorem bg_loop : ∀ (d : Nat), d ≤ 576 → ∀ (fuel : Nat) (U : gx_M), d < fuel → F_Mod_begin_62 fuel 0 (nI (576 - d)) U = some (1, gx_u (gx_u (gx_u (cpv U 2 1 (576 - d)) 0 10 0) 0 11 0) 0 13 0) := by
  intro d
  induction d with
  | zero =>
    intro _ fuel U h
    obtain ⟨g, rfl⟩ : ∃ g, fuel = g + 1 := ⟨fuel - 1, by omega⟩
    have hh : (576 : Int32) ≤ nI (576 - 0) := nI_le (a := 576) (by decide) (by decide)
    rw [F_Mod_begin_62, if_pos hh, Nat.sub_zero, cpv_end]
    rfl
  | succ d ih =>
    intro hd fuel U h
    obtain ⟨g, rfl⟩ : ∃ g, fuel = g + 1 := ⟨fuel - 1, by omega⟩
    have hi : 576 - (d + 1) < 576 := by omega
    have hh : ¬ (576 : Int32) ≤ nI (576 - (d + 1)) := nI_ge (b := 576) hi (by decide)
    have en : nI (576 - (d + 1)) + (1 : Int32) = nI (576 - d) := by rw [nI_1]; congr 1; omega
    rw [F_Mod_begin_62, if_neg hh, ib_t hi (by decide), ib_t hi (by decide), nI_clamp (by omega), en]
    show F_Mod_begin_62 g 0 (nI (576 - d)) (gx_u U 2 (576 - (d + 1)) (U 1 (576 - (d + 1)))) = _
    rw [ih (by omega) g _ (by omega)]
    have e1 : 576 - d = 576 - (d + 1) + 1 := by omega
    rw [e1, cpv_step (by decide) hi]
theorem sl_loop : ∀ (d : Nat), d ≤ 576 → ∀ (fuel : Nat) (U : gx_M), d < fuel → F_Mod_seal_67 fuel 0 (nI (576 - d)) U = some (0, cpv U 1 2 (576 - d)) := by
  intro d
  induction d with
  | zero =>
    intro _ fuel U h
    obtain ⟨g, rfl⟩ : ∃ g, fuel = g + 1 := ⟨fuel - 1, by omega⟩
    have hh : (576 : Int32) ≤ nI (576 - 0) := nI_le (a := 576) (by decide) (by decide)
    rw [F_Mod_seal_67, if_pos hh, Nat.sub_zero, cpv_end]
  | succ d ih =>
    intro hd fuel U h
    obtain ⟨g, rfl⟩ : ∃ g, fuel = g + 1 := ⟨fuel - 1, by omega⟩
    have hi : 576 - (d + 1) < 576 := by omega
    have hh : ¬ (576 : Int32) ≤ nI (576 - (d + 1)) := nI_ge (b := 576) hi (by decide)
    have en : nI (576 - (d + 1)) + (1 : Int32) = nI (576 - d) := by rw [nI_1]; congr 1; omega
    rw [F_Mod_seal_67, if_neg hh, ib_t hi (by decide), ib_t hi (by decide), nI_clamp (by omega), en]
    show F_Mod_seal_67 g 0 (nI (576 - d)) (gx_u U 1 (576 - (d + 1)) (U 2 (576 - (d + 1)))) = _
    rw [ih (by omega) g _ (by omega)]
    have e1 : 576 - d = 576 - (d + 1) + 1 := by omega
    rw [e1, cpv_step (by decide) hi]
/-- the class copies accounts -/
def cpm (x0 x1 : Nat) (V : gx_M) : gx_M := (F_Acc_copyFrom x0 x1 V).getD V
theorem cpm_eq (x0 x1 : Nat) (V : gx_M) : F_Acc_copyFrom x0 x1 V = some (cpm x0 x1 V) := rfl
theorem cpm_o {x0 x1 c : Nat} {V : gx_M} (h : c < x0 + 1 ∨ x0 + 5 < c) : cpm x0 x1 V c = V c := by
  show (va_up (va_up (va_up (va_up (va_up V _ _) _ _) _ _) _ _) _ _) c = V c
  unfold va_up
  rw [if_neg (by omega), if_neg (by omega), if_neg (by omega), if_neg (by omega), if_neg (by omega)]
theorem cpm_in {x0 x1 : Nat} {V : gx_M} (h : x1 + 5 < x0 + 1 ∨ x0 + 5 < x1 + 1) : cpm x0 x1 V (x0 + 1) = va_cpy (V (x1 + 1)) (V (x0 + 1)) 0 0 16 ∧ cpm x0 x1 V (x0 + 2) = va_cpy (V (x1 + 2)) (V (x0 + 2)) 0 0 16 ∧ cpm x0 x1 V (x0 + 3) = va_cpy (V (x1 + 3)) (V (x0 + 3)) 0 0 16 ∧ cpm x0 x1 V (x0 + 4) = va_cpy (V (x1 + 4)) (V (x0 + 4)) 0 0 384 ∧ cpm x0 x1 V (x0 + 5) = va_cpy (V (x1 + 5)) (V (x0 + 5)) 0 0 128 := by
  have e : cpm x0 x1 V = va_up (va_up (va_up (va_up (va_up V (x0 + 1) (va_cpy (V (x1 + 1)) (V (x0 + 1)) 0 0 16)) (x0 + 2) (va_cpy (V (x1 + 2)) (V (x0 + 2)) 0 0 16)) (x0 + 3) (va_cpy (V (x1 + 3)) (V (x0 + 3)) 0 0 16)) (x0 + 4) (va_cpy (V (x1 + 4)) (V (x0 + 4)) 0 0 384)) (x0 + 5) (va_cpy (V (x1 + 5)) (V (x0 + 5)) 0 0 128) := by
    have n2 : ∀ (W : gx_M) (k j : Nat) (f : Nat → Int32), j ≠ k → va_up W k f j = W j := fun W k j f h => by unfold va_up; rw [if_neg h]
    unfold cpm F_Acc_copyFrom gx_let
    simp only [Option.getD_some]
    simp only [n2 _ (x0 + 1) (x1 + 2) _ (by omega), n2 _ (x0 + 1) (x0 + 2) _ (by omega), n2 _ (x0 + 2) (x1 + 3) _ (by omega), n2 _ (x0 + 1) (x1 + 3) _ (by omega), n2 _ (x0 + 2) (x0 + 3) _ (by omega), n2 _ (x0 + 1) (x0 + 3) _ (by omega), n2 _ (x0 + 3) (x1 + 4) _ (by omega), n2 _ (x0 + 2) (x1 + 4) _ (by omega), n2 _ (x0 + 1) (x1 + 4) _ (by omega), n2 _ (x0 + 3) (x0 + 4) _ (by omega), n2 _ (x0 + 2) (x0 + 4) _ (by omega), n2 _ (x0 + 1) (x0 + 4) _ (by omega), n2 _ (x0 + 4) (x1 + 5) _ (by omega), n2 _ (x0 + 3) (x1 + 5) _ (by omega), n2 _ (x0 + 2) (x1 + 5) _ (by omega), n2 _ (x0 + 1) (x1 + 5) _ (by omega), n2 _ (x0 + 4) (x0 + 5) _ (by omega), n2 _ (x0 + 3) (x0 + 5) _ (by omega), n2 _ (x0 + 2) (x0 + 5) _ (by omega), n2 _ (x0 + 1) (x0 + 5) _ (by omega)]
  rw [e]
  unfold va_up
  refine ⟨?_, ?_, ?_, ?_, ?_⟩
  · rw [if_neg (by omega), if_neg (by omega), if_neg (by omega), if_neg (by omega), if_pos rfl]
  · rw [if_neg (by omega), if_neg (by omega), if_neg (by omega), if_pos rfl]
  · rw [if_neg (by omega), if_neg (by omega), if_pos rfl]
  · rw [if_neg (by omega), if_pos rfl]
  · rw [if_pos rfl]
theorem pr_acc_cp {b n s w t f b' n' s' w' t' f' : Nat → Int32} (h : pr_acc b n s w t f 0) : pr_acc (va_cpy b b' 0 0 16) (va_cpy n n' 0 0 16) (va_cpy s s' 0 0 16) (va_cpy w w' 0 0 384) (va_cpy t t' 0 0 128) (fun j => if 0 ≤ j ∧ j < 576 then f j else f' j) 0 := by
  intro c hc
  obtain ⟨h1, h2, h3, ⟨y, hy, h4, h5⟩, h6⟩ := h c hc
  refine ⟨?_, ?_, ?_, ⟨y, hy, ?_, fun j hj => ?_⟩, fun k hk => ?_⟩
  · rw [sb_cpy0 hc]; exact (h1).trans (if_pos (⟨Nat.zero_le _, by omega⟩)).symm
  · rw [sb_cpy0 hc]; exact (h2).trans (if_pos (⟨Nat.zero_le _, by omega⟩)).symm
  · rw [sb_cpy0 hc]; exact (h3).trans (if_pos (⟨Nat.zero_le _, by omega⟩)).symm
  · rw [sb_cpy0 hc]; exact h4
  · rw [sb_cpy0 (by omega)]; exact (h5 j hj).trans (if_pos (⟨Nat.zero_le _, by omega⟩)).symm
  · rw [sb_cpy0 (by omega)]; exact (h6 k hk).trans (if_pos (⟨Nat.zero_le _, by omega⟩)).symm
