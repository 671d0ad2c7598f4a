def cnum (g : Nat → Int32) : Nat → Int32
  | 0 => 5
  | k + 1 => mx (cnum g k) (g k)
theorem cnC {V : gx_M} {a z : Nat} (ha : a < 16) (hz : z ≤ 24) (ez : V 5 a = nI z) : ∀ (n k fuel : Nat), k + n = z → n < fuel → F_Acc_codeNumber_4 fuel 2 (nI a) (cnum (fun j => V 6 (24 * a + j)) k) (nI k) V = some (cnum (fun j => V 6 (24 * a + j)) z, V) := by
  intro n
  induction n with
  | zero =>
    intro k fuel h1 h2
    obtain ⟨f, rfl⟩ : ∃ f, fuel = f + 1 := ⟨fuel - 1, by omega⟩
    have e : k = z := by omega
    subst e
    rw [F_Acc_codeNumber_4, ib_t ha (by decide), nI_clamp (by omega), show (2 + 3 : Nat) = 5 from rfl, ez, if_pos (nI_le (Nat.le_refl _) (by omega))]
  | succ n ih =>
    intro k fuel h1 h2
    obtain ⟨f, rfl⟩ : ∃ f, fuel = f + 1 := ⟨fuel - 1, by omega⟩
    have i := ih (k + 1) f (by omega) (by omega)
    rw [F_Acc_codeNumber_4, ib_t ha (by decide), nI_clamp (by omega), show (2 + 3 : Nat) = 5 from rfl, ez, if_neg (nI_ge (by omega) (by omega)), m24, nI_add, ib_t (by omega) (by decide), nI_clamp (by omega), mxC, ob, nI_1, Nat.mul_comm a 24]
    exact i
def vval (b n c s : Int32) : Int32 := mx (mx (mx (mx 4 b) n) c) s
theorem vvC {V : gx_M} {a z : Nat} (ha : a < 16) (hz : z ≤ 24) (ez : V 5 a = nI z) : F_Acc_valueOf 2 (nI a) V = some (vval (V 3 a) (V 4 a) (cnum (fun j => V 6 (24 * a + j)) z) (sroot fun k => V 7 (8 * a + k)), V) := by
  have h := fun f hf => cnC ha hz ez z 0 f (by omega) hf
  unfold F_Acc_valueOf F_Acc_codeNumber
  generalize hf : (100 : Nat) = f
  have h := h f (by omega)
  rw [nI_0, cnum] at h
  simp only [ib_t ha (show 16 < 2 ^ 31 by decide), nI_clamp (show a < 2 ^ 31 by omega), mxC, ob, h, srC ha, vval, Nat.reduceAdd]
theorem vvM {a z : Nat} {g s : Nat → Int32} {U : gx_M} (ha : a < 16) (hz : z ≤ 24) (ez : U 1 (36 * a + 2) = nI z) (hg : ∀ j, j < z → g j = U 1 (36 * a + 3 + j)) (hs : ∀ j, j < 8 → s j = U 1 (36 * a + 27 + j)) : ∀ (n k fuel : Nat), k + n = z → n < fuel → ∃ U', (∀ c, c ≠ 18 → c ≠ 19 → c ≠ 20 → U' c = U c) ∧ F_Mod_valueOf_4 fuel 0 (nI a) (cnum g k) (nI k) U = some (vval (U 1 (36 * a)) (U 1 (36 * a + 1)) (cnum g z) (sroot s), U') := by
  have i1 : (36 : Int32) * nI a + 1 = nI (36 * a + 1) := by rw [m36, show (1 : Int32) = nI 1 from rfl, nI_add]
  have i2 : (36 : Int32) * nI a + 2 = nI (36 * a + 2) := by rw [m36, show (2 : Int32) = nI 2 from rfl, nI_add]
  intro n
  induction n with
  | zero =>
    intro k fuel h1 h2
    obtain ⟨f, rfl⟩ : ∃ f, fuel = f + 1 := ⟨fuel - 1, by omega⟩
    have e : k = z := by omega
    subst e
    obtain ⟨U', j1, j2⟩ := srM0 (U := U) ha hs
    refine ⟨U', j1, ?_⟩
    have o := j1 1 (by decide) (by decide) (by decide)
    rw [F_Mod_valueOf_4, i1, i2, m36, ib_t (by omega) (by decide), nI_clamp (by omega), Nat.zero_add, ez, if_pos (nI_le (Nat.le_refl _) (by omega)), j2, ob, ib_t (by omega) (by decide), nI_clamp (by omega)]
    simp only [mxM, ob, ib_t (show 36 * a + 1 < 576 by omega) (show 576 < 2 ^ 31 by decide), nI_clamp (show 36 * a + 1 < 2 ^ 31 by omega), o]
    rfl
  | succ n ih =>
    intro k fuel h1 h2
    obtain ⟨f, rfl⟩ : ∃ f, fuel = f + 1 := ⟨fuel - 1, by omega⟩
    obtain ⟨U', j1, j2⟩ := ih (k + 1) f (by omega) (by omega)
    refine ⟨U', j1, ?_⟩
    have i3 : (36 : Int32) * nI a + 3 + nI k = nI (36 * a + 3 + k) := by rw [m36, show (3 : Int32) = nI 3 from rfl, nI_add, nI_add]
    rw [F_Mod_valueOf_4, i2, ib_t (by omega) (by decide), nI_clamp (by omega), Nat.zero_add, ez, if_neg (nI_ge (by omega) (by omega)), i3, ib_t (by omega) (by decide), nI_clamp (by omega), mxM, ob, nI_1]
    dsimp only
    rw [← hg k (by omega)]
    exact j2
theorem vvM0 {a z : Nat} {g s : Nat → Int32} {U : gx_M} (ha : a < 16) (hz : z ≤ 24) (ez : U 1 (36 * a + 2) = nI z) (hg : ∀ j, j < z → g j = U 1 (36 * a + 3 + j)) (hs : ∀ j, j < 8 → s j = U 1 (36 * a + 27 + j)) : ∃ U', (∀ c, c ≠ 18 → c ≠ 19 → c ≠ 20 → U' c = U c) ∧ F_Mod_valueOf 0 (nI a) U = some (vval (U 1 (36 * a)) (U 1 (36 * a + 1)) (cnum g z) (sroot s), U') := by
  unfold F_Mod_valueOf
  generalize hf : (100 : Nat) = f
  exact vvM ha hz ez hg hs z 0 f (by omega) (by omega)
/-- an account's value, and whether it is empty, of the class's rows -/
def avl (V : gx_M) (a : Nat) : Int32 := vval (V 3 a) (V 4 a) (cnum (fun j => V 6 (24 * a + j)) (V 5 a).toNatClampNeg) (sroot fun k => V 7 (8 * a + k))
def emp (V : gx_M) (a : Nat) : Int32 := if V 3 a = 0 then (if V 4 a = 0 then (if V 5 a = 0 then (if fsk (nz fun k => V 7 (8 * a + k)) 8 = 0 then 1 else 0) else 0) else 0) else 0
theorem avC {V U : gx_M} (h : pr_acc (V 3) (V 4) (V 5) (V 6) (V 7) (U 1) 0) {a : Nat} (ha : a < 16) : F_Acc_valueOf 2 (nI a) V = some (avl V a, V) := by
  obtain ⟨-, -, -, ⟨z, hz, ez, -⟩, -⟩ := h a ha
  rw [vvC ha hz ez, avl, ez, nI_clamp (by omega)]
theorem avM {V U : gx_M} (h : pr_acc (V 3) (V 4) (V 5) (V 6) (V 7) (U 1) 0) {a : Nat} (ha : a < 16) : ∃ U', (∀ c, c ≠ 18 → c ≠ 19 → c ≠ 20 → U' c = U c) ∧ F_Mod_valueOf 0 (nI a) U = some (avl V a, U') := by
  obtain ⟨h1, h2, h3, ⟨z, hz, ez, hw⟩, ht⟩ := h a ha
  rw [Nat.zero_add] at h1 h2 h3 hw ht
  obtain ⟨U', j1, j2⟩ := vvM0 (U := U) ha hz (h3.symm.trans ez) (g := fun j => V 6 (24 * a + j)) hw (s := fun k => V 7 (8 * a + k)) ht
  refine ⟨U', j1, ?_⟩
  rw [j2, avl, ez, nI_clamp (by omega), h1, h2]
theorem emC {V : gx_M} {a : Nat} (ha : a < 16) : F_Acc_isEmpty 2 (nI a) V = some (emp V a, V) := by
  unfold F_Acc_isEmpty emp
  simp only [ib_t ha (show 16 < 2 ^ 31 by decide), nI_clamp (show a < 2 ^ 31 by omega), fs_run ha, ob, show (2 + 1 : Nat) = 3 from rfl, show (2 + 2 : Nat) = 4 from rfl, show (2 + 3 : Nat) = 5 from rfl]
  by_cases e1 : V 3 a = 0
  · by_cases e2 : V 4 a = 0
    · by_cases e3 : V 5 a = 0
      · by_cases e4 : fsk (nz fun k => V 7 (8 * a + k)) 8 = 0
        · simp only [if_pos e1, if_pos e2, if_pos e3, if_pos e4]
        · simp only [if_pos e1, if_pos e2, if_pos e3, if_neg e4]
      · simp only [if_pos e1, if_pos e2, if_neg e3]
    · simp only [if_pos e1, if_neg e2]
  · simp only [if_neg e1]
theorem em0 {U : gx_M} {a : Nat} : ∀ (n k fuel : Nat), k + n = 8 → n < fuel → F_Mod_empty_48 fuel 0 (nI a) 0 (nI k) U = some (0, U) := by
  intro n
  induction n with
  | zero =>
    intro k fuel h1 h2
    obtain ⟨f, rfl⟩ : ∃ f, fuel = f + 1 := ⟨fuel - 1, by omega⟩
    have e : k = 8 := by omega
    subst e
    rw [F_Mod_empty_48, if_pos (by decide), if_pos (Or.inl rfl)]
  | succ n ih =>
    intro k fuel h1 h2
    obtain ⟨f, rfl⟩ : ∃ f, fuel = f + 1 := ⟨fuel - 1, by omega⟩
    rw [F_Mod_empty_48, if_neg (ge8 (show k < 8 by omega)), if_pos rfl, nI_1]
    exact ih (k + 1) f (by omega) (by omega)
theorem em1 {U : gx_M} {a : Nat} {s : Nat → Int32} (ha : a < 16) (hs : ∀ j, j < 8 → s j = U 1 (36 * a + 27 + j)) : ∀ (n k fuel : Nat), k + n = 8 → n < fuel → fsk (nz s) k = 0 → F_Mod_empty_48 fuel 0 (nI a) 1 (nI k) U = some (if fsk (nz s) 8 = 0 then 1 else 0, U) := by
  intro n
  induction n with
  | zero =>
    intro k fuel h1 h2 h3
    obtain ⟨f, rfl⟩ : ∃ f, fuel = f + 1 := ⟨fuel - 1, by omega⟩
    have e : k = 8 := by omega
    subst e
    rw [F_Mod_empty_48, if_pos (by decide), if_pos (Or.inr rfl), if_pos h3]
  | succ n ih =>
    intro k fuel h1 h2 h3
    obtain ⟨f, rfl⟩ : ∃ f, fuel = f + 1 := ⟨fuel - 1, by omega⟩
    have e2 : (36 : Int32) * nI a + 27 + nI k = nI (36 * a + 27 + k) := by rw [m36, show (27 : Int32) = nI 27 from rfl, nI_add, nI_add]
    rw [F_Mod_empty_48, if_neg (ge8 (show k < 8 by omega)), if_neg (by decide), e2, ib_t (by omega) (by decide), nI_clamp (by omega), Nat.zero_add, ← hs k (by omega), nI_1]
    by_cases e : s k = 0
    · rw [if_pos e]
      exact ih (k + 1) f (by omega) (by omega) (by rw [fsk, if_neg (fun q => nz_t.mp q e)]; exact h3)
    · rw [if_neg e, em0 n (k + 1) f (by omega) (by omega), if_neg (fun q => e (nz_f.mp ((fsk_0 8 (by decide)).mp q k (by omega))))]
theorem emM {V U : gx_M} (h : pr_acc (V 3) (V 4) (V 5) (V 6) (V 7) (U 1) 0) {a : Nat} (ha : a < 16) : F_Mod_empty 0 (nI a) U = some (emp V a, U) := by
  obtain ⟨h1, h2, h3, -, ht⟩ := h a ha
  rw [Nat.zero_add] at h1 h2 h3 ht
  have i1 : (36 : Int32) * nI a + 1 = nI (36 * a + 1) := by rw [m36, show (1 : Int32) = nI 1 from rfl, nI_add]
  have i2 : (36 : Int32) * nI a + 2 = nI (36 * a + 2) := by rw [m36, show (2 : Int32) = nI 2 from rfl, nI_add]
  unfold F_Mod_empty F_Mod_empty_44 F_Mod_empty_45 emp
  generalize hf : (100 : Nat) = f
  have z0 : F_Mod_empty_48 f 0 (nI a) 0 0 U = some (0, U) := em0 8 0 f rfl (by omega)
  have z1 : F_Mod_empty_48 f 0 (nI a) 1 0 U = _ := em1 ha ht 8 0 f rfl (by omega) rfl
  rw [z0, z1, i1, i2, m36]
  simp only [ib_t (show 36 * a < 576 by omega) (show 576 < 2 ^ 31 by decide), nI_clamp (show 36 * a < 2 ^ 31 by omega), ib_t (show 36 * a + 1 < 576 by omega) (show 576 < 2 ^ 31 by decide), nI_clamp (show 36 * a + 1 < 2 ^ 31 by omega), ib_t (show 36 * a + 2 < 576 by omega) (show 576 < 2 ^ 31 by decide), nI_clamp (show 36 * a + 2 < 2 ^ 31 by omega), Nat.zero_add, ← h1, ← h2, ← h3]
  by_cases e1 : V 3 a = 0
  · by_cases e2 : V 4 a = 0
    · by_cases e3 : V 5 a = 0
      · simp only [if_pos e1, if_pos e2, if_pos e3]
      · simp only [if_pos e1, if_pos e2, if_neg e3]
    · simp only [if_pos e1, if_neg e2]
  · simp only [if_neg e1]
