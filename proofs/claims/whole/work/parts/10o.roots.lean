theorem ge8 {k : Nat} (h : k < 8) : ¬ (8 : Int32) ≤ nI k := nI_ge (b := 8) h (by decide)
theorem ge16 {k : Nat} (h : k < 16) : ¬ (16 : Int32) ≤ nI k := nI_ge (b := 16) h (by decide)
/-- the keys, as bits, that are there among the first n -/
def fsk (H : Nat → Bool) : Nat → Int32
  | 0 => 0
  | k + 1 => if H k = true then fsk H k ||| ((1 : Int32) <<< (nI k &&& 31)) else fsk H k
theorem fsk_b {H : Nat → Bool} {k : Nat} : ∀ (n : Nat), n ≤ 16 → tb (fsk H n) k = (decide (k < n) && H k) := by
  intro n
  induction n with
  | zero => intro _; rw [fsk, tbz0]; simp
  | succ n ih =>
    intro hn
    have i := ih (by omega)
    rw [fsk]
    by_cases h : H n = true
    · rw [if_pos h, tb_or (by omega), i]
      by_cases e : n = k
      · subst e; rw [h]; simp
      · have : decide (k < n + 1) = decide (k < n) := by
          apply decide_eq_decide.mpr; omega
        rw [this, decide_eq_false e]; simp
    · rw [if_neg h, i]
      by_cases e : n = k
      · subst e
        have h : H n = false := by simpa using h
        rw [h]; simp
      · have : decide (k < n + 1) = decide (k < n) := by
          apply decide_eq_decide.mpr; omega
        rw [this]
theorem fsk_0 {H : Nat → Bool} : ∀ (n : Nat), n ≤ 16 → (fsk H n = 0 ↔ ∀ k, k < n → H k = false) := by
  intro n hn
  constructor
  · intro e k hk
    have := fsk_b (H := H) (k := k) n hn
    rw [e, tbz0, decide_eq_true hk] at this
    simpa using this.symm
  · intro h
    clear hn
    induction n with
    | zero => rfl
    | succ n ih => rw [fsk, if_neg (by rw [h n (by omega)]; decide)]; exact ih (fun k hk => h k (by omega))
def nz (g : Nat → Int32) (k : Nat) : Bool := decide (g k ≠ 0)
theorem nz_f {g : Nat → Int32} {k : Nat} : nz g k = false ↔ g k = 0 := by unfold nz; simp
theorem nz_t {g : Nat → Int32} {k : Nat} : nz g k = true ↔ ¬ g k = 0 := by unfold nz; simp
theorem fs_loop {V : gx_M} {a : Nat} (ha : a < 16) : ∀ (n k fuel : Nat), k + n = 8 → n < fuel → F_Acc_filledSlots_4 fuel 2 (nI a) (fsk (nz fun k => V 7 (8 * a + k)) k) (nI k) V = some (fsk (nz fun k => V 7 (8 * a + k)) 8, V) := by
  intro n
  induction n with
  | zero =>
    intro k fuel h1 h2
    obtain ⟨g, rfl⟩ : ∃ g, fuel = g + 1 := ⟨fuel - 1, by omega⟩
    have e : k = 8 := by omega
    subst e
    rw [F_Acc_filledSlots_4, if_pos (by decide)]
  | succ n ih =>
    intro k fuel h1 h2
    obtain ⟨g, rfl⟩ : ∃ g, fuel = g + 1 := ⟨fuel - 1, by omega⟩
    have i := ih (k + 1) g (by omega) (by omega)
    rw [F_Acc_filledSlots_4, if_neg (ge8 (show k < 8 by omega)), m8, nI_add, ib_t (by omega) (by decide), nI_clamp (by omega), nI_1, show (2 + 5 : Nat) = 7 from rfl, Nat.mul_comm a 8]
    by_cases e : V 7 (8 * a + k) = 0
    · rw [if_pos e, ← i, fsk, if_neg (fun q => (nz_t (g := fun k => V 7 (8 * a + k)) (k := k)).mp q e)]
    · rw [if_neg e, ← i, fsk, if_pos ((nz_t (g := fun k => V 7 (8 * a + k)) (k := k)).mpr e)]
theorem fs_run {V : gx_M} {a : Nat} (ha : a < 16) : F_Acc_filledSlots 2 (nI a) V = some (fsk (nz fun k => V 7 (8 * a + k)) 8, V) := by
  unfold F_Acc_filledSlots
  generalize hf : (100 : Nat) = f
  exact fs_loop ha 8 0 f rfl (by omega)
/-- the root of an account's slots -/
def sroot (g : Nat → Int32) : Int32 := rt (fun k => decide (k < 8) && nz g k) g 6 3 0
theorem srC {V : gx_M} {a : Nat} (ha : a < 16) : F_Acc_slotsRoot 2 (nI a) V = some (sroot (fun k => V 7 (8 * a + k)), V) := by
  unfold F_Acc_slotsRoot
  rw [fs_run ha, ob, m8]
  dsimp only
  rw [show (2 + 5 : Nat) = 7 from rfl, show (3 : Int32) = nI 3 from rfl, cmap (w := 3) (H := fun k => decide (k < 8) && nz (fun k => V 7 (8 * a + k)) k) (W := fun k => V 7 (8 * a + k)) (by decide) (fun k hk => fsk_b 8 (by decide)) (by decide) (fun k hk hh => ?_), ob, sroot]
  have : k < 8 := by
    by_cases e : k < 8
    · exact e
    · rw [decide_eq_false e] at hh; simp at hh
  refine ⟨?_, by rw [Nat.mul_comm a 8]⟩
  show a * 8 + k < 128
  omega
theorem nb1 : vp_nar .boolean (1 : Int32) = 1 := by first | rfl | decide +kernel
theorem nb0 : vp_nar .boolean (0 : Int32) = 0 := by first | rfl | decide +kernel
theorem srM {a : Nat} (ha : a < 16) : ∀ (n k fuel : Nat) (U : gx_M) (g : Nat → Int32), k + n = 8 → n < fuel → (∀ j, j < 8 → g j = U 1 (36 * a + 27 + j)) → (∀ j, j < k → U 20 j = g j ∧ (U 19 j = 0 ↔ g j = 0)) → ∃ U', (∀ c, c ≠ 18 → c ≠ 19 → c ≠ 20 → U' c = U c) ∧ F_Mod_slotsRoot_2 fuel 0 (nI a) (nI k) U = some (sroot g, U') := by
  intro n
  induction n with
  | zero =>
    intro k fuel U g h1 h2 hg hj
    obtain ⟨z, rfl⟩ : ∃ z, fuel = z + 1 := ⟨fuel - 1, by omega⟩
    have e : k = 8 := by omega
    subst e
    obtain ⟨U', i1, i2⟩ := mmap (w := 3) (U := U) (H := fun k => decide (k < 8) && nz g k) (W := g) (by decide) (fun k h1 h2 => by
      have h3 : k < 8 := h2
      rw [decide_eq_true h3, Bool.true_and, nz_f]; exact (hj k h3).2) (fun k h1 h2 h3 => (hj k h2).1)
    refine ⟨U', fun c hc _ _ => i1 c hc, ?_⟩
    rw [F_Mod_slotsRoot_2, if_pos (by decide), show (3 : Int32) = nI 3 from rfl, i2, ob, sroot]
  | succ n ih =>
    intro k fuel U g h1 h2 hg hj
    obtain ⟨z, rfl⟩ : ∃ z, fuel = z + 1 := ⟨fuel - 1, by omega⟩
    have e2 : (36 : Int32) * nI a + 27 + nI k = nI (36 * a + 27 + k) := by rw [m36, show (27 : Int32) = nI 27 from rfl, nI_add, nI_add]
    have st : ∀ x : Int32, (x = 0 ↔ g k = 0) → ∃ U', (∀ c, c ≠ 18 → c ≠ 19 → c ≠ 20 → U' c = U c) ∧ F_Mod_slotsRoot_2 z 0 (nI a) (nI (k + 1)) (gx_u (gx_u U 20 k (U 1 (36 * a + 27 + k))) 19 k x) = some (sroot g, U') := by
      intro x hx
      obtain ⟨U', i1, i2⟩ := ih (k + 1) z (gx_u (gx_u U 20 k (U 1 (36 * a + 27 + k))) 19 k x) g (by omega) (by omega) (fun j h => by rw [gx_uK (by decide), gx_uK (by decide)]; exact hg j h) (fun j h => by
        by_cases e : j = k
        · subst e
          rw [gx_uK (show (20 : Nat) ≠ 19 by decide), gx_us, gx_us]
          exact ⟨(hg j (by omega)).symm, hx⟩
        · rw [gx_uK (show (20 : Nat) ≠ 19 by decide), gx_up e, gx_up e, gx_uK (by decide)]
          exact hj j (by omega))
      exact ⟨U', fun c h1 h2 h3 => by rw [i1 c h1 h2 h3, gx_uK h2, gx_uK h3], i2⟩
    have er := hg k (by omega)
    rw [F_Mod_slotsRoot_2, if_neg (ge8 (show k < 8 by omega)), e2]
    simp only [ib_t (show 36 * a + 27 + k < 576 by omega) (show 576 < 2 ^ 31 by decide), ib_t (show k < 16 by omega) (show 16 < 2 ^ 31 by decide), nI_clamp (show k < 2 ^ 31 by omega), nI_clamp (show 36 * a + 27 + k < 2 ^ 31 by omega), gl, Nat.zero_add, gx_us, nb0, nb1, nI_1]
    by_cases e : U 1 (36 * a + 27 + k) = 0
    · rw [if_pos e]; exact st 0 (by rw [er, e])
    · rw [if_neg e]; exact st 1 (by rw [er]; exact ⟨fun q => absurd q (by decide), fun q => absurd q e⟩)
theorem srM0 {a : Nat} {U : gx_M} {g : Nat → Int32} (ha : a < 16) (hg : ∀ j, j < 8 → g j = U 1 (36 * a + 27 + j)) : ∃ U', (∀ c, c ≠ 18 → c ≠ 19 → c ≠ 20 → U' c = U c) ∧ F_Mod_slotsRoot 0 (nI a) U = some (sroot g, U') := by
  unfold F_Mod_slotsRoot
  generalize hf : (100 : Nat) = f
  exact srM ha 8 0 f U g rfl (by omega) hg (fun j h => absurd h (by omega))
