/-! before and behind a transaction's run -/
theorem pr_acc_fl {b n s w t f f' : Nat → Int32} (h : pr_acc b n s w t f 0) (hf : ∀ q, (∀ c, c < 16 → q ≠ 36 * c + 35) → f' q = f q) : pr_acc b n s w t f' 0 := by
  intro c hc
  obtain ⟨h1, h2, h3, ⟨y, hy, h4, h5⟩, h6⟩ := h c hc
  refine ⟨?_, ?_, ?_, ⟨y, hy, h4, fun j hj => ?_⟩, fun i hi => ?_⟩
  · rw [hf _ (fun c' _ => by omega)]; exact h1
  · rw [hf _ (fun c' _ => by omega)]; exact h2
  · rw [hf _ (fun c' _ => by omega)]; exact h3
  · rw [hf _ (fun c' _ => by omega)]; exact h5 j hj
  · rw [hf _ (fun c' _ => by omega)]; exact h6 i hi
theorem pr_acc_n {b n s w t f : Nat → Int32} {a : Nat} {x : Int32} (h : pr_acc b n s w t f 0) (ha : a < 16) : pr_acc b (upd n a x) s w t (upd f (36 * a + 1) x) 0 := by
  intro c hc
  obtain ⟨h1, h2, h3, ⟨z, hz, h4, h5⟩, h6⟩ := h c hc
  refine ⟨?_, ?_, ?_, ⟨z, hz, h4, fun j hj => ?_⟩, fun k hk => ?_⟩
  · rw [pk_un (by omega)]; exact h1
  · by_cases e : c = a
    · subst e; rw [pk_us, show 0 + 36 * c + 1 = 36 * c + 1 by omega, pk_us]
    · rw [pk_un e, pk_un (by omega)]; exact h2
  · rw [pk_un (by omega)]; exact h3
  · rw [pk_un (by omega)]; exact h5 j hj
  · rw [pk_un (by omega)]; exact h6 k hk
theorem clr {x1 x2 x3 x4 x5 x6 : Int32} : ∀ (m k f : Nat) (U : gx_M), k + m = 16 → m < f → ∃ U' f', F_Mod_transact_121 f 0 x1 x2 x3 x4 x5 x6 (nI k) U = F_Mod_transact_121 (f' + 1) 0 x1 x2 x3 x4 x5 x6 (nI 16) U' ∧ (∀ c, c ≠ 1 → U' c = U c) ∧ (∀ c, k ≤ c → c < 16 → U' 1 (36 * c + 35) = 0) ∧ ∀ q, (∀ c, k ≤ c → c < 16 → q ≠ 36 * c + 35) → U' 1 q = U 1 q := by
  intro m
  induction m with
  | zero =>
    intro k f U h1 h2
    obtain ⟨e, rfl⟩ : ∃ e, f = e + 1 := ⟨f - 1, by omega⟩
    have e : k = 16 := by omega
    subst e
    exact ⟨U, _, rfl, fun _ _ => rfl, fun c h1 h2 => absurd h1 (by omega), fun _ _ => rfl⟩
  | succ m ih =>
    intro k f U h1 h2
    obtain ⟨e, rfl⟩ : ∃ e, f = e + 1 := ⟨f - 1, by omega⟩
    obtain ⟨U', f', i1, i2, i3, i4⟩ := ih (k + 1) e (gx_u U 1 (36 * k + 35) 0) (by omega) (by omega)
    have hk : k < 16 := by omega
    have i35 : (36 : Int32) * nI k + 35 = nI (36 * k + 35) := by rw [m36, show (35 : Int32) = nI 35 from rfl, nI_add]
    refine ⟨U', f', ?_, fun c hc => by rw [i2 c hc, gx_uK hc], fun c h1 h2 => ?_, fun q hq => ?_⟩
    · rw [F_Mod_transact_121, if_neg (ge16 hk), i35, ib_t (by omega) (by decide), gl, nI_clamp (by omega), Nat.zero_add, nI_1, i1]
    · by_cases e : c = k
      · subst e
        rw [i4 _ (fun c' h1 h2 => by omega), gx_us]
      · exact i3 c (by omega) h2
    · rw [i4 q (fun c h1 h2 => hq c (by omega) h2), gx_up (hq k (Nat.le_refl _) hk)]
theorem clr23 {k : Nat} (hk : k < 16) : ∀ (m j f : Nat) (V : gx_M), j + m = 8 → m < f → ∃ V', F_Acc_clear_23 f 2 (nI k) (nI j) V = some V' ∧ (∀ c, c ≠ 7 → V' c = V c) ∧ (∀ i, j ≤ i → i < 8 → V' 7 (8 * k + i) = 0) ∧ ∀ q, (q < 8 * k + j ∨ 8 * k + 8 ≤ q) → V' 7 q = V 7 q := by
  intro m
  induction m with
  | zero =>
    intro j f V h1 h2
    obtain ⟨e, rfl⟩ : ∃ e, f = e + 1 := ⟨f - 1, by omega⟩
    have e : j = 8 := by omega
    subst e
    exact ⟨V, by rw [F_Acc_clear_23, if_pos (by decide)], fun _ _ => rfl, fun c h1 h2 => absurd h1 (by omega), fun _ _ => rfl⟩
  | succ m ih =>
    intro j f V h1 h2
    obtain ⟨e, rfl⟩ : ∃ e, f = e + 1 := ⟨f - 1, by omega⟩
    obtain ⟨V', i1, i2, i3, i4⟩ := ih (j + 1) e (gx_u V 7 (8 * k + j) 0) (by omega) (by omega)
    have e1 : nI k * (8 : Int32) + nI j = nI (8 * k + j) := by rw [m8, nI_add, Nat.mul_comm]
    refine ⟨V', ?_, fun c hc => by rw [i2 c hc, gx_uK hc], fun c h1 h2 => ?_, fun q hq => ?_⟩
    · rw [F_Acc_clear_23, if_neg (ge8 (show j < 8 by omega)), e1, ib_t (by omega) (by decide), gl, nI_clamp (by omega), show (2 + 5 : Nat) = 7 from rfl, nI_1, i1]
    · by_cases e : c = j
      · subst e
        rw [i4 _ (Or.inl (by omega)), gx_us]
      · exact i3 c (by omega) h2
    · rw [i4 q (by omega), gx_up (by omega)]
theorem clrC {k : Nat} {V : gx_M} (hk : k < 16) : ∃ V', F_Acc_clear 2 (nI k) V = some V' ∧ (∀ c, c ≠ 3 → c ≠ 4 → c ≠ 5 → c ≠ 7 → V' c = V c) ∧ V' 3 = upd (V 3) k 0 ∧ V' 4 = upd (V 4) k 0 ∧ V' 5 = upd (V 5) k 0 ∧ (∀ i, i < 8 → V' 7 (8 * k + i) = 0) ∧ ∀ q, (q < 8 * k ∨ 8 * k + 8 ≤ q) → V' 7 q = V 7 q := by
  have h := fun f hf => clr23 hk 8 0 f (gx_u (gx_u (gx_u V 3 k 0) 4 k 0) 5 k 0) rfl hf
  unfold F_Acc_clear
  generalize hf : (100 : Nat) = f
  obtain ⟨V', i1, i2, i3, i4⟩ := h f (by omega)
  refine ⟨V', ?_, ?_, ?_, ?_, ?_, fun i hi => i3 i (by omega) hi, fun q hq => ?_⟩
  · simp only [ib_t hk (show 16 < 2 ^ 31 by decide), nI_clamp (show k < 2 ^ 31 by omega), gl, Nat.reduceAdd]
    rw [nI_0] at i1
    exact i1
  · intro c h3 h4 h5 h7
    rw [i2 c h7, gx_uK h5, gx_uK h4, gx_uK h3]
  · rw [i2 3 (by decide), gx_uK (by decide), gx_uK (by decide), gx_ua, if_pos rfl]
  · rw [i2 4 (by decide), gx_uK (by decide), gx_ua, if_pos rfl, gx_uK (by decide)]
  · rw [i2 5 (by decide), gx_ua, if_pos rfl, gx_uK (by decide), gx_uK (by decide)]
  · rw [i4 q (by omega), gx_uK (by decide), gx_uK (by decide), gx_uK (by decide)]
theorem ge36 {k : Nat} (h : k < 36) : ¬ (36 : Int32) ≤ nI k := nI_ge (b := 36) h (by decide)
theorem wip {k : Nat} (hk : k < 16) : ∀ (m j f : Nat) (U : gx_M), j + m = 36 → m < f → ∃ U', F_Mod_wipe_2 f 0 (nI k) (nI j) U = some U' ∧ (∀ c, c ≠ 1 → U' c = U c) ∧ (∀ i, j ≤ i → i < 36 → U' 1 (36 * k + i) = 0) ∧ ∀ q, (q < 36 * k + j ∨ 36 * k + 36 ≤ q) → U' 1 q = U 1 q := by
  intro m
  induction m with
  | zero =>
    intro j f U h1 h2
    obtain ⟨e, rfl⟩ : ∃ e, f = e + 1 := ⟨f - 1, by omega⟩
    have e : j = 36 := by omega
    subst e
    exact ⟨U, by rw [F_Mod_wipe_2, if_pos (by decide)], fun _ _ => rfl, fun c h1 h2 => absurd h1 (by omega), fun _ _ => rfl⟩
  | succ m ih =>
    intro j f U h1 h2
    obtain ⟨e, rfl⟩ : ∃ e, f = e + 1 := ⟨f - 1, by omega⟩
    obtain ⟨U', i1, i2, i3, i4⟩ := ih (j + 1) e (gx_u U 1 (36 * k + j) 0) (by omega) (by omega)
    refine ⟨U', ?_, fun c hc => by rw [i2 c hc, gx_uK hc], fun c h1 h2 => ?_, fun q hq => ?_⟩
    · rw [F_Mod_wipe_2, if_neg (ge36 (show j < 36 by omega)), m36, nI_add, ib_t (by omega) (by decide), gl, nI_clamp (by omega), Nat.zero_add, nI_1, i1]
    · by_cases e : c = j
      · subst e
        rw [i4 _ (Or.inl (by omega)), gx_us]
      · exact i3 c (by omega) h2
    · rw [i4 q (by omega), gx_up (by omega)]
theorem wipM {k : Nat} {U : gx_M} (hk : k < 16) : ∃ U', F_Mod_wipe 0 (nI k) U = some U' ∧ (∀ c, c ≠ 1 → U' c = U c) ∧ (∀ i, i < 36 → U' 1 (36 * k + i) = 0) ∧ ∀ q, (q < 36 * k ∨ 36 * k + 36 ≤ q) → U' 1 q = U 1 q := by
  have h := fun f hf => wip hk 36 0 f U rfl hf
  unfold F_Mod_wipe
  generalize hf : (100 : Nat) = f
  obtain ⟨U', i1, i2, i3, i4⟩ := h f (by omega)
  exact ⟨U', i1, i2, fun i hi => i3 i (by omega) hi, fun q hq => i4 q (by omega)⟩
theorem goers_s {x x8 x9 : Int32} {B : Nat} : ∀ (m k f1 f2 : Nat) (V U : gx_M), k + m = 16 → m < f1 → m < f2 → V 1 5 = x → pr_acc (V 3) (V 4) (V 5) (V 6) (V 7) (U 1) 0 → bp (V 3) B → (∀ a, k ≤ a → a < 16 → U 1 (36 * a + 35) = if tb x a = true then 1 else 0) → ∃ V' U' f', F_Mac_removeGoers_2 f1 1 (nI k) V = some V' ∧ F_Mod_transact_319 f2 0 x8 x9 (nI k) U = F_Mod_transact_319 (f' + 1) 0 x8 x9 (nI 16) U' ∧ pr_acc (V' 3) (V' 4) (V' 5) (V' 6) (V' 7) (U' 1) 0 ∧ bp (V' 3) B ∧ (∀ c, c ≠ 3 → c ≠ 4 → c ≠ 5 → c ≠ 7 → V' c = V c) ∧ ∀ c, c ≠ 1 → U' c = U c := by
  intro m
  induction m with
  | zero =>
    intro k f1 f2 V U h1 h2 h3 hx ha hb hf
    obtain ⟨e1, rfl⟩ : ∃ e, f1 = e + 1 := ⟨f1 - 1, by omega⟩
    obtain ⟨e2, rfl⟩ : ∃ e, f2 = e + 1 := ⟨f2 - 1, by omega⟩
    have e : k = 16 := by omega
    subst e
    exact ⟨V, U, _, by rw [F_Mac_removeGoers_2, if_pos (by decide)], rfl, ha, hb, fun _ _ _ _ _ => rfl, fun _ _ => rfl⟩
  | succ m ih =>
    intro k f1 f2 V U h1 h2 h3 hx ha hb hf
    obtain ⟨e1, rfl⟩ : ∃ e, f1 = e + 1 := ⟨f1 - 1, by omega⟩
    obtain ⟨e2, rfl⟩ : ∃ e, f2 = e + 1 := ⟨f2 - 1, by omega⟩
    have hk : k < 16 := by omega
    have i35 : (36 : Int32) * nI k + 35 = nI (36 * k + 35) := by rw [m36, show (35 : Int32) = nI 35 from rfl, nI_add]
    have hfk := hf k (Nat.le_refl _) hk
    rw [F_Mac_removeGoers_2, F_Mod_transact_319, if_neg (ge16 hk), if_neg (ge16 hk), i35, ib_t (by omega) (by decide), nI_clamp (by omega), Nat.zero_add, hfk, hx, nI_1, show (1 + 1 : Nat) = 2 from rfl]
    by_cases hb1 : tb x k = true
    · rw [if_neg (fun q => by rw [(tb_c hk).mp q] at hb1; exact absurd hb1 (by decide)), if_pos hb1, if_pos rfl]
      obtain ⟨V1, c1, c2, c3, c4, c5, c6, c7⟩ := clrC (V := V) hk
      obtain ⟨U1, w1, w2, w3, w4⟩ := wipM (U := U) hk
      rw [c1, ob, w1, ob]
      obtain ⟨V', U', f', r1, r2, r3, r4, r5, r6⟩ := ih (k + 1) e1 e2 V1 U1 (by omega) (by omega) (by omega) (by rw [c2 1 (by decide) (by decide) (by decide) (by decide)]; exact hx) (by
        rw [c3, c4, c5, c2 6 (by decide) (by decide) (by decide) (by decide)]
        intro c hc
        by_cases e : c = k
        · subst e
          have z : ∀ i, i < 36 → U1 1 (0 + 36 * c + i) = 0 := fun i hi => by rw [Nat.zero_add]; exact w3 i hi
          refine ⟨by rw [pk_us]; exact (z 0 (by decide)).symm, by rw [pk_us]; exact (z 1 (by decide)).symm, by rw [pk_us]; exact (z 2 (by decide)).symm, ⟨0, by omega, by rw [pk_us]; rfl, fun j hj => absurd hj (by omega)⟩, fun i hi => ?_⟩
          rw [c6 i hi, Nat.add_assoc, z (27 + i) (by omega)]
        · obtain ⟨h1, h2, h3, ⟨y, hy, h4, h5⟩, h6⟩ := ha c hc
          refine ⟨by rw [pk_un e, w4 _ (by omega)]; exact h1, by rw [pk_un e, w4 _ (by omega)]; exact h2, by rw [pk_un e, w4 _ (by omega)]; exact h3, ⟨y, hy, by rw [pk_un e]; exact h4, fun j hj => by rw [w4 _ (by omega)]; exact h5 j hj⟩, fun i hi => by rw [c7 _ (by omega), w4 _ (by omega)]; exact h6 i hi⟩) (by
        rw [c3]
        obtain ⟨f, f1, f2⟩ := hb
        refine ⟨gu f k 0, fun a ha => ?_, ?_⟩
        · by_cases e : a = k
          · subst e; rw [pk_us, gu_s]; rfl
          · rw [pk_un e, gu_n e]; exact f1 a ha
        · have := sg_u (f := f) (d := k) (x := 0) 16 hk
          omega) (fun a h1 h2 => by rw [w4 _ (by omega)]; exact hf a (by omega) h2)
      exact ⟨V', U', f', r1, r2, r3, r4, fun c h1 h2 h3 h4 => by rw [r5 c h1 h2 h3 h4, c2 c h1 h2 h3 h4], fun c hc => by rw [r6 c hc, w2 c hc]⟩
    · have hb2 : tb x k = false := by simpa using hb1
      rw [if_pos ((tb_c hk).mpr hb2), if_neg hb1, if_neg (by decide)]
      exact ih (k + 1) e1 e2 V U (by omega) (by omega) (by omega) hx ha hb (fun a h1 h2 => hf a (by omega) h2)
