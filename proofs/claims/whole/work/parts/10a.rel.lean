/-! The simulation, pure: a relation between the class's memory V and the reference's U at rest (between the law's calls). -/
def pr_g (v u : Nat → Int32) : Prop := v 3 = u 16 ∧ v 4 = u 17 ∧ v 5 = u 18 ∧ v 6 = u 4 ∧ (v 6 = 0 ∨ v 6 = 1) ∧ v 7 = u 6 ∧ v 8 = u 5 ∧ (∃ a : Nat, a < 16 ∧ v 8 = nI a) ∧ v 9 = u 10 ∧ v 10 = u 3 ∧ (∃ g : Nat, g ≤ 30 ∧ v 10 = nI g) ∧ v 11 = u 8 ∧ v 12 = u 9 ∧ v 13 = u 7
def pr_acc (b n s w t f : Nat → Int32) (o : Nat) : Prop := ∀ a, a < 16 → b a = f (o + 36 * a) ∧ n a = f (o + 36 * a + 1) ∧ s a = f (o + 36 * a + 2) ∧ (∃ z : Nat, z ≤ 24 ∧ s a = nI z ∧ ∀ j, j < z → w (24 * a + j) = f (o + 36 * a + 3 + j)) ∧ ∀ k, k < 8 → t (8 * a + k) = f (o + 36 * a + 27 + k)
def pr_rec (n : Nat) (c c' : Int32) (v0 v1 v2 v3 f : Nat → Int32) : Prop := c = c' ∧ ∃ r : Nat, r ≤ n ∧ c = nI r ∧ ∀ k, k < r → k < 16 → v0 k = f (4 * k) ∧ v1 k = f (4 * k + 1) ∧ v2 k = f (4 * k + 2) ∧ v3 k = f (4 * k + 3)
/-- the bits of one log, and of the first so many -/
def pr_bit (x : Int32) : Int32 := ((1 : Int32) <<< ((x &&& 31) &&& 31)) ||| ((1 : Int32) <<< (((let t := (6 : Int32) * 668265263 + x; t ^^^ (t.toUInt32 >>> ((13 : Int32).toUInt32 &&& Int32.toUInt32 31)).toInt32) &&& 31) &&& 31))
def pr_bl (f : Nat → Int32) : Nat → Int32
  | 0 => 0
  | k + 1 => pr_bl f k ||| pr_bit (f k)
def pr_log (us : Int32) (v9 v10 v11 : Nat → Int32) (c : Int32) (u4 u5 : Nat → Int32) : Prop := v9 2 = c ∧ ∃ lg ug : Nat, ug ≤ 3000 ∧ us = nI ug ∧ 12 * lg ≤ 2 * ug ∧ c = nI lg ∧ v9 3 = pr_bl u5 lg ∧ ∀ k, k < lg → k < 16 → v10 k = u4 k ∧ v11 k = u5 k
/-- the balances are naturals whose sum is bounded -/
def sg (f : Nat → Nat) : Nat → Nat
  | 0 => 0
  | n + 1 => sg f n + f n
def bp (b : Nat → Int32) (B : Nat) : Prop := ∃ f : Nat → Nat, (∀ a, a < 16 → b a = nI (f a)) ∧ sg f 16 ≤ B
def gu (f : Nat → Nat) (d x : Nat) : Nat → Nat := fun j => if j = d then x else f j
theorem gu_s (f : Nat → Nat) (d x : Nat) : gu f d x d = x := if_pos rfl
theorem gu_n {f : Nat → Nat} {d x j : Nat} (h : j ≠ d) : gu f d x j = f j := if_neg h
theorem sg_lt {f : Nat → Nat} {d x : Nat} : ∀ n, n ≤ d → sg (gu f d x) n = sg f n := by
  intro n
  induction n with
  | zero => intro _; rfl
  | succ n ih => intro h; rw [sg, sg, ih (by omega), gu_n (by omega)]
theorem sg_u {f : Nat → Nat} {d x : Nat} : ∀ n, d < n → sg (gu f d x) n + f d = sg f n + x := by
  intro n
  induction n with
  | zero => intro h; omega
  | succ n ih =>
    intro h
    rw [sg, sg]
    by_cases e : d = n
    · subst e
      rw [gu_s, sg_lt d (Nat.le_refl _)]; omega
    · have := ih (by omega)
      rw [gu_n (by omega)]; omega
theorem sg_ge {f : Nat → Nat} {d : Nat} : ∀ n, d < n → f d ≤ sg f n := by
  intro n
  induction n with
  | zero => intro h; omega
  | succ n ih =>
    intro h
    rw [sg]
    by_cases e : d = n
    · subst e; omega
    · have := ih (by omega); omega
theorem bp_le {b : Nat → Int32} {B B' : Nat} (h : bp b B) (hB : B ≤ B') : bp b B' := by
  obtain ⟨f, h1, h2⟩ := h
  exact ⟨f, h1, by omega⟩
theorem bp_add {b : Nat → Int32} {B B' a x : Nat} (h : bp b B) (ha : a < 16) (hB : B + x ≤ B') : bp (upd b a (b a + nI x)) B' := by
  obtain ⟨f, h1, h2⟩ := h
  refine ⟨gu f a (f a + x), fun c hc => ?_, ?_⟩
  · by_cases e : c = a
    · subst e; rw [pk_us, gu_s, h1 c hc, nI_add]
    · rw [pk_un e, gu_n e, h1 c hc]
  · have := sg_u (f := f) (d := a) (x := f a + x) 16 ha
    omega
theorem bp_cp {b b' : Nat → Int32} {B : Nat} (h : bp b B) : bp (va_cpy b b' 0 0 16) B := by
  obtain ⟨f, h1, h2⟩ := h
  exact ⟨f, fun a ha => by rw [sb_cpy0 ha]; exact h1 a ha, h2⟩
def sm_R (n : Nat) (V U : gx_M) : Prop := pr_g (V 0) (U 0) ∧ pr_acc (V 3) (V 4) (V 5) (V 6) (V 7) (U 1) 0 ∧ pr_acc (V 86) (V 87) (V 88) (V 89) (V 90) (U 2) 0 ∧ pr_rec n (V 92 4) (U 0 11) (V 93) (V 94) (V 95) (V 96) (U 3) ∧ pr_log (V 0 9) (V 9) (V 10) (V 11) (U 0 13) (U 4) (U 5) ∧ bp (V 3) (1000000 * n) ∧ bp (V 86) (1000000 * n)
theorem pr_next {n : Nat} {V U : gx_M} (h : sm_R n V U) : sm_R (n + 1) V U := by
  obtain ⟨h1, h2, h3, ⟨h4, r, hr, h5⟩, h6, h7, h8⟩ := h
  exact ⟨h1, h2, h3, ⟨h4, r, by omega, h5⟩, h6, bp_le h7 (by omega), bp_le h8 (by omega)⟩
/-- a store seen from any cell -/
theorem gx_ua (V : gx_M) (k p k' : Nat) (x : Int32) : gx_u V k p x k' = if k' = k then upd (V k) p x else V k' := rfl
theorem acc_no {x : Int32} {V : gx_M} (h : x < 0 ∨ nI 16 ≤ x) : F_Led_isAccount x V = some (0, V) := by
  unfold F_Led_isAccount
  rw [show (16 : Int32) = nI 16 from rfl]
  by_cases h0 : x < 0
  · rw [if_pos h0]
  · rw [if_neg h0, if_pos (h.resolve_left h0)]
theorem acc_yes {a : Nat} {V : gx_M} (h : a < 16) : F_Led_isAccount (nI a) V = some (1, V) := by
  unfold F_Led_isAccount
  rw [show (16 : Int32) = nI 16 from rfl, if_neg (nI_pos (by omega)), if_neg (nI_ge (a := a) (b := 16) h (by decide))]
theorem slt_no {x : Int32} {V : gx_M} (h : x < 0 ∨ nI 8 ≤ x) : F_Led_isSlot x V = some (0, V) := by
  unfold F_Led_isSlot
  rw [show (8 : Int32) = nI 8 from rfl]
  by_cases h0 : x < 0
  · rw [if_pos h0]
  · rw [if_neg h0, if_pos (h.resolve_left h0)]
theorem slt_yes {a : Nat} {V : gx_M} (h : a < 8) : F_Led_isSlot (nI a) V = some (1, V) := by
  unfold F_Led_isSlot
  rw [show (8 : Int32) = nI 8 from rfl, if_neg (nI_pos (by omega)), if_neg (nI_ge (a := a) (b := 8) h (by decide))]
theorem in_no {x : Int32} {L : Nat} {V : gx_M} (h : x < 0 ∨ nI L ≤ x) : F_Mod_in x (nI L) V = some (0, V) := by
  unfold F_Mod_in
  by_cases h0 : x < 0
  · rw [if_pos h0]
  · rw [if_neg h0, if_pos (h.resolve_left h0)]
theorem in_yes {a L : Nat} {V : gx_M} (h : a < L) (hL : L < 2 ^ 31) : F_Mod_in (nI a) (nI L) V = some (1, V) := by
  unfold F_Mod_in
  rw [if_neg (nI_pos (by omega)), if_neg (nI_ge h hL)]
theorem pr_ix (x : Int32) (n : Nat) (hn : n < 2 ^ 31) : (x < 0 ∨ nI n ≤ x) ∨ ∃ j : Nat, j < n ∧ x = nI j := by
  rcases pk_ix x hn with h | h | h
  · exact Or.inl (Or.inl h)
  · exact Or.inl (Or.inr h)
  · exact Or.inr h
theorem ib_nI {a n : Nat} (h : a < n) (hn : n < 2 ^ 31) : gx_ib (nI a) n := vp_in_nI h hn
theorem ib_t {α : Type} {a n : Nat} {d : Decidable (gx_ib (nI a) n)} {t e : α} (h : a < n) (hn : n < 2 ^ 31) : @ite α (gx_ib (nI a) n) d t e = t := if_pos (ib_nI h hn)
theorem m36 (a : Nat) : (36 : Int32) * nI a = nI (36 * a) := pk_mul 36 a
theorem m8 (a : Nat) : nI a * (8 : Int32) = nI (a * 8) := pk_mul a 8
theorem m24 (a : Nat) : nI a * (24 : Int32) = nI (a * 24) := pk_mul a 24
theorem m4 (a : Nat) : (4 : Int32) * nI a = nI (4 * a) := pk_mul 4 a
theorem p_c (a c : Nat) : nI a + Int32.ofNat c = nI (a + c) := nI_add a c
theorem pr_acc_b {b n s w t f : Nat → Int32} {a : Nat} {x : Int32} (h : pr_acc b n s w t f 0) (ha : a < 16) : pr_acc (upd b a x) n s w t (upd f (36 * a) x) 0 := by
  intro c hc
  obtain ⟨h1, h2, h3, ⟨z, hz, h4, h5⟩, h6⟩ := h c hc
  refine ⟨?_, ?_, ?_, ⟨z, hz, h4, fun j hj => ?_⟩, fun k hk => ?_⟩
  · by_cases e : c = a
    · subst e; simp [upd]
    · rw [pk_un e, pk_un (by omega)]; exact h1
  · rw [pk_un (by omega)]; exact h2
  · rw [pk_un (by omega)]; exact h3
  · rw [pk_un (by omega)]; exact h5 j hj
  · rw [pk_un (by omega)]; exact h6 k hk
theorem pr_acc_t {b n s w t f : Nat → Int32} {a k : Nat} {x : Int32} (h : pr_acc b n s w t f 0) (ha : a < 16) (hk : k < 8) : pr_acc b n s w (upd t (a * 8 + k) x) (upd f (36 * a + 27 + k) x) 0 := by
  intro c hc
  obtain ⟨h1, h2, h3, ⟨z, hz, h4, h5⟩, h6⟩ := h c hc
  refine ⟨?_, ?_, ?_, ⟨z, hz, h4, fun j hj => ?_⟩, fun i hi => ?_⟩
  · rw [pk_un (by omega)]; exact h1
  · rw [pk_un (by omega)]; exact h2
  · rw [pk_un (by omega)]; exact h3
  · rw [pk_un (by omega)]; exact h5 j hj
  · by_cases e : c = a ∧ i = k
    · obtain ⟨rfl, rfl⟩ := e
      rw [show 8 * c + i = c * 8 + i by omega, show 0 + 36 * c + 27 + i = 36 * c + 27 + i by omega, pk_us, pk_us]
    · rw [pk_un (by omega), pk_un (by omega)]; exact h6 i hi
set_option maxHeartbeats 1000000 in
theorem pf_terms : sm_terms sm_R := by
  intro n V U hn hR a1 a2 a3
  refine ⟨_, _, rfl, rfl, ?_⟩
  obtain ⟨⟨g1, g2, g3, g⟩, h2, h3, h4, h5⟩ := pr_next hR
  refine ⟨⟨?_, ?_, ?_, g⟩, h2, h3, h4, h5⟩ <;> simp [gx_u, va_up, upd]
theorem in16_no {x : Int32} {V : gx_M} (h : x < 0 ∨ nI 16 ≤ x) : F_Mod_in x 16 V = some (0, V) := in_no h
theorem in16_yes {a : Nat} {V : gx_M} (h : a < 16) : F_Mod_in (nI a) 16 V = some (1, V) := in_yes (L := 16) h (by decide)
theorem in8_no {x : Int32} {V : gx_M} (h : x < 0 ∨ nI 8 ≤ x) : F_Mod_in x 8 V = some (0, V) := in_no h
theorem in8_yes {a : Nat} {V : gx_M} (h : a < 8) : F_Mod_in (nI a) 8 V = some (1, V) := in_yes (L := 8) h (by decide)
theorem inM_no {x : Int32} {V : gx_M} (h : x < 0 ∨ nI 1000001 ≤ x) : F_Mod_in x 1000001 V = some (0, V) := in_no h
theorem inM_yes {a : Nat} {V : gx_M} (h : a < 1000001) : F_Mod_in (nI a) 1000001 V = some (1, V) := in_yes (L := 1000001) h (by decide)
theorem one0 : ((1 : Int32) = 0) = False := by decide
theorem nlt0 {a : Nat} (h : a < 2 ^ 31) : (nI a < 0) = False := eq_false (nI_pos h)
set_option maxHeartbeats 1000000 in
theorem pf_fund : sm_fund sm_R := by
  intro n V U hn hR a1 a2
  have hR1 := pr_next hR
  obtain ⟨hg, ha, hb, hr, hl⟩ := id hR
  have e10 : V 0 10 = U 0 3 := hg.2.2.2.2.2.2.2.2.2.1
  unfold F_Led_fund F_Mod_fund
  rcases pr_ix a1 16 (by decide) with h | ⟨a, h16, rfl⟩
  · refine ⟨0, V, U, ?_, ?_, hR1⟩
    · by_cases h0 : 0 < V 0 10
      · simp only [h0, if_true]
      · simp only [h0, if_false, acc_no h, Option.bind_some, if_true]
    · simp only [in16_no h, Option.bind_some, if_true]
  rcases pr_ix a2 1000001 (by decide) with h2 | ⟨x, hx, rfl⟩
  · refine ⟨0, V, U, ?_, ?_, hR1⟩
    · by_cases h0 : 0 < V 0 10
      · simp only [h0, if_true]
      · by_cases h3 : a2 < 0
        · simp only [h0, if_false, acc_yes h16, Option.bind_some, one0, h3, if_true]
        · have h4 : ¬ a2 ≤ (1000000 : Int32) := by
            intro h4
            have h5 := h2.resolve_left h3
            rw [Int32.le_iff_toInt_le] at h4 h5
            rw [nI_toInt (by decide)] at h5
            have h6 : (1000000 : Int32).toInt = 1000000 := by decide
            omega
          simp only [h0, if_false, acc_yes h16, Option.bind_some, one0, h3, h4]
    · simp only [in16_yes h16, inM_no h2, Option.bind_some, one0, if_false, if_true]
  by_cases h0 : 0 < V 0 10
  · refine ⟨0, V, U, by simp only [h0, if_true], ?_, hR1⟩
    have h1 : ¬ U 0 3 ≤ 0 := by rw [← e10]; exact Int32.not_le.mpr h0
    simp only [in16_yes h16, inM_yes hx, Option.bind_some, one0, if_false, h1]
  · have h1 : U 0 3 ≤ 0 := by rw [← e10]; exact Int32.not_lt.mp h0
    have h2 : nI x ≤ (1000000 : Int32) := nI_le (b := 1000000) (by omega) (by decide)
    refine ⟨1, gx_u V 3 a (V 3 a + nI x), gx_u U 1 (36 * a) (U 1 (36 * a) + nI x), ?_, ?_, ?_⟩
    · simp only [h0, if_false, acc_yes h16, Option.bind_some, one0, nlt0 (show x < 2 ^ 31 by omega), h2, if_true, ib_t h16 (show 16 < 2 ^ 31 by decide), nI_clamp (show a < 2 ^ 31 by omega)]
      rfl
    · simp only [in16_yes h16, inM_yes hx, Option.bind_some, one0, if_false, h1, if_true, m36, ib_t (show 36 * a < 576 by omega) (show 576 < 2 ^ 31 by decide), nI_clamp (show 36 * a < 2 ^ 31 by omega)]
      rfl
    · obtain ⟨r1, r2, r3, r4, r5, -, r7⟩ := hR1
      have ex : V 3 a = U 1 (36 * a) := by have := (ha a h16).1; rw [Nat.zero_add] at this; exact this
      refine ⟨r1, ?_, r3, r4, r5, bp_add (x := x) hR.2.2.2.2.2.1 h16 (by omega), r7⟩
      show pr_acc (upd (V 3) a (V 3 a + nI x)) (V 4) (V 5) (V 6) (V 7) (upd (U 1) (36 * a) (U 1 (36 * a) + nI x)) 0
      rw [ex]
      exact pr_acc_b r2 h16
set_option maxHeartbeats 1000000 in
theorem pf_preset : sm_preset sm_R := by
  intro n V U hn hR a1 a2 a3
  have hR1 := pr_next hR
  obtain ⟨hg, ha, hb, hr, hl⟩ := id hR
  have e10 : V 0 10 = U 0 3 := hg.2.2.2.2.2.2.2.2.2.1
  unfold F_Led_preset F_Mod_preset
  rcases pr_ix a1 16 (by decide) with h | ⟨a, h16, rfl⟩
  · refine ⟨0, V, U, ?_, ?_, hR1⟩
    · by_cases h0 : 0 < V 0 10
      · simp only [h0, if_true]
      · simp only [h0, if_false, acc_no h, Option.bind_some, if_true]
    · simp only [in16_no h, Option.bind_some, if_true]
  rcases pr_ix a2 8 (by decide) with h2 | ⟨k, hk, rfl⟩
  · refine ⟨0, V, U, ?_, ?_, hR1⟩
    · by_cases h0 : 0 < V 0 10
      · simp only [h0, if_true]
      · simp only [h0, if_false, acc_yes h16, Option.bind_some, one0, slt_no h2, if_true]
    · simp only [in16_yes h16, in8_no h2, Option.bind_some, one0, if_false, if_true]
  by_cases h0 : 0 < V 0 10
  · refine ⟨0, V, U, by simp only [h0, if_true], ?_, hR1⟩
    have h1 : ¬ U 0 3 ≤ 0 := by rw [← e10]; exact Int32.not_le.mpr h0
    simp only [in16_yes h16, in8_yes hk, Option.bind_some, one0, if_false, h1]
  · have h1 : U 0 3 ≤ 0 := by rw [← e10]; exact Int32.not_lt.mp h0
    have e1 : nI a * (8 : Int32) + nI k = nI (a * 8 + k) := by rw [m8, nI_add]
    have e2 : (36 : Int32) * nI a + 27 + nI k = nI (36 * a + 27 + k) := by rw [m36, show (27 : Int32) = nI 27 from rfl, nI_add, nI_add]
    refine ⟨1, gx_u V 7 (a * 8 + k) a3, gx_u U 1 (36 * a + 27 + k) a3, ?_, ?_, ?_⟩
    · simp only [h0, if_false, acc_yes h16, slt_yes hk, Option.bind_some, one0, e1, if_true, ib_t (show a * 8 + k < 128 by omega) (show 128 < 2 ^ 31 by decide), nI_clamp (show a * 8 + k < 2 ^ 31 by omega)]
      rfl
    · simp only [in16_yes h16, in8_yes hk, Option.bind_some, one0, if_false, h1, if_true, e2, ib_t (show 36 * a + 27 + k < 576 by omega) (show 576 < 2 ^ 31 by decide), nI_clamp (show 36 * a + 27 + k < 2 ^ 31 by omega)]
      rfl
    · obtain ⟨r1, r2, r3, r4, r5⟩ := hR1
      refine ⟨r1, ?_, r3, r4, r5⟩
      show pr_acc (V 3) (V 4) (V 5) (V 6) (upd (V 7) (a * 8 + k) a3) (upd (U 1) (36 * a + 27 + k) a3) 0
      exact pr_acc_t r2 h16 hk
set_option maxHeartbeats 1000000 in
theorem pf_slot : sm_slot sm_R := by
  intro n V U hn hR a1 a2
  have hR1 := pr_next hR
  obtain ⟨hg, ha, hb, hr, hl⟩ := id hR
  unfold F_Led_slot F_Acc_slotOf F_Mod_slot
  rcases pr_ix a1 16 (by decide) with h | ⟨a, h16, rfl⟩
  · exact ⟨0, V, U, by simp only [acc_no h, Option.bind_some, if_true], by simp only [in16_no h, Option.bind_some, if_true], hR1⟩
  rcases pr_ix a2 8 (by decide) with h2 | ⟨k, hk, rfl⟩
  · exact ⟨0, V, U, by simp only [acc_yes h16, slt_no h2, one0, if_false, Option.bind_some, if_true], by simp only [in16_yes h16, in8_no h2, one0, if_false, Option.bind_some, if_true], hR1⟩
  have e1 : nI a * (8 : Int32) + nI k = nI (a * 8 + k) := by rw [m8, nI_add]
  have e2 : (36 : Int32) * nI a + 27 + nI k = nI (36 * a + 27 + k) := by rw [m36, show (27 : Int32) = nI 27 from rfl, nI_add, nI_add]
  refine ⟨V 7 (a * 8 + k), V, U, ?_, ?_, hR1⟩
  · simp only [acc_yes h16, slt_yes hk, one0, if_false, Option.bind_some, e1, if_true, ib_t (show a * 8 + k < 128 by omega) (show 128 < 2 ^ 31 by decide), nI_clamp (show a * 8 + k < 2 ^ 31 by omega)]
  · have ex : V 7 (a * 8 + k) = U 1 (36 * a + 27 + k) := by have := (ha a h16).2.2.2.2 k hk; rw [Nat.zero_add, Nat.mul_comm 8 a] at this; exact this
    simp only [in16_yes h16, in8_yes hk, one0, if_false, Option.bind_some, e2, if_true, ib_t (show 36 * a + 27 + k < 576 by omega) (show 576 < 2 ^ 31 by decide), nI_clamp (show 36 * a + 27 + k < 2 ^ 31 by omega), ex]
