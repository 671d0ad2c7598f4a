theorem out_ne {x : Int32} {L j : Nat} (h : x < 0 ∨ nI L ≤ x) (hj : j < L) (hL : L < 2 ^ 31) : ¬ x = nI j := by
  intro e
  subst e
  rcases h with h | h
  · exact nI_pos (by omega) h
  · exact nI_ge hj hL h
theorem in4_no {x : Int32} {V : gx_M} (h : x < 0 ∨ nI 4 ≤ x) : F_Mod_in x 4 V = some (0, V) := in_no h
theorem in4_yes {a : Nat} {V : gx_M} (h : a < 4) : F_Mod_in (nI a) 4 V = some (1, V) := in_yes (L := 4) h (by decide)
theorem in2_no {x : Int32} {V : gx_M} (h : x < 0 ∨ nI 2 ≤ x) : F_Mod_in x 2 V = some (0, V) := in_no h
theorem in2_yes {a : Nat} {V : gx_M} (h : a < 2) : F_Mod_in (nI a) 2 V = some (1, V) := in_yes (L := 2) h (by decide)
theorem nI_d {a b : Nat} (ha : a < 2 ^ 31) (hb : b < 2 ^ 31) (h : a ≠ b) : (nI a = nI b) = False := eq_false (fun e => h ((nI_eq ha hb).mp e))
set_option maxHeartbeats 1000000 in
theorem pf_receipt : sm_receipt sm_R := by
  intro n V U hn hR a1 a2
  have hR1 := pr_next hR
  obtain ⟨hg, ha, hb, ⟨hc, r, hr, er, hk⟩, hl⟩ := id hR
  unfold F_Led_receipt F_Rec_partOf F_Mod_receipt
  by_cases h0 : a1 < 0
  · exact ⟨-1, V, U, by simp only [h0, if_true, Option.bind_some], by simp only [h0, if_true], hR1⟩
  by_cases h1 : V 92 4 ≤ a1
  · have h1' : U 0 11 ≤ a1 := by rw [← hc]; exact h1
    exact ⟨-1, V, U, by simp only [Nat.zero_add, h0, if_false, h1, if_true, Option.bind_some], by simp only [h0, if_false, h1', if_true], hR1⟩
  have h1' : ¬ U 0 11 ≤ a1 := by rw [← hc]; exact h1
  rcases pr_ix a1 16 (by decide) with h | ⟨k, h16, rfl⟩
  · have h2 : (16 : Int32) ≤ a1 := h.resolve_left h0
    have h3 : ¬ a1 < (16 : Int32) := Int32.not_lt.mpr h2
    exact ⟨-1, V, U, by simp only [Nat.zero_add, h0, if_false, h1, h3, Option.bind_some], by simp only [h0, if_false, h1', h2, if_true], hR1⟩
  have h3 : nI k < (16 : Int32) := nI_lt (b := 16) h16 (by decide)
  have h2 : ¬ (16 : Int32) ≤ nI k := nI_ge (b := 16) h16 (by decide)
  have hkr : k < r := by
    rw [er] at h1
    exact Nat.lt_of_not_le (fun q => h1 (nI_le q (by omega)))
  obtain ⟨e0, e1, e2, e3⟩ := hk k hkr h16
  rcases pr_ix a2 4 (by decide) with hw | ⟨w, hw, rfl⟩
  · have w0 : ¬ a2 = (0 : Int32) := out_ne (j := 0) hw (by decide) (by decide)
    have w1 : ¬ a2 = (1 : Int32) := out_ne (j := 1) hw (by decide) (by decide)
    have w2 : ¬ a2 = (2 : Int32) := out_ne (j := 2) hw (by decide) (by decide)
    have w3 : ¬ a2 = (3 : Int32) := out_ne (j := 3) hw (by decide) (by decide)
    exact ⟨-1, V, U, by simp only [Nat.zero_add, h0, if_false, h1, h3, if_true, w0, w1, w2, w3, Option.bind_some], by simp only [h0, if_false, h1', h2, in4_no hw, Option.bind_some, if_true], hR1⟩
  have ei : (4 : Int32) * nI k + nI w = nI (4 * k + w) := by rw [m4, nI_add]
  refine ⟨U 3 (4 * k + w), V, U, ?_, ?_, hR1⟩
  · have hx : w = 0 ∨ w = 1 ∨ w = 2 ∨ w = 3 := by omega
    have z0 : (0 : Int32) = nI 0 := rfl
    have z1 : (1 : Int32) = nI 1 := rfl
    have z2 : (2 : Int32) = nI 2 := rfl
    have z3 : (3 : Int32) = nI 3 := rfl
    have hk31 : k < 2 ^ 31 := by omega
    rcases hx with rfl | rfl | rfl | rfl
    · have y0 : nI 0 = (0 : Int32) := rfl
      simp only [Nat.zero_add, h0, if_false, h1, h3, if_true, y0, ib_t h16 (show 16 < 2 ^ 31 by decide), nI_clamp hk31, Option.bind_some, e0, Nat.add_zero]
    · have y0 : ¬ nI 1 = (0 : Int32) := by decide
      have y1 : nI 1 = (1 : Int32) := rfl
      simp only [Nat.zero_add, h0, if_false, h1, h3, if_true, y0, y1, one0, ib_t h16 (show 16 < 2 ^ 31 by decide), nI_clamp hk31, Option.bind_some, e1]
    · have y0 : ¬ nI 2 = (0 : Int32) := by decide
      have y1 : ¬ nI 2 = (1 : Int32) := by decide
      have y2 : nI 2 = (2 : Int32) := rfl
      rw [if_neg h0, Nat.zero_add, if_neg h1, if_pos h3, if_neg y0, if_neg y1, if_pos y2, ib_t h16 (by decide), nI_clamp hk31]
      show some (V 95 k, V) = _
      rw [e2]
    · have y0 : ¬ nI 3 = (0 : Int32) := by decide
      have y1 : ¬ nI 3 = (1 : Int32) := by decide
      have y2 : ¬ nI 3 = (2 : Int32) := by decide
      have y3 : nI 3 = (3 : Int32) := rfl
      rw [if_neg h0, Nat.zero_add, if_neg h1, if_pos h3, if_neg y0, if_neg y1, if_neg y2, if_pos y3, ib_t h16 (by decide), nI_clamp hk31]
      show some (V 96 k, V) = _
      rw [e3]
  · simp only [h0, if_false, h1', h2, in4_yes hw, Option.bind_some, one0, ei, ib_t (show 4 * k + w < 64 by omega) (show 64 < 2 ^ 31 by decide), nI_clamp (show 4 * k + w < 2 ^ 31 by omega), Nat.zero_add]
set_option maxHeartbeats 1000000 in
theorem pf_log : sm_log sm_R := by
  intro n V U hn hR a1 a2
  have hR1 := pr_next hR
  obtain ⟨hg, ha, hb, hr, ⟨hc, lg, ug, hu1, hu2, hu3, el, hbl, hk⟩, -⟩ := id hR
  unfold F_Led_log F_Log_partOf F_Mod_log
  by_cases h0 : a1 < 0
  · exact ⟨-1, V, U, by simp only [h0, if_true, Option.bind_some], by simp only [h0, if_true], hR1⟩
  by_cases h1 : V 9 2 ≤ a1
  · have h1' : U 0 13 ≤ a1 := by rw [← hc]; exact h1
    refine ⟨-1, V, U, ?_, by simp only [h0, if_false, h1', if_true], hR1⟩
    rw [if_neg h0, show (0 + 1 + 8 : Nat) = 9 from rfl, if_pos h1]; rfl
  have h1' : ¬ U 0 13 ≤ a1 := by rw [← hc]; exact h1
  rcases pr_ix a1 16 (by decide) with h | ⟨k, h16, rfl⟩
  · have h2 : (16 : Int32) ≤ a1 := h.resolve_left h0
    have h3 : ¬ a1 < (16 : Int32) := Int32.not_lt.mpr h2
    have h4 : (15 : Int32) < a1 := by
      rw [Int32.lt_iff_toInt_lt]
      rw [Int32.le_iff_toInt_le] at h2
      have q1 : (15 : Int32).toInt = 15 := by decide
      have q2 : (16 : Int32).toInt = 16 := by decide
      omega
    refine ⟨-1, V, U, ?_, by simp only [h0, if_false, h1', h4, if_true], hR1⟩
    rw [if_neg h0, show (0 + 1 + 8 : Nat) = 9 from rfl, if_neg h1, if_neg h3]; rfl
  have h3 : nI k < (16 : Int32) := nI_lt (b := 16) h16 (by decide)
  have h4 : ¬ (15 : Int32) < nI k := nI_nlt (a := 15) (by omega) (by decide)
  have hkr : k < lg := by
    rw [hc, el] at h1
    exact Nat.lt_of_not_le (fun q => h1 (nI_le q (by omega)))
  obtain ⟨e0, e1⟩ := hk k hkr h16
  have hk31 : k < 2 ^ 31 := by omega
  rcases pr_ix a2 2 (by decide) with hw | ⟨w, hw, rfl⟩
  · have w0 : ¬ a2 = (0 : Int32) := out_ne (j := 0) hw (by decide) (by decide)
    have w1 : ¬ a2 = (1 : Int32) := out_ne (j := 1) hw (by decide) (by decide)
    refine ⟨-1, V, U, ?_, by simp only [h0, if_false, h1', h4, in2_no hw, Option.bind_some, if_true], hR1⟩
    rw [if_neg h0, show (0 + 1 + 8 : Nat) = 9 from rfl, if_neg h1, if_pos h3, if_neg w0, if_neg w1]; rfl
  have hx : w = 0 ∨ w = 1 := by omega
  rcases hx with rfl | rfl
  · have y0 : nI 0 = (0 : Int32) := rfl
    refine ⟨U 4 k, V, U, ?_, ?_, hR1⟩
    · rw [if_neg h0, show (0 + 1 + 8 : Nat) = 9 from rfl, if_neg h1, if_pos h3, if_pos y0, ib_t h16 (by decide), nI_clamp hk31]
      show some (V 10 k, V) = _
      rw [e0]
    · rw [if_neg h0, if_neg h1', if_neg h4, in2_yes (by decide)]
      simp only [Option.bind_some, one0, if_false, y0, if_true, ib_t (show k < 512 by omega) (show 512 < 2 ^ 31 by decide), nI_clamp hk31, Nat.zero_add]
  · have y0 : ¬ nI 1 = (0 : Int32) := by decide
    have y1 : nI 1 = (1 : Int32) := rfl
    refine ⟨U 5 k, V, U, ?_, ?_, hR1⟩
    · rw [if_neg h0, show (0 + 1 + 8 : Nat) = 9 from rfl, if_neg h1, if_pos h3, if_neg y0, if_pos y1, ib_t h16 (by decide), nI_clamp hk31]
      show some (V 11 k, V) = _
      rw [e1]
    · rw [if_neg h0, if_neg h1', if_neg h4, in2_yes (by decide)]
      simp only [Option.bind_some, one0, if_false, y0, if_true, ib_t (show k < 512 by omega) (show 512 < 2 ^ 31 by decide), nI_clamp hk31, Nat.zero_add]
theorem pf_tot {V U : gx_M} (ha : pr_acc (V 3) (V 4) (V 5) (V 6) (V 7) (U 1) 0) : ∀ (d : Nat), d ≤ 16 → ∀ (f1 f2 : Nat) (acc : Int64), d < f1 → d < f2 → ∃ r, F_Led_total_4 f1 0 acc (nI (16 - d)) V = some (r, V) ∧ F_Mod_total_4 f2 0 acc (nI (16 - d)) U = some (r, U) := by
  intro d
  induction d with
  | zero =>
    intro _ f1 f2 acc h1 h2
    obtain ⟨g1, rfl⟩ : ∃ g, f1 = g + 1 := ⟨f1 - 1, by omega⟩
    obtain ⟨g2, rfl⟩ : ∃ g, f2 = g + 1 := ⟨f2 - 1, by omega⟩
    have hh : (16 : Int32) ≤ nI (16 - 0) := nI_le (a := 16) (by decide) (by decide)
    exact ⟨acc, by rw [F_Led_total_4, if_pos hh], by rw [F_Mod_total_4, if_pos hh]⟩
  | succ d ih =>
    intro hd f1 f2 acc h1 h2
    obtain ⟨g1, rfl⟩ : ∃ g, f1 = g + 1 := ⟨f1 - 1, by omega⟩
    obtain ⟨g2, rfl⟩ : ∃ g, f2 = g + 1 := ⟨f2 - 1, by omega⟩
    have hi : 16 - (d + 1) < 16 := by omega
    have hh : ¬ (16 : Int32) ≤ nI (16 - (d + 1)) := nI_ge (b := 16) hi (by decide)
    have ex : V 3 (16 - (d + 1)) = U 1 (36 * (16 - (d + 1))) := by have := (ha _ hi).1; rw [Nat.zero_add] at this; exact this
    have en : nI (16 - (d + 1)) + (1 : Int32) = nI (16 - d) := by rw [nI_1]; congr 1; omega
    obtain ⟨r, i1, i2⟩ := ih (by omega) g1 g2 (acc + (V 3 (16 - (d + 1))).toInt64) (by omega) (by omega)
    refine ⟨r, ?_, ?_⟩
    · rw [F_Led_total_4, if_neg hh, ib_t hi (by decide), nI_clamp (by omega), en]
      exact i1
    · rw [F_Mod_total_4, if_neg hh, m36, ib_t (by omega) (by decide), nI_clamp (by omega), en]
      rw [ex] at i2
      exact i2
theorem pf_total : sm_total sm_R := by
  intro n V U hn hR
  obtain ⟨r, h1, h2⟩ := pf_tot hR.2.1 16 (Nat.le_refl _) 100 100 0 (by decide) (by decide)
  exact ⟨r, V, U, h1, h2, pr_next hR⟩
