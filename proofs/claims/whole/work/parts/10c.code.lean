theorem pr_acc_w {b n s w t f : Nat → Int32} {a z : Nat} {x : Int32} (h : pr_acc b n s w t f 0) (ha : a < 16) (hz : z < 24) (hs : s a = nI z) : pr_acc b n (upd s a (nI (z + 1))) (upd w (a * 24 + z) x) t (upd (upd f (36 * a + 3 + z) x) (36 * a + 2) (nI (z + 1))) 0 := by
  intro c hc
  obtain ⟨h1, h2, h3, ⟨y, hy, h4, h5⟩, h6⟩ := h c hc
  refine ⟨?_, ?_, ?_, ?_, fun k hk => ?_⟩
  · rw [pk_un (by omega), pk_un (by omega)]; exact h1
  · rw [pk_un (by omega), pk_un (by omega)]; exact h2
  · by_cases e : c = a
    · subst e
      rw [pk_us, show 0 + 36 * c + 2 = 36 * c + 2 by omega, pk_us]
    · rw [pk_un e, pk_un (by omega), pk_un (by omega)]; exact h3
  · by_cases e : c = a
    · subst e
      have ey : y = z := by
        have := h4.symm.trans hs
        exact (nI_eq (by omega) (by omega)).mp this
      subst ey
      refine ⟨y + 1, by omega, by rw [pk_us], fun j hj => ?_⟩
      by_cases ej : j = y
      · subst ej
        rw [show 24 * c + j = c * 24 + j by omega, pk_us, pk_un (by omega), show 0 + 36 * c + 3 + j = 36 * c + 3 + j by omega, pk_us]
      · rw [pk_un (by omega), pk_un (by omega), pk_un (by omega)]
        exact h5 j (by omega)
    · refine ⟨y, hy, by rw [pk_un e]; exact h4, fun j hj => ?_⟩
      rw [pk_un (by omega), pk_un (by omega), pk_un (by omega)]
      exact h5 j hj
  · rw [pk_un (by omega), pk_un (by omega)]; exact h6 k hk
set_option maxHeartbeats 1000000 in
theorem pf_word : sm_word sm_R := by
  intro n V U hn hR a1 a2
  have hR1 := pr_next hR
  obtain ⟨hg, ha, hb, hr, hl⟩ := id hR
  unfold F_Led_word F_Acc_wordOf F_Mod_word
  rcases pr_ix a1 16 (by decide) with h | ⟨a, h16, rfl⟩
  · exact ⟨0, V, U, by simp only [acc_no h, Option.bind_some, if_true], by simp only [in16_no h, Option.bind_some, if_true], hR1⟩
  by_cases h0 : a2 < 0
  · exact ⟨0, V, U, by simp only [acc_yes h16, Option.bind_some, one0, if_false, h0, if_true], by simp only [in16_yes h16, Option.bind_some, one0, if_false, h0, if_true], hR1⟩
  obtain ⟨k, hk, rfl⟩ := nI_of h0
  obtain ⟨-, -, e3, ⟨z, hz, e4, e5⟩, -⟩ := ha a h16
  rw [Nat.zero_add] at e3 e5
  have i2 : (36 : Int32) * nI a + 2 = nI (36 * a + 2) := by rw [m36, show (2 : Int32) = nI 2 from rfl, nI_add]
  have ez : U 1 (36 * a + 2) = nI z := by rw [← e3]; exact e4
  by_cases hkz : k < z
  · have i3 : (36 : Int32) * nI a + 3 + nI k = nI (36 * a + 3 + k) := by rw [m36, show (3 : Int32) = nI 3 from rfl, nI_add, nI_add]
    have j1 : nI a * (24 : Int32) + nI k = nI (a * 24 + k) := by rw [m24, nI_add]
    have c1 : nI k < nI z := nI_lt hkz (by omega)
    have c2 : ¬ nI z ≤ nI k := nI_ge hkz (by omega)
    have ex : V 6 (a * 24 + k) = U 1 (36 * a + 3 + k) := by have := e5 k hkz; rw [Nat.mul_comm 24 a] at this; exact this
    refine ⟨V 6 (a * 24 + k), V, U, ?_, ?_, hR1⟩
    · simp only [acc_yes h16, Option.bind_some, one0, if_false, h0, ib_t h16 (show 16 < 2 ^ 31 by decide), nI_clamp (show a < 2 ^ 31 by omega), show (0 + 1 + 1 + 3 : Nat) = 5 from rfl, e4, c1, if_true, j1, ib_t (show a * 24 + k < 384 by omega) (show 384 < 2 ^ 31 by decide), nI_clamp (show a * 24 + k < 2 ^ 31 by omega)]
    · simp only [in16_yes h16, Option.bind_some, one0, if_false, h0, i2, ib_t (show 36 * a + 2 < 576 by omega) (show 576 < 2 ^ 31 by decide), nI_clamp (show 36 * a + 2 < 2 ^ 31 by omega), Nat.zero_add, ez, c2, i3, ib_t (show 36 * a + 3 + k < 576 by omega) (show 576 < 2 ^ 31 by decide), nI_clamp (show 36 * a + 3 + k < 2 ^ 31 by omega), ex]
  · have c1 : ¬ nI k < nI z := nI_nlt (by omega) hk
    have c2 : nI z ≤ nI k := nI_le (by omega) hk
    refine ⟨0, V, U, ?_, ?_, hR1⟩
    · simp only [acc_yes h16, Option.bind_some, one0, if_false, h0, ib_t h16 (show 16 < 2 ^ 31 by decide), nI_clamp (show a < 2 ^ 31 by omega), show (0 + 1 + 1 + 3 : Nat) = 5 from rfl, e4, c1]
    · simp only [in16_yes h16, Option.bind_some, one0, if_false, h0, i2, ib_t (show 36 * a + 2 < 576 by omega) (show 576 < 2 ^ 31 by decide), nI_clamp (show 36 * a + 2 < 2 ^ 31 by omega), Nat.zero_add, ez, c2, if_true]
set_option maxHeartbeats 1000000 in
theorem pf_code : sm_code sm_R := by
  intro n V U hn hR a1 a2
  have hR1 := pr_next hR
  obtain ⟨hg, ha, hb, hr, hl⟩ := id hR
  have e10 : V 0 10 = U 0 3 := hg.2.2.2.2.2.2.2.2.2.1
  unfold F_Led_code F_Mod_code
  rcases pr_ix a1 16 (by decide) with h | ⟨a, h16, rfl⟩
  · refine ⟨0, V, U, ?_, ?_, hR1⟩
    · by_cases h0 : 0 < V 0 10
      · simp only [h0, if_true]
      · simp only [h0, if_false, acc_no h, Option.bind_some, if_true]
    · simp only [in16_no h, Option.bind_some, if_true]
  by_cases h0 : 0 < V 0 10
  · have h1 : 0 < U 0 3 := by rw [← e10]; exact h0
    exact ⟨0, V, U, by simp only [h0, if_true], by simp only [in16_yes h16, Option.bind_some, one0, if_false, h1, if_true], hR1⟩
  have h1 : ¬ 0 < U 0 3 := by rw [← e10]; exact h0
  obtain ⟨-, -, e3, ⟨z, hz, e4, e5⟩, -⟩ := ha a h16
  rw [Nat.zero_add] at e3 e5
  have i2 : (36 : Int32) * nI a + 2 = nI (36 * a + 2) := by rw [m36, show (2 : Int32) = nI 2 from rfl, nI_add]
  have ez : U 1 (36 * a + 2) = nI z := by rw [← e3]; exact e4
  by_cases hz24 : z = 24
  · subst hz24
    have c1 : ¬ nI 24 < (24 : Int32) := by decide
    have c2 : nI 24 = (24 : Int32) := rfl
    refine ⟨0, V, U, ?_, ?_, hR1⟩
    · unfold F_Acc_append
      simp only [h0, if_false, acc_yes h16, Option.bind_some, one0, ib_t h16 (show 16 < 2 ^ 31 by decide), nI_clamp (show a < 2 ^ 31 by omega), show (0 + 1 + 1 + 3 : Nat) = 5 from rfl, e4, c1, true_or, if_true]
    · simp only [in16_yes h16, Option.bind_some, one0, if_false, h1, i2, ib_t (show 36 * a + 2 < 576 by omega) (show 576 < 2 ^ 31 by decide), nI_clamp (show 36 * a + 2 < 2 ^ 31 by omega), Nat.zero_add, ez, c2, if_true]
  · have hz2 : z < 24 := by omega
    have c1 : nI z < (24 : Int32) := nI_lt (b := 24) hz2 (by decide)
    have c2 : ¬ nI z = (24 : Int32) := fun e => hz24 ((nI_eq (b := 24) (by omega) (by decide)).mp e)
    have j1 : nI a * (24 : Int32) + nI z = nI (a * 24 + z) := by rw [m24, nI_add]
    have i3 : (36 : Int32) * nI a + 3 + nI z = nI (36 * a + 3 + z) := by rw [m36, show (3 : Int32) = nI 3 from rfl, nI_add, nI_add]
    have k1 : gx_u V 6 (a * 24 + z) a2 5 a = nI z := e4
    have k2 : gx_u U 1 (36 * a + 3 + z) a2 1 (36 * a + 2) = nI z := by rw [gx_up (by omega)]; exact ez
    refine ⟨1, gx_u (gx_u V 6 (a * 24 + z) a2) 5 a (nI (z + 1)), gx_u (gx_u U 1 (36 * a + 3 + z) a2) 1 (36 * a + 2) (nI (z + 1)), ?_, ?_, ?_⟩
    · unfold F_Acc_append
      simp only [h0, if_false, acc_yes h16, Option.bind_some, one0, ib_t h16 (show 16 < 2 ^ 31 by decide), nI_clamp (show a < 2 ^ 31 by omega), show (0 + 1 + 1 + 3 : Nat) = 5 from rfl, show (0 + 1 + 1 + 4 : Nat) = 6 from rfl, e4, c1, if_true, j1, ib_t (show a * 24 + z < 384 by omega) (show 384 < 2 ^ 31 by decide), nI_clamp (show a * 24 + z < 2 ^ 31 by omega), gx_let, k1, nI_1, or_true]
    · simp only [in16_yes h16, Option.bind_some, one0, if_false, h1, i2, ib_t (show 36 * a + 2 < 576 by omega) (show 576 < 2 ^ 31 by decide), nI_clamp (show 36 * a + 2 < 2 ^ 31 by omega), Nat.zero_add, ez, c2, i3, ib_t (show 36 * a + 3 + z < 576 by omega) (show 576 < 2 ^ 31 by decide), nI_clamp (show 36 * a + 3 + z < 2 ^ 31 by omega), gx_let, k2, nI_1]
    · obtain ⟨r1, r2, r3, r4, r5⟩ := hR1
      refine ⟨r1, ?_, r3, r4, r5⟩
      show pr_acc (V 3) (V 4) (upd (V 5) a (nI (z + 1))) (upd (V 6) (a * 24 + z) a2) (V 7) (upd (upd (U 1) (36 * a + 3 + z) a2) (36 * a + 2) (nI (z + 1))) 0
      exact pr_acc_w r2 h16 hz2 e4
