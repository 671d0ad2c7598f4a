theorem bl_loop {U : gx_M} {lg : Nat} (hl : lg ≤ 500) (eu : U 0 13 = nI lg) : ∀ (d : Nat), d ≤ lg → ∀ (fuel : Nat), d < fuel → F_Mod_bloom_4 fuel 0 (pr_bl (U 5) (lg - d)) (nI (lg - d)) U = some (pr_bl (U 5) lg, U) := by
  intro d
  induction d with
  | zero =>
    intro _ fuel h
    obtain ⟨g, rfl⟩ : ∃ g, fuel = g + 1 := ⟨fuel - 1, by omega⟩
    have hh : U 0 13 ≤ nI (lg - 0) := by rw [eu]; exact nI_le (by omega) (by omega)
    rw [F_Mod_bloom_4, if_pos hh, Nat.sub_zero]
  | succ d ih =>
    intro hd fuel h
    obtain ⟨g, rfl⟩ : ∃ g, fuel = g + 1 := ⟨fuel - 1, by omega⟩
    have hh : ¬ U 0 13 ≤ nI (lg - (d + 1)) := by rw [eu]; exact nI_ge (by omega) (by omega)
    have en : nI (lg - (d + 1)) + (1 : Int32) = nI (lg - d) := by rw [nI_1]; congr 1; omega
    have i1 := ih (by omega) g (by omega)
    rw [show lg - d = (lg - (d + 1)) + 1 by omega, pr_bl, ← nI_1] at i1
    rw [F_Mod_bloom_4, if_neg hh, ib_t (by omega) (by decide), nI_clamp (by omega)]
    unfold F_Mod_mix
    simp only [ob, gl, Nat.zero_add]
    rw [← i1]
    unfold pr_bit
    rw [Int32.or_assoc]
theorem bl_any {U : gx_M} {lg f : Nat} (hf : 500 < f) (hl : lg ≤ 500) (eu : U 0 13 = nI lg) {x y : Int32} (hx : x = 0) (hy : y = nI 0) : F_Mod_bloom_4 f 0 x y U = some (pr_bl (U 5) lg, U) := by
  have h := bl_loop hl eu lg (Nat.le_refl _) f (by omega)
  rw [Nat.sub_self, pr_bl] at h
  rw [hx, hy]
  exact h
theorem bl_run {U : gx_M} {lg : Nat} (hl : lg ≤ 500) (eu : U 0 13 = nI lg) : F_Mod_bloom 0 U = some (pr_bl (U 5) lg, U) := by
  unfold F_Mod_bloom
  generalize hf : (1000 : Nat) = f
  exact bl_any (by omega) hl eu rfl rfl
theorem pf_block : sm_block sm_R := by
  intro n V U hn hR a1
  have hR1 := pr_next hR
  obtain ⟨hg, ha, hb, ⟨hc, r, hr, er, hk⟩, ⟨hc2, lg, ug, hu1, hu2, hu3, el, hbl, hk2⟩, -⟩ := id hR
  obtain ⟨g1, g2, g3, g4, g5, g6, g7, g8, g9, g10, g11, g12, g13, g14⟩ := hg
  rcases pr_ix a1 8 (by decide) with h | ⟨w, hw, rfl⟩
  · have w0 : ¬ a1 = (0 : Int32) := out_ne (j := 0) h (by decide) (by decide)
    have w1 : ¬ a1 = (1 : Int32) := out_ne (j := 1) h (by decide) (by decide)
    have w2 : ¬ a1 = (2 : Int32) := out_ne (j := 2) h (by decide) (by decide)
    have w3 : ¬ a1 = (3 : Int32) := out_ne (j := 3) h (by decide) (by decide)
    have w4 : ¬ a1 = (4 : Int32) := out_ne (j := 4) h (by decide) (by decide)
    have w5 : ¬ a1 = (5 : Int32) := out_ne (j := 5) h (by decide) (by decide)
    have w6 : ¬ a1 = (6 : Int32) := out_ne (j := 6) h (by decide) (by decide)
    have w7 : ¬ a1 = (7 : Int32) := out_ne (j := 7) h (by decide) (by decide)
    refine ⟨-1, V, U, ?_, ?_, hR1⟩
    · unfold F_Led_block; simp only [w0, w1, w2, w3, w4, w5, w6, w7, if_false]
    · unfold F_Mod_block; simp only [w0, w1, w2, w3, w4, w5, w6, w7, if_false, ite_self]
  have hx : w = 0 ∨ w = 1 ∨ w = 2 ∨ w = 3 ∨ w = 4 ∨ w = 5 ∨ w = 6 ∨ w = 7 := by omega
  unfold F_Led_block F_Mod_block
  rcases hx with rfl | rfl | rfl | rfl | rfl | rfl | rfl | rfl
  · exact ⟨U 0 8, V, U, by rw [if_pos (by decide), g12], by rw [if_neg (by decide), if_pos (by decide)], hR1⟩
  · exact ⟨U 0 9, V, U, by rw [if_neg (by decide), if_pos (by decide), g13], by rw [if_neg (by decide), if_neg (by decide), if_pos (by decide)], hR1⟩
  · exact ⟨U 0 7, V, U, by rw [if_neg (by decide), if_neg (by decide), if_pos (by decide), g14], by rw [if_neg (by decide), if_neg (by decide), if_neg (by decide), if_pos (by decide)], hR1⟩
  · refine ⟨if U 0 4 = 0 then 0 else 1, V, U, ?_, ?_, hR1⟩
    · rw [if_neg (by decide), if_neg (by decide), if_neg (by decide), if_pos (by decide), g4]; split <;> rfl
    · rw [if_neg (by decide), if_neg (by decide), if_neg (by decide), if_neg (by decide), if_pos (by decide)]; split <;> rfl
  · exact ⟨U 0 10, V, U, by rw [if_neg (by decide), if_neg (by decide), if_neg (by decide), if_neg (by decide), if_pos (by decide), g9], by rw [if_pos (by decide), if_pos (by decide)], hR1⟩
  · refine ⟨pr_bl (U 5) lg, V, U, ?_, ?_, hR1⟩
    · rw [if_neg (by decide), if_neg (by decide), if_neg (by decide), if_neg (by decide), if_neg (by decide), if_pos (by decide), ← hbl]
    · rw [if_pos (by decide), if_neg (by decide), if_pos (by decide), bl_run (by omega) el, ob]
  · exact ⟨U 0 11, V, U, by rw [if_neg (by decide), if_neg (by decide), if_neg (by decide), if_neg (by decide), if_neg (by decide), if_neg (by decide), if_pos (by decide), Nat.zero_add, hc], by rw [if_pos (by decide), if_neg (by decide), if_neg (by decide), if_pos (by decide)], hR1⟩
  · exact ⟨U 0 13, V, U, by rw [if_neg (by decide), if_neg (by decide), if_neg (by decide), if_neg (by decide), if_neg (by decide), if_neg (by decide), if_neg (by decide), if_pos (by decide), ← hc2], by rw [if_pos (by decide), if_neg (by decide), if_neg (by decide), if_neg (by decide), if_pos (by decide)], hR1⟩
