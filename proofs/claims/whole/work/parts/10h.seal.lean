theorem gl {α β : Type} (a : α) (f : α → Option β) : gx_let a f = f a := by
  by_cases h : True
  · rfl
  · exact absurd trivial h
theorem ob {α β : Type} (a : α) (f : α → Option β) : (some a).bind f = f a := by
  by_cases h : True
  · rfl
  · exact absurd trivial h
theorem sealM1 {U : gx_M} {mi : Nat} {x : Int32} (hx : ¬ x = 0) (h0 : ¬ U 0 4 = 0) (em : U 0 5 = nI mi) (hm : mi < 16) : F_Mod_seal 0 x U = some (0, cpv (gx_u (gx_u (gx_u U 0 4 0) 1 (36 * mi) (U 1 (36 * mi) + 50)) 0 9 (U 0 9 + 1)) 1 2 0) := by
  have p1 : gx_u U 0 4 0 1 (36 * mi) = U 1 (36 * mi) := rfl
  have p9 : ∀ y, gx_u (gx_u U 0 4 0) 1 (36 * mi) y 0 9 = U 0 9 := fun _ => rfl
  have k1 : gx_u U 0 4 0 0 5 = nI mi := em
  unfold F_Mod_seal
  generalize hf : (1000 : Nat) = f
  simp only [if_neg h0, gl, k1, m36, ib_t (show 36 * mi < 576 by omega) (show 576 < 2 ^ 31 by decide), nI_clamp (show 36 * mi < 2 ^ 31 by omega), if_neg hx, Nat.zero_add, p1, p9]
  rw [sl_any (d := 576) rfl (by omega) (i := 0) rfl]
theorem cpv_o {U : gx_M} {d s i c : Nat} (h : c ≠ d) : cpv U d s i c = U c := by
  unfold cpv va_up; rw [if_neg h]
theorem cpv_d {U : gx_M} {d s i : Nat} : cpv U d s i d = fun j => if i ≤ j ∧ j < 576 then U s j else U d j := by
  unfold cpv va_up; rw [if_pos rfl]
set_option maxHeartbeats 1000000 in
theorem pf_seal : sm_seal sm_R := by
  intro n V U hn hR a1
  have hR1 := pr_next hR
  obtain ⟨hg, ha, hb, hr, hl⟩ := id hR
  obtain ⟨g1, g2, g3, g4, g5, g6, g7, ⟨mi, hm, em⟩, g9, g10, g11, g12, g13, g14⟩ := hg
  by_cases h0 : V 0 6 = 0
  · have h0' : U 0 4 = 0 := by rw [← g4]; exact h0
    exact ⟨-1, V, U, by unfold F_Led_seal; rw [if_pos h0], by unfold F_Mod_seal; rw [if_pos h0'], hR1⟩
  have h0' : ¬ U 0 4 = 0 := by rw [← g4]; exact h0
  have em' : U 0 5 = nI mi := by rw [← g7]; exact em
  have ex : V 3 mi = U 1 (36 * mi) := by have := (ha mi hm).1; rw [Nat.zero_add] at this; exact this
  obtain ⟨r1, r2, r3, r4, r5, -, r7⟩ := hR1
  have ra : pr_acc (upd (V 3) mi (V 3 mi + 50)) (V 4) (V 5) (V 6) (V 7) (upd (U 1) (36 * mi) (U 1 (36 * mi) + 50)) 0 := by rw [ex]; exact pr_acc_b r2 hm
  by_cases hs : a1 = 0
  · subst hs
    refine ⟨1, _, _, sealC h0 em hm, sealM h0' em' hm, ?_⟩
    refine ⟨⟨g1, g2, g3, rfl, Or.inl rfl, g6, g7, ⟨mi, hm, em⟩, g9, g10, g11, ?_, g13, ?_⟩, ra, r3, r4, r5, bp_add (x := 50) hR.2.2.2.2.2.1 hm (by omega), r7⟩
    · show V 0 11 + 1 = U 0 8 + 1
      rw [g12]
    · exact g6
  · refine ⟨0, _, _, sealC1 hs h0 em hm, sealM1 hs h0' em' hm, ?_⟩
    generalize hW : gx_u (gx_u (gx_u V 0 6 0) 3 mi (V 3 mi + 50)) 0 12 (V 0 12 + 1) = W
    generalize hT : gx_u (gx_u (gx_u U 0 4 0) 1 (36 * mi) (U 1 (36 * mi) + 50)) 0 9 (U 0 9 + 1) = T
    have o : ∀ c, (c < 3 ∨ 7 < c) → cpm 2 85 W c = W c := fun c h => cpm_o (by omega)
    obtain ⟨c1, c2, c3, c4, c5⟩ := cpm_in (x0 := 2) (x1 := 85) (V := W) (Or.inr (by decide))
    simp only [Nat.reduceAdd] at c1 c2 c3 c4 c5
    have w : ∀ c, c ≠ 0 → c ≠ 3 → W c = V c := fun c h1 h2 => by rw [← hW, gx_uK h1, gx_uK h2, gx_uK h1]
    have t : ∀ c, c ≠ 0 → c ≠ 1 → T c = U c := fun c h1 h2 => by rw [← hT, gx_uK h1, gx_uK h2, gx_uK h1]
    have w0 : W 0 = upd (upd (V 0) 6 0) 12 (V 0 12 + 1) := by rw [← hW]; rfl
    have t0 : T 0 = upd (upd (U 0) 4 0) 9 (U 0 9 + 1) := by rw [← hT]; rfl
    unfold sm_R
    rw [c1, c2, c3, c4, c5, o 0 (by decide), o 9 (by decide), o 10 (by decide), o 11 (by decide), o 86 (by decide), o 87 (by decide), o 88 (by decide), o 89 (by decide), o 90 (by decide), o 92 (by decide), o 93 (by decide), o 94 (by decide), o 95 (by decide), o 96 (by decide), cpv_d, cpv_o (show 0 ≠ 1 by decide), cpv_o (show 2 ≠ 1 by decide), cpv_o (show 3 ≠ 1 by decide), cpv_o (show 4 ≠ 1 by decide), cpv_o (show 5 ≠ 1 by decide)]
    rw [w 86 (by decide) (by decide), w 87 (by decide) (by decide), w 88 (by decide) (by decide), w 89 (by decide) (by decide), w 90 (by decide) (by decide), w 92 (by decide) (by decide), w 93 (by decide) (by decide), w 94 (by decide) (by decide), w 95 (by decide) (by decide), w 96 (by decide) (by decide), w 9 (by decide) (by decide), w 10 (by decide) (by decide), w 11 (by decide) (by decide), t 2 (by decide) (by decide), t 3 (by decide) (by decide), t 4 (by decide) (by decide), t 5 (by decide) (by decide), w0, t0]
    refine ⟨⟨g1, g2, g3, rfl, Or.inl rfl, g6, g7, ⟨mi, hm, em⟩, g9, g10, g11, g12, ?_, g14⟩, pr_acc_cp r3, r3, r4, r5, bp_cp r7, r7⟩
    show V 0 12 + 1 = U 0 9 + 1
    rw [g13]
