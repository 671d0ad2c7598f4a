theorem bg_any {f d : Nat} (hd : d = 576) (hf : d < f) {i : Int32} (hi : i = nI 0) (M : gx_M) : F_Mod_begin_62 f 0 i M = some (1, gx_u (gx_u (gx_u (cpv M 2 1 0) 0 10 0) 0 11 0) 0 13 0) := by
  have sl := bg_loop d (by omega) f M hf
  rw [show 576 - d = 0 by omega] at sl
  rw [hi]
  exact sl
theorem cpb {x0 x1 : Nat} {V : gx_M} {β : Type} (g : gx_M → Option β) : (F_Acc_copyFrom x0 x1 V).bind g = g (cpm x0 x1 V) := by
  rw [cpm_eq, ob]
theorem beginC {V : gx_M} {mi : Nat} {x : Int32} (h0 : V 0 6 = 0) (h1 : ¬ x ≤ V 0 13) (hm : mi < 16) (h2 : V 0 10 < 30) : F_Led_begin 0 x (nI mi) V = some (1, cpm 85 2 (gx_u (gx_u (gx_u (gx_u (gx_u (gx_u (gx_u (gx_u V 0 6 1) 0 7 x) 0 8 (nI mi)) 0 10 (V 0 10 + 1)) 0 9 0) 92 4 0) 9 2 0) 9 3 0)) := by
  have q : ∀ y, gx_u (gx_u (gx_u V 0 6 1) 0 7 x) 0 8 y 0 10 = V 0 10 := fun _ => rfl
  unfold F_Led_begin F_Log_cutBackTo
  simp only [if_pos h0, if_neg h1, gl, ob, acc_yes hm, one0, if_false, if_pos h2, Nat.zero_add, Nat.reduceAdd, q, cpb]
theorem beginM {U : gx_M} {mi : Nat} {x : Int32} (h0 : U 0 4 = 0) (h1 : ¬ x ≤ U 0 7) (hm : mi < 16) (h2 : ¬ U 0 3 = 30) : F_Mod_begin 0 x (nI mi) U = some (1, gx_u (gx_u (gx_u (cpv (gx_u (gx_u (gx_u (gx_u U 0 3 (U 0 3 + 1)) 0 4 1) 0 6 x) 0 5 (nI mi)) 2 1 0) 0 10 0) 0 11 0) 0 13 0) := by
  unfold F_Mod_begin
  generalize hf : (1000 : Nat) = f
  simp only [if_pos h0, if_neg h1, gl, ob, in16_yes hm, one0, if_false, if_neg h2]
  rw [bg_any (d := 576) rfl (by omega) (i := 0) rfl]
set_option maxHeartbeats 1000000 in
theorem pf_begin : sm_begin sm_R := by
  intro n V U hn hR a1 a2
  have hR1 := pr_next hR
  obtain ⟨hg, ha, hb, hr, hl⟩ := id hR
  obtain ⟨g1, g2, g3, g4, g5, g6, g7, g8, g9, g10, ⟨g, hgb, eg⟩, g12, g13, g14⟩ := hg
  by_cases h0 : V 0 6 = 0
  case neg =>
    have h0' : ¬ U 0 4 = 0 := by rw [← g4]; exact h0
    exact ⟨0, V, U, by unfold F_Led_begin; rw [if_neg h0], by unfold F_Mod_begin; rw [if_neg h0'], hR1⟩
  have h0' : U 0 4 = 0 := by rw [← g4]; exact h0
  by_cases h1 : a1 ≤ V 0 13
  · have h1' : a1 ≤ U 0 7 := by rw [← g14]; exact h1
    exact ⟨0, V, U, by unfold F_Led_begin; rw [if_pos h0, if_pos h1], by unfold F_Mod_begin; rw [if_pos h0', if_pos h1'], hR1⟩
  have h1' : ¬ a1 ≤ U 0 7 := by rw [← g14]; exact h1
  rcases pr_ix a2 16 (by decide) with h | ⟨mi, hm, rfl⟩
  · refine ⟨0, V, U, ?_, ?_, hR1⟩
    · unfold F_Led_begin; simp only [if_pos h0, if_neg h1, acc_no h, ob, if_true]
    · unfold F_Mod_begin; simp only [if_pos h0', if_neg h1', in16_no h, ob, if_true]
  by_cases h2 : g = 30
  · subst h2
    have q1 : ¬ V 0 10 < 30 := by rw [eg]; decide
    have q2 : U 0 3 = 30 := by rw [← g10, eg]; rfl
    refine ⟨0, V, U, ?_, ?_, hR1⟩
    · unfold F_Led_begin; simp only [if_pos h0, if_neg h1, acc_yes hm, ob, one0, if_false, if_neg q1]
    · unfold F_Mod_begin; simp only [if_pos h0', if_neg h1', in16_yes hm, ob, one0, if_false, if_pos q2]
  have q1 : V 0 10 < 30 := by rw [eg]; exact nI_lt (b := 30) (by omega) (by decide)
  have q2 : ¬ U 0 3 = 30 := by rw [← g10, eg]; intro e; exact h2 ((nI_eq (b := 30) (by omega) (by decide)).mp e)
  refine ⟨1, _, _, beginC h0 h1 hm q1, beginM h0' h1' hm q2, ?_⟩
  obtain ⟨r1, r2, r3, r4, r5, r6, r7⟩ := hR1
  generalize hW : gx_u (gx_u (gx_u (gx_u (gx_u (gx_u (gx_u (gx_u V 0 6 1) 0 7 a1) 0 8 (nI mi)) 0 10 (V 0 10 + 1)) 0 9 0) 92 4 0) 9 2 0) 9 3 0 = W
  generalize hT : gx_u (gx_u (gx_u (gx_u U 0 3 (U 0 3 + 1)) 0 4 1) 0 6 a1) 0 5 (nI mi) = T
  have o : ∀ c, (c < 86 ∨ 90 < c) → cpm 85 2 W c = W c := fun c h => cpm_o (by omega)
  obtain ⟨c1, c2, c3, c4, c5⟩ := cpm_in (x0 := 85) (x1 := 2) (V := W) (Or.inl (by decide))
  simp only [Nat.reduceAdd] at c1 c2 c3 c4 c5
  have w : ∀ c, c ≠ 0 → c ≠ 9 → c ≠ 92 → W c = V c := fun c h1 h2 h3 => by rw [← hW, gx_uK h2, gx_uK h2, gx_uK h3, gx_uK h1, gx_uK h1, gx_uK h1, gx_uK h1, gx_uK h1]
  have t : ∀ c, c ≠ 0 → T c = U c := fun c h1 => by rw [← hT, gx_uK h1, gx_uK h1, gx_uK h1, gx_uK h1]
  have w0 : W 0 = upd (upd (upd (upd (upd (V 0) 6 1) 7 a1) 8 (nI mi)) 10 (V 0 10 + 1)) 9 0 := by rw [← hW]; rfl
  have w9 : W 9 = upd (upd (V 9) 2 0) 3 0 := by rw [← hW]; rfl
  have w92 : W 92 4 = 0 := by rw [← hW]; rfl
  have t0 : gx_u (gx_u (gx_u (cpv T 2 1 0) 0 10 0) 0 11 0) 0 13 0 0 = upd (upd (upd (upd (upd (upd (upd (U 0) 3 (U 0 3 + 1)) 4 1) 6 a1) 5 (nI mi)) 10 0) 11 0) 13 0 := by
    rw [gx_ua, if_pos rfl, gx_ua, if_pos rfl, gx_ua, if_pos rfl, cpv_o (by decide), ← hT]; rfl
  have t1 : ∀ c, c ≠ 0 → gx_u (gx_u (gx_u (cpv T 2 1 0) 0 10 0) 0 11 0) 0 13 0 c = cpv T 2 1 0 c := fun c h => by rw [gx_uK h, gx_uK h, gx_uK h]
  unfold sm_R
  rw [c1, c2, c3, c4, c5, o 0 (by decide), o 3 (by decide), o 4 (by decide), o 5 (by decide), o 6 (by decide), o 7 (by decide), o 9 (by decide), o 10 (by decide), o 11 (by decide), o 92 (by decide), o 93 (by decide), o 94 (by decide), o 95 (by decide), o 96 (by decide), t0, t1 1 (by decide), t1 2 (by decide), t1 3 (by decide), t1 4 (by decide), t1 5 (by decide), cpv_d, cpv_o (show 1 ≠ 2 by decide), cpv_o (show 3 ≠ 2 by decide), cpv_o (show 4 ≠ 2 by decide), cpv_o (show 5 ≠ 2 by decide)]
  rw [w 3 (by decide) (by decide) (by decide), w 4 (by decide) (by decide) (by decide), w 5 (by decide) (by decide) (by decide), w 6 (by decide) (by decide) (by decide), w 7 (by decide) (by decide) (by decide), w 10 (by decide) (by decide) (by decide), w 11 (by decide) (by decide) (by decide), w 93 (by decide) (by decide) (by decide), w 94 (by decide) (by decide) (by decide), w 95 (by decide) (by decide) (by decide), w 96 (by decide) (by decide) (by decide), w0, w9, w92, t 1 (by decide), t 2 (by decide), t 3 (by decide), t 4 (by decide), t 5 (by decide)]
  refine ⟨⟨g1, g2, g3, rfl, Or.inr rfl, rfl, rfl, ⟨mi, hm, rfl⟩, rfl, ?_, ⟨g + 1, by omega, ?_⟩, g12, g13, g14⟩, r2, pr_acc_cp r2, ⟨rfl, 0, by omega, rfl, fun k hk => absurd hk (by omega)⟩, ⟨rfl, 0, 0, by omega, rfl, by omega, rfl, rfl, fun k hk => absurd hk (by omega)⟩, r6, bp_cp r6⟩
  · show V 0 10 + 1 = U 0 3 + 1
    rw [g10]
  · show V 0 10 + 1 = nI (g + 1)
    rw [eg, nI_1]
