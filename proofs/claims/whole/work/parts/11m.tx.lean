theorem tx_s {n : Nat} {V U : gx_M} {a b lim pr vv ug lg f0 : Nat} {i : Int32} {f : Nat → Nat} (hR : sm_R n V U) (hn : n < 512) (ha : a < 16) (hb : b < 16) (hl : 20 ≤ lim) (hl2 : lim + ug ≤ 3000) (hp : pr ≤ 100) (hf : ∀ c, c < 16 → V 3 c = nI (f c)) (hfs : sg f 16 ≤ 1000000 * n) (hbal : lim * pr + vv ≤ f a) (hlg : 12 * lg ≤ 2 * ug) (eug : V 0 9 = nI ug) (e9 : V 9 2 = nI lg) (e93 : V 9 3 = pr_bl (U 5) lg) (hkp : ∀ k, k < lg → k < 16 → V 10 k = U 4 k ∧ V 11 k = U 5 k) (h0 : 20 < f0) : ∃ r V1 U1, F_Led_perform 0 (nI a) (nI b) (nI vv) i (nI lim) (nI pr) V = some (r, V1) ∧ F_Mod_transact_121 f0 0 (nI a) (nI b) (nI vv) i (nI lim) (nI pr) 0 (gx_u U 0 2 0) = some (r, U1) ∧ sm_R (n + 1) V1 U1 := by
  obtain ⟨Ve, Ue, T, r1, r2⟩ := tx_run (i := i) hR hn ha hb hl hl2 hp hf hfs hbal hlg e9 e93 hkp h0
  obtain ⟨lgE, rfE, r, ⟨w1, w2, w3, w4, w5, w6, w7, w8, w9⟩, t2, t3, e6, e32, hst, e33, e34, ⟨⟨b1, b1'⟩, b2, b3⟩, ⟨f1, f2, f3, f4, f5⟩⟩ := T
  have b1 : r + 12 * lgE ≤ lim - 20 + 12 * lg := b1
  have b1' : r ≤ lim - 20 := b1'
  obtain ⟨⟨g1, g2, g3, g4, g5, g6, g7, ⟨mi, hm, em⟩, g9, g10, g11, g12, g13, g14⟩, hac, hab, hrc, hlog, hbp, hbp2⟩ := id hR
  have fa1 := sg_ge (f := f) (d := a) 16 ha
  have e20 : nI lim - (20 : Int32) = nI (lim - 20) := pk_sub (b := 20) hl
  have so1 : nI lim - nI r = nI (lim - r) := pk_sub (by omega)
  have so2 : nI (lim - r) / (2 : Int32) = nI ((lim - r) / 2) := pk_div (d := 2) (by omega) (by decide) (by decide)
  obtain ⟨mn, hmn, mC, mM⟩ : ∃ mn : Nat, mn ≤ (lim - r) / 2 ∧ (if nI rfE < nI ((lim - r) / 2) then nI rfE else nI ((lim - r) / 2)) = nI mn ∧ ∀ F : Int32 → Option (Int32 × gx_M), (if nI rfE ≤ nI ((lim - r) / 2) then F (nI rfE) else F (nI ((lim - r) / 2))) = F (nI mn) := by
    by_cases h : rfE < (lim - r) / 2
    · exact ⟨rfE, by omega, by rw [if_pos (nI_lt h (by omega))], fun F => by rw [if_pos (nI_le (by omega) (by omega))]⟩
    · refine ⟨(lim - r) / 2, Nat.le_refl _, by rw [if_neg (nI_nlt (by omega) (by omega))], fun F => ?_⟩
      by_cases h2 : rfE = (lim - r) / 2
      · rw [← h2, if_pos (nI_le (Nat.le_refl _) (by omega))]
      · rw [if_neg (nI_ge (by omega) (by omega))]
  have us1 : nI (lim - r) - nI mn = nI (lim - r - mn) := pk_sub (by omega)
  generalize hus : lim - r - mn = us at *
  have us2 : nI lim - nI us = nI (lim - us) := pk_sub (by omega)
  have sum1 : (lim - us) * pr + us * pr = lim * pr := by rw [← Nat.add_mul]; congr 1; omega
  have kd13 : cx_kd 13 = 1 := by decide
  have v08 : Ve 0 8 = nI mi := by rw [f1]; exact em
  have u05 : Ue 0 5 = nI mi := by rw [f5 5 (by decide) (by decide) (by decide) (by decide) (by decide) (by decide), ← g7]; exact em
  -- what goes back, and what the miner gets
  have p1 := pr_acc_b (x := Ve 3 a + nI ((lim - us) * pr)) w4 ha
  have p2 := pr_acc_b (x := upd (Ve 3) a (Ve 3 a + nI ((lim - us) * pr)) mi + nI (us * pr)) p1 hm
  have x1 : Ve 3 a = Ue 1 (36 * a) := by have := (w4 a ha).1; rw [Nat.zero_add] at this; exact this
  have x2 : upd (Ve 3) a (Ve 3 a + nI ((lim - us) * pr)) mi = upd (Ue 1) (36 * a) (Ve 3 a + nI ((lim - us) * pr)) (36 * mi) := by have := (p1 mi hm).1; rw [Nat.zero_add] at this; exact this
  have q1 := bp_add (B' := 1000000 * n - us * pr) (x := (lim - us) * pr) w5 ha (by omega)
  have q2 := bp_add (B' := 1000000 * n) (x := us * pr) q1 hm (by omega)
  generalize hV4 : gx_u (gx_u Ve 3 a (Ve 3 a + nI ((lim - us) * pr))) 3 mi (upd (Ve 3) a (Ve 3 a + nI ((lim - us) * pr)) mi + nI (us * pr)) = V4
  generalize hU4 : gx_u (gx_u Ue 1 (36 * a) (Ve 3 a + nI ((lim - us) * pr))) 1 (36 * mi) (upd (Ve 3) a (Ve 3 a + nI ((lim - us) * pr)) mi + nI (us * pr)) = U4
  have v4 : ∀ k, k ≠ 3 → V4 k = Ve k := fun k h => by rw [← hV4, gx_uK h, gx_uK h]
  have u4 : ∀ k, k ≠ 1 → U4 k = Ue k := fun k h => by rw [← hU4, gx_uK h, gx_uK h]
  have v43 : V4 3 = upd (upd (Ve 3) a (Ve 3 a + nI ((lim - us) * pr))) mi (upd (Ve 3) a (Ve 3 a + nI ((lim - us) * pr)) mi + nI (us * pr)) := by rw [← hV4, gx_ua, if_pos rfl, gx_ua, if_pos rfl]
  have u41 : U4 1 = upd (upd (Ue 1) (36 * a) (Ve 3 a + nI ((lim - us) * pr))) (36 * mi) (upd (Ve 3) a (Ve 3 a + nI ((lim - us) * pr)) mi + nI (us * pr)) := by rw [← hU4, gx_ua, if_pos rfl, gx_ua, if_pos rfl]
  rw [← v43, ← u41, ← v4 4 (by decide), ← v4 5 (by decide), ← v4 6 (by decide), ← v4 7 (by decide)] at p2
  rw [← v43] at q2
  have go := fun z1 z2 h1 h2 => goers_s (x := Ve 1 5) (x8 := U 0 13) (x9 := nI us) 16 0 z1 z2 V4 U4 rfl h1 h2 (by rw [v4 1 (by decide)]) p2 q2 (fun c _ hc => by
    rw [u41, pk_un (by omega), pk_un (by omega)]
    have := w3 c hc
    rw [Nat.zero_add] at this
    exact this)
  have goA := go 100 200000 (by decide) (by decide)
  clear go
  generalize hz1 : (200000 : Nat) = z1 at *
  generalize hz2 : (100 : Nat) = z2 at *
  obtain ⟨V5, U5, f', c1, c2, c3, c4, c5, c6⟩ := goA
  rw [nI_0] at c1 c2
  generalize hV6 : gx_u V5 0 9 (V5 0 9 + nI us) = V6
  have v6 : ∀ k, k ≠ 0 → V6 k = V5 k := fun k h => by rw [← hV6, gx_uK h]
  have v60 : V6 0 = upd (V 0) 9 (V 0 9 + nI us) := by rw [← hV6, gx_ua, if_pos rfl, c5 0 (by decide) (by decide) (by decide) (by decide), v4 0 (by decide), f1]
  have v5k : ∀ k, 84 < k → V6 k = V k := fun k h => by rw [v6 k (by omega), c5 k (by omega) (by omega) (by omega) (by omega), v4 k (by omega), f2 k h]
  have v13 : V6 13 = Ve 13 := by rw [v6 13 (by decide), c5 13 (by decide) (by decide) (by decide) (by decide), v4 13 (by decide)]
  have v9 : V6 9 = Ve 9 := by rw [v6 9 (by decide), c5 9 (by decide) (by decide) (by decide) (by decide), v4 9 (by decide)]
  have v10 : V6 10 = Ve 10 := by rw [v6 10 (by decide), c5 10 (by decide) (by decide) (by decide) (by decide), v4 10 (by decide)]
  have v11 : V6 11 = Ve 11 := by rw [v6 11 (by decide), c5 11 (by decide) (by decide) (by decide) (by decide), v4 11 (by decide)]
  have u50 : U5 0 = Ue 0 := by rw [c6 0 (by decide), u4 0 (by decide)]
  have u5k : ∀ k, k ≠ 1 → U5 k = Ue k := fun k h => by rw [c6 k h, u4 k h]
  obtain ⟨V7, U7, s1, s2, s3, s4, s5, s6, s7⟩ := rec_s (n := n) (V := V6) (U := U5) (st := Ve 13 10) (us := nI us) (lg0 := V 9 2) (by
    rw [v5k 92 (by decide), v5k 93 (by decide), v5k 94 (by decide), v5k 95 (by decide), v5k 96 (by decide), u50, u5k 3 (by decide), f4, f5 11 (by decide) (by decide) (by decide) (by decide) (by decide) (by decide)]
    exact hrc) hn (by rw [u50]; exact e33) (by rw [u50, v13]; exact e34) (by rw [u50, v9, w6, w7])
  refine ⟨nI us, V7, U7, ?_, ?_, ?_⟩
  · have a4 : gx_u V 3 a (V 3 a - nI (lim * pr)) 4 a = V 4 a := by rw [gx_uK (by decide)]
    have a8 : ∀ x, gx_u Ve 3 a x 0 8 = nI mi := fun x => by rw [gx_uK (by decide)]; exact v08
    have a3 : ∀ x, gx_u Ve 3 a x 3 mi = upd (Ve 3) a x mi := fun x => by rw [gx_ua, if_pos rfl]
    have h92 : F_Led_perform_166 0 (V 9 2) 13 (nI us) (Ve 13 10) 92 V6 = some (nI us, V7) := by
      unfold F_Led_perform_166
      rw [show (0 + 1 + 8 : Nat) = 9 from rfl, s1, ob]
    unfold F_Led_perform
    simp only [Nat.zero_add, Nat.reduceAdd, ib_t ha (show 16 < 2 ^ 31 by decide), nI_clamp (show a < 2 ^ 31 by omega), gl, pk_mul, a4, e20, r1, ob, kd13, if_true, e6, so1, so2, w1, mC, us1, us2, a8, ib_t hm (show 16 < 2 ^ 31 by decide), nI_clamp (show mi < 2 ^ 31 by omega), a3, hV4]
    unfold F_Mac_removeGoers
    rw [hz2, c1, ob]
    simp only [hV6, v13]
    rcases hst with h | h
    · rw [if_pos h, ← h, h92]
    · rw [if_neg (by rw [h]; decide), ← h, h92]
  · have a5 : ∀ x, gx_u Ue 1 (36 * a) x 0 5 = nI mi := fun x => by rw [gx_uK (by decide)]; exact u05
    have a1 : ∀ x, gx_u Ue 1 (36 * a) x 1 (36 * mi) = upd (Ue 1) (36 * a) x (36 * mi) := fun x => by rw [gx_ua, if_pos rfl]
    have h13 : U 0 13 = V 9 2 := hlog.1.symm
    rw [r2, F_Mod_transact_240, w2, e32, so1, so2, mM (fun s0 => F_Mod_transact_273 0 (nI a) (nI lim) (nI pr) (U 0 13) s0 (nI (lim - r)) Ue), F_Mod_transact_273]
    simp only [us1, us2, Nat.zero_add, m36, ib_t (show 36 * a < 576 by omega) (show 576 < 2 ^ 31 by decide), nI_clamp (show 36 * a < 2 ^ 31 by omega), gl, pk_mul, ← x1, a5, ib_t (show 36 * mi < 576 by omega) (show 576 < 2 ^ 31 by decide), nI_clamp (show 36 * mi < 2 ^ 31 by omega), a1, ← x2, hU4]
    rw [hz1, c2, h13, s2 f']
  · have v7k : ∀ k, k < 92 → k ≠ 0 → V7 k = V5 k := fun k h1 h2 => by rw [s4 k h1, v6 k h2]
    have u70 : ∀ p, p ≠ 2 → p ≠ 13 → p ≠ 19 → p ≠ 32 → p ≠ 33 → p ≠ 34 → p ≠ 10 → p ≠ 11 → U7 0 p = U 0 p := fun p h1 h2 h3 h4 h5 h6 h7 h8 => by rw [s7 p h7 h8, u50, f5 p h1 h2 h3 h4 h5 h6]
    have u710 : U7 0 10 = U 0 10 + nI us := by rw [s6, u50, f5 10 (by decide) (by decide) (by decide) (by decide) (by decide) (by decide)]
    have u713 : U7 0 13 = nI lgE := by rw [s7 13 (by decide) (by decide), u50]; exact w7
    have v70 : V7 0 = upd (V 0) 9 (V 0 9 + nI us) := by rw [s4 0 (by decide), v60]
    have v709 : V7 0 9 = nI (ug + us) := by rw [v70, pk_us, eug, nI_add]
    have u4' : U7 4 = Ue 4 := by rw [s5 4 (by decide) (by decide), u5k 4 (by decide)]
    have u5' : U7 5 = Ue 5 := by rw [s5 5 (by decide) (by decide), u5k 5 (by decide)]
    refine ⟨?_, ?_, ?_, s3, ?_, ?_, ?_⟩
    · rw [v70]
      unfold pr_g
      rw [pk_us, pk_un (by decide), pk_un (by decide), pk_un (by decide), pk_un (by decide), pk_un (by decide), pk_un (by decide), pk_un (by decide), pk_un (by decide), pk_un (by decide), pk_un (by decide), u710, u70 16 (by decide) (by decide) (by decide) (by decide) (by decide) (by decide) (by decide) (by decide), u70 17 (by decide) (by decide) (by decide) (by decide) (by decide) (by decide) (by decide) (by decide), u70 18 (by decide) (by decide) (by decide) (by decide) (by decide) (by decide) (by decide) (by decide), u70 4 (by decide) (by decide) (by decide) (by decide) (by decide) (by decide) (by decide) (by decide), u70 6 (by decide) (by decide) (by decide) (by decide) (by decide) (by decide) (by decide) (by decide), u70 5 (by decide) (by decide) (by decide) (by decide) (by decide) (by decide) (by decide) (by decide), u70 3 (by decide) (by decide) (by decide) (by decide) (by decide) (by decide) (by decide) (by decide), u70 8 (by decide) (by decide) (by decide) (by decide) (by decide) (by decide) (by decide) (by decide), u70 9 (by decide) (by decide) (by decide) (by decide) (by decide) (by decide) (by decide) (by decide), u70 7 (by decide) (by decide) (by decide) (by decide) (by decide) (by decide) (by decide) (by decide)]
      exact ⟨g1, g2, g3, g4, g5, g6, g7, ⟨mi, hm, em⟩, by rw [g9], g10, g11, g12, g13, g14⟩
    · rw [v7k 3 (by decide) (by decide), v7k 4 (by decide) (by decide), v7k 5 (by decide) (by decide), v7k 6 (by decide) (by decide), v7k 7 (by decide) (by decide), s5 1 (by decide) (by decide)]
      exact c3
    · have e : ∀ k, 84 < k → k < 92 → V7 k = V k := fun k h1 h2 => by rw [s4 k h2, v5k k h1]
      rw [e 86 (by decide) (by decide), e 87 (by decide) (by decide), e 88 (by decide) (by decide), e 89 (by decide) (by decide), e 90 (by decide) (by decide), s5 2 (by decide) (by decide), u5k 2 (by decide), f3]
      exact hab
    · unfold pr_log
      rw [v709, u713, s4 9 (by decide), v9, s4 10 (by decide), v10, s4 11 (by decide), v11, u4', u5']
      refine ⟨w6, lgE, ug + us, by omega, rfl, by omega, rfl, w8, w9⟩
    · rw [v7k 3 (by decide) (by decide)]
      exact bp_le c4 (by omega)
    · rw [s4 86 (by decide), v5k 86 (by decide)]
      exact bp_le hbp2 (by omega)
