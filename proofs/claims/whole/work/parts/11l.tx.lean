/-- the receipts' rows grow by one -/
theorem rec_s {n : Nat} {V U : gx_M} {st us : Int32} {lg0 : Int32} (hr : pr_rec n (V 92 4) (U 0 11) (V 93) (V 94) (V 95) (V 96) (U 3)) (hn : n < 512) (e33 : U 0 33 = st) (e34 : U 0 34 = V 13 11) (e13 : U 0 13 = V 9 2) : ∃ V1 U1, F_Rec_add 92 st us (V 13 11) (V 9 2 - lg0) V = some V1 ∧ (∀ f, F_Mod_transact_319 (f + 1) 0 lg0 us (nI 16) U = some (us, U1)) ∧ pr_rec (n + 1) (V1 92 4) (U1 0 11) (V1 93) (V1 94) (V1 95) (V1 96) (U1 3) ∧ (∀ c, c < 92 → V1 c = V c) ∧ (∀ c, c ≠ 0 → c ≠ 3 → U1 c = U c) ∧ U1 0 10 = U 0 10 + us ∧ ∀ p, p ≠ 10 → p ≠ 11 → U1 0 p = U 0 p := by
  obtain ⟨hc, r, hrn, er, hk⟩ := hr
  have eu : U 0 11 = nI r := by rw [← hc]; exact er
  by_cases h16 : r < 16
  · refine ⟨gx_u (gx_u (gx_u (gx_u (gx_u V 93 r st) 94 r us) 95 r (V 13 11)) 96 r (V 9 2 - lg0)) 92 4 (nI (r + 1)), gx_u (gx_u (gx_u (gx_u (gx_u (gx_u U 3 (4 * r) st) 3 (4 * r + 1) us) 3 (4 * r + 2) (V 13 11)) 3 (4 * r + 3) (V 9 2 - lg0)) 0 11 (nI (r + 1))) 0 10 (U 0 10 + us), ?_, ?_, ?_, ?_, ?_, ?_, ?_⟩
    · unfold F_Rec_add
      simp only [er, if_neg (ge16 h16), ib_t h16 (show 16 < 2 ^ 31 by decide), nI_clamp (show r < 2 ^ 31 by omega), gl, Nat.reduceAdd, gx_uK (show (92 : Nat) ≠ 93 by decide), gx_uK (show (92 : Nat) ≠ 94 by decide), gx_uK (show (92 : Nat) ≠ 95 by decide), gx_uK (show (92 : Nat) ≠ 96 by decide), nI_1]
    · intro f
      rw [F_Mod_transact_319, if_pos (by decide), eu, if_neg (ge16 h16)]
      have o : ∀ p x, gx_u U 3 p x 0 = U 0 := fun p x => gx_uK (by decide)
      simp only [Nat.zero_add, m4, gl, gx_uK (show (0 : Nat) ≠ 3 by decide), eu, show nI (4 * r) + (1 : Int32) = nI (4 * r + 1) from nI_1 _, show nI (4 * r) + (2 : Int32) = nI (4 * r + 2) from nI_add _ 2, show nI (4 * r) + (3 : Int32) = nI (4 * r + 3) from nI_add _ 3, ib_t (show 4 * r < 64 by omega) (show 64 < 2 ^ 31 by decide), ib_t (show 4 * r + 1 < 64 by omega) (show 64 < 2 ^ 31 by decide), ib_t (show 4 * r + 2 < 64 by omega) (show 64 < 2 ^ 31 by decide), ib_t (show 4 * r + 3 < 64 by omega) (show 64 < 2 ^ 31 by decide), nI_clamp (show 4 * r < 2 ^ 31 by omega), nI_clamp (show 4 * r + 1 < 2 ^ 31 by omega), nI_clamp (show 4 * r + 2 < 2 ^ 31 by omega), nI_clamp (show 4 * r + 3 < 2 ^ 31 by omega), e33, e34, e13, F_Mod_transact_431, nI_1, gx_up (show (10 : Nat) ≠ 11 by decide)]
    · refine ⟨?_, r + 1, by omega, by rw [gx_us], fun k h1 h2 => ?_⟩
      · rw [gx_us, gx_up (by decide), gx_us]
      · rw [gx_uK (show 3 ≠ 0 by decide), gx_uK (show 3 ≠ 0 by decide), gx_uK (show 93 ≠ 92 by decide), gx_uK (show 94 ≠ 92 by decide), gx_uK (show 95 ≠ 92 by decide), gx_uK (show 96 ≠ 92 by decide), gx_uK (show 93 ≠ 96 by decide), gx_uK (show 93 ≠ 95 by decide), gx_uK (show 93 ≠ 94 by decide), gx_uK (show 94 ≠ 96 by decide), gx_uK (show 94 ≠ 95 by decide), gx_uK (show 95 ≠ 96 by decide)]
        by_cases e : k = r
        · subst e
          rw [gx_us, gx_us, gx_us, gx_us, gx_up (by omega), gx_up (by omega), gx_up (by omega), gx_us, gx_up (by omega), gx_up (by omega), gx_us, gx_up (by omega), gx_us, gx_us]
          exact ⟨rfl, rfl, rfl, rfl⟩
        · rw [gx_up e, gx_up e, gx_up e, gx_up e, gx_uK (show 94 ≠ 93 by decide), gx_uK (show 95 ≠ 94 by decide), gx_uK (show 95 ≠ 93 by decide), gx_uK (show 96 ≠ 95 by decide), gx_uK (show 96 ≠ 94 by decide), gx_uK (show 96 ≠ 93 by decide)]
          obtain ⟨z1, z2, z3, z4⟩ := hk k (by omega) h2
          refine ⟨?_, ?_, ?_, ?_⟩
          · rw [gx_up (by omega), gx_up (by omega), gx_up (by omega), gx_up (by omega)]; exact z1
          · rw [gx_up (by omega), gx_up (by omega), gx_up (by omega), gx_up (by omega)]; exact z2
          · rw [gx_up (by omega), gx_up (by omega), gx_up (by omega), gx_up (by omega)]; exact z3
          · rw [gx_up (by omega), gx_up (by omega), gx_up (by omega), gx_up (by omega)]; exact z4
    · intro c hc
      rw [gx_uK (by omega), gx_uK (by omega), gx_uK (by omega), gx_uK (by omega), gx_uK (by omega)]
    · intro c h0 h3
      rw [gx_uK h0, gx_uK h0, gx_uK h3, gx_uK h3, gx_uK h3, gx_uK h3]
    · rw [gx_us]
    · intro p h10 h11
      rw [gx_up h10, gx_up h11, gx_uK (by decide), gx_uK (by decide), gx_uK (by decide), gx_uK (by decide)]
  · have hh : (16 : Int32) ≤ nI r := nI_le (a := 16) (by omega) (by omega)
    refine ⟨gx_u V 92 4 (nI (r + 1)), gx_u (gx_u U 0 11 (nI (r + 1))) 0 10 (U 0 10 + us), ?_, ?_, ?_, ?_, ?_, ?_, ?_⟩
    · unfold F_Rec_add
      rw [er, if_pos hh, gl, nI_1]
    · intro f
      rw [F_Mod_transact_319, if_pos (by decide), eu, if_pos hh, F_Mod_transact_431, eu, nI_1, gl, gl, gx_up (by decide)]
    · refine ⟨?_, r + 1, by omega, by rw [gx_us], fun k h1 h2 => ?_⟩
      · rw [gx_us, gx_up (by decide), gx_us]
      · rw [gx_uK (show 3 ≠ 0 by decide), gx_uK (show 3 ≠ 0 by decide), gx_uK (show 93 ≠ 92 by decide), gx_uK (show 94 ≠ 92 by decide), gx_uK (show 95 ≠ 92 by decide), gx_uK (show 96 ≠ 92 by decide)]
        exact hk k (by omega) h2
    · intro c hc
      rw [gx_uK (by omega)]
    · intro c h0 h3
      rw [gx_uK h0, gx_uK h0]
    · rw [gx_us]
    · intro p h10 h11
      rw [gx_up h10, gx_up h11]
/-- the first half of a transaction: what is paid ahead, the frame, the run -/
theorem tx_run {n : Nat} {V U : gx_M} {a b lim pr vv ug lg f0 : Nat} {i : Int32} {f : Nat → Nat} (hR : sm_R n V U) (hn : n < 512) (ha : a < 16) (hb : b < 16) (hl : 20 ≤ lim) (hl2 : lim + ug ≤ 3000) (hp : pr ≤ 100) (hf : ∀ c, c < 16 → V 3 c = nI (f c)) (hfs : sg f 16 ≤ 1000000 * n) (hbal : lim * pr + vv ≤ f a) (hlg : 12 * lg ≤ 2 * ug) (e9 : V 9 2 = nI lg) (e93 : V 9 3 = pr_bl (U 5) lg) (hkp : ∀ k, k < lg → k < 16 → V 10 k = U 4 k ∧ V 11 k = U 5 k) (h0 : 20 < f0) : ∃ Ve Ue, te V U (1000000 * n - lim * pr) (lim - 20 + 12 * lg, lim - 20) Ve Ue ∧ F_Mac_run 1 (nI a) (nI b) (nI vv) i (nI (lim - 20)) (gx_u (gx_u V 3 a (V 3 a - nI (lim * pr))) 4 a (V 4 a + 1)) = some (13, Ve) ∧ F_Mod_transact_121 f0 0 (nI a) (nI b) (nI vv) i (nI lim) (nI pr) 0 (gx_u U 0 2 0) = F_Mod_transact_240 0 (nI a) (nI lim) (nI pr) (U 0 13) Ue := by
  obtain ⟨hg, hac, hab, hrc, hlog, hbp, hbp2⟩ := id hR
  have fa1 := sg_ge (f := f) (d := a) 16 ha
  have hlp : lim * pr ≤ f a := by omega
  have e13 : U 0 13 = nI lg := by rw [← hlog.1]; exact e9
  obtain ⟨UC, f', k1, k2, k3, k4⟩ := clr (x1 := nI a) (x2 := nI b) (x3 := nI vv) (x4 := i) (x5 := nI lim) (x6 := nI pr) 16 0 f0 (gx_u U 0 2 0) rfl (by omega)
  rw [nI_0] at k1
  have o1 : ∀ q, gx_u U 0 2 0 1 q = U 1 q := fun q => by rw [gx_uK (by decide)]
  have c1 : pr_acc (V 3) (V 4) (V 5) (V 6) (V 7) (UC 1) 0 := pr_acc_fl hac (fun q hq => by rw [k4 q (fun c _ h2 => hq c h2), o1])
  have x1 : V 3 a = UC 1 (36 * a) := by have := (c1 a ha).1; rw [Nat.zero_add] at this; exact this
  have x2 : V 4 a = UC 1 (36 * a + 1) := by have := (c1 a ha).2.1; rw [Nat.zero_add] at this; exact this
  have c2 := pr_acc_n (x := V 4 a + 1) (pr_acc_b (x := V 3 a - nI (lim * pr)) c1 ha) ha
  have e20 : nI lim - (20 : Int32) = nI (lim - 20) := pk_sub (b := 20) hl
  have i1 : nI (36 * a) + (1 : Int32) = nI (36 * a + 1) := nI_1 _
  have uc13 : UC 0 13 = U 0 13 := by rw [k2 0 (by decide), gx_up (by decide)]
  -- the two memories where the frame begins
  generalize hVQ : gx_u (gx_u (gx_u (gx_u (gx_u V 3 a (V 3 a - nI (lim * pr))) 4 a (V 4 a + 1)) 1 4 0) 1 5 0) 1 3 0 = VQ
  generalize hUQ : gx_u (gx_u (gx_u UC 1 (36 * a) (V 3 a - nI (lim * pr))) 1 (36 * a + 1) (V 4 a + 1)) 0 19 (-1) = UQ
  have vq : ∀ k, k ≠ 1 → k ≠ 3 → k ≠ 4 → VQ k = V k := fun k h1 h3 h4 => by rw [← hVQ, gx_uK h1, gx_uK h1, gx_uK h1, gx_uK h4, gx_uK h3]
  have v3 : VQ 3 = upd (V 3) a (V 3 a - nI (lim * pr)) := by rw [← hVQ, gx_uK (by decide), gx_uK (by decide), gx_uK (by decide), gx_uK (by decide), gx_ua, if_pos rfl]
  have v4 : VQ 4 = upd (V 4) a (V 4 a + 1) := by rw [← hVQ, gx_uK (by decide), gx_uK (by decide), gx_uK (by decide), gx_ua, if_pos rfl, gx_uK (by decide)]
  have uq : ∀ k, k ≠ 0 → k ≠ 1 → UQ k = U k := fun k h0 h1 => by rw [← hUQ, gx_uK h0, gx_uK h1, gx_uK h1, k2 k h1, gx_uK h0]
  have u1 : UQ 1 = upd (upd (UC 1) (36 * a) (V 3 a - nI (lim * pr))) (36 * a + 1) (V 4 a + 1) := by rw [← hUQ, gx_uK (by decide), gx_ua, if_pos rfl, gx_ua, if_pos rfl]
  have u0 : ∀ p, p ≠ 2 → p ≠ 19 → UQ 0 p = U 0 p := fun p h2 h19 => by rw [← hUQ, gx_up h19, gx_uK (by decide), gx_uK (by decide), k2 0 (by decide), gx_up h2]
  have twQ : tw VQ UQ (1000000 * n - lim * pr) lg 0 := by
    unfold tw
    rw [v3, v4, u1, vq 5 (by decide) (by decide) (by decide), vq 6 (by decide) (by decide) (by decide), vq 7 (by decide) (by decide) (by decide), vq 9 (by decide) (by decide) (by decide), vq 10 (by decide) (by decide) (by decide), vq 11 (by decide) (by decide) (by decide), uq 4 (by decide) (by decide), uq 5 (by decide) (by decide)]
    refine ⟨?_, ?_, fun c hc => ?_, c2, ⟨gu f a (f a - lim * pr), fun c hc => ?_, ?_⟩, e9, ?_, e93, hkp⟩
    · rw [← hVQ, gx_up (by decide), gx_up (by decide), gx_us]; rfl
    · rw [← hUQ, gx_up (by decide), gx_uK (by decide), gx_uK (by decide), k2 0 (by decide), gx_us]; rfl
    · have e5 : VQ 1 5 = 0 := by rw [← hVQ, gx_up (by decide), gx_us]
      rw [e5, tbz0, pk_un (by omega), pk_un (by omega), Nat.zero_add, k3 c (by omega) hc]
      exact (if_neg (by decide)).symm
    · by_cases e : c = a
      · subst e; rw [pk_us, gu_s, hf c hc, pk_sub hlp]
      · rw [pk_un e, gu_n e, hf c hc]
    · have := sg_u (f := f) (d := a) (x := f a - lim * pr) 16 ha
      omega
    · rw [u0 13 (by decide) (by decide)]; exact e13
  have fxQ : fx V U VQ UQ := ⟨vq 0 (by decide) (by decide) (by decide), fun k hk => vq k (by omega) (by omega) (by omega), uq 2 (by decide) (by decide), uq 3 (by decide) (by decide), fun p h2 _ h19 _ _ _ => u0 p h2 h19⟩
  obtain ⟨V1, U1, m1, m2, m3, m4, m5⟩ := enter_s (V0 := V) (U0 := U) (V := VQ) (U := UQ) (B := 1000000 * n - lim * pr) (C := (lim - 20 + 12 * lg, lim - 20)) (n := 0) (gg := lim - 20) (lg := lg) (rf := 0) (s := b) (cd := b) (g := fun _ => 0) (h := fun _ => 0) (L := fun _ => 0) (R := fun _ => 0) (cl := nI a) (v := nI vv) (i := i) (by decide) (by rw [← hVQ, gx_us]; rfl) (by rw [← hUQ, gx_us]; decide) twQ (fun j hj => absurd hj (by omega)) ⟨fun i j _ hj => absurd hj (by omega), fun j hj => absurd hj (by omega)⟩ ⟨⟨by show sg (fun _ => 0) 0 + (lim - 20) + 12 * lg ≤ lim - 20 + 12 * lg; rw [sg]; omega, by show sg (fun _ => 0) 0 + (lim - 20) ≤ lim - 20; rw [sg]; omega⟩, by rw [sg]; omega, fun j hj => absurd hj (by omega)⟩ fxQ hb hb
  have hle : nI vv ≤ V1 3 a := by
    rw [m4 3 (by decide) (by decide) (by decide), v3, pk_us, hf a ha, pk_sub hlp]
    exact nI_le (by omega) (by omega)
  have hBn : 1000000 * n - lim * pr < 2 ^ 31 := by omega
  obtain ⟨V7, U7, g1, g2, g3, g4, g5⟩ := give_s (v := nI vv) m3.1.2.2.2.1 hBn ha hb (nI_pos (by omega)) hle
  have t7 := tr_w m3 (fun k hk => g4 k (by omega)) (g4 0 (by decide)) (by rw [g4 1 (by decide)]) (fun k hk => g5 k (by omega)) (g5 2 (by decide)) (g5 3 (by decide)) (fun p h1 h2 => by rw [g5 0 (by decide)]) g3 (fun k hk => by rw [g5 5 (by decide)]) (Nat.le_refl _) m3.1.2.2.2.2.2.2.2.1
  have hmm : sg (fun _ => 0) 0 + (lim - 20) + 0 + 1 ≤ 3000 := by rw [sg]; omega
  have run := fun z1 z2 h1 h2 => run_s (x1 := nI a) (x5 := nI lim) (x6 := nI pr) (x8 := U 0 13) hBn (show (lim - 20 + 12 * lg, lim - 20).1 < 6140 by show lim - 20 + 12 * lg < 6140; omega) 3000 0 _ _ _ _ _ _ _ _ V7 U7 0 z1 z2 t7 hmm (by decide) h1 h2
  generalize hz : (200000 : Nat) = z at *
  obtain ⟨Ve, Ue, r1, r2, r3⟩ := run z z (by omega) (by omega)
  rw [nI_0] at r2 r3
  refine ⟨Ve, Ue, r1, ?_, ?_⟩
  · unfold F_Mac_run
    rw [hz, gl, gl, gl, hVQ, m1, ob, show (1 + 1 : Nat) = 2 from rfl, g1, ob, r2]
  · rw [k1, F_Mod_transact_121, if_pos (by decide), hz]
    simp only [m36, ib_t (show 36 * a < 576 by omega) (show 576 < 2 ^ 31 by decide), nI_clamp (show 36 * a < 2 ^ 31 by omega), gl, Nat.zero_add, pk_mul, i1, ib_t (show 36 * a + 1 < 576 by omega) (show 576 < 2 ^ 31 by decide), nI_clamp (show 36 * a + 1 < 2 ^ 31 by omega), gx_up (show 36 * a + 1 ≠ 36 * a by omega), ← x1, ← x2, hUQ, e20, m2, ob, g2, uc13]
    exact r3
