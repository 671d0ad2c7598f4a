theorem lT {n : Nat} (h : n < 2 ^ 40) : (lN n).toInt = (n : Int) := lg_ofNat_toInt (by omega)
theorem in101_no {x : Int32} {V : gx_M} (h : x < 0 ∨ nI 101 ≤ x) : F_Mod_in x 101 V = some (0, V) := in_no h
theorem in101_yes {a : Nat} {V : gx_M} (h : a < 101) : F_Mod_in (nI a) 101 V = some (1, V) := in_yes (L := 101) h (by decide)
/-- what speaks against a transaction, on both sides -/
theorem ref_s {n : Nat} {V U : gx_M} (hR : sm_R n V U) (hn : n < 512) (x1 x2 x3 x4 x5 x6 i : Int32) : ∃ c, F_Led_refusalOf 0 x1 x2 x3 x4 x5 x6 V = some (c, V) ∧ ((¬ 0 ≤ c ∧ ∀ U' : gx_M, U' 0 4 = U 0 4 → U' 0 10 = U 0 10 → U' 1 = U 1 → F_Mod_transact 0 x1 x2 x3 i x4 x5 x6 U' = some (c, U')) ∨ (0 ≤ c ∧ ∃ (a b vv lim pr ug lg : Nat) (f : Nat → Nat), x1 = nI a ∧ x2 = nI b ∧ x3 = nI vv ∧ x4 = nI lim ∧ x5 = nI pr ∧ a < 16 ∧ b < 16 ∧ 20 ≤ lim ∧ lim + ug ≤ 3000 ∧ pr ≤ 100 ∧ (∀ c, c < 16 → V 3 c = nI (f c)) ∧ sg f 16 ≤ 1000000 * n ∧ lim * pr + vv ≤ f a ∧ 12 * lg ≤ 2 * ug ∧ V 0 9 = nI ug ∧ V 9 2 = nI lg ∧ V 9 3 = pr_bl (U 5) lg ∧ (∀ k, k < lg → k < 16 → V 10 k = U 4 k ∧ V 11 k = U 5 k) ∧ ∀ U' : gx_M, U' 0 4 = U 0 4 → U' 0 10 = U 0 10 → U' 1 = U 1 → ∃ f0, 20 < f0 ∧ F_Mod_transact 0 x1 x2 x3 i x4 x5 x6 U' = F_Mod_transact_121 f0 0 x1 x2 x3 i x4 x5 0 (gx_u U' 0 2 0))) := by
  obtain ⟨⟨g1, g2, g3, g4, g5, g6, g7, g8, g9, g10, g11, g12, g13, g14⟩, hac, hab, hrc, ⟨hc, lg, ug, hu1, hu2, hu3, el, hbl, hk⟩, ⟨f, hf1, hf2⟩, hbp2⟩ := id hR
  unfold F_Led_refusalOf F_Mod_transact
  generalize hz : (200000 : Nat) = z
  by_cases h0 : V 0 6 = 0
  · refine ⟨-1, by rw [if_pos h0], Or.inl ⟨by decide, fun U' e4 e10 e1 => ?_⟩⟩
    rw [if_pos (by rw [e4, ← g4]; exact h0)]
  have hU0 : ∀ U' : gx_M, U' 0 4 = U 0 4 → ¬ U' 0 4 = 0 := fun U' e => by rw [e, ← g4]; exact h0
  rcases pr_ix x1 16 (by decide) with h1 | ⟨a, ha, rfl⟩
  · refine ⟨-2, by rw [if_neg h0, acc_no h1, ob, if_pos rfl], Or.inl ⟨by decide, fun U' e4 e10 e1 => ?_⟩⟩
    rw [if_neg (hU0 U' e4), in16_no h1, ob, if_pos rfl]
  rcases pr_ix x2 16 (by decide) with h2 | ⟨b, hb, rfl⟩
  · refine ⟨-2, by rw [if_neg h0, acc_yes ha, ob, if_neg z1, acc_no h2, ob, if_pos rfl], Or.inl ⟨by decide, fun U' e4 e10 e1 => ?_⟩⟩
    rw [if_neg (hU0 U' e4), in16_yes ha, ob, if_neg z1, in16_no h2, ob, if_pos rfl]
  rw [if_neg h0, acc_yes ha, ob, if_neg z1, acc_yes hb, ob, if_neg z1]
  have hM : ∀ (U' : gx_M) (G : Option (Int32 × gx_M)), U' 0 4 = U 0 4 → (if U' 0 4 = 0 then some ((-1 : Int32), U') else ((F_Mod_in (nI a) (16 : Int32) U').bind fun q5 => (if q5.1 = 0 then some ((-2 : Int32), q5.2) else ((F_Mod_in (nI b) (16 : Int32) q5.2).bind fun q6 => (if q6.1 = 0 then some ((-2 : Int32), q6.2) else G))))) = G := fun U' G e => by rw [if_neg (hU0 U' e), in16_yes ha, ob, if_neg z1, in16_yes hb, ob, if_neg z1]
  dsimp only
  by_cases h3 : 0 ≤ x3
  case neg =>
    refine ⟨-2, by rw [if_neg h3], Or.inl ⟨by decide, fun U' e4 e10 e1 => ?_⟩⟩
    rw [if_neg (hU0 U' e4), in16_yes ha, ob, if_neg z1, in16_yes hb, ob, if_neg z1, if_neg h3]
  by_cases h6 : x6 = 0
  case neg =>
    refine ⟨-3, by rw [if_pos h3, if_neg h6], Or.inl ⟨by decide, fun U' e4 e10 e1 => ?_⟩⟩
    rw [if_neg (hU0 U' e4), in16_yes ha, ob, if_neg z1, in16_yes hb, ob, if_neg z1, if_pos h3, if_neg h6]
  by_cases h4 : x4 < (20 : Int32)
  · refine ⟨-4, by rw [if_pos h3, if_pos h6, if_pos h4], Or.inl ⟨by decide, fun U' e4 e10 e1 => ?_⟩⟩
    rw [if_neg (hU0 U' e4), in16_yes ha, ob, if_neg z1, in16_yes hb, ob, if_neg z1, if_pos h3, if_pos h6, if_pos h4]
  by_cases h5 : (3000 : Int32) < x4
  · refine ⟨-4, by rw [if_pos h3, if_pos h6, if_neg h4, if_pos h5], Or.inl ⟨by decide, fun U' e4 e10 e1 => ?_⟩⟩
    rw [if_neg (hU0 U' e4), in16_yes ha, ob, if_neg z1, in16_yes hb, ob, if_neg z1, if_pos h3, if_pos h6, if_neg h4, if_pos h5]
  have hx4 : ¬ x4 < 0 := fun q => h4 (by
    rw [Int32.lt_iff_toInt_lt] at q ⊢
    have : (0 : Int32).toInt = 0 := by decide
    have : (20 : Int32).toInt = 20 := by decide
    omega)
  obtain ⟨lim, hlim, rfl⟩ := nI_of hx4
  have l20 : 20 ≤ lim := Nat.le_of_not_lt fun q => h4 (nI_lt (b := 20) q (by decide))
  have l3000 : lim ≤ 3000 := Nat.le_of_not_lt fun q => h5 (nI_lt (a := 3000) q hlim)
  rcases pr_ix x5 101 (by decide) with hp | ⟨pr, hpr, rfl⟩
  · have hcl : (if x5 < 0 then some ((-4 : Int32), V) else (if x5 ≤ (100 : Int32) then (if nI lim ≤ ((3000 : Int32) - (V 0 9)) then (if gx_ib (nI a) 16 then (if 0 ≤ (lg_cmp (V (((0 + 1) + 1) + 1) (nI a).toNatClampNeg).toInt64 (((nI lim).toInt64 * x5.toInt64) + x3.toInt64)) then some ((0 : Int32), V) else some ((-6 : Int32), V)) else none) else some ((-5 : Int32), V)) else some ((-4 : Int32), V))) = some (-4, V) := by
      by_cases hx : x5 < 0
      · rw [if_pos hx]
      · have hq : ¬ x5 ≤ (100 : Int32) := by
          intro q
          have q1 := hp.resolve_left hx
          rw [Int32.le_iff_toInt_le] at q q1
          rw [nI_toInt (by decide)] at q1
          have : (100 : Int32).toInt = 100 := by decide
          omega
        rw [if_neg hx, if_neg hq]
    refine ⟨-4, by rw [if_pos h3, if_pos h6, if_neg h4, if_neg h5]; exact hcl, Or.inl ⟨by decide, fun U' e4 e10 e1 => ?_⟩⟩
    rw [if_neg (hU0 U' e4), in16_yes ha, ob, if_neg z1, in16_yes hb, ob, if_neg z1, if_pos h3, if_pos h6, if_neg h4, if_neg h5, in101_no hp, ob, if_pos rfl]
  have c1 : ¬ nI pr < 0 := nI_pos (by omega)
  have c2 : nI pr ≤ (100 : Int32) := nI_le (b := 100) (by omega) (by decide)
  have e9 : (3000 : Int32) - V 0 9 = nI (3000 - ug) := by rw [hu2]; exact pk_sub (a := 3000) hu1
  have e10' : ∀ U' : gx_M, U' 0 10 = U 0 10 → (3000 : Int32) - U' 0 10 = nI (3000 - ug) := fun U' e => by rw [e, ← g9]; exact e9
  have x1 : V 3 a = U 1 (36 * a) := by have := (hac a ha).1; rw [Nat.zero_add] at this; exact this
  by_cases h7 : lim ≤ 3000 - ug
  case neg =>
    have h7' : ¬ nI lim ≤ nI (3000 - ug) := nI_ge (by omega) hlim
    refine ⟨-5, by rw [if_pos h3, if_pos h6, if_neg h4, if_neg h5, if_neg c1, if_pos c2, e9, if_neg h7'], Or.inl ⟨by decide, fun U' e4 e10 e1 => ?_⟩⟩
    rw [if_neg (hU0 U' e4), in16_yes ha, ob, if_neg z1, in16_yes hb, ob, if_neg z1, if_pos h3, if_pos h6, if_neg h4, if_neg h5, in101_yes hpr, ob, if_neg z1, e10' U' e10, if_neg h7']
  have h7' : nI lim ≤ nI (3000 - ug) := nI_le h7 (by omega)
  by_cases h8 : 0 ≤ lg_cmp (V 3 a).toInt64 ((nI lim).toInt64 * (nI pr).toInt64 + x3.toInt64)
  case neg =>
    refine ⟨-6, ?_, Or.inl ⟨by decide, fun U' e4 e10 e1 => ?_⟩⟩
    · rw [if_pos h3, if_pos h6, if_neg h4, if_neg h5, if_neg c1, if_pos c2, e9, if_pos h7', ib_t ha (by decide), nI_clamp (by omega), show (0 + 1 + 1 + 1 : Nat) = 3 from rfl, if_neg h8]
    · rw [if_neg (hU0 U' e4), in16_yes ha, ob, if_neg z1, in16_yes hb, ob, if_neg z1, if_pos h3, if_pos h6, if_neg h4, if_neg h5, in101_yes hpr, ob, if_neg z1, e10' U' e10, if_pos h7', m36, ib_t (by omega) (by decide), nI_clamp (by omega), Nat.zero_add]
      simp only [e1, ← x1, if_neg h8]
  obtain ⟨vv, hvv, rfl⟩ := nI_of (Int32.not_lt.mpr h3)
  have fa1 := sg_ge (f := f) (d := a) 16 ha
  have hpl : lim * pr ≤ 3000 * 100 := Nat.mul_le_mul l3000 (by omega)
  have hneed : lim * pr + vv ≤ f a := by
    have q := (lg_cmp_ge _ _).mp h8
    rw [hf1 a ha, nI_l (show f a < 2 ^ 31 by omega), nI_l hlim, nI_l (show pr < 2 ^ 31 by omega), nI_l hvv, lN_mul, lN_add, Int64.le_iff_toInt_le, lT (by omega), lT (by omega)] at q
    omega
  refine ⟨0, ?_, Or.inr ⟨by decide, a, b, vv, lim, pr, ug, lg, f, rfl, rfl, rfl, rfl, rfl, ha, hb, l20, by omega, by omega, hf1, hf2, hneed, hu3, hu2, by rw [hc]; exact el, hbl, hk, fun U' e4 e10 e1 => ⟨z, by omega, ?_⟩⟩⟩
  · rw [if_pos h3, if_pos h6, if_neg h4, if_neg h5, if_neg c1, if_pos c2, e9, if_pos h7', ib_t ha (by decide), nI_clamp (by omega), show (0 + 1 + 1 + 1 : Nat) = 3 from rfl, if_pos h8]
  · rw [if_neg (hU0 U' e4), in16_yes ha, ob, if_neg z1, in16_yes hb, ob, if_neg z1, if_pos h3, if_pos h6, if_neg h4, if_neg h5, in101_yes hpr, ob, if_neg z1, e10' U' e10, if_pos h7', m36, ib_t (by omega) (by decide), nI_clamp (by omega), Nat.zero_add]
    simp only [e1, ← x1, if_pos h8, gl]
theorem pf_send : sm_send sm_R := by
  intro n V U hn hR a1 a2 a3 a4
  unfold F_Led_send F_Mod_send
  obtain ⟨c, hc, hx⟩ := ref_s hR hn a1 a2 a3 200 1 0 a4
  rw [hc, ob]
  rcases hx with ⟨h0, hM⟩ | ⟨h0, a, b, vv, lim, pr, ug, lg, f, rfl, rfl, rfl, e4, e5, ha, hb, l1, l2, l3, hf1, hf2, hbal, hlg, eug, e9, e93, hkp, hM⟩
  · refine ⟨c, V, U, by rw [if_neg h0], ?_, pr_next hR⟩
    rw [hM U rfl rfl rfl, ob]
  · obtain ⟨f0, hf0, eM⟩ := hM U rfl rfl rfl
    obtain ⟨r, V1, U1, s1, s2, s3⟩ := tx_s (i := a4) hR hn ha hb l1 l2 l3 hf1 hf2 hbal hlg eug e9 e93 hkp hf0
    rw [← e4, ← e5] at s1 s2
    refine ⟨r, V1, U1, ?_, ?_, s3⟩
    · rw [if_pos h0]
      dsimp only
      rw [s1, ob]
    · rw [eM, s2, ob]
theorem terms_R {n : Nat} {V U : gx_M} {x y z : Int32} (h : sm_R n V U) : sm_R n (gx_u (gx_u (gx_u V 0 3 x) 0 4 y) 0 5 z) (gx_u (gx_u (gx_u U 0 16 x) 0 17 y) 0 18 z) := by
  obtain ⟨⟨g1, g2, g3, g⟩, h2, h3, h4, h5⟩ := h
  refine ⟨⟨?_, ?_, ?_, g⟩, h2, h3, h4, h5⟩ <;> simp [gx_u, va_up, upd]
theorem pf_pay : sm_pay sm_R := by
  intro n V U hn hR a1 a2 a3 a4
  unfold F_Led_pay F_Mod_pay F_Led_terms F_Mod_terms
  have hR2 := terms_R (x := 200) (y := 1) (z := 0) hR
  obtain ⟨g1, g2, g3, -⟩ := hR.1
  rw [← g1, ← g2, ← g3]
  obtain ⟨c, hc, hx⟩ := ref_s hR hn a1 a2 a3 (V 0 3) (V 0 4) (V 0 5) a4
  rw [hc, ob]
  simp only [gl, ob]
  have vo : ∀ k, k ≠ 0 → gx_u (gx_u (gx_u V 0 3 200) 0 4 1) 0 5 0 k = V k := fun k h => by rw [gx_uK h, gx_uK h, gx_uK h]
  have uo : ∀ k, k ≠ 0 → gx_u (gx_u (gx_u U 0 16 200) 0 17 1) 0 18 0 k = U k := fun k h => by rw [gx_uK h, gx_uK h, gx_uK h]
  have u4 : gx_u (gx_u (gx_u U 0 16 200) 0 17 1) 0 18 0 0 4 = U 0 4 := by rw [gx_up (by decide), gx_up (by decide), gx_up (by decide)]
  have u10 : gx_u (gx_u (gx_u U 0 16 200) 0 17 1) 0 18 0 0 10 = U 0 10 := by rw [gx_up (by decide), gx_up (by decide), gx_up (by decide)]
  have v9 : gx_u (gx_u (gx_u V 0 3 200) 0 4 1) 0 5 0 0 9 = V 0 9 := by rw [gx_up (by decide), gx_up (by decide), gx_up (by decide)]
  generalize gx_u (gx_u (gx_u V 0 3 200) 0 4 1) 0 5 0 = V' at *
  generalize gx_u (gx_u (gx_u U 0 16 200) 0 17 1) 0 18 0 = U' at *
  rcases hx with ⟨h0, hM⟩ | ⟨h0, a, b, vv, lim, pr, ug, lg, f, rfl, rfl, rfl, e4, e5, ha, hb, l1, l2, l3, hf1, hf2, hbal, hlg, eug, e9, e93, hkp, hM⟩
  · refine ⟨c, V', U', by rw [if_neg h0], ?_, pr_next hR2⟩
    rw [hM U' u4 u10 (uo 1 (by decide)), ob]
  · obtain ⟨f0, hf0, eM⟩ := hM U' u4 u10 (uo 1 (by decide))
    obtain ⟨r, V1, U1, s1, s2, s3⟩ := tx_s (i := a4) hR2 hn ha hb l1 l2 l3 (by rw [vo 3 (by decide)]; exact hf1) hf2 hbal hlg (by rw [v9]; exact eug) (by rw [vo 9 (by decide)]; exact e9) (by rw [vo 9 (by decide), uo 5 (by decide)]; exact e93) (by rw [vo 10 (by decide), vo 11 (by decide), uo 4 (by decide), uo 5 (by decide)]; exact hkp) hf0
    rw [← e4, ← e5] at s1 s2
    exact ⟨r, V1, U1, by rw [if_pos h0, s1, ob], by rw [eM, s2, ob], s3⟩
theorem pf_0 : sm_R 0 cx_V0 mx_V0 := by
  refine ⟨⟨rfl, rfl, rfl, rfl, Or.inl rfl, rfl, rfl, ⟨0, by decide, rfl⟩, rfl, rfl, ⟨0, by decide, rfl⟩, rfl, rfl, rfl⟩, ?_, ?_, ⟨rfl, 0, by omega, rfl, fun k hk => absurd hk (by omega)⟩, ⟨rfl, 0, 0, by omega, rfl, by omega, rfl, rfl, fun k hk => absurd hk (by omega)⟩, ⟨fun _ => 0, fun a ha => rfl, by decide⟩, ⟨fun _ => 0, fun a ha => rfl, by decide⟩⟩
  · intro a ha
    exact ⟨rfl, rfl, rfl, ⟨0, by omega, rfl, fun j hj => absurd hj (by omega)⟩, fun k hk => rfl⟩
  · intro a ha
    exact ⟨rfl, rfl, rfl, ⟨0, by omega, rfl, fun j hj => absurd hj (by omega)⟩, fun k hk => rfl⟩
theorem pf_all : sm_all sm_R := ⟨pf_0, pf_fund, pf_code, pf_preset, pf_begin, pf_send, pf_terms, pf_pay, pf_seal, pf_look, pf_slot, pf_word, pf_root, pf_block, pf_receipt, pf_log, pf_total⟩
