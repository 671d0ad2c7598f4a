theorem sh5 (w : Int32) : w >>> ((5 : Int32) &&& 31) < 0 ∨ ∃ k : Nat, k < 2 ^ 27 ∧ w >>> ((5 : Int32) &&& 31) = nI k := by
  by_cases h : w >>> ((5 : Int32) &&& 31) < 0
  · exact Or.inl h
  · right
    obtain ⟨k, hk, e⟩ := nI_of h
    refine ⟨k, ?_, e⟩
    have q := pk_shr w ((5 : Int32) &&& 31) 5 (by decide)
    rw [e, nI_toInt hk, Int.shiftRight_eq_div_pow] at q
    have := Int32.toInt_lt w
    omega
theorem z1 : ¬ (1 : Int32) = 0 := by decide
theorem lt1 {x : Int32} : (x < (1 : Int32)) ↔ (x < 0 ∨ x = 0) := by
  rw [Int32.lt_iff_toInt_lt, Int32.lt_iff_toInt_lt, ← Int32.toInt_inj]
  have h1 : (1 : Int32).toInt = 1 := by decide
  have h0 : (0 : Int32).toInt = 0 := by decide
  omega
theorem op3_s {V0 U0 V U : gx_M} {B : Nat} {C : Nat × Nat} {d gt ht lg rf cd p z : Nat} {g h L R : Nat → Nat} {w : Int32} (t : tr V0 U0 B C d g h L R gt ht lg rf V U) (hw : wd V U d cd p z w) (eO : w &&& 31 = nI 3) : ∃ V1 U1, it (13 + 9 * d) (F_Mac_step 1 (13 + 9 * d) V) = some V1 ∧ F_Mod_step 0 U = some U1 ∧ nx V0 U0 B C (sg g d + gt + d + 1) V1 U1 := by
  have hd := t.1.1
  have e19 := t.1.2.2.1
  have h12 := t.2.2.2.2.2.2.2.2.2.2.2.1
  have e13 := t.2.2.2.2.2.2.2.2.2.2.1
  have hp : p < 24 := by have := hw.2.1; have := hw.2.2.1; omega
  rcases sh5 w with hn | ⟨k, hk, ek⟩
  · have n1 : F_Mac_needsOf (nI 3) (w >>> ((5 : Int32) &&& 31)) V = some (nI 13, V) := by
      unfold F_Mac_needsOf
      rw [if_pos (by decide), if_neg (Int32.not_le.mpr hn)]; rfl
    have f1 : F_Mod_fails 0 (nI 3) (w >>> ((5 : Int32) &&& 31)) U = some (1, U) := by
      rw [f_in hd hw.1 e19 hw.2.2.2.2.1, if_pos (by decide), if_pos hn]
    exact opx_s t hw eO (by decide) (by decide) (by decide) (by decide) (by decide) n1 (rD_3 _ _) (oD_3 _) (pD_3 _) (uD_3 _) (kD_3 _) f1 (fun _ => Or.inr (Or.inr (Or.inr (by decide)))) (fun q _ => absurd (Or.inr (Or.inl (by omega))) q) (fun q _ => absurd (Or.inr (Or.inl (by omega))) q)
  · have n1 : F_Mac_needsOf (nI 3) (w >>> ((5 : Int32) &&& 31)) V = some (nI (k + 1), V) := by
      unfold F_Mac_needsOf
      rw [if_pos (by decide), ek, if_pos (nI_pos' (by omega)), nI_1]
    by_cases hkh : k < ht
    · have f1 : F_Mod_fails 0 (nI 3) (w >>> ((5 : Int32) &&& 31)) U = some (0, U) := by
        rw [f_in hd hw.1 e19 hw.2.2.2.2.1, if_pos (by decide), ek, if_neg (nI_pos (by omega)), e13, if_pos (nI_lt hkh (by omega))]
      refine op_e t hw eO (by omega) (by decide) (by decide) (by decide) (by decide) n1 (rD_3 _ _) (oD_3 _) (pD_3 _) (uD_3 _) (kD_3 _) f1 ?_ ?_
      · intro hh; constructor
        · intro q; rcases q with q | q | ⟨q, q2⟩ <;> omega
        · intro q; rcases q with q | q | q
          · omega
          · exact Or.inr (Or.inr ⟨by omega, by decide⟩)
          · exact Or.inl q
      · intro h1 h2 h3 V2 U2 a
        have hl : ht < 12 := by rcases Nat.lt_or_ge ht 12 with q | q; exact q; exact absurd ⟨by omega, by decide⟩ h3
        have hs := a.2.2.2.2.2.2.2.2.2.2.2.2.2 (ht - 1 - k) (by omega)
        have bC := belC (V := V2) (c := 13 + 9 * d) (k := k) h12 (by omega) a.2.2.2.2.2.2.2.2.2.1
        have bM := pekM (U := U2) (k := k) hd h12 (by omega) a.1.2.2.1 a.2.2.2.2.2.2.2.2.2.2.1
        rw [if_pos hkh, show 13 + 9 * d + 1 = 14 + 9 * d by omega] at bC
        rw [if_pos hkh] at bM
        exact pu_fin (x := V2 (14 + 9 * d) (ht - 1 - k)) a hl (by omega) (by rw [cD_3, F_Mac_step_368, F_Mac_resultOf, if_neg (by decide), if_pos (by decide), ek, bC, ob, ob, obs]) (by rw [mD_3, F_Mod_shuffle, if_neg (by decide), if_neg (by decide), if_pos (by decide), ek, bM, ob, obs, obs, ← hs])
    · have f1 : F_Mod_fails 0 (nI 3) (w >>> ((5 : Int32) &&& 31)) U = some (1, U) := by
        rw [f_in hd hw.1 e19 hw.2.2.2.2.1, if_pos (by decide), ek, if_neg (nI_pos (by omega)), e13, if_neg (nI_nlt (by omega) (by omega))]
      exact opx_s t hw eO (by omega) (by decide) (by decide) (by decide) (by decide) n1 (rD_3 _ _) (oD_3 _) (pD_3 _) (uD_3 _) (kD_3 _) f1 (fun _ => Or.inr (Or.inr (Or.inr (by decide)))) (fun q _ => absurd (Or.inr (Or.inl (by omega))) q) (fun q _ => absurd (Or.inr (Or.inl (by omega))) q)
theorem swap_t {V0 U0 V U : gx_M} {B : Nat} {C : Nat × Nat} {d gt ht lg rf k : Nat} {g h L R : Nat → Nat} (t : tr V0 U0 B C d g h L R gt ht lg rf V U) (hk : k < ht) : ∃ V1 U1, F_Frm_swap (13 + 9 * d) (nI k) V = some V1 ∧ F_Mod_shuffle 0 (nI 4) (nI k) U = some U1 ∧ tr V0 U0 B C d g h L R gt ht lg rf V1 U1 := by
  have hd := t.1.1
  have e19 := t.1.2.2.1
  have h12 := t.2.2.2.2.2.2.2.2.2.2.2.1
  have e8 := t.2.2.2.2.2.2.2.2.2.1
  have e13 := t.2.2.2.2.2.2.2.2.2.2.1
  have hs := t.2.2.2.2.2.2.2.2.2.2.2.2.2
  have e1 : nI ht - (1 : Int32) = nI (ht - 1) := pk_sub (b := 1) (by omega)
  have e2 : nI (ht - 1) - nI k = nI (ht - 1 - k) := pk_sub (by omega)
  have m1 : (12 : Int32) * nI d + nI ht - 1 = nI (12 * d + (ht - 1)) := by
    rw [m12, nI_add, show nI (12 * d + ht) - (1 : Int32) = nI (12 * d + ht - 1) from pk_sub (b := 1) (by omega)]; congr 1; omega
  have m2 : nI (12 * d + (ht - 1)) - nI k = nI (12 * d + (ht - 1 - k)) := by
    rw [pk_sub (by omega)]; congr 1; omega
  have y1 := hs (ht - 1) (by omega)
  have y2 := hs (ht - 1 - k) (by omega)
  refine ⟨gx_u (gx_u V (14 + 9 * d) (ht - 1) (V (14 + 9 * d) (ht - 1 - k))) (14 + 9 * d) (ht - 1 - k) (V (14 + 9 * d) (ht - 1)), gx_u (gx_u U 14 (12 * d + (ht - 1)) (V (14 + 9 * d) (ht - 1 - k))) 14 (12 * d + (ht - 1 - k)) (V (14 + 9 * d) (ht - 1)), ?_, ?_, tc_k t.1 (kc_t kc_s kc_s) (ku_t (ku_14 (by omega)) (ku_14 (by omega))) (Nat.le_refl _), rn_st (rn_st t.2)⟩
  · unfold F_Frm_swap
    rw [e8, e1, e2, if_neg (nI_pos (by omega)), if_neg (nI_ge (by omega) (by omega)), show 13 + 9 * d + 1 = 14 + 9 * d by omega]
    simp only [ib_t (show ht - 1 < 12 by omega) (show 12 < 2 ^ 31 by decide), ib_t (show ht - 1 - k < 12 by omega) (show 12 < 2 ^ 31 by decide), nI_clamp (show ht - 1 < 2 ^ 31 by omega), nI_clamp (show ht - 1 - k < 2 ^ 31 by omega), gl]
  · unfold F_Mod_shuffle
    rw [if_neg (by decide), if_neg (by decide), if_neg (by decide)]
    simp only [e19, ib_t hd (show 8 < 2 ^ 31 by decide), nI_clamp (show d < 2 ^ 31 by omega), Nat.zero_add, e13, m1, m2, ib_t (show 12 * d + (ht - 1) < 96 by omega) (show 96 < 2 ^ 31 by decide), ib_t (show 12 * d + (ht - 1 - k) < 96 by omega) (show 96 < 2 ^ 31 by decide), nI_clamp (show 12 * d + (ht - 1) < 2 ^ 31 by omega), nI_clamp (show 12 * d + (ht - 1 - k) < 2 ^ 31 by omega), gl, y1, y2]
theorem op4_s {V0 U0 V U : gx_M} {B : Nat} {C : Nat × Nat} {d gt ht lg rf cd p z : Nat} {g h L R : Nat → Nat} {w : Int32} (t : tr V0 U0 B C d g h L R gt ht lg rf V U) (hw : wd V U d cd p z w) (eO : w &&& 31 = nI 4) : ∃ V1 U1, it (13 + 9 * d) (F_Mac_step 1 (13 + 9 * d) V) = some V1 ∧ F_Mod_step 0 U = some U1 ∧ nx V0 U0 B C (sg g d + gt + d + 1) V1 U1 := by
  have hd := t.1.1
  have e19 := t.1.2.2.1
  have h12 := t.2.2.2.2.2.2.2.2.2.2.2.1
  have e13 := t.2.2.2.2.2.2.2.2.2.2.1
  by_cases hn : w >>> ((5 : Int32) &&& 31) < 1
  · have n1 : F_Mac_needsOf (nI 4) (w >>> ((5 : Int32) &&& 31)) V = some (nI 13, V) := by
      unfold F_Mac_needsOf
      rw [if_neg (by decide), if_pos (by decide), if_neg (Int32.not_le.mpr hn)]; rfl
    have f1 : F_Mod_fails 0 (nI 4) (w >>> ((5 : Int32) &&& 31)) U = some (1, U) := by
      rw [f_in hd hw.1 e19 hw.2.2.2.2.1, if_neg (by decide), if_pos (by decide), if_pos hn]
    exact opx_s t hw eO (by decide) (by decide) (by decide) (by decide) (by decide) n1 (rD_4 _ _) (oD_4 _) (pD_4 _) (uD_4 _) (kD_4 _) f1 (fun _ => Or.inr (Or.inr (Or.inr (by decide)))) (fun q _ => absurd (Or.inr (Or.inl (by omega))) q) (fun q _ => absurd (Or.inr (Or.inl (by omega))) q)
  · rcases sh5 w with hx | ⟨k, hk, ek⟩
    · exact absurd (lt1.mpr (Or.inl hx)) hn
    have n1 : F_Mac_needsOf (nI 4) (w >>> ((5 : Int32) &&& 31)) V = some (nI (k + 1), V) := by
      unfold F_Mac_needsOf
      rw [if_neg (by decide), if_pos (by decide), if_pos (Int32.not_lt.mp hn), ek, nI_1]
    by_cases hkh : k < ht
    · have f1 : F_Mod_fails 0 (nI 4) (w >>> ((5 : Int32) &&& 31)) U = some (0, U) := by
        rw [f_in hd hw.1 e19 hw.2.2.2.2.1, if_neg (by decide), if_pos (by decide), if_neg hn, ek, e13, if_pos (nI_lt hkh (by omega))]
      refine op_e t hw eO (by omega) (by decide) (by decide) (by decide) (by decide) n1 (rD_4 _ _) (oD_4 _) (pD_4 _) (uD_4 _) (kD_4 _) f1 ?_ ?_
      · intro hh; constructor
        · intro q; rcases q with q | q | ⟨q, q2⟩
          · exact Or.inr (Or.inr q)
          · omega
          · exact absurd rfl q2
        · intro q; rcases q with q | q | q
          · omega
          · omega
          · exact Or.inl q
      · intro h1 h2 h3 V2 U2 a
        obtain ⟨V1, U1, s1, s2, s3⟩ := swap_t (k := k) a hkh
        exact fin s3 (by omega) (by rw [cD_4, ek, s1, ob]) (by rw [mD_4, ek, s2, ob])
    · have f1 : F_Mod_fails 0 (nI 4) (w >>> ((5 : Int32) &&& 31)) U = some (1, U) := by
        rw [f_in hd hw.1 e19 hw.2.2.2.2.1, if_neg (by decide), if_pos (by decide), if_neg hn, ek, e13, if_neg (nI_nlt (by omega) (by omega))]
      exact opx_s t hw eO (by omega) (by decide) (by decide) (by decide) (by decide) n1 (rD_4 _ _) (oD_4 _) (pD_4 _) (uD_4 _) (kD_4 _) f1 (fun _ => Or.inr (Or.inr (Or.inr (by decide)))) (fun q _ => absurd (Or.inr (Or.inl (by omega))) q) (fun q _ => absurd (Or.inr (Or.inl (by omega))) q)
theorem op14_s {V0 U0 V U : gx_M} {B : Nat} {C : Nat × Nat} {d gt ht lg rf cd p z : Nat} {g h L R : Nat → Nat} {w : Int32} (t : tr V0 U0 B C d g h L R gt ht lg rf V U) (hw : wd V U d cd p z w) (eO : w &&& 31 = nI 14) : ∃ V1 U1, it (13 + 9 * d) (F_Mac_step 1 (13 + 9 * d) V) = some V1 ∧ F_Mod_step 0 U = some U1 ∧ nx V0 U0 B C (sg g d + gt + d + 1) V1 U1 := by
  have hd := t.1.1
  have e19 := t.1.2.2.1
  refine op_e t hw eO (by decide) (by decide) (by decide) (by decide) (by decide) (nD_14 _ _) (rD_14 _ _) (oD_14 _) (pD_14 _) (uD_14 _) (kD_14 _) (fD_14 _ hd hw.1 e19 hw.2.2.2.2.1) ?_ ?_
  · intro hh; constructor
    · intro q; rcases q with q | q | ⟨q, q2⟩ <;> first | omega | exact absurd rfl q2
    · intro q; rcases q with q | q | q <;> first | omega | (first | exact Or.inl (by omega) | exact Or.inr (Or.inl (by omega)) | exact Or.inr (Or.inr ⟨by omega, by decide⟩))
  · intro h1 h2 h3 V2 U2 a
    have h12 := a.2.2.2.2.2.2.2.2.2.2.2.1
    have y1 := a.2.2.2.2.2.2.2.2.2.2.2.2.2 (ht - 1) (by omega)
    have f19 := a.1.2.2.1
    obtain ⟨me, hme, s1, s2⟩ := a.2.1
    have a2 := pop_t (h' := ht - 1) a (by omega)
    have hac := a.1.2.2.2.1.2.2.2.1 me hme
    have pC := popC0 a.2 (show 0 < ht by omega)
    have pM := popM0 a (show 0 < ht by omega)
    rw [← y1] at pM
    generalize V2 (14 + 9 * d) (ht - 1) = y at *
    have o7 : gx_u V2 (13 + 9 * d) 8 (nI (ht - 1)) 7 = V2 7 := gx_uK (by omega)
    have o1 : gx_u U2 13 d (nI (ht - 1)) 1 = U2 1 := gx_uK (by decide)
    rcases pr_ix y 8 (by decide) with hy | ⟨k, hk, rfl⟩
    · refine pu_fin (x := 0) a2 (by omega) (by omega) ?_ ?_
      · rw [cD_14, F_Mac_step_368, F_Mac_resultOf, if_neg (by decide), if_neg (by decide), if_neg (by decide), if_pos (by decide), pC, ob, s1, F_Acc_slotOf, acc_yes hme, ob, if_neg z1, slt_no hy, ob, if_pos rfl, ob, ob, obs]
      · rw [mD_14, F_Mod_hold, f19, ib_t hd (by decide), if_pos (by decide), pM, ob, in8_no hy, ob, if_pos rfl, obs, obs]
    · have e1 : nI me * (8 : Int32) + nI k = nI (8 * me + k) := by rw [m8, nI_add, Nat.mul_comm]
      have e2 : (36 : Int32) * nI me + 27 + nI k = nI (36 * me + 27 + k) := by rw [m36, show (27 : Int32) = nI 27 from rfl, nI_add, nI_add]
      have ex := hac.2.2.2.2 k hk
      rw [Nat.zero_add] at ex
      refine pu_fin (x := V2 7 (8 * me + k)) a2 (by omega) (by omega) ?_ ?_
      · rw [cD_14, F_Mac_step_368, F_Mac_resultOf, if_neg (by decide), if_neg (by decide), if_neg (by decide), if_pos (by decide), pC, ob, s1, F_Acc_slotOf, acc_yes hme, ob, if_neg z1, slt_yes hk, ob, if_neg z1, e1, ib_t (by omega) (by decide), nI_clamp (by omega), show (1 + 1 + 5 : Nat) = 7 from rfl]
        dsimp only
        rw [o7, ob, ob, obs]
      · rw [mD_14, F_Mod_hold, f19, ib_t hd (by decide), if_pos (by decide), pM, ob, in8_yes hk, ob, if_neg z1, nI_clamp (by omega), Nat.zero_add, s2]
        dsimp only
        rw [e2, ib_t (by omega) (by decide), nI_clamp (by omega), Nat.zero_add, o1, obs, obs, ex]
theorem op16_s {V0 U0 V U : gx_M} {B : Nat} {C : Nat × Nat} {d gt ht lg rf cd p z : Nat} {g h L R : Nat → Nat} {w : Int32} (t : tr V0 U0 B C d g h L R gt ht lg rf V U) (hw : wd V U d cd p z w) (eO : w &&& 31 = nI 16) : ∃ V1 U1, it (13 + 9 * d) (F_Mac_step 1 (13 + 9 * d) V) = some V1 ∧ F_Mod_step 0 U = some U1 ∧ nx V0 U0 B C (sg g d + gt + d + 1) V1 U1 := by
  have hd := t.1.1
  have e19 := t.1.2.2.1
  refine op_e t hw eO (by decide) (by decide) (by decide) (by decide) (by decide) (nD_16 _ _) (rD_16 _ _) (oD_16 _) (pD_16 _) (uD_16 _) (kD_16 _) (fD_16 _ hd hw.1 e19 hw.2.2.2.2.1) ?_ ?_
  · intro hh; constructor
    · intro q; rcases q with q | q | ⟨q, q2⟩ <;> first | omega | exact absurd rfl q2
    · intro q; rcases q with q | q | q <;> first | omega | (first | exact Or.inl (by omega) | exact Or.inr (Or.inl (by omega)) | exact Or.inr (Or.inr ⟨by omega, by decide⟩))
  · intro h1 h2 h3 V2 U2 a
    have h12 := a.2.2.2.2.2.2.2.2.2.2.2.1
    have y1 := a.2.2.2.2.2.2.2.2.2.2.2.2.2 (ht - 1) (by omega)
    have f19 := a.1.2.2.1
    have a2 := pop_t (h' := ht - 1) a (by omega)
    have pC := popC0 a.2 (show 0 < ht by omega)
    have pM := popM0 a (show 0 < ht by omega)
    rw [← y1] at pM
    generalize V2 (14 + 9 * d) (ht - 1) = y at *
    have o7 : gx_u V2 (13 + 9 * d) 8 (nI (ht - 1)) 3 = V2 3 := gx_uK (by omega)
    have o1 : gx_u U2 13 d (nI (ht - 1)) 1 = U2 1 := gx_uK (by decide)
    rcases pr_ix y 16 (by decide) with hy | ⟨k, hk, rfl⟩
    · refine pu_fin (x := 0) a2 (by omega) (by omega) ?_ ?_
      · rw [cD_16, F_Mac_step_368, F_Mac_resultOf, if_neg (by decide), if_neg (by decide), if_neg (by decide), if_neg (by decide), if_pos (by decide), pC, ob, F_Acc_balanceOf, acc_no hy, ob, if_pos rfl, ob, ob, obs]
      · rw [mD_16, F_Mod_hold, f19, ib_t hd (by decide), if_neg (by decide), if_neg (by decide), if_pos (by decide), pM, ob, in16_no hy, ob, if_pos rfl, obs, obs]
    · have ex := (a.1.2.2.2.1.2.2.2.1 k hk).1
      rw [Nat.zero_add] at ex
      refine pu_fin (x := V2 3 k) a2 (by omega) (by omega) ?_ ?_
      · rw [cD_16, F_Mac_step_368, F_Mac_resultOf, if_neg (by decide), if_neg (by decide), if_neg (by decide), if_neg (by decide), if_pos (by decide), pC, ob, F_Acc_balanceOf, acc_yes hk, ob, if_neg z1, ib_t hk (by decide), nI_clamp (by omega), show (1 + 1 + 1 : Nat) = 3 from rfl]
        dsimp only
        rw [o7, ob, ob, obs]
      · rw [mD_16, F_Mod_hold, f19, ib_t hd (by decide), if_neg (by decide), if_neg (by decide), if_pos (by decide), pM, ob, in16_yes hk, ob, if_neg z1, m36, ib_t (by omega) (by decide), nI_clamp (by omega), Nat.zero_add]
        dsimp only
        rw [o1, obs, obs, ex]
theorem op26_s {V0 U0 V U : gx_M} {B : Nat} {C : Nat × Nat} {d gt ht lg rf cd p z : Nat} {g h L R : Nat → Nat} {w : Int32} (t : tr V0 U0 B C d g h L R gt ht lg rf V U) (hw : wd V U d cd p z w) (eO : w &&& 31 = nI 26) : ∃ V1 U1, it (13 + 9 * d) (F_Mac_step 1 (13 + 9 * d) V) = some V1 ∧ F_Mod_step 0 U = some U1 ∧ nx V0 U0 B C (sg g d + gt + d + 1) V1 U1 := by
  have hd := t.1.1
  have e19 := t.1.2.2.1
  refine op_e t hw eO (by decide) (by decide) (by decide) (by decide) (by decide) (nD_26 _ _) (rD_26 _ _) (oD_26 _) (pD_26 _) (uD_26 _) (kD_26 _) (fD_26 _ hd hw.1 e19 hw.2.2.2.2.1) ?_ ?_
  · intro hh; constructor
    · intro q; rcases q with q | q | ⟨q, q2⟩ <;> first | omega | exact absurd rfl q2
    · intro q; rcases q with q | q | q <;> first | omega | exact Or.inr (Or.inl (by omega))
  · intro h1 h2 h3 V2 U2 a
    have h12 := a.2.2.2.2.2.2.2.2.2.2.2.1
    have y1 := a.2.2.2.2.2.2.2.2.2.2.2.2.2 (ht - 1) (by omega)
    have f19 := a.1.2.2.1
    have e12 := a.2.2.2.2.2.2.2.2.1
    have e6 := a.2.2.2.2.2.2.2.1
    have o0 : gx_u U2 13 d (nI (ht - 1)) 0 19 = nI d := by rw [gx_uK (by decide)]; exact f19
    have o12 : gx_u U2 13 d (nI (ht - 1)) 12 d = nI gt := by rw [gx_uK (by decide)]; exact e12
    rw [cD_26, mD_26, popC0 a.2 (by omega), ob, obs, F_Mod_act, f19, ib_t hd (by decide), if_neg (by decide), if_neg (by decide), if_neg (by decide), if_neg (by decide), if_pos (by decide), F_Mod_act_107, popM0 a (by omega), ob, if_pos (by decide)]
    simp only [o0, ib_t hd (show 8 < 2 ^ 31 by decide), nI_clamp (show d < 2 ^ 31 by omega), Nat.zero_add, o12, obs, ← y1]
    exact end_s a.1 (kc_c (by decide)) ku_13 (Nat.le_refl _) (by rw [gx_up (by decide)]; exact e6) (Or.inr rfl)
theorem op27_s {V0 U0 V U : gx_M} {B : Nat} {C : Nat × Nat} {d gt ht lg rf cd p z : Nat} {g h L R : Nat → Nat} {w : Int32} (t : tr V0 U0 B C d g h L R gt ht lg rf V U) (hw : wd V U d cd p z w) (eO : w &&& 31 = nI 27) : ∃ V1 U1, it (13 + 9 * d) (F_Mac_step 1 (13 + 9 * d) V) = some V1 ∧ F_Mod_step 0 U = some U1 ∧ nx V0 U0 B C (sg g d + gt + d + 1) V1 U1 := by
  have hd := t.1.1
  have e19 := t.1.2.2.1
  refine op_e t hw eO (by decide) (by decide) (by decide) (by decide) (by decide) (nD_27 _ _) (rD_27 _ _) (oD_27 _) (pD_27 _) (uD_27 _) (kD_27 _) (fD_27 _ hd hw.1 e19 hw.2.2.2.2.1) ?_ ?_
  · intro hh; constructor
    · intro q; rcases q with q | q | ⟨q, q2⟩ <;> first | omega | exact absurd rfl q2
    · intro q; rcases q with q | q | q <;> first | omega | exact Or.inr (Or.inl (by omega))
  · intro h1 h2 h3 V2 U2 a
    have h12 := a.2.2.2.2.2.2.2.2.2.2.2.1
    have y1 := a.2.2.2.2.2.2.2.2.2.2.2.2.2 (ht - 1) (by omega)
    have f19 := a.1.2.2.1
    have e12 := a.2.2.2.2.2.2.2.2.1
    have e6 := a.2.2.2.2.2.2.2.1
    have o0 : gx_u U2 13 d (nI (ht - 1)) 0 19 = nI d := by rw [gx_uK (by decide)]; exact f19
    have o12 : gx_u U2 13 d (nI (ht - 1)) 12 d = nI gt := by rw [gx_uK (by decide)]; exact e12
    rw [cD_27, mD_27, popC0 a.2 (by omega), ob, obs, F_Mod_act, f19, ib_t hd (by decide), if_neg (by decide), if_neg (by decide), if_neg (by decide), if_neg (by decide), if_neg (by decide), if_pos (by decide), F_Mod_act_107, popM0 a (by omega), ob, if_neg (by decide)]
    simp only [o0, ib_t hd (show 8 < 2 ^ 31 by decide), nI_clamp (show d < 2 ^ 31 by omega), Nat.zero_add, o12, obs, ← y1]
    exact end_s a.1 (kc_c (by decide)) ku_13 (Nat.le_refl _) (by rw [gx_up (by decide)]; exact e6) (Or.inl rfl)
