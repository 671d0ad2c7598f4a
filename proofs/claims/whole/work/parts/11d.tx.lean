theorem op15_s {V0 U0 V U : gx_M} {B : Nat} {C : Nat × Nat} {d gt ht lg rf cd p z : Nat} {g h L R : Nat → Nat} {w : Int32} (t : tr V0 U0 B C d g h L R gt ht lg rf V U) (hw : wd V U d cd p z w) (eO : w &&& 31 = nI 15) : ∃ V1 U1, it (13 + 9 * d) (F_Mac_step 1 (13 + 9 * d) V) = some V1 ∧ F_Mod_step 0 U = some U1 ∧ nx V0 U0 B C (sg g d + gt + d + 1) V1 U1 := by
  have hd := t.1.1
  have e19 := t.1.2.2.1
  have h12 := t.2.2.2.2.2.2.2.2.2.2.2.1
  have hp : p < 24 := by have := hw.2.1; have := hw.2.2.1; omega
  obtain ⟨y, yM, yC, yV⟩ := pek0 t 0 (by decide)
  obtain ⟨v, vM, vC, vV⟩ := pek0 t 1 (by decide)
  have yV : 0 < ht → y = V (14 + 9 * d) (ht - 1) := yV
  have yM : F_Mod_peek 0 (0 : Int32) U = some (y, U) := yM
  have vM : F_Mod_peek 0 (1 : Int32) U = some (v, U) := vM
  have yC : F_Frm_below (13 + 9 * d) (0 : Int32) V = some (y, V) := yC
  have vC : F_Frm_below (13 + 9 * d) (1 : Int32) V = some (v, V) := vC
  obtain ⟨me, hme, s1, s2⟩ := t.2.1
  have eq1 : ∀ x, gx_u (gx_u V (13 + 9 * d) 6 x) (13 + 9 * d) 2 (nI (p + 1)) (14 + 9 * d) = V (14 + 9 * d) := fun x => by rw [gx_uK (by omega), gx_uK (by omega)]
  have f0 : ∀ r, F_Mod_in y 8 U = some (r, U) → (r = 0 ∨ r = 1) → F_Mod_fails 0 (nI 15) (w >>> ((5 : Int32) &&& 31)) U = some (1 - r, U) := by
    intro r hr hr2
    rw [f_in hd hw.1 e19 hw.2.2.2.2.1, if_neg (by decide), if_neg (by decide), if_neg (by decide), if_neg (by decide), F_Mod_fails_115, if_pos (by decide), yM, ob, hr, ob]
    rcases hr2 with rfl | rfl
    · rw [if_pos rfl]; rfl
    · rw [if_neg z1]; rfl
  have p72 : ∀ (X : gx_M), F_Mac_priceOf_72 (cx_prices (nI 15).toNatClampNeg) 1 X = some (nI 40, X) := fun X => by rw [F_Mac_priceOf_72, if_neg z1]; rfl
  have p71 : ∀ (X : gx_M), F_Mac_priceOf_71 (cx_prices (nI 15).toNatClampNeg) X = some (nI 10, X) := fun X => by rw [F_Mac_priceOf_71, F_Mac_priceOf_72, if_pos rfl, nI_clamp (by decide)]; rfl
  rcases pr_ix y 8 (by decide) with hy | ⟨k, hk, ek⟩
  · have q2 : F_Mac_priceOf 1 (13 + 9 * d) (nI 15) V = some (nI (if v = 0 then 10 else 40), V) := by
      rw [F_Mac_priceOf, ib_t (by decide) (by decide), if_pos (by decide), yC, ob, F_Acc_slotOf, s1, acc_yes hme, ob, if_neg z1, slt_no hy, ob, if_pos rfl, ob, if_pos rfl, vC, ob]
      by_cases hv : v = 0
      · rw [if_pos hv, if_pos hv, p71]
      · rw [if_neg hv, if_neg hv, p72]
    have m3 : F_Mod_cost 0 (nI 15) U = some (nI 10, U) := by
      rw [F_Mod_cost, if_neg (by decide), if_neg (by decide), if_neg (by decide), if_pos (by decide), yM, ob, in8_no hy, ob, if_pos rfl]; rfl
    refine opx_s t hw eO (by decide) (by split <;> decide) (by decide) (by decide) (by decide) (nD_15 _ _) q2 (oD_15 _) (pD_15 _) (uD_15 _) m3 (f0 0 (in8_no hy) (Or.inl rfl)) (fun _ => Or.inr (Or.inr (Or.inr (by decide)))) (fun q _ => ?_) (fun q q' => absurd (Or.inr (Or.inr (Or.inr (by decide)))) q')
    have h2 : 2 ≤ ht := Nat.le_of_not_lt fun e => q (Or.inr (Or.inl e))
    generalize (if v = 0 then 10 else 40) = pr at *
    have a := adv (pr := pr) t hp
    refine ⟨gx_u (gx_u (gx_u V (13 + 9 * d) 6 (nI (gt - pr))) (13 + 9 * d) 2 (nI (p + 1))) (13 + 9 * d) 8 (nI (ht - 1 - 1)), kc_t (kc_c (by decide)) (kc_t (kc_c (by decide)) (kc_c (by decide))), ?_⟩
    rw [cD_15, F_Mac_store, popC0 a.2 (by omega), ob, popC1 (by omega) (by omega), ob, eq1, ← yV (by omega), slt_no hy, ob, if_pos rfl, obs, obs]
  · subst ek
    have hx : V 7 (8 * me + k) = U 1 (36 * me + 27 + k) := by have := (t.1.2.2.2.1.2.2.2.1 me hme).2.2.2.2 k hk; rw [Nat.zero_add] at this; exact this
    have i1 : nI me * (8 : Int32) + nI k = nI (8 * me + k) := by rw [m8, nI_add, Nat.mul_comm]
    have i2 : (36 : Int32) * nI me + 27 + nI k = nI (36 * me + 27 + k) := by rw [m36, show (27 : Int32) = nI 27 from rfl, nI_add, nI_add]
    have q2 : F_Mac_priceOf 1 (13 + 9 * d) (nI 15) V = some (nI (if V 7 (8 * me + k) = 0 then (if v = 0 then 10 else 40) else 10), V) := by
      rw [F_Mac_priceOf, ib_t (by decide) (by decide), if_pos (by decide), yC, ob, F_Acc_slotOf, s1, acc_yes hme, ob, if_neg z1, slt_yes hk, ob, if_neg z1, i1, ib_t (by omega) (by decide), nI_clamp (show 8 * me + k < 2 ^ 31 by omega), show (1 + 1 + 5 : Nat) = 7 from rfl, ob]
      dsimp only
      by_cases hs : V 7 (8 * me + k) = 0
      · rw [if_pos hs, if_pos hs, vC, ob]
        by_cases hv : v = 0
        · rw [if_pos hv, if_pos hv, p71]
        · rw [if_neg hv, if_neg hv, p72]
      · rw [if_neg hs, if_neg hs, p71]
    have m3 : F_Mod_cost 0 (nI 15) U = some (nI (if V 7 (8 * me + k) = 0 then (if v = 0 then 10 else 40) else 10), U) := by
      rw [F_Mod_cost, if_neg (by decide), if_neg (by decide), if_neg (by decide), if_pos (by decide), yM, ob, in8_yes hk, ob, if_neg z1]
      simp only [e19, ib_t hd (show 8 < 2 ^ 31 by decide), nI_clamp (show d < 2 ^ 31 by omega), Nat.zero_add, s2, i2, ib_t (show 36 * me + 27 + k < 576 by omega) (show 576 < 2 ^ 31 by decide), nI_clamp (show 36 * me + 27 + k < 2 ^ 31 by omega), ← hx, vM, ob]
      by_cases hs : V 7 (8 * me + k) = 0
      · rw [if_pos hs, if_pos hs]
        by_cases hv : v = 0
        · rw [if_pos hv, if_pos hv]; rfl
        · rw [if_neg hv, if_neg hv]; rfl
      · rw [if_neg hs, if_neg hs]; rfl
    generalize hpr : (if V 7 (8 * me + k) = 0 then (if v = 0 then 10 else 40) else 10) = pr at *
    have hpr10 : 10 ≤ pr ∧ pr ≤ 40 := by rw [← hpr]; split <;> (try split) <;> omega
    refine opx_s t hw eO (by decide) (by omega) (by omega) (by decide) (by decide) (nD_15 _ _) q2 (oD_15 _) (pD_15 _) (uD_15 _) m3 (f0 1 (in8_yes hk) (Or.inr rfl)) (fun q => ?_) (fun q q' => ?_) (fun q q' => ?_)
    · rcases q with q | q | ⟨_, q⟩
      · exact Or.inr (Or.inr (Or.inl q))
      · exact Or.inl q
      · exact absurd rfl q
    · exfalso; rcases q' with q' | q' | q' | q'
      · exact q (Or.inr (Or.inl q'))
      · omega
      · exact q (Or.inl q')
      · exact q' (by decide)
    have h2 : 2 ≤ ht := Nat.le_of_not_lt fun e => q (Or.inr (Or.inl e))
    have hg : pr ≤ gt := Nat.le_of_not_lt fun k => q (Or.inl k)
    have a := adv (pr := pr) t hp
    have a2 := pop_t (h' := ht - 1 - 1) a (by omega)
    have bb := t.1.2.2.2.2.2.2.2.1
    have c1 := a.2.2.2.2.2.2.2.2.2.2.2.2.2 (ht - 1) (by omega)
    have c2 := a.2.2.2.2.2.2.2.2.2.2.2.2.2 (ht - 1 - 1) (by omega)
    rw [eq1, ← yV (by omega)] at c1
    rw [eq1, ← vV (by omega)] at c2
    have f19 := a.1.2.2.1
    have me1 : gx_u (gx_u V (13 + 9 * d) 6 (nI (gt - pr))) (13 + 9 * d) 2 (nI (p + 1)) (13 + 9 * d) 0 = nI me := by rw [gx_up (by decide), gx_up (by decide)]; exact s1
    have me2 : gx_u (gx_u U 12 d (nI (gt - pr))) 8 d (nI (p + 1)) 6 d = nI me := by rw [gx_uK (by decide), gx_uK (by decide)]; exact s2
    have sv : gx_u (gx_u V (13 + 9 * d) 6 (nI (gt - pr))) (13 + 9 * d) 2 (nI (p + 1)) 7 = V 7 := by rw [gx_uK (by omega), gx_uK (by omega)]
    have su : gx_u (gx_u U 12 d (nI (gt - pr))) 8 d (nI (p + 1)) 1 = U 1 := by rw [gx_uK (by decide), gx_uK (by decide)]
    have pC := popC0 a.2 (show 0 < ht by omega)
    have pC2 := popC1 (V := gx_u (gx_u V (13 + 9 * d) 6 (nI (gt - pr))) (13 + 9 * d) 2 (nI (p + 1))) (d := d) (show 0 < ht - 1 by omega) (by omega)
    have pM := popM0 a (show 0 < ht by omega)
    have pM2 := popM1 (h := ht - 1) hd (show 0 < ht - 1 by omega) (by omega) f19
    rw [eq1, ← yV (by omega)] at pC
    rw [eq1, ← vV (by omega)] at pC2
    rw [← c1] at pM
    rw [← c2] at pM2
    generalize hVA : gx_u (gx_u V (13 + 9 * d) 6 (nI (gt - pr))) (13 + 9 * d) 2 (nI (p + 1)) = VA at *
    generalize hUA : gx_u (gx_u U 12 d (nI (gt - pr))) 8 d (nI (p + 1)) = UA at *
    have sv2 : gx_u VA (13 + 9 * d) 8 (nI (ht - 1 - 1)) 7 = V 7 := by rw [gx_uK (by omega)]; exact sv
    have su2 : gx_u UA 13 d (nI (ht - 1 - 1)) 1 = U 1 := by rw [gx_uK (by decide)]; exact su
    have me3 : gx_u VA (13 + 9 * d) 8 (nI (ht - 1 - 1)) (13 + 9 * d) 0 = nI me := by rw [gx_up (by decide)]; exact me1
    generalize hVB : gx_u VA (13 + 9 * d) 8 (nI (ht - 1 - 1)) = VB at *
    generalize hUB : gx_u UA 13 d (nI (ht - 1 - 1)) = UB at *
    obtain ⟨b1, b2, b3, b4, b5, b6, b7, b8, b9⟩ := id a2.1.2.2.2.1
    have W : ∀ (V' : gx_M) (r' : Nat), (∀ k, k ≠ 1 → k ≠ 7 → V' k = VB k) → V' 1 3 = VB 1 3 → V' 1 5 = VB 1 5 → V' 1 4 = nI r' → V' 7 = upd (VB 7) (8 * me + k) v → r' ≤ rf + 15 → tr V0 U0 B C d g h L R (gt - pr) (ht - 1 - 1) lg r' V' (gx_u (gx_u UB 0 2 (nI r')) 1 (36 * me + 27 + k) v) := by
      intro V' r' v1 v2 v3 v4 v5 hr'
      refine tr_w a2 (fun k hk => v1 k (by omega) (by omega)) (v1 0 (by decide) (by decide)) v2 (fun k hk => by rw [gx_uK (by omega), gx_uK (by omega)]) (by rw [gx_uK (by decide), gx_uK (by decide)]) (by rw [gx_uK (by decide), gx_uK (by decide)]) (fun q h1 h2 => by rw [gx_uK (by decide), gx_up h1]) ?_ (fun k hk => by rw [gx_uK (by decide), gx_uK (by decide)]) (Nat.le_refl _) ?_
      · have e1 : gx_u (gx_u UB 0 2 (nI r')) 1 (36 * me + 27 + k) v 1 = upd (UB 1) (36 * me + 27 + k) v := by rw [gx_ua, if_pos rfl, gx_uK (by decide)]
        unfold tw
        rw [e1, v5, v3, v4, v1 3 (by decide) (by decide), v1 4 (by decide) (by decide), v1 5 (by decide) (by decide), v1 6 (by decide) (by decide), v1 9 (by decide) (by decide), v1 10 (by decide) (by decide), v1 11 (by decide) (by decide), gx_uK (show 0 ≠ 1 by decide), gx_uK (show 4 ≠ 1 by decide), gx_uK (show 5 ≠ 1 by decide), gx_us, gx_up (by decide), gx_uK (show 4 ≠ 0 by decide), gx_uK (show 5 ≠ 0 by decide)]
        refine ⟨rfl, rfl, fun c hc => ?_, ?_, b5, b6, b7, b8, b9⟩
        · rw [pk_un (by omega)]; exact b3 c hc
        · have := pr_acc_t (x := v) b4 hme hk
          rw [Nat.mul_comm me 8] at this
          exact this
      · obtain ⟨x1, x2, x3⟩ := bb
        exact ⟨by omega, by omega, fun j hj => by have := x3 j hj; omega⟩
    have hr : UB 0 2 = nI rf := b2
    have cC : cb 1 (13 + 9 * d) (nI 15) (w >>> ((5 : Int32) &&& 31)) VA = if V 7 (8 * me + k) = 0 then some (gx_u VB 7 (8 * me + k) v) else (if v = 0 then some (gx_u (gx_u VB 1 4 (nI (rf + 15))) 7 (8 * me + k) v) else some (gx_u VB 7 (8 * me + k) v)) := by
      rw [cD_15, F_Mac_store, pC, ob, pC2, ob, slt_yes hk, ob, if_neg z1]
      simp only [me3, i1, ib_t (show 8 * me + k < 128 by omega) (show 128 < 2 ^ 31 by decide), nI_clamp (show 8 * me + k < 2 ^ 31 by omega), Nat.reduceAdd, sv2, gl, obs, b1, show nI rf + (15 : Int32) = nI (rf + 15) from nI_add rf 15]
    have e0 : nI rf + (0 : Int32) = nI rf := by rw [show (0 : Int32) = nI 0 from rfl, nI_add, Nat.add_zero]
    have mC : mb 0 (nI 15) (w >>> ((5 : Int32) &&& 31)) UA = if V 7 (8 * me + k) = 0 then some (gx_u (gx_u UB 0 2 (nI rf)) 1 (36 * me + 27 + k) v) else (if v = 0 then some (gx_u (gx_u UB 0 2 (nI (rf + 15))) 1 (36 * me + 27 + k) v) else some (gx_u (gx_u UB 0 2 (nI rf)) 1 (36 * me + 27 + k) v)) := by
      rw [mD_15, F_Mod_hold, f19, ib_t hd (by decide), if_neg (by decide), if_pos (by decide), pM, ob]
      simp only [pM2, ob, nI_clamp (show d < 2 ^ 31 by omega), Nat.zero_add, me2, i2, ib_t (show 36 * me + 27 + k < 576 by omega) (show 576 < 2 ^ 31 by decide), nI_clamp (show 36 * me + 27 + k < 2 ^ 31 by omega), su2, ← hx, F_Mod_hold_108, F_Mod_hold_109, gl, hr, e0, show nI rf + (15 : Int32) = nI (rf + 15) from nI_add rf 15, obs]
    by_cases hs : V 7 (8 * me + k) = 0
    · exact fin (W (gx_u VB 7 (8 * me + k) v) rf (fun k h1 h2 => by rw [gx_uK h2]) rfl rfl (by rw [gx_uK (by decide)]; exact b1) (by rw [gx_ua, if_pos rfl]) (by omega)) (by omega) (by rw [cC, if_pos hs]) (by rw [mC, if_pos hs])
    · by_cases hv : v = 0
      · exact fin (W (gx_u (gx_u VB 1 4 (nI (rf + 15))) 7 (8 * me + k) v) (rf + 15) (fun k h1 h2 => by rw [gx_uK h2, gx_uK h1]) (by rw [gx_uK (by decide), gx_up (by decide)]) (by rw [gx_uK (by decide), gx_up (by decide)]) (by rw [gx_uK (by decide), gx_us]) (by rw [gx_ua, if_pos rfl, gx_uK (by decide)]) (by omega)) (by omega) (by rw [cC, if_neg hs, if_pos hv]) (by rw [mC, if_neg hs, if_pos hv])
      · exact fin (W (gx_u VB 7 (8 * me + k) v) rf (fun k h1 h2 => by rw [gx_uK h2]) rfl rfl (by rw [gx_uK (by decide)]; exact b1) (by rw [gx_ua, if_pos rfl]) (by omega)) (by omega) (by rw [cC, if_neg hs, if_neg hv]) (by rw [mC, if_neg hs, if_neg hv])
theorem op28_s {V0 U0 V U : gx_M} {B : Nat} {C : Nat × Nat} {d gt ht lg rf cd p z : Nat} {g h L R : Nat → Nat} {w : Int32} (t : tr V0 U0 B C d g h L R gt ht lg rf V U) (hw : wd V U d cd p z w) (eO : w &&& 31 = nI 28) (hB : B < 2 ^ 31) : ∃ V1 U1, it (13 + 9 * d) (F_Mac_step 1 (13 + 9 * d) V) = some V1 ∧ F_Mod_step 0 U = some U1 ∧ nx V0 U0 B C (sg g d + gt + d + 1) V1 U1 := by
  have hd := t.1.1
  have e19 := t.1.2.2.1
  have h12 := t.2.2.2.2.2.2.2.2.2.2.2.1
  have hp : p < 24 := by have := hw.2.1; have := hw.2.2.1; omega
  obtain ⟨y, yM, -, yV⟩ := pek0 t 0 (by decide)
  have yV : 0 < ht → y = V (14 + 9 * d) (ht - 1) := yV
  have yM : F_Mod_peek 0 (0 : Int32) U = some (y, U) := yM
  have eq1 : ∀ x, gx_u (gx_u V (13 + 9 * d) 6 x) (13 + 9 * d) 2 (nI (p + 1)) (14 + 9 * d) = V (14 + 9 * d) := fun x => by rw [gx_uK (by omega), gx_uK (by omega)]
  have f0 : ∀ r, F_Mod_in y 16 U = some (r, U) → (r = 0 ∨ r = 1) → F_Mod_fails 0 (nI 28) (w >>> ((5 : Int32) &&& 31)) U = some (1 - r, U) := by
    intro r hr hr2
    rw [f_in hd hw.1 e19 hw.2.2.2.2.1, if_neg (by decide), if_neg (by decide), if_neg (by decide), if_neg (by decide), F_Mod_fails_115, if_neg (by decide), if_neg (by decide), if_neg (by decide), if_pos (by decide), yM, ob, hr, ob]
    rcases hr2 with rfl | rfl
    · rw [if_pos rfl]; rfl
    · rw [if_neg z1, F_Mod_fails_240, if_pos (by decide)]; rfl
  have a := adv (pr := 20) t hp
  rcases pr_ix y 16 (by decide) with hy | ⟨b, hb, ek⟩
  · refine opx_s t hw eO (by decide) (by decide) (by decide) (by decide) (by decide) (nD_28 _ _) (rD_28 _ _) (oD_28 _) (pD_28 _) (uD_28 _) (kD_28 _) (f0 0 (in16_no hy) (Or.inl rfl)) (fun _ => Or.inr (Or.inr (Or.inr (by decide)))) (fun q _ => ?_) (fun q q' => absurd (Or.inr (Or.inr (Or.inr (by decide)))) q')
    have h1 : 0 < ht := Nat.pos_of_ne_zero fun e => q (Or.inr (Or.inl (by omega)))
    refine ⟨gx_u (gx_u (gx_u V (13 + 9 * d) 6 (nI (gt - 20))) (13 + 9 * d) 2 (nI (p + 1))) (13 + 9 * d) 8 (nI (ht - 1)), kc_t (kc_c (by decide)) (kc_t (kc_c (by decide)) (kc_c (by decide))), ?_⟩
    rw [cD_28, F_Mac_endSelf, popC0 a.2 h1, ob, eq1, ← yV h1, acc_no hy, ob, if_pos rfl, obs, obs]
  · subst ek
    refine opx_s t hw eO (by decide) (by decide) (by decide) (by decide) (by decide) (nD_28 _ _) (rD_28 _ _) (oD_28 _) (pD_28 _) (uD_28 _) (kD_28 _) (f0 1 (in16_yes hb) (Or.inr rfl)) (fun q => ?_) (fun q q' => ?_) (fun q q' => ?_)
    · rcases q with q | q | ⟨_, q⟩
      · exact Or.inr (Or.inr (Or.inl q))
      · exact Or.inl q
      · exact absurd rfl q
    · exfalso; rcases q' with q' | q' | q' | q'
      · exact q (Or.inr (Or.inl q'))
      · omega
      · exact q (Or.inl q')
      · exact q' (by decide)
    have h1 : 0 < ht := Nat.pos_of_ne_zero fun e => q (Or.inr (Or.inl (by omega)))
    have hg : 20 ≤ gt := Nat.le_of_not_lt fun k => q (Or.inl k)
    have c1 := a.2.2.2.2.2.2.2.2.2.2.2.2.2 (ht - 1) (by omega)
    rw [eq1, ← yV h1] at c1
    have f19 := a.1.2.2.1
    obtain ⟨me, hme, s1, s2⟩ := a.2.1
    have a2 := pop_t (h' := ht - 1) a (by omega)
    have pC := popC0 a.2 h1
    have pM := popM0 a h1
    rw [eq1, ← yV h1] at pC
    rw [← c1] at pM
    generalize hVA : gx_u (gx_u V (13 + 9 * d) 6 (nI (gt - 20))) (13 + 9 * d) 2 (nI (p + 1)) = VA at *
    generalize hUA : gx_u (gx_u U 12 d (nI (gt - 20))) 8 d (nI (p + 1)) = UA at *
    have me3 : gx_u VA (13 + 9 * d) 8 (nI (ht - 1)) (13 + 9 * d) 0 = nI me := by rw [gx_up (by decide)]; exact s1
    generalize hVB : gx_u VA (13 + 9 * d) 8 (nI (ht - 1)) = VB at *
    generalize hUB : gx_u UA 13 d (nI (ht - 1)) = UB at *
    have tw0 := a2.1.2.2.2.1
    obtain ⟨f, f1, f2⟩ := tw0.2.2.2.2.1
    have fa := sg_ge (f := f) (d := me) 16 hme
    have hnn : ¬ VB 3 me < 0 := by rw [f1 me hme]; exact nI_pos (by omega)
    obtain ⟨VC, UC, g1, g2, g3, g4, g5⟩ := give_s tw0 hB hme hb hnn (Int32.le_refl _)
    have xb : VB 3 me = UB 1 (36 * me) := by have := (tw0.2.2.2.1 me hme).1; rw [Nat.zero_add] at this; exact this
    have me4 : VC (13 + 9 * d) 0 = nI me := by rw [g4 _ (by omega)]; exact me3
    have i35 : (36 : Int32) * nI me + 35 = nI (36 * me + 35) := by rw [m36, show (35 : Int32) = nI 35 from rfl, nI_add]
    have tD : tc V0 U0 B C d g h L R (gt - 20) lg rf (gx_u VC 1 5 (VC 1 5 ||| ((1 : Int32) <<< (nI me &&& 31)))) (gx_u UC 1 (36 * me + 35) 1) := by
      refine tc_w a2.1 (fun k hk => by rw [gx_uK (by omega), g4 k (by omega)]) (by rw [gx_uK (by decide), g4 0 (by decide)]) (by rw [gx_up (by decide), g4 1 (by decide)]) (fun k hk => by rw [gx_uK (by omega), g5 k (by omega)]) (by rw [gx_uK (by decide), g5 2 (by decide)]) (by rw [gx_uK (by decide), g5 3 (by decide)]) (fun q h1 h2 => by rw [gx_uK (by decide), g5 0 (by decide)]) ?_ (fun k hk => by rw [gx_uK (by decide), g5 5 (by decide)]) (Nat.le_refl _) a2.1.2.2.2.2.2.2.2.1
      obtain ⟨b1, b2, b3, b4, b5, b6, b7, b8, b9⟩ := g3
      unfold tw
      rw [gx_up (by decide), gx_us, gx_ua UC 1 (36 * me + 35) 1, if_pos rfl, gx_uK (show 3 ≠ 1 by decide), gx_uK (show 4 ≠ 1 by decide), gx_uK (show 5 ≠ 1 by decide), gx_uK (show 6 ≠ 1 by decide), gx_uK (show 7 ≠ 1 by decide), gx_uK (show 9 ≠ 1 by decide), gx_uK (show 10 ≠ 1 by decide), gx_uK (show 11 ≠ 1 by decide), gx_uK (show 0 ≠ 1 by decide), gx_uK (show 4 ≠ 1 by decide), gx_uK (show 5 ≠ 1 by decide)]
      refine ⟨b1, b2, fun c hc => ?_, ?_, b5, b6, b7, b8, b9⟩
      · rw [tb_or hme]
        by_cases e : c = me
        · subst e
          rw [show 0 + 36 * c + 35 = 36 * c + 35 by omega, pk_us, decide_eq_true rfl, Bool.or_true, if_pos rfl]
        · rw [pk_un (by omega), decide_eq_false (fun q => e q.symm), Bool.or_false]
          exact b3 c hc
      · intro c hc
        obtain ⟨h1, h2, h3, ⟨y, hy, h4, h5⟩, h6⟩ := b4 c hc
        exact ⟨by rw [pk_un (by omega)]; exact h1, by rw [pk_un (by omega)]; exact h2, by rw [pk_un (by omega)]; exact h3, ⟨y, hy, h4, fun j hj => by rw [pk_un (by omega)]; exact h5 j hj⟩, fun j hj => by rw [pk_un (by omega)]; exact h6 j hj⟩
    have e6 : gx_u VC 1 5 (VC 1 5 ||| ((1 : Int32) <<< (nI me &&& 31))) (13 + 9 * d) 6 = nI (gt - 20) := by rw [gx_uK (by omega), g4 _ (by omega)]; exact a2.2.2.2.2.2.2.2.1
    have e12 : gx_u UC 1 (36 * me + 35) 1 12 d = nI (gt - 20) := by rw [gx_uK (by decide), g5 12 (by decide)]; exact a2.2.2.2.2.2.2.2.2.1
    have e19' : gx_u UC 1 (36 * me + 35) 1 0 19 = nI d := by rw [gx_uK (by decide), g5 0 (by decide)]; exact a2.1.2.2.1
    obtain ⟨V1, U1, n1, n2, n3⟩ := end_s (s := 1) (x := 0) tD (kc_r _ _) (ku_r _ _) (Nat.le_refl _) e6 (Or.inr rfl)
    refine ⟨V1, U1, ?_, ?_, ?_⟩
    · rw [← n1, cD_28, F_Mac_endSelf, pC, ob, acc_yes hb, ob, if_neg z1]
      simp only [me3, ib_t hme (show 16 < 2 ^ 31 by decide), nI_clamp (show me < 2 ^ 31 by omega), Nat.reduceAdd, g1, ob, gl, me4, obs]
    · rw [← n2, mD_28, F_Mod_act, f19, ib_t hd (by decide), if_neg (by decide), if_neg (by decide), if_neg (by decide), if_neg (by decide), if_neg (by decide), if_neg (by decide), pM, ob]
      simp only [nI_clamp (show d < 2 ^ 31 by omega), Nat.zero_add, s2, m36, ib_t (show 36 * me < 576 by omega) (show 576 < 2 ^ 31 by decide), nI_clamp (show 36 * me < 2 ^ 31 by omega), ← xb, g2, ob, show nI (36 * me) + (35 : Int32) = nI (36 * me + 35) from nI_add _ 35, ib_t (show 36 * me + 35 < 576 by omega) (show 576 < 2 ^ 31 by decide), nI_clamp (show 36 * me + 35 < 2 ^ 31 by omega), gl, e19', ib_t hd (show 8 < 2 ^ 31 by decide), e12, obs]
    · rcases n3 with ⟨d', g', h', L', R', gt', ht', lg', rf', n3, n4⟩ | n3
      · exact Or.inl ⟨d', g', h', L', R', gt', ht', lg', rf', n3, by omega⟩
      · exact Or.inr n3
