/-- the price of a new code -/
theorem pr24 (n : Int32) : ∃ m : Nat, m ≤ 24 ∧ (60 : Int32) + (2 : Int32) * (if (0 : Int32) < (if (24 : Int32) < n then (24 : Int32) else n) then (if (24 : Int32) < n then (24 : Int32) else n) else (0 : Int32)) = nI (60 + 2 * m) ∧ ∀ U : gx_M, (if (1 : Int32) ≤ n then (if n ≤ (24 : Int32) then some (((60 : Int32) + ((2 : Int32) * n)), U) else some (((60 : Int32) + ((2 : Int32) * (24 : Int32))), U)) else some (((60 : Int32) + ((2 : Int32) * (0 : Int32))), U)) = some (nI (60 + 2 * m), U) := by
  have hc : ∀ j : Nat, (60 : Int32) + (2 : Int32) * nI j = nI (60 + 2 * j) := fun j => by rw [show (2 : Int32) = nI 2 from rfl, pk_mul, show (60 : Int32) = nI 60 from rfl, nI_add]
  rcases pr_ix n 25 (by decide) with (h | h) | ⟨j, hj, rfl⟩
  · have q1 : ¬ (24 : Int32) < n := by
      rw [Int32.lt_iff_toInt_lt] at h ⊢
      have : (0 : Int32).toInt = 0 := by decide
      have : (24 : Int32).toInt = 24 := by decide
      omega
    have q2 : ¬ (0 : Int32) < n := by rw [Int32.lt_iff_toInt_lt] at h ⊢; omega
    have q3 : ¬ (1 : Int32) ≤ n := Int32.not_le.mpr (lt1.mpr (Or.inl h))
    exact ⟨0, by omega, by rw [if_neg q1, if_neg q2]; exact hc 0, fun U => by rw [if_neg q3]; exact congrArg (fun x => some (x, U)) (hc 0)⟩
  · have h' : (25 : Int32) ≤ n := h
    rw [Int32.le_iff_toInt_le] at h'
    have e25 : (25 : Int32).toInt = 25 := by decide
    have e24 : (24 : Int32).toInt = 24 := by decide
    have e1 : (1 : Int32).toInt = 1 := by decide
    have q1 : (24 : Int32) < n := by rw [Int32.lt_iff_toInt_lt]; omega
    have q3 : (1 : Int32) ≤ n := by rw [Int32.le_iff_toInt_le]; omega
    have q4 : ¬ n ≤ (24 : Int32) := by rw [Int32.le_iff_toInt_le]; omega
    exact ⟨24, by omega, by rw [if_pos q1, if_pos (by decide)]; exact hc 24, fun U => by rw [if_pos q3, if_neg q4]; exact congrArg (fun x => some (x, U)) (hc 24)⟩
  · have q1 : ¬ (24 : Int32) < nI j := nI_nlt (a := 24) (by omega) (by decide)
    by_cases h0 : j = 0
    · subst h0
      exact ⟨0, by omega, by rw [if_neg q1, if_neg (by decide)]; exact hc 0, fun U => by rw [if_neg (by decide)]; exact congrArg (fun x => some (x, U)) (hc 0)⟩
    · have q2 : (0 : Int32) < nI j := nI_lt (a := 0) (by omega) (by omega)
      have q3 : (1 : Int32) ≤ nI j := nI_le (a := 1) (by omega) (by omega)
      have q4 : nI j ≤ (24 : Int32) := nI_le (b := 24) (by omega) (by decide)
      exact ⟨j, by omega, by rw [if_neg q1, if_pos q2]; exact hc j, fun U => by rw [if_pos q3, if_pos q4]; exact congrArg (fun x => some (x, U)) (hc j)⟩
/-- both sides' checks of a new code -/
theorem ck24 {v p n : Int32} {z : Nat} (hz : z ≤ 24) : (∃ pp nn : Nat, ¬ v < 0 ∧ p = nI pp ∧ n = nI nn ∧ 1 ≤ nn ∧ pp + nn ≤ z) ∨ ((v < 0 ∨ n < 1 ∨ p < 0 ∨ nI z < n ∨ ¬ p ≤ nI z - n) ∧ (v < 0 ∨ n < 1 ∨ (24 : Int32) < n ∨ p < 0 ∨ ¬ p ≤ nI z - n)) := by
  by_cases h1 : v < 0
  · exact Or.inr ⟨Or.inl h1, Or.inl h1⟩
  by_cases h2 : n < 1
  · exact Or.inr ⟨Or.inr (Or.inl h2), Or.inr (Or.inl h2)⟩
  by_cases h3 : p < 0
  · exact Or.inr ⟨Or.inr (Or.inr (Or.inl h3)), Or.inr (Or.inr (Or.inr (Or.inl h3)))⟩
  obtain ⟨pp, hpp, rfl⟩ := nI_of h3
  have h2' : ¬ n < 0 := fun q => h2 (lt1.mpr (Or.inl q))
  obtain ⟨nn, hnn, rfl⟩ := nI_of h2'
  have hn1 : 1 ≤ nn := Nat.pos_of_ne_zero fun q => by subst q; exact h2 (by decide)
  by_cases h4 : z < nn
  · refine Or.inr ⟨Or.inr (Or.inr (Or.inr (Or.inl (nI_lt h4 hnn)))), ?_⟩
    by_cases h5 : 24 < nn
    · exact Or.inr (Or.inr (Or.inl (nI_lt (a := 24) h5 hnn)))
    · refine Or.inr (Or.inr (Or.inr (Or.inr fun q => ?_)))
      have s := pk_sneg (a := z) (b := nn) (by omega) h4
      rw [Int32.le_iff_toInt_le, nI_toInt hpp] at q
      rw [Int32.lt_iff_toInt_lt] at s
      have : (0 : Int32).toInt = 0 := by decide
      omega
  · by_cases h5 : pp + nn ≤ z
    · exact Or.inl ⟨pp, nn, h1, rfl, rfl, hn1, h5⟩
    · have e : nI z - nI nn = nI (z - nn) := pk_sub (by omega)
      have q : ¬ nI pp ≤ nI z - nI nn := by rw [e]; exact nI_ge (by omega) hpp
      exact Or.inr ⟨Or.inr (Or.inr (Or.inr (Or.inr q))), Or.inr (Or.inr (Or.inr (Or.inr q)))⟩
theorem op24_s {V0 U0 V U : gx_M} {B : Nat} {C : Nat × Nat} {d gt ht lg rf cd p z : Nat} {g h L R : Nat → Nat} {w : Int32} (t : tr V0 U0 B C d g h L R gt ht lg rf V U) (hw : wd V U d cd p z w) (eO : w &&& 31 = nI 24) (hB : B < 2 ^ 31) : ∃ V1 U1, it (13 + 9 * d) (F_Mac_step 1 (13 + 9 * d) V) = some V1 ∧ F_Mod_step 0 U = some U1 ∧ nx V0 U0 B C (sg g d + gt + d + 1) V1 U1 := by
  have hd := t.1.1
  have e19 := t.1.2.2.1
  have h12 := t.2.2.2.2.2.2.2.2.2.2.2.1
  have hp : p < 24 := by have := hw.2.1; have := hw.2.2.1; omega
  obtain ⟨w1, w2, w3, w4, w5, w6, w7, w8, w9, w10, w11⟩ := id hw
  obtain ⟨v, vM, -, vV⟩ := pek0 t 0 (by decide)
  obtain ⟨q0, qM, -, qV⟩ := pek0 t 1 (by decide)
  obtain ⟨n, nM, nC, nV⟩ := pek0 t 2 (by decide)
  have vM : F_Mod_peek 0 (0 : Int32) U = some (v, U) := vM
  have qM : F_Mod_peek 0 (1 : Int32) U = some (q0, U) := qM
  have nM : F_Mod_peek 0 (2 : Int32) U = some (n, U) := nM
  have nC : F_Frm_below (13 + 9 * d) (2 : Int32) V = some (n, V) := nC
  have vV : 0 < ht → v = V (14 + 9 * d) (ht - 1) := vV
  have nV : 2 < ht → n = V (14 + 9 * d) (ht - 1 - 1 - 1) := fun q => by rw [show ht - 1 - 1 - 1 = ht - 1 - 2 by omega]; exact nV q
  have eq1 : ∀ x, gx_u (gx_u V (13 + 9 * d) 6 x) (13 + 9 * d) 2 (nI (p + 1)) (14 + 9 * d) = V (14 + 9 * d) := fun x => by rw [gx_uK (by omega), gx_uK (by omega)]
  obtain ⟨m, hm24, pr1, pr2⟩ := pr24 n
  have q2 : F_Mac_priceOf 1 (13 + 9 * d) (nI 24) V = some (nI (60 + 2 * m), V) := by
    rw [F_Mac_priceOf, ib_t (by decide) (by decide), if_neg (by decide), if_neg (by decide), if_pos (by decide), nC, ob, nI_clamp (by decide), ← pr1]; rfl
  have m3 : F_Mod_cost 0 (nI 24) U = some (nI (60 + 2 * m), U) := by
    rw [F_Mod_cost, if_neg (by decide), if_neg (by decide), if_neg (by decide), if_neg (by decide), if_neg (by decide), if_pos (by decide), nM, ob]
    exact pr2 U
  generalize hpr : 60 + 2 * m = pr at *
  have f0 : F_Mod_fails 0 (nI 24) (w >>> ((5 : Int32) &&& 31)) U = (if v < 0 then some ((1 : Int32), U) else (if n < (1 : Int32) then some ((1 : Int32), U) else (if (24 : Int32) < n then some ((1 : Int32), U) else (if q0 < 0 then some ((1 : Int32), U) else (if q0 ≤ (nI z - n) then some ((0 : Int32), U) else some ((1 : Int32), U)))))) := by
    rw [f_in hd hw.1 e19 hw.2.2.2.2.1, if_neg (by decide), if_neg (by decide), if_neg (by decide), if_neg (by decide), F_Mod_fails_115, if_neg (by decide), if_neg (by decide), if_pos (by decide), qM, ob, nM, ob, vM, ob, w9]
  have a := adv (pr := pr) t hp
  have f19 := a.1.2.2.1
  have eq2 : ∀ x y, gx_u (gx_u (gx_u V (13 + 9 * d) 6 x) (13 + 9 * d) 2 (nI (p + 1))) (13 + 9 * d) 8 y (13 + 9 * d) 1 = nI cd := fun x y => by rw [gx_up (by decide), gx_up (by decide), gx_up (by decide)]; exact w4
  have eq3 : ∀ x y, gx_u (gx_u (gx_u V (13 + 9 * d) 6 x) (13 + 9 * d) 2 (nI (p + 1))) (13 + 9 * d) 8 y 5 cd = nI z := fun x y => by rw [gx_uK (by omega), gx_uK (by omega), gx_uK (by omega)]; exact w8
  have cP : 3 ≤ ht → ∀ G : Int32 → Int32 → Int32 → gx_M → Option gx_M, ((F_Frm_pop (13 + 9 * d) (gx_u (gx_u V (13 + 9 * d) 6 (nI (gt - pr))) (13 + 9 * d) 2 (nI (p + 1)))).bind fun q5 => (F_Frm_pop (13 + 9 * d) q5.2).bind fun q6 => (F_Frm_pop (13 + 9 * d) q6.2).bind fun q7 => G q5.1 q6.1 q7.1 q7.2) = G v q0 n (gx_u (gx_u (gx_u V (13 + 9 * d) 6 (nI (gt - pr))) (13 + 9 * d) 2 (nI (p + 1))) (13 + 9 * d) 8 (nI (ht - 1 - 1 - 1))) := by
    intro h3 G
    rw [popC0 a.2 (by omega), ob, popC1 (by omega) (by omega), ob, popC1 (by omega) (by omega), ob, eq1, ← vV (by omega), ← qV (by omega), ← nV (by omega)]
  have cC : 3 ≤ ht → cb 1 (13 + 9 * d) (nI 24) (w >>> ((5 : Int32) &&& 31)) (gx_u (gx_u V (13 + 9 * d) 6 (nI (gt - pr))) (13 + 9 * d) 2 (nI (p + 1))) = (fun X : gx_M => (if v < 0 then (F_Frm_fail (13 + 9 * d) X) else (if n < (1 : Int32) then (F_Frm_fail (13 + 9 * d) X) else (if q0 < 0 then (F_Frm_fail (13 + 9 * d) X) else (if nI z < n then (F_Frm_fail (13 + 9 * d) X) else (if q0 ≤ (nI z - n) then ((F_Acc_leastEmpty 2 X).bind fun q12 => (if q12.1 < 0 then (F_Frm_push (13 + 9 * d) (-1 : Int32) q12.2) else (if gx_ib (q12.2 (13 + 9 * d) 0) 16 then (if v ≤ (q12.2 3 (q12.2 (13 + 9 * d) 0).toNatClampNeg) then (gx_let (gx_u q12.2 4 (q12.2 (13 + 9 * d) 0).toNatClampNeg ((q12.2 4 (q12.2 (13 + 9 * d) 0).toNatClampNeg) + (1 : Int32))) fun V1 => (if gx_ib q12.1 16 then (gx_let (gx_u V1 4 q12.1.toNatClampNeg (1 : Int32)) fun V2 => (F_Mac_create_131 100 1 (13 + 9 * d) v q0 n q12.1 (0 : Int32) V2)) else none)) else (F_Frm_push (13 + 9 * d) (-1 : Int32) q12.2)) else none))) else (F_Frm_fail (13 + 9 * d) X))))))) (gx_u (gx_u (gx_u V (13 + 9 * d) 6 (nI (gt - pr))) (13 + 9 * d) 2 (nI (p + 1))) (13 + 9 * d) 8 (nI (ht - 1 - 1 - 1))) := by
    intro h3
    rw [cD_24, F_Mac_create, cP h3 (fun x5 x6 x7 X => (if gx_ib (X (13 + 9 * d) 1) 16 then (if x5 < 0 then ((F_Frm_fail (13 + 9 * d) X).bind fun q8 => some q8) else (if x7 < (1 : Int32) then ((F_Frm_fail (13 + 9 * d) X).bind fun q9 => some q9) else (if x6 < 0 then ((F_Frm_fail (13 + 9 * d) X).bind fun q10 => some q10) else (if (X ((1 + 1) + 3) (X (13 + 9 * d) 1).toNatClampNeg) < x7 then ((F_Frm_fail (13 + 9 * d) X).bind fun q11 => some q11) else (if x6 ≤ ((X ((1 + 1) + 3) (X (13 + 9 * d) 1).toNatClampNeg) - x7) then ((F_Acc_leastEmpty (1 + 1) X).bind fun q12 => (if q12.1 < 0 then ((F_Frm_push (13 + 9 * d) (-1 : Int32) q12.2).bind fun q13 => some q13) else (if gx_ib (q12.2 (13 + 9 * d) 0) 16 then (if x5 ≤ (q12.2 ((1 + 1) + 1) (q12.2 (13 + 9 * d) 0).toNatClampNeg) then (if gx_ib (q12.2 (13 + 9 * d) 0) 16 then (if gx_ib (q12.2 (13 + 9 * d) 0) 16 then (gx_let (gx_u q12.2 ((1 + 1) + 2) (q12.2 (13 + 9 * d) 0).toNatClampNeg ((q12.2 ((1 + 1) + 2) (q12.2 (13 + 9 * d) 0).toNatClampNeg) + (1 : Int32))) fun V1 => (if gx_ib q12.1 16 then (gx_let (gx_u V1 ((1 + 1) + 2) q12.1.toNatClampNeg (1 : Int32)) fun V2 => (F_Mac_create_131 100 1 (13 + 9 * d) x5 x6 x7 q12.1 (0 : Int32) V2)) else none)) else none) else none) else ((F_Frm_push (13 + 9 * d) (-1 : Int32) q12.2).bind fun q14 => some q14)) else none))) else ((F_Frm_fail (13 + 9 * d) X).bind fun q15 => some q15)))))) else none))]
    generalize hz100 : (100 : Nat) = z100
    have ite2 : ∀ (c : Prop) [Decidable c] (A E : Option gx_M), (if c then (if c then (if c then A else none) else none) else E) = if c then A else E := fun c _ A E => by by_cases hc : c <;> simp [hc]
    simp only [eq2, eq3, ib_t w1 (show 16 < 2 ^ 31 by decide), nI_clamp (show cd < 2 ^ 31 by omega), Nat.reduceAdd, obs]
    congr 5
    congr 1
    funext q12
    by_cases hb : gx_ib (q12.2 (13 + 9 * d) 0) 16
    · simp only [if_pos hb]
    · simp only [if_neg hb]
  rcases ck24 (v := v) (p := q0) (n := n) w3 with ⟨pp, nn, hv, rfl, rfl, hn1, hpn⟩ | ⟨bC, bM⟩
  case inr =>
    have m4 : F_Mod_fails 0 (nI 24) (w >>> ((5 : Int32) &&& 31)) U = some (1, U) := by
      rw [f0]
      rcases bM with b | b | b | b | b
      · rw [if_pos b]
      · rw [if_pos b, ite_self]
      · rw [if_pos b, ite_self, ite_self]
      · rw [if_pos b, ite_self, ite_self, ite_self]
      · rw [if_neg b, ite_self, ite_self, ite_self, ite_self]
    refine opx_s t hw eO (by decide) (by omega) (by omega) (by decide) (by decide) (nD_24 _ _) q2 (oD_24 _) (pD_24 _) (uD_24 _) m3 m4 (fun _ => Or.inr (Or.inr (Or.inr (by decide)))) (fun q _ => ?_) (fun q q' => absurd (Or.inr (Or.inr (Or.inr (by decide)))) q')
    have h3 : 3 ≤ ht := Nat.le_of_not_lt fun e => q (Or.inr (Or.inl e))
    refine ⟨gx_u (gx_u (gx_u V (13 + 9 * d) 6 (nI (gt - pr))) (13 + 9 * d) 2 (nI (p + 1))) (13 + 9 * d) 8 (nI (ht - 1 - 1 - 1)), kc_t (kc_c (by decide)) (kc_t (kc_c (by decide)) (kc_c (by decide))), ?_⟩
    rw [cC h3]
    dsimp only
    rcases bC with b | b | b | b | b
    · rw [if_pos b]
    · rw [if_pos b, ite_self]
    · rw [if_pos b, ite_self, ite_self]
    · rw [if_pos b, ite_self, ite_self, ite_self]
    · rw [if_neg b, ite_self, ite_self, ite_self, ite_self]
  have eZ : nI z - nI nn = nI (z - nn) := pk_sub (by omega)
  have x1 : ¬ nI nn < (1 : Int32) := nI_nlt (b := 1) hn1 (by omega)
  have x2 : ¬ nI pp < 0 := nI_pos (by omega)
  have x3 : ¬ nI z < nI nn := nI_nlt (by omega) (by omega)
  have x4 : nI pp ≤ nI z - nI nn := by rw [eZ]; exact nI_le (by omega) (by omega)
  have x5 : ¬ (24 : Int32) < nI nn := nI_nlt (a := 24) (by omega) (by decide)
  have m4 : F_Mod_fails 0 (nI 24) (w >>> ((5 : Int32) &&& 31)) U = some (0, U) := by
    rw [f0, if_neg hv, if_neg x1, if_neg x5, if_neg x2, if_pos x4]
  refine opx_s t hw eO (by decide) (by omega) (by omega) (by decide) (by decide) (nD_24 _ _) q2 (oD_24 _) (pD_24 _) (uD_24 _) m3 m4 (fun q => ?_) (fun q q' => ?_) (fun q q' => ?_)
  · rcases q with q | q | ⟨_, q⟩
    · exact Or.inr (Or.inr (Or.inl q))
    · exact Or.inl q
    · exact absurd rfl q
  · exfalso; rcases q' with q' | q' | q' | q'
    · exact q (Or.inr (Or.inl q'))
    · omega
    · exact q (Or.inl q')
    · exact q' rfl
  have h3 : 3 ≤ ht := Nat.le_of_not_lt fun e => q (Or.inr (Or.inl e))
  have hg : pr ≤ gt := Nat.le_of_not_lt fun k => q (Or.inl k)
  have cC := cC h3
  dsimp only at cC
  rw [if_neg hv, if_neg x1, if_neg x2, if_neg x3, if_pos x4] at cC
  have st := a.2.2.2.2.2.2.2.2.2.2.2.2.2
  have c1 := st (ht - 1) (by omega)
  have c2 := st (ht - 1 - 1) (by omega)
  have c3 := st (ht - 1 - 1 - 1) (by omega)
  rw [eq1] at c1 c2 c3
  rw [← vV (by omega)] at c1
  rw [← qV (by omega)] at c2
  rw [← nV (by omega)] at c3
  have pM := popM0 a (show 0 < ht by omega)
  have pM2 := popM1 (h := ht - 1) hd (show 0 < ht - 1 by omega) (by omega) f19
  have pM3 := popM1 (h := ht - 1 - 1) hd (show 0 < ht - 1 - 1 by omega) (by omega) f19
  rw [← c1] at pM
  rw [← c2] at pM2
  rw [← c3] at pM3
  have a4 := pop_t (h' := ht - 1 - 1 - 1) a (by omega)
  have bb := a4.1.2.2.2.2.2.2.2.1
  have me0 : ∃ s, s < 16 ∧ gx_u (gx_u U 12 d (nI (gt - pr))) 8 d (nI (p + 1)) 6 d = nI s ∧ gx_u (gx_u (gx_u V (13 + 9 * d) 6 (nI (gt - pr))) (13 + 9 * d) 2 (nI (p + 1))) (13 + 9 * d) 8 (nI (ht - 1 - 1 - 1)) (13 + 9 * d) 0 = nI s := by
    obtain ⟨s, hs, s1, s2⟩ := a.2.1
    exact ⟨s, hs, s2, by rw [gx_up (by decide)]; exact s1⟩
  obtain ⟨me, hme, meU, meV⟩ := me0
  have e1 := eq2 (nI (gt - pr)) (nI (ht - 1 - 1 - 1))
  have e5 := eq3 (nI (gt - pr)) (nI (ht - 1 - 1 - 1))
  have u7 : gx_u (gx_u (gx_u U 12 d (nI (gt - pr))) 8 d (nI (p + 1))) 13 d (nI (ht - 1 - 1 - 1)) 7 d = nI cd := by rw [gx_uK (by decide), gx_uK (by decide), gx_uK (by decide)]; exact w5
  have mC : mb 0 (nI 24) (w >>> ((5 : Int32) &&& 31)) (gx_u (gx_u U 12 d (nI (gt - pr))) 8 d (nI (p + 1))) = F_Mod_create_29 100 0 (nI me) v (nI pp) (nI nn) 0 (gx_u (gx_u (gx_u U 12 d (nI (gt - pr))) 8 d (nI (p + 1))) 13 d (nI (ht - 1 - 1 - 1))) := by
    rw [mD_24, F_Mod_act, f19, ib_t hd (by decide), if_neg (by decide), if_neg (by decide), if_pos (by decide), F_Mod_create, f19, ib_t hd (by decide), pM, ob]
    generalize (100 : Nat) = z100
    simp only [pM2, ob, pM3, nI_clamp (show d < 2 ^ 31 by omega), Nat.zero_add, meU, obs]
  clear cP f0 eq2 eq3
  generalize hVA : gx_u (gx_u V (13 + 9 * d) 6 (nI (gt - pr))) (13 + 9 * d) 2 (nI (p + 1)) = VA at *
  generalize hUA : gx_u (gx_u U 12 d (nI (gt - pr))) 8 d (nI (p + 1)) = UA at *
  generalize hVB : gx_u VA (13 + 9 * d) 8 (nI (ht - 1 - 1 - 1)) = VB at *
  generalize hUB : gx_u UA 13 d (nI (ht - 1 - 1 - 1)) = UB at *
  have hac := a4.1.2.2.2.1.2.2.2.1
  have xb : VB 3 me = UB 1 (36 * me) := by have := (hac me hme).1; rw [Nat.zero_add] at this; exact this
  unfold F_Acc_leastEmpty at cC
  generalize hz100 : (100 : Nat) = z100 at cC mC
  obtain ⟨r, hr, l1, l2, l3⟩ := lst (x1 := nI me) (x2 := v) (x3 := nI pp) (x4 := nI nn) hac 16 0 z100 z100 rfl (by omega) (by omega)
  rw [nI_0] at l1 l2
  rw [l1, ob] at cC
  rw [l2, F_Mod_create_51, m36, ib_t (show 36 * me < 576 by omega) (by decide), nI_clamp (show 36 * me < 2 ^ 31 by omega), Nat.zero_add, ← xb, obs, hz100] at mC
  by_cases hr16 : r = 16
  · refine pu_fin (x := -1) a4 (by omega) (by omega) ?_ ?_
    · rw [cC, if_pos hr16, if_pos (show (-1 : Int32) < 0 by decide)]
    · rw [mC, if_pos (show nI r = (16 : Int32) by rw [hr16]; rfl), ite_self]
  have hr' : r < 16 := by omega
  have hrn : ¬ nI r = (16 : Int32) := fun e => hr16 ((nI_eq (b := 16) (by omega) (by decide)).mp e)
  rw [if_neg hr16] at cC
  dsimp only at cC
  rw [if_neg (show ¬ nI r < 0 from nI_pos (by omega))] at cC
  simp only [meV, ib_t hme (show 16 < 2 ^ 31 by decide), nI_clamp (show me < 2 ^ 31 by omega), ib_t hr' (show 16 < 2 ^ 31 by decide), nI_clamp (show r < 2 ^ 31 by omega), gl] at cC
  by_cases hbal : VB 3 me < v
  · refine pu_fin (x := -1) a4 (by omega) (by omega) ?_ ?_
    · rw [cC, if_neg (Int32.not_le.mpr hbal)]
    · rw [mC, if_pos hbal]
  rw [if_pos (Int32.not_lt.mp hbal)] at cC
  have em := emp_0 (l3 hr')
  have hne : r ≠ cd := by
    intro e
    subst e
    rw [em] at e5
    have := (nI_eq (a := 0) (by decide) (by omega)).mp e5
    omega
  have i1 : nI (36 * me) + (1 : Int32) = nI (36 * me + 1) := nI_1 _
  rw [if_neg hbal, if_neg hrn, i1, ib_t (show 36 * me + 1 < 576 by omega) (by decide), ib_t (show 36 * me + 1 < 576 by omega) (by decide), nI_clamp (show 36 * me + 1 < 2 ^ 31 by omega), gl] at mC
  obtain ⟨V', k1, k2, k3, k4, k5, k6⟩ := crC (c := 13 + 9 * d) (v := v) w1 hr' hne w3 hpn (by omega) nn 0 z100 (gx_u (gx_u VB 4 me (VB 4 me + 1)) 4 r 1) (by omega) (by omega) (by rw [gx_uK (by omega), gx_uK (by omega)]; exact e1) (by rw [gx_uK (by decide), gx_uK (by decide)]; exact e5) (by rw [gx_uK (by decide), gx_uK (by decide)]; exact em)
  obtain ⟨U', j1, j2, j3, j4⟩ := crM (v := v) (me := me) hd w1 hr' hne w3 hpn nn 0 z100 (gx_u UB 1 (36 * me + 1) (UB 1 (36 * me + 1) + 1)) (by omega) (by omega) (by rw [gx_uK (by decide)]; exact a4.1.2.2.1) (by rw [gx_uK (by decide)]; exact u7)
  rw [nI_0] at k1 j1
  have cC2 := cC.trans k1
  have mC2 : mb 0 (nI 24) (w >>> ((5 : Int32) &&& 31)) UA = _ := mC.trans j1
  have vo : ∀ q, q ≠ 4 → q ≠ 5 → q ≠ 6 → V' q = VB q := fun q h4 h5 h6 => by rw [k2 q h5 h6, gx_uK h4, gx_uK h4]
  have uo : ∀ q, q ≠ 1 → gx_u (gx_u U' 1 (36 * r + 2) (nI nn)) 1 (36 * r + 1) 1 q = UB q := fun q h => by rw [gx_uK h, gx_uK h, j2 q h, gx_uK h]
  have u1 : gx_u (gx_u U' 1 (36 * r + 2) (nI nn)) 1 (36 * r + 1) 1 1 = upd (upd (U' 1) (36 * r + 2) (nI nn)) (36 * r + 1) 1 := by rw [gx_ua, if_pos rfl, gx_ua, if_pos rfl]
  have v4 : V' 4 = upd (upd (VB 4) me (VB 4 me + 1)) r 1 := by rw [k2 4 (by decide) (by decide), gx_ua, if_pos rfl, gx_ua, if_pos rfl]
  have ub1 : gx_u UB 1 (36 * me + 1) (UB 1 (36 * me + 1) + 1) 1 = upd (UB 1) (36 * me + 1) (UB 1 (36 * me + 1) + 1) := by rw [gx_ua, if_pos rfl]
  have b6 : ∀ q, gx_u (gx_u VB 4 me (VB 4 me + 1)) 4 r 1 q = VB q ∨ q = 4 := fun q => by
    by_cases e : q = 4
    · exact Or.inr e
    · exact Or.inl (by rw [gx_uK e, gx_uK e])
  have e6 : gx_u (gx_u VB 4 me (VB 4 me + 1)) 4 r 1 6 = VB 6 := by rw [gx_uK (by decide), gx_uK (by decide)]
  have e5' : gx_u (gx_u VB 4 me (VB 4 me + 1)) 4 r 1 5 = VB 5 := by rw [gx_uK (by decide), gx_uK (by decide)]
  rw [e6] at k5 k6
  rw [e5'] at k3
  rw [ub1] at j3 j4
  obtain ⟨t1, t2, t3, t4, t5, t6, t7, t8, t9⟩ := id a4.1.2.2.2.1
  have twN : tw V' (gx_u (gx_u U' 1 (36 * r + 2) (nI nn)) 1 (36 * r + 1) 1) B lg rf := by
    unfold tw
    rw [u1, v4, uo 0 (by decide), uo 4 (by decide), uo 5 (by decide), vo 1 (by decide) (by decide) (by decide), vo 3 (by decide) (by decide) (by decide), vo 7 (by decide) (by decide) (by decide), vo 9 (by decide) (by decide) (by decide), vo 10 (by decide) (by decide) (by decide), vo 11 (by decide) (by decide) (by decide)]
    refine ⟨t1, t2, fun c hc => ?_, ?_, t5, t6, t7, t8, t9⟩
    · rw [pk_un (by omega), pk_un (by omega), j4 _ (by omega), pk_un (by omega)]
      exact t3 c hc
    · exact pr_acc_cr t4 w1 hr' hme hne w3 hpn e5 k3 k4 rfl (fun j hj => k5 j (by omega) hj) (fun q hq => k6 q (by omega)) (U' 1) (fun j hj => by rw [j3 j (by omega) hj, pk_un (by omega)]) (fun q hq => j4 q (by omega)) rfl
  have trN : tr V0 U0 B C d g h L R (gt - pr) (ht - 1 - 1 - 1) lg rf V' (gx_u (gx_u U' 1 (36 * r + 2) (nI nn)) 1 (36 * r + 1) 1) :=
    tr_w a4 (fun k hk => vo k (by omega) (by omega) (by omega)) (vo 0 (by decide) (by decide) (by decide)) (by rw [vo 1 (by decide) (by decide) (by decide)]) (fun k hk => uo k (by omega)) (uo 2 (by decide)) (uo 3 (by decide)) (fun p h1 h2 => by rw [uo 0 (by decide)]) twN (fun k hk => by rw [uo 5 (by decide)]) (Nat.le_refl _) bb
  have v0 : V' (13 + 9 * d) 0 = nI me := by rw [vo _ (by omega) (by omega) (by omega)]; exact meV
  rw [v0] at cC2
  obtain ⟨V7, U7, g1, g2, g3, g4, g5⟩ := give_s twN hB hme hr' hv (by rw [vo 3 (by decide) (by decide) (by decide)]; exact Int32.not_lt.mp hbal)
  have t7' : tr V0 U0 B C d g h L R (gt - pr) (ht - 1 - 1 - 1) lg rf V7 U7 := tr_w trN (fun k hk => g4 k (by omega)) (g4 0 (by decide)) (by rw [g4 1 (by decide)]) (fun k hk => g5 k (by omega)) (g5 2 (by decide)) (g5 3 (by decide)) (fun p h1 h2 => by rw [g5 0 (by decide)]) g3 (fun k hk => by rw [g5 5 (by decide)]) (Nat.le_refl _) bb
  exact pu_fin (x := nI r) t7' (by omega) (by omega) (by rw [cC2, g1, ob]) (by rw [mC2, g2, ob])
