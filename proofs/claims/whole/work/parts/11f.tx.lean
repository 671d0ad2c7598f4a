theorem nof_s {V0 U0 V U : gx_M} {B : Nat} {C : Nat × Nat} {d gt ht lg rf : Nat} {g h L R : Nat → Nat} (t : tr V0 U0 B C d g h L R gt ht lg rf V U) (hh : ht + 1 < 12) : ∃ V1 U1, F_Mac_pushNoFrame 1 (13 + 9 * d) V = some V1 ∧ ((F_Mod_push 0 (0 : Int32) U).bind fun q8 => (F_Mod_push 0 (0 : Int32) q8).bind fun q9 => some q9) = some U1 ∧ tr V0 U0 B C d g h L R gt (ht + 1 + 1) lg rf V1 U1 := by
  obtain ⟨V1, U1, p1, p2, p3⟩ := push_t (x := 0) t (by omega)
  obtain ⟨V2, U2, r1, r2, r3⟩ := push_t (x := 0) p3 (by omega)
  refine ⟨V2, U2, ?_, ?_, r3⟩
  · unfold F_Mac_pushNoFrame
    rw [p1, ob, r1, ob]
  · rw [p2, ob, r2, ob]
theorem take_s {V : gx_M} {c gt : Nat} (w : Int32) (hg : gt < 2 ^ 31) (e : V c 6 = nI gt) : ∃ k, k ≤ gt ∧ F_Mac_takeGas 1 c w V = some (nI k, gx_u V c 6 (nI (gt - k))) ∧ ∀ F : Int32 → Option gx_M, (if 0 ≤ w then (if nI gt ≤ w then F (nI gt) else F w) else F 0) = F (nI k) := by
  by_cases hw : w < 0
  · refine ⟨0, by omega, ?_, fun F => by rw [if_neg (Int32.not_le.mpr hw)]; rfl⟩
    unfold F_Mac_takeGas
    rw [e, if_pos hw, if_neg (nI_pos hg), gl, show (0 : Int32) = nI 0 from rfl, pk_sub (by omega)]
  · obtain ⟨j, hj, rfl⟩ := nI_of hw
    by_cases h : gt < j
    · refine ⟨gt, Nat.le_refl _, ?_, fun F => by rw [if_pos (nI_pos' hj), if_pos (nI_le (by omega) hj)]⟩
      unfold F_Mac_takeGas
      rw [e, if_neg hw, if_pos (nI_lt h hj), gl, pk_sub (Nat.le_refl _)]
    · refine ⟨j, by omega, ?_, fun F => ?_⟩
      · unfold F_Mac_takeGas
        rw [e, if_neg hw, if_neg (nI_nlt (by omega) hg), gl, pk_sub (by omega)]
      · rw [if_pos (nI_pos' hj)]
        by_cases h2 : gt ≤ j
        · have : gt = j := by omega
          subst this
          rw [if_pos (nI_le (Nat.le_refl _) hj)]
        · rw [if_neg (nI_ge (by omega) hg)]
theorem gas_t {V0 U0 V U : gx_M} {B : Nat} {C : Nat × Nat} {d gt gt' ht lg rf : Nat} {g h L R : Nat → Nat} (t : tr V0 U0 B C d g h L R gt ht lg rf V U) (hg : gt' ≤ gt) : tr V0 U0 B C d g h L R gt' ht lg rf (gx_u V (13 + 9 * d) 6 (nI gt')) (gx_u U 12 d (nI gt')) :=
  ⟨tc_k t.1 (kc_c (by decide)) ku_12 hg, rn_gas t.2⟩
theorem tq_of {V0 U0 V U : gx_M} {B : Nat} {C : Nat × Nat} {d gt ht lg rf : Nat} {g h L R : Nat → Nat} (t : tr V0 U0 B C d g h L R gt ht lg rf V U) (hh : ht ≤ 10) : tq V U B (d + 1) (gu g d gt) (gu h d ht) L R := by
  intro j hj
  by_cases e : j = d
  · subst e
    rw [gu_s, gu_s]
    exact ⟨t.1.2.2.2.2.2.1, t.2, hh⟩
  · rw [gu_n e, gu_n e]
    exact t.1.2.2.2.2.1 j (by omega)
/-- a frame inside the innermost one -/
theorem in_s {V0 U0 V U : gx_M} {B : Nat} {C : Nat × Nat} {d gt ht lg rf gg s cd : Nat} {g h L R : Nat → Nat} {cl v i : Int32} (t : tr V0 U0 B C d g h L R gt ht lg rf V U) (hd : d + 1 < 8) (hh : ht ≤ 10) (hb : bd C (sg g d + gt + gg) lg rf (d + 1) R) (hs : s < 16) (hcd : cd < 16) : ∃ V1 U1, F_Mac_enter 1 (nI s) (nI cd) cl v i (nI gg) V = some V1 ∧ F_Mod_enter 0 (nI cd) (nI s) cl v i (nI gg) U = some U1 ∧ tr V0 U0 B C (d + 1) (gu g d gt) (gu h d ht) (gu L (d + 1) lg) (gu R (d + 1) rf) gg 0 lg rf V1 U1 ∧ V1 3 = V 3 ∧ V1 (13 + 9 * d) = V (13 + 9 * d) ∧ U1 1 = U 1 := by
  have e19 : U 0 19 = nI (d + 1) - 1 := by rw [show nI (d + 1) - (1 : Int32) = nI d from pk_sub (b := 1) (by omega)]; exact t.1.2.2.1
  obtain ⟨V1, U1, m1, m2, m3, m4, m5⟩ := enter_s (s := s) (cd := cd) (cl := cl) (v := v) (i := i) (gg := gg) hd t.1.2.1 e19 t.1.2.2.2.1 (tq_of t hh) t.1.2.2.2.2.2.2.1 (by rw [sg, sg_lt d (Nat.le_refl _), gu_s]; exact hb) t.1.2.2.2.2.2.2.2.2 hs hcd
  exact ⟨V1, U1, m1, m2, m3, m4 3 (by decide) (by omega) (by omega), m4 _ (by omega) (by omega) (by omega), m5⟩
theorem fin2 {V0 U0 V1 U1 : gx_M} {B : Nat} {C : Nat × Nat} {d gt gt1 gt2 ht2 lg rf : Nat} {g g' h' L' R' : Nat → Nat} {x y : Option gx_M} (t : tr V0 U0 B C (d + 1) g' h' L' R' gt2 ht2 lg rf V1 U1) (hg : sg g' (d + 1) = sg g d + gt1) (hm : gt1 + gt2 + 1 < gt) (hx : x = some V1) (hy : y = some U1) : ∃ V1 U1, it (13 + 9 * d) x = some V1 ∧ y = some U1 ∧ nx V0 U0 B C (sg g d + gt + d + 1) V1 U1 :=
  ⟨V1, U1, by rw [hx, it_ok (t.1.2.2.2.2.1 d (by omega)).2.1], hy, Or.inl ⟨d + 1, g', h', L', R', gt2, ht2, lg, rf, t, by omega⟩⟩
theorem op22_s {V0 U0 V U : gx_M} {B : Nat} {C : Nat × Nat} {d gt ht lg rf cd p z : Nat} {g h L R : Nat → Nat} {w : Int32} (t : tr V0 U0 B C d g h L R gt ht lg rf V U) (hw : wd V U d cd p z w) (eO : w &&& 31 = nI 22) (hB : B < 2 ^ 31) : ∃ V1 U1, it (13 + 9 * d) (F_Mac_step 1 (13 + 9 * d) V) = some V1 ∧ F_Mod_step 0 U = some U1 ∧ nx V0 U0 B C (sg g d + gt + d + 1) V1 U1 := by
  have hd := t.1.1
  have e19 := t.1.2.2.1
  have h12 := t.2.2.2.2.2.2.2.2.2.2.2.1
  have hp : p < 24 := by have := hw.2.1; have := hw.2.2.1; omega
  obtain ⟨v, vM, vC, vV⟩ := pek0 t 2 (by decide)
  have vM : F_Mod_peek 0 (2 : Int32) U = some (v, U) := vM
  have vC : F_Frm_below (13 + 9 * d) (2 : Int32) V = some (v, V) := vC
  have vV : 2 < ht → v = V (14 + 9 * d) (ht - 1 - 1 - 1) := fun q => by rw [show ht - 1 - 1 - 1 = ht - 1 - 2 by omega]; exact vV q
  have eq1 : ∀ x, gx_u (gx_u V (13 + 9 * d) 6 x) (13 + 9 * d) 2 (nI (p + 1)) (14 + 9 * d) = V (14 + 9 * d) := fun x => by rw [gx_uK (by omega), gx_uK (by omega)]
  have q2 : F_Mac_priceOf 1 (13 + 9 * d) (nI 22) V = some (nI (if v = 0 then 30 else 50), V) := by
    rw [F_Mac_priceOf, ib_t (by decide) (by decide), if_neg (by decide), if_pos (by decide), vC, ob, nI_clamp (by decide)]
    by_cases hv : v = 0
    · rw [if_pos hv, if_pos hv]; rfl
    · rw [if_neg hv, if_neg hv]; rfl
  have m3 : F_Mod_cost 0 (nI 22) U = some (nI (if v = 0 then 30 else 50), U) := by
    rw [F_Mod_cost, if_neg (by decide), if_neg (by decide), if_neg (by decide), if_neg (by decide), if_pos (by decide), vM, ob]
    by_cases hv : v = 0
    · rw [if_pos hv, if_pos hv]; rfl
    · rw [if_neg hv, if_neg hv]; rfl
  have m4 : F_Mod_fails 0 (nI 22) (w >>> ((5 : Int32) &&& 31)) U = some (if 0 ≤ v then 0 else 1, U) := by
    rw [f_in hd hw.1 e19 hw.2.2.2.2.1, if_neg (by decide), if_neg (by decide), if_neg (by decide), if_neg (by decide), F_Mod_fails_115, if_neg (by decide), if_pos (by decide), vM, ob]
    by_cases hv : 0 ≤ v
    · rw [if_pos hv, if_pos hv]
    · rw [if_neg hv, if_neg hv]
  generalize hpr : (if v = 0 then 30 else 50) = pr at *
  have hprb : 30 ≤ pr ∧ pr ≤ 50 := by rw [← hpr]; split <;> omega
  have a := adv (pr := pr) t hp
  have pC : 4 ≤ ht → ∀ G : Int32 → Int32 → Int32 → Int32 → gx_M → Option gx_M, ((F_Frm_pop (13 + 9 * d) (gx_u (gx_u V (13 + 9 * d) 6 (nI (gt - pr))) (13 + 9 * d) 2 (nI (p + 1)))).bind fun q4 => (F_Frm_pop (13 + 9 * d) q4.2).bind fun q5 => (F_Frm_pop (13 + 9 * d) q5.2).bind fun q6 => (F_Frm_pop (13 + 9 * d) q6.2).bind fun q7 => G q4.1 q5.1 q6.1 q7.1 q7.2) = G (V (14 + 9 * d) (ht - 1)) (V (14 + 9 * d) (ht - 1 - 1)) v (V (14 + 9 * d) (ht - 1 - 1 - 1 - 1)) (gx_u (gx_u (gx_u V (13 + 9 * d) 6 (nI (gt - pr))) (13 + 9 * d) 2 (nI (p + 1))) (13 + 9 * d) 8 (nI (ht - 1 - 1 - 1 - 1))) := by
    intro h4 G
    rw [popC0 a.2 (by omega), ob, popC1 (by omega) (by omega), ob, popC1 (by omega) (by omega), ob, popC1 (by omega) (by omega), ob, eq1, ← vV (by omega)]
  by_cases hv0 : 0 ≤ v
  case neg =>
    rw [if_neg hv0] at m4
    refine opx_s t hw eO (by decide) (by omega) (by omega) (by decide) (by decide) (nD_22 _ _) q2 (oD_22 _) (pD_22 _) (uD_22 _) m3 m4 (fun _ => Or.inr (Or.inr (Or.inr (by decide)))) (fun q _ => ?_) (fun q q' => absurd (Or.inr (Or.inr (Or.inr (by decide)))) q')
    have h4 : 4 ≤ ht := Nat.le_of_not_lt fun e => q (Or.inr (Or.inl e))
    refine ⟨gx_u (gx_u (gx_u V (13 + 9 * d) 6 (nI (gt - pr))) (13 + 9 * d) 2 (nI (p + 1))) (13 + 9 * d) 8 (nI (ht - 1 - 1 - 1 - 1)), kc_t (kc_c (by decide)) (kc_t (kc_c (by decide)) (kc_c (by decide))), ?_⟩
    rw [cD_22, F_Mac_callOther, pC h4 (fun x1 x2 x3 x4 X => if 0 ≤ x3 then ((F_Mac_canEnter 1 x2 X).bind fun q8 => (if q8.1 = 0 then ((F_Mac_pushNoFrame 1 (13 + 9 * d) q8.2).bind fun q9 => some q9) else (if gx_ib (q8.2 (13 + 9 * d) 0) 16 then (if x3 ≤ (q8.2 ((1 + 1) + 1) (q8.2 (13 + 9 * d) 0).toNatClampNeg) then (if x3 = 0 then (F_Mac_callOther_78 1 (13 + 9 * d) x1 x2 x3 x4 (0 : Int32) q8.2) else (F_Mac_callOther_78 1 (13 + 9 * d) x1 x2 x3 x4 (10 : Int32) q8.2)) else ((F_Mac_pushNoFrame 1 (13 + 9 * d) q8.2).bind fun q10 => some q10)) else none))) else ((F_Frm_fail (13 + 9 * d) X).bind fun q11 => some q11)), if_neg hv0, obs, obs]
  rw [if_pos hv0] at m4
  refine opx_s t hw eO (by decide) (by omega) (by omega) (by decide) (by decide) (nD_22 _ _) q2 (oD_22 _) (pD_22 _) (uD_22 _) m3 m4 (fun q => ?_) (fun q q' => ?_) (fun q q' => ?_)
  · rcases q with q | q | ⟨_, q⟩
    · exact Or.inr (Or.inr (Or.inl q))
    · exact Or.inl q
    · exact absurd rfl q
  · exfalso; rcases q' with q' | q' | q' | q'
    · exact q (Or.inr (Or.inl q'))
    · omega
    · exact q (Or.inl q')
    · exact q' rfl
  have h4 : 4 ≤ ht := Nat.le_of_not_lt fun e => q (Or.inr (Or.inl e))
  have hg : pr ≤ gt := Nat.le_of_not_lt fun k => q (Or.inl k)
  have f19 := a.1.2.2.1
  have st := a.2.2.2.2.2.2.2.2.2.2.2.2.2
  have c1 := st (ht - 1) (by omega)
  have c2 := st (ht - 1 - 1) (by omega)
  have c3 := st (ht - 1 - 1 - 1) (by omega)
  have c4 := st (ht - 1 - 1 - 1 - 1) (by omega)
  rw [eq1] at c1 c2 c3 c4
  rw [← vV (by omega)] at c3
  have pC := pC h4
  have pM := popM0 a (show 0 < ht by omega)
  have pM2 := popM1 (h := ht - 1) hd (show 0 < ht - 1 by omega) (by omega) f19
  have pM3 := popM1 (h := ht - 1 - 1) hd (show 0 < ht - 1 - 1 by omega) (by omega) f19
  have pM4 := popM1 (h := ht - 1 - 1 - 1) hd (show 0 < ht - 1 - 1 - 1 by omega) (by omega) f19
  rw [← c1] at pM
  rw [← c2] at pM2
  rw [← c3] at pM3
  rw [← c4] at pM4
  have a4 := pop_t (h' := ht - 1 - 1 - 1 - 1) a (by omega)
  have bb := t.1.2.2.2.2.2.2.2.1
  have me0 : ∃ s, s < 16 ∧ gx_u (gx_u U 12 d (nI (gt - pr))) 8 d (nI (p + 1)) 6 d = nI s ∧ gx_u (gx_u (gx_u V (13 + 9 * d) 6 (nI (gt - pr))) (13 + 9 * d) 2 (nI (p + 1))) (13 + 9 * d) 8 (nI (ht - 1 - 1 - 1 - 1)) (13 + 9 * d) 0 = nI s := by
    obtain ⟨s, hs, s1, s2⟩ := a.2.1
    exact ⟨s, hs, s2, by rw [gx_up (by decide)]; exact s1⟩
  obtain ⟨me, hme, meU, meV⟩ := me0
  generalize V (14 + 9 * d) (ht - 1) = x1 at *
  generalize V (14 + 9 * d) (ht - 1 - 1) = x2 at *
  generalize V (14 + 9 * d) (ht - 1 - 1 - 1 - 1) = x4 at *
  generalize hVA : gx_u (gx_u V (13 + 9 * d) 6 (nI (gt - pr))) (13 + 9 * d) 2 (nI (p + 1)) = VA at *
  generalize hUA : gx_u (gx_u U 12 d (nI (gt - pr))) 8 d (nI (p + 1)) = UA at *
  have meU4 : ∀ x, gx_u UA 13 d x 6 d = nI me := fun x => by rw [gx_uK (by decide)]; exact meU
  generalize hVB : gx_u VA (13 + 9 * d) 8 (nI (ht - 1 - 1 - 1 - 1)) = VB at *
  generalize hUB : gx_u UA 13 d (nI (ht - 1 - 1 - 1 - 1)) = UB at *
  have g19 := a4.1.2.2.1
  have g3 := a4.1.2.1
  have g12 := a4.2.2.2.2.2.2.2.2.1
  have gc6 := a4.2.2.2.2.2.2.2.1
  have xb : VB 3 me = UB 1 (36 * me) := by have := (a4.1.2.2.2.1.2.2.2.1 me hme).1; rw [Nat.zero_add] at this; exact this
  have cC : cb 1 (13 + 9 * d) (nI 22) (w >>> ((5 : Int32) &&& 31)) VA = ((F_Mac_canEnter 1 x2 VB).bind fun q8 => (if q8.1 = 0 then ((F_Mac_pushNoFrame 1 (13 + 9 * d) q8.2).bind fun q9 => some q9) else (if gx_ib (q8.2 (13 + 9 * d) 0) 16 then (if v ≤ (q8.2 ((1 + 1) + 1) (q8.2 (13 + 9 * d) 0).toNatClampNeg) then (if v = 0 then (F_Mac_callOther_78 1 (13 + 9 * d) x1 x2 v x4 (0 : Int32) q8.2) else (F_Mac_callOther_78 1 (13 + 9 * d) x1 x2 v x4 (10 : Int32) q8.2)) else ((F_Mac_pushNoFrame 1 (13 + 9 * d) q8.2).bind fun q10 => some q10)) else none))) := by
    rw [cD_22, F_Mac_callOther, pC (fun x1 x2 x3 x4 X => if 0 ≤ x3 then ((F_Mac_canEnter 1 x2 X).bind fun q8 => (if q8.1 = 0 then ((F_Mac_pushNoFrame 1 (13 + 9 * d) q8.2).bind fun q9 => some q9) else (if gx_ib (q8.2 (13 + 9 * d) 0) 16 then (if x3 ≤ (q8.2 ((1 + 1) + 1) (q8.2 (13 + 9 * d) 0).toNatClampNeg) then (if x3 = 0 then (F_Mac_callOther_78 1 (13 + 9 * d) x1 x2 x3 x4 (0 : Int32) q8.2) else (F_Mac_callOther_78 1 (13 + 9 * d) x1 x2 x3 x4 (10 : Int32) q8.2)) else ((F_Mac_pushNoFrame 1 (13 + 9 * d) q8.2).bind fun q10 => some q10)) else none))) else ((F_Frm_fail (13 + 9 * d) X).bind fun q11 => some q11)), if_pos hv0, obs]
  have mC : mb 0 (nI 22) (w >>> ((5 : Int32) &&& 31)) UA = ((F_Mod_in x2 16 UB).bind fun q7 => (if q7.1 = 0 then ((F_Mod_push 0 (0 : Int32) q7.2).bind fun q8 => ((F_Mod_push 0 (0 : Int32) q8).bind fun q9 => some q9)) else (if (q7.2 1 (36 * me)) < v then ((F_Mod_push 0 (0 : Int32) q7.2).bind fun q10 => ((F_Mod_push 0 (0 : Int32) q10).bind fun q11 => some q11)) else (if (q7.2 0 19) = (7 : Int32) then ((F_Mod_push 0 (0 : Int32) q7.2).bind fun q12 => ((F_Mod_push 0 (0 : Int32) q12).bind fun q13 => some q13)) else (if 0 ≤ x1 then (if gx_ib (q7.2 0 19) 8 then (if (q7.2 12 (q7.2 0 19).toNatClampNeg) ≤ x1 then (if gx_ib (q7.2 0 19) 8 then (F_Mod_call_119 0 1 (nI me) x2 v x4 (q7.2 12 (q7.2 0 19).toNatClampNeg) q7.2) else none) else (F_Mod_call_119 0 1 (nI me) x2 v x4 x1 q7.2)) else none) else (F_Mod_call_119 0 1 (nI me) x2 v x4 (0 : Int32) q7.2)))))) := by
    rw [mD_22, F_Mod_act, f19, ib_t hd (by decide), if_pos (by decide), F_Mod_act_22, if_pos (by decide), F_Mod_call, f19, ib_t hd (by decide), pM, ob]
    simp only [pM2, ob, if_neg z1, pM3, F_Mod_call_33, pM4, nI_clamp (show d < 2 ^ 31 by omega), Nat.zero_add, meU, m36, ib_t (show 36 * me < 576 by omega) (show 576 < 2 ^ 31 by decide), nI_clamp (show 36 * me < 2 ^ 31 by omega), obs]
  have nof := nof_s a4 (by omega)
  rcases pr_ix x2 16 (by decide) with hy | ⟨to, hto, rfl⟩
  · obtain ⟨V1, U1, n1, n2, n3⟩ := nof
    exact fin n3 (by omega) (by rw [cC, F_Mac_canEnter, acc_no hy, ob, if_pos rfl, ob, if_pos rfl, obs, n1]) (by rw [mC, in16_no hy, ob, if_pos rfl, n2])
  have cE : F_Mac_canEnter 1 (nI to) VB = (if (8 : Int32) ≤ nI (d + 1) then some ((0 : Int32), VB) else some ((1 : Int32), VB)) := by
    unfold F_Mac_canEnter
    simp only [acc_yes hto, ob, one0, if_false, g3]
  rw [cE] at cC
  rw [in16_yes hto, ob, if_neg z1] at mC
  simp only [g19, ib_t hd (show 8 < 2 ^ 31 by decide), nI_clamp (show d < 2 ^ 31 by omega), ← xb, g12] at mC
  by_cases hbal : VB 3 me < v
  · obtain ⟨V1, U1, n1, n2, n3⟩ := nof
    refine fin n3 (by omega) ?_ (by rw [mC, if_pos hbal, n2])
    rw [cC]
    by_cases h8 : (8 : Int32) ≤ nI (d + 1)
    · rw [if_pos h8, ob, if_pos rfl, obs, n1]
    · rw [if_neg h8, ob, if_neg z1]
      simp only [meV, ib_t hme (show 16 < 2 ^ 31 by decide), nI_clamp (show me < 2 ^ 31 by omega)]
      rw [if_neg (Int32.not_le.mpr hbal), obs, n1]
  rw [if_neg hbal] at mC
  by_cases h7 : d = 7
  · obtain ⟨V1, U1, n1, n2, n3⟩ := nof
    refine fin n3 (by omega) ?_ (by rw [mC, if_pos (by rw [h7]; rfl), n2])
    rw [cC, if_pos (by rw [h7]; decide), ob, if_pos rfl, obs, n1]
  have h8 : ¬ (8 : Int32) ≤ nI (d + 1) := ge8 (by omega)
  have h7' : ¬ nI d = (7 : Int32) := fun e => h7 ((nI_eq (b := 7) (by omega) (by decide)).mp e)
  rw [if_neg h8, ob, if_neg z1] at cC
  simp only [meV, ib_t hme (show 16 < 2 ^ 31 by decide), nI_clamp (show me < 2 ^ 31 by omega)] at cC
  rw [if_pos (Int32.not_lt.mp hbal)] at cC
  rw [if_neg h7'] at mC
  obtain ⟨k, hk, tk1, tk2⟩ := take_s (c := 13 + 9 * d) x1 (show gt - pr < 2 ^ 31 by have := gas_b t; omega) gc6
  rw [tk2 (fun s => F_Mod_call_119 0 1 (nI me) (nI to) v x4 s UB)] at mC
  have a5 := gas_t (gt' := gt - pr - k) a4 (by omega)
  have o12 : nI (gt - pr) - nI k = nI (gt - pr - k) := pk_sub hk
  have hvn : ¬ v < 0 := Int32.not_lt.mpr hv0
  have x3 : gx_u VB (13 + 9 * d) 6 (nI (gt - pr - k)) 3 = VB 3 := gx_uK (by omega)
  have xc0 : gx_u VB (13 + 9 * d) 6 (nI (gt - pr - k)) (13 + 9 * d) 0 = nI me := by rw [gx_up (by decide)]; exact meV
  generalize hVC : gx_u VB (13 + 9 * d) 6 (nI (gt - pr - k)) = VC at *
  have fin3 : ∀ gg : Nat, gg ≤ k + 10 → gg + 30 ≤ k + pr → ∀ X Y : Option gx_M, X = ((F_Mac_enter 1 (nI to) (nI to) (nI me) v x4 (nI gg) VC).bind fun q2 => ((F_Acc_give 2 (q2 (13 + 9 * d) 0) (nI to) v q2).bind fun q3 => some q3)) → Y = ((F_Mod_enter 0 (nI to) (nI to) (nI me) v x4 (nI gg) (gx_u UB 12 d (nI (gt - pr - k)))).bind fun q2 => ((F_Mod_give 0 (nI me) (nI to) v q2).bind fun q3 => some q3)) → ∃ V1 U1, it (13 + 9 * d) X = some V1 ∧ Y = some U1 ∧ nx V0 U0 B C (sg g d + gt + d + 1) V1 U1 := by
    intro gg hgg hgg2 X Y hX hY
    obtain ⟨V6, U6, m1, m2, m3, m4, m5, m6⟩ := in_s (gg := gg) (s := to) (cd := to) (cl := nI me) (v := v) (i := x4) a5 (by omega) (by omega) (by
      obtain ⟨y1, y2, y3⟩ := bb
      exact ⟨by omega, by omega, fun j hj => by have := y3 j hj; omega⟩) hto hto
    obtain ⟨V7, U7, g1, g2, g3, g4, g5⟩ := give_s m3.1.2.2.2.1 hB hme hto hvn (by rw [m4, x3]; exact Int32.not_lt.mp hbal)
    have t7 : tr V0 U0 B C (d + 1) (gu g d (gt - pr - k)) (gu h d (ht - 1 - 1 - 1 - 1)) (gu L (d + 1) lg) (gu R (d + 1) rf) gg 0 lg rf V7 U7 := tr_w m3 (fun k hk => g4 k (by omega)) (g4 0 (by decide)) (by rw [g4 1 (by decide)]) (fun k hk => g5 k (by omega)) (g5 2 (by decide)) (g5 3 (by decide)) (fun p h1 h2 => by rw [g5 0 (by decide)]) g3 (fun k hk => by rw [g5 5 (by decide)]) (Nat.le_refl _) m3.1.2.2.2.2.2.2.2.1
    refine fin2 (gt1 := gt - pr - k) t7 (by rw [sg, sg_lt d (Nat.le_refl _), gu_s]) (by omega) ?_ ?_
    · rw [hX, m1, ob, m5, xc0, g1, ob]
    · rw [hY, m2, ob, g2, ob]
  by_cases hv : v = 0
  · have hpr30 : pr = 30 := by rw [← hpr, if_pos hv]
    refine fin3 k (by omega) (by omega) _ _ ?_ ?_
    · rw [cC, if_pos hv, F_Mac_callOther_78, tk1, ob, show nI k + (0 : Int32) = nI k from by rw [show (0 : Int32) = nI 0 from rfl, nI_add, Nat.add_zero], meV]
    · rw [mC, F_Mod_call_119]
      simp only [g19, ib_t hd (show 8 < 2 ^ 31 by decide), nI_clamp (show d < 2 ^ 31 by omega), Nat.zero_add, g12, o12, gl, if_neg z1, if_pos hv]
  · have hpr50 : pr = 50 := by rw [← hpr, if_neg hv]
    refine fin3 (k + 10) (by omega) (by omega) _ _ ?_ ?_
    · rw [cC, if_neg hv, F_Mac_callOther_78, tk1, ob, show nI k + (10 : Int32) = nI (k + 10) from nI_add k 10, meV]
    · rw [mC, F_Mod_call_119]
      simp only [g19, ib_t hd (show 8 < 2 ^ 31 by decide), nI_clamp (show d < 2 ^ 31 by omega), Nat.zero_add, g12, o12, gl, if_neg z1, if_neg hv, show nI k + (10 : Int32) = nI (k + 10) from nI_add k 10]
