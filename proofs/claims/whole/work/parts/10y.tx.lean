/-- the word that the innermost frame does -/
def wd (V U : gx_M) (d cd p z : Nat) (w : Int32) : Prop := cd < 16 ∧ p < z ∧ z ≤ 24 ∧ V (13 + 9 * d) 1 = nI cd ∧ U 7 d = nI cd ∧ V (13 + 9 * d) 2 = nI p ∧ U 8 d = nI p ∧ V 5 cd = nI z ∧ U 1 (36 * cd + 2) = nI z ∧ V 6 (24 * cd + p) = w ∧ U 1 (36 * cd + 3 + p) = w
theorem gas_b {V0 U0 V U : gx_M} {B : Nat} {C : Nat × Nat} {d gt ht lg rf : Nat} {g h L R : Nat → Nat} (t : tr V0 U0 B C d g h L R gt ht lg rf V U) : gt ≤ 3000 := by
  have := t.1.2.2.2.2.2.2.2.1.2.1
  omega
theorem adv {V0 U0 V U : gx_M} {B : Nat} {C : Nat × Nat} {d gt ht lg rf pr p : Nat} {g h L R : Nat → Nat} (t : tr V0 U0 B C d g h L R gt ht lg rf V U) (hp : p < 24) : tr V0 U0 B C d g h L R (gt - pr) ht lg rf (gx_u (gx_u V (13 + 9 * d) 6 (nI (gt - pr))) (13 + 9 * d) 2 (nI (p + 1))) (gx_u (gx_u U 12 d (nI (gt - pr))) 8 d (nI (p + 1))) :=
  ⟨tc_k t.1 (kc_t (kc_c (by decide)) (kc_c (by decide))) (ku_t ku_12 ku_8) (by omega), rn_pl (rn_gas t.2) (by omega)⟩
theorem it_ok {V U : gx_M} {d g h : Nat} (r : rn V U d g h) : it (13 + 9 * d) (some V) = some V := by
  unfold it
  rw [ob, if_pos r.2.2.2.2.2.2.2.2.2.2.2.1]
/-- one step that goes on in the same frame -/
theorem fin {V0 U0 V1 U1 : gx_M} {B : Nat} {C : Nat × Nat} {d gt gt' ht' lg rf : Nat} {g h L R : Nat → Nat} {x y : Option gx_M} (t : tr V0 U0 B C d g h L R gt' ht' lg rf V1 U1) (hg : gt' < gt) (hx : x = some V1) (hy : y = some U1) : ∃ V1 U1, it (13 + 9 * d) x = some V1 ∧ y = some U1 ∧ nx V0 U0 B C (sg g d + gt + d + 1) V1 U1 :=
  ⟨V1, U1, by rw [hx, it_ok t.2], hy, Or.inl ⟨d, g, h, L, R, gt', ht', lg, rf, t, by omega⟩⟩
theorem opx_s {V0 U0 V U : gx_M} {B : Nat} {C : Nat × Nat} {d gt ht lg rf cd p z nd prC prM po pu : Nat} {g h L R : Nat → Nat} {w O op fl : Int32} (t : tr V0 U0 B C d g h L R gt ht lg rf V U) (hw : wd V U d cd p z w) (eO : w &&& 31 = O) (hnd : nd < 2 ^ 30) (hprC : prC < 2 ^ 30) (hprM : prM < 2 ^ 30) (hpo : po ≤ 4) (hpu : pu ≤ 2) (q1 : F_Mac_needsOf O (w >>> ((5 : Int32) &&& 31)) V = some (nI nd, V)) (q2 : F_Mac_priceOf 1 (13 + 9 * d) O V = some (nI prC, V)) (q3 : F_Mac_onlyPushes O V = some (op, V)) (m1 : F_Mod_pops O U = some (nI po, U)) (m2 : F_Mod_pushes O U = some (nI pu, U)) (m3 : F_Mod_cost 0 O U = some (nI prM, U)) (m4 : F_Mod_fails 0 O (w >>> ((5 : Int32) &&& 31)) U = some (fl, U))
    (hfail : gt < prC ∨ ht < nd ∨ (ht = 12 ∧ ¬ op = 0) → ht < po ∨ 12 < ht - po + pu ∨ gt < prM ∨ ¬ fl = 0)
    (hlate : ¬ (gt < prC ∨ ht < nd ∨ (ht = 12 ∧ ¬ op = 0)) → (ht < po ∨ 12 < ht - po + pu ∨ gt < prM ∨ ¬ fl = 0) → ∃ V', kc d V V' ∧ cb 1 (13 + 9 * d) O (w >>> ((5 : Int32) &&& 31)) (gx_u (gx_u V (13 + 9 * d) 6 (nI (gt - prC))) (13 + 9 * d) 2 (nI (p + 1))) = F_Frm_fail (13 + 9 * d) V')
    (hok : ¬ (gt < prC ∨ ht < nd ∨ (ht = 12 ∧ ¬ op = 0)) → ¬ (ht < po ∨ 12 < ht - po + pu ∨ gt < prM ∨ ¬ fl = 0) → ∃ V1 U1, it (13 + 9 * d) (cb 1 (13 + 9 * d) O (w >>> ((5 : Int32) &&& 31)) (gx_u (gx_u V (13 + 9 * d) 6 (nI (gt - prC))) (13 + 9 * d) 2 (nI (p + 1)))) = some V1 ∧ mb 0 O (w >>> ((5 : Int32) &&& 31)) (gx_u (gx_u U 12 d (nI (gt - prM))) 8 d (nI (p + 1))) = some U1 ∧ nx V0 U0 B C (sg g d + gt + d + 1) V1 U1) :
    ∃ V1 U1, it (13 + 9 * d) (F_Mac_step 1 (13 + 9 * d) V) = some V1 ∧ F_Mod_step 0 U = some U1 ∧ nx V0 U0 B C (sg g d + gt + d + 1) V1 U1 := by
  obtain ⟨w1, w2, w3, w4, w5, w6, w7, w8, w9, w10, w11⟩ := hw
  have hg := gas_b t
  have hd := t.1.1
  have e19 := t.1.2.2.1
  obtain ⟨r1, r2, r3, r4, r5, r6, r7, r8, r9, r10, r11, r12, r13⟩ := id t.2
  have eC := csA (c := 13 + 9 * d) r11 hnd hprC (by omega) w1 (by omega) w3 w4 r7 r9 w6 w8 (by rw [if_pos w2]; exact w10) eO q1 q2 q3
  have eM := msA hd w1 (by omega) w3 e19 w5 w7 w9
  rw [if_pos w2, w11, eO, mrA hd r11 hpo hpu hprM (by omega) (by omega) e19 r8 r10 w7 m1 m2 m3 m4] at eM
  rw [eC, eM]
  by_cases hC : gt < prC ∨ ht < nd ∨ (ht = 12 ∧ ¬ op = 0)
  · rw [if_pos hC, if_pos (hfail hC)]
    exact fail_s t.1 (kc_r d V) (ku_r d U)
  · rw [if_neg hC]
    by_cases hM : ht < po ∨ 12 < ht - po + pu ∨ gt < prM ∨ ¬ fl = 0
    · obtain ⟨V', k1, k2⟩ := hlate hC hM
      rw [if_pos hM, k2]
      exact fail_s t.1 k1 (ku_r d U)
    · rw [if_neg hM]
      exact hok hC hM
theorem op0_s {V0 U0 V U : gx_M} {B : Nat} {C : Nat × Nat} {d gt ht lg rf cd p z : Nat} {g h L R : Nat → Nat} {w : Int32} (t : tr V0 U0 B C d g h L R gt ht lg rf V U) (hw : wd V U d cd p z w) (eO : w &&& 31 = nI 0) : ∃ V1 U1, it (13 + 9 * d) (F_Mac_step 1 (13 + 9 * d) V) = some V1 ∧ F_Mod_step 0 U = some U1 ∧ nx V0 U0 B C (sg g d + gt + d + 1) V1 U1 := by
  have hd := t.1.1
  have e19 := t.1.2.2.1
  have hp : p < 24 := by have := hw.2.1; have := hw.2.2.1; omega
  refine opx_s t hw eO (by decide) (by decide) (by decide) (by decide) (by decide) (nD_0 _ _) (rD_0 _ _) (oD_0 _) (pD_0 _) (uD_0 _) (kD_0 _) (fD_0 _ hd hw.1 e19 hw.2.2.2.2.1) (fun q => ?_) (fun q q' => ?_) (fun _ _ => ?_)
  · exfalso; rcases q with q | q | ⟨q, q2⟩
    · omega
    · omega
    · exact q2 rfl
  · exfalso; rcases q' with q | q | q | q
    · omega
    · have := t.2.2.2.2.2.2.2.2.2.2.2.1; omega
    · omega
    · exact q rfl
  · have a := adv (pr := 0) t hp
    have e12 := a.2.2.2.2.2.2.2.2.1
    have e6 := a.2.2.2.2.2.2.2.1
    have f19 := a.1.2.2.1
    rw [cD_0, mD_0, obs, obs, f19, ib_t hd (by decide), nI_clamp (by omega), Nat.zero_add, e12]
    exact end_s t.1 (kc_t (kc_c (by decide)) (kc_c (by decide))) (ku_t ku_12 ku_8) (by omega) e6 (Or.inr rfl)
