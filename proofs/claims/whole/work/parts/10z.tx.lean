theorem op_e {V0 U0 V U : gx_M} {B : Nat} {C : Nat × Nat} {d gt ht lg rf cd p z nd pr po pu : Nat} {g h L R : Nat → Nat} {w O op : Int32} (t : tr V0 U0 B C d g h L R gt ht lg rf V U) (hw : wd V U d cd p z w) (eO : w &&& 31 = O) (hnd : nd < 2 ^ 30) (hprC : pr < 2 ^ 30) (hprM : pr < 2 ^ 30) (hpo : po ≤ 4) (hpu : pu ≤ 2) (q1 : F_Mac_needsOf O (w >>> ((5 : Int32) &&& 31)) V = some (nI nd, V)) (q2 : F_Mac_priceOf 1 (13 + 9 * d) O V = some (nI pr, V)) (q3 : F_Mac_onlyPushes O V = some (op, V)) (m1 : F_Mod_pops O U = some (nI po, U)) (m2 : F_Mod_pushes O U = some (nI pu, U)) (m3 : F_Mod_cost 0 O U = some (nI pr, U)) (m4 : F_Mod_fails 0 O (w >>> ((5 : Int32) &&& 31)) U = some (0, U))
    (heq : ht ≤ 12 → ((gt < pr ∨ ht < nd ∨ (ht = 12 ∧ ¬ op = 0)) ↔ (ht < po ∨ 12 < ht - po + pu ∨ gt < pr)))
    (hok : pr ≤ gt → nd ≤ ht → ¬ (ht = 12 ∧ ¬ op = 0) → ∀ V2 U2, tr V0 U0 B C d g h L R (gt - pr) ht lg rf V2 U2 → ∃ V1 U1, it (13 + 9 * d) (cb 1 (13 + 9 * d) O (w >>> ((5 : Int32) &&& 31)) V2) = some V1 ∧ mb 0 O (w >>> ((5 : Int32) &&& 31)) U2 = some U1 ∧ nx V0 U0 B C (sg g d + gt + d + 1) V1 U1) :
    ∃ V1 U1, it (13 + 9 * d) (F_Mac_step 1 (13 + 9 * d) V) = some V1 ∧ F_Mod_step 0 U = some U1 ∧ nx V0 U0 B C (sg g d + gt + d + 1) V1 U1 := by
  have e := heq t.2.2.2.2.2.2.2.2.2.2.2.1
  have hp : p < 24 := by have := hw.2.1; have := hw.2.2.1; omega
  refine opx_s t hw eO hnd hprC hprM hpo hpu q1 q2 q3 m1 m2 m3 m4 (fun q => ?_) (fun q q' => ?_) (fun q _ => ?_)
  · rcases e.mp q with k | k | k
    · exact Or.inl k
    · exact Or.inr (Or.inl k)
    · exact Or.inr (Or.inr (Or.inl k))
  · exfalso
    rcases q' with k | k | k | k
    · exact q (e.mpr (Or.inl k))
    · exact q (e.mpr (Or.inr (Or.inl k)))
    · exact q (e.mpr (Or.inr (Or.inr k)))
    · exact k rfl
  · exact hok (Nat.le_of_not_lt fun k => q (Or.inl k)) (Nat.le_of_not_lt fun k => q (Or.inr (Or.inl k))) (fun k => q (Or.inr (Or.inr k))) _ _ (adv t hp)
theorem popC0 {V U : gx_M} {d g h : Nat} (r : rn V U d g h) (h0 : 0 < h) : F_Frm_pop (13 + 9 * d) V = some (V (14 + 9 * d) (h - 1), gx_u V (13 + 9 * d) 8 (nI (h - 1))) := by
  have := popC (c := 13 + 9 * d) h0 r.2.2.2.2.2.2.2.2.2.2.1 r.2.2.2.2.2.2.2.2.1
  rw [show 13 + 9 * d + 1 = 14 + 9 * d by omega] at this
  exact this
theorem popC1 {V : gx_M} {d h : Nat} (h0 : 0 < h) (h12 : h ≤ 12) : F_Frm_pop (13 + 9 * d) (gx_u V (13 + 9 * d) 8 (nI h)) = some (V (14 + 9 * d) (h - 1), gx_u V (13 + 9 * d) 8 (nI (h - 1))) := by
  have := popC (V := gx_u V (13 + 9 * d) 8 (nI h)) (c := 13 + 9 * d) h0 h12 (by rw [gx_us])
  rw [show 13 + 9 * d + 1 = 14 + 9 * d by omega, gx_uu, gx_uK (by omega)] at this
  exact this
theorem popM0 {V0 U0 V U : gx_M} {B : Nat} {C : Nat × Nat} {d gt ht lg rf : Nat} {g h L R : Nat → Nat} (t : tr V0 U0 B C d g h L R gt ht lg rf V U) (h0 : 0 < ht) : F_Mod_pop 0 U = some (U 14 (12 * d + (ht - 1)), gx_u U 13 d (nI (ht - 1))) :=
  popM t.1.1 h0 t.2.2.2.2.2.2.2.2.2.2.2.1 t.1.2.2.1 t.2.2.2.2.2.2.2.2.2.2.1
theorem popM1 {U : gx_M} {d h : Nat} (hd : d < 8) (h0 : 0 < h) (h12 : h ≤ 12) (e : U 0 19 = nI d) : F_Mod_pop 0 (gx_u U 13 d (nI h)) = some (U 14 (12 * d + (h - 1)), gx_u U 13 d (nI (h - 1))) := by
  have := popM (U := gx_u U 13 d (nI h)) hd h0 h12 (by rw [gx_uK (by decide)]; exact e) (by rw [gx_us])
  rw [gx_uu, gx_uK (by decide)] at this
  exact this
theorem pop_t {V0 U0 V U : gx_M} {B : Nat} {C : Nat × Nat} {d gt ht h' lg rf : Nat} {g h L R : Nat → Nat} (t : tr V0 U0 B C d g h L R gt ht lg rf V U) (hh : h' ≤ ht) : tr V0 U0 B C d g h L R gt h' lg rf (gx_u V (13 + 9 * d) 8 (nI h')) (gx_u U 13 d (nI h')) :=
  ⟨tc_k t.1 (kc_c (by decide)) ku_13 (Nat.le_refl _), rn_pop t.2 hh⟩
theorem push_t {V0 U0 V U : gx_M} {B : Nat} {C : Nat × Nat} {d gt ht lg rf : Nat} {g h L R : Nat → Nat} {x : Int32} (t : tr V0 U0 B C d g h L R gt ht lg rf V U) (hh : ht < 12) : ∃ V1 U1, F_Frm_push (13 + 9 * d) x V = some V1 ∧ F_Mod_push 0 x U = some U1 ∧ tr V0 U0 B C d g h L R gt (ht + 1) lg rf V1 U1 := by
  have pC := pushC (c := 13 + 9 * d) x hh t.2.2.2.2.2.2.2.2.2.1
  have pM := pushM x t.1.1 hh t.1.2.2.1 t.2.2.2.2.2.2.2.2.2.2.1
  rw [show 13 + 9 * d + 1 = 14 + 9 * d by omega] at pC
  exact ⟨_, _, pC, pM, tc_k t.1 (kc_t kc_s (kc_c (by decide))) (ku_t (ku_14 hh) ku_13) (Nat.le_refl _), rn_pu t.2 hh⟩
theorem pu_fin {V0 U0 V U : gx_M} {B : Nat} {C : Nat × Nat} {d gt gt' ht lg rf : Nat} {g h L R : Nat → Nat} {X Y : Option gx_M} {x : Int32} (t : tr V0 U0 B C d g h L R gt' ht lg rf V U) (hh : ht < 12) (hg : gt' < gt) (hx : X = F_Frm_push (13 + 9 * d) x V) (hy : Y = F_Mod_push 0 x U) : ∃ V1 U1, it (13 + 9 * d) X = some V1 ∧ Y = some U1 ∧ nx V0 U0 B C (sg g d + gt + d + 1) V1 U1 := by
  obtain ⟨V1, U1, p1, p2, p3⟩ := push_t (x := x) t hh
  exact fin p3 hg (hx.trans p1) (hy.trans p2)
theorem op1_s {V0 U0 V U : gx_M} {B : Nat} {C : Nat × Nat} {d gt ht lg rf cd p z : Nat} {g h L R : Nat → Nat} {w : Int32} (t : tr V0 U0 B C d g h L R gt ht lg rf V U) (hw : wd V U d cd p z w) (eO : w &&& 31 = nI 1) : ∃ V1 U1, it (13 + 9 * d) (F_Mac_step 1 (13 + 9 * d) V) = some V1 ∧ F_Mod_step 0 U = some U1 ∧ nx V0 U0 B C (sg g d + gt + d + 1) V1 U1 := by
  have hd := t.1.1
  have e19 := t.1.2.2.1
  refine op_e t hw eO (by decide) (by decide) (by decide) (by decide) (by decide) (nD_1 _ _) (rD_1 _ _) (oD_1 _) (pD_1 _) (uD_1 _) (kD_1 _) (fD_1 _ hd hw.1 e19 hw.2.2.2.2.1) ?_ ?_
  · intro hh; constructor
    · intro q; rcases q with q | q | ⟨q, q2⟩ <;> first | omega | exact absurd rfl q2
    · intro q; rcases q with q | q | q <;> first | omega | (first | exact Or.inl (by omega) | exact Or.inr (Or.inl (by omega)) | exact Or.inr (Or.inr ⟨by omega, by decide⟩))
  · intro h1 h2 h3 V2 U2 a
    have h12 : ht < 12 := by have := t.2.2.2.2.2.2.2.2.2.2.2.1; rcases Nat.lt_or_ge ht 12 with q | q; exact q; exact absurd ⟨by omega, by decide⟩ h3
    exact pu_fin (x := (w >>> ((5 : Int32) &&& 31))) a h12 (by omega) (by rw [cD_1, F_Mac_step_368, F_Mac_resultOf, if_pos (by decide), ob, obs]) (by rw [mD_1, F_Mod_shuffle, if_pos (by decide), obs, obs])
theorem op17_s {V0 U0 V U : gx_M} {B : Nat} {C : Nat × Nat} {d gt ht lg rf cd p z : Nat} {g h L R : Nat → Nat} {w : Int32} (t : tr V0 U0 B C d g h L R gt ht lg rf V U) (hw : wd V U d cd p z w) (eO : w &&& 31 = nI 17) : ∃ V1 U1, it (13 + 9 * d) (F_Mac_step 1 (13 + 9 * d) V) = some V1 ∧ F_Mod_step 0 U = some U1 ∧ nx V0 U0 B C (sg g d + gt + d + 1) V1 U1 := by
  have hd := t.1.1
  have e19 := t.1.2.2.1
  refine op_e t hw eO (by decide) (by decide) (by decide) (by decide) (by decide) (nD_17 _ _) (rD_17 _ _) (oD_17 _) (pD_17 _) (uD_17 _) (kD_17 _) (fD_17 _ hd hw.1 e19 hw.2.2.2.2.1) ?_ ?_
  · intro hh; constructor
    · intro q; rcases q with q | q | ⟨q, q2⟩ <;> first | omega | exact absurd rfl q2
    · intro q; rcases q with q | q | q <;> first | omega | (first | exact Or.inl (by omega) | exact Or.inr (Or.inl (by omega)) | exact Or.inr (Or.inr ⟨by omega, by decide⟩))
  · intro h1 h2 h3 V2 U2 a
    have h12 : ht < 12 := by have := t.2.2.2.2.2.2.2.2.2.2.2.1; rcases Nat.lt_or_ge ht 12 with q | q; exact q; exact absurd ⟨by omega, by decide⟩ h3
    have f19 := a.1.2.2.1
    have ev : V2 (13 + 9 * d) 0 = U2 6 d := by
      obtain ⟨s, _, s1, s2⟩ := a.2.1; rw [s1, s2]
    exact pu_fin (x := V2 (13 + 9 * d) 0) a h12 (by omega) (by rw [cD_17, F_Mac_step_368, F_Mac_resultOf, if_neg (by decide), if_neg (by decide), if_neg (by decide), if_neg (by decide), if_neg (by decide), if_pos (by decide), ob, obs]) (by rw [mD_17, F_Mod_hold, f19, ib_t hd (by decide), if_neg (by decide), if_neg (by decide), if_neg (by decide), if_pos (by decide), nI_clamp (by omega), obs, obs, ev])
theorem op18_s {V0 U0 V U : gx_M} {B : Nat} {C : Nat × Nat} {d gt ht lg rf cd p z : Nat} {g h L R : Nat → Nat} {w : Int32} (t : tr V0 U0 B C d g h L R gt ht lg rf V U) (hw : wd V U d cd p z w) (eO : w &&& 31 = nI 18) : ∃ V1 U1, it (13 + 9 * d) (F_Mac_step 1 (13 + 9 * d) V) = some V1 ∧ F_Mod_step 0 U = some U1 ∧ nx V0 U0 B C (sg g d + gt + d + 1) V1 U1 := by
  have hd := t.1.1
  have e19 := t.1.2.2.1
  refine op_e t hw eO (by decide) (by decide) (by decide) (by decide) (by decide) (nD_18 _ _) (rD_18 _ _) (oD_18 _) (pD_18 _) (uD_18 _) (kD_18 _) (fD_18 _ hd hw.1 e19 hw.2.2.2.2.1) ?_ ?_
  · intro hh; constructor
    · intro q; rcases q with q | q | ⟨q, q2⟩ <;> first | omega | exact absurd rfl q2
    · intro q; rcases q with q | q | q <;> first | omega | (first | exact Or.inl (by omega) | exact Or.inr (Or.inl (by omega)) | exact Or.inr (Or.inr ⟨by omega, by decide⟩))
  · intro h1 h2 h3 V2 U2 a
    have h12 : ht < 12 := by have := t.2.2.2.2.2.2.2.2.2.2.2.1; rcases Nat.lt_or_ge ht 12 with q | q; exact q; exact absurd ⟨by omega, by decide⟩ h3
    have f19 := a.1.2.2.1
    have ev : V2 (13 + 9 * d) 3 = U2 9 d := by
      exact a.2.2.2.2.1
    exact pu_fin (x := V2 (13 + 9 * d) 3) a h12 (by omega) (by rw [cD_18, F_Mac_step_368, F_Mac_resultOf, if_neg (by decide), if_neg (by decide), if_neg (by decide), if_neg (by decide), if_neg (by decide), if_neg (by decide), if_pos (by decide), ob, obs]) (by rw [mD_18, F_Mod_hold, f19, ib_t hd (by decide), if_neg (by decide), if_neg (by decide), if_neg (by decide), if_neg (by decide), if_pos (by decide), ib_t hd (by decide), nI_clamp (by omega), obs, obs, ev])
theorem op19_s {V0 U0 V U : gx_M} {B : Nat} {C : Nat × Nat} {d gt ht lg rf cd p z : Nat} {g h L R : Nat → Nat} {w : Int32} (t : tr V0 U0 B C d g h L R gt ht lg rf V U) (hw : wd V U d cd p z w) (eO : w &&& 31 = nI 19) : ∃ V1 U1, it (13 + 9 * d) (F_Mac_step 1 (13 + 9 * d) V) = some V1 ∧ F_Mod_step 0 U = some U1 ∧ nx V0 U0 B C (sg g d + gt + d + 1) V1 U1 := by
  have hd := t.1.1
  have e19 := t.1.2.2.1
  refine op_e t hw eO (by decide) (by decide) (by decide) (by decide) (by decide) (nD_19 _ _) (rD_19 _ _) (oD_19 _) (pD_19 _) (uD_19 _) (kD_19 _) (fD_19 _ hd hw.1 e19 hw.2.2.2.2.1) ?_ ?_
  · intro hh; constructor
    · intro q; rcases q with q | q | ⟨q, q2⟩ <;> first | omega | exact absurd rfl q2
    · intro q; rcases q with q | q | q <;> first | omega | (first | exact Or.inl (by omega) | exact Or.inr (Or.inl (by omega)) | exact Or.inr (Or.inr ⟨by omega, by decide⟩))
  · intro h1 h2 h3 V2 U2 a
    have h12 : ht < 12 := by have := t.2.2.2.2.2.2.2.2.2.2.2.1; rcases Nat.lt_or_ge ht 12 with q | q; exact q; exact absurd ⟨by omega, by decide⟩ h3
    have f19 := a.1.2.2.1
    have ev : V2 (13 + 9 * d) 4 = U2 10 d := by
      exact a.2.2.2.2.2.1
    exact pu_fin (x := V2 (13 + 9 * d) 4) a h12 (by omega) (by rw [cD_19, F_Mac_step_368, F_Mac_resultOf, if_neg (by decide), if_neg (by decide), if_neg (by decide), if_neg (by decide), if_neg (by decide), if_neg (by decide), if_neg (by decide), if_pos (by decide), ob, obs]) (by rw [mD_19, F_Mod_hold, f19, ib_t hd (by decide), if_neg (by decide), if_neg (by decide), if_neg (by decide), if_neg (by decide), if_neg (by decide), if_pos (by decide), ib_t hd (by decide), nI_clamp (by omega), obs, obs, ev])
theorem op20_s {V0 U0 V U : gx_M} {B : Nat} {C : Nat × Nat} {d gt ht lg rf cd p z : Nat} {g h L R : Nat → Nat} {w : Int32} (t : tr V0 U0 B C d g h L R gt ht lg rf V U) (hw : wd V U d cd p z w) (eO : w &&& 31 = nI 20) : ∃ V1 U1, it (13 + 9 * d) (F_Mac_step 1 (13 + 9 * d) V) = some V1 ∧ F_Mod_step 0 U = some U1 ∧ nx V0 U0 B C (sg g d + gt + d + 1) V1 U1 := by
  have hd := t.1.1
  have e19 := t.1.2.2.1
  refine op_e t hw eO (by decide) (by decide) (by decide) (by decide) (by decide) (nD_20 _ _) (rD_20 _ _) (oD_20 _) (pD_20 _) (uD_20 _) (kD_20 _) (fD_20 _ hd hw.1 e19 hw.2.2.2.2.1) ?_ ?_
  · intro hh; constructor
    · intro q; rcases q with q | q | ⟨q, q2⟩ <;> first | omega | exact absurd rfl q2
    · intro q; rcases q with q | q | q <;> first | omega | (first | exact Or.inl (by omega) | exact Or.inr (Or.inl (by omega)) | exact Or.inr (Or.inr ⟨by omega, by decide⟩))
  · intro h1 h2 h3 V2 U2 a
    have h12 : ht < 12 := by have := t.2.2.2.2.2.2.2.2.2.2.2.1; rcases Nat.lt_or_ge ht 12 with q | q; exact q; exact absurd ⟨by omega, by decide⟩ h3
    have f19 := a.1.2.2.1
    have ev : V2 (13 + 9 * d) 5 = U2 11 d := by
      exact a.2.2.2.2.2.2.1
    exact pu_fin (x := V2 (13 + 9 * d) 5) a h12 (by omega) (by rw [cD_20, F_Mac_step_368, F_Mac_resultOf, if_neg (by decide), if_neg (by decide), if_neg (by decide), if_neg (by decide), if_neg (by decide), if_neg (by decide), if_neg (by decide), if_neg (by decide), if_pos (by decide), ob, obs]) (by rw [mD_20, F_Mod_hold, f19, ib_t hd (by decide), if_neg (by decide), if_neg (by decide), if_neg (by decide), if_neg (by decide), if_neg (by decide), if_neg (by decide), if_pos (by decide), ib_t hd (by decide), nI_clamp (by omega), obs, obs, ev])
theorem op21_s {V0 U0 V U : gx_M} {B : Nat} {C : Nat × Nat} {d gt ht lg rf cd p z : Nat} {g h L R : Nat → Nat} {w : Int32} (t : tr V0 U0 B C d g h L R gt ht lg rf V U) (hw : wd V U d cd p z w) (eO : w &&& 31 = nI 21) : ∃ V1 U1, it (13 + 9 * d) (F_Mac_step 1 (13 + 9 * d) V) = some V1 ∧ F_Mod_step 0 U = some U1 ∧ nx V0 U0 B C (sg g d + gt + d + 1) V1 U1 := by
  have hd := t.1.1
  have e19 := t.1.2.2.1
  refine op_e t hw eO (by decide) (by decide) (by decide) (by decide) (by decide) (nD_21 _ _) (rD_21 _ _) (oD_21 _) (pD_21 _) (uD_21 _) (kD_21 _) (fD_21 _ hd hw.1 e19 hw.2.2.2.2.1) ?_ ?_
  · intro hh; constructor
    · intro q; rcases q with q | q | ⟨q, q2⟩ <;> first | omega | exact absurd rfl q2
    · intro q; rcases q with q | q | q <;> first | omega | (first | exact Or.inl (by omega) | exact Or.inr (Or.inl (by omega)) | exact Or.inr (Or.inr ⟨by omega, by decide⟩))
  · intro h1 h2 h3 V2 U2 a
    have h12 : ht < 12 := by have := t.2.2.2.2.2.2.2.2.2.2.2.1; rcases Nat.lt_or_ge ht 12 with q | q; exact q; exact absurd ⟨by omega, by decide⟩ h3
    have f19 := a.1.2.2.1
    have ev : V2 (13 + 9 * d) 6 = U2 12 d := by
      rw [a.2.2.2.2.2.2.2.1, a.2.2.2.2.2.2.2.2.1]
    exact pu_fin (x := V2 (13 + 9 * d) 6) a h12 (by omega) (by rw [cD_21, F_Mac_step_368, F_Mac_resultOf, if_neg (by decide), if_neg (by decide), if_neg (by decide), if_neg (by decide), if_neg (by decide), if_neg (by decide), if_neg (by decide), if_neg (by decide), if_neg (by decide), if_pos (by decide), ob, obs]) (by rw [mD_21, F_Mod_hold, f19, ib_t hd (by decide), if_neg (by decide), if_neg (by decide), if_neg (by decide), if_neg (by decide), if_neg (by decide), if_neg (by decide), if_neg (by decide), ib_t hd (by decide), nI_clamp (by omega), obs, obs, ev])
theorem op2_s {V0 U0 V U : gx_M} {B : Nat} {C : Nat × Nat} {d gt ht lg rf cd p z : Nat} {g h L R : Nat → Nat} {w : Int32} (t : tr V0 U0 B C d g h L R gt ht lg rf V U) (hw : wd V U d cd p z w) (eO : w &&& 31 = nI 2) : ∃ V1 U1, it (13 + 9 * d) (F_Mac_step 1 (13 + 9 * d) V) = some V1 ∧ F_Mod_step 0 U = some U1 ∧ nx V0 U0 B C (sg g d + gt + d + 1) V1 U1 := by
  have hd := t.1.1
  have e19 := t.1.2.2.1
  refine op_e t hw eO (by decide) (by decide) (by decide) (by decide) (by decide) (nD_2 _ _) (rD_2 _ _) (oD_2 _) (pD_2 _) (uD_2 _) (kD_2 _) (fD_2 _ hd hw.1 e19 hw.2.2.2.2.1) ?_ ?_
  · intro hh; constructor
    · intro q; rcases q with q | q | ⟨q, q2⟩ <;> first | omega | exact absurd rfl q2
    · intro q; rcases q with q | q | q <;> first | omega | (first | exact Or.inl (by omega) | exact Or.inr (Or.inl (by omega)) | exact Or.inr (Or.inr ⟨by omega, by decide⟩))
  · intro h1 h2 h3 V2 U2 a
    have h12 := a.2.2.2.2.2.2.2.2.2.2.2.1
    exact fin (pop_t (h' := ht - 1) a (by omega)) (by omega) (by rw [cD_2, popC0 a.2 (by omega), ob]) (by rw [mD_2, F_Mod_shuffle, if_neg (by decide), if_pos (by decide), popM0 a (by omega), ob, ob])
theorem op5_s {V0 U0 V U : gx_M} {B : Nat} {C : Nat × Nat} {d gt ht lg rf cd p z : Nat} {g h L R : Nat → Nat} {w : Int32} (t : tr V0 U0 B C d g h L R gt ht lg rf V U) (hw : wd V U d cd p z w) (eO : w &&& 31 = nI 5) : ∃ V1 U1, it (13 + 9 * d) (F_Mac_step 1 (13 + 9 * d) V) = some V1 ∧ F_Mod_step 0 U = some U1 ∧ nx V0 U0 B C (sg g d + gt + d + 1) V1 U1 := by
  have hd := t.1.1
  have e19 := t.1.2.2.1
  refine op_e t hw eO (by decide) (by decide) (by decide) (by decide) (by decide) (nD_5 _ _) (rD_5 _ _) (oD_5 _) (pD_5 _) (uD_5 _) (kD_5 _) (fD_5 _ hd hw.1 e19 hw.2.2.2.2.1) ?_ ?_
  · intro hh; constructor
    · intro q; rcases q with q | q | ⟨q, q2⟩ <;> first | omega | exact absurd rfl q2
    · intro q; rcases q with q | q | q <;> first | omega | (first | exact Or.inl (by omega) | exact Or.inr (Or.inl (by omega)) | exact Or.inr (Or.inr ⟨by omega, by decide⟩))
  · intro h1 h2 h3 V2 U2 a
    have h12 := a.2.2.2.2.2.2.2.2.2.2.2.1
    have hs := a.2.2.2.2.2.2.2.2.2.2.2.2.2
    have f19 := a.1.2.2.1
    have y1 := hs (ht - 1) (by omega)
    have y2 := hs (ht - 1 - 1) (by omega)
    have a2 := pop_t (h' := ht - 1 - 1) a (by omega)
    have cC : cb 1 (13 + 9 * d) (nI 5) (w >>> ((5 : Int32) &&& 31)) V2 = ((F_Mac_reckon (nI 5) (V2 (14 + 9 * d) (ht - 1 - 1)) (V2 (14 + 9 * d) (ht - 1)) (gx_u V2 (13 + 9 * d) 8 (nI (ht - 1 - 1)))).bind fun q3 => F_Frm_push (13 + 9 * d) q3.1 q3.2) := by
      rw [cD_5, F_Mac_step_368, F_Mac_resultOf, if_neg (by decide), if_neg (by decide), if_neg (by decide), if_neg (by decide), if_neg (by decide), if_neg (by decide), if_neg (by decide), if_neg (by decide), if_neg (by decide), if_neg (by decide), F_Mac_resultOf_174, popC0 a.2 (by omega), ob, popC1 (by omega) (by omega), ob]
      cases F_Mac_reckon (nI 5) (V2 (14 + 9 * d) (ht - 1 - 1)) (V2 (14 + 9 * d) (ht - 1)) (gx_u V2 (13 + 9 * d) 8 (nI (ht - 1 - 1))) with
      | none => rfl
      | some q => rw [ob, ob, obs]; rfl
    exact pu_fin (x := V2 (14 + 9 * d) (ht - 1 - 1) + V2 (14 + 9 * d) (ht - 1)) a2 (by omega) (by omega) (by rw [cC, F_Mac_reckon, if_pos (by decide), ob]) (by rw [mD_5, F_Mod_reckon, popM0 a (by omega), ob, if_neg (by decide), popM1 hd (by omega) (by omega) f19, ob, if_pos (by decide), obs, obs, ← y1, ← y2])
theorem op6_s {V0 U0 V U : gx_M} {B : Nat} {C : Nat × Nat} {d gt ht lg rf cd p z : Nat} {g h L R : Nat → Nat} {w : Int32} (t : tr V0 U0 B C d g h L R gt ht lg rf V U) (hw : wd V U d cd p z w) (eO : w &&& 31 = nI 6) : ∃ V1 U1, it (13 + 9 * d) (F_Mac_step 1 (13 + 9 * d) V) = some V1 ∧ F_Mod_step 0 U = some U1 ∧ nx V0 U0 B C (sg g d + gt + d + 1) V1 U1 := by
  have hd := t.1.1
  have e19 := t.1.2.2.1
  refine op_e t hw eO (by decide) (by decide) (by decide) (by decide) (by decide) (nD_6 _ _) (rD_6 _ _) (oD_6 _) (pD_6 _) (uD_6 _) (kD_6 _) (fD_6 _ hd hw.1 e19 hw.2.2.2.2.1) ?_ ?_
  · intro hh; constructor
    · intro q; rcases q with q | q | ⟨q, q2⟩ <;> first | omega | exact absurd rfl q2
    · intro q; rcases q with q | q | q <;> first | omega | (first | exact Or.inl (by omega) | exact Or.inr (Or.inl (by omega)) | exact Or.inr (Or.inr ⟨by omega, by decide⟩))
  · intro h1 h2 h3 V2 U2 a
    have h12 := a.2.2.2.2.2.2.2.2.2.2.2.1
    have hs := a.2.2.2.2.2.2.2.2.2.2.2.2.2
    have f19 := a.1.2.2.1
    have y1 := hs (ht - 1) (by omega)
    have y2 := hs (ht - 1 - 1) (by omega)
    have a2 := pop_t (h' := ht - 1 - 1) a (by omega)
    have cC : cb 1 (13 + 9 * d) (nI 6) (w >>> ((5 : Int32) &&& 31)) V2 = ((F_Mac_reckon (nI 6) (V2 (14 + 9 * d) (ht - 1 - 1)) (V2 (14 + 9 * d) (ht - 1)) (gx_u V2 (13 + 9 * d) 8 (nI (ht - 1 - 1)))).bind fun q3 => F_Frm_push (13 + 9 * d) q3.1 q3.2) := by
      rw [cD_6, F_Mac_step_368, F_Mac_resultOf, if_neg (by decide), if_neg (by decide), if_neg (by decide), if_neg (by decide), if_neg (by decide), if_neg (by decide), if_neg (by decide), if_neg (by decide), if_neg (by decide), if_neg (by decide), F_Mac_resultOf_174, popC0 a.2 (by omega), ob, popC1 (by omega) (by omega), ob]
      cases F_Mac_reckon (nI 6) (V2 (14 + 9 * d) (ht - 1 - 1)) (V2 (14 + 9 * d) (ht - 1)) (gx_u V2 (13 + 9 * d) 8 (nI (ht - 1 - 1))) with
      | none => rfl
      | some q => rw [ob, ob, obs]; rfl
    exact pu_fin (x := V2 (14 + 9 * d) (ht - 1 - 1) - V2 (14 + 9 * d) (ht - 1)) a2 (by omega) (by omega) (by rw [cC, F_Mac_reckon, if_neg (by decide), if_pos (by decide), ob]) (by rw [mD_6, F_Mod_reckon, popM0 a (by omega), ob, if_neg (by decide), popM1 hd (by omega) (by omega) f19, ob, if_neg (by decide), if_pos (by decide), obs, obs, ← y1, ← y2])
theorem op7_s {V0 U0 V U : gx_M} {B : Nat} {C : Nat × Nat} {d gt ht lg rf cd p z : Nat} {g h L R : Nat → Nat} {w : Int32} (t : tr V0 U0 B C d g h L R gt ht lg rf V U) (hw : wd V U d cd p z w) (eO : w &&& 31 = nI 7) : ∃ V1 U1, it (13 + 9 * d) (F_Mac_step 1 (13 + 9 * d) V) = some V1 ∧ F_Mod_step 0 U = some U1 ∧ nx V0 U0 B C (sg g d + gt + d + 1) V1 U1 := by
  have hd := t.1.1
  have e19 := t.1.2.2.1
  refine op_e t hw eO (by decide) (by decide) (by decide) (by decide) (by decide) (nD_7 _ _) (rD_7 _ _) (oD_7 _) (pD_7 _) (uD_7 _) (kD_7 _) (fD_7 _ hd hw.1 e19 hw.2.2.2.2.1) ?_ ?_
  · intro hh; constructor
    · intro q; rcases q with q | q | ⟨q, q2⟩ <;> first | omega | exact absurd rfl q2
    · intro q; rcases q with q | q | q <;> first | omega | (first | exact Or.inl (by omega) | exact Or.inr (Or.inl (by omega)) | exact Or.inr (Or.inr ⟨by omega, by decide⟩))
  · intro h1 h2 h3 V2 U2 a
    have h12 := a.2.2.2.2.2.2.2.2.2.2.2.1
    have hs := a.2.2.2.2.2.2.2.2.2.2.2.2.2
    have f19 := a.1.2.2.1
    have y1 := hs (ht - 1) (by omega)
    have y2 := hs (ht - 1 - 1) (by omega)
    have a2 := pop_t (h' := ht - 1 - 1) a (by omega)
    have cC : cb 1 (13 + 9 * d) (nI 7) (w >>> ((5 : Int32) &&& 31)) V2 = ((F_Mac_reckon (nI 7) (V2 (14 + 9 * d) (ht - 1 - 1)) (V2 (14 + 9 * d) (ht - 1)) (gx_u V2 (13 + 9 * d) 8 (nI (ht - 1 - 1)))).bind fun q3 => F_Frm_push (13 + 9 * d) q3.1 q3.2) := by
      rw [cD_7, F_Mac_step_368, F_Mac_resultOf, if_neg (by decide), if_neg (by decide), if_neg (by decide), if_neg (by decide), if_neg (by decide), if_neg (by decide), if_neg (by decide), if_neg (by decide), if_neg (by decide), if_neg (by decide), F_Mac_resultOf_174, popC0 a.2 (by omega), ob, popC1 (by omega) (by omega), ob]
      cases F_Mac_reckon (nI 7) (V2 (14 + 9 * d) (ht - 1 - 1)) (V2 (14 + 9 * d) (ht - 1)) (gx_u V2 (13 + 9 * d) 8 (nI (ht - 1 - 1))) with
      | none => rfl
      | some q => rw [ob, ob, obs]; rfl
    exact pu_fin (x := V2 (14 + 9 * d) (ht - 1 - 1) * V2 (14 + 9 * d) (ht - 1)) a2 (by omega) (by omega) (by rw [cC, F_Mac_reckon, if_neg (by decide), if_neg (by decide), if_pos (by decide), ob]) (by rw [mD_7, F_Mod_reckon, popM0 a (by omega), ob, if_neg (by decide), popM1 hd (by omega) (by omega) f19, ob, if_neg (by decide), if_neg (by decide), if_pos (by decide), obs, obs, ← y1, ← y2])
theorem op8_s {V0 U0 V U : gx_M} {B : Nat} {C : Nat × Nat} {d gt ht lg rf cd p z : Nat} {g h L R : Nat → Nat} {w : Int32} (t : tr V0 U0 B C d g h L R gt ht lg rf V U) (hw : wd V U d cd p z w) (eO : w &&& 31 = nI 8) : ∃ V1 U1, it (13 + 9 * d) (F_Mac_step 1 (13 + 9 * d) V) = some V1 ∧ F_Mod_step 0 U = some U1 ∧ nx V0 U0 B C (sg g d + gt + d + 1) V1 U1 := by
  have hd := t.1.1
  have e19 := t.1.2.2.1
  refine op_e t hw eO (by decide) (by decide) (by decide) (by decide) (by decide) (nD_8 _ _) (rD_8 _ _) (oD_8 _) (pD_8 _) (uD_8 _) (kD_8 _) (fD_8 _ hd hw.1 e19 hw.2.2.2.2.1) ?_ ?_
  · intro hh; constructor
    · intro q; rcases q with q | q | ⟨q, q2⟩ <;> first | omega | exact absurd rfl q2
    · intro q; rcases q with q | q | q <;> first | omega | (first | exact Or.inl (by omega) | exact Or.inr (Or.inl (by omega)) | exact Or.inr (Or.inr ⟨by omega, by decide⟩))
  · intro h1 h2 h3 V2 U2 a
    have h12 := a.2.2.2.2.2.2.2.2.2.2.2.1
    have hs := a.2.2.2.2.2.2.2.2.2.2.2.2.2
    have f19 := a.1.2.2.1
    have y1 := hs (ht - 1) (by omega)
    have y2 := hs (ht - 1 - 1) (by omega)
    have a2 := pop_t (h' := ht - 1 - 1) a (by omega)
    have cC : cb 1 (13 + 9 * d) (nI 8) (w >>> ((5 : Int32) &&& 31)) V2 = ((F_Mac_reckon (nI 8) (V2 (14 + 9 * d) (ht - 1 - 1)) (V2 (14 + 9 * d) (ht - 1)) (gx_u V2 (13 + 9 * d) 8 (nI (ht - 1 - 1)))).bind fun q3 => F_Frm_push (13 + 9 * d) q3.1 q3.2) := by
      rw [cD_8, F_Mac_step_368, F_Mac_resultOf, if_neg (by decide), if_neg (by decide), if_neg (by decide), if_neg (by decide), if_neg (by decide), if_neg (by decide), if_neg (by decide), if_neg (by decide), if_neg (by decide), if_neg (by decide), F_Mac_resultOf_174, popC0 a.2 (by omega), ob, popC1 (by omega) (by omega), ob]
      cases F_Mac_reckon (nI 8) (V2 (14 + 9 * d) (ht - 1 - 1)) (V2 (14 + 9 * d) (ht - 1)) (gx_u V2 (13 + 9 * d) 8 (nI (ht - 1 - 1))) with
      | none => rfl
      | some q => rw [ob, ob, obs]; rfl
    by_cases e : V2 (14 + 9 * d) (ht - 1) = 0
    · exact pu_fin (x := 0) a2 (by omega) (by omega) (by rw [cC, F_Mac_reckon, if_neg (by decide), if_neg (by decide), if_neg (by decide), if_pos (by decide), if_pos e, ob]) (by rw [mD_8, F_Mod_reckon, popM0 a (by omega), ob, if_neg (by decide), popM1 hd (by omega) (by omega) f19, ob, if_neg (by decide), if_neg (by decide), if_neg (by decide), if_pos (by decide), ← y1, if_pos e, obs, obs])
    · exact pu_fin (x := V2 (14 + 9 * d) (ht - 1 - 1) / V2 (14 + 9 * d) (ht - 1)) a2 (by omega) (by omega) (by rw [cC, F_Mac_reckon, if_neg (by decide), if_neg (by decide), if_neg (by decide), if_pos (by decide), if_neg e, if_pos e, ob]) (by rw [mD_8, F_Mod_reckon, popM0 a (by omega), ob, if_neg (by decide), popM1 hd (by omega) (by omega) f19, ob, if_neg (by decide), if_neg (by decide), if_neg (by decide), if_pos (by decide), ← y1, ← y2, if_neg e, if_pos e, obs, obs])
theorem op9_s {V0 U0 V U : gx_M} {B : Nat} {C : Nat × Nat} {d gt ht lg rf cd p z : Nat} {g h L R : Nat → Nat} {w : Int32} (t : tr V0 U0 B C d g h L R gt ht lg rf V U) (hw : wd V U d cd p z w) (eO : w &&& 31 = nI 9) : ∃ V1 U1, it (13 + 9 * d) (F_Mac_step 1 (13 + 9 * d) V) = some V1 ∧ F_Mod_step 0 U = some U1 ∧ nx V0 U0 B C (sg g d + gt + d + 1) V1 U1 := by
  have hd := t.1.1
  have e19 := t.1.2.2.1
  refine op_e t hw eO (by decide) (by decide) (by decide) (by decide) (by decide) (nD_9 _ _) (rD_9 _ _) (oD_9 _) (pD_9 _) (uD_9 _) (kD_9 _) (fD_9 _ hd hw.1 e19 hw.2.2.2.2.1) ?_ ?_
  · intro hh; constructor
    · intro q; rcases q with q | q | ⟨q, q2⟩ <;> first | omega | exact absurd rfl q2
    · intro q; rcases q with q | q | q <;> first | omega | (first | exact Or.inl (by omega) | exact Or.inr (Or.inl (by omega)) | exact Or.inr (Or.inr ⟨by omega, by decide⟩))
  · intro h1 h2 h3 V2 U2 a
    have h12 := a.2.2.2.2.2.2.2.2.2.2.2.1
    have hs := a.2.2.2.2.2.2.2.2.2.2.2.2.2
    have f19 := a.1.2.2.1
    have y1 := hs (ht - 1) (by omega)
    have y2 := hs (ht - 1 - 1) (by omega)
    have a2 := pop_t (h' := ht - 1 - 1) a (by omega)
    have cC : cb 1 (13 + 9 * d) (nI 9) (w >>> ((5 : Int32) &&& 31)) V2 = ((F_Mac_reckon (nI 9) (V2 (14 + 9 * d) (ht - 1 - 1)) (V2 (14 + 9 * d) (ht - 1)) (gx_u V2 (13 + 9 * d) 8 (nI (ht - 1 - 1)))).bind fun q3 => F_Frm_push (13 + 9 * d) q3.1 q3.2) := by
      rw [cD_9, F_Mac_step_368, F_Mac_resultOf, if_neg (by decide), if_neg (by decide), if_neg (by decide), if_neg (by decide), if_neg (by decide), if_neg (by decide), if_neg (by decide), if_neg (by decide), if_neg (by decide), if_neg (by decide), F_Mac_resultOf_174, popC0 a.2 (by omega), ob, popC1 (by omega) (by omega), ob]
      cases F_Mac_reckon (nI 9) (V2 (14 + 9 * d) (ht - 1 - 1)) (V2 (14 + 9 * d) (ht - 1)) (gx_u V2 (13 + 9 * d) 8 (nI (ht - 1 - 1))) with
      | none => rfl
      | some q => rw [ob, ob, obs]; rfl
    by_cases e : V2 (14 + 9 * d) (ht - 1) ≤ V2 (14 + 9 * d) (ht - 1 - 1)
    · exact pu_fin (x := 0) a2 (by omega) (by omega) (by rw [cC, F_Mac_reckon, if_neg (by decide), if_neg (by decide), if_neg (by decide), if_neg (by decide), if_pos (by decide), if_pos e, ob]) (by rw [mD_9, F_Mod_reckon, popM0 a (by omega), ob, if_neg (by decide), popM1 hd (by omega) (by omega) f19, ob, if_neg (by decide), if_neg (by decide), if_neg (by decide), if_neg (by decide), if_pos (by decide), ← y1, ← y2, if_pos e, obs, obs])
    · exact pu_fin (x := 1) a2 (by omega) (by omega) (by rw [cC, F_Mac_reckon, if_neg (by decide), if_neg (by decide), if_neg (by decide), if_neg (by decide), if_pos (by decide), if_neg e, ob]) (by rw [mD_9, F_Mod_reckon, popM0 a (by omega), ob, if_neg (by decide), popM1 hd (by omega) (by omega) f19, ob, if_neg (by decide), if_neg (by decide), if_neg (by decide), if_neg (by decide), if_pos (by decide), ← y1, ← y2, if_neg e, obs, obs])
theorem op10_s {V0 U0 V U : gx_M} {B : Nat} {C : Nat × Nat} {d gt ht lg rf cd p z : Nat} {g h L R : Nat → Nat} {w : Int32} (t : tr V0 U0 B C d g h L R gt ht lg rf V U) (hw : wd V U d cd p z w) (eO : w &&& 31 = nI 10) : ∃ V1 U1, it (13 + 9 * d) (F_Mac_step 1 (13 + 9 * d) V) = some V1 ∧ F_Mod_step 0 U = some U1 ∧ nx V0 U0 B C (sg g d + gt + d + 1) V1 U1 := by
  have hd := t.1.1
  have e19 := t.1.2.2.1
  refine op_e t hw eO (by decide) (by decide) (by decide) (by decide) (by decide) (nD_10 _ _) (rD_10 _ _) (oD_10 _) (pD_10 _) (uD_10 _) (kD_10 _) (fD_10 _ hd hw.1 e19 hw.2.2.2.2.1) ?_ ?_
  · intro hh; constructor
    · intro q; rcases q with q | q | ⟨q, q2⟩ <;> first | omega | exact absurd rfl q2
    · intro q; rcases q with q | q | q <;> first | omega | (first | exact Or.inl (by omega) | exact Or.inr (Or.inl (by omega)) | exact Or.inr (Or.inr ⟨by omega, by decide⟩))
  · intro h1 h2 h3 V2 U2 a
    have h12 := a.2.2.2.2.2.2.2.2.2.2.2.1
    have hs := a.2.2.2.2.2.2.2.2.2.2.2.2.2
    have f19 := a.1.2.2.1
    have y1 := hs (ht - 1) (by omega)
    have y2 := hs (ht - 1 - 1) (by omega)
    have a2 := pop_t (h' := ht - 1 - 1) a (by omega)
    have cC : cb 1 (13 + 9 * d) (nI 10) (w >>> ((5 : Int32) &&& 31)) V2 = ((F_Mac_reckon (nI 10) (V2 (14 + 9 * d) (ht - 1 - 1)) (V2 (14 + 9 * d) (ht - 1)) (gx_u V2 (13 + 9 * d) 8 (nI (ht - 1 - 1)))).bind fun q3 => F_Frm_push (13 + 9 * d) q3.1 q3.2) := by
      rw [cD_10, F_Mac_step_368, F_Mac_resultOf, if_neg (by decide), if_neg (by decide), if_neg (by decide), if_neg (by decide), if_neg (by decide), if_neg (by decide), if_neg (by decide), if_neg (by decide), if_neg (by decide), if_neg (by decide), F_Mac_resultOf_174, popC0 a.2 (by omega), ob, popC1 (by omega) (by omega), ob]
      cases F_Mac_reckon (nI 10) (V2 (14 + 9 * d) (ht - 1 - 1)) (V2 (14 + 9 * d) (ht - 1)) (gx_u V2 (13 + 9 * d) 8 (nI (ht - 1 - 1))) with
      | none => rfl
      | some q => rw [ob, ob, obs]; rfl
    by_cases e : V2 (14 + 9 * d) (ht - 1 - 1) = V2 (14 + 9 * d) (ht - 1)
    · exact pu_fin (x := 1) a2 (by omega) (by omega) (by rw [cC, F_Mac_reckon, if_neg (by decide), if_neg (by decide), if_neg (by decide), if_neg (by decide), if_neg (by decide), if_pos (by decide), if_pos e, ob]) (by rw [mD_10, F_Mod_reckon, popM0 a (by omega), ob, if_neg (by decide), popM1 hd (by omega) (by omega) f19, ob, if_neg (by decide), if_neg (by decide), if_neg (by decide), if_neg (by decide), if_neg (by decide), ← y1, ← y2, if_pos e, obs, obs])
    · exact pu_fin (x := 0) a2 (by omega) (by omega) (by rw [cC, F_Mac_reckon, if_neg (by decide), if_neg (by decide), if_neg (by decide), if_neg (by decide), if_neg (by decide), if_pos (by decide), if_neg e, ob]) (by rw [mD_10, F_Mod_reckon, popM0 a (by omega), ob, if_neg (by decide), popM1 hd (by omega) (by omega) f19, ob, if_neg (by decide), if_neg (by decide), if_neg (by decide), if_neg (by decide), if_neg (by decide), ← y1, ← y2, if_neg e, obs, obs])
theorem op11_s {V0 U0 V U : gx_M} {B : Nat} {C : Nat × Nat} {d gt ht lg rf cd p z : Nat} {g h L R : Nat → Nat} {w : Int32} (t : tr V0 U0 B C d g h L R gt ht lg rf V U) (hw : wd V U d cd p z w) (eO : w &&& 31 = nI 11) : ∃ V1 U1, it (13 + 9 * d) (F_Mac_step 1 (13 + 9 * d) V) = some V1 ∧ F_Mod_step 0 U = some U1 ∧ nx V0 U0 B C (sg g d + gt + d + 1) V1 U1 := by
  have hd := t.1.1
  have e19 := t.1.2.2.1
  refine op_e t hw eO (by decide) (by decide) (by decide) (by decide) (by decide) (nD_11 _ _) (rD_11 _ _) (oD_11 _) (pD_11 _) (uD_11 _) (kD_11 _) (fD_11 _ hd hw.1 e19 hw.2.2.2.2.1) ?_ ?_
  · intro hh; constructor
    · intro q; rcases q with q | q | ⟨q, q2⟩ <;> first | omega | exact absurd rfl q2
    · intro q; rcases q with q | q | q <;> first | omega | (first | exact Or.inl (by omega) | exact Or.inr (Or.inl (by omega)) | exact Or.inr (Or.inr ⟨by omega, by decide⟩))
  · intro h1 h2 h3 V2 U2 a
    have h12 := a.2.2.2.2.2.2.2.2.2.2.2.1
    have hs := a.2.2.2.2.2.2.2.2.2.2.2.2.2
    have y1 := hs (ht - 1) (by omega)
    have a2 := pop_t (h' := ht - 1) a (by omega)
    by_cases e : V2 (14 + 9 * d) (ht - 1) = 0
    · exact pu_fin (x := 1) a2 (by omega) (by omega) (by rw [cD_11, F_Mac_step_368, F_Mac_resultOf, if_neg (by decide), if_neg (by decide), if_pos (by decide), popC0 a.2 (by omega), ob, if_pos e, ob, obs]) (by rw [mD_11, F_Mod_reckon, popM0 a (by omega), ob, if_pos (by decide), ← y1, if_pos e, obs, obs])
    · exact pu_fin (x := 0) a2 (by omega) (by omega) (by rw [cD_11, F_Mac_step_368, F_Mac_resultOf, if_neg (by decide), if_neg (by decide), if_pos (by decide), popC0 a.2 (by omega), ob, if_neg e, ob, obs]) (by rw [mD_11, F_Mod_reckon, popM0 a (by omega), ob, if_pos (by decide), ← y1, if_neg e, obs, obs])
theorem op29_s {V0 U0 V U : gx_M} {B : Nat} {C : Nat × Nat} {d gt ht lg rf cd p z : Nat} {g h L R : Nat → Nat} {w : Int32} (t : tr V0 U0 B C d g h L R gt ht lg rf V U) (hw : wd V U d cd p z w) (eO : w &&& 31 = nI 29) : ∃ V1 U1, it (13 + 9 * d) (F_Mac_step 1 (13 + 9 * d) V) = some V1 ∧ F_Mod_step 0 U = some U1 ∧ nx V0 U0 B C (sg g d + gt + d + 1) V1 U1 := by
  have hd := t.1.1
  have e19 := t.1.2.2.1
  have h12 := t.2.2.2.2.2.2.2.2.2.2.2.1
  exact opx_s t hw eO (by decide) (by decide) (by decide) (by decide) (by decide) (nD_29 _ _) (rD_29 _ _) (oD_29 _) (pD_29 _) (uD_29 _) (kD_29 _) (fD_29 _ hd hw.1 e19 hw.2.2.2.2.1) (fun _ => Or.inr (Or.inr (Or.inr (by decide)))) (fun q _ => absurd (Or.inr (Or.inl (by omega))) q) (fun q _ => absurd (Or.inr (Or.inl (by omega))) q)
theorem op30_s {V0 U0 V U : gx_M} {B : Nat} {C : Nat × Nat} {d gt ht lg rf cd p z : Nat} {g h L R : Nat → Nat} {w : Int32} (t : tr V0 U0 B C d g h L R gt ht lg rf V U) (hw : wd V U d cd p z w) (eO : w &&& 31 = nI 30) : ∃ V1 U1, it (13 + 9 * d) (F_Mac_step 1 (13 + 9 * d) V) = some V1 ∧ F_Mod_step 0 U = some U1 ∧ nx V0 U0 B C (sg g d + gt + d + 1) V1 U1 := by
  have hd := t.1.1
  have e19 := t.1.2.2.1
  have h12 := t.2.2.2.2.2.2.2.2.2.2.2.1
  exact opx_s t hw eO (by decide) (by decide) (by decide) (by decide) (by decide) (nD_30 _ _) (rD_30 _ _) (oD_30 _) (pD_30 _) (uD_30 _) (kD_30 _) (fD_30 _ hd hw.1 e19 hw.2.2.2.2.1) (fun _ => Or.inr (Or.inr (Or.inr (by decide)))) (fun q _ => absurd (Or.inr (Or.inl (by omega))) q) (fun q _ => absurd (Or.inr (Or.inl (by omega))) q)
theorem op31_s {V0 U0 V U : gx_M} {B : Nat} {C : Nat × Nat} {d gt ht lg rf cd p z : Nat} {g h L R : Nat → Nat} {w : Int32} (t : tr V0 U0 B C d g h L R gt ht lg rf V U) (hw : wd V U d cd p z w) (eO : w &&& 31 = nI 31) : ∃ V1 U1, it (13 + 9 * d) (F_Mac_step 1 (13 + 9 * d) V) = some V1 ∧ F_Mod_step 0 U = some U1 ∧ nx V0 U0 B C (sg g d + gt + d + 1) V1 U1 := by
  have hd := t.1.1
  have e19 := t.1.2.2.1
  have h12 := t.2.2.2.2.2.2.2.2.2.2.2.1
  exact opx_s t hw eO (by decide) (by decide) (by decide) (by decide) (by decide) (nD_31 _ _) (rD_31 _ _) (oD_31 _) (pD_31 _) (uD_31 _) (kD_31 _) (fD_31 _ hd hw.1 e19 hw.2.2.2.2.1) (fun _ => Or.inr (Or.inr (Or.inr (by decide)))) (fun q _ => absurd (Or.inr (Or.inl (by omega))) q) (fun q _ => absurd (Or.inr (Or.inl (by omega))) q)
