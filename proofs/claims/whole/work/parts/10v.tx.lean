/-- the class's and the reference's choice of what a word does -/
def cb (x0 x1 : Nat) (x3 x4 : Int32) (V2 : gx_M) : Option gx_M := (if x3 = (0 : Int32) then ((F_Frm_end x1 (1 : Int32) (0 : Int32) V2).bind fun q6 => some q6) else (if x3 = (2 : Int32) then ((F_Frm_pop x1 V2).bind fun q7 => some q7.2) else (if x3 = (4 : Int32) then ((F_Frm_swap x1 x4 V2).bind fun q8 => some q8) else (if x3 = (12 : Int32) then ((F_Frm_pop x1 V2).bind fun q9 => ((F_Mac_jump x0 x1 q9.1 q9.2).bind fun q10 => some q10)) else (if x3 = (13 : Int32) then ((F_Mac_jumpIf x0 x1 V2).bind fun q11 => some q11) else (if x3 = (15 : Int32) then ((F_Mac_store x0 x1 V2).bind fun q12 => some q12) else (if x3 = (22 : Int32) then ((F_Mac_callOther x0 x1 V2).bind fun q13 => some q13) else (if x3 = (23 : Int32) then ((F_Mac_delegate x0 x1 V2).bind fun q14 => some q14) else (if x3 = (24 : Int32) then ((F_Mac_create x0 x1 V2).bind fun q15 => some q15) else (if x3 = (25 : Int32) then ((F_Frm_pop x1 V2).bind fun q16 => ((F_Log_add (x0 + 8) (V2 x1 0) q16.1 q16.2).bind fun q17 => some q17)) else (if x3 = (26 : Int32) then ((F_Frm_pop x1 V2).bind fun q18 => ((F_Frm_end x1 (1 : Int32) q18.1 q18.2).bind fun q19 => some q19)) else (if x3 = (27 : Int32) then ((F_Frm_pop x1 V2).bind fun q20 => ((F_Frm_end x1 (0 : Int32) q20.1 q20.2).bind fun q21 => some q21)) else (if x3 = (28 : Int32) then ((F_Mac_endSelf x0 x1 V2).bind fun q22 => some q22) else (F_Mac_step_368   x0 x1 x3 x4 V2))))))))))))))
def mb (x0 : Nat) (x1 x2 : Int32) (V2 : gx_M) : Option gx_M := (if x1 = 0 then (if gx_ib (V2 x0 19) 8 then ((F_Mod_leave x0 (1 : Int32) (0 : Int32) (V2 (x0 + 12) (V2 x0 19).toNatClampNeg) V2).bind fun q16 => some q16) else none) else (if (5 : Int32) ≤ x1 then (if (12 : Int32) ≤ x1 then (if (14 : Int32) ≤ x1 then (if (22 : Int32) ≤ x1 then ((F_Mod_act x0 x1 V2).bind fun q10 => some q10) else ((F_Mod_hold x0 x1 V2).bind fun q11 => some q11)) else ((F_Mod_pop x0 V2).bind fun q12 => (if x1 = (12 : Int32) then (if gx_ib (q12.2 x0 19) 8 then (gx_let (gx_u q12.2 (x0 + 8) (q12.2 x0 19).toNatClampNeg q12.1) fun V3 => some V3) else none) else ((F_Mod_pop x0 q12.2).bind fun q13 => (if q13.1 = 0 then some q13.2 else (if gx_ib (q13.2 x0 19) 8 then (gx_let (gx_u q13.2 (x0 + 8) (q13.2 x0 19).toNatClampNeg q12.1) fun V4 => some V4) else none)))))) else ((F_Mod_reckon x0 x1 V2).bind fun q14 => some q14)) else ((F_Mod_shuffle x0 x1 x2 V2).bind fun q15 => some q15)))
def mr (x0 : Nat) (x1 x2 : Int32) (V : gx_M) : Option gx_M := ((F_Mod_pops x1 V).bind fun q1 => (if (V (x0 + 13) (V x0 19).toNatClampNeg) < q1.1 then ((F_Mod_leave x0 (0 : Int32) (0 : Int32) (0 : Int32) q1.2).bind fun q2 => some q2) else ((F_Mod_pops x1 q1.2).bind fun q3 => ((F_Mod_pushes x1 q3.2).bind fun q4 => (if (12 : Int32) < (((V (x0 + 13) (V x0 19).toNatClampNeg) - q3.1) + q4.1) then ((F_Mod_leave x0 (0 : Int32) (0 : Int32) (0 : Int32) q4.2).bind fun q5 => some q5) else (if gx_ib (q4.2 x0 19) 8 then ((F_Mod_cost x0 x1 q4.2).bind fun q6 => (if (q4.2 (x0 + 12) (q4.2 x0 19).toNatClampNeg) < q6.1 then ((F_Mod_leave x0 (0 : Int32) (0 : Int32) (0 : Int32) q6.2).bind fun q7 => some q7) else ((F_Mod_fails x0 x1 x2 q6.2).bind fun q8 => (if q8.1 = 0 then (if gx_ib (q8.2 x0 19) 8 then ((F_Mod_cost x0 x1 q8.2).bind fun q9 => (if gx_ib (q8.2 x0 19) 8 then (gx_let (gx_u q9.2 (x0 + 12) (q8.2 x0 19).toNatClampNeg ((q8.2 (x0 + 12) (q8.2 x0 19).toNatClampNeg) - q9.1)) fun V1 => (if gx_ib (V1 x0 19) 8 then (if gx_ib (V1 x0 19) 8 then (gx_let (gx_u V1 (x0 + 8) (V1 x0 19).toNatClampNeg ((V1 (x0 + 8) (V1 x0 19).toNatClampNeg) + (1 : Int32))) fun V2 => mb x0 x1 x2 V2) else none) else none)) else none)) else none) else ((F_Mod_leave x0 (0 : Int32) (0 : Int32) (0 : Int32) q8.2).bind fun q17 => some q17))))) else none))))))
theorem msA {U : gx_M} {d cd p z : Nat} (hd : d < 8) (hc : cd < 16) (hp : p ≤ 24) (hz : z ≤ 24) (e19 : U 0 19 = nI d) (e7 : U 7 d = nI cd) (e8 : U 8 d = nI p) (ez : U 1 (36 * cd + 2) = nI z) : F_Mod_step 0 U = if p < z then mr 0 (U 1 (36 * cd + 3 + p) &&& 31) (U 1 (36 * cd + 3 + p) >>> ((5 : Int32) &&& 31)) U else F_Mod_leave 0 1 0 (U 12 d) U := by
  have i2 : (36 : Int32) * nI cd + 2 = nI (36 * cd + 2) := by rw [m36, show (2 : Int32) = nI 2 from rfl, nI_add]
  have i3 : (36 : Int32) * nI cd + 3 + nI p = nI (36 * cd + 3 + p) := by rw [m36, show (3 : Int32) = nI 3 from rfl, nI_add, nI_add]
  unfold F_Mod_step
  simp only [e19, e7, e8, i2, i3, ib_t hd (show 8 < 2 ^ 31 by decide), nI_clamp (show d < 2 ^ 31 by omega), Nat.zero_add, ib_t (show 36 * cd + 2 < 576 by omega) (show 576 < 2 ^ 31 by decide), nI_clamp (show 36 * cd + 2 < 2 ^ 31 by omega), ez]
  by_cases h : p < z
  · rw [if_pos (nI_lt h (by omega)), if_pos h, ib_t (show 36 * cd + 3 + p < 576 by omega) (by decide), nI_clamp (show 36 * cd + 3 + p < 2 ^ 31 by omega)]
    unfold mr mb
    simp only [e19, nI_clamp (show d < 2 ^ 31 by omega), Nat.zero_add]
  · rw [if_neg (nI_nlt (by omega) (by omega)), if_neg h, obs]
theorem mrA {U : gx_M} {d h gt p po pu pr : Nat} {O a fl : Int32} (hd : d < 8) (hh : h ≤ 12) (hpo : po ≤ 4) (hpu : pu ≤ 2) (hpr : pr < 2 ^ 30) (hgt : gt < 2 ^ 30) (hp : p ≤ 24) (e19 : U 0 19 = nI d) (e12 : U 12 d = nI gt) (e13 : U 13 d = nI h) (e8 : U 8 d = nI p) (q1 : F_Mod_pops O U = some (nI po, U)) (q2 : F_Mod_pushes O U = some (nI pu, U)) (q3 : F_Mod_cost 0 O U = some (nI pr, U)) (q4 : F_Mod_fails 0 O a U = some (fl, U)) : mr 0 O a U = if h < po ∨ 12 < h - po + pu ∨ gt < pr ∨ ¬ fl = 0 then F_Mod_leave 0 0 0 0 U else mb 0 O a (gx_u (gx_u U 12 d (nI (gt - pr))) 8 d (nI (p + 1))) := by
  unfold mr
  simp only [q1, ob, e19, nI_clamp (show d < 2 ^ 31 by omega), Nat.zero_add, e13, q2, q3, q4, ib_t hd (show 8 < 2 ^ 31 by decide), e12, obs]
  by_cases h1 : h < po
  · rw [if_pos (nI_lt h1 (by omega)), if_pos (Or.inl h1)]
  rw [if_neg (nI_nlt (by omega) (by omega)), pk_sub (by omega), nI_add]
  by_cases h2 : 12 < h - po + pu
  · rw [if_pos (show (12 : Int32) < nI (h - po + pu) from nI_lt (a := 12) h2 (by omega)), if_pos (Or.inr (Or.inl h2))]
  rw [if_neg (show ¬ (12 : Int32) < nI (h - po + pu) from nI_nlt (a := 12) (by omega) (by decide))]
  by_cases h3 : gt < pr
  · rw [if_pos (nI_lt h3 (by omega)), if_pos (Or.inr (Or.inr (Or.inl h3)))]
  rw [if_neg (nI_nlt (by omega) (by omega))]
  by_cases h4 : fl = 0
  · rw [if_pos h4, if_neg (by intro q; rcases q with q | q | q | q <;> first | exact h1 q | exact h2 q | exact h3 q | exact q h4)]
    have o : ∀ x, gx_u U 12 d x 0 19 = nI d := fun x => by rw [gx_uK (by decide)]; exact e19
    have o8 : ∀ x, gx_u U 12 d x 8 d = nI p := fun x => by rw [gx_uK (by decide)]; exact e8
    rw [pk_sub (by omega), gl]
    simp only [o, o8, ib_t hd (show 8 < 2 ^ 31 by decide), gl, nI_clamp (show d < 2 ^ 31 by omega), nI_1]
  · rw [if_neg h4, if_pos (Or.inr (Or.inr (Or.inr h4)))]
theorem wordC {V : gx_M} {cd p z : Nat} (hc : cd < 16) (hp : p ≤ 24) (hz : z ≤ 24) (ez : V 5 cd = nI z) : F_Acc_wordOf 2 (nI cd) (nI p) V = some (if p < z then V 6 (24 * cd + p) else 0, V) := by
  unfold F_Acc_wordOf
  simp only [acc_yes hc, ob, one0, if_false, nlt0 (show p < 2 ^ 31 by omega), ib_t hc (show 16 < 2 ^ 31 by decide), nI_clamp (show cd < 2 ^ 31 by omega), Nat.reduceAdd, ez, m24, nI_add]
  by_cases h : p < z
  · rw [if_pos (nI_lt h (by omega)), if_pos h, ib_t (by omega) (by decide), nI_clamp (by omega), Nat.mul_comm cd 24]
  · rw [if_neg (nI_nlt (by omega) (by omega)), if_neg h]
theorem c55 {V : gx_M} {c h gt p nd pr : Nat} {O a s0 : Int32} (hh : h ≤ 12) (hnd : nd < 2 ^ 30) (hpr : pr < 2 ^ 30) (hgt : gt < 2 ^ 30) (e6 : V c 6 = nI gt) (e8 : V c 8 = nI h) (e2 : V c 2 = nI p) (q1 : F_Mac_needsOf O a V = some (nI nd, V)) : F_Mac_step_55 1 c O a (nI pr) s0 V = if gt < pr ∨ h < nd ∨ ¬ s0 = 0 then F_Frm_fail c V else cb 1 c O a (gx_u (gx_u V c 6 (nI (gt - pr))) c 2 (nI (p + 1))) := by
  have o2 : ∀ x, gx_u V c 6 x c 2 = nI p := fun x => by rw [gx_up (by decide)]; exact e2
  unfold F_Mac_step_55
  rw [e6, q1, ob, e8, obs]
  by_cases h1 : gt < pr
  · rw [if_pos (nI_lt h1 (by omega)), if_pos (Or.inl h1)]
  rw [if_neg (nI_nlt (by omega) (by omega))]
  by_cases h2 : h < nd
  · rw [if_pos (nI_lt h2 (by omega)), if_pos (Or.inr (Or.inl h2))]
  rw [if_neg (nI_nlt (by omega) (by omega))]
  by_cases h3 : s0 = 0
  · rw [if_pos h3, if_neg (by intro q; rcases q with q | q | q <;> first | exact h1 q | exact h2 q | exact q h3)]
    dsimp only
    rw [e6, pk_sub (by omega), gl, o2, gl, nI_1, cb]
  · rw [if_neg h3, if_pos (Or.inr (Or.inr h3))]
theorem csA {V : gx_M} {c h gt p nd pr cd z : Nat} {O w op : Int32} (hh : h ≤ 12) (hnd : nd < 2 ^ 30) (hpr : pr < 2 ^ 30) (hgt : gt < 2 ^ 30) (hc : cd < 16) (hp : p ≤ 24) (hz : z ≤ 24) (e1 : V c 1 = nI cd) (e6 : V c 6 = nI gt) (e8 : V c 8 = nI h) (e2 : V c 2 = nI p) (ez : V 5 cd = nI z) (ew : (if p < z then V 6 (24 * cd + p) else 0) = w) (eO : w &&& 31 = O) (q1 : F_Mac_needsOf O (w >>> ((5 : Int32) &&& 31)) V = some (nI nd, V)) (q2 : F_Mac_priceOf 1 c O V = some (nI pr, V)) (q3 : F_Mac_onlyPushes O V = some (op, V)) : F_Mac_step 1 c V = if gt < pr ∨ h < nd ∨ (h = 12 ∧ ¬ op = 0) then F_Frm_fail c V else cb 1 c O (w >>> ((5 : Int32) &&& 31)) (gx_u (gx_u V c 6 (nI (gt - pr))) c 2 (nI (p + 1))) := by
  have k := fun s0 => c55 (s0 := s0) hh hnd hpr hgt e6 e8 e2 q1
  unfold F_Mac_step
  rw [show (1 + 1 : Nat) = 2 from rfl, e1, e2, wordC hc hp hz ez, ob, ew]
  simp only [eO, q2, ob, F_Mac_step_54, e8, q3]
  rw [k 0, k 1]
  by_cases h12 : h = 12
  · subst h12
    rw [if_pos (show nI 12 = (12 : Int32) from rfl)]
    by_cases ho : op = 0
    · rw [if_pos ho]
      by_cases hx : gt < pr ∨ 12 < nd
      · rw [if_pos (by rcases hx with q | q <;> simp [q]), if_pos (by rcases hx with q | q <;> simp [q])]
      · rw [if_neg (by intro q; rcases q with q | q | q; exact hx (Or.inl q); exact hx (Or.inr q); exact q rfl), if_neg (by intro q; rcases q with q | q | q; exact hx (Or.inl q); exact hx (Or.inr q); exact q.2 ho)]
    · rw [if_neg ho, if_pos (Or.inr (Or.inr (by decide))), if_pos (Or.inr (Or.inr ⟨rfl, ho⟩))]
  · rw [if_neg (show ¬ nI h = (12 : Int32) from fun q => h12 ((nI_eq (b := 12) (by omega) (by decide)).mp q))]
    by_cases hx : gt < pr ∨ h < nd
    · rw [if_pos (by rcases hx with q | q <;> simp [q]), if_pos (by rcases hx with q | q <;> simp [q])]
    · rw [if_neg (by intro q; rcases q with q | q | q; exact hx (Or.inl q); exact hx (Or.inr q); exact q rfl), if_neg (by intro q; rcases q with q | q | q; exact hx (Or.inl q); exact hx (Or.inr q); exact h12 q.1)]
