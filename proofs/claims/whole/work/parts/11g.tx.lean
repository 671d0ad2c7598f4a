theorem op23_s {V0 U0 V U : gx_M} {B : Nat} {C : Nat × Nat} {d gt ht lg rf cd p z : Nat} {g h L R : Nat → Nat} {w : Int32} (t : tr V0 U0 B C d g h L R gt ht lg rf V U) (hw : wd V U d cd p z w) (eO : w &&& 31 = nI 23) (hB : B < 2 ^ 31) : ∃ V1 U1, it (13 + 9 * d) (F_Mac_step 1 (13 + 9 * d) V) = some V1 ∧ F_Mod_step 0 U = some U1 ∧ nx V0 U0 B C (sg g d + gt + d + 1) V1 U1 := by
  have hd := t.1.1
  have e19 := t.1.2.2.1
  refine op_e t hw eO (by decide) (by decide) (by decide) (by decide) (by decide) (nD_23 _ _) (rD_23 _ _) (oD_23 _) (pD_23 _) (uD_23 _) (kD_23 _) (fD_23 _ hd hw.1 e19 hw.2.2.2.2.1) ?_ ?_
  · intro hh; constructor
    · intro q; rcases q with q | q | ⟨q, q2⟩ <;> first | omega | exact absurd rfl q2
    · intro q; rcases q with q | q | q <;> first | omega | exact Or.inr (Or.inl (by omega))
  intro hg h3' _ VA UA a
  have h12 := a.2.2.2.2.2.2.2.2.2.2.2.1
  have f19 := a.1.2.2.1
  have st := a.2.2.2.2.2.2.2.2.2.2.2.2.2
  have c1 := st (ht - 1) (by omega)
  have c2 := st (ht - 1 - 1) (by omega)
  have c4 := st (ht - 1 - 1 - 1) (by omega)
  have pC1 := popC0 a.2 (show 0 < ht by omega)
  have pC2 := popC1 (V := VA) (d := d) (h := ht - 1) (by omega) (by omega)
  have pC3 := popC1 (V := VA) (d := d) (h := ht - 1 - 1) (by omega) (by omega)
  have pM := popM0 a (show 0 < ht by omega)
  have pM2 := popM1 (h := ht - 1) hd (show 0 < ht - 1 by omega) (by omega) f19
  have pM4 := popM1 (h := ht - 1 - 1) hd (show 0 < ht - 1 - 1 by omega) (by omega) f19
  rw [← c1] at pM
  rw [← c2] at pM2
  rw [← c4] at pM4
  have a4 := pop_t (h' := ht - 1 - 1 - 1) a (by omega)
  have bb := t.1.2.2.2.2.2.2.2.1
  obtain ⟨me, hme, meV0, meU⟩ := a.2.1
  have meV : gx_u VA (13 + 9 * d) 8 (nI (ht - 1 - 1 - 1)) (13 + 9 * d) 0 = nI me := by rw [gx_up (by decide)]; exact meV0
  generalize VA (14 + 9 * d) (ht - 1) = x1 at *
  generalize VA (14 + 9 * d) (ht - 1 - 1) = x2 at *
  generalize VA (14 + 9 * d) (ht - 1 - 1 - 1) = x4 at *
  generalize hVB : gx_u VA (13 + 9 * d) 8 (nI (ht - 1 - 1 - 1)) = VB at *
  generalize hUB : gx_u UA 13 d (nI (ht - 1 - 1 - 1)) = UB at *
  have g19 := a4.1.2.2.1
  have g3 := a4.1.2.1
  have g12 := a4.2.2.2.2.2.2.2.2.1
  have gc6 := a4.2.2.2.2.2.2.2.1
  have ecl := a4.2.2.2.2.1
  have evl := a4.2.2.2.2.2.1
  have xb : VB 3 me = UB 1 (36 * me) := by have := (a4.1.2.2.2.1.2.2.2.1 me hme).1; rw [Nat.zero_add] at this; exact this
  have hnn : ¬ VB 3 me < 0 := by
    obtain ⟨f, f1, f2⟩ := a4.1.2.2.2.1.2.2.2.2.1
    have fa := sg_ge (f := f) (d := me) 16 hme
    rw [f1 me hme]; exact nI_pos (by omega)
  have cC : cb 1 (13 + 9 * d) (nI 23) (w >>> ((5 : Int32) &&& 31)) VA = ((F_Mac_canEnter 1 x2 VB).bind fun q4 => (if q4.1 = 0 then ((F_Mac_pushNoFrame 1 (13 + 9 * d) q4.2).bind fun q5 => some q5) else ((F_Mac_takeGas 1 (13 + 9 * d) x1 q4.2).bind fun q6 => ((F_Mac_enter 1 (q4.2 (13 + 9 * d) 0) x2 (q4.2 (13 + 9 * d) 3) (q4.2 (13 + 9 * d) 4) x4 q6.1 q6.2).bind fun q7 => some q7)))) := by
    rw [cD_23, F_Mac_delegate, pC1, ob, pC2, ob, pC3, ob, obs]
  have mC : mb 0 (nI 23) (w >>> ((5 : Int32) &&& 31)) UA = ((F_Mod_in x2 16 UB).bind fun q7 => (if q7.1 = 0 then ((F_Mod_push 0 (0 : Int32) q7.2).bind fun q8 => ((F_Mod_push 0 (0 : Int32) q8).bind fun q9 => some q9)) else (if (q7.2 1 (36 * me)) < 0 then ((F_Mod_push 0 (0 : Int32) q7.2).bind fun q10 => ((F_Mod_push 0 (0 : Int32) q10).bind fun q11 => some q11)) else (if (q7.2 0 19) = (7 : Int32) then ((F_Mod_push 0 (0 : Int32) q7.2).bind fun q12 => ((F_Mod_push 0 (0 : Int32) q12).bind fun q13 => some q13)) else (if 0 ≤ x1 then (if gx_ib (q7.2 0 19) 8 then (if (q7.2 12 (q7.2 0 19).toNatClampNeg) ≤ x1 then (if gx_ib (q7.2 0 19) 8 then (F_Mod_call_119 0 0 (nI me) x2 0 x4 (q7.2 12 (q7.2 0 19).toNatClampNeg) q7.2) else none) else (F_Mod_call_119 0 0 (nI me) x2 0 x4 x1 q7.2)) else none) else (F_Mod_call_119 0 0 (nI me) x2 0 x4 (0 : Int32) q7.2)))))) := by
    rw [mD_23, F_Mod_act, f19, ib_t hd (by decide), if_neg (by decide), if_pos (by decide), F_Mod_act_22, if_neg (by decide), F_Mod_call, f19, ib_t hd (by decide), pM, ob]
    simp only [pM2, ob, if_true, F_Mod_call_33, pM4, nI_clamp (show d < 2 ^ 31 by omega), Nat.zero_add, meU, m36, ib_t (show 36 * me < 576 by omega) (show 576 < 2 ^ 31 by decide), nI_clamp (show 36 * me < 2 ^ 31 by omega), obs]
  have nof := nof_s a4 (by omega)
  rcases pr_ix x2 16 (by decide) with hy | ⟨to, hto, rfl⟩
  · obtain ⟨V1, U1, n1, n2, n3⟩ := nof
    exact fin n3 (by omega) (by rw [cC, F_Mac_canEnter, acc_no hy, ob, if_pos rfl, ob, if_pos rfl, obs, n1]) (by rw [mC, in16_no hy, ob, if_pos rfl, n2])
  have cE : F_Mac_canEnter 1 (nI to) VB = (if (8 : Int32) ≤ nI (d + 1) then some ((0 : Int32), VB) else some ((1 : Int32), VB)) := by
    unfold F_Mac_canEnter
    simp only [acc_yes hto, ob, one0, if_false, g3]
  rw [cE] at cC
  rw [in16_yes hto, ob, if_neg z1] at mC
  simp only [g19, ib_t hd (show 8 < 2 ^ 31 by decide), nI_clamp (show d < 2 ^ 31 by omega), ← xb, g12] at mC
  rw [if_neg hnn] at mC
  by_cases h7 : d = 7
  · obtain ⟨V1, U1, n1, n2, n3⟩ := nof
    refine fin n3 (by omega) ?_ (by rw [mC, if_pos (by rw [h7]; rfl), n2])
    rw [cC, if_pos (by rw [h7]; decide), ob, if_pos rfl, obs, n1]
  have h8 : ¬ (8 : Int32) ≤ nI (d + 1) := ge8 (by omega)
  have h7' : ¬ nI d = (7 : Int32) := fun e => h7 ((nI_eq (b := 7) (by omega) (by decide)).mp e)
  rw [if_neg h8, ob, if_neg z1] at cC
  rw [if_neg h7'] at mC
  obtain ⟨k, hk, tk1, tk2⟩ := take_s (c := 13 + 9 * d) x1 (show gt - 30 < 2 ^ 31 by have := gas_b t; omega) gc6
  rw [tk2 (fun s => F_Mod_call_119 0 0 (nI me) (nI to) 0 x4 s UB)] at mC
  have a5 := gas_t (gt' := gt - 30 - k) a4 (by omega)
  have o12 : nI (gt - 30) - nI k = nI (gt - 30 - k) := pk_sub hk
  obtain ⟨V6, U6, m1, m2, m3, m4, m5, m6⟩ := in_s (gg := k) (s := me) (cd := to) (cl := VB (13 + 9 * d) 3) (v := VB (13 + 9 * d) 4) (i := x4) a5 (by omega) (by omega) (by
      obtain ⟨y1, y2, y3⟩ := bb
      exact ⟨by omega, by omega, fun j hj => by have := y3 j hj; omega⟩) hme hto
  have o19 : gx_u UB 12 d (nI (gt - 30 - k)) 0 19 = nI d := by rw [gx_uK (by decide)]; exact g19
  have o9 : gx_u UB 12 d (nI (gt - 30 - k)) 9 d = VB (13 + 9 * d) 3 := by rw [gx_uK (by decide)]; exact ecl.symm
  have o10 : gx_u UB 12 d (nI (gt - 30 - k)) 10 d = VB (13 + 9 * d) 4 := by rw [gx_uK (by decide)]; exact evl.symm
  refine fin2 (gt1 := gt - 30 - k) m3 (by rw [sg, sg_lt d (Nat.le_refl _), gu_s]) (by omega) ?_ ?_
  · simp only [cC, tk1, ob, meV, obs, m1]
  · rw [mC, F_Mod_call_119]
    simp only [g19, ib_t hd (show 8 < 2 ^ 31 by decide), nI_clamp (show d < 2 ^ 31 by omega), Nat.zero_add, g12, o12, gl, if_true, o19, o9, o10, obs, m2]
