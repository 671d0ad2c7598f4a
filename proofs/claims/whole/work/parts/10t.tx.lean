/-! leaving a frame -/
theorem leave_s {V0 U0 V U : gx_M} {B : Nat} {C : Nat × Nat} {d gt lg rf r : Nat} {g h L R : Nat → Nat} {s x : Int32} (t : tc V0 U0 B C d g h L R gt lg rf V U) (hr : r ≤ gt) (e6 : V (13 + 9 * d) 6 = nI r) (e10 : V (13 + 9 * d) 10 = s) (hs : s = 0 ∨ s = 1) (e11 : V (13 + 9 * d) 11 = x) : ∃ V1 U1, F_Mac_leave_12 1 (13 + 9 * d) V = some V1 ∧ F_Mod_leave_70 0 s x (nI r) U = some U1 ∧ nx V0 U0 B C (sg g d + gt + d + 1) V1 U1 := by
  obtain ⟨t1, t2, t3, t4, t5, t6, t7, t8, t9⟩ := t
  have q1 : nI (d + 1) - (1 : Int32) = nI d := pk_sub (b := 1) (by omega)
  by_cases hd : d = 0
  · subst hd
    have q2 : nI 0 - (1 : Int32) < 0 := by decide
    have q3 : ¬ (0 : Int32) ≤ nI 0 - 1 := by decide
    refine ⟨gx_u V 1 3 (nI 0), gx_u (gx_u (gx_u (gx_u U 0 19 (nI 0 - 1)) 0 32 (nI r)) 0 33 s) 0 34 x, ?_, ?_, Or.inr ⟨lg, rf, r, ?_, ?_, ?_, ?_, ?_, ?_, ?_, ?_, ?_, ?_⟩⟩
    · unfold F_Mac_leave_12
      rw [t2, q1, gl, gx_us, if_pos (by decide)]
    · unfold F_Mod_leave_70
      rw [t3, gl, gx_us, if_neg q3, gl]
      rcases hs with rfl | rfl
      · rw [if_pos rfl, gl, gl]
      · rw [if_neg (by decide), gl, gl]
    · unfold tw at t4 ⊢
      rw [gx_up (by decide), gx_up (by decide), gx_uK (show 3 ≠ 1 by decide), gx_uK (show 4 ≠ 1 by decide), gx_uK (show 5 ≠ 1 by decide), gx_uK (show 6 ≠ 1 by decide), gx_uK (show 7 ≠ 1 by decide), gx_uK (show 9 ≠ 1 by decide), gx_uK (show 10 ≠ 1 by decide), gx_uK (show 11 ≠ 1 by decide)]
      exact t4
    · rw [gx_us]
    · rw [gx_up (by decide), gx_up (by decide), gx_up (by decide), gx_us]
    · rw [gx_uK (by decide)]; exact e6
    · rw [gx_up (by decide), gx_up (by decide), gx_us]
    · rw [gx_uK (by decide)]; rcases hs with rfl | rfl
      · exact Or.inl e10
      · exact Or.inr e10
    · rw [gx_up (by decide), gx_us, gx_uK (by decide)]; exact e10.symm
    · rw [gx_us, gx_uK (by decide)]; exact e11.symm
    · obtain ⟨b1, b2, b3⟩ := t8
      rw [sg] at b1 b2
      exact ⟨by omega, by omega, fun j hj => absurd hj (by omega)⟩
    · obtain ⟨f1, f2, f3, f4, f5⟩ := t9
      refine ⟨by rw [gx_uK (by decide), f1], fun k hk => by rw [gx_uK (by omega), f2 k hk], f3, f4, fun p h1 h2 h3 h4 h5 h6 => ?_⟩
      rw [gx_up h6, gx_up h5, gx_up h4, gx_up h3]; exact f5 p h1 h2 h3 h4 h5 h6
  · obtain ⟨e, rfl⟩ : ∃ e, d = e + 1 := ⟨d - 1, by omega⟩
    obtain ⟨u1, u2, u3⟩ := t5 e (by omega)
    have q4 : nI (e + 1) - (1 : Int32) = nI e := pk_sub (b := 1) (by omega)
    -- the outer frame, innermost again
    have rA : rn (gx_u V 1 3 (nI (e + 1))) (gx_u U 0 19 (nI e)) e (g e) (h e) := by
      unfold rn at u2 ⊢
      rw [gx_uK (show 13 + 9 * e ≠ 1 by omega), gx_uK (show 14 + 9 * e ≠ 1 by omega)]
      exact u2
    have tA : tc V0 U0 B C e g h L R (g e + r) lg rf (gx_u V 1 3 (nI (e + 1))) (gx_u U 0 19 (nI e)) := by
      refine ⟨by omega, by rw [gx_us], by rw [gx_us], ?_, ?_, ?_, ?_, ?_, ?_⟩
      · unfold tw at t4 ⊢
        rw [gx_up (by decide), gx_up (by decide), gx_uK (show 3 ≠ 1 by decide), gx_uK (show 4 ≠ 1 by decide), gx_uK (show 5 ≠ 1 by decide), gx_uK (show 6 ≠ 1 by decide), gx_uK (show 7 ≠ 1 by decide), gx_uK (show 9 ≠ 1 by decide), gx_uK (show 10 ≠ 1 by decide), gx_uK (show 11 ≠ 1 by decide)]
        exact t4
      · intro j hj
        obtain ⟨w1, w2, w3⟩ := t5 j (by omega)
        refine ⟨?_, ?_, w3⟩
        · unfold bf at w1 ⊢
          rw [gx_uK (show 13 + 9 * j ≠ 1 by omega), gx_uK (show 16 + 9 * j ≠ 1 by omega), gx_uK (show 17 + 9 * j ≠ 1 by omega), gx_uK (show 18 + 9 * j ≠ 1 by omega), gx_uK (show 19 + 9 * j ≠ 1 by omega), gx_uK (show 20 + 9 * j ≠ 1 by omega)]
          exact w1
        · unfold rn at w2 ⊢
          rw [gx_uK (show 13 + 9 * j ≠ 1 by omega), gx_uK (show 14 + 9 * j ≠ 1 by omega)]
          exact w2
      · unfold bf at u1 ⊢
        rw [gx_uK (show 13 + 9 * e ≠ 1 by omega), gx_uK (show 16 + 9 * e ≠ 1 by omega), gx_uK (show 17 + 9 * e ≠ 1 by omega), gx_uK (show 18 + 9 * e ≠ 1 by omega), gx_uK (show 19 + 9 * e ≠ 1 by omega), gx_uK (show 20 + 9 * e ≠ 1 by omega)]
        exact u1
      · exact ⟨fun i j h1 h2 => t7.1 i j h1 (by omega), fun j h1 => t7.2 j (by omega)⟩
      · obtain ⟨b1, b2, b3⟩ := t8
        rw [sg] at b1 b2
        refine ⟨by omega, by omega, fun j hj => ?_⟩
        have := b3 j (by omega)
        rw [sg] at this
        omega
      · obtain ⟨f1, f2, f3, f4, f5⟩ := t9
        refine ⟨by rw [gx_uK (by decide), f1], fun k hk => by rw [gx_uK (by omega), f2 k hk], f3, f4, fun p h1 h2 h3 h4 h5 h6 => ?_⟩
        rw [gx_up h3]; exact f5 p h1 h2 h3 h4 h5 h6
    generalize hA : gx_u V 1 3 (nI (e + 1)) = VA at *
    generalize hB : gx_u U 0 19 (nI e) = UA at *
    have c6 : VA (13 + 9 * (e + 1)) 6 = nI r := by rw [← hA, gx_uK (by omega)]; exact e6
    have c10 : VA (13 + 9 * (e + 1)) 10 = s := by rw [← hA, gx_uK (by omega)]; exact e10
    have c11 : VA (13 + 9 * (e + 1)) 11 = x := by rw [← hA, gx_uK (by omega)]; exact e11
    have c3 : VA 1 3 = nI (e + 1) := tA.2.1
    have d19 : UA 0 19 = nI e := tA.2.2.1
    have c6o : VA (13 + 9 * e) 6 = nI (g e) := rA.2.2.2.2.2.2.1
    have d12 : UA 12 e = nI (g e) := rA.2.2.2.2.2.2.2.1
    -- gas
    have rB := rn_gas (g' := g e + r) rA
    have kB : kc e VA (gx_u VA (13 + 9 * e) 6 (nI (g e + r))) := kc_c (by decide)
    have lB : ku e UA (gx_u UA 12 e (nI (g e + r))) := ku_12
    generalize hVB : gx_u VA (13 + 9 * e) 6 (nI (g e + r)) = VB at *
    generalize hUB : gx_u UA 12 e (nI (g e + r)) = UB at *
    have rC := rn_pu (x := x) rB (by omega)
    have kC : kc e VB (gx_u (gx_u VB (14 + 9 * e) (h e) x) (13 + 9 * e) 8 (nI (h e + 1))) := kc_t kc_s (kc_c (by decide))
    have lC : ku e UB (gx_u (gx_u UB 14 (12 * e + h e) x) 13 e (nI (h e + 1))) := ku_t (ku_14 (by omega)) ku_13
    have pC := pushC (V := VB) (c := 13 + 9 * e) x (show h e < 12 by omega) rB.2.2.2.2.2.2.2.2.1
    have pM := pushM (U := UB) x (show e < 8 by omega) (show h e < 12 by omega) (by rw [lB.1 0 (by decide) (by decide) (by decide) (by decide)]; exact d19) rB.2.2.2.2.2.2.2.2.2.1
    rw [show 13 + 9 * e + 1 = 14 + 9 * e by omega] at pC
    generalize hVC : gx_u (gx_u VB (14 + 9 * e) (h e) x) (13 + 9 * e) 8 (nI (h e + 1)) = VC at *
    generalize hUC : gx_u (gx_u UB 14 (12 * e + h e) x) 13 e (nI (h e + 1)) = UC at *
    have rD := rn_pu (x := s) rC (by omega)
    have kD : kc e VC (gx_u (gx_u VC (14 + 9 * e) (h e + 1) s) (13 + 9 * e) 8 (nI (h e + 1 + 1))) := kc_t kc_s (kc_c (by decide))
    have lD : ku e UC (gx_u (gx_u UC 14 (12 * e + (h e + 1)) s) 13 e (nI (h e + 1 + 1))) := ku_t (ku_14 (by omega)) ku_13
    have pC2 := pushC (V := VC) (c := 13 + 9 * e) s (show h e + 1 < 12 by omega) rC.2.2.2.2.2.2.2.2.1
    have pM2 := pushM (U := UC) s (show e < 8 by omega) (show h e + 1 < 12 by omega) (by rw [(ku_t lB lC).1 0 (by decide) (by decide) (by decide) (by decide)]; exact d19) rC.2.2.2.2.2.2.2.2.2.1
    rw [show 13 + 9 * e + 1 = 14 + 9 * e by omega] at pC2
    have kA := kc_t kB (kc_t kC kD)
    have lA := ku_t lB (ku_t lC lD)
    have x11 : VB (13 + 9 * (e + 1)) 11 = x := by rw [kB.1 _ (by omega) (by omega)]; exact c11
    have x10 : VC (13 + 9 * (e + 1)) 10 = s := by rw [(kc_t kB kC).1 _ (by omega) (by omega)]; exact c10
    have ecl : 1 + 11 + (1 + 9 * e) = 13 + 9 * e := by omega
    refine ⟨_, _, ?_, ?_, Or.inl ⟨e, g, h, L, R, g e + r, h e + 1 + 1, lg, rf, ⟨tc_k tA kA lA (Nat.le_refl _), rD⟩, ?_⟩⟩
    · unfold F_Mac_leave_12
      rw [t2, q1, hA, gl, c3, if_neg (nI_nle (by omega) (by omega)), q4, ib_t (by omega) (by decide), nI_clamp (by omega), ecl, c6, c6o, nI_add, hVB, gl, x11, pC, ob, x10]
      rcases hs with rfl | rfl
      · rw [if_pos rfl, pC2, ob]
      · rw [if_neg (by decide), pC2, ob]
    · unfold F_Mod_leave_70
      simp only [t3, q4, hB, gl, d19, if_pos (nI_pos' (show e < 2 ^ 31 by omega)), ib_t (show e < 8 by omega) (show 8 < 2 ^ 31 by decide), nI_clamp (show e < 2 ^ 31 by omega), Nat.zero_add, d12, nI_add, hUB, pM, ob]
      rcases hs with rfl | rfl
      · rw [if_pos rfl, pM2, ob]
      · rw [if_neg (by decide), pM2, ob]
    · rw [sg]; omega
