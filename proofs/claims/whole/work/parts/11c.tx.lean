theorem op13_s {V0 U0 V U : gx_M} {B : Nat} {C : Nat × Nat} {d gt ht lg rf cd p z : Nat} {g h L R : Nat → Nat} {w : Int32} (t : tr V0 U0 B C d g h L R gt ht lg rf V U) (hw : wd V U d cd p z w) (eO : w &&& 31 = nI 13) : ∃ V1 U1, it (13 + 9 * d) (F_Mac_step 1 (13 + 9 * d) V) = some V1 ∧ F_Mod_step 0 U = some U1 ∧ nx V0 U0 B C (sg g d + gt + d + 1) V1 U1 := by
  have hd := t.1.1
  have e19 := t.1.2.2.1
  have h12 := t.2.2.2.2.2.2.2.2.2.2.2.1
  have hp : p < 24 := by have := hw.2.1; have := hw.2.2.1; omega
  obtain ⟨w1, w2, w3, w4, w5, w6, w7, w8, w9, w10, w11⟩ := id hw
  have eq1 : ∀ x, gx_u (gx_u V (13 + 9 * d) 6 x) (13 + 9 * d) 2 (nI (p + 1)) (14 + 9 * d) = V (14 + 9 * d) := fun x => by rw [gx_uK (by omega), gx_uK (by omega)]
  have eq2 : ∀ x, gx_u (gx_u V (13 + 9 * d) 6 x) (13 + 9 * d) 2 (nI (p + 1)) (13 + 9 * d) 1 = nI cd := fun x => by rw [gx_up (by decide), gx_up (by decide)]; exact w4
  have eq3 : ∀ x, gx_u (gx_u V (13 + 9 * d) 6 x) (13 + 9 * d) 2 (nI (p + 1)) 5 cd = nI z := fun x => by rw [gx_uK (by omega), gx_uK (by omega)]; exact w8
  obtain ⟨y, yM, -, yV⟩ := pek0 t 0 (by decide)
  obtain ⟨v, vM, -, vV⟩ := pek0 t 1 (by decide)
  have yV : 0 < ht → y = V (14 + 9 * d) (ht - 1) := yV
  have yM : F_Mod_peek 0 (0 : Int32) U = some (y, U) := yM
  have vM : F_Mod_peek 0 (1 : Int32) U = some (v, U) := vM
  have a := adv (pr := 4) t hp
  have f19 := a.1.2.2.1
  have pC : 2 ≤ ht → F_Mac_jumpIf 1 (13 + 9 * d) (gx_u (gx_u V (13 + 9 * d) 6 (nI (gt - 4))) (13 + 9 * d) 2 (nI (p + 1))) = if v = 0 then some (gx_u (gx_u (gx_u V (13 + 9 * d) 6 (nI (gt - 4))) (13 + 9 * d) 2 (nI (p + 1))) (13 + 9 * d) 8 (nI (ht - 1 - 1))) else F_Mac_jump 1 (13 + 9 * d) y (gx_u (gx_u (gx_u V (13 + 9 * d) 6 (nI (gt - 4))) (13 + 9 * d) 2 (nI (p + 1))) (13 + 9 * d) 8 (nI (ht - 1 - 1))) := by
    intro h2
    unfold F_Mac_jumpIf
    rw [popC0 a.2 (by omega), ob, popC1 (by omega) (by omega), ob, eq1, ← yV (by omega), ← vV (by omega), obs]
  have pM : 2 ≤ ht → ∀ G : Int32 × gx_M → Option gx_M, ((F_Mod_pop 0 (gx_u (gx_u U 12 d (nI (gt - 4))) 8 d (nI (p + 1)))).bind fun q12 => (F_Mod_pop 0 q12.2).bind fun q13 => G (q13.1, q13.2)) = G (v, gx_u (gx_u (gx_u U 12 d (nI (gt - 4))) 8 d (nI (p + 1))) 13 d (nI (ht - 1 - 1))) := by
    intro h2 G
    have s1 := a.2.2.2.2.2.2.2.2.2.2.2.2.2 (ht - 1 - 1) (by omega)
    rw [eq1, ← vV (by omega)] at s1
    rw [popM0 a (by omega), ob]
    dsimp only
    rw [popM1 hd (by omega) (by omega) f19, ob, s1]
  have mB : 2 ≤ ht → mb 0 (nI 13) (w >>> ((5 : Int32) &&& 31)) (gx_u (gx_u U 12 d (nI (gt - 4))) 8 d (nI (p + 1))) = if v = 0 then some (gx_u (gx_u (gx_u U 12 d (nI (gt - 4))) 8 d (nI (p + 1))) 13 d (nI (ht - 1 - 1))) else some (gx_u (gx_u (gx_u (gx_u U 12 d (nI (gt - 4))) 8 d (nI (p + 1))) 13 d (nI (ht - 1 - 1))) 8 d y) := by
    intro h2
    have s1 := a.2.2.2.2.2.2.2.2.2.2.2.2.2 (ht - 1 - 1) (by omega)
    have s2 := a.2.2.2.2.2.2.2.2.2.2.2.2.2 (ht - 1) (by omega)
    rw [eq1, ← vV (by omega)] at s1
    rw [eq1, ← yV (by omega)] at s2
    have o0 : gx_u (gx_u (gx_u U 12 d (nI (gt - 4))) 8 d (nI (p + 1))) 13 d (nI (ht - 1 - 1)) 0 19 = nI d := by rw [gx_uK (by decide)]; exact f19
    rw [mD_13, popM0 a (by omega), ob, if_neg (by decide)]
    dsimp only
    rw [popM1 hd (by omega) (by omega) f19, ob]
    simp only [o0, ib_t hd (show 8 < 2 ^ 31 by decide), nI_clamp (show d < 2 ^ 31 by omega), Nat.zero_add, gl, ← s1, ← s2]
  have cB : cb 1 (13 + 9 * d) (nI 13) (w >>> ((5 : Int32) &&& 31)) (gx_u (gx_u V (13 + 9 * d) 6 (nI (gt - 4))) (13 + 9 * d) 2 (nI (p + 1))) = F_Mac_jumpIf 1 (13 + 9 * d) (gx_u (gx_u V (13 + 9 * d) 6 (nI (gt - 4))) (13 + 9 * d) 2 (nI (p + 1))) := by rw [cD_13, obs]
  by_cases hv : v = 0
  · have f0 : F_Mod_fails 0 (nI 13) (w >>> ((5 : Int32) &&& 31)) U = some (0, U) := by
      rw [f_in hd hw.1 e19 hw.2.2.2.2.1, if_neg (by decide), if_neg (by decide), if_neg (by decide), if_pos (by decide), vM, ob, if_pos hv, F_Mod_fails_115, if_neg (by decide), if_neg (by decide), if_neg (by decide), if_neg (by decide), F_Mod_fails_240, if_pos (by decide)]
    refine opx_s t hw eO (by decide) (by decide) (by decide) (by decide) (by decide) (nD_13 _ _) (rD_13 _ _) (oD_13 _) (pD_13 _) (uD_13 _) (kD_13 _) f0 (fun q => ?_) (fun q q' => ?_) (fun q q' => ?_)
    · rcases q with q | q | ⟨_, q⟩
      · exact Or.inr (Or.inr (Or.inl q))
      · exact Or.inl q
      · exact absurd rfl q
    · exfalso; rcases q' with q' | q' | q' | q'
      · exact q (Or.inr (Or.inl q'))
      · omega
      · exact q (Or.inl q')
      · exact q' rfl
    · have h2 : 2 ≤ ht := Nat.le_of_not_lt fun e => q (Or.inr (Or.inl e))
      have hg : 4 ≤ gt := Nat.le_of_not_lt fun k => q (Or.inl k)
      exact fin (pop_t (h' := ht - 1 - 1) a (by omega)) (by omega) (by rw [cB, pC h2, if_pos hv]) (by rw [mB h2, if_pos hv])
  · have f0 : ∀ r, F_Mod_in y (nI z) U = some (r, U) → (r = 0 ∨ r = 1) → F_Mod_fails 0 (nI 13) (w >>> ((5 : Int32) &&& 31)) U = some (1 - r, U) := by
      intro r hr hr2
      rw [f_in hd hw.1 e19 hw.2.2.2.2.1, if_neg (by decide), if_neg (by decide), if_neg (by decide), if_pos (by decide), vM, ob, if_neg hv, w9, F_Mod_fails_97, yM, ob, hr, ob]
      rcases hr2 with rfl | rfl
      · rw [if_pos rfl]; rfl
      · rw [if_neg z1]; rfl
    rcases in_z (y := y) (U := U) w3 with ⟨hy, hr⟩ | ⟨k, hk, rfl, hr⟩
    · refine opx_s t hw eO (by decide) (by decide) (by decide) (by decide) (by decide) (nD_13 _ _) (rD_13 _ _) (oD_13 _) (pD_13 _) (uD_13 _) (kD_13 _) (f0 0 hr (Or.inl rfl)) (fun _ => Or.inr (Or.inr (Or.inr (by decide)))) (fun q _ => ?_) (fun q q' => absurd (Or.inr (Or.inr (Or.inr (by decide)))) q')
      have h2 : 2 ≤ ht := Nat.le_of_not_lt fun e => q (Or.inr (Or.inl e))
      refine ⟨gx_u (gx_u (gx_u V (13 + 9 * d) 6 (nI (gt - 4))) (13 + 9 * d) 2 (nI (p + 1))) (13 + 9 * d) 8 (nI (ht - 1 - 1)), kc_t (kc_c (by decide)) (kc_t (kc_c (by decide)) (kc_c (by decide))), ?_⟩
      rw [cB, pC h2, if_neg hv, jumpF w1 (by rw [gx_up (by decide)]; exact eq2 _) (by rw [gx_uK (by omega)]; exact eq3 _) hy]
    · refine opx_s t hw eO (by decide) (by decide) (by decide) (by decide) (by decide) (nD_13 _ _) (rD_13 _ _) (oD_13 _) (pD_13 _) (uD_13 _) (kD_13 _) (f0 1 hr (Or.inr rfl)) (fun q => ?_) (fun q q' => ?_) (fun q q' => ?_)
      · rcases q with q | q | ⟨_, q⟩
        · exact Or.inr (Or.inr (Or.inl q))
        · exact Or.inl q
        · exact absurd rfl q
      · exfalso; rcases q' with q' | q' | q' | q'
        · exact q (Or.inr (Or.inl q'))
        · omega
        · exact q (Or.inl q')
        · exact q' (by decide)
      · have h2 : 2 ≤ ht := Nat.le_of_not_lt fun e => q (Or.inr (Or.inl e))
        have hg : 4 ≤ gt := Nat.le_of_not_lt fun k => q (Or.inl k)
        exact fin (place_t (p := k) (pop_t (h' := ht - 1 - 1) a (by omega)) (by omega)) (by omega) (by rw [cB, pC h2, if_neg hv, jumpT w1 w3 (by rw [gx_up (by decide)]; exact eq2 _) (by rw [gx_uK (by omega)]; exact eq3 _) hk]) (by rw [mB h2, if_neg hv])
theorem op25_s {V0 U0 V U : gx_M} {B : Nat} {C : Nat × Nat} {d gt ht lg rf cd p z : Nat} {g h L R : Nat → Nat} {w : Int32} (t : tr V0 U0 B C d g h L R gt ht lg rf V U) (hw : wd V U d cd p z w) (eO : w &&& 31 = nI 25) (hC : C.1 < 6140) : ∃ V1 U1, it (13 + 9 * d) (F_Mac_step 1 (13 + 9 * d) V) = some V1 ∧ F_Mod_step 0 U = some U1 ∧ nx V0 U0 B C (sg g d + gt + d + 1) V1 U1 := by
  have hd := t.1.1
  have e19 := t.1.2.2.1
  refine op_e t hw eO (by decide) (by decide) (by decide) (by decide) (by decide) (nD_25 _ _) (rD_25 _ _) (oD_25 _) (pD_25 _) (uD_25 _) (kD_25 _) (fD_25 _ hd hw.1 e19 hw.2.2.2.2.1) ?_ ?_
  · intro hh; constructor
    · intro q; rcases q with q | q | ⟨q, q2⟩ <;> first | omega | exact absurd rfl q2
    · intro q; rcases q with q | q | q <;> first | omega | exact Or.inr (Or.inl (by omega))
  · intro h1 h2 h3 V2 U2 a
    have h12 := a.2.2.2.2.2.2.2.2.2.2.2.1
    have y1 := a.2.2.2.2.2.2.2.2.2.2.2.2.2 (ht - 1) (by omega)
    have f19 := a.1.2.2.1
    have e13 := a.2.2.2.2.2.2.2.2.2.2.1
    obtain ⟨me, hme, s1, s2⟩ := a.2.1
    have a2 := pop_t (h' := ht - 1) a (by omega)
    have bb := t.1.2.2.2.2.2.2.2.1
    have bl := bb.1
    have pC := popC0 a.2 (show 0 < ht by omega)
    -- the reference writes the account's row first
    have pM : F_Mod_pop 0 (gx_u U2 4 lg (nI me)) = some (V2 (14 + 9 * d) (ht - 1), gx_u (gx_u U2 4 lg (nI me)) 13 d (nI (ht - 1))) := by
      have := popM (U := gx_u U2 4 lg (nI me)) hd (show 0 < ht by omega) h12 (by rw [gx_uK (by decide)]; exact f19) (by rw [gx_uK (by decide)]; exact e13)
      rw [gx_uK (show 14 ≠ 4 by decide), ← y1] at this
      exact this
    generalize V2 (14 + 9 * d) (ht - 1) = y at *
    obtain ⟨q1, q2, q3, q4, q5, q6, q7, q8, q9⟩ := id a2.1.2.2.2.1
    generalize hA : gx_u V2 (13 + 9 * d) 8 (nI (ht - 1)) = VA at *
    have l512 : lg < 512 := by omega
    have r7 : U2 0 13 = nI lg := by rw [gx_uK (by decide)] at q7; exact q7
    have eB : pr_bit y = ((1 : Int32) <<< ((y &&& (31 : Int32)) &&& 31)) ||| ((1 : Int32) <<< ((mx 6 y &&& (31 : Int32)) &&& 31)) := rfl
    -- the class's side
    have cA : ∀ X : gx_M, X 9 2 = nI lg → X 9 3 = pr_bl (U2 5) lg → F_Log_add_29 9 y X = some (gx_u (gx_u X 9 2 (nI (lg + 1))) 9 3 (pr_bl (U2 5) lg ||| pr_bit y)) := by
      intro X x1 x2
      unfold F_Log_add_29
      rw [x1, nI_1, gl, mxC, ob, gl, gx_up (by decide), x2, eB]
    have x3 : VA 9 3 = pr_bl (U2 5) lg := by rw [gx_uK (by decide)] at q8; exact q8
    have hUB : gx_u (gx_u (gx_u (gx_u U2 4 lg (nI me)) 13 d (nI (ht - 1))) 5 lg y) 0 13 (nI (lg + 1)) = gx_u (gx_u (gx_u (gx_u U2 13 d (nI (ht - 1))) 4 lg (nI me)) 5 lg y) 0 13 (nI (lg + 1)) := by
      congr 2
      funext k'
      by_cases e4 : k' = 4
      · subst e4; rw [gx_uK (by decide), gx_ua, if_pos rfl, gx_ua, if_pos rfl, gx_uK (by decide)]
      · by_cases e5 : k' = 13
        · subst e5; rw [gx_ua, if_pos rfl, gx_uK (by decide), gx_uK (by decide), gx_ua, if_pos rfl]
        · rw [gx_uK e5, gx_uK e4, gx_uK e4, gx_uK e5]
    have mM : mb 0 (nI 25) (w >>> ((5 : Int32) &&& 31)) U2 = some (gx_u (gx_u (gx_u (gx_u U2 13 d (nI (ht - 1))) 4 lg (nI me)) 5 lg y) 0 13 (nI (lg + 1))) := by
      rw [← hUB, mD_25, F_Mod_act, f19, ib_t hd (by decide), if_neg (by decide), if_neg (by decide), if_neg (by decide), if_pos (by decide), r7, ib_t l512 (by decide), nI_clamp (by omega), nI_clamp (by omega), gl, Nat.zero_add, Nat.zero_add, s2, pM, ob]
      have o1 : gx_u U2 4 lg (nI me) 0 13 = nI lg := by rw [gx_uK (by decide)]; exact r7
      have o2 : gx_u (gx_u (gx_u U2 4 lg (nI me)) 13 d (nI (ht - 1))) 5 lg y 0 13 = nI lg := by rw [gx_uK (by decide), gx_uK (by decide), gx_uK (by decide)]; exact r7
      simp only [o1, ib_t l512 (show 512 < 2 ^ 31 by decide), nI_clamp (show lg < 2 ^ 31 by omega), gl, Nat.zero_add, o2, nI_1, obs]
    generalize hB : gx_u U2 13 d (nI (ht - 1)) = UA at *
    have u5 : U2 5 = UA 5 := by rw [← hB, gx_uK (by decide)]
    rw [u5] at cA x3
    have e0 : V2 (13 + 9 * d) 0 = nI me := s1
    have W : ∀ V' : gx_M, (∀ k, 12 < k → V' k = VA k) → V' 0 = VA 0 → V' 1 = VA 1 → V' 3 = VA 3 → V' 4 = VA 4 → V' 5 = VA 5 → V' 6 = VA 6 → V' 7 = VA 7 → V' 9 2 = nI (lg + 1) → V' 9 3 = pr_bl (UA 5) lg ||| pr_bit y → (∀ k, k < lg → V' 10 k = VA 10 k ∧ V' 11 k = VA 11 k) → (lg < 16 → V' 10 lg = nI me ∧ V' 11 lg = y) → tr V0 U0 B C d g h L R (gt - 12) (ht - 1) (lg + 1) rf V' (gx_u (gx_u (gx_u UA 4 lg (nI me)) 5 lg y) 0 13 (nI (lg + 1))) := by
      intro V' v1 v0 v2 v3 v4 v5 v6 v7 v8 v9 v10 v11
      refine tr_w a2 v1 v0 (by rw [v2]) (fun k hk => by rw [gx_uK (by omega), gx_uK (by omega), gx_uK (by omega)]) (by rw [gx_uK (by decide), gx_uK (by decide), gx_uK (by decide)]) (by rw [gx_uK (by decide), gx_uK (by decide), gx_uK (by decide)]) (fun q h1 h2 => by rw [gx_up h2, gx_uK (by decide), gx_uK (by decide)]) ?_ (fun k hk => by rw [gx_uK (by decide), gx_up (by omega), gx_uK (by decide)]) (by omega) ?_
      · have c5 : ∀ k, k < lg → gx_u (gx_u (gx_u UA 4 lg (nI me)) 5 lg y) 0 13 (nI (lg + 1)) 5 k = UA 5 k := fun k hk => by rw [gx_uK (by decide), gx_up (by omega), gx_uK (by decide)]
        have c5' : gx_u (gx_u (gx_u UA 4 lg (nI me)) 5 lg y) 0 13 (nI (lg + 1)) 5 lg = y := by rw [gx_uK (by decide), gx_us]
        refine ⟨by rw [v2]; exact q1, by rw [gx_up (by decide), gx_uK (by decide), gx_uK (by decide)]; exact q2, ?_, ?_, by rw [v3]; exact q5, v8, by rw [gx_us], ?_, fun k hk h16 => ?_⟩
        · rw [v2, gx_uK (show 1 ≠ 0 by decide), gx_uK (show 1 ≠ 5 by decide), gx_uK (show 1 ≠ 4 by decide)]; exact q3
        · rw [v3, v4, v5, v6, v7, gx_uK (show 1 ≠ 0 by decide), gx_uK (show 1 ≠ 5 by decide), gx_uK (show 1 ≠ 4 by decide)]; exact q4
        · rw [v9, pr_bl, bl_c lg c5, c5']
        · by_cases e : k = lg
          · subst e
            obtain ⟨z1, z2⟩ := v11 h16
            rw [z1, z2, c5', gx_uK (by decide), gx_uK (by decide), gx_us]
            exact ⟨rfl, rfl⟩
          · obtain ⟨z1, z2⟩ := v10 k (by omega)
            rw [z1, z2, c5 k (by omega), gx_uK (by decide), gx_uK (by decide), gx_up e]
            exact q9 k (by omega) h16
      · obtain ⟨b1, b2, b3⟩ := bb
        exact ⟨by omega, by omega, fun j hj => by have := b3 j hj; omega⟩
    have cC : cb 1 (13 + 9 * d) (nI 25) (w >>> ((5 : Int32) &&& 31)) V2 = F_Log_add 9 (nI me) y VA := by
      rw [cD_25, pC, ob, obs, e0]
    by_cases h16 : lg < 16
    · have x2 : gx_u (gx_u VA 10 lg (nI me)) 11 lg y 9 2 = nI lg := by rw [gx_uK (by decide), gx_uK (by decide)]; exact q6
      refine fin (W (gx_u (gx_u (gx_u (gx_u VA 10 lg (nI me)) 11 lg y) 9 2 (nI (lg + 1))) 9 3 (pr_bl (UA 5) lg ||| pr_bit y)) (fun k hk => by rw [gx_uK (by omega), gx_uK (by omega), gx_uK (by omega), gx_uK (by omega)]) rfl rfl rfl rfl rfl rfl rfl (by rw [gx_up (by decide), gx_us]) (by rw [gx_us]) (fun k hk => ⟨by rw [gx_uK (by decide), gx_uK (by decide), gx_uK (by decide), gx_up (by omega)], by rw [gx_uK (by decide), gx_uK (by decide), gx_up (by omega), gx_uK (by decide)]⟩) (fun _ => ⟨by rw [gx_uK (by decide), gx_uK (by decide), gx_uK (by decide), gx_us], by rw [gx_uK (by decide), gx_uK (by decide), gx_us]⟩)) (by omega) ?_ mM
      rw [cC, F_Log_add, q6, if_neg (ge16 h16), ib_t h16 (by decide), gl, gx_uK (show 9 ≠ 9 + 1 by decide), q6, ib_t h16 (by decide), gl, nI_clamp (by omega), show (9 + 1 : Nat) = 10 from rfl, show (9 + 2 : Nat) = 11 from rfl]
      exact cA _ x2 (by rw [gx_uK (by decide), gx_uK (by decide)]; exact x3)
    · refine fin (W (gx_u (gx_u VA 9 2 (nI (lg + 1))) 9 3 (pr_bl (UA 5) lg ||| pr_bit y)) (fun k hk => by rw [gx_uK (by omega), gx_uK (by omega)]) rfl rfl rfl rfl rfl rfl rfl (by rw [gx_up (by decide), gx_us]) (by rw [gx_us]) (fun k hk => ⟨rfl, rfl⟩) (fun q => absurd q h16)) (by omega) ?_ mM
      rw [cC, F_Log_add, q6, if_pos (show (16 : Int32) ≤ nI lg from nI_le (a := 16) (by omega) (by omega))]
      exact cA _ q6 x3
