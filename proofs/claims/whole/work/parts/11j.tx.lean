/-- one turn of both runs -/
theorem step_s {V0 U0 V U : gx_M} {B : Nat} {C : Nat × Nat} {d gt ht lg rf : Nat} {g h L R : Nat → Nat} (t : tr V0 U0 B C d g h L R gt ht lg rf V U) (hB : B < 2 ^ 31) (hC : C.1 < 6140) : ∃ V1 U1, it (13 + 9 * d) (F_Mac_step 1 (13 + 9 * d) V) = some V1 ∧ F_Mod_step 0 U = some U1 ∧ nx V0 U0 B C (sg g d + gt + d + 1) V1 U1 := by
  have hd := t.1.1
  have e19 := t.1.2.2.1
  have hg := gas_b t
  obtain ⟨r1, ⟨cd, hcd, c1, c2⟩, ⟨p, hp, p1, p2⟩, r4, r5, r6, r7, r8, r9, r10, r11, r12, r13⟩ := id t.2
  obtain ⟨-, -, h3, ⟨z, hz, ez, hwd⟩, -⟩ := t.1.2.2.2.1.2.2.2.1 cd hcd
  rw [Nat.zero_add] at h3 hwd
  by_cases hpz : p < z
  · have hw : wd V U d cd p z (V 6 (24 * cd + p)) := ⟨hcd, hpz, hz, c1, c2, p1, p2, ez, h3.symm.trans ez, rfl, (hwd p hpz).symm⟩
    obtain ⟨o, ho, eO⟩ := pk_andE (V 6 (24 * cd + p)) (m := 31) 5 (by decide)
    have ho : o < 32 := ho
    have hx : o = 0 ∨ o = 1 ∨ o = 2 ∨ o = 3 ∨ o = 4 ∨ o = 5 ∨ o = 6 ∨ o = 7 ∨ o = 8 ∨ o = 9 ∨ o = 10 ∨ o = 11 ∨ o = 12 ∨ o = 13 ∨ o = 14 ∨ o = 15 ∨ o = 16 ∨ o = 17 ∨ o = 18 ∨ o = 19 ∨ o = 20 ∨ o = 21 ∨ o = 22 ∨ o = 23 ∨ o = 24 ∨ o = 25 ∨ o = 26 ∨ o = 27 ∨ o = 28 ∨ o = 29 ∨ o = 30 ∨ o = 31 := by omega
    rcases hx with rfl | rfl | rfl | rfl | rfl | rfl | rfl | rfl | rfl | rfl | rfl | rfl | rfl | rfl | rfl | rfl | rfl | rfl | rfl | rfl | rfl | rfl | rfl | rfl | rfl | rfl | rfl | rfl | rfl | rfl | rfl | rfl
    · exact op0_s t hw eO
    · exact op1_s t hw eO
    · exact op2_s t hw eO
    · exact op3_s t hw eO
    · exact op4_s t hw eO
    · exact op5_s t hw eO
    · exact op6_s t hw eO
    · exact op7_s t hw eO
    · exact op8_s t hw eO
    · exact op9_s t hw eO
    · exact op10_s t hw eO
    · exact op11_s t hw eO
    · exact op12_s t hw eO
    · exact op13_s t hw eO
    · exact op14_s t hw eO
    · exact op15_s t hw eO
    · exact op16_s t hw eO
    · exact op17_s t hw eO
    · exact op18_s t hw eO
    · exact op19_s t hw eO
    · exact op20_s t hw eO
    · exact op21_s t hw eO
    · exact op22_s t hw eO hB
    · exact op23_s t hw eO hB
    · exact op24_s t hw eO hB
    · exact op25_s t hw eO hC
    · exact op26_s t hw eO
    · exact op27_s t hw eO
    · exact op28_s t hw eO hB
    · exact op29_s t hw eO
    · exact op30_s t hw eO
    · exact op31_s t hw eO
  · have eM := msA hd hcd hp hz e19 c2 p2 (h3.symm.trans ez)
    rw [if_neg hpz, r8] at eM
    have eC := csA (c := 13 + 9 * d) (w := 0) (O := nI 0) (nd := 0) (pr := 0) (op := 0) r11 (by decide) (by decide) (show gt < 2 ^ 30 by omega) hcd hp hz c1 r7 r9 p1 ez (if_neg hpz) (by decide) (nD_0 _ _) (rD_0 _ _) (oD_0 _)
    rw [if_neg (by intro q; rcases q with q | q | ⟨_, q⟩; omega; omega; exact q rfl), cD_0, obs] at eC
    rw [eC, eM]
    exact end_s t.1 (kc_t (kc_c (by decide)) (kc_c (by decide))) (ku_r _ _) (Nat.le_refl _) (by rw [gx_up (by decide), gx_us]; rfl) (Or.inr rfl)
theorem it_b (c : Nat) (x : Option gx_M) (G : gx_M → Option (Nat × gx_M)) : (x.bind fun q1 => (if q1 c 9 = 0 then G q1 else ((F_Mac_leave 1 c q1).bind fun q2 => G q2))) = (it c x).bind G := by
  cases x with
  | none => rfl
  | some q =>
    unfold it
    rw [ob, ob]
    by_cases h : q c 9 = 0
    · rw [if_pos h, if_pos h, ob]
    · rw [if_neg h, if_neg h]
theorem run_e {V0 U0 V U : gx_M} {B : Nat} {C : Nat × Nat} {k f1 f2 : Nat} {x1 x5 x6 x8 : Int32} (t : te V0 U0 B C V U) (hk : k < 100000) : F_Mac_run_40 (f1 + 1) 1 (nI k) V = some (13, V) ∧ F_Mod_transact_216 (f2 + 1) 0 x1 x5 x6 x8 (nI k) U = F_Mod_transact_240 0 x1 x5 x6 x8 U := by
  obtain ⟨lg, rf, r, t1, t2, t3, -⟩ := t
  have hh : ¬ (100000 : Int32) ≤ nI k := nI_ge (b := 100000) hk (by decide)
  refine ⟨?_, ?_⟩
  · rw [F_Mac_run_40, if_neg hh, t2, if_pos (by decide), if_pos (by decide)]
    rfl
  · rw [F_Mod_transact_216, if_neg hh, t3, if_pos (by decide)]
theorem run_s {V0 U0 : gx_M} {B : Nat} {C : Nat × Nat} {x1 x5 x6 x8 : Int32} (hB : B < 2 ^ 31) (hC : C.1 < 6140) : ∀ (m : Nat) (d : Nat) (g h L R : Nat → Nat) (gt ht lg rf : Nat) (V U : gx_M) (k f1 f2 : Nat), tr V0 U0 B C d g h L R gt ht lg rf V U → sg g d + gt + d + 1 ≤ m → k + m < 100000 → m < f1 → m < f2 → ∃ Ve Ue, te V0 U0 B C Ve Ue ∧ F_Mac_run_40 f1 1 (nI k) V = some (13, Ve) ∧ F_Mod_transact_216 f2 0 x1 x5 x6 x8 (nI k) U = F_Mod_transact_240 0 x1 x5 x6 x8 Ue := by
  intro m
  induction m with
  | zero => intro d g h L R gt ht lg rf V U k f1 f2 t h1; omega
  | succ m ih =>
    intro d g h L R gt ht lg rf V U k f1 f2 t h1 h2 h3 h4
    obtain ⟨e1, rfl⟩ : ∃ e, f1 = e + 1 := ⟨f1 - 1, by omega⟩
    obtain ⟨e2, rfl⟩ : ∃ e, f2 = e + 1 := ⟨f2 - 1, by omega⟩
    obtain ⟨V1, U1, s1, s2, s3⟩ := step_s t hB hC
    have hd := t.1.1
    have hh : ¬ (100000 : Int32) ≤ nI k := nI_ge (b := 100000) (by omega) (by decide)
    have eC : F_Mac_run_40 (e1 + 1) 1 (nI k) V = F_Mac_run_40 e1 1 (nI (k + 1)) V1 := by
      rw [F_Mac_run_40, if_neg hh, t.1.2.1, if_neg (nI_nle (by omega) (by omega)), show nI (d + 1) - (1 : Int32) = nI d from pk_sub (b := 1) (by omega), ib_t hd (by decide), nI_clamp (by omega), show 1 + 11 + (1 + 9 * d) = 13 + 9 * d by omega, it_b (13 + 9 * d) _ (fun q => F_Mac_run_40 e1 1 (nI k + (1 : Int32)) q), s1, ob, nI_1]
    have eM : F_Mod_transact_216 (e2 + 1) 0 x1 x5 x6 x8 (nI k) U = F_Mod_transact_216 e2 0 x1 x5 x6 x8 (nI (k + 1)) U1 := by
      rw [F_Mod_transact_216, if_neg hh, t.1.2.2.1, if_neg (nI_pos (by omega)), s2, ob, nI_1]
    rw [eC, eM]
    rcases s3 with ⟨d', g', h', L', R', gt', ht', lg', rf', n3, n4⟩ | n3
    · exact ih d' g' h' L' R' gt' ht' lg' rf' V1 U1 (k + 1) e1 e2 n3 (by omega) (by omega) (by omega) (by omega)
    · obtain ⟨c1, rfl⟩ : ∃ e, e1 = e + 1 := ⟨e1 - 1, by omega⟩
      obtain ⟨c2, rfl⟩ : ∃ e, e2 = e + 1 := ⟨e2 - 1, by omega⟩
      obtain ⟨q1, q2⟩ := run_e (k := k + 1) (f1 := c1) (f2 := c2) (x1 := x1) (x5 := x5) (x6 := x6) (x8 := x8) n3 (by omega)
      exact ⟨V1, U1, n3, q1, q2⟩
