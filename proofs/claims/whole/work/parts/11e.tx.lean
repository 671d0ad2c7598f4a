/-! a new frame -/
theorem startC {V : gx_M} {c : Nat} {x1 x2 x3 x4 x5 x6 : Int32} : ∃ V1, F_Frm_start c x1 x2 x3 x4 x5 x6 V = some V1 ∧ (∀ k, k ≠ c → V1 k = V k) ∧ V1 c 0 = x1 ∧ V1 c 1 = x2 ∧ V1 c 2 = 0 ∧ V1 c 3 = x3 ∧ V1 c 4 = x4 ∧ V1 c 5 = x5 ∧ V1 c 6 = x6 ∧ V1 c 8 = 0 ∧ V1 c 9 = 0 := by
  refine ⟨_, by unfold F_Frm_start; simp only [gl]; rfl, fun k hk => by rw [gx_uK hk, gx_uK hk, gx_uK hk, gx_uK hk, gx_uK hk, gx_uK hk, gx_uK hk, gx_uK hk, gx_uK hk], ?_, ?_, ?_, ?_, ?_, ?_, ?_, ?_, ?_⟩
  · rw [gx_up (by decide), gx_up (by decide), gx_up (by decide), gx_up (by decide), gx_up (by decide), gx_up (by decide), gx_up (by decide), gx_up (by decide), gx_us]
  · rw [gx_up (by decide), gx_up (by decide), gx_up (by decide), gx_up (by decide), gx_up (by decide), gx_up (by decide), gx_up (by decide), gx_us]
  · rw [gx_up (by decide), gx_up (by decide), gx_up (by decide), gx_up (by decide), gx_up (by decide), gx_up (by decide), gx_us]
  · rw [gx_up (by decide), gx_up (by decide), gx_up (by decide), gx_up (by decide), gx_up (by decide), gx_us]
  · rw [gx_up (by decide), gx_up (by decide), gx_up (by decide), gx_up (by decide), gx_us]
  · rw [gx_up (by decide), gx_up (by decide), gx_up (by decide), gx_us]
  · rw [gx_up (by decide), gx_up (by decide), gx_us]
  · rw [gx_up (by decide), gx_us]
  · rw [gx_us]
theorem enterC {V : gx_M} {n : Nat} {x1 x2 x3 x4 x5 x6 : Int32} (hn : n < 8) (e : V 1 3 = nI n) : ∃ V1, F_Mac_enter 1 x1 x2 x3 x4 x5 x6 V = some V1 ∧ (∀ k, k ≠ 1 → k ≠ 13 + 9 * n → (k < 16 + 9 * n ∨ 20 + 9 * n < k) → V1 k = V k) ∧ V1 1 3 = nI (n + 1) ∧ (∀ p, p ≠ 3 → V1 1 p = V 1 p) ∧ V1 (13 + 9 * n) 0 = x1 ∧ V1 (13 + 9 * n) 1 = x2 ∧ V1 (13 + 9 * n) 2 = 0 ∧ V1 (13 + 9 * n) 3 = x3 ∧ V1 (13 + 9 * n) 4 = x4 ∧ V1 (13 + 9 * n) 5 = x5 ∧ V1 (13 + 9 * n) 6 = x6 ∧ V1 (13 + 9 * n) 8 = 0 ∧ V1 (13 + 9 * n) 9 = 0 ∧ V1 (13 + 9 * n) 13 = V 1 4 ∧ V1 (13 + 9 * n) 14 = V 1 5 ∧ V1 (13 + 9 * n) 15 = V 9 2 ∧ V1 (13 + 9 * n) 16 = V 9 3 ∧ V1 (16 + 9 * n) = va_cpy (V 3) (V (16 + 9 * n)) 0 0 16 ∧ V1 (17 + 9 * n) = va_cpy (V 4) (V (17 + 9 * n)) 0 0 16 ∧ V1 (18 + 9 * n) = va_cpy (V 5) (V (18 + 9 * n)) 0 0 16 ∧ V1 (19 + 9 * n) = va_cpy (V 6) (V (19 + 9 * n)) 0 0 384 ∧ V1 (20 + 9 * n) = va_cpy (V 7) (V (20 + 9 * n)) 0 0 128 := by
  obtain ⟨W, s1, s2, s3, s4, s5, s6, s7, s8, s9, s10, s11⟩ := startC (V := gx_u V 1 3 (nI (n + 1))) (c := 13 + 9 * n) (x1 := x1) (x2 := x2) (x3 := x3) (x4 := x4) (x5 := x5) (x6 := x6)
  have w : ∀ k, k ≠ 1 → k ≠ 13 + 9 * n → W k = V k := fun k h1 h2 => by rw [s2 k h2, gx_uK h1]
  have w1 : W 1 = gx_u V 1 3 (nI (n + 1)) 1 := s2 1 (by omega)
  have o : ∀ c, (c < 16 + 9 * n ∨ 20 + 9 * n < c) → cpm (13 + 9 * n + 2) 2 W c = W c := fun c q => cpm_o (by omega)
  obtain ⟨c1, c2, c3, c4, c5⟩ := cpm_in (x0 := 13 + 9 * n + 2) (x1 := 2) (V := W) (Or.inl (by omega))
  simp only [Nat.reduceAdd, show 13 + 9 * n + 2 + 1 = 16 + 9 * n by omega, show 13 + 9 * n + 2 + 2 = 17 + 9 * n by omega, show 13 + 9 * n + 2 + 3 = 18 + 9 * n by omega, show 13 + 9 * n + 2 + 4 = 19 + 9 * n by omega, show 13 + 9 * n + 2 + 5 = 20 + 9 * n by omega] at c1 c2 c3 c4 c5
  rw [w 3 (by decide) (by omega), w (16 + 9 * n) (by omega) (by omega)] at c1
  rw [w 4 (by decide) (by omega), w (17 + 9 * n) (by omega) (by omega)] at c2
  rw [w 5 (by decide) (by omega), w (18 + 9 * n) (by omega) (by omega)] at c3
  rw [w 6 (by decide) (by omega), w (19 + 9 * n) (by omega) (by omega)] at c4
  rw [w 7 (by decide) (by omega), w (20 + 9 * n) (by omega) (by omega)] at c5
  have eE : F_Acc_copyFrom (13 + 9 * n + 2) 2 W = some (cpm (13 + 9 * n + 2) 2 W) := cpm_eq _ _ _
  generalize hX : cpm (13 + 9 * n + 2) 2 W = X at *
  have x1' : X 1 = gx_u V 1 3 (nI (n + 1)) 1 := by rw [o 1 (by omega), w1]
  have x9 : X 9 = V 9 := by rw [o 9 (by omega), w 9 (by decide) (by omega)]
  have xc : X (13 + 9 * n) = W (13 + 9 * n) := o _ (by omega)
  refine ⟨gx_u (gx_u (gx_u (gx_u X (13 + 9 * n) 13 (V 1 4)) (13 + 9 * n) 14 (V 1 5)) (13 + 9 * n) 15 (V 9 2)) (13 + 9 * n) 16 (V 9 3), ?_, ?_, ?_, ?_, ?_, ?_, ?_, ?_, ?_, ?_, ?_, ?_, ?_, ?_, ?_, ?_, ?_, ?_, ?_, ?_, ?_, ?_⟩
  · unfold F_Mac_enter
    rw [e, ib_t hn (by decide), nI_clamp (by omega), nI_1, gl, show 1 + 11 + (1 + 9 * n) = 13 + 9 * n by omega, s1, ob, show (1 + 1 : Nat) = 2 from rfl, eE, ob, show (1 + 8 : Nat) = 9 from rfl]
    simp only [gl, gx_uK (show 1 ≠ 13 + 9 * n by omega), gx_uK (show 9 ≠ 13 + 9 * n by omega), x1', x9, gx_up (show 4 ≠ 3 by decide), gx_up (show 5 ≠ 3 by decide)]
  · intro k h1 h2 h3
    rw [gx_uK h2, gx_uK h2, gx_uK h2, gx_uK h2, o k h3, w k h1 h2]
  · rw [gx_uK (by omega), gx_uK (by omega), gx_uK (by omega), gx_uK (by omega), x1', gx_us]
  · intro p hp
    rw [gx_uK (by omega), gx_uK (by omega), gx_uK (by omega), gx_uK (by omega), x1', gx_up hp]
  · rw [gx_up (by decide), gx_up (by decide), gx_up (by decide), gx_up (by decide), xc]; exact s3
  · rw [gx_up (by decide), gx_up (by decide), gx_up (by decide), gx_up (by decide), xc]; exact s4
  · rw [gx_up (by decide), gx_up (by decide), gx_up (by decide), gx_up (by decide), xc]; exact s5
  · rw [gx_up (by decide), gx_up (by decide), gx_up (by decide), gx_up (by decide), xc]; exact s6
  · rw [gx_up (by decide), gx_up (by decide), gx_up (by decide), gx_up (by decide), xc]; exact s7
  · rw [gx_up (by decide), gx_up (by decide), gx_up (by decide), gx_up (by decide), xc]; exact s8
  · rw [gx_up (by decide), gx_up (by decide), gx_up (by decide), gx_up (by decide), xc]; exact s9
  · rw [gx_up (by decide), gx_up (by decide), gx_up (by decide), gx_up (by decide), xc]; exact s10
  · rw [gx_up (by decide), gx_up (by decide), gx_up (by decide), gx_up (by decide), xc]; exact s11
  · rw [gx_up (by decide), gx_up (by decide), gx_up (by decide), gx_us]
  · rw [gx_up (by decide), gx_up (by decide), gx_us]
  · rw [gx_up (by decide), gx_us]
  · rw [gx_us]
  · rw [gx_uK (by omega), gx_uK (by omega), gx_uK (by omega), gx_uK (by omega)]; exact c1
  · rw [gx_uK (by omega), gx_uK (by omega), gx_uK (by omega), gx_uK (by omega)]; exact c2
  · rw [gx_uK (by omega), gx_uK (by omega), gx_uK (by omega), gx_uK (by omega)]; exact c3
  · rw [gx_uK (by omega), gx_uK (by omega), gx_uK (by omega), gx_uK (by omega)]; exact c4
  · rw [gx_uK (by omega), gx_uK (by omega), gx_uK (by omega), gx_uK (by omega)]; exact c5
def cpe (U : gx_M) (n i : Nat) : gx_M := va_up U 15 (fun q => if 576 * n + i ≤ q ∧ q < 576 * n + 576 then U 1 (q - 576 * n) else U 15 q)
theorem cpe_o {U : gx_M} {n i c : Nat} (h : c ≠ 15) : cpe U n i c = U c := by unfold cpe va_up; rw [if_neg h]
theorem cpe_d {U : gx_M} {n i : Nat} : cpe U n i 15 = fun q => if 576 * n + i ≤ q ∧ q < 576 * n + 576 then U 1 (q - 576 * n) else U 15 q := by unfold cpe va_up; rw [if_pos rfl]
theorem cpe_end (U : gx_M) (n : Nat) : cpe U n 576 = U := by
  funext k
  by_cases h : k = 15
  · subst h
    rw [cpe_d]
    funext j
    rw [if_neg (by omega)]
  · rw [cpe_o h]
theorem cpe_step {U : gx_M} {n i : Nat} (hi : i < 576) : cpe (gx_u U 15 (576 * n + i) (U 1 i)) n (i + 1) = cpe U n i := by
  funext k
  by_cases h : k = 15
  · subst h
    rw [cpe_d, cpe_d]
    funext j
    rw [gx_uK (show 1 ≠ 15 by decide)]
    by_cases h1 : j = 576 * n + i
    · subst h1
      rw [if_neg (by omega), gx_us, if_pos ⟨by omega, by omega⟩]
      congr 1; omega
    · rw [gx_up h1]
      by_cases h2 : 576 * n + (i + 1) ≤ j ∧ j < 576 * n + 576
      · rw [if_pos h2, if_pos ⟨by omega, h2.2⟩]
      · rw [if_neg h2, if_neg (by omega)]
  · rw [cpe_o h, cpe_o h, gx_uK h]
theorem en13 {n : Nat} {x1 x2 x3 x4 x5 x6 : Int32} (hn : n < 8) : ∀ (m i fuel : Nat) (U : gx_M), i + m = 576 → m < fuel → U 0 19 = nI n → F_Mod_enter_13 fuel 0 x1 x2 x3 x4 x5 x6 (nI i) U = some (gx_u (gx_u (gx_u (gx_u (gx_u (gx_u (gx_u (gx_u (gx_u (gx_u (cpe U n i) 16 n (U 0 2)) 17 n (U 0 13)) 6 n x2) 7 n x1) 8 n 0) 9 n x3) 10 n x4) 11 n x5) 12 n x6) 13 n 0) := by
  intro m
  induction m with
  | zero =>
    intro i fuel U h1 h2 h3
    obtain ⟨f, rfl⟩ : ∃ f, fuel = f + 1 := ⟨fuel - 1, by omega⟩
    have e : i = 576 := by omega
    subst e
    rw [F_Mod_enter_13, if_pos (by decide), cpe_end]
    simp only [Nat.zero_add, h3, ib_t hn (show 8 < 2 ^ 31 by decide), nI_clamp (show n < 2 ^ 31 by omega), gl, gx_uK (show (0 : Nat) ≠ 16 by decide), gx_uK (show (0 : Nat) ≠ 17 by decide), gx_uK (show (0 : Nat) ≠ 6 by decide), gx_uK (show (0 : Nat) ≠ 7 by decide), gx_uK (show (0 : Nat) ≠ 8 by decide), gx_uK (show (0 : Nat) ≠ 9 by decide), gx_uK (show (0 : Nat) ≠ 10 by decide), gx_uK (show (0 : Nat) ≠ 11 by decide), gx_uK (show (0 : Nat) ≠ 12 by decide)]
  | succ m ih =>
    intro i fuel U h1 h2 h3
    obtain ⟨f, rfl⟩ : ∃ f, fuel = f + 1 := ⟨fuel - 1, by omega⟩
    rw [F_Mod_enter_13, if_neg (ge576 (show i < 576 by omega)), h3, m576, nI_add, ib_t (by omega) (by decide), ib_t (by omega) (by decide), nI_clamp (by omega), nI_clamp (by omega), gl, nI_1, Nat.zero_add, Nat.zero_add, ih (i + 1) f _ (by omega) (by omega) (by rw [gx_uK (by decide)]; exact h3), cpe_step (by omega), gx_uK (by decide)]
theorem enterM {U : gx_M} {n : Nat} {x1 x2 x3 x4 x5 x6 : Int32} (hn : n < 8) (e : U 0 19 = nI n - 1) : ∃ U1, F_Mod_enter 0 x1 x2 x3 x4 x5 x6 U = some U1 ∧ U1 0 19 = nI n ∧ (∀ p, p ≠ 19 → U1 0 p = U 0 p) ∧ (∀ k, 0 < k → k < 6 → U1 k = U k) ∧ U1 14 = U 14 ∧ U1 6 = upd (U 6) n x2 ∧ U1 7 = upd (U 7) n x1 ∧ U1 8 = upd (U 8) n 0 ∧ U1 9 = upd (U 9) n x3 ∧ U1 10 = upd (U 10) n x4 ∧ U1 11 = upd (U 11) n x5 ∧ U1 12 = upd (U 12) n x6 ∧ U1 13 = upd (U 13) n 0 ∧ U1 16 = upd (U 16) n (U 0 2) ∧ U1 17 = upd (U 17) n (U 0 13) ∧ U1 15 = fun q => if 576 * n + 0 ≤ q ∧ q < 576 * n + 576 then U 1 (q - 576 * n) else U 15 q := by
  have e1 : nI n - (1 : Int32) + 1 = nI n := Int32.sub_add_cancel _ _
  unfold F_Mod_enter
  generalize hf : (1000 : Nat) = f
  rw [e, e1, gl]
  have h := en13 (x1 := x1) (x2 := x2) (x3 := x3) (x4 := x4) (x5 := x5) (x6 := x6) hn 576 0 f (gx_u U 0 19 (nI n)) (by omega) (by omega) (by rw [gx_us])
  rw [nI_0, gx_up (by decide), gx_up (by decide)] at h
  refine ⟨_, h, ?_, ?_, ?_, ?_, ?_, ?_, ?_, ?_, ?_, ?_, ?_, ?_, ?_, ?_, ?_⟩
  · rw [gx_uK (by decide), gx_uK (by decide), gx_uK (by decide), gx_uK (by decide), gx_uK (by decide), gx_uK (by decide), gx_uK (by decide), gx_uK (by decide), gx_uK (by decide), gx_uK (by decide), cpe_o (by decide), gx_us]
  · intro p hp
    rw [gx_uK (by decide), gx_uK (by decide), gx_uK (by decide), gx_uK (by decide), gx_uK (by decide), gx_uK (by decide), gx_uK (by decide), gx_uK (by decide), gx_uK (by decide), gx_uK (by decide), cpe_o (by decide), gx_up hp]
  · intro k h1 h2
    rw [gx_uK (by omega), gx_uK (by omega), gx_uK (by omega), gx_uK (by omega), gx_uK (by omega), gx_uK (by omega), gx_uK (by omega), gx_uK (by omega), gx_uK (by omega), gx_uK (by omega), cpe_o (by omega), gx_uK (by omega)]
  · rw [gx_uK (by omega), gx_uK (by omega), gx_uK (by omega), gx_uK (by omega), gx_uK (by omega), gx_uK (by omega), gx_uK (by omega), gx_uK (by omega), gx_uK (by omega), gx_uK (by omega), cpe_o (by omega), gx_uK (by omega)]
  · rw [gx_uK (by decide), gx_uK (by decide), gx_uK (by decide), gx_uK (by decide), gx_uK (by decide), gx_uK (by decide), gx_uK (by decide), gx_ua, if_pos rfl, gx_uK (by decide), gx_uK (by decide), cpe_o (by decide), gx_uK (by decide)]
  · rw [gx_uK (by decide), gx_uK (by decide), gx_uK (by decide), gx_uK (by decide), gx_uK (by decide), gx_uK (by decide), gx_ua, if_pos rfl, gx_uK (by decide), gx_uK (by decide), gx_uK (by decide), cpe_o (by decide), gx_uK (by decide)]
  · rw [gx_uK (by decide), gx_uK (by decide), gx_uK (by decide), gx_uK (by decide), gx_uK (by decide), gx_ua, if_pos rfl, gx_uK (by decide), gx_uK (by decide), gx_uK (by decide), gx_uK (by decide), cpe_o (by decide), gx_uK (by decide)]
  · rw [gx_uK (by decide), gx_uK (by decide), gx_uK (by decide), gx_uK (by decide), gx_ua, if_pos rfl, gx_uK (by decide), gx_uK (by decide), gx_uK (by decide), gx_uK (by decide), gx_uK (by decide), cpe_o (by decide), gx_uK (by decide)]
  · rw [gx_uK (by decide), gx_uK (by decide), gx_uK (by decide), gx_ua, if_pos rfl, gx_uK (by decide), gx_uK (by decide), gx_uK (by decide), gx_uK (by decide), gx_uK (by decide), gx_uK (by decide), cpe_o (by decide), gx_uK (by decide)]
  · rw [gx_uK (by decide), gx_uK (by decide), gx_ua, if_pos rfl, gx_uK (by decide), gx_uK (by decide), gx_uK (by decide), gx_uK (by decide), gx_uK (by decide), gx_uK (by decide), gx_uK (by decide), cpe_o (by decide), gx_uK (by decide)]
  · rw [gx_uK (by decide), gx_ua, if_pos rfl, gx_uK (by decide), gx_uK (by decide), gx_uK (by decide), gx_uK (by decide), gx_uK (by decide), gx_uK (by decide), gx_uK (by decide), gx_uK (by decide), cpe_o (by decide), gx_uK (by decide)]
  · rw [gx_ua, if_pos rfl, gx_uK (by decide), gx_uK (by decide), gx_uK (by decide), gx_uK (by decide), gx_uK (by decide), gx_uK (by decide), gx_uK (by decide), gx_uK (by decide), gx_uK (by decide), cpe_o (by decide), gx_uK (by decide)]
  · rw [gx_uK (by decide), gx_uK (by decide), gx_uK (by decide), gx_uK (by decide), gx_uK (by decide), gx_uK (by decide), gx_uK (by decide), gx_uK (by decide), gx_uK (by decide), gx_ua, if_pos rfl, cpe_o (by decide), gx_uK (by decide)]
  · rw [gx_uK (by decide), gx_uK (by decide), gx_uK (by decide), gx_uK (by decide), gx_uK (by decide), gx_uK (by decide), gx_uK (by decide), gx_uK (by decide), gx_ua, if_pos rfl, gx_uK (by decide), cpe_o (by decide), gx_uK (by decide)]
  · rw [gx_uK (by decide), gx_uK (by decide), gx_uK (by decide), gx_uK (by decide), gx_uK (by decide), gx_uK (by decide), gx_uK (by decide), gx_uK (by decide), gx_uK (by decide), gx_uK (by decide), cpe_d, gx_uK (show 1 ≠ 0 by decide), gx_uK (show 15 ≠ 0 by decide)]
theorem pr_acc_f {b n s w t f f' : Nat → Int32} {o : Nat} (h : pr_acc b n s w t f o) (hf : ∀ q, q < 576 → f' (o + q) = f (o + q)) : pr_acc b n s w t f' o := by
  intro c hc
  obtain ⟨h1, h2, h3, ⟨y, hy, h4, h5⟩, h6⟩ := h c hc
  refine ⟨?_, ?_, ?_, ⟨y, hy, h4, fun j hj => ?_⟩, fun i hi => ?_⟩
  · rw [hf _ (by omega)]; exact h1
  · rw [Nat.add_assoc, hf _ (by omega), ← Nat.add_assoc]; exact h2
  · rw [Nat.add_assoc, hf _ (by omega), ← Nat.add_assoc]; exact h3
  · rw [show o + 36 * c + 3 + j = o + (36 * c + 3 + j) by omega, hf _ (by omega), show o + (36 * c + 3 + j) = o + 36 * c + 3 + j by omega]; exact h5 j hj
  · rw [show o + 36 * c + 27 + i = o + (36 * c + 27 + i) by omega, hf _ (by omega), show o + (36 * c + 27 + i) = o + 36 * c + 27 + i by omega]; exact h6 i hi
theorem pr_acc_en {b n s w t f b' n' s' w' t' f' : Nat → Int32} {o : Nat} (h : pr_acc b n s w t f 0) (hf : ∀ q, q < 576 → f' (o + q) = f q) : pr_acc (va_cpy b b' 0 0 16) (va_cpy n n' 0 0 16) (va_cpy s s' 0 0 16) (va_cpy w w' 0 0 384) (va_cpy t t' 0 0 128) f' o := by
  intro c hc
  obtain ⟨h1, h2, h3, ⟨y, hy, h4, h5⟩, h6⟩ := h c hc
  rw [Nat.zero_add] at h1 h2 h3 h5 h6
  refine ⟨?_, ?_, ?_, ⟨y, hy, ?_, fun j hj => ?_⟩, fun i hi => ?_⟩
  · rw [sb_cpy0 hc, hf _ (by omega)]; exact h1
  · rw [sb_cpy0 hc, Nat.add_assoc, hf _ (by omega)]; exact h2
  · rw [sb_cpy0 hc, Nat.add_assoc, hf _ (by omega)]; exact h3
  · rw [sb_cpy0 hc]; exact h4
  · rw [sb_cpy0 (by omega), show o + 36 * c + 3 + j = o + (36 * c + 3 + j) by omega, hf _ (by omega)]; exact h5 j hj
  · rw [sb_cpy0 (by omega), show o + 36 * c + 27 + i = o + (36 * c + 27 + i) by omega, hf _ (by omega)]; exact h6 i hi
theorem enter_s {V0 U0 V U : gx_M} {B : Nat} {C : Nat × Nat} {n gg lg rf s cd : Nat} {g h L R : Nat → Nat} {cl v i : Int32} (hn : n < 8) (e3 : V 1 3 = nI n) (e19 : U 0 19 = nI n - 1) (hw : tw V U B lg rf) (hq : tq V U B n g h L R) (hl : lv n L lg) (hb : bd C (sg g n + gg) lg rf n R) (hfx : fx V0 U0 V U) (hs : s < 16) (hcd : cd < 16) : ∃ V1 U1, F_Mac_enter 1 (nI s) (nI cd) cl v i (nI gg) V = some V1 ∧ F_Mod_enter 0 (nI cd) (nI s) cl v i (nI gg) U = some U1 ∧ tr V0 U0 B C n g h (gu L n lg) (gu R n rf) gg 0 lg rf V1 U1 ∧ (∀ k, k ≠ 1 → k ≠ 13 + 9 * n → (k < 16 + 9 * n ∨ 20 + 9 * n < k) → V1 k = V k) ∧ U1 1 = U 1 := by
  obtain ⟨V1, c0, ck, c3, cp, a0, a1, a2, a3, a4, a5, a6, a8, a9, a13, a14, a15, a16, r1, r2, r3, r4, r5⟩ := enterC (x1 := nI s) (x2 := nI cd) (x3 := cl) (x4 := v) (x5 := i) (x6 := nI gg) hn e3
  obtain ⟨U1, m0, m19, mp, mk, m14, m6, m7, m8, m9, m10, m11, m12, m13, m16, m17, m15⟩ := enterM (x1 := nI cd) (x2 := nI s) (x3 := cl) (x4 := v) (x5 := i) (x6 := nI gg) hn e19
  refine ⟨V1, U1, c0, m0, ⟨⟨hn, c3, m19, ?_, ?_, ?_, ?_, ?_, ?_⟩, ?_⟩, ck, mk 1 (by decide) (by decide)⟩
  · unfold tw
    rw [cp 4 (by decide), cp 5 (by decide), ck 3 (by decide) (by omega) (by omega), ck 4 (by decide) (by omega) (by omega), ck 5 (by decide) (by omega) (by omega), ck 6 (by decide) (by omega) (by omega), ck 7 (by decide) (by omega) (by omega), ck 9 (by decide) (by omega) (by omega), ck 10 (by decide) (by omega) (by omega), ck 11 (by decide) (by omega) (by omega), mp 2 (by decide), mp 13 (by decide), mk 1 (by decide) (by decide), mk 4 (by decide) (by decide), mk 5 (by decide) (by decide)]
    exact hw
  · intro j hj
    obtain ⟨⟨b1, b2, b3, b4, b5, b6, b7, b8⟩, q2, q3⟩ := hq j hj
    have f15 : ∀ q, q < 576 → U1 15 (576 * j + q) = U 15 (576 * j + q) := fun q hq => by rw [m15]; exact if_neg (by omega)
    refine ⟨?_, ?_, q3⟩
    · unfold bf
      rw [gu_n (by omega), gu_n (by omega), ck (13 + 9 * j) (by omega) (by omega) (by omega), ck (16 + 9 * j) (by omega) (by omega) (by omega), ck (17 + 9 * j) (by omega) (by omega) (by omega), ck (18 + 9 * j) (by omega) (by omega) (by omega), ck (19 + 9 * j) (by omega) (by omega) (by omega), ck (20 + 9 * j) (by omega) (by omega) (by omega), m16, m17, pk_un (by omega), pk_un (by omega), mk 5 (by decide) (by decide)]
      refine ⟨pr_acc_f b1 f15, b2, fun a ha => ?_, b4, b5, b6, b7, b8⟩
      rw [show 576 * j + 36 * a + 35 = 576 * j + (36 * a + 35) by omega, f15 _ (by omega), show 576 * j + (36 * a + 35) = 576 * j + 36 * a + 35 by omega]
      exact b3 a ha
    · unfold rn at q2 ⊢
      rw [ck (13 + 9 * j) (by omega) (by omega) (by omega), ck (14 + 9 * j) (by omega) (by omega) (by omega), m6, m7, m8, m9, m10, m11, m12, m13, m14, pk_un (show j ≠ n by omega), pk_un (show j ≠ n by omega), pk_un (show j ≠ n by omega), pk_un (show j ≠ n by omega), pk_un (show j ≠ n by omega), pk_un (show j ≠ n by omega), pk_un (show j ≠ n by omega), pk_un (show j ≠ n by omega)]
      exact q2
  · obtain ⟨w1, w2, w3, w4, w5, w6, w7, w8, w9⟩ := hw
    have f15 : ∀ q, q < 576 → U1 15 (576 * n + q) = U 1 q := fun q hq => by
      rw [m15]
      show (if 576 * n + 0 ≤ 576 * n + q ∧ 576 * n + q < 576 * n + 576 then U 1 (576 * n + q - 576 * n) else U 15 (576 * n + q)) = U 1 q
      rw [if_pos ⟨by omega, by omega⟩]; congr 1; omega
    unfold bf
    rw [gu_s, gu_s, r1, r2, r3, r4, r5, a13, a14, a15, a16, m16, m17, pk_us, pk_us, mk 5 (by decide) (by decide)]
    refine ⟨pr_acc_en w4 f15, bp_cp w5, fun a ha => ?_, w1, w2, w6, w7, w8⟩
    rw [show 576 * n + 36 * a + 35 = 576 * n + (36 * a + 35) by omega, f15 _ (by omega)]
    have := w3 a ha
    rw [Nat.zero_add] at this
    exact this
  · refine ⟨fun a b hab hbn => ?_, fun j hj => ?_⟩
    · by_cases e : b = n
      · subst e
        rw [gu_s]
        by_cases e2 : a = b
        · subst e2; rw [gu_s]; exact Nat.le_refl _
        · rw [gu_n e2]; exact hl.2 a (by omega)
      · rw [gu_n e, gu_n (by omega)]; exact hl.1 a b hab (by omega)
    · by_cases e : j = n
      · subst e; rw [gu_s]; exact Nat.le_refl _
      · rw [gu_n e]; exact hl.2 j (by omega)
  · obtain ⟨b1, b2, b3⟩ := hb
    refine ⟨b1, b2, fun j hj => ?_⟩
    by_cases e : j = n
    · subst e; rw [gu_s]; exact b2
    · rw [gu_n e]; exact b3 j (by omega)
  · obtain ⟨f1, f2, f3, f4, f5⟩ := hfx
    exact ⟨by rw [ck 0 (by decide) (by omega) (by omega), f1], fun k hk => by rw [ck k (by omega) (by omega) (by omega), f2 k hk], by rw [mk 2 (by decide) (by decide), f3], by rw [mk 3 (by decide) (by decide), f4], fun p h1 h2 h3 h4 h5 h6 => by rw [mp p h3]; exact f5 p h1 h2 h3 h4 h5 h6⟩
  · unfold rn
    rw [a0, a1, a2, a3, a4, a5, a6, a8, a9, m6, m7, m8, m9, m10, m11, m12, m13, pk_us, pk_us, pk_us, pk_us, pk_us, pk_us, pk_us, pk_us]
    exact ⟨⟨s, hs, rfl, rfl⟩, ⟨cd, hcd, rfl, rfl⟩, ⟨0, by omega, rfl, rfl⟩, rfl, rfl, rfl, rfl, rfl, rfl, rfl, by omega, rfl, fun q hq => absurd hq (by omega)⟩
