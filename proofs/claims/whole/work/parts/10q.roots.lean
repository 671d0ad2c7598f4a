theorem sm_c {n : Nat} {V U V' U' : gx_M} (h : sm_R n V U) (hV : ∀ c, c ≠ 8 → V' c = V c) (hU : ∀ c, c < 18 → U' c = U c) : sm_R n V' U' := by
  unfold sm_R
  rw [hV 0 (by decide), hV 3 (by decide), hV 4 (by decide), hV 5 (by decide), hV 6 (by decide), hV 7 (by decide), hV 86 (by decide), hV 87 (by decide), hV 88 (by decide), hV 89 (by decide), hV 90 (by decide), hV 92 (by decide), hV 93 (by decide), hV 94 (by decide), hV 95 (by decide), hV 96 (by decide), hV 9 (by decide), hV 10 (by decide), hV 11 (by decide), hU 0 (by decide), hU 1 (by decide), hU 2 (by decide), hU 3 (by decide), hU 4 (by decide), hU 5 (by decide)]
  exact h
theorem in5_no {x : Int32} {V : gx_M} (h : x < 0 ∨ nI 5 ≤ x) : F_Mod_in x 5 V = some (0, V) := in_no h
theorem in5_yes {a : Nat} {V : gx_M} (h : a < 5) : F_Mod_in (nI a) 5 V = some (1, V) := in_yes (L := 5) h (by decide)
set_option maxHeartbeats 1000000 in
theorem pf_look : sm_look sm_R := by
  intro n V U hn hR a1 a2
  have hR1 := pr_next hR
  have ha := hR.2.1
  unfold F_Led_look F_Mod_look
  rcases pr_ix a1 16 (by decide) with h | ⟨a, h16, rfl⟩
  · exact ⟨-1, V, U, by simp only [acc_no h, ob, if_true], by simp only [in16_no h, ob, if_true], hR1⟩
  rw [acc_yes h16, in16_yes h16, ob, ob]
  dsimp only
  have z1 : ¬ (1 : Int32) = 0 := by decide
  rw [if_neg z1, if_neg z1]
  rcases pr_ix a2 5 (by decide) with h | ⟨w, hw, rfl⟩
  · have w0 : ¬ a2 = (0 : Int32) := out_ne (j := 0) h (by decide) (by decide)
    have w1 : ¬ a2 = (1 : Int32) := out_ne (j := 1) h (by decide) (by decide)
    have w2 : ¬ a2 = (2 : Int32) := out_ne (j := 2) h (by decide) (by decide)
    have w3 : ¬ a2 = (3 : Int32) := out_ne (j := 3) h (by decide) (by decide)
    have w4 : ¬ a2 = (4 : Int32) := out_ne (j := 4) h (by decide) (by decide)
    exact ⟨-1, V, U, by simp only [w0, w1, w2, w3, w4, if_false], by simp only [in5_no h, ob, if_true], hR1⟩
  rw [in5_yes hw, ob]
  dsimp only
  rw [if_neg z1]
  obtain ⟨h1, h2, h3, -, ht⟩ := ha a h16
  rw [Nat.zero_add] at h1 h2 h3 ht
  have hx : w = 0 ∨ w = 1 ∨ w = 2 ∨ w = 3 ∨ w = 4 := by omega
  have ei : ∀ w, (36 : Int32) * nI a + nI w = nI (36 * a + w) := fun w => by rw [m36, nI_add]
  simp only [ei, nI_clamp (show 36 * a + w < 2 ^ 31 by omega), nI_clamp (show a < 2 ^ 31 by omega)]
  rcases hx with rfl | rfl | rfl | rfl | rfl
  · refine ⟨V 3 a, V, U, ?_, ?_, hR1⟩
    · rw [if_pos (by decide), ib_t h16 (by decide)]
    · rw [if_neg (by decide), ib_t (by omega) (by decide), h1]; rfl
  · refine ⟨V 4 a, V, U, ?_, ?_, hR1⟩
    · rw [if_neg (by decide), if_pos (by decide), ib_t h16 (by decide)]
    · rw [if_neg (by decide), ib_t (by omega) (by decide), h2]
  · refine ⟨V 5 a, V, U, ?_, ?_, hR1⟩
    · rw [if_neg (by decide), if_neg (by decide), if_pos (by decide), ib_t h16 (by decide)]
    · rw [if_neg (by decide), ib_t (by omega) (by decide), h3]
  · obtain ⟨U', j1, j2⟩ := srM0 (U := U) h16 (g := fun k => V 7 (8 * a + k)) ht
    refine ⟨sroot fun k => V 7 (8 * a + k), V, U', ?_, ?_, sm_c hR1 (fun _ _ => rfl) (fun c hc => j1 c (by omega) (by omega) (by omega))⟩
    · rw [if_neg (by decide), if_neg (by decide), if_neg (by decide), if_pos (by decide), show 0 + 1 + 1 = 2 from rfl, srC h16, ob]
    · rw [if_pos (by decide), if_pos (by decide), j2, ob]
  · obtain ⟨U', j1, j2⟩ := avM ha h16
    refine ⟨avl V a, V, U', ?_, ?_, sm_c hR1 (fun _ _ => rfl) (fun c hc => j1 c (by omega) (by omega) (by omega))⟩
    · rw [if_neg (by decide), if_neg (by decide), if_neg (by decide), if_neg (by decide), if_pos (by decide), show 0 + 1 + 1 = 2 from rfl, avC ha h16, ob]
    · rw [if_pos (by decide), if_neg (by decide), j2, ob]
theorem av_c {V V' : gx_M} (h : ∀ c, c ≠ 8 → V' c = V c) (a : Nat) : avl V' a = avl V a ∧ emp V' a = emp V a := by
  unfold avl emp
  rw [h 3 (by decide), h 4 (by decide), h 5 (by decide), h 6 (by decide), h 7 (by decide)]
  exact ⟨rfl, rfl⟩
def hem (V : gx_M) (a : Nat) : Bool := decide (emp V a = 0)
theorem hem_t {V : gx_M} {a : Nat} : hem V a = true ↔ emp V a = 0 := by unfold hem; simp
theorem rtC {V0 U : gx_M} (h : pr_acc (V0 3) (V0 4) (V0 5) (V0 6) (V0 7) (U 1) 0) : ∀ (n k fuel : Nat) (V : gx_M), k + n = 16 → n < fuel → (∀ c, c ≠ 8 → V c = V0 c) → (∀ j, j < k → hem V0 j = true → V 8 j = avl V0 j) → ∃ V', (∀ c, c ≠ 8 → V' c = V0 c) ∧ F_Acc_rootOfAll_4 fuel 2 (fsk (hem V0) k) (nI k) V = some (rt (hem V0) (avl V0) 6 4 0, V') := by
  intro n
  induction n with
  | zero =>
    intro k fuel V h1 h2 hc hv
    obtain ⟨f, rfl⟩ : ∃ f, fuel = f + 1 := ⟨fuel - 1, by omega⟩
    have e : k = 16 := by omega
    subst e
    refine ⟨V, hc, ?_⟩
    rw [F_Acc_rootOfAll_4, if_pos (by decide), show (2 + 6 : Nat) = 8 from rfl, show (0 : Int32) = nI 0 from rfl, show (4 : Int32) = nI 4 from rfl, cmap (w := 4) (H := hem V0) (W := avl V0) (by decide) (fun k hk => by rw [fsk_b 16 (by decide), decide_eq_true hk, Bool.true_and]) (by decide) (fun k hk hh => ?_), ob]
    rw [Nat.zero_add]
    exact ⟨hk, hv k hk hh⟩
  | succ n ih =>
    intro k fuel V h1 h2 hc hv
    obtain ⟨f, rfl⟩ : ∃ f, fuel = f + 1 := ⟨fuel - 1, by omega⟩
    have hk : k < 16 := by omega
    obtain ⟨a1, a2⟩ := av_c hc k
    have ev : F_Acc_valueOf 2 (nI k) V = some (avl V0 k, V) := by
      rw [← a1]
      exact avC (V := V) (U := U) (by rw [hc 3 (by decide), hc 4 (by decide), hc 5 (by decide), hc 6 (by decide), hc 7 (by decide)]; exact h) hk
    rw [F_Acc_rootOfAll_4, if_neg (ge16 hk), emC hk, ob, a2, nI_1]
    dsimp only
    by_cases e : emp V0 k = 0
    · rw [if_pos e, ev, ob, ib_t hk (by decide), gl, nI_clamp (by omega), show (2 + 6 : Nat) = 8 from rfl]
      dsimp only
      have := ih (k + 1) f (gx_u V 8 k (avl V0 k)) (by omega) (by omega) (fun c q => by rw [gx_uK q]; exact hc c q) (fun j q1 q2 => by
        by_cases ej : j = k
        · subst ej; rw [gx_us]
        · rw [gx_up ej]; exact hv j (by omega) q2)
      rw [fsk, if_pos (hem_t.mpr e)] at this
      exact this
    · rw [if_neg e]
      have := ih (k + 1) f V (by omega) (by omega) hc (fun j q1 q2 => by
        by_cases ej : j = k
        · subst ej; exact absurd (hem_t.mp q2) e
        · exact hv j (by omega) q2)
      rw [fsk, if_neg (fun q => e (hem_t.mp q))] at this
      exact this
theorem rtM1 {V U0 : gx_M} (h : pr_acc (V 3) (V 4) (V 5) (V 6) (V 7) (U0 1) 0) : ∀ (n k fuel : Nat) (U : gx_M), k + n = 16 → n < fuel → (∀ c, c < 18 → U c = U0 c) → (∀ j, j < 16 → U 21 j = avl V j) → (∀ j, j < k → U 20 j = avl V j ∧ (U 19 j = 0 ↔ hem V j = false)) → ∃ U', (∀ c, c < 18 → U' c = U0 c) ∧ F_Mod_root_27 fuel 0 (nI k) U = some (rt (hem V) (avl V) 6 4 0, U') := by
  intro n
  induction n with
  | zero =>
    intro k fuel U h1 h2 hc hv hj
    obtain ⟨f, rfl⟩ : ∃ f, fuel = f + 1 := ⟨fuel - 1, by omega⟩
    have e : k = 16 := by omega
    subst e
    obtain ⟨U', i1, i2⟩ := mmap (w := 4) (U := U) (H := hem V) (W := avl V) (by decide) (fun k h1 h2 => (hj k h1).2) (fun k h1 h2 h3 => (hj k h1).1)
    refine ⟨U', fun c q => by rw [i1 c (by omega), hc c q], ?_⟩
    rw [F_Mod_root_27, if_pos (by decide), show (4 : Int32) = nI 4 from rfl, i2, ob]
  | succ n ih =>
    intro k fuel U h1 h2 hc hv hj
    obtain ⟨f, rfl⟩ : ∃ f, fuel = f + 1 := ⟨fuel - 1, by omega⟩
    have hk : k < 16 := by omega
    have em : F_Mod_empty 0 (nI k) U = some (emp V k, U) := emM (by rw [hc 1 (by decide)]; exact h) hk
    have st : ∀ x : Int32, (x = 0 ↔ hem V k = false) → ∃ U', (∀ c, c < 18 → U' c = U0 c) ∧ F_Mod_root_27 f 0 (nI (k + 1)) (gx_u (gx_u U 19 k x) 20 k (U 21 k)) = some (rt (hem V) (avl V) 6 4 0, U') := by
      intro x hx
      refine ih (k + 1) f (gx_u (gx_u U 19 k x) 20 k (U 21 k)) (by omega) (by omega) (fun c q => by rw [gx_uK (by omega), gx_uK (by omega)]; exact hc c q) (fun j q => by rw [gx_uK (by decide), gx_uK (by decide)]; exact hv j q) (fun j q => ?_)
      by_cases e : j = k
      · subst e
        rw [gx_us, gx_uK (by decide), gx_us]
        exact ⟨hv j hk, hx⟩
      · rw [gx_up e, gx_uK (show (19 : Nat) ≠ 20 by decide), gx_up e, gx_uK (by decide)]
        exact hj j (by omega)
    have s0 := st 0
    have s1 := st 1
    have o : ∀ x, gx_u U 19 k x 21 k = U 21 k := fun x => by rw [gx_uK (by decide)]
    rw [F_Mod_root_27, if_neg (ge16 hk), em, ob]
    simp only [ib_t hk (show 16 < 2 ^ 31 by decide), nI_clamp (show k < 2 ^ 31 by omega), gl, Nat.zero_add, nb0, nb1, nI_1, o]
    by_cases e : emp V k = 0
    · rw [if_pos e]
      exact s1 ⟨fun q => absurd q (by decide), fun q => by rw [hem_t.mpr e] at q; exact absurd q (by decide)⟩
    · rw [if_neg e]
      exact s0 ⟨fun _ => by unfold hem; exact decide_eq_false e, fun _ => rfl⟩
theorem rtM2 {V U0 : gx_M} (h : pr_acc (V 3) (V 4) (V 5) (V 6) (V 7) (U0 1) 0) : ∀ (n k fuel : Nat) (U : gx_M), k + n = 16 → n < fuel → (∀ c, c < 18 → U c = U0 c) → (∀ j, j < k → U 21 j = avl V j) → ∃ U', (∀ c, c < 18 → U' c = U0 c) ∧ F_Mod_root_2 fuel 0 (nI k) U = some (rt (hem V) (avl V) 6 4 0, U') := by
  intro n
  induction n with
  | zero =>
    intro k fuel U h1 h2 hc hv
    obtain ⟨f, rfl⟩ : ∃ f, fuel = f + 1 := ⟨fuel - 1, by omega⟩
    have e : k = 16 := by omega
    subst e
    generalize hz : (100 : Nat) = z
    obtain ⟨U', i1, i2⟩ := rtM1 h 16 0 z U rfl (by omega) hc hv (fun j q => absurd q (by omega))
    refine ⟨U', i1, ?_⟩
    rw [F_Mod_root_2, if_pos (by decide), hz]
    exact i2
  | succ n ih =>
    intro k fuel U h1 h2 hc hv
    obtain ⟨f, rfl⟩ : ∃ f, fuel = f + 1 := ⟨fuel - 1, by omega⟩
    have hk : k < 16 := by omega
    obtain ⟨U1, i1, i2⟩ := avM (V := V) (U := U) (by rw [hc 1 (by decide)]; exact h) hk
    rw [F_Mod_root_2, if_neg (ge16 hk), i2, ob, ib_t hk (by decide), gl, nI_clamp (by omega), nI_1, Nat.zero_add]
    exact ih (k + 1) f (gx_u U1 21 k (avl V k)) (by omega) (by omega) (fun c q => by rw [gx_uK (by omega), i1 c (by omega) (by omega) (by omega)]; exact hc c q) (fun j q => by
        by_cases ej : j = k
        · subst ej; rw [gx_us]
        · rw [gx_up ej, i1 21 (by decide) (by decide) (by decide)]; exact hv j (by omega))
theorem pf_root : sm_root sm_R := by
  intro n V U hn hR
  have ha := hR.2.1
  unfold F_Led_root F_Acc_rootOfAll F_Mod_root
  generalize hz : (100 : Nat) = z
  obtain ⟨V', i1, i2⟩ := rtC ha 16 0 z V rfl (by omega) (fun _ _ => rfl) (fun j q => absurd q (by omega))
  obtain ⟨U', j1, j2⟩ := rtM2 ha 16 0 z U rfl (by omega) (fun _ _ => rfl) (fun j q => absurd q (by omega))
  refine ⟨_, V', U', ?_, j2, sm_c (pr_next hR) i1 j1⟩
  rw [show (0 + 1 + 1 : Nat) = 2 from rfl]
  rw [fsk, nI_0] at i2
  rw [i2, ob]
