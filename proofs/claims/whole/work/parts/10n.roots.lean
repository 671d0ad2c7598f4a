theorem mmap8 {w d : Nat} {H : Nat → Bool} {W : Nat → Int32} (kont : Nat → Int32 → Int32 → gx_M → Option (Int32 × gx_M)) (hw : w ≤ 4) (hd : d ≤ w) : ∀ (n p fuel : Nat) (U : gx_M), p + n = 2 ^ d → n < fuel → (∀ k, k < 16 → k < 2 ^ w → (U 19 k = 0 ↔ H k = false)) → (∀ k, k < 16 → k < 2 ^ w → H k = true → U 20 k = W k) → nod H W U w d → (∀ p', p' < p → U 18 (2 ^ d + p') = rt H W 6 (w - d) (p' * 2 ^ (w - d))) → ∃ U', (∀ c, c ≠ 18 → U' c = U c) ∧ nod H W U' w d ∧ (∀ p', p' < 2 ^ d → U' 18 (2 ^ d + p') = rt H W 6 (w - d) (p' * 2 ^ (w - d))) ∧ F_Mod_map_8 fuel kont 0 (nI w) (nI d) (nI p) U = kont 0 (nI w) (nI d + (-1 : Int32)) U' := by
  have d16 : 2 ^ d ≤ 16 := by rcases pw (show d ≤ 4 by omega) with rfl | rfl | rfl | rfl | rfl <;> decide
  intro n
  induction n with
  | zero =>
    intro p fuel U h1 h2 hH hW hn hp
    obtain ⟨g, rfl⟩ : ∃ g, fuel = g + 1 := ⟨fuel - 1, by omega⟩
    have hp' : p = 2 ^ d := by omega
    subst hp'
    refine ⟨U, fun _ _ => rfl, hn, hp, ?_⟩
    rw [F_Mod_map_8, sh1 d (by omega), if_pos (nI_le (Nat.le_refl _) (by omega))]
  | succ n ih =>
    intro p fuel U h1 h2 hH hW hn hp
    obtain ⟨g, rfl⟩ : ∃ g, fuel = g + 1 := ⟨fuel - 1, by omega⟩
    have hpd : p < 2 ^ d := by omega
    generalize hx : rt H W 6 (w - d) (p * 2 ^ (w - d)) = x
    have hm := mpart hw hd hpd hH hW hn
    rw [hx] at hm
    have o : ∀ c, c ≠ 18 → gx_u U 18 (2 ^ d + p) x c = U c := fun c hc => gx_uK hc
    obtain ⟨U', i1, i2, i3, i4⟩ := ih (p + 1) g (gx_u U 18 (2 ^ d + p) x) (by omega) (by omega) (by rw [o 19 (by decide)]; exact hH) (by rw [o 20 (by decide)]; exact hW) (fun d' q1 q2 p' q3 => by
      have : 2 ^ (d + 1) ≤ 2 ^ d' := Nat.pow_le_pow_right (by decide) q1
      rw [Nat.pow_succ] at this
      rw [gx_up (by omega)]; exact hn d' q1 q2 p' q3) (fun p' q => by
      by_cases e : p' = p
      · subst e; rw [gx_us, hx]
      · rw [gx_up (by omega)]; exact hp p' (by omega))
    refine ⟨U', fun c hc => by rw [i1 c hc, o c hc], i2, i3, ?_⟩
    rw [F_Mod_map_8, sh1 d (by omega), if_neg (nI_ge hpd (by omega)), hm, ob, nI_add, ib_t (by omega) (by decide), nI_clamp (by omega), gl, Nat.zero_add, nI_1, i4]
theorem mmap2 {w : Nat} {H : Nat → Bool} {W : Nat → Int32} (hw : w ≤ 4) : ∀ (d fuel : Nat) (U : gx_M), d ≤ w → d + 1 < fuel → (∀ k, k < 16 → k < 2 ^ w → (U 19 k = 0 ↔ H k = false)) → (∀ k, k < 16 → k < 2 ^ w → H k = true → U 20 k = W k) → nod H W U w d → ∃ U', (∀ c, c ≠ 18 → U' c = U c) ∧ F_Mod_map_2 fuel 0 (nI w) (nI d) U = some (rt H W 6 w 0, U') := by
  intro d
  induction d with
  | zero =>
    intro fuel U hd hf hH hW hn
    obtain ⟨g, rfl⟩ : ∃ g, fuel = g + 1 + 1 := ⟨fuel - 2, by omega⟩
    obtain ⟨U', i1, i2, i3, i4⟩ := mmap8 (H := H) (W := W) (fun a0 a1 a2 V => F_Mod_map_2 (g + 1) a0 a1 a2 V) hw hd 1 0 100 U rfl (by decide) hH hW hn (fun p' q => absurd q (by omega))
    refine ⟨U', i1, ?_⟩
    rw [nI_0] at i4
    have := i3 0 (by decide)
    rw [Nat.zero_mul, Nat.sub_zero] at this
    rw [nI_0, F_Mod_map_2, if_neg (by decide), i4]
    rw [F_Mod_map_2, if_pos (by decide), show (1 : Int32) = nI 1 from rfl, ib_t (by decide) (by decide), nI_clamp (by decide), Nat.zero_add, ← this]
  | succ d ih =>
    intro fuel U hd hf hH hW hn
    obtain ⟨g, rfl⟩ : ∃ g, fuel = g + 1 := ⟨fuel - 1, by omega⟩
    have d16 : 2 ^ (d + 1) ≤ 16 := by rcases pw (show d + 1 ≤ 4 by omega) with h | h | h | h | h <;> rw [h] <;> decide
    obtain ⟨U', i1, i2, i3, i4⟩ := mmap8 (H := H) (W := W) (fun a0 a1 a2 V => F_Mod_map_2 g a0 a1 a2 V) hw hd (2 ^ (d + 1)) 0 100 U (by omega) (by omega) hH hW hn (fun p' q => absurd q (by omega))
    obtain ⟨U2, j1, j2⟩ := ih g U' (by omega) (by omega) (by rw [i1 19 (by decide)]; exact hH) (by rw [i1 20 (by decide)]; exact hW) (fun d' q1 q2 p' q3 => by
      by_cases e : d' = d + 1
      · subst e; exact i3 p' q3
      · exact i2 d' (by omega) q2 p' q3)
    refine ⟨U2, fun c hc => by rw [j1 c hc, i1 c hc], ?_⟩
    rw [F_Mod_map_2, if_neg (nI_pos (by omega)), show (0 : Int32) = nI 0 from rfl, i4]
    rw [pk_m1, j2]
theorem mmap {w : Nat} {H : Nat → Bool} {W : Nat → Int32} {U : gx_M} (hw : w ≤ 4) (hH : ∀ k, k < 16 → k < 2 ^ w → (U 19 k = 0 ↔ H k = false)) (hW : ∀ k, k < 16 → k < 2 ^ w → H k = true → U 20 k = W k) : ∃ U', (∀ c, c ≠ 18 → U' c = U c) ∧ F_Mod_map 0 (nI w) U = some (rt H W 6 w 0, U') := by
  unfold F_Mod_map
  generalize hf : (100 : Nat) = f
  exact mmap2 hw w f U (Nat.le_refl _) (by omega) hH hW (fun d' q1 q2 => absurd q1 (by omega))
theorem cmap {x0 base w : Nat} {x2 : Int32} {V : gx_M} {H : Nat → Bool} {W : Nat → Int32} (hw : w ≤ 4) (hH : ∀ k, k < 16 → tb x2 k = H k) (hk : cx_kd x0 - 100 < 2 ^ 31) (hV : ∀ k, k < 16 → H k = true → base + k < cx_kd x0 - 100 ∧ V x0 (base + k) = W k) : F_Com_rootOfMap x0 (nI base) x2 (nI w) V = some (rt H W 6 w 0, V) := by
  have w16 : 2 ^ w ≤ 16 := by rcases pw hw with rfl | rfl | rfl | rfl | rfl <;> decide
  have h := cpart (V := V) hH hk hV 6 w 0 (by omega) hw (by omega)
  rw [Nat.zero_mul] at h
  unfold F_Com_rootOfMap
  rw [show (0 : Int32) = nI 0 from rfl, h, ob]
