theorem rt_s (H : Nat → Bool) (W : Nat → Int32) (n r lo : Nat) : rt H W (n + 1) r lo = match scn H (2 ^ r) lo none with
    | none => 0
    | some q => if q.1 = q.2 then mx (mx 1 (a1 r q.1 lo)) (W q.1)
      else if tz q.1 q.2 < r then mx (mx 2 (a2 r (tz q.1 q.2) q.1 lo)) (rt H W n (tz q.1 q.2) (q.1 / 2 ^ tz q.1 q.2 * 2 ^ tz q.1 q.2))
      else mx (mx 3 (rt H W n (r - 1) lo)) (rt H W n (r - 1) (lo + 2 ^ (r - 1))) := rfl
theorem k12 {r p : Nat} (h : r ≠ 0) : p * 2 ^ r = (2 * p) * 2 ^ (r - 1) ∧ p * 2 ^ r + 2 ^ (r - 1) = (2 * p + 1) * 2 ^ (r - 1) ∧ 2 ^ r = 2 ^ (r - 1) + 2 ^ (r - 1) := by
  obtain ⟨m, rfl⟩ : ∃ m, r = m + 1 := ⟨r - 1, by omega⟩
  have k1 : p * 2 ^ (m + 1) = (2 * p) * 2 ^ m := by
    rw [Nat.pow_succ, Nat.mul_comm 2 p, Nat.mul_assoc, Nat.mul_comm 2]
  refine ⟨k1, ?_, ?_⟩
  · rw [k1, Nat.add_sub_cancel, Nat.add_mul, Nat.one_mul]
  · rw [Nat.pow_succ, Nat.add_sub_cancel]; omega
theorem rt_up {H : Nat → Bool} {W : Nat → Int32} : ∀ (n r p : Nat), r < n → r ≤ 4 → (p + 1) * 2 ^ r ≤ 16 → rt H W (n + 1) r (p * 2 ^ r) = rt H W n r (p * 2 ^ r) := by
  intro n
  induction n with
  | zero => intro r p h; omega
  | succ n ih =>
    intro r p h1 h2 h3
    have h4 : p * 2 ^ r + 2 ^ r ≤ 16 := by rw [Nat.add_mul, Nat.one_mul] at h3; exact h3
    rw [rt_s H W (n + 1) r (p * 2 ^ r), rt_s H W n r (p * 2 ^ r)]
    generalize hs : scn H (2 ^ r) (p * 2 ^ r) none = s
    cases s with
    | none => rfl
    | some q =>
      obtain ⟨b1, b2, b3, b4⟩ := scn_in (2 ^ r) (p * 2 ^ r) none (Nat.le_refl _) (fun q hq => by cases hq) q hs
      obtain ⟨f, l⟩ := q
      replace b1 : p * 2 ^ r ≤ f := b1
      replace b2 : f ≤ l := b2
      replace b3 : l < p * 2 ^ r + 2 ^ r := b3
      dsimp only
      by_cases hfl : f = l
      · rw [if_pos hfl, if_pos hfl]
      rw [if_neg hfl, if_neg hfl]
      have r0 : r ≠ 0 := by
        intro e; subst e; omega
      obtain ⟨t0, t4⟩ := tz_f0 f (by omega) l (by omega)
      by_cases htr : tz f l < r
      · rw [if_pos htr, if_pos htr, ih _ _ (by omega) t4 (tz_b f (by omega) _ (by omega))]
      · obtain ⟨k1, k2, k3⟩ := k12 (p := p) r0
        rw [if_neg htr, if_neg htr, k2, k1, ih _ _ (by omega) (by omega) (by rw [← k2]; omega), ih _ (2 * p + 1) (by omega) (by omega) (by rw [Nat.add_mul (2 * p + 1), Nat.one_mul, ← k2]; omega)]
theorem rt_6 {H : Nat → Bool} {W : Nat → Int32} {r p : Nat} (h2 : r ≤ 4) (h3 : (p + 1) * 2 ^ r ≤ 16) : rt H W 6 r (p * 2 ^ r) = rt H W 5 r (p * 2 ^ r) := rt_up 5 r p (by omega) h2 h3
theorem tz_f4 : ∀ f, f < 16 → ∀ l, l < 16 → ∀ j, j < 5 → tz f l ≤ j → f / 2 ^ j = l / 2 ^ j := by decide +kernel
/-- what the scan counts -/
def cnt (c : Nat) : Option (Nat × Nat) → Prop
  | none => c = 0
  | some q => 1 ≤ c ∧ (c = 1 ↔ q.1 = q.2)
theorem m20 {U : gx_M} {d p r : Nat} {H : Nat → Bool} (hH : ∀ k, k < 16 → k < p * 2 ^ r + 2 ^ r → (U 19 k = 0 ↔ H k = false)) (hlo : p * 2 ^ r + 2 ^ r ≤ 16) (hr : r ≤ 4) : ∀ (n k c : Nat) (s : Option (Nat × Nat)) (fuel : Nat), k + n = p * 2 ^ r + 2 ^ r → n < fuel → cnt c s → c ≤ k → (∀ q, s = some q → q.1 ≤ q.2 ∧ q.2 < k) → ∃ c', cnt c' (scn H n k s) ∧ c' ≤ 16 ∧ F_Mod_part_20 fuel 0 (nI d) (nI p) (nI r) (nI c) (e1 s) (e2 s) (nI k) U = (if nI c' = 0 then some ((0 : Int32), U) else (if nI c' = (1 : Int32) then ((F_Mod_mix (1 : Int32) (((1 : Int32) <<< (nI r &&& 31)) ||| (e1 (scn H n k s) - (nI p <<< (nI r &&& 31)))) U).bind fun q5 => (if gx_ib (e1 (scn H n k s)) 16 then ((F_Mod_mix q5.1 (q5.2 (0 + 20) (e1 (scn H n k s)).toNatClampNeg) q5.2).bind fun q6 => some (q6.1, q6.2)) else none)) else (F_Mod_part_111 100 0 (nI d) (nI p) (nI r) (e1 (scn H n k s)) (e2 (scn H n k s)) (0 : Int32) U))) := by
  intro n
  generalize hf : (100 : Nat) = f
  have hp : (nI p + 1) <<< (nI r &&& 31) = nI (p * 2 ^ r + 2 ^ r) := by
    have : p < 16 := by
      have : p * 1 ≤ p * 2 ^ r := Nat.mul_le_mul_left p (Nat.two_pow_pos r)
      have : 0 < 2 ^ r := Nat.two_pow_pos r
      omega
    rw [nI_1, shm _ (by omega) r (by omega), Nat.add_mul, Nat.one_mul]
  induction n with
  | zero =>
    intro k c s fuel h1 h2 hc hck hs
    obtain ⟨g, rfl⟩ : ∃ g, fuel = g + 1 := ⟨fuel - 1, by omega⟩
    have hh : nI (p * 2 ^ r + 2 ^ r) ≤ nI k := nI_le (by omega) (by omega)
    refine ⟨c, hc, by omega, ?_⟩
    rw [F_Mod_part_20, hp, if_pos hh, scn_0, hf]
  | succ n ih =>
    intro k c s fuel h1 h2 hc hck hs
    obtain ⟨g, rfl⟩ : ∃ g, fuel = g + 1 := ⟨fuel - 1, by omega⟩
    have hh : ¬ nI (p * 2 ^ r + 2 ^ r) ≤ nI k := nI_ge (by omega) (by omega)
    rw [F_Mod_part_20, hp, if_neg hh, nI_1, ib_t (by omega) (by decide), nI_clamp (by omega), Nat.zero_add]
    have hk := hH k (by omega) (by omega)
    by_cases hb : U 19 k = 0
    · rw [if_pos hb, scn_n (hk.mp hb)]
      exact ih (k + 1) c s g (by omega) (by omega) hc (by omega) (fun q hq => ⟨(hs q hq).1, by have := (hs q hq).2; omega⟩)
    · have hy : H k = true := by
        cases e : H k with
        | true => rfl
        | false => exact absurd (hk.mpr e) hb
      rw [if_neg hb]
      cases s with
      | none =>
        have c0 : c = 0 := hc
        subst c0
        rw [if_pos nI_0, scn_y0 hy]
        exact ih (k + 1) 1 (some (k, k)) g (by omega) (by omega) ⟨by omega, by simp⟩ (by omega) (fun q hq => by injection hq with hq; subst hq; exact ⟨Nat.le_refl _, by show k < k + 1; omega⟩)
      | some q =>
        obtain ⟨c1, c2⟩ : 1 ≤ c ∧ (c = 1 ↔ q.1 = q.2) := hc
        obtain ⟨d1, d2⟩ := hs q rfl
        rw [if_neg (nI_ne0 (by omega) (by omega)), scn_y1 hy, nI_1]
        exact ih (k + 1) (c + 1) (some (q.1, k)) g (by omega) (by omega) ⟨by omega, by constructor <;> (intro e; exfalso; first | omega | (have e : q.1 = k := e; omega))⟩ (by omega) (fun p hp => by injection hp with hp; subst hp; exact ⟨by show q.1 ≤ k; omega, by show k < k + 1; omega⟩)
theorem ixq : ∀ w, w < 5 → ∀ f, f < 16 → ∀ t, t < 5 → f < 2 ^ w → t ≤ w → 2 ^ (w - t) + f / 2 ^ t < 32 := by decide +kernel
theorem ixp : ∀ w, w < 5 → ∀ f, f < 16 → ∀ t, t < 5 → f < 2 ^ w → t ≤ w → f / 2 ^ t < 2 ^ (w - t) := by decide +kernel
/-- the reference's nodes below level d hold their roots -/
def nod (H : Nat → Bool) (W : Nat → Int32) (U : gx_M) (w d : Nat) : Prop := ∀ d', d < d' → d' ≤ w → ∀ p', p' < 2 ^ d' → U 18 (2 ^ d' + p') = rt H W 6 (w - d') (p' * 2 ^ (w - d'))
theorem m111 {U : gx_M} {d p r f l : Nat} (hr : r ≤ 4) (hf : f < 16) (hl : l < 16) (hfl : f ≠ l) (t0 : 1 ≤ tz f l) (ht : tz f l ≤ r) : ∀ (n s fuel : Nat), s + n = r - tz f l → n < fuel → F_Mod_part_111 fuel 0 (nI d) (nI p) (nI r) (nI f) (nI l) (nI s) U = (if nI (r - tz f l) = 0 then (if gx_ib (((2 : Int32) <<< (nI d &&& 31)) + ((2 : Int32) * nI p)) 32 then ((F_Mod_mix (3 : Int32) (U (0 + 18) (((2 : Int32) <<< (nI d &&& 31)) + ((2 : Int32) * nI p)).toNatClampNeg) U).bind fun q3 => (if gx_ib ((((2 : Int32) <<< (nI d &&& 31)) + ((2 : Int32) * nI p)) + (1 : Int32)) 32 then ((F_Mod_mix q3.1 (q3.2 (0 + 18) ((((2 : Int32) <<< (nI d &&& 31)) + ((2 : Int32) * nI p)) + (1 : Int32)).toNatClampNeg) q3.2).bind fun q4 => some (q4.1, q4.2)) else none)) else none) else ((F_Mod_mix (2 : Int32) (((1 : Int32) <<< (nI (r - tz f l) &&& 31)) ||| ((nI f >>> ((nI r - nI (r - tz f l)) &&& 31)) - (nI p <<< (nI (r - tz f l) &&& 31)))) U).bind fun q1 => (if gx_ib (((1 : Int32) <<< ((nI d + nI (r - tz f l)) &&& 31)) + (nI f >>> ((nI r - nI (r - tz f l)) &&& 31))) 32 then ((F_Mod_mix q1.1 (q1.2 (0 + 18) (((1 : Int32) <<< ((nI d + nI (r - tz f l)) &&& 31)) + (nI f >>> ((nI r - nI (r - tz f l)) &&& 31))).toNatClampNeg) q1.2).bind fun q2 => some (q2.1, q2.2)) else none))) := by
  intro n
  induction n with
  | zero =>
    intro s fuel h1 h2
    obtain ⟨g, rfl⟩ : ∃ g, fuel = g + 1 := ⟨fuel - 1, by omega⟩
    have hs : s = r - tz f l := by omega
    subst hs
    have q1 : (nI r - nI (r - tz f l)) - (1 : Int32) = nI (tz f l - 1) := by
      rw [pk_sub (by omega), show (1 : Int32) = nI 1 from rfl, pk_sub (by omega)]; congr 1; omega
    have b1 : f / 2 ^ (tz f l - 1) ≤ f := Nat.div_le_self _ _
    have b2 : l / 2 ^ (tz f l - 1) ≤ l := Nat.div_le_self _ _
    have q2 : ¬ nI (f / 2 ^ (tz f l - 1)) = nI (l / 2 ^ (tz f l - 1)) := by
      intro e
      have e := (nI_eq (by omega) (by omega)).mp e
      by_cases h : tz f l = 1
      · rw [h] at e
        simp at e
        exact hfl e
      · exact tz_f2 f hf l hl (tz f l - 1) (by omega) ⟨by omega, by omega⟩ e
    rw [F_Mod_part_111, q1, shd f hf _ (by omega), shd l hl _ (by omega), if_neg q2]
  | succ n ih =>
    intro s fuel h1 h2
    obtain ⟨g, rfl⟩ : ∃ g, fuel = g + 1 := ⟨fuel - 1, by omega⟩
    have q1 : (nI r - nI s) - (1 : Int32) = nI (r - s - 1) := by
      rw [pk_sub (by omega), show (1 : Int32) = nI 1 from rfl, pk_sub (by omega)]
    rw [F_Mod_part_111, q1, shd f hf _ (by omega), shd l hl _ (by omega), tz_f4 f hf l hl (r - s - 1) (by omega) (by omega), if_pos rfl, nI_1]
    exact ih (s + 1) g (by omega) (by omega)
theorem mpart {U : gx_M} {w d p : Nat} {H : Nat → Bool} {W : Nat → Int32} (hw : w ≤ 4) (hd : d ≤ w) (hp : p < 2 ^ d) (hH : ∀ k, k < 16 → k < 2 ^ w → (U 19 k = 0 ↔ H k = false)) (hW : ∀ k, k < 16 → k < 2 ^ w → H k = true → U 20 k = W k) (hn : nod H W U w d) : F_Mod_part 0 (nI w) (nI d) (nI p) U = some (rt H W 6 (w - d) (p * 2 ^ (w - d)), U) := by
  generalize hr : w - d = r
  have w16 : 2 ^ w ≤ 16 := by rcases pw hw with rfl | rfl | rfl | rfl | rfl <;> decide
  have hpw : (p + 1) * 2 ^ r ≤ 2 ^ w := by
    have : 2 ^ w = 2 ^ d * 2 ^ r := by rw [← Nat.pow_add]; congr 1; omega
    rw [this]
    exact Nat.mul_le_mul_right _ hp
  have h4 : p * 2 ^ r + 2 ^ r ≤ 2 ^ w := by rw [Nat.add_mul, Nat.one_mul] at hpw; exact hpw
  have p16 : p < 16 := by
    have : p * 1 ≤ p * 2 ^ r := Nat.mul_le_mul_left p (Nat.two_pow_pos r)
    have : 0 < 2 ^ r := Nat.two_pow_pos r
    omega
  obtain ⟨c, cc, c16, e⟩ := m20 (U := U) (d := d) (p := p) (r := r) (H := H) (fun k h1 h2 => hH k h1 (by omega)) (by omega) (by omega) (2 ^ r) (p * 2 ^ r) 0 none 100 rfl (by omega) rfl (by omega) (fun q hq => by cases hq)
  unfold F_Mod_part
  rw [pk_sub hd, hr, shm p (by omega) r (by omega)]
  rw [show e1 none = -1 from rfl, show e2 none = -1 from rfl, nI_0] at e
  rw [e]
  clear e
  rw [rt_s]
  generalize hs : scn H (2 ^ r) (p * 2 ^ r) none = s at *
  cases s with
  | none =>
    have c0 : c = 0 := cc
    subst c0
    exact if_pos nI_0
  | some q =>
    obtain ⟨b1, b2, b3, b4⟩ := scn_in (2 ^ r) (p * 2 ^ r) none (Nat.le_refl _) (fun q hq => by cases hq) q hs
    obtain ⟨f, l⟩ := q
    replace b1 : p * 2 ^ r ≤ f := b1
    replace b2 : f ≤ l := b2
    replace b3 : l < p * 2 ^ r + 2 ^ r := b3
    replace b4 : H f = true := b4
    obtain ⟨c1, c2⟩ : 1 ≤ c ∧ (c = 1 ↔ f = l) := cc
    have ef : f / 2 ^ r = p := blk (by omega) b1 (by omega)
    have el : l / 2 ^ r = p := blk (by omega) (by omega) b3
    rw [show e1 (some (f, l)) = nI f from rfl, show e2 (some (f, l)) = nI l from rfl, if_neg (nI_ne0 (by omega) (by omega))]
    generalize hz : (100 : Nat) = z
    dsimp only
    by_cases hfl : f = l
    · rw [if_pos hfl, if_pos (show nI c = (1 : Int32) by rw [c2.mpr hfl]; rfl), mxM, ob, ib_t (by omega) (by decide), nI_clamp (by omega), mxM, ob]
      dsimp only
      rw [Nat.zero_add, hW f (by omega) (by omega) b4]
      have := a1_m r (by omega) f (by omega)
      rw [ef] at this
      rw [this]
    · have c3 : ¬ nI c = (1 : Int32) := fun e => hfl (c2.mp ((nI_eq (b := 1) (by omega) (by decide)).mp e))
      have r0 : r ≠ 0 := by
        intro e; subst e; omega
      have t1 : tz f l ≤ r := by
        rcases tz_f1 f (by omega) l (by omega) r (by omega) with e | e | e
        · exact absurd e hfl
        · exact absurd (ef.trans el.symm) e
        · exact e
      obtain ⟨t0, t4⟩ := tz_f0 f (by omega) l (by omega)
      rw [if_neg hfl, if_neg c3, show (0 : Int32) = nI 0 from rfl, m111 (by omega) (by omega) (by omega) hfl t0 t1 (r - tz f l) 0 z (by omega) (by omega)]
      generalize ht : tz f l = t at *
      by_cases htr : t < r
      · have ea : nI d + nI (r - t) = nI (d + (r - t)) := nI_add _ _
        have eb : nI r - nI (r - t) = nI t := by rw [pk_sub (by omega)]; congr 1; omega
        have f16 : f < 2 ^ w := by omega
        have hx := ixq w (by omega) f (by omega) t (by omega) f16 (by omega)
        have hy := ixp w (by omega) f (by omega) t (by omega) f16 (by omega)
        have hw2 : d + (r - t) = w - t := by omega
        have := a2_m r (by omega) t (by omega) t1 f (by omega)
        rw [ef] at this
        rw [if_neg (nI_ne0 (by omega) (by omega)), if_pos htr, this, mxM, ob, ea, hw2, sh1 (w - t) (by omega), eb, shd f (by omega) t (by omega), nI_add, ib_t hx (by decide), nI_clamp (by omega), mxM, ob]
        dsimp only
        rw [Nat.zero_add, hn (w - t) (by omega) (by omega) _ hy, show w - (w - t) = t by omega, rt_6 t4 (tz_b f (by omega) t (by omega))]
      · have e0 : r - t = 0 := by omega
        have hdd : d ≤ 3 := by omega
        have hd8 : 2 ^ d ≤ 8 := by rcases pw (show d ≤ 4 by omega) with rfl | rfl | rfl | rfl | rfl <;> first | decide | omega
        obtain ⟨k1, k2, k3⟩ := k12 (p := p) r0
        have n1 := hn (d + 1) (by omega) (by omega) (2 * p) (by rw [Nat.pow_succ]; omega)
        have n2 := hn (d + 1) (by omega) (by omega) (2 * p + 1) (by rw [Nat.pow_succ]; omega)
        have hx : (2 : Int32) <<< (nI d &&& 31) + (2 : Int32) * nI p = nI (2 ^ (d + 1) + 2 * p) := by
          rw [show (2 : Int32) = nI 2 from rfl, shm 2 (by decide) d (by omega), pk_mul, nI_add, Nat.pow_succ, Nat.mul_comm 2]
        have b5 : 2 ^ (d + 1) ≤ 16 := by rw [Nat.pow_succ]; omega
        rw [e0, if_pos nI_0, if_neg htr, hx, nI_1, ib_t (by omega) (by decide), nI_clamp (by omega), mxM, ob, ib_t (by omega) (by decide), nI_clamp (by omega), mxM, ob]
        dsimp only
        rw [Nat.zero_add, n1, Nat.add_assoc, n2, show w - (d + 1) = r - 1 by omega, ← k1, ← k2, k1, rt_6 (by omega) (by rw [← k2]; omega), ← k1, k2, rt_6 (by omega) (by rw [Nat.add_mul (2 * p + 1), Nat.one_mul, ← k2]; omega)]
