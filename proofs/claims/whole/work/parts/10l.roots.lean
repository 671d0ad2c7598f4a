theorem c98 {self : Nat → Int32 → Int32 → Int32 → Int32 → gx_M → Option (Int32 × gx_M)} {x0 : Nat} {x1 x2 x3 : Int32} {V : gx_M} {r f l : Nat} (hr : r ≤ 4) (hf : f < 16) (hl : l < 16) (ht : tz f l ≤ r) : ∀ (d j fuel : Nat), 1 ≤ j → j + d = tz f l → d < fuel → F_Com_rootOfPart_98 fuel self x0 x1 x2 x3 (nI r) (nI f) (nI l) (nI j) V = F_Com_rootOfPart_124 self x0 x1 x2 x3 (nI r) (nI f) (nI (tz f l)) V := by
  intro d
  induction d with
  | zero =>
    intro j fuel h1 h2 h3
    obtain ⟨g, rfl⟩ : ∃ g, fuel = g + 1 := ⟨fuel - 1, by omega⟩
    have hj : j = tz f l := by omega
    subst hj
    rw [F_Com_rootOfPart_98, shd f hf _ (by omega), shd l hl _ (by omega), tz_f3 f hf l hl, if_pos rfl, ite_self]
  | succ d ih =>
    intro j fuel h1 h2 h3
    obtain ⟨g, rfl⟩ : ∃ g, fuel = g + 1 := ⟨fuel - 1, by omega⟩
    have q1 : ¬ nI r ≤ nI j := nI_ge (by omega) (by omega)
    have b1 : f / 2 ^ j ≤ f := Nat.div_le_self _ _
    have b2 : l / 2 ^ j ≤ l := Nat.div_le_self _ _
    have q2 : ¬ nI (f / 2 ^ j) = nI (l / 2 ^ j) := fun e => tz_f2 f hf l hl j (by omega) ⟨h1, by omega⟩ ((nI_eq (by omega) (by omega)).mp e)
    rw [F_Com_rootOfPart_98, shd f hf _ (by omega), shd l hl _ (by omega), if_neg q1, if_neg q2, nI_1]
    exact ih (j + 1) g (by omega) (by omega) (by omega)
theorem blk {r p f : Nat} (hr : r ≤ 4) (h1 : p * 2 ^ r ≤ f) (h2 : f < p * 2 ^ r + 2 ^ r) : f / 2 ^ r = p := by
  rcases pw hr with rfl | rfl | rfl | rfl | rfl <;> omega
theorem c100 : (6 : Nat) < 100 := by decide
theorem cpart {x0 base : Nat} {x2 : Int32} {V : gx_M} {H : Nat → Bool} {W : Nat → Int32} (hH : ∀ k, k < 16 → tb x2 k = H k) (hk : cx_kd x0 - 100 < 2 ^ 31) (hV : ∀ k, k < 16 → H k = true → base + k < cx_kd x0 - 100 ∧ V x0 (base + k) = W k) : ∀ (n r p : Nat), r < n → r ≤ 4 → (p + 1) * 2 ^ r ≤ 16 → F_Com_rootOfPart n x0 (nI base) x2 (nI (p * 2 ^ r)) (nI r) V = some (rt H W n r (p * 2 ^ r), V) := by
  intro n
  induction n with
  | zero => intro r p h; omega
  | succ n ih =>
    intro r p h1 h2 h3
    have h4 : p * 2 ^ r + 2 ^ r ≤ 16 := by rw [Nat.add_mul, Nat.one_mul] at h3; exact h3
    have hp2 : 2 ^ r ≤ 16 := by omega
    have c := c9 (self := F_Com_rootOfPart n) (x0 := x0) (x1 := nI base) (x2 := x2) (V := V) hH h4 h2 (2 ^ r) (p * 2 ^ r) none 100 rfl (by omega) (fun q hq => by cases hq)
    rw [F_Com_rootOfPart, rt]
    rw [show e1 none = -1 from rfl, show e2 none = -1 from rfl] at c
    rw [c]
    clear c
    generalize hs : scn H (2 ^ r) (p * 2 ^ r) none = s
    cases s with
    | none => exact if_neg (show ¬ (0 : Int32) ≤ -1 by decide)
    | some q =>
      obtain ⟨b1, b2, b3, b4⟩ := scn_in (2 ^ r) (p * 2 ^ r) none (Nat.le_refl _) (fun q hq => by cases hq) q hs
      obtain ⟨f, l⟩ := q
      replace b1 : p * 2 ^ r ≤ f := b1
      replace b2 : f ≤ l := b2
      replace b3 : l < p * 2 ^ r + 2 ^ r := b3
      replace b4 : H f = true := b4
      have ef : f / 2 ^ r = p := blk h2 b1 (by omega)
      have el : l / 2 ^ r = p := blk h2 (by omega) b3
      obtain ⟨v1, v2⟩ := hV f (by omega) b4
      generalize hz : (100 : Nat) = z
      show (if 0 ≤ nI f then (if nI r ≤ 0 then (F_Com_rootOfPart_72 (F_Com_rootOfPart n) x0 (nI base) (nI (p * 2 ^ r)) (nI r) (nI f) V) else (if nI f = nI l then (F_Com_rootOfPart_72 (F_Com_rootOfPart n) x0 (nI base) (nI (p * 2 ^ r)) (nI r) (nI f) V) else (F_Com_rootOfPart_98 z (F_Com_rootOfPart n) x0 (nI base) x2 (nI (p * 2 ^ r)) (nI r) (nI f) (nI l) (1 : Int32) V))) else some ((0 : Int32), V)) = some ((if f = l then mx (mx 1 (a1 r f (p * 2 ^ r))) (W f)
      else if tz f l < r then mx (mx 2 (a2 r (tz f l) f (p * 2 ^ r))) (rt H W n (tz f l) (f / 2 ^ tz f l * 2 ^ tz f l))
      else mx (mx 3 (rt H W n (r - 1) (p * 2 ^ r))) (rt H W n (r - 1) (p * 2 ^ r + 2 ^ (r - 1)))), V)
      rw [if_pos (nI_pos' (by omega))]
      have e72 : F_Com_rootOfPart_72 (F_Com_rootOfPart n) x0 (nI base) (nI (p * 2 ^ r)) (nI r) (nI f) V = some (mx (mx 1 (a1 r f (p * 2 ^ r))) (W f), V) := by
        unfold F_Com_rootOfPart_72 a1
        simp only [mxC, ob, nI_add]
        rw [ib_t v1 hk, nI_clamp (by omega), v2]
      by_cases hfl : f = l
      · rw [if_pos hfl, if_pos (show nI f = nI l by rw [hfl]), ite_self, e72]
      · have r0 : r ≠ 0 := by
          intro e; subst e; omega
        rw [if_neg hfl, if_neg (nI_nle (by omega) (by omega)), if_neg (fun e => hfl ((nI_eq (by omega) (by omega)).mp e))]
        have t1 : tz f l ≤ r := by
          rcases tz_f1 f (by omega) l (by omega) r (by omega) with e | e | e
          · exact absurd e hfl
          · exact absurd (ef.trans el.symm) e
          · exact e
        obtain ⟨t0, t4⟩ := tz_f0 f (by omega) l (by omega)
        rw [show (1 : Int32) = nI 1 from rfl, c98 (f := f) (l := l) h2 (by omega) (by omega) t1 (tz f l - 1) 1 z (by omega) (by omega) (by omega)]
        unfold F_Com_rootOfPart_124
        generalize ht : tz f l = t at *
        by_cases htr : t < r
        · have i1 := ih t (f / 2 ^ t) (by omega) t4 (tz_b f (by omega) t (by omega))
          have b5 : f / 2 ^ t ≤ f := Nat.div_le_self _ _
          rw [if_neg (nI_ge htr (by omega)), if_pos htr, mxC, ob, shd f (by omega) t (by omega), shm _ (by omega) t (by omega), i1, ob, mxC, ob, a2, shd f (by omega) t (by omega), shm _ (by omega) t (by omega)]
        · have etr : t = r := by omega
          rw [if_pos (nI_le (by omega) (by omega)), if_neg htr, show (1 : Int32) = nI 1 from rfl, pk_sub (by omega), ← show (1 : Int32) = nI 1 from rfl, sh1 (r - 1) (by omega), nI_add]
          have k1 : p * 2 ^ r = (2 * p) * 2 ^ (r - 1) := by
            obtain ⟨m, rfl⟩ : ∃ m, r = m + 1 := ⟨r - 1, by omega⟩
            rw [Nat.pow_succ, Nat.add_sub_cancel, Nat.mul_comm 2 p, Nat.mul_assoc, Nat.mul_comm 2]
          have k2 : p * 2 ^ r + 2 ^ (r - 1) = (2 * p + 1) * 2 ^ (r - 1) := by rw [k1, Nat.add_mul, Nat.one_mul]
          have k3 : 2 ^ r = 2 ^ (r - 1) + 2 ^ (r - 1) := by
            obtain ⟨m, rfl⟩ : ∃ m, r = m + 1 := ⟨r - 1, by omega⟩
            rw [Nat.pow_succ, Nat.add_sub_cancel]; omega
          have i1 := ih (r - 1) (2 * p) (by omega) (by omega) (by rw [← k2]; omega)
          have i2 := ih (r - 1) (2 * p + 1) (by omega) (by omega) (by rw [show 2 * p + 1 + 1 = (2 * p + 1) + 1 from rfl, Nat.add_mul (2 * p + 1), Nat.one_mul, ← k2]; omega)
          rw [← k1] at i1
          rw [← k2] at i2
          rw [i1, ob, i2, ob, mxC, ob, mxC, ob]
