def mx (a b : Int32) : Int32 := ((a * (668265263 : Int32)) + b) ^^^ (((a * (668265263 : Int32)) + b).toUInt32 >>> ((13 : Int32).toUInt32 &&& Int32.toUInt32 31)).toInt32
theorem mxC (a b : Int32) (V : gx_M) : F_Com_mix a b V = some (mx a b, V) := by
  by_cases h : True
  · rfl
  · exact absurd trivial h
theorem mxM (a b : Int32) (V : gx_M) : F_Mod_mix a b V = some (mx a b, V) := by
  by_cases h : True
  · rfl
  · exact absurd trivial h
/-- bit k of an int -/
def tb (x : Int32) (k : Nat) : Bool := x.toBitVec.toNat.testBit k
theorem tb_s : ∀ k, k < 16 → (((nI k).toUInt32 &&& Int32.toUInt32 31).toBitVec % 32).toNat = k := by decide +kernel
theorem tb_p : ∀ k, k < 16 → ((1 : Int32) <<< (nI k &&& 31)).toBitVec.toNat = 2 ^ k := by decide +kernel
theorem tbz0 (k : Nat) : tb 0 k = false := by
  unfold tb
  rw [show (0 : Int32).toBitVec.toNat = 0 from rfl, Nat.zero_testBit]
theorem tb_c {x : Int32} {k : Nat} (hk : k < 16) : ((((x.toUInt32 >>> ((nI k).toUInt32 &&& Int32.toUInt32 31)).toInt32 &&& (1 : Int32)) = 0) ↔ tb x k = false) := by
  rw [pk_and _ 1 rfl, pk_ushr x (nI k) k (tb_s k hk)]
  unfold tb
  rw [Nat.testBit_eq_decide_div_mod_eq, show (0 : Int32) = nI 0 from rfl, nI_eq (by omega) (by decide)]
  generalize x.toBitVec.toNat / 2 ^ k = m
  rw [decide_eq_false_iff_not]
  omega
theorem tb_or {x : Int32} {j k : Nat} (hj : j < 16) : tb (x ||| ((1 : Int32) <<< (nI j &&& 31))) k = (tb x k || decide (j = k)) := by
  unfold tb
  rw [show (x ||| ((1 : Int32) <<< (nI j &&& 31))).toBitVec = x.toBitVec ||| ((1 : Int32) <<< (nI j &&& 31)).toBitVec from rfl, BitVec.toNat_or, tb_p j hj, Nat.testBit_or, Nat.testBit_two_pow]
/-- the first and the last key that is there, among n keys from k on -/
def scn (H : Nat → Bool) : Nat → Nat → Option (Nat × Nat) → Option (Nat × Nat)
  | 0, _, s => s
  | n + 1, k, s => scn H n (k + 1) (if H k = true then some ((match s with | none => k | some q => q.1), k) else s)
def e1 : Option (Nat × Nat) → Int32
  | none => -1
  | some q => nI q.1
def e2 : Option (Nat × Nat) → Int32
  | none => -1
  | some q => nI q.2
def tz (f l : Nat) : Nat := if f / 2 = l / 2 then 1 else if f / 4 = l / 4 then 2 else if f / 8 = l / 8 then 3 else 4
def a1 (r f lo : Nat) : Int32 := (((1 : Int32) <<< (nI r &&& 31)) + nI f) - nI lo
def a2 (r t f lo : Nat) : Int32 := ((1 : Int32) <<< ((nI r - nI t) &&& 31)) + ((((nI f >>> (nI t &&& 31)) <<< (nI t &&& 31)) - nI lo) >>> (nI t &&& 31))
def rt (H : Nat → Bool) (W : Nat → Int32) : Nat → Nat → Nat → Int32
  | 0, _, _ => 0
  | n + 1, r, lo => match scn H (2 ^ r) lo none with
    | none => 0
    | some q => if q.1 = q.2 then mx (mx 1 (a1 r q.1 lo)) (W q.1)
      else if tz q.1 q.2 < r then mx (mx 2 (a2 r (tz q.1 q.2) q.1 lo)) (rt H W n (tz q.1 q.2) (q.1 / 2 ^ tz q.1 q.2 * 2 ^ tz q.1 q.2))
      else mx (mx 3 (rt H W n (r - 1) lo)) (rt H W n (r - 1) (lo + 2 ^ (r - 1)))
theorem sh1 : ∀ r, r < 6 → (1 : Int32) <<< (nI r &&& 31) = nI (2 ^ r) := by decide +kernel
theorem shd : ∀ f, f < 16 → ∀ t, t < 6 → nI f >>> (nI t &&& 31) = nI (f / 2 ^ t) := by decide +kernel
theorem shm : ∀ f, f < 32 → ∀ t, t < 6 → nI f <<< (nI t &&& 31) = nI (f * 2 ^ t) := by decide +kernel
theorem tz_f0 : ∀ f, f < 16 → ∀ l, l < 16 → 1 ≤ tz f l ∧ tz f l ≤ 4 := by decide +kernel
theorem tz_f1 : ∀ f, f < 16 → ∀ l, l < 16 → ∀ r, r < 5 → (f = l ∨ f / 2 ^ r ≠ l / 2 ^ r ∨ tz f l ≤ r) := by decide +kernel
theorem tz_f3 : ∀ f, f < 16 → ∀ l, l < 16 → f / 2 ^ tz f l = l / 2 ^ tz f l := by decide +kernel
theorem tz_f2 : ∀ f, f < 16 → ∀ l, l < 16 → ∀ j, j < 5 → (1 ≤ j ∧ j < tz f l) → ¬ f / 2 ^ j = l / 2 ^ j := by decide +kernel
theorem tz_b : ∀ f, f < 16 → ∀ t, t < 5 → (f / 2 ^ t + 1) * 2 ^ t ≤ 16 := by decide +kernel
theorem a1_m : ∀ r, r < 5 → ∀ f, f < 16 → ((1 : Int32) <<< (nI r &&& 31)) ||| (nI f - (nI (f / 2 ^ r) <<< (nI r &&& 31))) = a1 r f (f / 2 ^ r * 2 ^ r) := by decide +kernel
theorem a2_m : ∀ r, r < 5 → ∀ t, t < 5 → t ≤ r → ∀ f, f < 16 → ((1 : Int32) <<< (nI (r - t) &&& 31)) ||| ((nI f >>> ((nI r - nI (r - t)) &&& 31)) - (nI (f / 2 ^ r) <<< (nI (r - t) &&& 31))) = a2 r t f (f / 2 ^ r * 2 ^ r) := by decide +kernel
theorem pw {r : Nat} (h : r ≤ 4) : r = 0 ∨ r = 1 ∨ r = 2 ∨ r = 3 ∨ r = 4 := by omega
theorem scn_0 (H : Nat → Bool) (k : Nat) (s : Option (Nat × Nat)) : scn H 0 k s = s := rfl
theorem scn_s (H : Nat → Bool) (n k : Nat) (s : Option (Nat × Nat)) : scn H (n + 1) k s = scn H n (k + 1) (if H k = true then some ((match s with | none => k | some q => q.1), k) else s) := rfl
theorem scn_n {H : Nat → Bool} {k : Nat} (h : H k = false) (n : Nat) (s : Option (Nat × Nat)) : scn H (n + 1) k s = scn H n (k + 1) s := by
  rw [scn_s, h]; rfl
theorem scn_y0 {H : Nat → Bool} {k : Nat} (h : H k = true) (n : Nat) : scn H (n + 1) k none = scn H n (k + 1) (some (k, k)) := by
  rw [scn_s, h]; rfl
theorem scn_y1 {H : Nat → Bool} {k : Nat} (h : H k = true) (n : Nat) (q : Nat × Nat) : scn H (n + 1) k (some q) = scn H n (k + 1) (some (q.1, k)) := by
  rw [scn_s, h]; rfl
theorem scn_in {H : Nat → Bool} {lo : Nat} : ∀ (n k : Nat) (s : Option (Nat × Nat)), lo ≤ k → (∀ q, s = some q → lo ≤ q.1 ∧ q.1 ≤ q.2 ∧ q.2 < k ∧ H q.1 = true) → ∀ q, scn H n k s = some q → lo ≤ q.1 ∧ q.1 ≤ q.2 ∧ q.2 < k + n ∧ H q.1 = true := by
  intro n
  induction n with
  | zero => intro k s hk hs q hq; exact hs q hq
  | succ n ih =>
    intro k s hk hs q hq
    rw [scn_s] at hq
    have := ih (k + 1) _ (by omega) (fun q hq => ?_) q hq
    · rw [show k + 1 + n = k + (n + 1) by omega] at this; exact this
    · by_cases hH : H k = true
      · rw [if_pos hH] at hq
        cases s with
        | none =>
          injection hq with hq; subst hq
          exact ⟨hk, Nat.le_refl _, by show k < k + 1; omega, hH⟩
        | some p =>
          injection hq with hq; subst hq
          obtain ⟨b1, b2, b3, b4⟩ := hs p rfl
          exact ⟨b1, by show p.1 ≤ k; omega, by show k < k + 1; omega, b4⟩
      · rw [if_neg hH] at hq
        obtain ⟨b1, b2, b3, b4⟩ := hs q hq
        exact ⟨b1, b2, by omega, b4⟩
theorem c9 {self : Nat → Int32 → Int32 → Int32 → Int32 → gx_M → Option (Int32 × gx_M)} {x0 : Nat} {x1 x2 : Int32} {V : gx_M} {r lo : Nat} {H : Nat → Bool} (hH : ∀ k, k < 16 → tb x2 k = H k) (hlo : lo + 2 ^ r ≤ 16) (hr : r ≤ 4) : ∀ (n k : Nat) (s : Option (Nat × Nat)) (fuel : Nat), k + n = lo + 2 ^ r → n < fuel → (∀ q, s = some q → q.1 < 16) → F_Com_rootOfPart_9 fuel self x0 x1 x2 (nI lo) (nI r) (e1 s) (e2 s) (nI k) V = (if 0 ≤ e1 (scn H n k s) then (if nI r ≤ 0 then (F_Com_rootOfPart_72 self x0 x1 (nI lo) (nI r) (e1 (scn H n k s)) V) else (if e1 (scn H n k s) = e2 (scn H n k s) then (F_Com_rootOfPart_72 self x0 x1 (nI lo) (nI r) (e1 (scn H n k s)) V) else (F_Com_rootOfPart_98 100 self x0 x1 x2 (nI lo) (nI r) (e1 (scn H n k s)) (e2 (scn H n k s)) (1 : Int32) V))) else some ((0 : Int32), V)) := by
  intro n
  generalize hf : (100 : Nat) = f
  induction n with
  | zero =>
    intro k s fuel h1 h2 hs
    obtain ⟨g, rfl⟩ : ∃ g, fuel = g + 1 := ⟨fuel - 1, by omega⟩
    have hh : nI (lo + 2 ^ r) ≤ nI k := nI_le (by omega) (by omega)
    rw [F_Com_rootOfPart_9, sh1 r (by omega), nI_add, if_pos hh, scn_0, hf]
  | succ n ih =>
    intro k s fuel h1 h2 hs
    obtain ⟨g, rfl⟩ : ∃ g, fuel = g + 1 := ⟨fuel - 1, by omega⟩
    have hh : ¬ nI (lo + 2 ^ r) ≤ nI k := nI_ge (by omega) (by omega)
    rw [F_Com_rootOfPart_9, sh1 r (by omega), nI_add, if_neg hh, nI_1]
    by_cases hb : tb x2 k = false
    · have hk : H k = false := by rw [← hH k (by omega)]; exact hb
      rw [if_pos ((tb_c (by omega)).mpr hb), scn_n hk]
      exact ih (k + 1) s g (by omega) (by omega) hs
    · have hk : H k = true := by rw [← hH k (by omega)]; simpa using hb
      rw [if_neg (fun q => hb ((tb_c (by omega)).mp q))]
      cases s with
      | none =>
        rw [scn_y0 hk]
        exact (if_neg (show ¬ (0 : Int32) ≤ -1 by decide)).trans (ih (k + 1) (some (k, k)) g (by omega) (by omega) (fun q hq => by injection hq with hq; subst hq; show k < 16; omega))
      | some q =>
        have hq := hs q rfl
        rw [scn_y1 hk]
        exact (if_pos (show (0 : Int32) ≤ nI q.1 from nI_pos' (by omega))).trans (ih (k + 1) (some (q.1, k)) g (by omega) (by omega) (fun p hp => by injection hp with hp; subst hp; exact hq))
