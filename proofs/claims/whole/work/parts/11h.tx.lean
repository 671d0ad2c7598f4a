theorem lst {V U : gx_M} {x1 x2 x3 x4 : Int32} (h : pr_acc (V 3) (V 4) (V 5) (V 6) (V 7) (U 1) 0) : ∀ (m k f1 f2 : Nat), k + m = 16 → m < f1 → m < f2 → ∃ r, r ≤ 16 ∧ F_Acc_leastEmpty_2 f1 2 (nI k) V = some (if r = 16 then -1 else nI r, V) ∧ F_Mod_create_29 f2 0 x1 x2 x3 x4 (nI k) U = F_Mod_create_51 0 x1 x2 x3 x4 (nI r) U ∧ (r < 16 → ¬ emp V r = 0) := by
  intro m
  induction m with
  | zero =>
    intro k f1 f2 h1 h2 h3
    obtain ⟨e1, rfl⟩ : ∃ e, f1 = e + 1 := ⟨f1 - 1, by omega⟩
    obtain ⟨e2, rfl⟩ : ∃ e, f2 = e + 1 := ⟨f2 - 1, by omega⟩
    have e : k = 16 := by omega
    subst e
    exact ⟨16, Nat.le_refl _, by rw [F_Acc_leastEmpty_2, if_pos (by decide), if_pos rfl], by rw [F_Mod_create_29, if_pos (by decide)], fun q => absurd q (by omega)⟩
  | succ m ih =>
    intro k f1 f2 h1 h2 h3
    obtain ⟨e1, rfl⟩ : ∃ e, f1 = e + 1 := ⟨f1 - 1, by omega⟩
    obtain ⟨e2, rfl⟩ : ∃ e, f2 = e + 1 := ⟨f2 - 1, by omega⟩
    have hk : k < 16 := by omega
    rw [F_Acc_leastEmpty_2, F_Mod_create_29, if_neg (ge16 hk), if_neg (ge16 hk), emC hk, ob, emM h hk, ob, nI_1]
    by_cases e : emp V k = 0
    · rw [if_pos e, if_pos e]
      exact ih (k + 1) e1 e2 (by omega) (by omega) (by omega)
    · rw [if_neg e, if_neg e]
      exact ⟨k, by omega, by rw [if_neg (by omega)], rfl, fun _ => e⟩
theorem emp_0 {V : gx_M} {r : Nat} (h : ¬ emp V r = 0) : V 5 r = 0 := by
  unfold emp at h
  by_cases e : V 5 r = 0
  · exact e
  · rw [if_neg e, ite_self, ite_self] at h
    exact absurd rfl h
theorem crC {cd p z n r c : Nat} {v : Int32} (hcd : cd < 16) (hr : r < 16) (hne : r ≠ cd) (hz : z ≤ 24) (hp : p + n ≤ z) (hc : 12 < c) : ∀ (m k fuel : Nat) (V : gx_M), k + m = n → m < fuel → V c 1 = nI cd → V 5 cd = nI z → V 5 r = nI k → ∃ V', F_Mac_create_131 fuel 1 c v (nI p) (nI n) (nI r) (nI k) V = ((F_Acc_give 2 (V' c 0) (nI r) v V').bind fun q1 => F_Frm_push c (nI r) q1) ∧ (∀ q, q ≠ 5 → q ≠ 6 → V' q = V q) ∧ (∀ a, a ≠ r → V' 5 a = V 5 a) ∧ V' 5 r = nI n ∧ (∀ j, k ≤ j → j < n → V' 6 (24 * r + j) = V 6 (24 * cd + (p + j))) ∧ ∀ q, (q < 24 * r + k ∨ 24 * r + n ≤ q) → V' 6 q = V 6 q := by
  intro m
  induction m with
  | zero =>
    intro k fuel V h1 h2 e1 e5 e5r
    obtain ⟨f, rfl⟩ : ∃ f, fuel = f + 1 := ⟨fuel - 1, by omega⟩
    have e : k = n := by omega
    subst e
    refine ⟨V, ?_, fun _ _ _ => rfl, fun _ _ => rfl, e5r, fun j q1 q2 => absurd q1 (by omega), fun _ _ => rfl⟩
    rw [F_Mac_create_131, if_pos (nI_le (Nat.le_refl _) (by omega)), show (1 + 1 : Nat) = 2 from rfl]
    cases F_Acc_give 2 (V c 0) (nI r) v V with
    | none => rfl
    | some q => rw [ob, ob, obs]
  | succ m ih =>
    intro k fuel V h1 h2 e1 e5 e5r
    obtain ⟨f, rfl⟩ : ∃ f, fuel = f + 1 := ⟨fuel - 1, by omega⟩
    have hwd := wordC (V := V) (cd := cd) (p := p + k) (z := z) hcd (by omega) hz e5
    rw [if_pos (show p + k < z by omega)] at hwd
    have hap : F_Acc_append 2 (nI r) (V 6 (24 * cd + (p + k))) V = some (1, gx_u (gx_u V 6 (24 * r + k) (V 6 (24 * cd + (p + k)))) 5 r (nI (k + 1))) := by
      have j1 : nI r * (24 : Int32) + nI k = nI (24 * r + k) := by rw [m24, nI_add, Nat.mul_comm]
      have k1 : gx_u V 6 (24 * r + k) (V 6 (24 * cd + (p + k))) 5 r = nI k := by rw [gx_uK (by decide)]; exact e5r
      unfold F_Acc_append
      simp only [ib_t hr (show 16 < 2 ^ 31 by decide), nI_clamp (show r < 2 ^ 31 by omega), Nat.reduceAdd, e5r, if_pos (show nI k < (24 : Int32) from nI_lt (b := 24) (by omega) (by decide)), j1, ib_t (show 24 * r + k < 384 by omega) (show 384 < 2 ^ 31 by decide), nI_clamp (show 24 * r + k < 2 ^ 31 by omega), gl, k1, nI_1]
    obtain ⟨V', i1, i2, i3, i4, i5, i6⟩ := ih (k + 1) f (gx_u (gx_u V 6 (24 * r + k) (V 6 (24 * cd + (p + k)))) 5 r (nI (k + 1))) (by omega) (by omega) (by rw [gx_uK (by omega), gx_uK (by omega)]; exact e1) (by rw [gx_up (by omega), gx_uK (by decide)]; exact e5) (by rw [gx_us])
    refine ⟨V', ?_, ?_, ?_, i4, ?_, ?_⟩
    · rw [F_Mac_create_131, if_neg (nI_ge (by omega) (by omega)), show (1 + 1 : Nat) = 2 from rfl, e1, nI_add, hwd, ob, hap, ob, nI_1, i1]
    · intro q h1 h2
      rw [i2 q h1 h2, gx_uK h1, gx_uK h2]
    · intro a ha
      rw [i3 a ha, gx_up ha, gx_uK (by decide)]
    · intro j q1 q2
      by_cases e : j = k
      · subst e
        rw [i6 _ (Or.inl (by omega)), gx_uK (by decide), gx_us]
      · rw [i5 j (by omega) q2, gx_uK (by decide), gx_up (by omega)]
    · intro q hq
      rw [i6 q (by omega), gx_uK (by decide), gx_up (by omega)]
theorem crM {d cd p z n r me : Nat} {v : Int32} (hd : d < 8) (hcd : cd < 16) (hr : r < 16) (hne : r ≠ cd) (hz : z ≤ 24) (hp : p + n ≤ z) : ∀ (m k fuel : Nat) (U : gx_M), k + m = n → m < fuel → U 0 19 = nI d → U 7 d = nI cd → ∃ U', F_Mod_create_95 fuel 0 (nI me) v (nI p) (nI n) (nI r) (nI k) U = ((F_Mod_give 0 (nI me) (nI r) v (gx_u (gx_u U' 1 (36 * r + 2) (nI n)) 1 (36 * r + 1) 1)).bind fun q1 => F_Mod_push 0 (nI r) q1) ∧ (∀ q, q ≠ 1 → U' q = U q) ∧ (∀ j, k ≤ j → j < n → U' 1 (36 * r + 3 + j) = U 1 (36 * cd + 3 + (p + j))) ∧ ∀ q, (q < 36 * r + 3 + k ∨ 36 * r + 3 + n ≤ q) → U' 1 q = U 1 q := by
  intro m
  induction m with
  | zero =>
    intro k fuel U h1 h2 e19 e7
    obtain ⟨f, rfl⟩ : ∃ f, fuel = f + 1 := ⟨fuel - 1, by omega⟩
    have e : k = n := by omega
    subst e
    have i1 : (36 : Int32) * nI r + 1 = nI (36 * r + 1) := by rw [m36, show (1 : Int32) = nI 1 from rfl, nI_add]
    have i2 : (36 : Int32) * nI r + 2 = nI (36 * r + 2) := by rw [m36, show (2 : Int32) = nI 2 from rfl, nI_add]
    refine ⟨U, ?_, fun _ _ => rfl, fun j q1 q2 => absurd q1 (by omega), fun _ _ => rfl⟩
    rw [F_Mod_create_95, if_pos (nI_le (Nat.le_refl _) (by omega))]
    simp only [i1, i2, ib_t (show 36 * r + 1 < 576 by omega) (show 576 < 2 ^ 31 by decide), ib_t (show 36 * r + 2 < 576 by omega) (show 576 < 2 ^ 31 by decide), nI_clamp (show 36 * r + 1 < 2 ^ 31 by omega), nI_clamp (show 36 * r + 2 < 2 ^ 31 by omega), gl, Nat.zero_add]
    cases F_Mod_give 0 (nI me) (nI r) v (gx_u (gx_u U 1 (36 * r + 2) (nI k)) 1 (36 * r + 1) 1) with
    | none => rfl
    | some q => rw [ob, ob, obs]
  | succ m ih =>
    intro k fuel U h1 h2 e19 e7
    obtain ⟨f, rfl⟩ : ∃ f, fuel = f + 1 := ⟨fuel - 1, by omega⟩
    obtain ⟨U', j1, j2, j3, j4⟩ := ih (k + 1) f (gx_u U 1 (36 * r + 3 + k) (U 1 (36 * cd + 3 + (p + k)))) (by omega) (by omega) (by rw [gx_uK (by decide)]; exact e19) (by rw [gx_uK (by decide)]; exact e7)
    have i1 : (36 : Int32) * nI cd + 3 + nI p + nI k = nI (36 * cd + 3 + (p + k)) := by rw [m36, show (3 : Int32) = nI 3 from rfl, nI_add, nI_add, nI_add, Nat.add_assoc]
    have i2 : (36 : Int32) * nI r + 3 + nI k = nI (36 * r + 3 + k) := by rw [m36, show (3 : Int32) = nI 3 from rfl, nI_add, nI_add]
    refine ⟨U', ?_, ?_, ?_, ?_⟩
    · rw [F_Mod_create_95, if_neg (nI_ge (by omega) (by omega))]
      simp only [e19, ib_t hd (show 8 < 2 ^ 31 by decide), nI_clamp (show d < 2 ^ 31 by omega), Nat.zero_add, e7, i1, i2, ib_t (show 36 * cd + 3 + (p + k) < 576 by omega) (show 576 < 2 ^ 31 by decide), ib_t (show 36 * r + 3 + k < 576 by omega) (show 576 < 2 ^ 31 by decide), nI_clamp (show 36 * cd + 3 + (p + k) < 2 ^ 31 by omega), nI_clamp (show 36 * r + 3 + k < 2 ^ 31 by omega), gl, nI_1, j1]
    · intro q hq
      rw [j2 q hq, gx_uK hq]
    · intro j q1 q2
      by_cases e : j = k
      · subst e
        rw [j4 _ (Or.inl (by omega)), gx_us]
      · rw [j3 j (by omega) q2, gx_up (by omega)]
    · intro q hq
      rw [j4 q (by omega), gx_up (by omega)]
theorem pr_acc_cr {b nn s w t f s' w' f' nn' : Nat → Int32} {cd p z n r me : Nat} (h : pr_acc b nn s w t f 0) (hcd : cd < 16) (hr : r < 16) (hme : me < 16) (hne : r ≠ cd) (hz : z ≤ 24) (hp : p + n ≤ z) (ez : s cd = nI z) (es : ∀ a, a ≠ r → s' a = s a) (es2 : s' r = nI n) (en : nn' = upd (upd nn me (nn me + 1)) r 1) (ew : ∀ j, j < n → w' (24 * r + j) = w (24 * cd + (p + j))) (ew2 : ∀ q, (q < 24 * r ∨ 24 * r + n ≤ q) → w' q = w q) (F : Nat → Int32) (ef : ∀ j, j < n → F (36 * r + 3 + j) = f (36 * cd + 3 + (p + j))) (ef2 : ∀ q, (q < 36 * r + 3 ∨ 36 * r + 3 + n ≤ q) → F q = upd f (36 * me + 1) (f (36 * me + 1) + 1) q) (eF : f' = upd (upd F (36 * r + 2) (nI n)) (36 * r + 1) 1) : pr_acc b nn' s' w' t f' 0 := by
  intro c hc
  obtain ⟨h1, h2, h3, ⟨y, hy, h4, h5⟩, h6⟩ := h c hc
  obtain ⟨k1, k2, k3, ⟨y', hy', k4, k5⟩, k6⟩ := h cd hcd
  have hm2 := (h me hme).2.1
  have ey : y' = z := (nI_eq (by omega) (by omega)).mp (k4.symm.trans ez)
  subst ey
  rw [Nat.zero_add] at *
  subst eF en
  have fo : ∀ q, (q < 36 * r + 3 ∨ 36 * r + 3 + n ≤ q) → q ≠ 36 * me + 1 → F q = f q := fun q h1 h2 => by rw [ef2 q h1, pk_un h2]
  refine ⟨?_, ?_, ?_, ?_, fun k hk => ?_⟩
  · rw [pk_un (by omega), pk_un (by omega), fo _ (by omega) (by omega)]; exact h1
  · by_cases e : c = r
    · subst e; rw [pk_us, pk_us]
    · rw [pk_un e, pk_un (show 36 * c + 1 ≠ 36 * r + 1 by omega), pk_un (show 36 * c + 1 ≠ 36 * r + 2 by omega), ef2 _ (by omega)]
      by_cases e2 : c = me
      · subst e2; rw [pk_us, pk_us, hm2]
      · rw [pk_un e2, pk_un (by omega)]; exact h2
  · by_cases e : c = r
    · subst e; rw [es2, pk_un (by omega), pk_us]
    · rw [es c e, pk_un (by omega), pk_un (by omega), fo _ (by omega) (by omega)]; exact h3
  · by_cases e : c = r
    · subst e
      refine ⟨n, by omega, es2, fun j hj => ?_⟩
      rw [ew j hj, pk_un (by omega), pk_un (by omega), ef j hj]
      exact k5 (p + j) (by omega)
    · refine ⟨y, hy, by rw [es c e]; exact h4, fun j hj => ?_⟩
      rw [ew2 _ (by omega), pk_un (by omega), pk_un (by omega), fo _ (by omega) (by omega)]
      exact h5 j hj
  · rw [pk_un (by omega), pk_un (by omega), fo _ (by omega) (by omega)]; exact h6 k hk
