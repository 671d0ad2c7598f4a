def kc (d : Nat) (V V' : gx_M) : Prop := (∀ k, k ≠ 13 + 9 * d → k ≠ 14 + 9 * d → V' k = V k) ∧ ∀ p, 12 < p → V' (13 + 9 * d) p = V (13 + 9 * d) p
def ku (d : Nat) (U U' : gx_M) : Prop := (∀ k, k ≠ 8 → k ≠ 12 → k ≠ 13 → k ≠ 14 → U' k = U k) ∧ (∀ j, j ≠ d → U' 8 j = U 8 j ∧ U' 12 j = U 12 j ∧ U' 13 j = U 13 j) ∧ ∀ i, i < 12 * d ∨ 12 * d + 12 ≤ i → U' 14 i = U 14 i
theorem kc_r (d : Nat) (V : gx_M) : kc d V V := ⟨fun _ _ _ => rfl, fun _ _ => rfl⟩
theorem kc_t {d : Nat} {V V1 V2 : gx_M} (h : kc d V V1) (h2 : kc d V1 V2) : kc d V V2 := ⟨fun k a b => by rw [h2.1 k a b, h.1 k a b], fun p a => by rw [h2.2 p a, h.2 p a]⟩
theorem kc_c {d : Nat} {V : gx_M} {p : Nat} {x : Int32} (hp : p ≤ 12) : kc d V (gx_u V (13 + 9 * d) p x) := ⟨fun k a b => gx_uK a, fun q a => gx_up (by omega)⟩
theorem kc_s {d : Nat} {V : gx_M} {p : Nat} {x : Int32} : kc d V (gx_u V (14 + 9 * d) p x) := ⟨fun k a b => gx_uK b, fun q a => by rw [gx_uK (by omega)]⟩
theorem ku_r (d : Nat) (U : gx_M) : ku d U U := ⟨fun _ _ _ _ _ => rfl, fun _ _ => ⟨rfl, rfl, rfl⟩, fun _ _ => rfl⟩
theorem ku_t {d : Nat} {U U1 U2 : gx_M} (h : ku d U U1) (h2 : ku d U1 U2) : ku d U U2 := ⟨fun k a b c e => by rw [h2.1 k a b c e, h.1 k a b c e], fun j a => ⟨by rw [(h2.2.1 j a).1, (h.2.1 j a).1], by rw [(h2.2.1 j a).2.1, (h.2.1 j a).2.1], by rw [(h2.2.1 j a).2.2, (h.2.1 j a).2.2]⟩, fun i a => by rw [h2.2.2 i a, h.2.2 i a]⟩
theorem ku_8 {d : Nat} {U : gx_M} {x : Int32} : ku d U (gx_u U 8 d x) := ⟨fun k a b c e => gx_uK a, fun j a => ⟨gx_up a, by rw [gx_uK (by decide)], by rw [gx_uK (by decide)]⟩, fun i a => by rw [gx_uK (by decide)]⟩
theorem ku_12 {d : Nat} {U : gx_M} {x : Int32} : ku d U (gx_u U 12 d x) := ⟨fun k a b c e => gx_uK b, fun j a => ⟨by rw [gx_uK (by decide)], gx_up a, by rw [gx_uK (by decide)]⟩, fun i a => by rw [gx_uK (by decide)]⟩
theorem ku_13 {d : Nat} {U : gx_M} {x : Int32} : ku d U (gx_u U 13 d x) := ⟨fun k a b c e => gx_uK c, fun j a => ⟨by rw [gx_uK (by decide)], by rw [gx_uK (by decide)], gx_up a⟩, fun i a => by rw [gx_uK (by decide)]⟩
theorem ku_14 {d i : Nat} {U : gx_M} {x : Int32} (hi : i < 12) : ku d U (gx_u U 14 (12 * d + i) x) := ⟨fun k a b c e => gx_uK e, fun j a => ⟨by rw [gx_uK (by decide)], by rw [gx_uK (by decide)], by rw [gx_uK (by decide)]⟩, fun q a => gx_up (by omega)⟩
theorem bf_k {V U V' U' : gx_M} {B d j lb rb : Nat} (h : bf V U B j lb rb) (hj : j ≤ d) (a : kc d V V') (b : ku d U U') : bf V' U' B j lb rb := by
  obtain ⟨a1, a2⟩ := a
  have e : ∀ p, 12 < p → V' (13 + 9 * j) p = V (13 + 9 * j) p := by
    intro p hp
    by_cases e : j = d
    · subst e; exact a2 p hp
    · rw [a1 _ (by omega) (by omega)]
  unfold bf
  rw [a1 (16 + 9 * j) (by omega) (by omega), a1 (17 + 9 * j) (by omega) (by omega), a1 (18 + 9 * j) (by omega) (by omega), a1 (19 + 9 * j) (by omega) (by omega), a1 (20 + 9 * j) (by omega) (by omega), b.1 15 (by decide) (by decide) (by decide) (by decide), b.1 16 (by decide) (by decide) (by decide) (by decide), b.1 17 (by decide) (by decide) (by decide) (by decide), b.1 5 (by decide) (by decide) (by decide) (by decide), e 13 (by decide), e 14 (by decide), e 15 (by decide), e 16 (by decide)]
  exact h
theorem rn_k {V U V' U' : gx_M} {d j g h : Nat} (r : rn V U j g h) (hj : j < d) (a : kc d V V') (b : ku d U U') : rn V' U' j g h := by
  obtain ⟨a1, a2⟩ := a
  obtain ⟨b2, b3, b4⟩ := b.2.1 j (by omega)
  unfold rn at r ⊢
  rw [a1 (13 + 9 * j) (by omega) (by omega), a1 (14 + 9 * j) (by omega) (by omega), b.1 6 (by decide) (by decide) (by decide) (by decide), b.1 7 (by decide) (by decide) (by decide) (by decide), b.1 9 (by decide) (by decide) (by decide) (by decide), b.1 10 (by decide) (by decide) (by decide) (by decide), b.1 11 (by decide) (by decide) (by decide) (by decide), b2, b3, b4]
  obtain ⟨r1, r2, r3, r4, r5, r6, r7, r8, r9, r10, r11, r12, r13⟩ := r
  exact ⟨r1, r2, r3, r4, r5, r6, r7, r8, r9, r10, r11, r12, fun i hi => by rw [b.2.2 _ (by omega)]; exact r13 i hi⟩
theorem tw_k {V U V' U' : gx_M} {B d lg rf : Nat} (h : tw V U B lg rf) (a : kc d V V') (b : ku d U U') : tw V' U' B lg rf := by
  unfold tw
  rw [a.1 1 (by omega) (by omega), a.1 3 (by omega) (by omega), a.1 4 (by omega) (by omega), a.1 5 (by omega) (by omega), a.1 6 (by omega) (by omega), a.1 7 (by omega) (by omega), a.1 9 (by omega) (by omega), a.1 10 (by omega) (by omega), a.1 11 (by omega) (by omega), b.1 0 (by decide) (by decide) (by decide) (by decide), b.1 1 (by decide) (by decide) (by decide) (by decide), b.1 4 (by decide) (by decide) (by decide) (by decide), b.1 5 (by decide) (by decide) (by decide) (by decide)]
  exact h
theorem fx_k {V0 U0 V U V' U' : gx_M} {d : Nat} (hd : d < 8) (h : fx V0 U0 V U) (a : kc d V V') (b : ku d U U') : fx V0 U0 V' U' := by
  obtain ⟨h1, h2, h3, h4, h5⟩ := h
  refine ⟨by rw [a.1 0 (by omega) (by omega), h1], fun k hk => by rw [a.1 k (by omega) (by omega), h2 k hk], by rw [b.1 2 (by decide) (by decide) (by decide) (by decide), h3], by rw [b.1 3 (by decide) (by decide) (by decide) (by decide), h4], ?_⟩
  rw [b.1 0 (by decide) (by decide) (by decide) (by decide)]
  exact h5
theorem bd_le {C : Nat × Nat} {G G' lg rf n : Nat} {R : Nat → Nat} (h : bd C G lg rf n R) (hG : G' ≤ G) : bd C G' lg rf n R := by
  obtain ⟨h1, h2, h3⟩ := h
  exact ⟨by omega, by omega, fun j hj => by have := h3 j hj; omega⟩
theorem tc_k {V0 U0 V U V' U' : gx_M} {B : Nat} {C : Nat × Nat} {d gt gt' lg rf : Nat} {g h L R : Nat → Nat} (t : tc V0 U0 B C d g h L R gt lg rf V U) (a : kc d V V') (b : ku d U U') (hg : gt' ≤ gt) : tc V0 U0 B C d g h L R gt' lg rf V' U' := by
  obtain ⟨t1, t2, t3, t4, t5, t6, t7, t8, t9⟩ := t
  refine ⟨t1, by rw [a.1 1 (by omega) (by omega)]; exact t2, by rw [b.1 0 (by decide) (by decide) (by decide) (by decide)]; exact t3, tw_k t4 a b, fun j hj => ?_, bf_k t6 (Nat.le_refl _) a b, t7, bd_le t8 (by omega), fx_k t1 t9 a b⟩
  obtain ⟨q1, q2, q3⟩ := t5 j hj
  exact ⟨bf_k q1 (by omega) a b, rn_k q2 hj a b, q3⟩
/-! the innermost frame -/
theorem rn_gas {V U : gx_M} {d g h g' : Nat} (r : rn V U d g h) : rn (gx_u V (13 + 9 * d) 6 (nI g')) (gx_u U 12 d (nI g')) d g' h := by
  obtain ⟨r1, r2, r3, r4, r5, r6, r7, r8, r9, r10, r11, r12, r13⟩ := r
  unfold rn
  rw [gx_us, gx_us, gx_up (by decide), gx_up (by decide), gx_up (by decide), gx_up (by decide), gx_up (by decide), gx_up (by decide), gx_up (by decide), gx_up (by decide), gx_uK (show 14 + 9 * d ≠ 13 + 9 * d by omega), gx_uK (show 6 ≠ 12 by decide), gx_uK (show 7 ≠ 12 by decide), gx_uK (show 8 ≠ 12 by decide), gx_uK (show 9 ≠ 12 by decide), gx_uK (show 10 ≠ 12 by decide), gx_uK (show 11 ≠ 12 by decide), gx_uK (show 13 ≠ 12 by decide), gx_uK (show 14 ≠ 12 by decide)]
  exact ⟨r1, r2, r3, r4, r5, r6, rfl, rfl, r9, r10, r11, r12, r13⟩
theorem rn_pl {V U : gx_M} {d g h p : Nat} (r : rn V U d g h) (hp : p ≤ 24) : rn (gx_u V (13 + 9 * d) 2 (nI p)) (gx_u U 8 d (nI p)) d g h := by
  obtain ⟨r1, r2, r3, r4, r5, r6, r7, r8, r9, r10, r11, r12, r13⟩ := r
  unfold rn
  rw [gx_us, gx_us, gx_up (by decide), gx_up (by decide), gx_up (by decide), gx_up (by decide), gx_up (by decide), gx_up (by decide), gx_up (by decide), gx_up (by decide), gx_uK (show 14 + 9 * d ≠ 13 + 9 * d by omega), gx_uK (show 6 ≠ 8 by decide), gx_uK (show 7 ≠ 8 by decide), gx_uK (show 12 ≠ 8 by decide), gx_uK (show 9 ≠ 8 by decide), gx_uK (show 10 ≠ 8 by decide), gx_uK (show 11 ≠ 8 by decide), gx_uK (show 13 ≠ 8 by decide), gx_uK (show 14 ≠ 8 by decide)]
  exact ⟨r1, r2, ⟨p, hp, rfl, rfl⟩, r4, r5, r6, r7, r8, r9, r10, r11, r12, r13⟩
theorem rn_pop {V U : gx_M} {d g h h' : Nat} (r : rn V U d g h) (hh : h' ≤ h) : rn (gx_u V (13 + 9 * d) 8 (nI h')) (gx_u U 13 d (nI h')) d g h' := by
  obtain ⟨r1, r2, r3, r4, r5, r6, r7, r8, r9, r10, r11, r12, r13⟩ := r
  unfold rn
  rw [gx_us, gx_us, gx_up (by decide), gx_up (by decide), gx_up (by decide), gx_up (by decide), gx_up (by decide), gx_up (by decide), gx_up (by decide), gx_up (by decide), gx_uK (show 14 + 9 * d ≠ 13 + 9 * d by omega), gx_uK (show 6 ≠ 13 by decide), gx_uK (show 7 ≠ 13 by decide), gx_uK (show 8 ≠ 13 by decide), gx_uK (show 9 ≠ 13 by decide), gx_uK (show 10 ≠ 13 by decide), gx_uK (show 11 ≠ 13 by decide), gx_uK (show 12 ≠ 13 by decide), gx_uK (show 14 ≠ 13 by decide)]
  exact ⟨r1, r2, r3, r4, r5, r6, r7, r8, rfl, rfl, by omega, r12, fun i hi => r13 i (by omega)⟩
theorem rn_st {V U : gx_M} {d g h i : Nat} {x : Int32} (r : rn V U d g h) : rn (gx_u V (14 + 9 * d) i x) (gx_u U 14 (12 * d + i) x) d g h := by
  obtain ⟨r1, r2, r3, r4, r5, r6, r7, r8, r9, r10, r11, r12, r13⟩ := r
  unfold rn
  rw [gx_uK (show 13 + 9 * d ≠ 14 + 9 * d by omega), gx_uK (show 6 ≠ 14 by decide), gx_uK (show 7 ≠ 14 by decide), gx_uK (show 8 ≠ 14 by decide), gx_uK (show 9 ≠ 14 by decide), gx_uK (show 10 ≠ 14 by decide), gx_uK (show 11 ≠ 14 by decide), gx_uK (show 12 ≠ 14 by decide), gx_uK (show 13 ≠ 14 by decide)]
  refine ⟨r1, r2, r3, r4, r5, r6, r7, r8, r9, r10, r11, r12, fun k hk => ?_⟩
  by_cases e : k = i
  · subst e; rw [gx_us, gx_us]
  · rw [gx_up e, gx_up (by omega)]; exact r13 k hk
theorem rn_pu {V U : gx_M} {d g h : Nat} {x : Int32} (r : rn V U d g h) (hh : h < 12) : rn (gx_u (gx_u V (14 + 9 * d) h x) (13 + 9 * d) 8 (nI (h + 1))) (gx_u (gx_u U 14 (12 * d + h) x) 13 d (nI (h + 1))) d g (h + 1) := by
  obtain ⟨r1, r2, r3, r4, r5, r6, r7, r8, r9, r10, r11, r12, r13⟩ := rn_st (i := h) (x := x) r
  unfold rn
  rw [gx_us, gx_us, gx_up (by decide), gx_up (by decide), gx_up (by decide), gx_up (by decide), gx_up (by decide), gx_up (by decide), gx_up (by decide), gx_up (by decide), gx_uK (show 14 + 9 * d ≠ 13 + 9 * d by omega), gx_uK (show 6 ≠ 13 by decide), gx_uK (show 7 ≠ 13 by decide), gx_uK (show 8 ≠ 13 by decide), gx_uK (show 9 ≠ 13 by decide), gx_uK (show 10 ≠ 13 by decide), gx_uK (show 11 ≠ 13 by decide), gx_uK (show 12 ≠ 13 by decide), gx_uK (show 14 ≠ 13 by decide)]
  refine ⟨r1, r2, r3, r4, r5, r6, r7, r8, rfl, rfl, by omega, r12, fun i hi => ?_⟩
  by_cases e : i = h
  · subst e; rw [gx_us, gx_us]
  · exact r13 i (by omega)
