/-- the reference takes a copy back, from place i on -/
def cpo (U : gx_M) (d i : Nat) : gx_M := va_up U 1 (fun j => if i ≤ j ∧ j < 576 then U 15 (576 * d + j) else U 1 j)
theorem cpo_o {U : gx_M} {d i c : Nat} (h : c ≠ 1) : cpo U d i c = U c := by unfold cpo va_up; rw [if_neg h]
theorem cpo_d {U : gx_M} {d i : Nat} : cpo U d i 1 = fun j => if i ≤ j ∧ j < 576 then U 15 (576 * d + j) else U 1 j := by unfold cpo va_up; rw [if_pos rfl]
theorem cpo_end (U : gx_M) (d : Nat) : cpo U d 576 = U := by
  funext k
  by_cases h : k = 1
  · subst h
    rw [cpo_d]
    funext j
    rw [if_neg (by omega)]
  · rw [cpo_o h]
theorem cpo_step {U : gx_M} {d i : Nat} (hi : i < 576) : cpo (gx_u U 1 i (U 15 (576 * d + i))) d (i + 1) = cpo U d i := by
  funext k
  by_cases h : k = 1
  · subst h
    rw [cpo_d, cpo_d]
    funext j
    rw [gx_uK (show 15 ≠ 1 by decide)]
    by_cases h1 : j = i
    · subst h1
      rw [if_neg (by omega), gx_us, if_pos ⟨Nat.le_refl _, hi⟩]
    · rw [gx_up h1]
      by_cases h2 : i + 1 ≤ j ∧ j < 576
      · rw [if_pos h2, if_pos ⟨by omega, h2.2⟩]
      · rw [if_neg h2, if_neg (by omega)]
  · rw [cpo_o h, cpo_o h, gx_uK h]
theorem ge576 {k : Nat} (h : k < 576) : ¬ (576 : Int32) ≤ nI k := nI_ge (b := 576) h (by decide)
theorem m576 (a : Nat) : (576 : Int32) * nI a = nI (576 * a) := pk_mul 576 a
theorem lv7 {d : Nat} {x1 x2 x3 : Int32} (hd : d < 8) : ∀ (n i fuel : Nat) (U : gx_M), i + n = 576 → n < fuel → U 0 19 = nI d → F_Mod_leave_7 fuel 0 x1 x2 x3 (nI i) U = F_Mod_leave_70 0 x1 x2 x3 (gx_u (gx_u (cpo U d i) 0 2 (U 16 d)) 0 13 (U 17 d)) := by
  intro n
  induction n with
  | zero =>
    intro i fuel U h1 h2 h3
    obtain ⟨f, rfl⟩ : ∃ f, fuel = f + 1 := ⟨fuel - 1, by omega⟩
    have e : i = 576 := by omega
    subst e
    have o : ∀ x, gx_u U 0 2 x 17 = U 17 := fun x => gx_uK (by decide)
    rw [F_Mod_leave_7, if_pos (by decide), h3, ib_t hd (by decide), nI_clamp (by omega), gl, gx_up (by decide), h3, ib_t hd (by decide), nI_clamp (by omega), gl, cpo_end, Nat.zero_add, Nat.zero_add, o]
  | succ n ih =>
    intro i fuel U h1 h2 h3
    obtain ⟨f, rfl⟩ : ∃ f, fuel = f + 1 := ⟨fuel - 1, by omega⟩
    rw [F_Mod_leave_7, if_neg (ge576 (show i < 576 by omega)), h3, m576, nI_add, ib_t (by omega) (by decide), ib_t (by omega) (by decide), nI_clamp (by omega), nI_clamp (by omega), gl, nI_1, Nat.zero_add, Nat.zero_add, ih (i + 1) f _ (by omega) (by omega) (by rw [gx_uK (by decide)]; exact h3), cpo_step (by omega), gx_uK (by decide), gx_uK (by decide)]
theorem pr_acc_bk {b n s w t f b' n' s' w' t' f' : Nat → Int32} {o : Nat} (h : pr_acc b n s w t f o) : pr_acc (va_cpy b b' 0 0 16) (va_cpy n n' 0 0 16) (va_cpy s s' 0 0 16) (va_cpy w w' 0 0 384) (va_cpy t t' 0 0 128) (fun j => if 0 ≤ j ∧ j < 576 then f (o + j) else f' j) 0 := by
  intro c hc
  obtain ⟨h1, h2, h3, ⟨y, hy, h4, h5⟩, h6⟩ := h c hc
  have k : ∀ j, j < 576 → (fun j => if 0 ≤ j ∧ j < 576 then f (o + j) else f' j) j = f (o + j) := fun j hj => if_pos ⟨Nat.zero_le _, hj⟩
  refine ⟨?_, ?_, ?_, ⟨y, hy, ?_, fun j hj => ?_⟩, fun i hi => ?_⟩
  · rw [sb_cpy0 hc, k _ (by omega), h1]; congr 1; omega
  · rw [sb_cpy0 hc, k _ (by omega), h2]; congr 1; omega
  · rw [sb_cpy0 hc, k _ (by omega), h3]; congr 1; omega
  · rw [sb_cpy0 hc]; exact h4
  · rw [sb_cpy0 (by omega), k _ (by omega), h5 j hj]; congr 1; omega
  · rw [sb_cpy0 (by omega), k _ (by omega), h6 i hi]; congr 1; omega
theorem undoC {V : gx_M} {c : Nat} (hc : 12 < c) : F_Mac_undo 1 c V = some (gx_u (gx_u (gx_u (gx_u (cpm 2 (c + 2) V) 1 4 (V c 13)) 1 5 (V c 14)) 9 2 (V c 15)) 9 3 (V c 16)) := by
  have o : cpm 2 (c + 2) V c = V c := cpm_o (by omega)
  unfold F_Mac_undo F_Log_cutBackTo
  rw [show (1 + 1 : Nat) = 2 from rfl, show (1 + 8 : Nat) = 9 from rfl, cpm_eq]
  generalize cpm 2 (c + 2) V = W at *
  simp only [ob, gl, gx_uK (show c ≠ 1 by omega), o]
theorem bad_s {V0 U0 V U : gx_M} {B : Nat} {C : Nat × Nat} {d gt lg rf r : Nat} {g h L R : Nat → Nat} {x : Int32} (t : tc V0 U0 B C d g h L R gt lg rf V U) (hr : r ≤ gt) (e6 : V (13 + 9 * d) 6 = nI r) (e10 : V (13 + 9 * d) 10 = 0) (e11 : V (13 + 9 * d) 11 = x) : ∃ V1 U1, F_Mac_leave 1 (13 + 9 * d) V = some V1 ∧ F_Mod_leave 0 0 x (nI r) U = some U1 ∧ nx V0 U0 B C (sg g d + gt + d + 1) V1 U1 := by
  have hu := undoC (V := V) (c := 13 + 9 * d) (by omega)
  obtain ⟨t1, t2, t3, t4, t5, t6, t7, t8, t9⟩ := t
  have hm := fun f hf => lv7 (x1 := 0) (x2 := x) (x3 := nI r) t1 576 0 f U (by omega) hf t3
  obtain ⟨b1, b2, b3, b4, b5, b6, b7, b8⟩ := t6
  rw [b4, b6] at hu
  rw [b5, b7] at hm
  have o : ∀ c, (c < 3 ∨ 7 < c) → cpm 2 (13 + 9 * d + 2) V c = V c := fun c q => cpm_o (by omega)
  obtain ⟨c1, c2, c3, c4, c5⟩ := cpm_in (x0 := 2) (x1 := 13 + 9 * d + 2) (V := V) (Or.inr (by omega))
  simp only [Nat.reduceAdd, show 13 + 9 * d + 2 + 1 = 16 + 9 * d by omega, show 13 + 9 * d + 2 + 2 = 17 + 9 * d by omega, show 13 + 9 * d + 2 + 3 = 18 + 9 * d by omega, show 13 + 9 * d + 2 + 4 = 19 + 9 * d by omega, show 13 + 9 * d + 2 + 5 = 20 + 9 * d by omega] at c1 c2 c3 c4 c5
  generalize hW : cpm 2 (13 + 9 * d + 2) V = W at *
  generalize hV1 : gx_u (gx_u (gx_u (gx_u W 1 4 (nI (R d))) 1 5 (V (13 + 9 * d) 14)) 9 2 (nI (L d))) 9 3 (V (13 + 9 * d) 16) = V1 at *
  generalize hU1 : gx_u (gx_u (cpo U d 0) 0 2 (nI (R d))) 0 13 (nI (L d)) = U1 at *
  have v : ∀ k, k ≠ 1 → k ≠ 9 → (k < 3 ∨ 7 < k) → V1 k = V k := fun k h1 h2 h3 => by rw [← hV1, gx_uK h2, gx_uK h2, gx_uK h1, gx_uK h1, o k h3]
  have w : ∀ k, k ≠ 1 → k ≠ 9 → V1 k = W k := fun k h1 h2 => by rw [← hV1, gx_uK h2, gx_uK h2, gx_uK h1, gx_uK h1]
  have u : ∀ k, k ≠ 0 → k ≠ 1 → U1 k = U k := fun k h1 h2 => by rw [← hU1, gx_uK h1, gx_uK h1, cpo_o h2]
  have u1 : U1 1 = fun j => if 0 ≤ j ∧ j < 576 then U 15 (576 * d + j) else U 1 j := by rw [← hU1, gx_uK (by decide), gx_uK (by decide), cpo_d]
  have u0 : ∀ p, p ≠ 2 → p ≠ 13 → U1 0 p = U 0 p := fun p h1 h2 => by rw [← hU1, gx_up h2, gx_up h1, cpo_o (by decide)]
  have t' : tc V0 U0 B C d g h L R gt (L d) (R d) V1 U1 := by
    refine ⟨t1, ?_, ?_, ?_, ?_, ?_, ?_, ?_, ?_⟩
    · rw [← hV1, gx_uK (by decide), gx_uK (by decide), gx_up (by decide), gx_up (by decide), o 1 (by decide)]; exact t2
    · rw [u0 19 (by decide) (by decide)]; exact t3
    · refine ⟨?_, ?_, ?_, ?_, ?_, ?_, ?_, ?_, ?_⟩
      · rw [← hV1, gx_uK (by decide), gx_uK (by decide), gx_up (by decide), gx_us]
      · rw [← hU1, gx_up (by decide), gx_us]
      · have e5 : V1 1 5 = V (13 + 9 * d) 14 := by rw [← hV1, gx_uK (by decide), gx_uK (by decide), gx_us]
        rw [e5, u1]
        intro a ha
        have := b3 a ha
        rw [← this]
        dsimp only
        rw [if_pos ⟨Nat.zero_le _, by omega⟩]
        congr 1
        omega
      · rw [w 3 (by decide) (by decide), w 4 (by decide) (by decide), w 5 (by decide) (by decide), w 6 (by decide) (by decide), w 7 (by decide) (by decide), c1, c2, c3, c4, c5, u1]
        exact pr_acc_bk b1
      · rw [w 3 (by decide) (by decide), c1]
        exact bp_cp b2
      · rw [← hV1, gx_up (by decide), gx_us]
      · rw [← hU1, gx_us]
      · rw [← hV1, gx_us, u 5 (by decide) (by decide)]; exact b8
      · rw [v 10 (by decide) (by decide) (by decide), v 11 (by decide) (by decide) (by decide), u 4 (by decide) (by decide), u 5 (by decide) (by decide)]
        intro k hk h16
        exact t4.2.2.2.2.2.2.2.2 k (by have := t7.2 d (by omega); omega) h16
    · intro j hj
      obtain ⟨w1, w2, w3⟩ := t5 j hj
      refine ⟨?_, ?_, w3⟩
      · unfold bf at w1 ⊢
        rw [v (13 + 9 * j) (by omega) (by omega) (by omega), v (16 + 9 * j) (by omega) (by omega) (by omega), v (17 + 9 * j) (by omega) (by omega) (by omega), v (18 + 9 * j) (by omega) (by omega) (by omega), v (19 + 9 * j) (by omega) (by omega) (by omega), v (20 + 9 * j) (by omega) (by omega) (by omega), u 15 (by decide) (by decide), u 16 (by decide) (by decide), u 17 (by decide) (by decide), u 5 (by decide) (by decide)]
        exact w1
      · unfold rn at w2 ⊢
        rw [v (13 + 9 * j) (by omega) (by omega) (by omega), v (14 + 9 * j) (by omega) (by omega) (by omega), u 6 (by decide) (by decide), u 7 (by decide) (by decide), u 8 (by decide) (by decide), u 9 (by decide) (by decide), u 10 (by decide) (by decide), u 11 (by decide) (by decide), u 12 (by decide) (by decide), u 13 (by decide) (by decide), u 14 (by decide) (by decide)]
        exact w2
    · unfold bf
      rw [v (13 + 9 * d) (by omega) (by omega) (by omega), v (16 + 9 * d) (by omega) (by omega) (by omega), v (17 + 9 * d) (by omega) (by omega) (by omega), v (18 + 9 * d) (by omega) (by omega) (by omega), v (19 + 9 * d) (by omega) (by omega) (by omega), v (20 + 9 * d) (by omega) (by omega) (by omega), u 15 (by decide) (by decide), u 16 (by decide) (by decide), u 17 (by decide) (by decide), u 5 (by decide) (by decide)]
      exact ⟨b1, b2, b3, b4, b5, b6, b7, b8⟩
    · exact ⟨t7.1, fun j hj => t7.1 j d (by omega) (by omega)⟩
    · have q1 := t7.2 d (by omega)
      have q2 := t8.2.2 d (by omega)
      exact ⟨by have := t8.1; omega, q2, t8.2.2⟩
    · obtain ⟨f1, f2, f3, f4, f5⟩ := t9
      refine ⟨by rw [v 0 (by decide) (by decide) (by decide), f1], fun k hk => by rw [v k (by omega) (by omega) (by omega), f2 k hk], by rw [u 2 (by decide) (by decide), f3], by rw [u 3 (by decide) (by decide), f4], fun p h1 h2 h3 h4 h5 h6 => ?_⟩
      rw [u0 p h1 h2]; exact f5 p h1 h2 h3 h4 h5 h6
  have eV : V1 (13 + 9 * d) = V (13 + 9 * d) := v _ (by omega) (by omega) (by omega)
  obtain ⟨V2, U2, l1, l2, l3⟩ := leave_s t' hr (s := 0) (x := x) (by rw [eV]; exact e6) (by rw [eV]; exact e10) (Or.inl rfl) (by rw [eV]; exact e11)
  refine ⟨V2, U2, ?_, ?_, l3⟩
  · unfold F_Mac_leave
    rw [if_pos e10, hu, ob, l1]
  · unfold F_Mod_leave
    rw [if_pos rfl]
    generalize hf : (1000 : Nat) = f
    rw [show (0 : Int32) = nI 0 from rfl] at l2 ⊢
    rw [← l2]
    exact hm f (by omega)
theorem good_s {V0 U0 V U : gx_M} {B : Nat} {C : Nat × Nat} {d gt lg rf r : Nat} {g h L R : Nat → Nat} {x : Int32} (t : tc V0 U0 B C d g h L R gt lg rf V U) (hr : r ≤ gt) (e6 : V (13 + 9 * d) 6 = nI r) (e10 : V (13 + 9 * d) 10 = 1) (e11 : V (13 + 9 * d) 11 = x) : ∃ V1 U1, F_Mac_leave 1 (13 + 9 * d) V = some V1 ∧ F_Mod_leave 0 1 x (nI r) U = some U1 ∧ nx V0 U0 B C (sg g d + gt + d + 1) V1 U1 := by
  obtain ⟨V2, U2, l1, l2, l3⟩ := leave_s t hr e6 e10 (Or.inr rfl) e11
  refine ⟨V2, U2, ?_, ?_, l3⟩
  · unfold F_Mac_leave
    rw [if_neg (by rw [e10]; decide), l1]
  · unfold F_Mod_leave
    rw [if_neg (by decide), l2]
/-- one turn of the class's run -/
def it (c : Nat) (x : Option gx_M) : Option gx_M := x.bind fun q => if q c 9 = 0 then some q else F_Mac_leave 1 c q
theorem endC {V : gx_M} {c : Nat} {s x : Int32} (hs : s = 0 ∨ s = 1) : F_Frm_end c s x V = some (gx_u (gx_u (gx_u V c 9 1) c 10 s) c 11 x) := by
  unfold F_Frm_end
  rw [gl, if_pos hs, gl, gl]
/-- a frame that fails -/
theorem fail_s {V0 U0 V U V' U' : gx_M} {B : Nat} {C : Nat × Nat} {d gt lg rf : Nat} {g h L R : Nat → Nat} (t : tc V0 U0 B C d g h L R gt lg rf V U) (a : kc d V V') (b : ku d U U') : ∃ V1 U1, it (13 + 9 * d) (F_Frm_fail (13 + 9 * d) V') = some V1 ∧ F_Mod_leave 0 0 0 0 U' = some U1 ∧ nx V0 U0 B C (sg g d + gt + d + 1) V1 U1 := by
  have e : F_Frm_fail (13 + 9 * d) V' = some (gx_u (gx_u (gx_u (gx_u V' (13 + 9 * d) 6 0) (13 + 9 * d) 9 1) (13 + 9 * d) 10 0) (13 + 9 * d) 11 0) := by
    unfold F_Frm_fail
    rw [gl, endC (Or.inl rfl), ob]
  have k : kc d V (gx_u (gx_u (gx_u (gx_u V' (13 + 9 * d) 6 0) (13 + 9 * d) 9 1) (13 + 9 * d) 10 0) (13 + 9 * d) 11 0) := kc_t a (kc_t (kc_c (by decide)) (kc_t (kc_c (by decide)) (kc_t (kc_c (by decide)) (kc_c (by decide)))))
  obtain ⟨V1, U1, l1, l2, l3⟩ := bad_s (r := 0) (x := 0) (tc_k t k b (Nat.le_refl _)) (by omega) (by rw [gx_up (by decide), gx_up (by decide), gx_up (by decide), gx_us]; rfl) (by rw [gx_up (by decide), gx_us]) (by rw [gx_us])
  refine ⟨V1, U1, ?_, l2, l3⟩
  rw [e, it, ob, if_neg (by rw [gx_up (by decide), gx_up (by decide), gx_us]; decide), l1]
/-- a frame that ends -/
theorem end_s {V0 U0 V U V' U' : gx_M} {B : Nat} {C : Nat × Nat} {d gt lg rf r : Nat} {g h L R : Nat → Nat} {s x : Int32} (t : tc V0 U0 B C d g h L R gt lg rf V U) (a : kc d V V') (b : ku d U U') (hr : r ≤ gt) (e6 : V' (13 + 9 * d) 6 = nI r) (hs : s = 0 ∨ s = 1) : ∃ V1 U1, it (13 + 9 * d) (F_Frm_end (13 + 9 * d) s x V') = some V1 ∧ F_Mod_leave 0 s x (nI r) U' = some U1 ∧ nx V0 U0 B C (sg g d + gt + d + 1) V1 U1 := by
  have k : kc d V (gx_u (gx_u (gx_u V' (13 + 9 * d) 9 1) (13 + 9 * d) 10 s) (13 + 9 * d) 11 x) := kc_t a (kc_t (kc_c (by decide)) (kc_t (kc_c (by decide)) (kc_c (by decide))))
  have e6' : gx_u (gx_u (gx_u V' (13 + 9 * d) 9 1) (13 + 9 * d) 10 s) (13 + 9 * d) 11 x (13 + 9 * d) 6 = nI r := by rw [gx_up (by decide), gx_up (by decide), gx_up (by decide)]; exact e6
  have e10 : gx_u (gx_u (gx_u V' (13 + 9 * d) 9 1) (13 + 9 * d) 10 s) (13 + 9 * d) 11 x (13 + 9 * d) 10 = s := by rw [gx_up (by decide), gx_us]
  have e9 : ¬ gx_u (gx_u (gx_u V' (13 + 9 * d) 9 1) (13 + 9 * d) 10 s) (13 + 9 * d) 11 x (13 + 9 * d) 9 = 0 := by rw [gx_up (by decide), gx_up (by decide), gx_us]; decide
  rcases hs with rfl | rfl
  · obtain ⟨V1, U1, l1, l2, l3⟩ := bad_s (x := x) (tc_k t k b (Nat.le_refl _)) hr e6' e10 (by rw [gx_us])
    exact ⟨V1, U1, by rw [endC (Or.inl rfl), it, ob, if_neg e9, l1], l2, l3⟩
  · obtain ⟨V1, U1, l1, l2, l3⟩ := good_s (x := x) (tc_k t k b (Nat.le_refl _)) hr e6' e10 (by rw [gx_us])
    exact ⟨V1, U1, by rw [endC (Or.inr rfl), it, ob, if_neg e9, l1], l2, l3⟩
