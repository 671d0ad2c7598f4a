theorem bl_c {f f' : Nat → Int32} : ∀ n, (∀ k, k < n → f' k = f k) → pr_bl f' n = pr_bl f n := by
  intro n
  induction n with
  | zero => intro _; rfl
  | succ n ih => intro h; rw [pr_bl, pr_bl, ih (fun k hk => h k (by omega)), h n (by omega)]
theorem rn_w {V U V' U' : gx_M} {j g h : Nat} (r : rn V U j g h) (hV : ∀ k, 12 < k → V' k = V k) (hU : ∀ k, 5 < k → U' k = U k) : rn V' U' j g h := by
  unfold rn at r ⊢
  rw [hV (13 + 9 * j) (by omega), hV (14 + 9 * j) (by omega), hU 6 (by decide), hU 7 (by decide), hU 8 (by decide), hU 9 (by decide), hU 10 (by decide), hU 11 (by decide), hU 12 (by decide), hU 13 (by decide), hU 14 (by decide)]
  exact r
theorem bf_w {V U V' U' : gx_M} {B j lb rb : Nat} (r : bf V U B j lb rb) (hV : ∀ k, 12 < k → V' k = V k) (hU : ∀ k, 5 < k → U' k = U k) (h5 : ∀ k, k < lb → U' 5 k = U 5 k) : bf V' U' B j lb rb := by
  unfold bf at r ⊢
  rw [hV (13 + 9 * j) (by omega), hV (16 + 9 * j) (by omega), hV (17 + 9 * j) (by omega), hV (18 + 9 * j) (by omega), hV (19 + 9 * j) (by omega), hV (20 + 9 * j) (by omega), hU 15 (by decide), hU 16 (by decide), hU 17 (by decide), bl_c lb h5]
  exact r
/-- the world changes, the frames don't -/
theorem tc_w {V0 U0 V U V' U' : gx_M} {B : Nat} {C : Nat × Nat} {d gt gt' lg lg' rf rf' : Nat} {g h L R : Nat → Nat} (t : tc V0 U0 B C d g h L R gt lg rf V U) (hV : ∀ k, 12 < k → V' k = V k) (hV0 : V' 0 = V 0) (h13 : V' 1 3 = V 1 3) (hU : ∀ k, 5 < k → U' k = U k) (hU2 : U' 2 = U 2) (hU3 : U' 3 = U 3) (hU0 : ∀ p, p ≠ 2 → p ≠ 13 → U' 0 p = U 0 p) (hw : tw V' U' B lg' rf') (h5 : ∀ k, k < lg → U' 5 k = U 5 k) (hlg : lg ≤ lg') (hb : bd C (sg g d + gt') lg' rf' (d + 1) R) : tc V0 U0 B C d g h L R gt' lg' rf' V' U' := by
  obtain ⟨t1, t2, t3, t4, t5, t6, t7, t8, t9⟩ := t
  refine ⟨t1, by rw [h13]; exact t2, by rw [hU0 19 (by decide) (by decide)]; exact t3, hw, fun j hj => ?_, bf_w t6 hV hU (fun k hk => h5 k (by have := t7.2 d (by omega); omega)), ⟨t7.1, fun j hj => by have := t7.2 j hj; omega⟩, hb, ?_⟩
  · obtain ⟨q1, q2, q3⟩ := t5 j hj
    exact ⟨bf_w q1 hV hU (fun k hk => h5 k (by have := t7.2 j (by omega); omega)), rn_w q2 hV hU, q3⟩
  · obtain ⟨f1, f2, f3, f4, f5⟩ := t9
    exact ⟨by rw [hV0, f1], fun k hk => by rw [hV k (by omega), f2 k hk], by rw [hU2, f3], by rw [hU3, f4], fun p h1 h2 h3 h4 h5 h6 => by rw [hU0 p h1 h2]; exact f5 p h1 h2 h3 h4 h5 h6⟩
theorem tr_w {V0 U0 V U V' U' : gx_M} {B : Nat} {C : Nat × Nat} {d gt ht lg lg' rf rf' : Nat} {g h L R : Nat → Nat} (t : tr V0 U0 B C d g h L R gt ht lg rf V U) (hV : ∀ k, 12 < k → V' k = V k) (hV0 : V' 0 = V 0) (h13 : V' 1 3 = V 1 3) (hU : ∀ k, 5 < k → U' k = U k) (hU2 : U' 2 = U 2) (hU3 : U' 3 = U 3) (hU0 : ∀ p, p ≠ 2 → p ≠ 13 → U' 0 p = U 0 p) (hw : tw V' U' B lg' rf') (h5 : ∀ k, k < lg → U' 5 k = U 5 k) (hlg : lg ≤ lg') (hb : bd C (sg g d + gt) lg' rf' (d + 1) R) : tr V0 U0 B C d g h L R gt ht lg' rf' V' U' :=
  ⟨tc_w t.1 hV hV0 h13 hU hU2 hU3 hU0 hw h5 hlg hb, rn_w t.2 hV hU⟩
theorem give_s {V U : gx_M} {B lg rf a b : Nat} {v : Int32} (t : tw V U B lg rf) (hB : B < 2 ^ 31) (ha : a < 16) (hb : b < 16) (hv : ¬ v < 0) (hle : v ≤ V 3 a) : ∃ V' U', F_Acc_give 2 (nI a) (nI b) v V = some V' ∧ F_Mod_give 0 (nI a) (nI b) v U = some U' ∧ tw V' U' B lg rf ∧ (∀ k, k ≠ 3 → V' k = V k) ∧ ∀ k, k ≠ 1 → U' k = U k := by
  obtain ⟨t1, t2, t3, t4, ⟨f, f1, f2⟩, t6, t7, t8, t9⟩ := t
  obtain ⟨n, hn, rfl⟩ := nI_of hv
  have fa := sg_ge (f := f) (d := a) 16 ha
  have hnf : n ≤ f a := by
    rw [f1 a ha] at hle
    exact (nI_leI (by omega) (by omega)).mp hle
  have x1 : V 3 a = U 1 (36 * a) := by have := (t4 a ha).1; rw [Nat.zero_add] at this; exact this
  have p1 := pr_acc_b (x := V 3 a - nI n) t4 ha
  have x2 : upd (V 3) a (V 3 a - nI n) b = upd (U 1) (36 * a) (V 3 a - nI n) (36 * b) := by have := (p1 b hb).1; rw [Nat.zero_add] at this; exact this
  have p2 := pr_acc_b (x := upd (V 3) a (V 3 a - nI n) b + nI n) p1 hb
  refine ⟨gx_u (gx_u V 3 a (V 3 a - nI n)) 3 b (upd (V 3) a (V 3 a - nI n) b + nI n), gx_u (gx_u U 1 (36 * a) (V 3 a - nI n)) 1 (36 * b) (upd (V 3) a (V 3 a - nI n) b + nI n), ?_, ?_, ?_, fun k hk => by rw [gx_uK hk, gx_uK hk], fun k hk => by rw [gx_uK hk, gx_uK hk]⟩
  · unfold F_Acc_give
    simp only [ib_t ha (show 16 < 2 ^ 31 by decide), ib_t hb (show 16 < 2 ^ 31 by decide), nI_clamp (show a < 2 ^ 31 by omega), nI_clamp (show b < 2 ^ 31 by omega), gl, Nat.reduceAdd]
    rw [show gx_u V 3 a (V 3 a - nI n) 3 b = upd (V 3) a (V 3 a - nI n) b from by rw [gx_ua, if_pos rfl]]
  · unfold F_Mod_give
    simp only [m36, ib_t (show 36 * a < 576 by omega) (show 576 < 2 ^ 31 by decide), ib_t (show 36 * b < 576 by omega) (show 576 < 2 ^ 31 by decide), nI_clamp (show 36 * a < 2 ^ 31 by omega), nI_clamp (show 36 * b < 2 ^ 31 by omega), gl, Nat.zero_add]
    rw [← x1, show gx_u U 1 (36 * a) (V 3 a - nI n) 1 (36 * b) = upd (U 1) (36 * a) (V 3 a - nI n) (36 * b) from by rw [gx_ua, if_pos rfl], ← x2]
  · unfold tw
    rw [gx_ua _ 3 b 3, if_pos rfl, gx_ua _ 1 (36 * b) 1, if_pos rfl, gx_ua _ 3 a 3, if_pos rfl, gx_ua _ 1 (36 * a) 1, if_pos rfl]
    simp only [gx_uK (show (1 : Nat) ≠ 3 by decide), gx_uK (show (4 : Nat) ≠ 3 by decide), gx_uK (show (5 : Nat) ≠ 3 by decide), gx_uK (show (6 : Nat) ≠ 3 by decide), gx_uK (show (7 : Nat) ≠ 3 by decide), gx_uK (show (9 : Nat) ≠ 3 by decide), gx_uK (show (10 : Nat) ≠ 3 by decide), gx_uK (show (11 : Nat) ≠ 3 by decide), gx_uK (show (0 : Nat) ≠ 1 by decide), gx_uK (show (4 : Nat) ≠ 1 by decide), gx_uK (show (5 : Nat) ≠ 1 by decide)]
    refine ⟨t1, t2, fun c hc => ?_, p2, ⟨gu (gu f a (f a - n)) b (gu f a (f a - n) b + n), fun c hc => ?_, ?_⟩, t6, t7, t8, t9⟩
    · rw [pk_un (by omega), pk_un (by omega)]; exact t3 c hc
    · have q : ∀ c, c < 16 → upd (V 3) a (V 3 a - nI n) c = nI (gu f a (f a - n) c) := by
        intro c hc
        by_cases e : c = a
        · subst e; rw [pk_us, gu_s, f1 c hc, pk_sub hnf]
        · rw [pk_un e, gu_n e, f1 c hc]
      by_cases e : c = b
      · subst e; rw [pk_us, gu_s, q c hc, nI_add]
      · rw [pk_un e, gu_n e, q c hc]
    · have s1 := sg_u (f := f) (d := a) (x := f a - n) 16 ha
      have s2 := sg_u (f := gu f a (f a - n)) (d := b) (x := gu f a (f a - n) b + n) 16 hb
      omega
theorem in_z {y : Int32} {z : Nat} {U : gx_M} (hz : z ≤ 24) : ((y < 0 ∨ nI z ≤ y) ∧ F_Mod_in y (nI z) U = some (0, U)) ∨ ∃ k, k < z ∧ y = nI k ∧ F_Mod_in y (nI z) U = some (1, U) := by
  rcases pr_ix y z (by omega) with q | ⟨k, hk, rfl⟩
  · exact Or.inl ⟨q, in_no q⟩
  · exact Or.inr ⟨k, hk, rfl, in_yes hk (by omega)⟩
theorem place_t {V0 U0 V U : gx_M} {B : Nat} {C : Nat × Nat} {d gt ht lg rf p : Nat} {g h L R : Nat → Nat} (t : tr V0 U0 B C d g h L R gt ht lg rf V U) (hp : p ≤ 24) : tr V0 U0 B C d g h L R gt ht lg rf (gx_u V (13 + 9 * d) 2 (nI p)) (gx_u U 8 d (nI p)) :=
  ⟨tc_k t.1 (kc_c (by decide)) ku_8 (Nat.le_refl _), rn_pl t.2 hp⟩
theorem pek0 {V0 U0 V U : gx_M} {B : Nat} {C : Nat × Nat} {d gt ht lg rf : Nat} {g h L R : Nat → Nat} (t : tr V0 U0 B C d g h L R gt ht lg rf V U) (k : Nat) (hk : k < 4) : ∃ y, F_Mod_peek 0 (nI k) U = some (y, U) ∧ F_Frm_below (13 + 9 * d) (nI k) V = some (y, V) ∧ (k < ht → y = V (14 + 9 * d) (ht - 1 - k)) := by
  have h12 := t.2.2.2.2.2.2.2.2.2.2.2.1
  have bC := belC (V := V) (c := 13 + 9 * d) (k := k) h12 (by omega) t.2.2.2.2.2.2.2.2.2.1
  have bM := pekM (U := U) (k := k) t.1.1 h12 (by omega) t.1.2.2.1 t.2.2.2.2.2.2.2.2.2.2.1
  rw [show 13 + 9 * d + 1 = 14 + 9 * d by omega] at bC
  by_cases hkh : k < ht
  · have hs := t.2.2.2.2.2.2.2.2.2.2.2.2.2 (ht - 1 - k) (by omega)
    rw [if_pos hkh] at bC bM
    exact ⟨V (14 + 9 * d) (ht - 1 - k), by rw [bM, hs], bC, fun _ => rfl⟩
  · rw [if_neg hkh] at bC bM
    exact ⟨0, bM, bC, fun q => absurd q hkh⟩
theorem jumpF {V : gx_M} {c cd z : Nat} {y : Int32} (hc : cd < 16) (e1 : V c 1 = nI cd) (ez : V 5 cd = nI z) (hy : y < 0 ∨ nI z ≤ y) : F_Mac_jump 1 c y V = F_Frm_fail c V := by
  unfold F_Mac_jump
  rw [obs, e1, ib_t hc (by decide), nI_clamp (by omega), show (1 + 1 + 3 : Nat) = 5 from rfl, ez]
  by_cases h0 : y < 0
  · rw [if_pos h0]
  · rw [if_neg h0, if_neg (Int32.not_lt.mpr (hy.resolve_left h0))]
theorem jumpT {V : gx_M} {c cd z k : Nat} (hc : cd < 16) (hz : z ≤ 24) (e1 : V c 1 = nI cd) (ez : V 5 cd = nI z) (hk : k < z) : F_Mac_jump 1 c (nI k) V = some (gx_u V c 2 (nI k)) := by
  unfold F_Mac_jump
  rw [e1, ib_t hc (by decide), nI_clamp (by omega), show (1 + 1 + 3 : Nat) = 5 from rfl, ez, if_neg (nI_pos (by omega)), if_pos (nI_lt hk (by omega)), gl]
theorem op12_s {V0 U0 V U : gx_M} {B : Nat} {C : Nat × Nat} {d gt ht lg rf cd p z : Nat} {g h L R : Nat → Nat} {w : Int32} (t : tr V0 U0 B C d g h L R gt ht lg rf V U) (hw : wd V U d cd p z w) (eO : w &&& 31 = nI 12) : ∃ V1 U1, it (13 + 9 * d) (F_Mac_step 1 (13 + 9 * d) V) = some V1 ∧ F_Mod_step 0 U = some U1 ∧ nx V0 U0 B C (sg g d + gt + d + 1) V1 U1 := by
  have hd := t.1.1
  have e19 := t.1.2.2.1
  have h12 := t.2.2.2.2.2.2.2.2.2.2.2.1
  have hp : p < 24 := by have := hw.2.1; have := hw.2.2.1; omega
  obtain ⟨y, yM, -, yV⟩ := pek0 t 0 (by decide)
  have yV : 0 < ht → y = V (14 + 9 * d) (ht - 1) := yV
  have yM : F_Mod_peek 0 (0 : Int32) U = some (y, U) := yM
  obtain ⟨w1, w2, w3, w4, w5, w6, w7, w8, w9, w10, w11⟩ := id hw
  have a := adv (pr := 3) t hp
  have f0 : ∀ r, F_Mod_in y (nI z) U = some (r, U) → (r = 0 ∨ r = 1) → F_Mod_fails 0 (nI 12) (w >>> ((5 : Int32) &&& 31)) U = some (1 - r, U) := by
    intro r hr hr2
    rw [f_in hd hw.1 e19 hw.2.2.2.2.1, if_neg (by decide), if_neg (by decide), if_pos (by decide), w9, F_Mod_fails_97, yM, ob, hr, ob]
    rcases hr2 with rfl | rfl
    · rw [if_pos rfl]; rfl
    · rw [if_neg z1]; rfl
  have eq1 : ∀ x, gx_u (gx_u V (13 + 9 * d) 6 x) (13 + 9 * d) 2 (nI (p + 1)) (14 + 9 * d) = V (14 + 9 * d) := fun x => by rw [gx_uK (by omega), gx_uK (by omega)]
  have eq2 : ∀ x, gx_u (gx_u V (13 + 9 * d) 6 x) (13 + 9 * d) 2 (nI (p + 1)) (13 + 9 * d) 1 = nI cd := fun x => by rw [gx_up (by decide), gx_up (by decide)]; exact w4
  have eq3 : ∀ x, gx_u (gx_u V (13 + 9 * d) 6 x) (13 + 9 * d) 2 (nI (p + 1)) 5 cd = nI z := fun x => by rw [gx_uK (by omega), gx_uK (by omega)]; exact w8
  rcases in_z (y := y) (U := U) w3 with ⟨hy, hr⟩ | ⟨k, hk, rfl, hr⟩
  · refine opx_s t hw eO (by decide) (by decide) (by decide) (by decide) (by decide) (nD_12 _ _) (rD_12 _ _) (oD_12 _) (pD_12 _) (uD_12 _) (kD_12 _) (f0 0 hr (Or.inl rfl)) (fun _ => Or.inr (Or.inr (Or.inr (by decide)))) (fun q _ => ?_) (fun q q' => absurd (Or.inr (Or.inr (Or.inr (by decide)))) q')
    have h0 : 0 < ht := Nat.pos_of_ne_zero fun e => q (Or.inr (Or.inl (by omega)))
    refine ⟨gx_u (gx_u (gx_u V (13 + 9 * d) 6 (nI (gt - 3))) (13 + 9 * d) 2 (nI (p + 1))) (13 + 9 * d) 8 (nI (ht - 1)), kc_t (kc_c (by decide)) (kc_t (kc_c (by decide)) (kc_c (by decide))), ?_⟩
    rw [cD_12, popC0 a.2 h0, ob, eq1, ← yV h0]
    dsimp only
    rw [jumpF w1 (by rw [gx_up (by decide)]; exact eq2 _) (by rw [gx_uK (by omega)]; exact eq3 _) hy, obs]
  · refine opx_s t hw eO (by decide) (by decide) (by decide) (by decide) (by decide) (nD_12 _ _) (rD_12 _ _) (oD_12 _) (pD_12 _) (uD_12 _) (kD_12 _) (f0 1 hr (Or.inr rfl)) (fun q => ?_) (fun q q' => ?_) (fun q q' => ?_)
    · rcases q with q | q | ⟨_, q⟩
      · exact Or.inr (Or.inr (Or.inl q))
      · exact Or.inl q
      · exact absurd rfl q
    · exfalso; rcases q' with q' | q' | q' | q'
      · exact q (Or.inr (Or.inl q'))
      · omega
      · exact q (Or.inl q')
      · exact q' (by decide)
    · have h0 : 0 < ht := Nat.pos_of_ne_zero fun e => q (Or.inr (Or.inl (by omega)))
      have hg : 3 ≤ gt := Nat.le_of_not_lt fun k => q (Or.inl k)
      have ys := a.2.2.2.2.2.2.2.2.2.2.2.2.2 (ht - 1) (by omega)
      rw [eq1, ← yV h0] at ys
      have f19 := a.1.2.2.1
      have o0 : ∀ X x : gx_M, ∀ v : Int32, X 0 19 = nI d → gx_u X 13 d v 0 19 = nI d := fun X _ v e => by rw [gx_uK (by decide)]; exact e
      refine fin (place_t (p := k) (pop_t (h' := ht - 1) a (by omega)) (by omega)) (by omega) ?_ ?_
      · rw [cD_12, popC0 a.2 h0, ob, eq1]
        dsimp only
        rw [show V (14 + 9 * d) (ht - 1) = nI k from (yV h0).symm, jumpT w1 w3 (by rw [gx_up (by decide)]; exact eq2 _) (by rw [gx_uK (by omega)]; exact eq3 _) hk, ob]
      · rw [mD_12, popM0 a h0, ob, if_pos (by decide)]
        simp only [o0 _ U _ f19, ib_t hd (show 8 < 2 ^ 31 by decide), nI_clamp (show d < 2 ^ 31 by omega), Nat.zero_add, gl, ← ys]
