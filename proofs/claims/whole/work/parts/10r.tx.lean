/-! Inside a transaction: the frames. -/
def gb (x : Int32) (f : Nat → Int32) (o : Nat) : Prop := ∀ a, a < 16 → f (o + 36 * a + 35) = if tb x a = true then 1 else 0
/-- the world: refund, goers, accounts, logs -/
def tw (V U : gx_M) (B lg rf : Nat) : Prop := V 1 4 = nI rf ∧ U 0 2 = nI rf ∧ gb (V 1 5) (U 1) 0 ∧ pr_acc (V 3) (V 4) (V 5) (V 6) (V 7) (U 1) 0 ∧ bp (V 3) B ∧ V 9 2 = nI lg ∧ U 0 13 = nI lg ∧ V 9 3 = pr_bl (U 5) lg ∧ ∀ k, k < lg → k < 16 → V 10 k = U 4 k ∧ V 11 k = U 5 k
/-- what frame j found when it began -/
def bf (V U : gx_M) (B j lb rb : Nat) : Prop := pr_acc (V (16 + 9 * j)) (V (17 + 9 * j)) (V (18 + 9 * j)) (V (19 + 9 * j)) (V (20 + 9 * j)) (U 15) (576 * j) ∧ bp (V (16 + 9 * j)) B ∧ gb (V (13 + 9 * j) 14) (U 15) (576 * j) ∧ V (13 + 9 * j) 13 = nI rb ∧ U 16 j = nI rb ∧ V (13 + 9 * j) 15 = nI lb ∧ U 17 j = nI lb ∧ V (13 + 9 * j) 16 = pr_bl (U 5) lb
/-- what frame j has while it runs -/
def rn (V U : gx_M) (j g h : Nat) : Prop := (∃ s : Nat, s < 16 ∧ V (13 + 9 * j) 0 = nI s ∧ U 6 j = nI s) ∧ (∃ s : Nat, s < 16 ∧ V (13 + 9 * j) 1 = nI s ∧ U 7 j = nI s) ∧ (∃ p : Nat, p ≤ 24 ∧ V (13 + 9 * j) 2 = nI p ∧ U 8 j = nI p) ∧ V (13 + 9 * j) 3 = U 9 j ∧ V (13 + 9 * j) 4 = U 10 j ∧ V (13 + 9 * j) 5 = U 11 j ∧ V (13 + 9 * j) 6 = nI g ∧ U 12 j = nI g ∧ V (13 + 9 * j) 8 = nI h ∧ U 13 j = nI h ∧ h ≤ 12 ∧ V (13 + 9 * j) 9 = 0 ∧ ∀ i, i < h → V (14 + 9 * j) i = U 14 (12 * j + i)
/-- what stays over a transaction's run -/
def fx (V0 U0 V U : gx_M) : Prop := V 0 = V0 0 ∧ (∀ k, 84 < k → V k = V0 k) ∧ U 2 = U0 2 ∧ U 3 = U0 3 ∧ ∀ p, p ≠ 2 → p ≠ 13 → p ≠ 19 → p ≠ 32 → p ≠ 33 → p ≠ 34 → U 0 p = U0 0 p
def lv (n : Nat) (L : Nat → Nat) (lg : Nat) : Prop := (∀ i j, i ≤ j → j < n → L i ≤ L j) ∧ ∀ j, j < n → L j ≤ lg
/-- the frames below n run -/
def tq (V U : gx_M) (B n : Nat) (g h L R : Nat → Nat) : Prop := ∀ j, j < n → bf V U B j (L j) (R j) ∧ rn V U j (g j) (h j) ∧ h j ≤ 10
def bd (C : Nat × Nat) (G lg rf : Nat) (n : Nat) (R : Nat → Nat) : Prop := (G + 12 * lg ≤ C.1 ∧ G ≤ C.2) ∧ rf + 15 * G ≤ 45000 ∧ ∀ j, j < n → R j + 15 * G ≤ 45000
/-- all but the innermost frame d -/
def tc (V0 U0 : gx_M) (B : Nat) (C : Nat × Nat) (d : Nat) (g h L R : Nat → Nat) (gt lg rf : Nat) (V U : gx_M) : Prop := d < 8 ∧ V 1 3 = nI (d + 1) ∧ U 0 19 = nI d ∧ tw V U B lg rf ∧ tq V U B d g h L R ∧ bf V U B d (L d) (R d) ∧ lv (d + 1) L lg ∧ bd C (sg g d + gt) lg rf (d + 1) R ∧ fx V0 U0 V U
def tr (V0 U0 : gx_M) (B : Nat) (C : Nat × Nat) (d : Nat) (g h L R : Nat → Nat) (gt ht lg rf : Nat) (V U : gx_M) : Prop := tc V0 U0 B C d g h L R gt lg rf V U ∧ rn V U d gt ht
/-- the run is at its end -/
def te (V0 U0 : gx_M) (B : Nat) (C : Nat × Nat) (V U : gx_M) : Prop := ∃ lg rf r : Nat, tw V U B lg rf ∧ V 1 3 = nI 0 ∧ U 0 19 = nI 0 - 1 ∧ V 13 6 = nI r ∧ U 0 32 = nI r ∧ (V 13 10 = 0 ∨ V 13 10 = 1) ∧ U 0 33 = V 13 10 ∧ U 0 34 = V 13 11 ∧ bd C r lg rf 0 (fun _ => 0) ∧ fx V0 U0 V U
def nx (V0 U0 : gx_M) (B : Nat) (C : Nat × Nat) (m : Nat) (V U : gx_M) : Prop := (∃ (d : Nat) (g h L R : Nat → Nat) (gt ht lg rf : Nat), tr V0 U0 B C d g h L R gt ht lg rf V U ∧ sg g d + gt + d + 1 < m) ∨ te V0 U0 B C V U
theorem gx_uu (V : gx_M) (k p : Nat) (x y : Int32) : gx_u (gx_u V k p x) k p y = gx_u V k p y := by
  funext k' p'
  by_cases e : k' = k
  · subst e
    by_cases e2 : p' = p
    · subst e2; rw [gx_us, gx_us]
    · rw [gx_up e2, gx_up e2, gx_up e2]
  · rw [gx_uK e, gx_uK e, gx_uK e]
theorem obs {α : Type} (x : Option α) : (x.bind fun q => some q) = x := by cases x <;> rfl
theorem ge12 {k : Nat} (h : k < 12) : ¬ (12 : Int32) ≤ nI k := nI_ge (b := 12) h (by decide)
theorem popC {V : gx_M} {c h : Nat} (h0 : 0 < h) (h12 : h ≤ 12) (e : V c 8 = nI h) : F_Frm_pop c V = some (V (c + 1) (h - 1), gx_u V c 8 (nI (h - 1))) := by
  have e1 : nI h - (1 : Int32) = nI (h - 1) := pk_sub (b := 1) h0
  have e0 : (0 : Int32) < nI h := nI_lt (a := 0) h0 (by omega)
  have o : ∀ x, gx_u V c 8 x (c + 1) = V (c + 1) := fun x => gx_uK (by omega)
  unfold F_Frm_pop
  rw [e, if_pos e0, e1, gl, gx_us, ib_t (by omega) (by decide), nI_clamp (by omega), o]
theorem pushC {V : gx_M} {c h : Nat} (x : Int32) (h12 : h < 12) (e : V c 8 = nI h) : F_Frm_push c x V = some (gx_u (gx_u V (c + 1) h x) c 8 (nI (h + 1))) := by
  have o : gx_u V (c + 1) h x c = V c := gx_uK (by omega)
  unfold F_Frm_push
  rw [e, if_neg (ge12 h12), ib_t h12 (by decide), gl, gl, nI_clamp (by omega), o, e, nI_1]
theorem belC {V : gx_M} {c h k : Nat} (h12 : h ≤ 12) (hk : k < 2 ^ 29) (e : V c 8 = nI h) : F_Frm_below c (nI k) V = some (if k < h then V (c + 1) (h - 1 - k) else 0, V) := by
  unfold F_Frm_below
  rw [e]
  by_cases hkh : k < h
  · have e1 : nI h - (1 : Int32) - nI k = nI (h - 1 - k) := by rw [show nI h - (1 : Int32) = nI (h - 1) from pk_sub (b := 1) (by omega), pk_sub (by omega)]
    rw [e1, if_neg (nI_pos (by omega)), if_neg (nI_ge (by omega) (by omega)), ib_t (by omega) (by decide), nI_clamp (by omega), if_pos hkh]
  · have e1 : nI h - (1 : Int32) - nI k < 0 := by
      rw [show nI h - (1 : Int32) - nI k = nI h - nI (k + 1) from by rw [← nI_1, Int32.sub_sub, Int32.add_comm]]
      exact pk_sneg (by omega) (by omega)
    rw [if_pos e1, if_neg hkh]
theorem m12 (a : Nat) : (12 : Int32) * nI a = nI (12 * a) := pk_mul 12 a
theorem popM {U : gx_M} {d h : Nat} (hd : d < 8) (h0 : 0 < h) (h12 : h ≤ 12) (e : U 0 19 = nI d) (eh : U 13 d = nI h) : F_Mod_pop 0 U = some (U 14 (12 * d + (h - 1)), gx_u U 13 d (nI (h - 1))) := by
  have e1 : nI h - (1 : Int32) = nI (h - 1) := pk_sub (b := 1) h0
  have o : ∀ x, gx_u U 13 d x 0 = U 0 := fun x => gx_uK (by decide)
  have o2 : ∀ x, gx_u U 13 d x 14 = U 14 := fun x => gx_uK (by decide)
  unfold F_Mod_pop
  simp only [e, ib_t hd (show 8 < 2 ^ 31 by decide), nI_clamp (show d < 2 ^ 31 by omega), Nat.zero_add, eh, e1, gl, o, o2, gx_us, m12, nI_add, ib_t (show 12 * d + (h - 1) < 96 by omega) (show 96 < 2 ^ 31 by decide), nI_clamp (show 12 * d + (h - 1) < 2 ^ 31 by omega)]
theorem pushM {U : gx_M} {d h : Nat} (x : Int32) (hd : d < 8) (h12 : h < 12) (e : U 0 19 = nI d) (eh : U 13 d = nI h) : F_Mod_push 0 x U = some (gx_u (gx_u U 14 (12 * d + h) x) 13 d (nI (h + 1))) := by
  have o : ∀ p x, gx_u U 14 p x 0 = U 0 := fun p x => gx_uK (by decide)
  have o2 : ∀ p x, gx_u U 14 p x 13 = U 13 := fun p x => gx_uK (by decide)
  unfold F_Mod_push
  simp only [e, ib_t hd (show 8 < 2 ^ 31 by decide), nI_clamp (show d < 2 ^ 31 by omega), Nat.zero_add, eh, gl, o, o2, m12, nI_add, ib_t (show 12 * d + h < 96 by omega) (show 96 < 2 ^ 31 by decide), nI_clamp (show 12 * d + h < 2 ^ 31 by omega), nI_1]
theorem pekM {U : gx_M} {d h k : Nat} (hd : d < 8) (h12 : h ≤ 12) (hk : k < 2 ^ 29) (e : U 0 19 = nI d) (eh : U 13 d = nI h) : F_Mod_peek 0 (nI k) U = some (if k < h then U 14 (12 * d + (h - 1 - k)) else 0, U) := by
  unfold F_Mod_peek
  simp only [e, ib_t hd (show 8 < 2 ^ 31 by decide), nI_clamp (show d < 2 ^ 31 by omega), Nat.zero_add, eh, nlt0 (show k < 2 ^ 31 by omega), if_false]
  by_cases hkh : k < h
  · have e1 : (12 : Int32) * nI d + nI h - 1 - nI k = nI (12 * d + (h - 1 - k)) := by
      rw [m12, nI_add, show nI (12 * d + h) - (1 : Int32) = nI (12 * d + h - 1) from pk_sub (b := 1) (by omega), pk_sub (by omega)]; congr 1; omega
    rw [e1, if_neg (nI_ge hkh (by omega)), ib_t (by omega) (by decide), nI_clamp (by omega), if_pos hkh]
  · rw [if_pos (nI_le (by omega) (by omega)), if_neg hkh]
