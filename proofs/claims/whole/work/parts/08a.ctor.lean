/-! Constructors: worlds as lists that grow at the end; the next address is known. -/
theorem tb_oi : Cond.code Lib.objectInit ⟨#[0xb1]⟩ 1 none ∈ cx_tb := gx_tb 61 (by decide +kernel) (by decide +kernel)
def gz_X (s : State) : Prop := va_AO "GasLedger$Frame" s
/-- n cells from cell k on, as they are in the end -/
abbrev gz_L (sh : Nat → (Nat → Int32) → va_E) (b k n : Nat) (V : gx_M) : va_W := gx_w (b + k) n (fun j => sh (k + j) (V (k + j)))
def gz_Q (D : va_G) (cl : List vw_C) (sh : Nat → (Nat → Int32) → va_E) (b k n : Nat) (V : gx_M) (e0 : va_E) : Array Value → State → Outcome → State → Prop := fun _ st oc t =>
  oc = .returned none ∧ va_P D cl (gz_L sh b k n V) t.heap ∧ t.heap.size = b + (k + n) ∧ va_F (va_A [(b + k, e0)] (b + (k + 1))) st t
def gz_C (l : Launch) (y : MethodName) (ws : List Cond) (rm : Room) (D : va_G) (cl : List vw_C) (tys : List (ClassId × FieldType)) (sh : Nat → (Nat → Int32) → va_E) (b k n ms : Nat) (V : gx_M) (e0 : va_E) : Prop :=
  Met l y ws rm (va_Pc [.ref (b + k)] (fun U => U.heap.size = b + (k + 1) ∧ va_P D cl [(b + k, e0)] U.heap ∧ va_K D cl tys U ∧ gz_X U)) (gz_Q D cl sh b k n V e0) (n - 1) ms (va_A [(b + k, e0)] (b + (k + 1)))
theorem gz_ext {D : va_G} {cl : List vw_C} {cA : ClassId} {n a : Nat} {f g : Nat → Option Nat} {H : Heap} (h : ∀ j, j < n → f j = g j) (hP : va_at D cl (a, .inl (cA, n, .inr (.inr (.inr (.inr f))))) H) : va_at D cl (a, .inl (cA, n, .inr (.inr (.inr (.inr g))))) H := by
  have e : vp_cell cA (n, .inr (.inr (.inr (.inr f)))) = vp_cell cA (n, .inr (.inr (.inr (.inr g)))) := by
    rw [vp_cell_q, vp_cell_q]
    unfold arrV
    congr 2
    funext j
    show va_rf (f j.1) = va_rf (g j.1)
    rw [h j.1 j.2]
  show H[a]? = some (vp_cell cA (n, .inr (.inr (.inr (.inr g)))))
  rw [← e]
  exact hP
theorem gz_ai (N : Nat) (cA : ClassId) : vp_cell cA (N, .inl (fun _ => 0)) = arrV cA N (fun _ => defaultValue (newarray.typeOf .int)) := rfl
theorem gz_az (N : Nat) (cA : ClassId) : vp_cell cA (N, .inl (fun _ => 0)) = arrV cA N (fun _ => defaultValue (newarray.typeOf .boolean)) := rfl
theorem gz_ra {s : State} {cA : ClassId} {C : String} (h : va_RA s cA (.object C)) : s.vm.findClass ("[" ++ (FieldType.object C).toString) = some cA := by
  obtain ⟨kA, comp, -, -, -, h4⟩ := h
  exact h4
theorem gz_fin {D : va_G} {cl : List vw_C} {b n : Nat} {w : Nat → va_E} {H : Heap} (h : ∀ j, j < n → va_at D cl (b + j, w j) H) : va_P D cl (gx_w b n w) H := by
  intro k q hq
  obtain ⟨hk, rfl⟩ := gx_get hq
  exact h k hk
theorem sh_hit {ws : va_W} {i a : Nat} {e e' : va_E} (h : ws[i]? = some (a, e)) (he : e = e') : ws[i]? = some (a, e') := he ▸ h
theorem gz_D1 {a : Nat} {e : va_E} {A : Nat → Prop} (h : A a) : va_D A [(a, e)] := by
  constructor
  · intro i j x y hx hy _
    have h1 := (List.getElem?_eq_some_iff.mp hx).1
    have h2 := (List.getElem?_eq_some_iff.mp hy).1
    simp at h1 h2
    omega
  · intro k q hq
    have h1 := (List.getElem?_eq_some_iff.mp hq).1
    have h2 : k = 0 := by simp at h1; omega
    subst h2
    cases hq
    exact h
theorem gx_len {b n : Nat} {w : Nat → va_E} : (gx_w b n w).length = n := by simp [gx_w]
theorem gz_app {sh : Nat → (Nat → Int32) → va_E} {b k n m : Nat} {V : gx_M} : gz_L sh b k n V ++ gz_L sh b (k + n) m V = gz_L sh b k (n + m) V := by
  show gx_w _ _ _ ++ gx_w _ _ _ = gx_w _ _ _
  unfold gx_w
  rw [List.range_add, List.map_append, List.map_map]
  congr 1
  apply List.map_congr_left
  intro j _
  show (b + (k + n) + j, sh (k + n + j) (V (k + n + j))) = (b + k + (n + j), sh (k + (n + j)) (V (k + (n + j))))
  rw [show b + (k + n) + j = b + k + (n + j) by omega, show k + n + j = k + (n + j) by omega]
theorem gz_nm {sh : Nat → (Nat → Int32) → va_E} {b k n m k1 n1 : Nat} {V V1 : gx_M} {o f : Nat × va_E} : (o :: (gz_L sh b k1 n1 V1 ++ (f :: gz_L sh b k n V))) ++ gz_L sh b (k + n) m V = o :: (gz_L sh b k1 n1 V1 ++ (f :: gz_L sh b k (n + m) V)) := by
  rw [← gz_app (n := n) (m := m)]
  simp only [List.cons_append, List.append_assoc]
theorem gz_at11 {sh : Nat → (Nat → Int32) → va_E} {b k : Nat} {V : gx_M} {o f : Nat × va_E} {T : va_W} : (o :: (gz_L sh b k 10 V ++ (f :: T)))[11]? = some f := by
  show (gz_L sh b k 10 V ++ (f :: T))[10]? = some f
  rw [List.getElem?_append_right (by rw [gx_len]; exact Nat.le_refl _), gx_len]
  rfl
theorem gz_set11 {sh : Nat → (Nat → Int32) → va_E} {b k : Nat} {V : gx_M} {o f g : Nat × va_E} {T : va_W} : (o :: (gz_L sh b k 10 V ++ (f :: T))).set 11 g = o :: (gz_L sh b k 10 V ++ (g :: T)) := by
  show o :: (gz_L sh b k 10 V ++ (f :: T)).set 10 g = _
  rw [List.set_append_right _ _ (by rw [gx_len]; exact Nat.le_refl _), gx_len]
  rfl
theorem gz_l {D : va_G} {cl : List vw_C} {A B : va_W} {H : Heap} (h : va_P D cl (A ++ B) H) : va_P D cl A H := fun k q hk => h k q (by rw [List.getElem?_append_left (List.getElem?_eq_some_iff.mp hk).1]; exact hk)
theorem gz_r {D : va_G} {cl : List vw_C} {A B : va_W} {H : Heap} (h : va_P D cl (A ++ B) H) : va_P D cl B H := fun k q hk => h (A.length + k) q (by rw [List.getElem?_append_right (by omega), Nat.add_sub_cancel_left]; exact hk)
theorem gz_c {D : va_G} {cl : List vw_C} {x : Nat × va_E} {B : va_W} {H : Heap} (h : va_P D cl (x :: B) H) : va_P D cl B H := fun k q hk => h (k + 1) q hk
theorem gz_h {D : va_G} {cl : List vw_C} {x : Nat × va_E} {B : va_W} {H : Heap} (h : va_P D cl (x :: B) H) : va_at D cl x H := h 0 x rfl
theorem gz_i {D : va_G} {cl : List vw_C} {sh : Nat → (Nat → Int32) → va_E} {b k n : Nat} {V : gx_M} {H : Heap} (h : va_P D cl (gz_L sh b k n V) H) {i : Nat} (j : Nat) (hj : j < n) (hi : k + j = i) : va_at D cl (b + i, sh i (V i)) H := by
  subst hi
  have h1 := h j _ (gx_at hj rfl)
  rw [Nat.add_assoc] at h1
  exact h1
section GZ
variable {p : Program} {l : Launch} {e : Env} {R : Room} {s : State} {m : MethodId} {args : Array Value} {below : List Frame} {meth : Method} {c : Code} {H : Heap} {locs : List Loc} {cells slots : Nat} {Q : State → Prop}
variable {cc : ByteArray} {pc : Nat} {ls : Array Slot} {rest st0 : List Value} {D : va_G} {cl : List vw_C} {tys : List (ClassId × FieldType)} {H0 : Heap} {A : Nat → Prop} {ws wr : va_W}
theorem gz_newa (hexec : p.tables.exec = Jvm.exec) (hb : c.code = cc) {atype : ArrayType} (harr : (Cond.arrayClass (newarray.typeOf atype)).before args s = true) {cI : ClassId} (hra : s.vm.findClass ("[" ++ (newarray.typeOf atype).toString) = some cI) (hP : va_P D cl ws H) (hD : va_D A ws) (hS : va_S A H0 H locs) (hA : ∀ q, H0.size ≤ q → A q)
    {n : Int32} {N' : Nat} {a0 : vp_A} (ha : ∀ cA : ClassId, vp_cell cA a0 = arrV cA N' (fun _ => defaultValue (newarray.typeOf atype))) (hn : ¬ n < 0) (hN : n.toNatClampNeg = N') (hbytes : N' * componentBytes (newarray.typeOf atype) ≤ 536870912) (hcells : cells + 1 ≤ R.cells) (hslots : slots + N' ≤ R.slots) {z : Nat} (hz : H.size = z) (hdg : decode cc pc = .ok (.newarray atype, 2))
    (kk : ∀ (H1 : Heap), va_P D cl (ws ++ [(z, .inl (cI, a0))]) H1 → va_D A (ws ++ [(z, .inl (cI, a0))]) → va_S A H0 H1 locs → H1.size = z + 1 →
      W p l e R s m args below meth c H1 locs (cells + 1) (slots + N') Q (F0 m (pc + 2) ls (.ref z :: rest))) : W p l e R s m args below meth c H locs cells slots Q (F0 m pc ls (.int n :: rest)) := by
  subst hz
  refine va_newaK hexec hb harr rfl hdg rfl hn hN hbytes hcells hslots rfl fun H1 cA e1 z1 o1 hAr hNm => ?_
  have hc : cA = cI := Option.some.inj (hNm.symm.trans hra)
  subst hc
  have hk : ∀ (k : Nat) (x : Nat × va_E), ws[k]? = some x → H1[x.1]? = H[x.1]? := fun k x hx => o1 x.1 ((hP k x hx).lt)
  refine kk H1 ((hP.kept hk).app (fun k x hx => ?_)) (hD.push hP rfl (hA _ hS.1)) ⟨Nat.le_trans hS.1 (by omega), fun x h1 h2 => (o1 x (Nat.lt_of_lt_of_le h1 hS.1)).trans (hS.2.1 x h1 h2), hS.2.2⟩ z1
  have hz : k < 1 := (List.getElem?_eq_some_iff.mp hx).1
  rw [show k = 0 by omega] at hx
  cases hx
  show H1[H.size]? = some (vp_cell _ _)
  rw [ha]
  exact e1
theorem gz_new {c0 : Code} (hexec : p.tables.exec = Jvm.exec) (hb : c0.code = cc) {own C : String} {T : u_T} {N ci index : Nat} {Ts : List Cond} (hts : ∀ w ∈ Ts, w.before args s = true) (hin : ∀ w ∈ u_ws C T N, w ∈ Ts) (ty : Nat → FieldType) (hty : ∀ k, k < N → parseFieldDescriptor (T k).2.2.1 = some (ty k)) (hown : s.vm.findClass own = some m.cls) (hcl : (Cond.classLink own index C).before args s = true) (hinst : (Cond.instantiable C N).before args s = true) (hini : (Cond.initialized C).before args s = true)
    (hK : va_K D cl tys s) (hP : va_P D cl ws H) (hD : va_D A ws) (hS : va_S A H0 H locs) (hA : ∀ q, H0.size ≤ q → A q) (hc : cl[ci]? = some (C, T, N)) {fs : List Value} (hfs : ∀ j, j < N → defaultValue (ty j) = vp_V fs j) (hcells : cells + 1 ≤ R.cells) (hslots : slots + N ≤ R.slots) {z : Nat} (hz : H.size = z) (hdg : decode cc pc = .ok (.new index, 3))
    (kk : ∀ (H1 : Heap), va_P D cl (ws ++ [(z, .inr (ci, fs))]) H1 → va_D A (ws ++ [(z, .inr (ci, fs))]) → va_S A H0 H1 locs → H1.size = z + 1 →
      W p l e R s m args below meth c0 H1 locs (cells + 1) (slots + N) Q (F0 m (pc + 3) ls (.ref z :: rest))) : W p l e R s m args below meth c0 H locs cells slots Q (F0 m pc ls rest) := by
  subst hz
  have hKn := hK.1 ci _ hc
  refine W.newcK hexec hb hown hcl hinst hini rfl hdg hcells hslots hKn.2.1 rfl fun H1 kC hkC e1 z1 o1 => ?_
  have hk : ∀ (k : Nat) (x : Nat × va_E), ws[k]? = some x → H1[x.1]? = H[x.1]? := fun k x hx => o1 x.1 ((hP k x hx).lt)
  refine kk H1 ((hP.kept hk).app (fun k x hx => ?_)) (hD.push hP rfl (hA _ hS.1)) ⟨Nat.le_trans hS.1 (by omega), fun x h1 h2 => (o1 x (Nat.lt_of_lt_of_le h1 hS.1)).trans (hS.2.1 x h1 h2), hS.2.2⟩ z1
  have hz : k < 1 := (List.getElem?_eq_some_iff.mp hx).1
  rw [show k = 0 by omega] at hx
  cases hx
  exact ⟨_, hc, (u_born ty hts hin hKn hkC e1 hty).to hfs⟩
theorem gz_anew (hexec : p.tables.exec = Jvm.exec) (hb : c.code = cc) {own C : String} {index : Nat} (hown : s.vm.findClass own = some m.cls) (hclink : (Cond.classLink own index C).before args s = true) (hover : va_AO C s) {cR : ClassId} (hra : s.vm.findClass ("[" ++ (FieldType.object C).toString) = some cR) (hP : va_P D cl ws H) (hD : va_D A ws) (hS : va_S A H0 H locs) (hA : ∀ q, H0.size ≤ q → A q)
    {n : Int32} {N' : Nat} (hn : ¬ n < 0) (hN : n.toNatClampNeg = N') (hbytes : N' * 4 ≤ 536870912) (hcells : cells + 1 ≤ R.cells) (hslots : slots + N' ≤ R.slots) {z : Nat} (hz : H.size = z) (hdg : decode cc pc = .ok (.anewarray index, 3))
    (kk : ∀ (H1 : Heap), va_P D cl (ws ++ [(z, .inl (cR, N', .inr (.inr (.inr (.inr (fun _ => none))))))]) H1 → va_D A (ws ++ [(z, .inl (cR, N', .inr (.inr (.inr (.inr (fun _ => none))))))]) → va_S A H0 H1 locs → H1.size = z + 1 →
      W p l e R s m args below meth c H1 locs (cells + 1) (slots + N') Q (F0 m (pc + 3) ls (.ref z :: rest))) : W p l e R s m args below meth c H locs cells slots Q (F0 m pc ls (.int n :: rest)) := by
  subst hN
  subst hz
  refine W.anew hexec hb hown hclink (va_AO.use hover) rfl hdg rfl hn hbytes hcells hslots fun cA kA comp f1 f2 f3 f4 => ?_
  have hc : cA = cR := Option.some.inj (f1.symm.trans hra)
  subst hc
  generalize hH1 : H.push ({ cls := cA, slots := Array.replicate n.toNatClampNeg .null, vm := .none } : Cell) = H1
  have z1 : H1.size = H.size + 1 := by rw [← hH1, Array.size_push]
  have e1 : H1[H.size]? = some (arrV cA n.toNatClampNeg (fun _ => .null)) := by rw [← hH1, Array.getElem?_push_size, ← arrV_new]
  have o1 : ∀ q : Nat, q < H.size → H1[q]? = H[q]? := fun q hq => by rw [← hH1, Array.getElem?_push, if_neg (Nat.ne_of_lt hq)]
  have hk : ∀ (k : Nat) (x : Nat × va_E), ws[k]? = some x → H1[x.1]? = H[x.1]? := fun k x hx => o1 x.1 ((hP k x hx).lt)
  refine kk H1 ((hP.kept hk).app (fun k x hx => ?_)) (hD.push hP rfl (hA _ hS.1)) ⟨Nat.le_trans hS.1 (by omega), fun x h1 h2 => (o1 x (Nat.lt_of_lt_of_le h1 hS.1)).trans (hS.2.1 x h1 h2), hS.2.2⟩ z1
  have hz : k < 1 := (List.getElem?_eq_some_iff.mp hx).1
  rw [show k = 0 by omega] at hx
  cases hx
  show H1[H.size]? = some (vp_cell _ _)
  rw [vp_cell_q]
  exact e1
/-- a field of the head cell is written: the size stays -/
theorem gz_fld {a k N ci : Nat} {C : String} {T : u_T} {fs : List Value} {v : Value} {f : Field} {cell : Cell} {H1 : Heap} {wt : va_W} (hP : va_P D cl ((a, .inr (ci, fs)) :: wt) H) (hD : va_D A ((a, .inr (ci, fs)) :: wt)) (hc : cl[ci]? = some (C, T, N)) (hap : ∀ x y, x < N → y < N → x ≠ y → (D.2 ci) x ≠ (D.2 ci) y) (hk : k < N) (hl : k < fs.length) (hsl : f.slot = (D.2 ci) k)
    (q2 : cell.cls = D.1 ci) (q3 : cell.vm = .none) (q4 : ∀ j, j < N → cell.slots[(D.2 ci) j]? = some (vp_V fs j)) (e1 : H1[a]? = some (cell.setSlot f.slot v)) (e3 : ∀ q, q ≠ a → H1[q]? = H[q]?) : va_P D cl ((a, .inr (ci, fs.set k v)) :: wt) H1 ∧ va_D A ((a, .inr (ci, fs.set k v)) :: wt) := by
  have he : (((a, .inr (ci, fs)) :: wt) : va_W)[0]? = some (a, .inr (ci, fs)) := rfl
  rw [hsl] at e1
  exact ⟨hP.set hD he ⟨_, hc, t_OB.to (V := updV (vp_V fs) k v) ⟨_, e1, q2, q3, t_set q4 hap hk v⟩ (fun j _ => vp_updV_set hl v j)⟩ e3, hD.set he⟩
theorem gz_put (hexec : p.tables.exec = Jvm.exec) (hb : c.code = cc) {own C : String} {T : u_T} {N ci index a z : Nat} {Ts : List Cond} {wt : va_W} (hts : ∀ w ∈ Ts, w.before args s = true) (hin : ∀ w ∈ u_ws C T N, w ∈ Ts) (ty0 : Nat → FieldType) (hty : ∀ k, k < N → parseFieldDescriptor (T k).2.2.1 = some (ty0 k)) (hnm : ∀ a, a < N → ∀ b, b < N → a ≠ b → (T a).2.1 ≠ (T b).2.1) (hown : s.vm.findClass own = some m.cls) (hK : va_K D cl tys s) {fs : List Value} (hws : ws = (a, .inr (ci, fs)) :: wt) (hP : va_P D cl ws H) (hD : va_D A ws) (hS0 : va_S A H0 H locs) (hz : H.size = z) (hc : cl[ci]? = some (C, T, N)) (k : Nat) (hk : k < N) (hlink : (Cond.fieldLink own index (T k).1 (T k).2.1 (T k).2.2.1).before args s = true) (hdecl : (T k).1 = own) (hini : meth.name = "<init>") {ty : FieldType} {v : Value} (hd : parseFieldDescriptor (T k).2.2.1 = some ty) (hn : narrow ty v = v) (hfit : fits ty v = true) (hl : k < fs.length) {fs' : List Value} (hfs : fs.set k v = fs')
    (hdg : decode cc pc = .ok (.putfield index, 3)) (kk : ∀ (H1 : Heap) (locs1 : List Loc), va_P D cl ((a, .inr (ci, fs')) :: wt) H1 → va_D A ((a, .inr (ci, fs')) :: wt) → va_S A H0 H1 locs1 → H1.size = z → W p l e R s m args below meth c H1 locs1 cells slots Q (F0 m (pc + 3) ls rest)) : W p l e R s m args below meth c H locs cells slots Q (F0 m pc ls (v :: .ref a :: rest)) := by
  subst hws
  subst hfs
  have hap := va_apart (own := own) hts hin ty0 hty hnm hK hc
  obtain ⟨r, h1, cell, q1, q2, q3, q4⟩ := hP 0 _ rfl
  have hr : r = (C, T, N) := Option.some.inj (h1.symm.trans hc)
  subst hr
  obtain ⟨hS, hfc, kC, hkC, hkind⟩ := hK.1 ci _ hc
  obtain ⟨cf, kf, fi, f, hi, hsl⟩ := hS k hk
  have hlay := hts _ (hin _ (u_in_lay hk))
  have hst := (u_facts hfc hkC (u_lays hts hin hk) hi).1
  have hlt : f.slot < cell.slots.size := by rw [hsl]; exact k2_hasslot (q4 k hk)
  have hA : A a := hD.2 0 _ rfl
  by_cases hfin : (T k).2.2.2 = true
  · unfold u_lay at hlay
    rw [if_pos hfin] at hlay
    have hcf : m.cls = cf := by
      obtain ⟨_, _, c', _, _, _, -, -, hf', -, -, -, hown2, -⟩ := Cond.laysFinal_spec hlay
      have e1 : c' = cf := by have := hi.symm.trans hf'; simp at this; exact this.1.symm
      rw [hdecl] at hown2
      rw [← e1]; exact Option.some.inj (hown.symm.trans hown2)
    refine W.putFinK hexec hb hown hlink hi hst hcf hini (by rw [q2]; exact u_fits hfc hkC hkind (Or.inr hlay) hi hd hn hfit) q1 q3 hlt rfl rfl hdg fun H' e1 e2 e3 => ?_
    obtain ⟨g1, g2⟩ := gz_fld hP hD hc hap hk hl hsl q2 q3 q4 e1 e3
    exact kk H' _ g1 g2 (hS0.put e2 e3 hA) (e2.trans hz)
  · unfold u_lay at hlay
    rw [if_neg hfin] at hlay
    refine W.putK hexec hb (f := f) ⟨hown, hlink, ⟨_, _, _, hi⟩, hst⟩ (by rw [q2]; exact u_store hfc hkC hkind hlay hi hd hn hfit) q1 q3 hlt rfl rfl hdg fun H' e1 e2 e3 => ?_
    obtain ⟨g1, g2⟩ := gz_fld hP hD hc hap hk hl hsl q2 q3 q4 e1 e3
    exact kk H' _ g1 g2 (hS0.put e2 e3 hA) (e2.trans hz)
theorem gz_ast (hexec : p.tables.exec = Jvm.exec) (hb : c.code = cc) (hK : va_K D cl tys s) (hP : va_P D cl ws H) (hD : va_D A ws) (hS : va_S A H0 H locs) {z : Nat} (hz : H.size = z) (q0 t0 ci : Nat) {a : Nat} {cA : ClassId} {r : vw_C} {n v : Nat} {vs : List Value} {f : Nat → Option Nat} (ha : ws[q0]? = some (a, .inl (cA, n, .inr (.inr (.inr (.inr f)))))) (ht : tys[t0]? = some (cA, .object r.1)) (hv : va_at D cl (v, .inr (ci, vs)) H) (hc : cl[ci]? = some r) {i : Int32} (hin : vp_in i n) (hdg : decode cc pc = .ok (.aastore, 1))
    (kk : ∀ (H1 : Heap) (locs1 : List Loc), va_P D cl (ws.set q0 (a, .inl (cA, n, .inr (.inr (.inr (.inr (va_up f i.toNatClampNeg (some v)))))))) H1 → va_D A (ws.set q0 (a, .inl (cA, n, .inr (.inr (.inr (.inr (va_up f i.toNatClampNeg (some v)))))))) → va_S A H0 H1 locs1 → H1.size = z → W p l e R s m args below meth c H1 locs1 cells slots Q (F0 m (pc + 1) ls rest)) : W p l e R s m args below meth c H locs cells slots Q (F0 m pc ls (.ref v :: .int i :: .ref a :: rest)) := by
  have hlt : i.toNatClampNeg < n := Nat.not_le.mp fun q => hin (Or.inr q)
  obtain ⟨r', hr', cellV, g1, g2, g3, -⟩ := hv
  have hcls := (hK.1 ci r hc).2
  obtain ⟨kA, comp, k1, k2, k3, -⟩ := (hK.2 t0 _ ht).2
  have hcomp : comp = D.1 ci := Option.some.inj (k3.symm.trans hcls.1)
  subst hcomp
  obtain ⟨kC, hkC, -⟩ := hcls.2
  refine W.aast hexec hb (hP q0 _ ha) (fun q h => by cases h) (fun h => by cases h) k1 k2 rfl hkC ⟨fun q => hin (Or.inl q), by show _ < (arrV _ _ _).slots.size; rw [arrV_size]; exact hlt⟩ g1 (fun q h => by rw [g3] at h; cases h) (by rw [g2]; exact hkC) (by rw [g2]; exact va_assign hcls) rfl rfl hdg fun H1 e z1 oq => ?_
  refine kk H1 _ (hP.set hD ha ?_ oq) (hD.set ha) (hS.put z1 oq (hD.2 q0 _ ha)) (z1.trans hz)
  show H1[a]? = some (vp_cell _ _)
  rw [e, vp_cell_q, vp_cell_q, arrV_store]
  congr 2
  funext q
  by_cases hq : q = i.toNatClampNeg
  · subst hq
    simp [updV, va_up, va_rf]
  · simp [updV, va_up, hq]
/-- behind a constructor's call on the last cell -/
theorem gz_call {sh : Nat → (Nat → Int32) → va_E} {b k n mc ms z : Nat} {V : gx_M} {e0 : va_E} {a : Array Value} (hr : va_Run p l e R s m args below meth c H locs cells slots mc ms (F0 m pc ls st0) rest (gz_Q D cl sh b k n V e0 a) (va_A [(b + k, e0)] (b + (k + 1)))) (hP : va_P D cl (wr ++ [(b + k, e0)]) H) (hD : va_D A (wr ++ [(b + k, e0)])) (hS : va_S A H0 H locs) (hA : ∀ q, H0.size ≤ q → A q) (hz : H.size = b + (k + 1)) (hz2 : b + (k + n) = z)
    (kk : ∀ (H1 : Heap) (locs1 : List Loc), va_P D cl (wr ++ gz_L sh b k n V) H1 → va_D A (wr ++ gz_L sh b k n V) → va_S A H0 H1 locs1 → H1.size = z → W p l e R s m args below meth c H1 locs1 (cells + mc) (slots + ms) Q (F0 m (pc + 3) ls rest)) : W p l e R s m args below meth c H locs cells slots Q (F0 m pc ls st0) := by
  intro T hT XX
  obtain ⟨v, st₀, t, T', L, h0, X', hL, e1, -, ⟨hv, hp, hzz, hle, hk⟩, st⟩ := hr T hT XX
  cases hv
  rw [h0] at hle hk
  rw [← e1] at hp hle hk hzz
  have hlast : (wr ++ [(b + k, e0)])[wr.length]? = some (b + k, e0) := by simp
  have hAk : A (b + k) := hD.2 _ _ hlast
  have hsub : ∀ q, va_A [(b + k, e0)] (b + (k + 1)) q → A q := by
    intro q hq
    rcases hq with ⟨i, e, hi⟩ | hq
    · have h1 := (List.getElem?_eq_some_iff.mp hi).1
      have h2 : i = 0 := by simp at h1; omega
      subst h2
      cases hi
      exact hAk
    · exact hA q (Nat.le_trans hS.1 (by rw [hz]; exact hq))
  have hwr : ∀ (i : Nat) (q : Nat × va_E), wr[i]? = some q → (wr ++ [(b + k, e0)])[i]? = some q := fun i q hi => by
    rw [List.getElem?_append_left (List.getElem?_eq_some_iff.mp hi).1]; exact hi
  have apart : ∀ (i : Nat) (q : Nat × va_E), wr[i]? = some q → q.1 < H.size ∧ ¬ va_A [(b + k, e0)] (b + (k + 1)) q.1 := by
    intro i q hi
    have hl := (hP i q (hwr i q hi)).lt
    refine ⟨hl, fun h => ?_⟩
    rcases h with ⟨j, e, hj⟩ | h
    · have h1 := (List.getElem?_eq_some_iff.mp hj).1
      have h2 : j = 0 := by simp at h1; omega
      subst h2
      have h3 : q.1 = b + k := by
        have h9 : (b + k, e0) = (q.1, e) := Option.some.inj hj
        exact (congrArg Prod.fst h9).symm
      have h4 := hD.1 i wr.length q (b + k, e0) (hwr i q hi) hlast h3
      have h5 := (List.getElem?_eq_some_iff.mp hi).1
      omega
    · omega
  have hDL : va_D (va_A [(b + k, e0)] (b + (k + 1))) (gz_L sh b k n V) := (gx_D (b := b + k) (N := n)).weaken (fun i q _ h => by
    by_cases hq : q.1 = b + k
    · exact Or.inl ⟨0, e0, by rw [hq]; rfl⟩
    · exact Or.inr (by have := h.1; omega))
  obtain ⟨t2, a1, b1⟩ := kk T'.heap (locs ++ L) (va_P.app (fun i q hi => (hP i q (hwr i q hi)).kept (hk q.1 (apart i q hi).1 (apart i q hi).2)) hp)
    (va_D.app ⟨fun i j x y hx hy hxy => hD.1 i j x y (hwr i x hx) (hwr j y hy) hxy, fun i x hx => hD.2 i x (hwr i x hx)⟩ (hDL.weaken (fun i q _ h => hsub q.1 h)) (fun i j x y hx hy hxy => (apart i x hx).2 (by rw [hxy]; exact hDL.2 j y hy)))
    ⟨Nat.le_trans hS.1 hle, fun q h1 h2 => by rw [hk q (Nat.lt_of_lt_of_le h1 hS.1) (fun z => h2 (hsub q z))]; exact hS.2.1 q h1 h2, fun q hq => by
      rcases List.mem_append.mp hq with h | h
      · exact hS.2.2 q h
      · exact hsub _ (hL q h)⟩ (hzz.trans hz2) T' rfl X'
  exact ⟨t2, st t2 a1, b1⟩
theorem gz_pre {b k : Nat} {e0 : va_E} (hK : va_K D cl tys s) (hX : gz_X s) (hP : va_P D cl (wr ++ [(b + k, e0)]) H) (hz : H.size = b + (k + 1)) : PreS s H (va_Pc [.ref (b + k)] (fun U => U.heap.size = b + (k + 1) ∧ va_P D cl [(b + k, e0)] U.heap ∧ va_K D cl tys U ∧ gz_X U)) [.ref (b + k)] :=
  ⟨fun a U g mk q => ⟨q.1, q.2.1, q.2.2.1, va_K.moved (u := U) (U := U.calling g mk a) (Vm.Alike.refl U.vm) q.2.2.2.1, va_AO.moved (u := U) (U := U.calling g mk a) (Vm.Alike.refl U.vm) q.2.2.2.2⟩, fun U hU hW => ⟨rfl, by rw [hU]; exact hz, by
    rw [hU]
    intro i q hi
    have h1 := (List.getElem?_eq_some_iff.mp hi).1
    have h2 : i = 0 := by simp at h1; omega
    subst h2
    cases hi
    exact hP wr.length _ (by simp), va_K.moved hW.alike hK, va_AO.moved hW.alike hX⟩⟩
end GZ
/-- the memories at the start: zeros, but for the usual terms -/
def cx_V0 : gx_M := fun k => match k with
  | 0 => fun p => match p with
    | 3 => 200
    | 4 => 1
    | _ => 0
  | _ + 1 => fun _ => 0
def mx_V0 : gx_M := fun k => match k with
  | 0 => fun p => match p with
    | 16 => 200
    | 17 => 1
    | _ => 0
  | _ + 1 => fun _ => 0
