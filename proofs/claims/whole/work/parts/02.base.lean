/-! Worlds that lie side by side: cell k at address b + k, and what the cells hold as a memory of ints V k p. -/
def gx_w (b N : Nat) (w : Nat → va_E) : va_W := (List.range N).map fun k => (b + k, w k)
theorem gx_at {b N : Nat} {w : Nat → va_E} {k : Nat} {e : va_E} (hk : k < N) (he : w k = e) : (gx_w b N w)[k]? = some (b + k, e) := by
  subst he
  simp [gx_w, hk]
theorem gx_get {b N : Nat} {w : Nat → va_E} {k : Nat} {q : Nat × va_E} (h : (gx_w b N w)[k]? = some q) : k < N ∧ q = (b + k, w k) := by
  have hk : k < N := by
    have h1 := (List.getElem?_eq_some_iff.mp h).1
    simpa [gx_w] using h1
  exact ⟨hk, Option.some.inj (h.symm.trans (gx_at (b := b) (w := w) hk rfl))⟩
theorem gx_set {b N : Nat} {w : Nat → va_E} {k : Nat} (e : va_E) : (gx_w b N w).set k (b + k, e) = gx_w b N (va_up w k e) := by
  apply List.ext_getElem?
  intro j
  by_cases hj : j < N
  · rw [gx_at (w := va_up w k e) hj rfl, List.getElem?_set]
    by_cases hkj : k = j
    · subst hkj
      simp [gx_w, hj, va_up]
    · rw [if_neg hkj, gx_at (w := w) hj rfl]
      simp [va_up, Ne.symm hkj]
  · have h1 : ((gx_w b N w).set k (b + k, e)).length ≤ j := by simp [gx_w]; omega
    have h2 : (gx_w b N (va_up w k e)).length ≤ j := by simp [gx_w]; omega
    rw [List.getElem?_eq_none h1, List.getElem?_eq_none h2]
def gx_A (b N : Nat) : Nat → Prop := fun q => b ≤ q ∧ q < b + N
theorem gx_D {b N : Nat} {w : Nat → va_E} : va_D (gx_A b N) (gx_w b N w) := by
  constructor
  · intro i j x y hx hy hxy
    obtain ⟨-, rfl⟩ := gx_get hx
    obtain ⟨-, rfl⟩ := gx_get hy
    exact Nat.add_left_cancel hxy
  · intro k x hx
    obtain ⟨hk, rfl⟩ := gx_get hx
    exact ⟨Nat.le_add_right _ _, Nat.add_lt_add_left hk _⟩
/-- a memory of ints: place p of cell k -/
abbrev gx_M : Type := Nat → Nat → Int32
def gx_v (sh : Nat → (Nat → Int32) → va_E) (V : gx_M) : Nat → va_E := fun k => sh k (V k)
def gx_u (V : gx_M) (k p : Nat) (x : Int32) : gx_M := va_up V k (upd (V k) p x)
theorem gx_vset {sh : Nat → (Nat → Int32) → va_E} {V : gx_M} {k : Nat} {f : Nat → Int32} : va_up (gx_v sh V) k (sh k f) = gx_v sh (va_up V k f) := by
  funext j
  unfold va_up gx_v
  by_cases h : j = k
  · subst h; simp
  · simp [h]
theorem gx_us (V : gx_M) (k p : Nat) (x : Int32) : gx_u V k p x k p = x := by simp [gx_u, va_up, upd]
theorem gx_up {V : gx_M} {k p p' : Nat} {x : Int32} (h : p' ≠ p) : gx_u V k p x k p' = V k p' := by simp [gx_u, va_up, upd, h]
theorem gx_uk {V : gx_M} {k k' p p' : Nat} {x : Int32} (h : k' ≠ k) : gx_u V k p x k' p' = V k' p' := by simp [gx_u, va_up, h]
theorem gx_uK {V : gx_M} {k k' p : Nat} {x : Int32} (h : k' ≠ k) : gx_u V k p x k' = V k' := by simp [gx_u, va_up, h]
/-- what a method answers and leaves: r, and the memory V -/
def gx_Q (D : va_G) (cl : List vw_C) (b N : Nat) (sh : Nat → (Nat → Int32) → va_E) (r : Option Value) (V : gx_M) : Array Value → State → Outcome → State → Prop := fun _ st oc t =>
  oc = .returned r ∧ va_P D cl (gx_w b N (gx_v sh V)) t.heap ∧ va_F (gx_A b N) st t
/-- a contract: at arguments av and memory V the method answers r and leaves V'; X: what stands outside (statics) -/
def gx_C (l : Launch) (y : MethodName) (ws : List Cond) (rm : Room) (D : va_G) (cl : List vw_C) (tys : List (ClassId × FieldType)) (b N : Nat) (sh : Nat → (Nat → Int32) → va_E) (X : State → Prop) (av : List Value) (V : gx_M) (r : Option Value) (V' : gx_M) : Prop :=
  Met l y ws rm (va_Pc av (fun U => va_P D cl (gx_w b N (gx_v sh V)) U.heap ∧ va_K D cl tys U ∧ X U)) (gx_Q D cl b N sh r V') 0 0 (gx_A b N)
/-- what stands outside stays, and no frame is seen in it -/
def gx_X (b N : Nat) (X : State → Prop) : Prop := (∀ (s U : State) (H : Heap) (locs : List Loc), X s → va_S (gx_A b N) s.heap H locs → U.heap = H → s.vm.Alike U.vm → X U) ∧ ∀ (a : Array Value) (U : State) (g : JFrame) (mk : MethodId), X U → X (U.calling g mk a)
section GX
variable {p : Program} {l : Launch} {e : Env} {R : Room} {s : State} {m : MethodId} {args : Array Value} {below : List Frame} {meth : Method} {c : Code} {H : Heap} {locs : List Loc} {cells slots : Nat} {Q : State → Prop}
variable {cc : ByteArray} {pc : Nat} {ls : Array Slot} {rest st0 : List Value} {D : va_G} {cl : List vw_C} {tys : List (ClassId × FieldType)} {H0 : Heap} {b N : Nat} {sh : Nat → (Nat → Int32) → va_E} {V V' V2 : gx_M} {X : State → Prop}
theorem gx_start {y : MethodName} {ws ws' : List Cond} {rm : Room} {av : List Value} {r : Option Value} {maxL : Nat} {ret : Option FieldType}
    (hy : plainName y.cls = true) (hw : ws = Cond.code y cc maxL ret :: ws') (hlen : (lg_sl av).length ≤ maxL)
    (body : ∀ (p : Program) (e : Env) (s : State) (m : MethodId) (args : Array Value) (below : List Frame) (meth : Method) (c : Code) (ls : Array Slot), p.tables.exec = Jvm.exec → c.code = cc → meth.sig.returnType = ret → (∀ w ∈ ws, w.before args s = true) → s.vm.findClass y.cls = some m.cls → meth.locks = false → c.maxLocals = maxL → lv_has ls maxL (lv_args 0 av) → va_P D cl (gx_w b N (gx_v sh V)) s.heap → va_K D cl tys s → X s → va_S (gx_A b N) s.heap s.heap [] →
      W p l e (headSpec ws rm).room s m args below meth c s.heap [] 0 0 (MQ below (gx_Q D cl b N sh r V') args s 0 0 (gx_A b N)) (F0 m 0 ls [])) : gx_C l y ws rm D cl tys b N sh X av V r V' := by
  refine Met.ofW (cc := cc) (maxL := maxL) (ret := ret) hy hw ?_
  intro p e s m args below meth c s₁ B hml hv
  obtain ⟨rfl, hP, hK, hX⟩ := hv
  rw [lg_entry_eq]
  exact body p e s m _ below meth c _ B.exec B.bytes B.returns (atoms_spec (ws := ws) B.pre) (findClass_of_methodNamed B.named) B.notSynchronized hml (lv_entry av hlen) hP hK hX va_S.rf
theorem gx_iret {free : Addr → Prop} {v : Int32} {r : Option Value} (hexec : p.tables.exec = Jvm.exec) (hb : c.code = cc) (hr : meth.sig.returnType = some .int) (hlk : meth.locks = false) (hP : va_P D cl (gx_w b N (gx_v sh V)) H) (hS : va_S (gx_A b N) s.heap H locs) (hdg : decode cc pc = .ok (.ireturn, 1)) (hv : some (.int v) = r) (hV : V = V') :
    W p l e R s m args below meth c H locs cells slots (MQ below (gx_Q D cl b N sh r V') args s cells slots (gx_A b N)) (F0 m pc ls [.int v]) := by
  subst hv; subst hV
  exact W.iret hexec hb hr (fun t ht _ => ⟨rfl, by rw [ht]; exact hP, hS.F ht⟩) hS.2.2 hdg
theorem gx_zret {free : Addr → Prop} {v : Int32} {r : Option Value} (hexec : p.tables.exec = Jvm.exec) (hb : c.code = cc) (hr : meth.sig.returnType = some .boolean) (hlk : meth.locks = false) (hP : va_P D cl (gx_w b N (gx_v sh V)) H) (hS : va_S (gx_A b N) s.heap H locs) (hdg : decode cc pc = .ok (.ireturn, 1)) (hn : narrow .boolean (.int v) = .int v) (hv : some (.int v) = r) (hV : V = V') :
    W p l e R s m args below meth c H locs cells slots (MQ below (gx_Q D cl b N sh r V') args s cells slots (gx_A b N)) (F0 m pc ls [.int v]) := by
  subst hv; subst hV
  exact W.zret hexec hb hr hn (fun t ht _ => ⟨rfl, by rw [ht]; exact hP, hS.F ht⟩) hS.2.2 hdg
theorem gx_vret {r : Option Value} (hexec : p.tables.exec = Jvm.exec) (hb : c.code = cc) (hr : meth.sig.returnType = none) (hlk : meth.locks = false) (hP : va_P D cl (gx_w b N (gx_v sh V)) H) (hS : va_S (gx_A b N) s.heap H locs) (hdg : decode cc pc = .ok (.return_, 1)) (hv : none = r) (hV : V = V') :
    W p l e R s m args below meth c H locs cells slots (MQ below (gx_Q D cl b N sh r V') args s cells slots (gx_A b N)) (F0 m pc ls []) := by
  subst hv; subst hV
  exact W.vret hexec hb hr (fun t ht _ => ⟨rfl, by rw [ht]; exact hP, hS.F ht⟩) hS.2.2 hdg
theorem gx_lret {v : Int64} {r : Option Value} (hexec : p.tables.exec = Jvm.exec) (hb : c.code = cc) (hr : meth.sig.returnType = some .long) (hlk : meth.locks = false) (hP : va_P D cl (gx_w b N (gx_v sh V)) H) (hS : va_S (gx_A b N) s.heap H locs) (hdg : decode cc pc = .ok (.lreturn, 1)) (hv : some (.long v) = r) (hV : V = V') :
    W p l e R s m args below meth c H locs cells slots (MQ below (gx_Q D cl b N sh r V') args s cells slots (gx_A b N)) (F0 m pc ls [.long v]) := by
  subst hv; subst hV
  exact W.lret hexec hb hr (fun t ht _ => ⟨rfl, by rw [ht]; exact hP, hS.F ht⟩) hS.2.2 hdg
theorem gx_put (hexec : p.tables.exec = Jvm.exec) (hb : c.code = cc) {own ref C : String} {T : u_T} {NF ci index : Nat} {Ts : List Cond} (hts : ∀ w ∈ Ts, w.before args s = true) (hin : ∀ w ∈ u_ws C T NF, w ∈ Ts) (ty0 : Nat → FieldType) (hty : ∀ k, k < NF → parseFieldDescriptor (T k).2.2.1 = some (ty0 k)) (hnm : ∀ a, a < NF → ∀ b, b < NF → a ≠ b → (T a).2.1 ≠ (T b).2.1) (hown : s.vm.findClass own = some m.cls) (hK : va_K D cl tys s) (hP : va_P D cl (gx_w b N (gx_v sh V)) H) (hS : va_S (gx_A b N) H0 H locs) (k0 : Nat) (hk0 : k0 < N) {fs : List Value} (he : sh k0 (V k0) = .inr (ci, fs)) (hc : cl[ci]? = some (C, T, NF)) (k : Nat) (hk : k < NF) (hlink : (Cond.fieldLink own index ref (T k).2.1 (T k).2.2.1).before args s = true) (hsame : ∀ x, s.fieldFound? (T k).1 (T k).2.1 (T k).2.2.1 = some x → s.fieldFound? ref (T k).2.1 (T k).2.2.1 = some x) (hfin : (T k).2.2.2 = false) {ty : FieldType} {x : Int32} (hd : parseFieldDescriptor (T k).2.2.1 = some ty) (hn : narrow ty (.int x) = .int x) (hfit : fits ty (.int x) = true) (hl : k < fs.length) (q : Nat) (hu : sh k0 (upd (V k0) q x) = .inr (ci, fs.set k (.int x)))
    (hdg : decode cc pc = .ok (.putfield index, 3)) (kk : ∀ (H1 : Heap) (locs1 : List Loc), va_P D cl (gx_w b N (gx_v sh (gx_u V k0 q x))) H1 → va_S (gx_A b N) H0 H1 locs1 → W p l e R s m args below meth c H1 locs1 cells slots Q (F0 m (pc + 3) ls rest)) : W p l e R s m args below meth c H locs cells slots Q (F0 m pc ls (.int x :: .ref (b + k0) :: rest)) := by
  refine va_put hexec hb hts hin ty0 hty hnm hown hK hP gx_D hS k0 (gx_at hk0 he) hc k hk hlink hsame hfin hd hn hfit hl hdg (fun H1 locs1 hP1 _ hS1 => kk H1 locs1 ?_ hS1)
  rw [gx_set, ← hu, gx_vset] at hP1
  exact hP1
theorem gx_ald (hexec : p.tables.exec = Jvm.exec) (hb : c.code = cc) (hK : va_K D cl tys s) (hP : va_P D cl (gx_w b N (gx_v sh V)) H) (k0 t0 : Nat) (hk0 : k0 < N) {cA : ClassId} {n : Nat} (he : ∀ f, sh k0 f = .inl (cA, n, .inl f)) (ht : tys[t0]? = some (cA, .int)) {i : Int32} (j : Nat) (hi : i = nI j) (hj : j < n) (hn : n < 2 ^ 31) (hdg : decode cc pc = .ok (.iaload, 1))
    (kk : W p l e R s m args below meth c H locs cells slots Q (F0 m (pc + 1) ls (.int (V k0 j) :: rest))) : W p l e R s m args below meth c H locs cells slots Q (F0 m pc ls (.int i :: .ref (b + k0) :: rest)) := by
  subst hi
  refine va_iald hexec hb hK hP k0 t0 (gx_at hk0 (he _)) ht (vp_in_nI hj hn) hdg ?_
  rw [nI_clamp (by omega)]
  exact kk
theorem gx_ast (hexec : p.tables.exec = Jvm.exec) (hb : c.code = cc) (hK : va_K D cl tys s) (hP : va_P D cl (gx_w b N (gx_v sh V)) H) (hS : va_S (gx_A b N) H0 H locs) (k0 t0 : Nat) (hk0 : k0 < N) {cA : ClassId} {n : Nat} (he : ∀ f, sh k0 f = .inl (cA, n, .inl f)) (ht : tys[t0]? = some (cA, .int)) {i x : Int32} (j : Nat) (hi : i = nI j) (hj : j < n) (hn : n < 2 ^ 31) (hdg : decode cc pc = .ok (.iastore, 1))
    (kk : ∀ (H1 : Heap) (locs1 : List Loc), va_P D cl (gx_w b N (gx_v sh (gx_u V k0 j x))) H1 → va_S (gx_A b N) H0 H1 locs1 → W p l e R s m args below meth c H1 locs1 cells slots Q (F0 m (pc + 1) ls rest)) : W p l e R s m args below meth c H locs cells slots Q (F0 m pc ls (.int x :: .int i :: .ref (b + k0) :: rest)) := by
  subst hi
  refine va_iast hexec hb hK hP gx_D hS k0 t0 (gx_at hk0 (he _)) ht (vp_in_nI hj hn) hdg (fun H1 locs1 hP1 _ hS1 => kk H1 locs1 ?_ hS1)
  rw [nI_clamp (by omega), gx_set, ← he, gx_vset] at hP1
  exact hP1
theorem gx_call {r : Option Value} {A0 : Nat → Prop} {a : Array Value} (hr : va_Run p l e R s m args below meth c H locs cells slots 0 0 (F0 m pc ls st0) rest (gx_Q D cl b N sh r V' a) (gx_A b N)) (hS : va_S A0 H0 H locs) (hA : ∀ q, gx_A b N q → A0 q)
    (kk : ∀ (H1 : Heap) (locs1 : List Loc), va_P D cl (gx_w b N (gx_v sh V')) H1 → va_S A0 H0 H1 locs1 → H.size ≤ H1.size → (∀ q : Nat, q < H.size → ¬ gx_A b N q → H1[q]? = H[q]?) → W p l e R s m args below meth c H1 locs1 cells slots Q (F0 m (pc + 3) ls (r.toList ++ rest))) : W p l e R s m args below meth c H locs cells slots Q (F0 m pc ls st0) := by
  intro T hT XX
  obtain ⟨v, st₀, t, T', L, h0, X', hL, e1, -, ⟨hv, hp, hz, hk⟩, st⟩ := hr T hT XX
  cases hv
  rw [h0] at hz hk
  rw [← e1] at hp hz hk
  obtain ⟨t2, a1, b1⟩ := kk T'.heap (locs ++ L) hp ⟨Nat.le_trans hS.1 hz, fun q h1 h2 => by rw [hk q (Nat.lt_of_lt_of_le h1 hS.1) (fun z => h2 (hA q z))]; exact hS.2.1 q h1 h2, fun q hq => by
      rcases List.mem_append.mp hq with h | h
      · exact hS.2.2 q h
      · exact hA _ (hL q h)⟩ hz hk T' rfl X'
  exact ⟨t2, st t2 a1, b1⟩
theorem gx_pre {av : List Value} (hX0 : gx_X b N X) (hX : X s) (hK : va_K D cl tys s) (hP : va_P D cl (gx_w b N (gx_v sh V)) H) (hS : va_S (gx_A b N) s.heap H locs) : PreS s H (va_Pc av (fun U => va_P D cl (gx_w b N (gx_v sh V)) U.heap ∧ va_K D cl tys U ∧ X U)) av :=
  ⟨fun a U g mk q => ⟨q.1, q.2.1, va_K.moved (u := U) (U := U.calling g mk a) (Vm.Alike.refl U.vm) q.2.2.1, hX0.2 a U g mk q.2.2.2⟩, fun U hU hW => ⟨rfl, by rw [hU]; exact hP, va_K.moved hW.alike hK, hX0.1 s U H locs hX hS hU hW.alike⟩⟩
theorem gx_preV {k0 ci : Nat} {As fs : List Value} {q : vw_C} (hX0 : gx_X b N X) (hX : X s) (hK : va_K D cl tys s) (hP : va_P D cl (gx_w b N (gx_v sh V)) H) (hS : va_S (gx_A b N) s.heap H locs) (hk0 : k0 < N) (he : sh k0 (V k0) = .inr (ci, fs)) (hc : cl[ci]? = some q) : PreV s H q.1 (b + k0) (va_Pc (.ref (b + k0) :: As) (fun U => va_P D cl (gx_w b N (gx_v sh V)) U.heap ∧ va_K D cl tys U ∧ X U)) As :=
  ⟨(gx_pre hX0 hX hK hP hS).1, va_recv hK hP hc (gx_at hk0 he), (gx_pre hX0 hX hK hP hS).2⟩
end GX
