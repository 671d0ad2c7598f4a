/-! THE CLAIM OUT OF ONE WALK OF THE LAW'S BODY. Your part is whole_start (and what it stands on); all else here is the same for every law, but numbers. -/
def R_law : String := "GasLedgerLaw"
def lw_P (b : Addr) (xs : List Int32) (args : Array Value) (s : State) : Prop := args = #[.ref b] ∧ s.IntsAt b xs ∧ xs.length ≤ 2560 ∧ (Jvm.Cond.and given_1 narrow_1).before args s = true
def lw_Q (_ : Array Value) (s : State) (o : Outcome) (t : State) : Prop := o = .returned (some (.int 1)) ∧ Framed s o t [] 600000 7302250
def lw_Z (below : List Frame) (a : Array Value) (s : State) : State → Prop := fun t => ∃ o, t.status = .running ∧ Ended t below o ∧ lw_Q a s o t
/-- the law's own end, with 1 on the stack, nothing written that was there before, its room as the claim has it -/
theorem lw_ret {p : Program} {l : Launch} {e : Env} {s : State} {m : MethodId} {below : List Frame} {meth : Method} {c : Code} {b : Nat} (hx : p.tables.exec = Jvm.exec) (hb : c.code = code) (hr : meth.sig.returnType = ret) (hlocks : meth.locks = false) {pc : Nat} {H : Heap} {ls : Array Slot} (hdg : decode code pc = .ok (.ireturn, 1)) : W p l e room_1 s m #[Value.ref b] below meth c H [] 600000 7302250 (lw_Z below #[Value.ref b] s) (F0 m pc ls [.int 1]) := by
  intro T hT X
  obtain ⟨fs, hret, hrun, hended, hW, hframe⟩ := X.leave (v := some (.int 1)) (hlocks := hlocks) (fun h => by rw [hr] at h; cases h)
  have hmeth' : T.vm.method? m = some meth := X.method'
  refine ⟨T.setFrames fs, ?_, .returned (some (.int 1)), hrun, hended, rfl, ⟨_, rfl⟩, hW, hframe⟩
  jvm_step X.here [X.here.top, hx, hb, hdg, hmeth', hr, ret, narrow_b1]
  (try refine ⟨rfl, ?_⟩); (try refine ⟨rfl, ?_⟩)
  first | (intro acts; rw [hret _ acts rfl rfl rfl]) | rw [hret _ _ rfl rfl rfl]
  exact Steps.refl _
/-- what holds at the law's entry: the machine, the code, the tables' words (any of lw_tbl by 'hts w (by decide +kernel)'), the script of L ints xs at the cell b, what the Statement gives of the start (any of its parts by flat_of_before) -/
def lw_At (p : Program) (s : State) (m : MethodId) (meth : Method) (c : Code) (b L : Nat) (xs : Nat → Int32) : Prop :=
  p.tables.exec = Jvm.exec ∧ c.code = code ∧ meth.sig.returnType = ret ∧ c.maxLocals = 4 ∧ s.vm.findClass R_law = some m.cls ∧ (∀ w ∈ lw_tbl, w.before #[Value.ref b] s = true) ∧ va_X b L xs s s.heap ∧ b < s.heap.size ∧ meth.locks = false ∧ (Jvm.Cond.and given_1 narrow_1).before #[Value.ref b] s = true
def sm_fund (Rel : Nat → gx_M → gx_M → Prop) : Prop := ∀ (n : Nat) (V U : gx_M), n < 512 → Rel n V U → ∀ (a1 a2 : Int32), ∃ (r : Int32) (V1 U1 : gx_M), F_Led_fund 0 a1 a2 V = some (r, V1) ∧ F_Mod_fund 0 a1 a2 U = some (r, U1) ∧ Rel (n + 1) V1 U1
def sm_code (Rel : Nat → gx_M → gx_M → Prop) : Prop := ∀ (n : Nat) (V U : gx_M), n < 512 → Rel n V U → ∀ (a1 a2 : Int32), ∃ (r : Int32) (V1 U1 : gx_M), F_Led_code 0 a1 a2 V = some (r, V1) ∧ F_Mod_code 0 a1 a2 U = some (r, U1) ∧ Rel (n + 1) V1 U1
def sm_preset (Rel : Nat → gx_M → gx_M → Prop) : Prop := ∀ (n : Nat) (V U : gx_M), n < 512 → Rel n V U → ∀ (a1 a2 a3 : Int32), ∃ (r : Int32) (V1 U1 : gx_M), F_Led_preset 0 a1 a2 a3 V = some (r, V1) ∧ F_Mod_preset 0 a1 a2 a3 U = some (r, U1) ∧ Rel (n + 1) V1 U1
def sm_begin (Rel : Nat → gx_M → gx_M → Prop) : Prop := ∀ (n : Nat) (V U : gx_M), n < 512 → Rel n V U → ∀ (a1 a2 : Int32), ∃ (r : Int32) (V1 U1 : gx_M), F_Led_begin 0 a1 a2 V = some (r, V1) ∧ F_Mod_begin 0 a1 a2 U = some (r, U1) ∧ Rel (n + 1) V1 U1
def sm_send (Rel : Nat → gx_M → gx_M → Prop) : Prop := ∀ (n : Nat) (V U : gx_M), n < 512 → Rel n V U → ∀ (a1 a2 a3 a4 : Int32), ∃ (r : Int32) (V1 U1 : gx_M), F_Led_send 0 a1 a2 a3 a4 V = some (r, V1) ∧ F_Mod_send 0 a1 a2 a3 a4 U = some (r, U1) ∧ Rel (n + 1) V1 U1
def sm_terms (Rel : Nat → gx_M → gx_M → Prop) : Prop := ∀ (n : Nat) (V U : gx_M), n < 512 → Rel n V U → ∀ (a1 a2 a3 : Int32), ∃ (V1 U1 : gx_M), F_Led_terms 0 a1 a2 a3 V = some V1 ∧ F_Mod_terms 0 a1 a2 a3 U = some U1 ∧ Rel (n + 1) V1 U1
def sm_pay (Rel : Nat → gx_M → gx_M → Prop) : Prop := ∀ (n : Nat) (V U : gx_M), n < 512 → Rel n V U → ∀ (a1 a2 a3 a4 : Int32), ∃ (r : Int32) (V1 U1 : gx_M), F_Led_pay 0 a1 a2 a3 a4 V = some (r, V1) ∧ F_Mod_pay 0 a1 a2 a3 a4 U = some (r, U1) ∧ Rel (n + 1) V1 U1
def sm_seal (Rel : Nat → gx_M → gx_M → Prop) : Prop := ∀ (n : Nat) (V U : gx_M), n < 512 → Rel n V U → ∀ (a1 : Int32), ∃ (r : Int32) (V1 U1 : gx_M), F_Led_seal 0 a1 V = some (r, V1) ∧ F_Mod_seal 0 a1 U = some (r, U1) ∧ Rel (n + 1) V1 U1
def sm_look (Rel : Nat → gx_M → gx_M → Prop) : Prop := ∀ (n : Nat) (V U : gx_M), n < 512 → Rel n V U → ∀ (a1 a2 : Int32), ∃ (r : Int32) (V1 U1 : gx_M), F_Led_look 0 a1 a2 V = some (r, V1) ∧ F_Mod_look 0 a1 a2 U = some (r, U1) ∧ Rel (n + 1) V1 U1
def sm_slot (Rel : Nat → gx_M → gx_M → Prop) : Prop := ∀ (n : Nat) (V U : gx_M), n < 512 → Rel n V U → ∀ (a1 a2 : Int32), ∃ (r : Int32) (V1 U1 : gx_M), F_Led_slot 0 a1 a2 V = some (r, V1) ∧ F_Mod_slot 0 a1 a2 U = some (r, U1) ∧ Rel (n + 1) V1 U1
def sm_word (Rel : Nat → gx_M → gx_M → Prop) : Prop := ∀ (n : Nat) (V U : gx_M), n < 512 → Rel n V U → ∀ (a1 a2 : Int32), ∃ (r : Int32) (V1 U1 : gx_M), F_Led_word 0 a1 a2 V = some (r, V1) ∧ F_Mod_word 0 a1 a2 U = some (r, U1) ∧ Rel (n + 1) V1 U1
def sm_root (Rel : Nat → gx_M → gx_M → Prop) : Prop := ∀ (n : Nat) (V U : gx_M), n < 512 → Rel n V U → ∃ (r : Int32) (V1 U1 : gx_M), F_Led_root 0  V = some (r, V1) ∧ F_Mod_root 0  U = some (r, U1) ∧ Rel (n + 1) V1 U1
def sm_block (Rel : Nat → gx_M → gx_M → Prop) : Prop := ∀ (n : Nat) (V U : gx_M), n < 512 → Rel n V U → ∀ (a1 : Int32), ∃ (r : Int32) (V1 U1 : gx_M), F_Led_block 0 a1 V = some (r, V1) ∧ F_Mod_block 0 a1 U = some (r, U1) ∧ Rel (n + 1) V1 U1
def sm_receipt (Rel : Nat → gx_M → gx_M → Prop) : Prop := ∀ (n : Nat) (V U : gx_M), n < 512 → Rel n V U → ∀ (a1 a2 : Int32), ∃ (r : Int32) (V1 U1 : gx_M), F_Led_receipt 0 a1 a2 V = some (r, V1) ∧ F_Mod_receipt 0 a1 a2 U = some (r, U1) ∧ Rel (n + 1) V1 U1
def sm_log (Rel : Nat → gx_M → gx_M → Prop) : Prop := ∀ (n : Nat) (V U : gx_M), n < 512 → Rel n V U → ∀ (a1 a2 : Int32), ∃ (r : Int32) (V1 U1 : gx_M), F_Led_log 0 a1 a2 V = some (r, V1) ∧ F_Mod_log 0 a1 a2 U = some (r, U1) ∧ Rel (n + 1) V1 U1
def sm_total (Rel : Nat → gx_M → gx_M → Prop) : Prop := ∀ (n : Nat) (V U : gx_M), n < 512 → Rel n V U → ∃ (r : Int64) (V1 U1 : gx_M), F_Led_total 0  V = some (r, V1) ∧ F_Mod_total 0  U = some (r, U1) ∧ Rel (n + 1) V1 U1
def sm_all (Rel : Nat → gx_M → gx_M → Prop) : Prop := Rel 0 cx_V0 mx_V0 ∧ sm_fund Rel ∧ sm_code Rel ∧ sm_preset Rel ∧ sm_begin Rel ∧ sm_send Rel ∧ sm_terms Rel ∧ sm_pay Rel ∧ sm_seal Rel ∧ sm_look Rel ∧ sm_slot Rel ∧ sm_word Rel ∧ sm_root Rel ∧ sm_block Rel ∧ sm_receipt Rel ∧ sm_log Rel ∧ sm_total Rel
theorem gl_arr {args : Array Value} {s : State} {ty : FieldType} (h : (Cond.arrayClass ty).before args s = true) : ∃ c, ArrOfT s c ty ∧ s.vm.findClass ("[" ++ ty.toString) = some c := by
  obtain ⟨c, k, comp, h1, h2, h3⟩ := Cond.arrayClass_spec h
  exact ⟨c, fun n z => ⟨fun k h => (by cases h), k, h2, comp, h3⟩, h1⟩
theorem gl_arrR {args : Array Value} {s : State} {C : String} (h : (Cond.arrayOver (.object C)).before args s = true) : ∃ c, ArrOfT s c (.object C) ∧ va_RA s c (.object C) := by
  obtain ⟨comp, c, k, h1, h2, h3, h4, h5⟩ := Cond.arrayOver_spec h
  exact ⟨c, fun n z => ⟨fun k h => (by cases h), k, h3, comp, h4⟩, k, comp, h3, h4, h1, h5⟩
theorem gl_K {args : Array Value} {s : State} (hts : ∀ w ∈ lw_tbl, w.before args s = true) : ∃ (dC : Nat → ClassId) (dI : Nat → Nat → Nat) (cI cR cZ : ClassId), va_K (dC, dI) cx_cl (gx_ty cI cR cZ) s := by
  have htb : ∀ w ∈ cx_tb, w.before args s = true := fun w h => hts w (List.mem_filter.mp h).1
  obtain ⟨c0, i0, h0⟩ := u_known htb in_Acc (htb _ tb_69)
  obtain ⟨c1, i1, h1⟩ := u_known htb in_Frm (htb _ tb_127)
  obtain ⟨c2, i2, h2⟩ := u_known htb in_Log (htb _ tb_103)
  obtain ⟨c3, i3, h3⟩ := u_known htb in_Mac (htb _ tb_63)
  obtain ⟨c4, i4, h4⟩ := u_known htb in_Rec (htb _ tb_226)
  obtain ⟨c5, i5, h5⟩ := u_known htb in_Led (htb _ tb_55)
  obtain ⟨c6, i6, h6⟩ := u_known htb in_Mod (htb _ tb_596)
  obtain ⟨cI, a1, a2⟩ := gl_arr (htb _ tb_101)
  obtain ⟨cZ, z1, z2⟩ := gl_arr (htb _ tb_719)
  obtain ⟨cR, r1, r2⟩ := gl_arrR (C := "GasLedger$Frame") (hts _ (List.mem_of_getElem? (i := 126) (by decide +kernel)))
  refine ⟨fun c => match c with | 0 => c0 | 1 => c1 | 2 => c2 | 3 => c3 | 4 => c4 | 5 => c5 | _ => c6, fun c => match c with | 0 => i0 | 1 => i1 | 2 => i2 | 3 => i3 | 4 => i4 | 5 => i5 | _ => i6, cI, cR, cZ, ?_, ?_⟩
  · intro c q hq
    match c with
    | 0 => cases hq; exact h0
    | 1 => cases hq; exact h1
    | 2 => cases hq; exact h2
    | 3 => cases hq; exact h3
    | 4 => cases hq; exact h4
    | 5 => cases hq; exact h5
    | 6 => cases hq; exact h6
    | c + 7 => cases hq
  · intro k q hq
    match k with
    | 0 => cases hq; exact ⟨a1, a2⟩
    | 1 => cases hq; exact ⟨r1, r2⟩
    | 2 => cases hq; exact ⟨z1, z2⟩
    | k + 3 => cases hq
theorem gl_PRICES {args : Array Value} {s : State} (hts : ∀ w ∈ lw_tbl, w.before args s = true) (hg : (Jvm.Cond.and given_1 narrow_1).before args s = true) : ∃ t : Nat, va_Z "GasLedger$Machine" "PRICES" "[I" (.ref t) (gx_A s.heap.size 97) s s.heap ∧ va_T .int t 32 (fun j => .int (cx_prices j)) (gx_A s.heap.size 97) s s.heap := by
  have hs := flat_of_before _ hg
  have hA : ∀ a : Nat, a < s.heap.size → ¬ gx_A s.heap.size 97 a := fun a h q => Nat.lt_irrefl _ (Nat.lt_of_lt_of_le h q.1)
  obtain ⟨t, h1, h2⟩ := va_Tof (tm := .static "GasLedger$Machine" "PRICES" "[I") (ty := .int) (N := 32) (f := fun j => .int (cx_prices j)) (A := gx_A s.heap.size 97) (by decide) (hs _ (by decide +kernel)) (va_eqt (hs _ (by decide +kernel : (Cond.eq (.length (.static "GasLedger$Machine" "PRICES" "[I")) (.int 32)) ∈ _))) (fun j hj => va_eqt (hs _ (of_decide_eq_true (List.all_eq_true.mp (by decide +kernel : ((List.range 32).all fun j => decide ((Cond.eq (Term.elem (Term.static "GasLedger$Machine" "PRICES" "[I") (Term.int (Int32.ofNat j))) (Term.int (cx_prices j))) ∈ _)) = true) j (List.mem_range.mpr hj))))) hA
  exact ⟨t, va_Zof (hts _ (List.mem_of_getElem? (i := 373) (by decide +kernel))) (hts _ (List.mem_of_getElem? (i := 45) (by decide +kernel))) h1 hA, h2⟩
theorem gl_NEEDS {args : Array Value} {s : State} (hts : ∀ w ∈ lw_tbl, w.before args s = true) (hg : (Jvm.Cond.and given_1 narrow_1).before args s = true) : ∃ t : Nat, va_Z "GasLedger$Machine" "NEEDS" "[I" (.ref t) (gx_A s.heap.size 97) s s.heap ∧ va_T .int t 32 (fun j => .int (cx_needs j)) (gx_A s.heap.size 97) s s.heap := by
  have hs := flat_of_before _ hg
  have hA : ∀ a : Nat, a < s.heap.size → ¬ gx_A s.heap.size 97 a := fun a h q => Nat.lt_irrefl _ (Nat.lt_of_lt_of_le h q.1)
  obtain ⟨t, h1, h2⟩ := va_Tof (tm := .static "GasLedger$Machine" "NEEDS" "[I") (ty := .int) (N := 32) (f := fun j => .int (cx_needs j)) (A := gx_A s.heap.size 97) (by decide) (hs _ (by decide +kernel)) (va_eqt (hs _ (by decide +kernel : (Cond.eq (.length (.static "GasLedger$Machine" "NEEDS" "[I")) (.int 32)) ∈ _))) (fun j hj => va_eqt (hs _ (of_decide_eq_true (List.all_eq_true.mp (by decide +kernel : ((List.range 32).all fun j => decide ((Cond.eq (Term.elem (Term.static "GasLedger$Machine" "NEEDS" "[I") (Term.int (Int32.ofNat j))) (Term.int (cx_needs j))) ∈ _)) = true) j (List.mem_range.mpr hj))))) hA
  exact ⟨t, va_Zof (hts _ (List.mem_of_getElem? (i := 396) (by decide +kernel))) (hts _ (List.mem_of_getElem? (i := 45) (by decide +kernel))) h1 hA, h2⟩
theorem gl_X {args : Array Value} {s : State} (hts : ∀ w ∈ lw_tbl, w.before args s = true) (hg : (Jvm.Cond.and given_1 narrow_1).before args s = true) : ∃ (tP tN : Nat), cx_X s.heap.size tP tN s := by
  obtain ⟨tP, p1, p2⟩ := gl_PRICES hts hg
  obtain ⟨tN, n1, n2⟩ := gl_NEEDS hts hg
  exact ⟨tP, tN, p1, p2, n1, n2, va_Nw.of rfl (hts _ (List.mem_of_getElem? (i := 367) (by decide +kernel))), va_Nw.of rfl (hts _ (List.mem_of_getElem? (i := 382) (by decide +kernel))), va_Nw.of rfl (hts _ (List.mem_of_getElem? (i := 426) (by decide +kernel))), va_Nw.of rfl (hts _ (List.mem_of_getElem? (i := 435) (by decide +kernel)))⟩
section GL
variable {p : Program} {l : Launch} {e : Env} {R : Room} {s : State} {m : MethodId} {args : Array Value} {below : List Frame} {meth : Method} {c : Code} {H : Heap} {locs : List Loc} {cells slots : Nat} {Q : State → Prop}
variable {cc : ByteArray} {pc : Nat} {ls : Array Slot} {rest st0 : List Value} {D : va_G} {cl : List vw_C} {tys : List (ClassId × FieldType)} {H0 : Heap} {A0 : Nat → Prop} {b1 N1 b2 N2 : Nat} {sh1 : Nat → (Nat → Int32) → va_E} {w2 : Nat → va_E} {V V' : gx_M} {X : State → Prop} {a : Array Value}
theorem gl_keep {H1 : Heap} (hP2 : va_P D cl (gx_w b2 N2 w2) H) (hap : ∀ q, gx_A b2 N2 q → ¬ gx_A b1 N1 q) (hk : ∀ q : Nat, q < H.size → ¬ gx_A b1 N1 q → H1[q]? = H[q]?) : va_P D cl (gx_w b2 N2 w2) H1 := by
  intro k q hq
  have h1 := hP2 k q hq
  obtain ⟨hkN, rfl⟩ := gx_get hq
  exact h1.kept (hk _ h1.lt (hap _ ⟨Nat.le_add_right _ _, Nat.add_lt_add_left hkN _⟩))
theorem gl_ci {r : Int32} (hr : va_Run p l e R s m args below meth c H locs cells slots 0 0 (F0 m pc ls st0) rest (gx_Q D cl b1 N1 sh1 (some (.int r)) V' a) (gx_A b1 N1)) (hS : va_S A0 H0 H locs) (hA : ∀ q, gx_A b1 N1 q → A0 q) (hP2 : va_P D cl (gx_w b2 N2 w2) H) (hap : ∀ q, gx_A b2 N2 q → ¬ gx_A b1 N1 q)
    (kk : ∀ (H1 : Heap) (locs1 : List Loc), va_P D cl (gx_w b1 N1 (gx_v sh1 V')) H1 → va_P D cl (gx_w b2 N2 w2) H1 → va_S A0 H0 H1 locs1 → W p l e R s m args below meth c H1 locs1 cells slots Q (F0 m (pc + 3) ls (.int r :: rest))) : W p l e R s m args below meth c H locs cells slots Q (F0 m pc ls st0) :=
  gx_call hr hS hA (fun H1 locs1 h1 h2 _ h4 => kk H1 locs1 h1 (gl_keep hP2 hap h4) h2)
theorem gl_cl {r : Int64} (hr : va_Run p l e R s m args below meth c H locs cells slots 0 0 (F0 m pc ls st0) rest (gx_Q D cl b1 N1 sh1 (some (.long r)) V' a) (gx_A b1 N1)) (hS : va_S A0 H0 H locs) (hA : ∀ q, gx_A b1 N1 q → A0 q) (hP2 : va_P D cl (gx_w b2 N2 w2) H) (hap : ∀ q, gx_A b2 N2 q → ¬ gx_A b1 N1 q)
    (kk : ∀ (H1 : Heap) (locs1 : List Loc), va_P D cl (gx_w b1 N1 (gx_v sh1 V')) H1 → va_P D cl (gx_w b2 N2 w2) H1 → va_S A0 H0 H1 locs1 → W p l e R s m args below meth c H1 locs1 cells slots Q (F0 m (pc + 3) ls (.long r :: rest))) : W p l e R s m args below meth c H locs cells slots Q (F0 m pc ls st0) :=
  gx_call hr hS hA (fun H1 locs1 h1 h2 _ h4 => kk H1 locs1 h1 (gl_keep hP2 hap h4) h2)
theorem gl_cv (hr : va_Run p l e R s m args below meth c H locs cells slots 0 0 (F0 m pc ls st0) rest (gx_Q D cl b1 N1 sh1 none V' a) (gx_A b1 N1)) (hS : va_S A0 H0 H locs) (hA : ∀ q, gx_A b1 N1 q → A0 q) (hP2 : va_P D cl (gx_w b2 N2 w2) H) (hap : ∀ q, gx_A b2 N2 q → ¬ gx_A b1 N1 q)
    (kk : ∀ (H1 : Heap) (locs1 : List Loc), va_P D cl (gx_w b1 N1 (gx_v sh1 V')) H1 → va_P D cl (gx_w b2 N2 w2) H1 → va_S A0 H0 H1 locs1 → W p l e R s m args below meth c H1 locs1 cells slots Q (F0 m (pc + 3) ls rest)) : W p l e R s m args below meth c H locs cells slots Q (F0 m pc ls st0) :=
  gx_call hr hS hA (fun H1 locs1 h1 h2 _ h4 => kk H1 locs1 h1 (gl_keep hP2 hap h4) h2)
theorem gl_preV {k0 ci : Nat} {As fs : List Value} {q : vw_C} (hX0 : gy_X b1 N1 X) (hX : X s) (hb1 : s.heap.size ≤ b1) (hK : va_K D cl tys s) (hP : va_P D cl (gx_w b1 N1 (gx_v sh1 V)) H) (hS : va_S (fun q => s.heap.size ≤ q) s.heap H locs) (hk0 : k0 < N1) (he : sh1 k0 (V k0) = .inr (ci, fs)) (hc : cl[ci]? = some q) : PreV s H q.1 (b1 + k0) (va_Pc (.ref (b1 + k0) :: As) (fun U => va_P D cl (gx_w b1 N1 (gx_v sh1 V)) U.heap ∧ va_K D cl tys U ∧ X U)) As :=
  gy_preV (locs := []) hX0 hX hK hP ⟨hS.1, fun q h1 _ => hS.2.1 q h1 (Nat.not_le.mpr h1), fun _ h => by cases h⟩ hk0 he hc
theorem gl_ld {b L n : Nat} {xs : Nat → Int32} (hexec : p.tables.exec = Jvm.exec) (hb : c.code = cc) (hX : va_X b L xs s H0) (hbl : b < H0.size) (hbA : ¬ A0 b) (hS : va_S A0 H0 H locs) (cn : Nat) (hL : 5 * n + 5 ≤ L) (hL2 : L ≤ 2560) (hcn : cn < 5) {i : Int32} (hi : i = nI (5 * n + cn)) (hdg : decode cc pc = .ok (.iaload, 1))
    (kk : W p l e R s m args below meth c H locs cells slots Q (F0 m (pc + 1) ls (.int (xs (5 * n + cn)) :: rest))) : W p l e R s m args below meth c H locs cells slots Q (F0 m pc ls (.int i :: .ref b :: rest)) := by
  subst hi
  refine va_sld hexec hb hX hbl hbA hS (vp_in_nI (by omega) (by omega)) hdg ?_
  rw [nI_clamp (by omega)]
  exact kk
end GL
theorem gl_ix {n cn : Nat} {c : Int32} (hc : c = nI cn) : nI (5 * n) + c = nI (5 * n + cn) := by rw [hc, nI_add]
theorem gl_go {L n : Nat} (hL : L ≤ 2560) (hn : 5 * n ≤ L) (h : ¬ Int32.ofNat L - 5 < nI (5 * n)) : 5 * n + 5 ≤ L := by
  have h1 : (Int32.ofNat L - 5 : Int32) = nI L - nI 5 := rfl
  rw [h1, Int32.lt_iff_toInt_lt, pk_sub_toInt (by omega) (by omega), nI_toInt (by omega)] at h
  omega
theorem gl_cmp (r : Int64) : lg_cmp r r = 0 := by simp [lg_cmp, Int64.lt_irrefl]
