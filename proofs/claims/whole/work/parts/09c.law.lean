set_option maxRecDepth 100000 in
set_option maxHeartbeats 8000000 in
theorem law_loop {Rel : Nat → gx_M → gx_M → Prop} (hsm : sm_all Rel) {p : Program} {e : Env} {s : State} {m : MethodId} {below : List Frame} {meth : Method} {c : Code} (l : Launch) {b L : Nat} {xs : Nat → Int32} (hL : L ≤ 2560) (C0 : lw_At p s m meth c b L xs) (dC : Nat → ClassId) (dI : Nat → Nat → Nat) (cI cR cZ : ClassId) (tP tN : Nat) (hK : va_K (dC, dI) cx_cl (gx_ty cI cR cZ) s) (hXX : cx_X s.heap.size tP tN s) : ∀ (fuel n : Nat) (V U : gx_M) (H : Heap) (locs : List Loc) (ls : Array Slot), 5 * n ≤ L → L - 5 * n ≤ fuel → Rel n V U → lv_has ls 4 [(3, .int (nI (5 * n))), (2, .ref (s.heap.size + 97 + 0)), (1, .ref (s.heap.size + 0)), (0, .ref b)] → va_P (dC, dI) cx_cl (gx_w s.heap.size 97 (gx_v (cx_sh cI cR s.heap.size) V)) H → va_P (dC, dI) cx_cl (gx_w (s.heap.size + 97) 22 (gx_v (mx_sh cI cZ (s.heap.size + 97)) U)) H → va_S (fun q => s.heap.size ≤ q) s.heap H locs → W p l e room_1 s m #[Value.ref b] below meth c H locs 119 13328 (lw_Z below #[Value.ref b] s) (F0 m 18 ls []) := by
  obtain ⟨hx, hb, hr, hml, hown, htsL, hXs, hbl, hlk, hg⟩ := C0
  have hown : s.vm.findClass "GasLedgerLaw" = some m.cls := hown
  have hts : ∀ w ∈ cx_tb, w.before #[Value.ref b] s = true := fun w h => htsL w (List.mem_filter.mp h).1
  obtain ⟨h_0, h_fund, h_code, h_preset, h_begin, h_send, h_terms, h_pay, h_seal, h_look, h_slot, h_word, h_root, h_block, h_receipt, h_log, h_total⟩ := hsm
  have hbA : ¬ (s.heap.size ≤ b) := Nat.not_le.mpr hbl
  have hA1 : ∀ q, gx_A s.heap.size 97 q → s.heap.size ≤ q := fun q h => h.1
  have hA2 : ∀ q, gx_A (s.heap.size + 97) 22 q → s.heap.size ≤ q := fun q h => Nat.le_trans (Nat.le_add_right _ _) h.1
  have hp1 : ∀ q, gx_A (s.heap.size + 97) 22 q → ¬ gx_A s.heap.size 97 q := fun q h g => Nat.lt_irrefl _ (Nat.lt_of_lt_of_le g.2 h.1)
  have hp2 : ∀ q, gx_A s.heap.size 97 q → ¬ gx_A (s.heap.size + 97) 22 q := fun q h g => Nat.lt_irrefl _ (Nat.lt_of_lt_of_le h.2 g.1)
  intro fuel
  induction fuel with
  | zero =>
    intro n V U H locs ls hn hf hR hl hP1 hP2 hS
    refine lv_iload_n (pc := 18) hx hb d_Law_18 rfl (lv_at hl 0 rfl) ?_
    refine lv_aload_n (pc := 19) hx hb d_Law_19 rfl (lv_at hl 3 rfl) ?_
    refine va_slen (pc := 20) hx hb hXs hbl hbA hS d_Law_20 ?_
    refine lv_iconst (pc := 21) (v := (5 : Int32)) hx hb d_Law_21 (by decide) ?_
    refine lv_isub (pc := 22) hx hb d_Law_22 ?_
    refine lv_icmp_gt (pc := 23) (tgt := 645) hx hb d_Law_23 (by decide) (fun _ => ?_) (fun g => ?_)
    · refine lv_iconst (pc := 645) (v := (1 : Int32)) hx hb d_Law_645 (by decide) ?_
      refine va_forget (fun q hq => hS.2.2 q hq) ?_
      refine W.widen (k := 600000) (n := 7302250) (by decide) (by decide) ?_
      exact lw_ret hx hb hr hlk d_Law_646
    have hgo := gl_go hL hn g
    exact absurd hf (by omega)
  | succ fuel ih =>
    intro n V U H locs ls hn hf hR hl hP1 hP2 hS
    refine lv_iload_n (pc := 18) hx hb d_Law_18 rfl (lv_at hl 0 rfl) ?_
    refine lv_aload_n (pc := 19) hx hb d_Law_19 rfl (lv_at hl 3 rfl) ?_
    refine va_slen (pc := 20) hx hb hXs hbl hbA hS d_Law_20 ?_
    refine lv_iconst (pc := 21) (v := (5 : Int32)) hx hb d_Law_21 (by decide) ?_
    refine lv_isub (pc := 22) hx hb d_Law_22 ?_
    refine lv_icmp_gt (pc := 23) (tgt := 645) hx hb d_Law_23 (by decide) (fun _ => ?_) (fun g => ?_)
    · refine lv_iconst (pc := 645) (v := (1 : Int32)) hx hb d_Law_645 (by decide) ?_
      refine va_forget (fun q hq => hS.2.2 q hq) ?_
      refine W.widen (k := 600000) (n := 7302250) (by decide) (by decide) ?_
      exact lw_ret hx hb hr hlk d_Law_646
    have hgo := gl_go hL hn g
    have hn5 : n < 512 := by omega
    refine lv_aload_n (pc := 26) hx hb d_Law_26 rfl (lv_at hl 3 rfl) ?_
    refine lv_iload_n (pc := 27) hx hb d_Law_27 rfl (lv_at hl 0 rfl) ?_
    refine gl_ld (pc := 28) hx hb hXs hbl hbA hS 0 hgo hL (by decide) rfl d_Law_28 ?_
    refine lv_bipush (pc := 29) (v := (15 : Int32)) hx hb d_Law_29 (by decide) ?_
    refine lv_iand (pc := 31) hx hb d_Law_31 ?_
    obtain ⟨j, hj, hxj⟩ := pk_andE (xs (5 * n + 0)) (m := 15) 4 (by decide)
    have ihn : ∀ (V1 U1 : gx_M) (H : Heap) (locs : List Loc), Rel (n + 1) V1 U1 → va_P (dC, dI) cx_cl (gx_w s.heap.size 97 (gx_v (cx_sh cI cR s.heap.size) V1)) H → va_P (dC, dI) cx_cl (gx_w (s.heap.size + 97) 22 (gx_v (mx_sh cI cZ (s.heap.size + 97)) U1)) H → va_S (fun q => s.heap.size ≤ q) s.heap H locs → W p l e room_1 s m #[Value.ref b] below meth c H locs 119 13328 (lw_Z below #[Value.ref b] s) (F0 m 639 ls []) := by
      intro V1 U1 H locs hR1 hP1 hP2 hS
      refine lv_iinc (pc := 639) (k := 0) (v := nI (5 * (n + 1))) (lv' := [(3, .int (nI (5 * (n + 1)))), (2, .ref (s.heap.size + 97 + 0)), (1, .ref (s.heap.size + 0)), (0, .ref b)]) hx hb d_Law_639 hl rfl (gl_ix (cn := 5) (by decide)) (by decide) rfl (fun ls hl => ?_)
      refine lv_goto (pc := 642) (tgt := 18) hx hb d_Law_642 (by decide) ?_
      exact ih (n + 1) V1 U1 H locs ls (by omega) (by omega) hR1 hl hP1 hP2 hS
    by_cases hj0 : j = 0
    · subst hj0
      refine lv_tableIn (pc := 32) (off := 80) (tgt := 112) hx hb d_Law_32 (by rw [hxj]; decide) (by rw [hxj]; decide) (by rw [hxj]; rfl) (by decide) ?_
      obtain ⟨r, V1, U1, e1, e2, hR1⟩ := h_fund n V U hn5 hR (xs (5 * n + 1)) (xs (5 * n + 2))
      refine lv_aload_n (pc := 112) hx hb d_Law_112 rfl (lv_at hl 2 rfl) ?_
      refine lv_aload_n (pc := 113) hx hb d_Law_113 rfl (lv_at hl 3 rfl) ?_
      refine lv_iload_n (pc := 114) hx hb d_Law_114 rfl (lv_at hl 0 rfl) ?_
      refine lv_iconst (pc := 115) (v := (1 : Int32)) hx hb d_Law_115 (by decide) ?_
      refine lv_iadd (pc := 116) hx hb d_Law_116 ?_
      refine gl_ld (pc := 117) hx hb hXs hbl hbA hS 1 hgo hL (by decide) (gl_ix (by decide)) d_Law_117 ?_
      refine lv_aload_n (pc := 118) hx hb d_Law_118 rfl (lv_at hl 3 rfl) ?_
      refine lv_iload_n (pc := 119) hx hb d_Law_119 rfl (lv_at hl 0 rfl) ?_
      refine lv_iconst (pc := 120) (v := (2 : Int32)) hx hb d_Law_120 (by decide) ?_
      refine lv_iadd (pc := 121) hx hb d_Law_121 ?_
      refine gl_ld (pc := 122) hx hb hXs hbl hbA hS 2 hgo hL (by decide) (gl_ix (by decide)) d_Law_122 ?_
      refine gl_ci (pc := 123) (va_runV (C := "GasLedger") (As := [.int (xs (5 * n + 1)), .int (xs (5 * n + 2))]) (rest := []) ⟨hx, hb, hml, hown, hts⟩ (k_Led_fund l dC dI cI cR cZ s.heap.size tP tN (by decide) e1) (gx_cw 2 hts cd_Led_fund tb_44 tb_291 tb_292 tb_293 rfl rfl ⟨by decide, by decide, by decide +kernel⟩ ⟨Nat.le_of_ble_eq_true rfl, Nat.le_of_ble_eq_true rfl⟩) (gl_preV (cx_XX s.heap.size tP tN) hXX (Nat.le_refl _) hK hP1 hS (by decide) (sh_Led cI cR s.heap.size (k := 0) (by decide) _) rfl) rfl rfl hl.1 rfl (lv_room (Nat.le_of_ble_eq_true rfl)) d_Law_123 ⟨by decide, by decide⟩) hS hA1 hP2 hp1 (fun H locs hP1 hP2 hS => ?_)
      refine lv_aload_n (pc := 126) hx hb d_Law_126 rfl (lv_at hl 1 rfl) ?_
      refine lv_aload_n (pc := 127) hx hb d_Law_127 rfl (lv_at hl 3 rfl) ?_
      refine lv_iload_n (pc := 128) hx hb d_Law_128 rfl (lv_at hl 0 rfl) ?_
      refine lv_iconst (pc := 129) (v := (1 : Int32)) hx hb d_Law_129 (by decide) ?_
      refine lv_iadd (pc := 130) hx hb d_Law_130 ?_
      refine gl_ld (pc := 131) hx hb hXs hbl hbA hS 1 hgo hL (by decide) (gl_ix (by decide)) d_Law_131 ?_
      refine lv_aload_n (pc := 132) hx hb d_Law_132 rfl (lv_at hl 3 rfl) ?_
      refine lv_iload_n (pc := 133) hx hb d_Law_133 rfl (lv_at hl 0 rfl) ?_
      refine lv_iconst (pc := 134) (v := (2 : Int32)) hx hb d_Law_134 (by decide) ?_
      refine lv_iadd (pc := 135) hx hb d_Law_135 ?_
      refine gl_ld (pc := 136) hx hb hXs hbl hbA hS 2 hgo hL (by decide) (gl_ix (by decide)) d_Law_136 ?_
      refine gl_ci (pc := 137) (va_runV (C := "GasLedgerModel") (As := [.int (xs (5 * n + 1)), .int (xs (5 * n + 2))]) (rest := [.int r]) ⟨hx, hb, hml, hown, hts⟩ (k_Mod_fund l dC dI cI cR cZ (s.heap.size + 97) tP tN (by decide) e2) (gx_cw 2 hts cd_Mod_fund tb_50 tb_720 tb_721 tb_722 rfl rfl ⟨by decide, by decide, by decide +kernel⟩ ⟨Nat.le_of_ble_eq_true rfl, Nat.le_of_ble_eq_true rfl⟩) (gl_preV (mx_XX (s.heap.size + 97)) rfl (Nat.le_add_right _ _) hK hP2 hS (by decide) (sh_Mod cI cZ (s.heap.size + 97) (k := 0) (by decide) _) rfl) rfl rfl hl.1 rfl (lv_room (Nat.le_of_ble_eq_true rfl)) d_Law_137 ⟨by decide, by decide⟩) hS hA2 hP1 hp2 (fun H locs hP2 hP1 hS => ?_)
      refine lv_icmp_eq (pc := 140) (tgt := 639) hx hb d_Law_140 (by decide) (fun _ => ?_) (fun g => absurd rfl g)
      exact ihn V1 U1 H locs hR1 hP1 hP2 hS
    by_cases hj1 : j = 1
    · subst hj1
      refine lv_tableIn (pc := 32) (off := 113) (tgt := 145) hx hb d_Law_32 (by rw [hxj]; decide) (by rw [hxj]; decide) (by rw [hxj]; rfl) (by decide) ?_
      obtain ⟨r, V1, U1, e1, e2, hR1⟩ := h_code n V U hn5 hR (xs (5 * n + 1)) (xs (5 * n + 2))
      refine lv_aload_n (pc := 145) hx hb d_Law_145 rfl (lv_at hl 2 rfl) ?_
      refine lv_aload_n (pc := 146) hx hb d_Law_146 rfl (lv_at hl 3 rfl) ?_
      refine lv_iload_n (pc := 147) hx hb d_Law_147 rfl (lv_at hl 0 rfl) ?_
      refine lv_iconst (pc := 148) (v := (1 : Int32)) hx hb d_Law_148 (by decide) ?_
      refine lv_iadd (pc := 149) hx hb d_Law_149 ?_
      refine gl_ld (pc := 150) hx hb hXs hbl hbA hS 1 hgo hL (by decide) (gl_ix (by decide)) d_Law_150 ?_
      refine lv_aload_n (pc := 151) hx hb d_Law_151 rfl (lv_at hl 3 rfl) ?_
      refine lv_iload_n (pc := 152) hx hb d_Law_152 rfl (lv_at hl 0 rfl) ?_
      refine lv_iconst (pc := 153) (v := (2 : Int32)) hx hb d_Law_153 (by decide) ?_
      refine lv_iadd (pc := 154) hx hb d_Law_154 ?_
      refine gl_ld (pc := 155) hx hb hXs hbl hbA hS 2 hgo hL (by decide) (gl_ix (by decide)) d_Law_155 ?_
      refine gl_ci (pc := 156) (va_runV (C := "GasLedger") (As := [.int (xs (5 * n + 1)), .int (xs (5 * n + 2))]) (rest := []) ⟨hx, hb, hml, hown, hts⟩ (k_Led_code l dC dI cI cR cZ s.heap.size tP tN (by decide) e1) (gx_cw 2 hts cd_Led_code tb_44 tb_299 tb_300 tb_301 rfl rfl ⟨by decide, by decide, by decide +kernel⟩ ⟨Nat.le_of_ble_eq_true rfl, Nat.le_of_ble_eq_true rfl⟩) (gl_preV (cx_XX s.heap.size tP tN) hXX (Nat.le_refl _) hK hP1 hS (by decide) (sh_Led cI cR s.heap.size (k := 0) (by decide) _) rfl) rfl rfl hl.1 rfl (lv_room (Nat.le_of_ble_eq_true rfl)) d_Law_156 ⟨by decide, by decide⟩) hS hA1 hP2 hp1 (fun H locs hP1 hP2 hS => ?_)
      refine lv_aload_n (pc := 159) hx hb d_Law_159 rfl (lv_at hl 1 rfl) ?_
      refine lv_aload_n (pc := 160) hx hb d_Law_160 rfl (lv_at hl 3 rfl) ?_
      refine lv_iload_n (pc := 161) hx hb d_Law_161 rfl (lv_at hl 0 rfl) ?_
      refine lv_iconst (pc := 162) (v := (1 : Int32)) hx hb d_Law_162 (by decide) ?_
      refine lv_iadd (pc := 163) hx hb d_Law_163 ?_
      refine gl_ld (pc := 164) hx hb hXs hbl hbA hS 1 hgo hL (by decide) (gl_ix (by decide)) d_Law_164 ?_
      refine lv_aload_n (pc := 165) hx hb d_Law_165 rfl (lv_at hl 3 rfl) ?_
      refine lv_iload_n (pc := 166) hx hb d_Law_166 rfl (lv_at hl 0 rfl) ?_
      refine lv_iconst (pc := 167) (v := (2 : Int32)) hx hb d_Law_167 (by decide) ?_
      refine lv_iadd (pc := 168) hx hb d_Law_168 ?_
      refine gl_ld (pc := 169) hx hb hXs hbl hbA hS 2 hgo hL (by decide) (gl_ix (by decide)) d_Law_169 ?_
      refine gl_ci (pc := 170) (va_runV (C := "GasLedgerModel") (As := [.int (xs (5 * n + 1)), .int (xs (5 * n + 2))]) (rest := [.int r]) ⟨hx, hb, hml, hown, hts⟩ (k_Mod_code l dC dI cI cR cZ (s.heap.size + 97) tP tN (by decide) e2) (gx_cw 2 hts cd_Mod_code tb_50 tb_728 tb_729 tb_730 rfl rfl ⟨by decide, by decide, by decide +kernel⟩ ⟨Nat.le_of_ble_eq_true rfl, Nat.le_of_ble_eq_true rfl⟩) (gl_preV (mx_XX (s.heap.size + 97)) rfl (Nat.le_add_right _ _) hK hP2 hS (by decide) (sh_Mod cI cZ (s.heap.size + 97) (k := 0) (by decide) _) rfl) rfl rfl hl.1 rfl (lv_room (Nat.le_of_ble_eq_true rfl)) d_Law_170 ⟨by decide, by decide⟩) hS hA2 hP1 hp2 (fun H locs hP2 hP1 hS => ?_)
      refine lv_icmp_eq (pc := 173) (tgt := 639) hx hb d_Law_173 (by decide) (fun _ => ?_) (fun g => absurd rfl g)
      exact ihn V1 U1 H locs hR1 hP1 hP2 hS
    by_cases hj2 : j = 2
    · subst hj2
      refine lv_tableIn (pc := 32) (off := 146) (tgt := 178) hx hb d_Law_32 (by rw [hxj]; decide) (by rw [hxj]; decide) (by rw [hxj]; rfl) (by decide) ?_
      obtain ⟨r, V1, U1, e1, e2, hR1⟩ := h_preset n V U hn5 hR (xs (5 * n + 1)) (xs (5 * n + 2)) (xs (5 * n + 3))
      refine lv_aload_n (pc := 178) hx hb d_Law_178 rfl (lv_at hl 2 rfl) ?_
      refine lv_aload_n (pc := 179) hx hb d_Law_179 rfl (lv_at hl 3 rfl) ?_
      refine lv_iload_n (pc := 180) hx hb d_Law_180 rfl (lv_at hl 0 rfl) ?_
      refine lv_iconst (pc := 181) (v := (1 : Int32)) hx hb d_Law_181 (by decide) ?_
      refine lv_iadd (pc := 182) hx hb d_Law_182 ?_
      refine gl_ld (pc := 183) hx hb hXs hbl hbA hS 1 hgo hL (by decide) (gl_ix (by decide)) d_Law_183 ?_
      refine lv_aload_n (pc := 184) hx hb d_Law_184 rfl (lv_at hl 3 rfl) ?_
      refine lv_iload_n (pc := 185) hx hb d_Law_185 rfl (lv_at hl 0 rfl) ?_
      refine lv_iconst (pc := 186) (v := (2 : Int32)) hx hb d_Law_186 (by decide) ?_
      refine lv_iadd (pc := 187) hx hb d_Law_187 ?_
      refine gl_ld (pc := 188) hx hb hXs hbl hbA hS 2 hgo hL (by decide) (gl_ix (by decide)) d_Law_188 ?_
      refine lv_aload_n (pc := 189) hx hb d_Law_189 rfl (lv_at hl 3 rfl) ?_
      refine lv_iload_n (pc := 190) hx hb d_Law_190 rfl (lv_at hl 0 rfl) ?_
      refine lv_iconst (pc := 191) (v := (3 : Int32)) hx hb d_Law_191 (by decide) ?_
      refine lv_iadd (pc := 192) hx hb d_Law_192 ?_
      refine gl_ld (pc := 193) hx hb hXs hbl hbA hS 3 hgo hL (by decide) (gl_ix (by decide)) d_Law_193 ?_
      refine gl_ci (pc := 194) (va_runV (C := "GasLedger") (As := [.int (xs (5 * n + 1)), .int (xs (5 * n + 2)), .int (xs (5 * n + 3))]) (rest := []) ⟨hx, hb, hml, hown, hts⟩ (k_Led_preset l dC dI cI cR cZ s.heap.size tP tN (by decide) e1) (gx_cw 3 hts cd_Led_preset tb_44 tb_307 tb_308 tb_309 rfl rfl ⟨by decide, by decide, by decide +kernel⟩ ⟨Nat.le_of_ble_eq_true rfl, Nat.le_of_ble_eq_true rfl⟩) (gl_preV (cx_XX s.heap.size tP tN) hXX (Nat.le_refl _) hK hP1 hS (by decide) (sh_Led cI cR s.heap.size (k := 0) (by decide) _) rfl) rfl rfl hl.1 rfl (lv_room (Nat.le_of_ble_eq_true rfl)) d_Law_194 ⟨by decide, by decide⟩) hS hA1 hP2 hp1 (fun H locs hP1 hP2 hS => ?_)
      refine lv_aload_n (pc := 197) hx hb d_Law_197 rfl (lv_at hl 1 rfl) ?_
      refine lv_aload_n (pc := 198) hx hb d_Law_198 rfl (lv_at hl 3 rfl) ?_
      refine lv_iload_n (pc := 199) hx hb d_Law_199 rfl (lv_at hl 0 rfl) ?_
      refine lv_iconst (pc := 200) (v := (1 : Int32)) hx hb d_Law_200 (by decide) ?_
      refine lv_iadd (pc := 201) hx hb d_Law_201 ?_
      refine gl_ld (pc := 202) hx hb hXs hbl hbA hS 1 hgo hL (by decide) (gl_ix (by decide)) d_Law_202 ?_
      refine lv_aload_n (pc := 203) hx hb d_Law_203 rfl (lv_at hl 3 rfl) ?_
      refine lv_iload_n (pc := 204) hx hb d_Law_204 rfl (lv_at hl 0 rfl) ?_
      refine lv_iconst (pc := 205) (v := (2 : Int32)) hx hb d_Law_205 (by decide) ?_
      refine lv_iadd (pc := 206) hx hb d_Law_206 ?_
      refine gl_ld (pc := 207) hx hb hXs hbl hbA hS 2 hgo hL (by decide) (gl_ix (by decide)) d_Law_207 ?_
      refine lv_aload_n (pc := 208) hx hb d_Law_208 rfl (lv_at hl 3 rfl) ?_
      refine lv_iload_n (pc := 209) hx hb d_Law_209 rfl (lv_at hl 0 rfl) ?_
      refine lv_iconst (pc := 210) (v := (3 : Int32)) hx hb d_Law_210 (by decide) ?_
      refine lv_iadd (pc := 211) hx hb d_Law_211 ?_
      refine gl_ld (pc := 212) hx hb hXs hbl hbA hS 3 hgo hL (by decide) (gl_ix (by decide)) d_Law_212 ?_
      refine gl_ci (pc := 213) (va_runV (C := "GasLedgerModel") (As := [.int (xs (5 * n + 1)), .int (xs (5 * n + 2)), .int (xs (5 * n + 3))]) (rest := [.int r]) ⟨hx, hb, hml, hown, hts⟩ (k_Mod_preset l dC dI cI cR cZ (s.heap.size + 97) tP tN (by decide) e2) (gx_cw 3 hts cd_Mod_preset tb_50 tb_732 tb_733 tb_734 rfl rfl ⟨by decide, by decide, by decide +kernel⟩ ⟨Nat.le_of_ble_eq_true rfl, Nat.le_of_ble_eq_true rfl⟩) (gl_preV (mx_XX (s.heap.size + 97)) rfl (Nat.le_add_right _ _) hK hP2 hS (by decide) (sh_Mod cI cZ (s.heap.size + 97) (k := 0) (by decide) _) rfl) rfl rfl hl.1 rfl (lv_room (Nat.le_of_ble_eq_true rfl)) d_Law_213 ⟨by decide, by decide⟩) hS hA2 hP1 hp2 (fun H locs hP2 hP1 hS => ?_)
      refine lv_icmp_eq (pc := 216) (tgt := 639) hx hb d_Law_216 (by decide) (fun _ => ?_) (fun g => absurd rfl g)
      exact ihn V1 U1 H locs hR1 hP1 hP2 hS
    by_cases hj3 : j = 3
    · subst hj3
      refine lv_tableIn (pc := 32) (off := 189) (tgt := 221) hx hb d_Law_32 (by rw [hxj]; decide) (by rw [hxj]; decide) (by rw [hxj]; rfl) (by decide) ?_
      obtain ⟨r, V1, U1, e1, e2, hR1⟩ := h_begin n V U hn5 hR (xs (5 * n + 1)) (xs (5 * n + 2))
      refine lv_aload_n (pc := 221) hx hb d_Law_221 rfl (lv_at hl 2 rfl) ?_
      refine lv_aload_n (pc := 222) hx hb d_Law_222 rfl (lv_at hl 3 rfl) ?_
      refine lv_iload_n (pc := 223) hx hb d_Law_223 rfl (lv_at hl 0 rfl) ?_
      refine lv_iconst (pc := 224) (v := (1 : Int32)) hx hb d_Law_224 (by decide) ?_
      refine lv_iadd (pc := 225) hx hb d_Law_225 ?_
      refine gl_ld (pc := 226) hx hb hXs hbl hbA hS 1 hgo hL (by decide) (gl_ix (by decide)) d_Law_226 ?_
      refine lv_aload_n (pc := 227) hx hb d_Law_227 rfl (lv_at hl 3 rfl) ?_
      refine lv_iload_n (pc := 228) hx hb d_Law_228 rfl (lv_at hl 0 rfl) ?_
      refine lv_iconst (pc := 229) (v := (2 : Int32)) hx hb d_Law_229 (by decide) ?_
      refine lv_iadd (pc := 230) hx hb d_Law_230 ?_
      refine gl_ld (pc := 231) hx hb hXs hbl hbA hS 2 hgo hL (by decide) (gl_ix (by decide)) d_Law_231 ?_
      refine gl_ci (pc := 232) (va_runV (C := "GasLedger") (As := [.int (xs (5 * n + 1)), .int (xs (5 * n + 2))]) (rest := []) ⟨hx, hb, hml, hown, hts⟩ (k_Led_begin l dC dI cI cR cZ s.heap.size tP tN (by decide) e1) (gx_cw 2 hts cd_Led_begin tb_44 tb_314 tb_315 tb_316 rfl rfl ⟨by decide, by decide, by decide +kernel⟩ ⟨Nat.le_of_ble_eq_true rfl, Nat.le_of_ble_eq_true rfl⟩) (gl_preV (cx_XX s.heap.size tP tN) hXX (Nat.le_refl _) hK hP1 hS (by decide) (sh_Led cI cR s.heap.size (k := 0) (by decide) _) rfl) rfl rfl hl.1 rfl (lv_room (Nat.le_of_ble_eq_true rfl)) d_Law_232 ⟨by decide, by decide⟩) hS hA1 hP2 hp1 (fun H locs hP1 hP2 hS => ?_)
      refine lv_aload_n (pc := 235) hx hb d_Law_235 rfl (lv_at hl 1 rfl) ?_
      refine lv_aload_n (pc := 236) hx hb d_Law_236 rfl (lv_at hl 3 rfl) ?_
      refine lv_iload_n (pc := 237) hx hb d_Law_237 rfl (lv_at hl 0 rfl) ?_
      refine lv_iconst (pc := 238) (v := (1 : Int32)) hx hb d_Law_238 (by decide) ?_
      refine lv_iadd (pc := 239) hx hb d_Law_239 ?_
      refine gl_ld (pc := 240) hx hb hXs hbl hbA hS 1 hgo hL (by decide) (gl_ix (by decide)) d_Law_240 ?_
      refine lv_aload_n (pc := 241) hx hb d_Law_241 rfl (lv_at hl 3 rfl) ?_
      refine lv_iload_n (pc := 242) hx hb d_Law_242 rfl (lv_at hl 0 rfl) ?_
      refine lv_iconst (pc := 243) (v := (2 : Int32)) hx hb d_Law_243 (by decide) ?_
      refine lv_iadd (pc := 244) hx hb d_Law_244 ?_
      refine gl_ld (pc := 245) hx hb hXs hbl hbA hS 2 hgo hL (by decide) (gl_ix (by decide)) d_Law_245 ?_
      refine gl_ci (pc := 246) (va_runV (C := "GasLedgerModel") (As := [.int (xs (5 * n + 1)), .int (xs (5 * n + 2))]) (rest := [.int r]) ⟨hx, hb, hml, hown, hts⟩ (k_Mod_begin l dC dI cI cR cZ (s.heap.size + 97) tP tN (by decide) e2) (gx_cw 2 hts cd_Mod_begin tb_50 tb_852 tb_853 tb_854 rfl rfl ⟨by decide, by decide, by decide +kernel⟩ ⟨Nat.le_of_ble_eq_true rfl, Nat.le_of_ble_eq_true rfl⟩) (gl_preV (mx_XX (s.heap.size + 97)) rfl (Nat.le_add_right _ _) hK hP2 hS (by decide) (sh_Mod cI cZ (s.heap.size + 97) (k := 0) (by decide) _) rfl) rfl rfl hl.1 rfl (lv_room (Nat.le_of_ble_eq_true rfl)) d_Law_246 ⟨by decide, by decide⟩) hS hA2 hP1 hp2 (fun H locs hP2 hP1 hS => ?_)
      refine lv_icmp_eq (pc := 249) (tgt := 639) hx hb d_Law_249 (by decide) (fun _ => ?_) (fun g => absurd rfl g)
      exact ihn V1 U1 H locs hR1 hP1 hP2 hS
    by_cases hj4 : j = 4
    · subst hj4
      refine lv_tableIn (pc := 32) (off := 222) (tgt := 254) hx hb d_Law_32 (by rw [hxj]; decide) (by rw [hxj]; decide) (by rw [hxj]; rfl) (by decide) ?_
      obtain ⟨r, V1, U1, e1, e2, hR1⟩ := h_send n V U hn5 hR (xs (5 * n + 1)) (xs (5 * n + 2)) (xs (5 * n + 3)) (xs (5 * n + 4))
      refine lv_aload_n (pc := 254) hx hb d_Law_254 rfl (lv_at hl 2 rfl) ?_
      refine lv_aload_n (pc := 255) hx hb d_Law_255 rfl (lv_at hl 3 rfl) ?_
      refine lv_iload_n (pc := 256) hx hb d_Law_256 rfl (lv_at hl 0 rfl) ?_
      refine lv_iconst (pc := 257) (v := (1 : Int32)) hx hb d_Law_257 (by decide) ?_
      refine lv_iadd (pc := 258) hx hb d_Law_258 ?_
      refine gl_ld (pc := 259) hx hb hXs hbl hbA hS 1 hgo hL (by decide) (gl_ix (by decide)) d_Law_259 ?_
      refine lv_aload_n (pc := 260) hx hb d_Law_260 rfl (lv_at hl 3 rfl) ?_
      refine lv_iload_n (pc := 261) hx hb d_Law_261 rfl (lv_at hl 0 rfl) ?_
      refine lv_iconst (pc := 262) (v := (2 : Int32)) hx hb d_Law_262 (by decide) ?_
      refine lv_iadd (pc := 263) hx hb d_Law_263 ?_
      refine gl_ld (pc := 264) hx hb hXs hbl hbA hS 2 hgo hL (by decide) (gl_ix (by decide)) d_Law_264 ?_
      refine lv_aload_n (pc := 265) hx hb d_Law_265 rfl (lv_at hl 3 rfl) ?_
      refine lv_iload_n (pc := 266) hx hb d_Law_266 rfl (lv_at hl 0 rfl) ?_
      refine lv_iconst (pc := 267) (v := (3 : Int32)) hx hb d_Law_267 (by decide) ?_
      refine lv_iadd (pc := 268) hx hb d_Law_268 ?_
      refine gl_ld (pc := 269) hx hb hXs hbl hbA hS 3 hgo hL (by decide) (gl_ix (by decide)) d_Law_269 ?_
      refine lv_aload_n (pc := 270) hx hb d_Law_270 rfl (lv_at hl 3 rfl) ?_
      refine lv_iload_n (pc := 271) hx hb d_Law_271 rfl (lv_at hl 0 rfl) ?_
      refine lv_iconst (pc := 272) (v := (4 : Int32)) hx hb d_Law_272 (by decide) ?_
      refine lv_iadd (pc := 273) hx hb d_Law_273 ?_
      refine gl_ld (pc := 274) hx hb hXs hbl hbA hS 4 hgo hL (by decide) (gl_ix (by decide)) d_Law_274 ?_
      refine gl_ci (pc := 275) (va_runV (C := "GasLedger") (As := [.int (xs (5 * n + 1)), .int (xs (5 * n + 2)), .int (xs (5 * n + 3)), .int (xs (5 * n + 4))]) (rest := []) ⟨hx, hb, hml, hown, hts⟩ (k_Led_send l dC dI cI cR cZ s.heap.size tP tN (by decide) e1) (gx_cw 4 hts cd_Led_send tb_44 tb_329 tb_330 tb_331 rfl rfl ⟨by decide, by decide, by decide +kernel⟩ ⟨Nat.le_of_ble_eq_true rfl, Nat.le_of_ble_eq_true rfl⟩) (gl_preV (cx_XX s.heap.size tP tN) hXX (Nat.le_refl _) hK hP1 hS (by decide) (sh_Led cI cR s.heap.size (k := 0) (by decide) _) rfl) rfl rfl hl.1 rfl (lv_room (Nat.le_of_ble_eq_true rfl)) d_Law_275 ⟨by decide, by decide⟩) hS hA1 hP2 hp1 (fun H locs hP1 hP2 hS => ?_)
      refine lv_aload_n (pc := 278) hx hb d_Law_278 rfl (lv_at hl 1 rfl) ?_
      refine lv_aload_n (pc := 279) hx hb d_Law_279 rfl (lv_at hl 3 rfl) ?_
      refine lv_iload_n (pc := 280) hx hb d_Law_280 rfl (lv_at hl 0 rfl) ?_
      refine lv_iconst (pc := 281) (v := (1 : Int32)) hx hb d_Law_281 (by decide) ?_
      refine lv_iadd (pc := 282) hx hb d_Law_282 ?_
      refine gl_ld (pc := 283) hx hb hXs hbl hbA hS 1 hgo hL (by decide) (gl_ix (by decide)) d_Law_283 ?_
      refine lv_aload_n (pc := 284) hx hb d_Law_284 rfl (lv_at hl 3 rfl) ?_
      refine lv_iload_n (pc := 285) hx hb d_Law_285 rfl (lv_at hl 0 rfl) ?_
      refine lv_iconst (pc := 286) (v := (2 : Int32)) hx hb d_Law_286 (by decide) ?_
      refine lv_iadd (pc := 287) hx hb d_Law_287 ?_
      refine gl_ld (pc := 288) hx hb hXs hbl hbA hS 2 hgo hL (by decide) (gl_ix (by decide)) d_Law_288 ?_
      refine lv_aload_n (pc := 289) hx hb d_Law_289 rfl (lv_at hl 3 rfl) ?_
      refine lv_iload_n (pc := 290) hx hb d_Law_290 rfl (lv_at hl 0 rfl) ?_
      refine lv_iconst (pc := 291) (v := (3 : Int32)) hx hb d_Law_291 (by decide) ?_
      refine lv_iadd (pc := 292) hx hb d_Law_292 ?_
      refine gl_ld (pc := 293) hx hb hXs hbl hbA hS 3 hgo hL (by decide) (gl_ix (by decide)) d_Law_293 ?_
      refine lv_aload_n (pc := 294) hx hb d_Law_294 rfl (lv_at hl 3 rfl) ?_
      refine lv_iload_n (pc := 295) hx hb d_Law_295 rfl (lv_at hl 0 rfl) ?_
      refine lv_iconst (pc := 296) (v := (4 : Int32)) hx hb d_Law_296 (by decide) ?_
      refine lv_iadd (pc := 297) hx hb d_Law_297 ?_
      refine gl_ld (pc := 298) hx hb hXs hbl hbA hS 4 hgo hL (by decide) (gl_ix (by decide)) d_Law_298 ?_
      refine gl_ci (pc := 299) (va_runV (C := "GasLedgerModel") (As := [.int (xs (5 * n + 1)), .int (xs (5 * n + 2)), .int (xs (5 * n + 3)), .int (xs (5 * n + 4))]) (rest := [.int r]) ⟨hx, hb, hml, hown, hts⟩ (k_Mod_send l dC dI cI cR cZ (s.heap.size + 97) tP tN (by decide) e2) (gx_cw 4 hts cd_Mod_send tb_50 tb_768 tb_769 tb_770 rfl rfl ⟨by decide, by decide, by decide +kernel⟩ ⟨Nat.le_of_ble_eq_true rfl, Nat.le_of_ble_eq_true rfl⟩) (gl_preV (mx_XX (s.heap.size + 97)) rfl (Nat.le_add_right _ _) hK hP2 hS (by decide) (sh_Mod cI cZ (s.heap.size + 97) (k := 0) (by decide) _) rfl) rfl rfl hl.1 rfl (lv_room (Nat.le_of_ble_eq_true rfl)) d_Law_299 ⟨by decide, by decide⟩) hS hA2 hP1 hp2 (fun H locs hP2 hP1 hS => ?_)
      refine lv_icmp_eq (pc := 302) (tgt := 639) hx hb d_Law_302 (by decide) (fun _ => ?_) (fun g => absurd rfl g)
      exact ihn V1 U1 H locs hR1 hP1 hP2 hS
    by_cases hj5 : j = 5
    · subst hj5
      refine lv_tableIn (pc := 32) (off := 275) (tgt := 307) hx hb d_Law_32 (by rw [hxj]; decide) (by rw [hxj]; decide) (by rw [hxj]; rfl) (by decide) ?_
      obtain ⟨V1, U1, e1, e2, hR1⟩ := h_terms n V U hn5 hR (xs (5 * n + 1)) (xs (5 * n + 2)) (xs (5 * n + 3))
      refine lv_aload_n (pc := 307) hx hb d_Law_307 rfl (lv_at hl 2 rfl) ?_
      refine lv_aload_n (pc := 308) hx hb d_Law_308 rfl (lv_at hl 3 rfl) ?_
      refine lv_iload_n (pc := 309) hx hb d_Law_309 rfl (lv_at hl 0 rfl) ?_
      refine lv_iconst (pc := 310) (v := (1 : Int32)) hx hb d_Law_310 (by decide) ?_
      refine lv_iadd (pc := 311) hx hb d_Law_311 ?_
      refine gl_ld (pc := 312) hx hb hXs hbl hbA hS 1 hgo hL (by decide) (gl_ix (by decide)) d_Law_312 ?_
      refine lv_aload_n (pc := 313) hx hb d_Law_313 rfl (lv_at hl 3 rfl) ?_
      refine lv_iload_n (pc := 314) hx hb d_Law_314 rfl (lv_at hl 0 rfl) ?_
      refine lv_iconst (pc := 315) (v := (2 : Int32)) hx hb d_Law_315 (by decide) ?_
      refine lv_iadd (pc := 316) hx hb d_Law_316 ?_
      refine gl_ld (pc := 317) hx hb hXs hbl hbA hS 2 hgo hL (by decide) (gl_ix (by decide)) d_Law_317 ?_
      refine lv_aload_n (pc := 318) hx hb d_Law_318 rfl (lv_at hl 3 rfl) ?_
      refine lv_iload_n (pc := 319) hx hb d_Law_319 rfl (lv_at hl 0 rfl) ?_
      refine lv_iconst (pc := 320) (v := (3 : Int32)) hx hb d_Law_320 (by decide) ?_
      refine lv_iadd (pc := 321) hx hb d_Law_321 ?_
      refine gl_ld (pc := 322) hx hb hXs hbl hbA hS 3 hgo hL (by decide) (gl_ix (by decide)) d_Law_322 ?_
      refine gl_cv (pc := 323) (va_runV (C := "GasLedger") (As := [.int (xs (5 * n + 1)), .int (xs (5 * n + 2)), .int (xs (5 * n + 3))]) (rest := []) ⟨hx, hb, hml, hown, hts⟩ (k_Led_terms l dC dI cI cR cZ s.heap.size tP tN (by decide) e1) (gx_cw 3 hts cd_Led_terms tb_44 tb_514 tb_515 tb_516 rfl rfl ⟨by decide, by decide, by decide +kernel⟩ ⟨Nat.le_of_ble_eq_true rfl, Nat.le_of_ble_eq_true rfl⟩) (gl_preV (cx_XX s.heap.size tP tN) hXX (Nat.le_refl _) hK hP1 hS (by decide) (sh_Led cI cR s.heap.size (k := 0) (by decide) _) rfl) rfl rfl hl.1 rfl (lv_room (Nat.le_of_ble_eq_true rfl)) d_Law_323 ⟨by decide, by decide⟩) hS hA1 hP2 hp1 (fun H locs hP1 hP2 hS => ?_)
      refine lv_aload_n (pc := 326) hx hb d_Law_326 rfl (lv_at hl 1 rfl) ?_
      refine lv_aload_n (pc := 327) hx hb d_Law_327 rfl (lv_at hl 3 rfl) ?_
      refine lv_iload_n (pc := 328) hx hb d_Law_328 rfl (lv_at hl 0 rfl) ?_
      refine lv_iconst (pc := 329) (v := (1 : Int32)) hx hb d_Law_329 (by decide) ?_
      refine lv_iadd (pc := 330) hx hb d_Law_330 ?_
      refine gl_ld (pc := 331) hx hb hXs hbl hbA hS 1 hgo hL (by decide) (gl_ix (by decide)) d_Law_331 ?_
      refine lv_aload_n (pc := 332) hx hb d_Law_332 rfl (lv_at hl 3 rfl) ?_
      refine lv_iload_n (pc := 333) hx hb d_Law_333 rfl (lv_at hl 0 rfl) ?_
      refine lv_iconst (pc := 334) (v := (2 : Int32)) hx hb d_Law_334 (by decide) ?_
      refine lv_iadd (pc := 335) hx hb d_Law_335 ?_
      refine gl_ld (pc := 336) hx hb hXs hbl hbA hS 2 hgo hL (by decide) (gl_ix (by decide)) d_Law_336 ?_
      refine lv_aload_n (pc := 337) hx hb d_Law_337 rfl (lv_at hl 3 rfl) ?_
      refine lv_iload_n (pc := 338) hx hb d_Law_338 rfl (lv_at hl 0 rfl) ?_
      refine lv_iconst (pc := 339) (v := (3 : Int32)) hx hb d_Law_339 (by decide) ?_
      refine lv_iadd (pc := 340) hx hb d_Law_340 ?_
      refine gl_ld (pc := 341) hx hb hXs hbl hbA hS 3 hgo hL (by decide) (gl_ix (by decide)) d_Law_341 ?_
      refine gl_cv (pc := 342) (va_runV (C := "GasLedgerModel") (As := [.int (xs (5 * n + 1)), .int (xs (5 * n + 2)), .int (xs (5 * n + 3))]) (rest := []) ⟨hx, hb, hml, hown, hts⟩ (k_Mod_terms l dC dI cI cR cZ (s.heap.size + 97) tP tN (by decide) e2) (gx_cw 3 hts cd_Mod_terms tb_50 tb_764 tb_765 tb_766 rfl rfl ⟨by decide, by decide, by decide +kernel⟩ ⟨Nat.le_of_ble_eq_true rfl, Nat.le_of_ble_eq_true rfl⟩) (gl_preV (mx_XX (s.heap.size + 97)) rfl (Nat.le_add_right _ _) hK hP2 hS (by decide) (sh_Mod cI cZ (s.heap.size + 97) (k := 0) (by decide) _) rfl) rfl rfl hl.1 rfl (lv_room (Nat.le_of_ble_eq_true rfl)) d_Law_342 ⟨by decide, by decide⟩) hS hA2 hP1 hp2 (fun H locs hP2 hP1 hS => ?_)
      refine lv_goto (pc := 345) (tgt := 639) hx hb d_Law_345 (by decide) ?_
      exact ihn V1 U1 H locs hR1 hP1 hP2 hS
    by_cases hj6 : j = 6
    · subst hj6
      refine lv_tableIn (pc := 32) (off := 316) (tgt := 348) hx hb d_Law_32 (by rw [hxj]; decide) (by rw [hxj]; decide) (by rw [hxj]; rfl) (by decide) ?_
      obtain ⟨r, V1, U1, e1, e2, hR1⟩ := h_pay n V U hn5 hR (xs (5 * n + 1)) (xs (5 * n + 2)) (xs (5 * n + 3)) (xs (5 * n + 4))
      refine lv_aload_n (pc := 348) hx hb d_Law_348 rfl (lv_at hl 2 rfl) ?_
      refine lv_aload_n (pc := 349) hx hb d_Law_349 rfl (lv_at hl 3 rfl) ?_
      refine lv_iload_n (pc := 350) hx hb d_Law_350 rfl (lv_at hl 0 rfl) ?_
      refine lv_iconst (pc := 351) (v := (1 : Int32)) hx hb d_Law_351 (by decide) ?_
      refine lv_iadd (pc := 352) hx hb d_Law_352 ?_
      refine gl_ld (pc := 353) hx hb hXs hbl hbA hS 1 hgo hL (by decide) (gl_ix (by decide)) d_Law_353 ?_
      refine lv_aload_n (pc := 354) hx hb d_Law_354 rfl (lv_at hl 3 rfl) ?_
      refine lv_iload_n (pc := 355) hx hb d_Law_355 rfl (lv_at hl 0 rfl) ?_
      refine lv_iconst (pc := 356) (v := (2 : Int32)) hx hb d_Law_356 (by decide) ?_
      refine lv_iadd (pc := 357) hx hb d_Law_357 ?_
      refine gl_ld (pc := 358) hx hb hXs hbl hbA hS 2 hgo hL (by decide) (gl_ix (by decide)) d_Law_358 ?_
      refine lv_aload_n (pc := 359) hx hb d_Law_359 rfl (lv_at hl 3 rfl) ?_
      refine lv_iload_n (pc := 360) hx hb d_Law_360 rfl (lv_at hl 0 rfl) ?_
      refine lv_iconst (pc := 361) (v := (3 : Int32)) hx hb d_Law_361 (by decide) ?_
      refine lv_iadd (pc := 362) hx hb d_Law_362 ?_
      refine gl_ld (pc := 363) hx hb hXs hbl hbA hS 3 hgo hL (by decide) (gl_ix (by decide)) d_Law_363 ?_
      refine lv_aload_n (pc := 364) hx hb d_Law_364 rfl (lv_at hl 3 rfl) ?_
      refine lv_iload_n (pc := 365) hx hb d_Law_365 rfl (lv_at hl 0 rfl) ?_
      refine lv_iconst (pc := 366) (v := (4 : Int32)) hx hb d_Law_366 (by decide) ?_
      refine lv_iadd (pc := 367) hx hb d_Law_367 ?_
      refine gl_ld (pc := 368) hx hb hXs hbl hbA hS 4 hgo hL (by decide) (gl_ix (by decide)) d_Law_368 ?_
      refine gl_ci (pc := 369) (va_runV (C := "GasLedger") (As := [.int (xs (5 * n + 1)), .int (xs (5 * n + 2)), .int (xs (5 * n + 3)), .int (xs (5 * n + 4))]) (rest := []) ⟨hx, hb, hml, hown, hts⟩ (k_Led_pay l dC dI cI cR cZ s.heap.size tP tN (by decide) e1) (gx_cw 4 hts cd_Led_pay tb_44 tb_518 tb_519 tb_520 rfl rfl ⟨by decide, by decide, by decide +kernel⟩ ⟨Nat.le_of_ble_eq_true rfl, Nat.le_of_ble_eq_true rfl⟩) (gl_preV (cx_XX s.heap.size tP tN) hXX (Nat.le_refl _) hK hP1 hS (by decide) (sh_Led cI cR s.heap.size (k := 0) (by decide) _) rfl) rfl rfl hl.1 rfl (lv_room (Nat.le_of_ble_eq_true rfl)) d_Law_369 ⟨by decide, by decide⟩) hS hA1 hP2 hp1 (fun H locs hP1 hP2 hS => ?_)
      refine lv_aload_n (pc := 372) hx hb d_Law_372 rfl (lv_at hl 1 rfl) ?_
      refine lv_aload_n (pc := 373) hx hb d_Law_373 rfl (lv_at hl 3 rfl) ?_
      refine lv_iload_n (pc := 374) hx hb d_Law_374 rfl (lv_at hl 0 rfl) ?_
      refine lv_iconst (pc := 375) (v := (1 : Int32)) hx hb d_Law_375 (by decide) ?_
      refine lv_iadd (pc := 376) hx hb d_Law_376 ?_
      refine gl_ld (pc := 377) hx hb hXs hbl hbA hS 1 hgo hL (by decide) (gl_ix (by decide)) d_Law_377 ?_
      refine lv_aload_n (pc := 378) hx hb d_Law_378 rfl (lv_at hl 3 rfl) ?_
      refine lv_iload_n (pc := 379) hx hb d_Law_379 rfl (lv_at hl 0 rfl) ?_
      refine lv_iconst (pc := 380) (v := (2 : Int32)) hx hb d_Law_380 (by decide) ?_
      refine lv_iadd (pc := 381) hx hb d_Law_381 ?_
      refine gl_ld (pc := 382) hx hb hXs hbl hbA hS 2 hgo hL (by decide) (gl_ix (by decide)) d_Law_382 ?_
      refine lv_aload_n (pc := 383) hx hb d_Law_383 rfl (lv_at hl 3 rfl) ?_
      refine lv_iload_n (pc := 384) hx hb d_Law_384 rfl (lv_at hl 0 rfl) ?_
      refine lv_iconst (pc := 385) (v := (3 : Int32)) hx hb d_Law_385 (by decide) ?_
      refine lv_iadd (pc := 386) hx hb d_Law_386 ?_
      refine gl_ld (pc := 387) hx hb hXs hbl hbA hS 3 hgo hL (by decide) (gl_ix (by decide)) d_Law_387 ?_
      refine lv_aload_n (pc := 388) hx hb d_Law_388 rfl (lv_at hl 3 rfl) ?_
      refine lv_iload_n (pc := 389) hx hb d_Law_389 rfl (lv_at hl 0 rfl) ?_
      refine lv_iconst (pc := 390) (v := (4 : Int32)) hx hb d_Law_390 (by decide) ?_
      refine lv_iadd (pc := 391) hx hb d_Law_391 ?_
      refine gl_ld (pc := 392) hx hb hXs hbl hbA hS 4 hgo hL (by decide) (gl_ix (by decide)) d_Law_392 ?_
      refine gl_ci (pc := 393) (va_runV (C := "GasLedgerModel") (As := [.int (xs (5 * n + 1)), .int (xs (5 * n + 2)), .int (xs (5 * n + 3)), .int (xs (5 * n + 4))]) (rest := [.int r]) ⟨hx, hb, hml, hown, hts⟩ (k_Mod_pay l dC dI cI cR cZ (s.heap.size + 97) tP tN (by decide) e2) (gx_cw 4 hts cd_Mod_pay tb_50 tb_847 tb_848 tb_849 rfl rfl ⟨by decide, by decide, by decide +kernel⟩ ⟨Nat.le_of_ble_eq_true rfl, Nat.le_of_ble_eq_true rfl⟩) (gl_preV (mx_XX (s.heap.size + 97)) rfl (Nat.le_add_right _ _) hK hP2 hS (by decide) (sh_Mod cI cZ (s.heap.size + 97) (k := 0) (by decide) _) rfl) rfl rfl hl.1 rfl (lv_room (Nat.le_of_ble_eq_true rfl)) d_Law_393 ⟨by decide, by decide⟩) hS hA2 hP1 hp2 (fun H locs hP2 hP1 hS => ?_)
      refine lv_icmp_eq (pc := 396) (tgt := 639) hx hb d_Law_396 (by decide) (fun _ => ?_) (fun g => absurd rfl g)
      exact ihn V1 U1 H locs hR1 hP1 hP2 hS
    by_cases hj7 : j = 7
    · subst hj7
      refine lv_tableIn (pc := 32) (off := 369) (tgt := 401) hx hb d_Law_32 (by rw [hxj]; decide) (by rw [hxj]; decide) (by rw [hxj]; rfl) (by decide) ?_
      obtain ⟨r, V1, U1, e1, e2, hR1⟩ := h_seal n V U hn5 hR (xs (5 * n + 1))
      refine lv_aload_n (pc := 401) hx hb d_Law_401 rfl (lv_at hl 2 rfl) ?_
      refine lv_aload_n (pc := 402) hx hb d_Law_402 rfl (lv_at hl 3 rfl) ?_
      refine lv_iload_n (pc := 403) hx hb d_Law_403 rfl (lv_at hl 0 rfl) ?_
      refine lv_iconst (pc := 404) (v := (1 : Int32)) hx hb d_Law_404 (by decide) ?_
      refine lv_iadd (pc := 405) hx hb d_Law_405 ?_
      refine gl_ld (pc := 406) hx hb hXs hbl hbA hS 1 hgo hL (by decide) (gl_ix (by decide)) d_Law_406 ?_
      refine gl_ci (pc := 407) (va_runV (C := "GasLedger") (As := [.int (xs (5 * n + 1))]) (rest := []) ⟨hx, hb, hml, hown, hts⟩ (k_Led_seal l dC dI cI cR cZ s.heap.size tP tN (by decide) e1) (gx_cw 1 hts cd_Led_seal tb_44 tb_523 tb_524 tb_525 rfl rfl ⟨by decide, by decide, by decide +kernel⟩ ⟨Nat.le_of_ble_eq_true rfl, Nat.le_of_ble_eq_true rfl⟩) (gl_preV (cx_XX s.heap.size tP tN) hXX (Nat.le_refl _) hK hP1 hS (by decide) (sh_Led cI cR s.heap.size (k := 0) (by decide) _) rfl) rfl rfl hl.1 rfl (lv_room (Nat.le_of_ble_eq_true rfl)) d_Law_407 ⟨by decide, by decide⟩) hS hA1 hP2 hp1 (fun H locs hP1 hP2 hS => ?_)
      refine lv_aload_n (pc := 410) hx hb d_Law_410 rfl (lv_at hl 1 rfl) ?_
      refine lv_aload_n (pc := 411) hx hb d_Law_411 rfl (lv_at hl 3 rfl) ?_
      refine lv_iload_n (pc := 412) hx hb d_Law_412 rfl (lv_at hl 0 rfl) ?_
      refine lv_iconst (pc := 413) (v := (1 : Int32)) hx hb d_Law_413 (by decide) ?_
      refine lv_iadd (pc := 414) hx hb d_Law_414 ?_
      refine gl_ld (pc := 415) hx hb hXs hbl hbA hS 1 hgo hL (by decide) (gl_ix (by decide)) d_Law_415 ?_
      refine gl_ci (pc := 416) (va_runV (C := "GasLedgerModel") (As := [.int (xs (5 * n + 1))]) (rest := [.int r]) ⟨hx, hb, hml, hown, hts⟩ (k_Mod_seal l dC dI cI cR cZ (s.heap.size + 97) tP tN (by decide) e2) (gx_cw 1 hts cd_Mod_seal tb_50 tb_856 tb_857 tb_858 rfl rfl ⟨by decide, by decide, by decide +kernel⟩ ⟨Nat.le_of_ble_eq_true rfl, Nat.le_of_ble_eq_true rfl⟩) (gl_preV (mx_XX (s.heap.size + 97)) rfl (Nat.le_add_right _ _) hK hP2 hS (by decide) (sh_Mod cI cZ (s.heap.size + 97) (k := 0) (by decide) _) rfl) rfl rfl hl.1 rfl (lv_room (Nat.le_of_ble_eq_true rfl)) d_Law_416 ⟨by decide, by decide⟩) hS hA2 hP1 hp2 (fun H locs hP2 hP1 hS => ?_)
      refine lv_icmp_eq (pc := 419) (tgt := 639) hx hb d_Law_419 (by decide) (fun _ => ?_) (fun g => absurd rfl g)
      exact ihn V1 U1 H locs hR1 hP1 hP2 hS
    by_cases hj8 : j = 8
    · subst hj8
      refine lv_tableIn (pc := 32) (off := 392) (tgt := 424) hx hb d_Law_32 (by rw [hxj]; decide) (by rw [hxj]; decide) (by rw [hxj]; rfl) (by decide) ?_
      obtain ⟨r, V1, U1, e1, e2, hR1⟩ := h_look n V U hn5 hR (xs (5 * n + 1)) (xs (5 * n + 2))
      refine lv_aload_n (pc := 424) hx hb d_Law_424 rfl (lv_at hl 2 rfl) ?_
      refine lv_aload_n (pc := 425) hx hb d_Law_425 rfl (lv_at hl 3 rfl) ?_
      refine lv_iload_n (pc := 426) hx hb d_Law_426 rfl (lv_at hl 0 rfl) ?_
      refine lv_iconst (pc := 427) (v := (1 : Int32)) hx hb d_Law_427 (by decide) ?_
      refine lv_iadd (pc := 428) hx hb d_Law_428 ?_
      refine gl_ld (pc := 429) hx hb hXs hbl hbA hS 1 hgo hL (by decide) (gl_ix (by decide)) d_Law_429 ?_
      refine lv_aload_n (pc := 430) hx hb d_Law_430 rfl (lv_at hl 3 rfl) ?_
      refine lv_iload_n (pc := 431) hx hb d_Law_431 rfl (lv_at hl 0 rfl) ?_
      refine lv_iconst (pc := 432) (v := (2 : Int32)) hx hb d_Law_432 (by decide) ?_
      refine lv_iadd (pc := 433) hx hb d_Law_433 ?_
      refine gl_ld (pc := 434) hx hb hXs hbl hbA hS 2 hgo hL (by decide) (gl_ix (by decide)) d_Law_434 ?_
      refine gl_ci (pc := 435) (va_runV (C := "GasLedger") (As := [.int (xs (5 * n + 1)), .int (xs (5 * n + 2))]) (rest := []) ⟨hx, hb, hml, hown, hts⟩ (k_Led_look l dC dI cI cR cZ s.heap.size tP tN (by decide) e1) (gx_cw 2 hts cd_Led_look tb_44 tb_527 tb_528 tb_529 rfl rfl ⟨by decide, by decide, by decide +kernel⟩ ⟨Nat.le_of_ble_eq_true rfl, Nat.le_of_ble_eq_true rfl⟩) (gl_preV (cx_XX s.heap.size tP tN) hXX (Nat.le_refl _) hK hP1 hS (by decide) (sh_Led cI cR s.heap.size (k := 0) (by decide) _) rfl) rfl rfl hl.1 rfl (lv_room (Nat.le_of_ble_eq_true rfl)) d_Law_435 ⟨by decide, by decide⟩) hS hA1 hP2 hp1 (fun H locs hP1 hP2 hS => ?_)
      refine lv_aload_n (pc := 438) hx hb d_Law_438 rfl (lv_at hl 1 rfl) ?_
      refine lv_aload_n (pc := 439) hx hb d_Law_439 rfl (lv_at hl 3 rfl) ?_
      refine lv_iload_n (pc := 440) hx hb d_Law_440 rfl (lv_at hl 0 rfl) ?_
      refine lv_iconst (pc := 441) (v := (1 : Int32)) hx hb d_Law_441 (by decide) ?_
      refine lv_iadd (pc := 442) hx hb d_Law_442 ?_
      refine gl_ld (pc := 443) hx hb hXs hbl hbA hS 1 hgo hL (by decide) (gl_ix (by decide)) d_Law_443 ?_
      refine lv_aload_n (pc := 444) hx hb d_Law_444 rfl (lv_at hl 3 rfl) ?_
      refine lv_iload_n (pc := 445) hx hb d_Law_445 rfl (lv_at hl 0 rfl) ?_
      refine lv_iconst (pc := 446) (v := (2 : Int32)) hx hb d_Law_446 (by decide) ?_
      refine lv_iadd (pc := 447) hx hb d_Law_447 ?_
      refine gl_ld (pc := 448) hx hb hXs hbl hbA hS 2 hgo hL (by decide) (gl_ix (by decide)) d_Law_448 ?_
      refine gl_ci (pc := 449) (va_runV (C := "GasLedgerModel") (As := [.int (xs (5 * n + 1)), .int (xs (5 * n + 2))]) (rest := [.int r]) ⟨hx, hb, hml, hown, hts⟩ (k_Mod_look l dC dI cI cR cZ (s.heap.size + 97) tP tN (by decide) e2) (gx_cw 2 hts cd_Mod_look tb_50 tb_860 tb_861 tb_862 rfl rfl ⟨by decide, by decide, by decide +kernel⟩ ⟨Nat.le_of_ble_eq_true rfl, Nat.le_of_ble_eq_true rfl⟩) (gl_preV (mx_XX (s.heap.size + 97)) rfl (Nat.le_add_right _ _) hK hP2 hS (by decide) (sh_Mod cI cZ (s.heap.size + 97) (k := 0) (by decide) _) rfl) rfl rfl hl.1 rfl (lv_room (Nat.le_of_ble_eq_true rfl)) d_Law_449 ⟨by decide, by decide⟩) hS hA2 hP1 hp2 (fun H locs hP2 hP1 hS => ?_)
      refine lv_icmp_eq (pc := 452) (tgt := 639) hx hb d_Law_452 (by decide) (fun _ => ?_) (fun g => absurd rfl g)
      exact ihn V1 U1 H locs hR1 hP1 hP2 hS
    by_cases hj9 : j = 9
    · subst hj9
      refine lv_tableIn (pc := 32) (off := 425) (tgt := 457) hx hb d_Law_32 (by rw [hxj]; decide) (by rw [hxj]; decide) (by rw [hxj]; rfl) (by decide) ?_
      obtain ⟨r, V1, U1, e1, e2, hR1⟩ := h_slot n V U hn5 hR (xs (5 * n + 1)) (xs (5 * n + 2))
      refine lv_aload_n (pc := 457) hx hb d_Law_457 rfl (lv_at hl 2 rfl) ?_
      refine lv_aload_n (pc := 458) hx hb d_Law_458 rfl (lv_at hl 3 rfl) ?_
      refine lv_iload_n (pc := 459) hx hb d_Law_459 rfl (lv_at hl 0 rfl) ?_
      refine lv_iconst (pc := 460) (v := (1 : Int32)) hx hb d_Law_460 (by decide) ?_
      refine lv_iadd (pc := 461) hx hb d_Law_461 ?_
      refine gl_ld (pc := 462) hx hb hXs hbl hbA hS 1 hgo hL (by decide) (gl_ix (by decide)) d_Law_462 ?_
      refine lv_aload_n (pc := 463) hx hb d_Law_463 rfl (lv_at hl 3 rfl) ?_
      refine lv_iload_n (pc := 464) hx hb d_Law_464 rfl (lv_at hl 0 rfl) ?_
      refine lv_iconst (pc := 465) (v := (2 : Int32)) hx hb d_Law_465 (by decide) ?_
      refine lv_iadd (pc := 466) hx hb d_Law_466 ?_
      refine gl_ld (pc := 467) hx hb hXs hbl hbA hS 2 hgo hL (by decide) (gl_ix (by decide)) d_Law_467 ?_
      refine gl_ci (pc := 468) (va_runV (C := "GasLedger") (As := [.int (xs (5 * n + 1)), .int (xs (5 * n + 2))]) (rest := []) ⟨hx, hb, hml, hown, hts⟩ (k_Led_slot l dC dI cI cR cZ s.heap.size tP tN (by decide) e1) (gx_cw 2 hts cd_Led_slot tb_44 tb_552 tb_553 tb_554 rfl rfl ⟨by decide, by decide, by decide +kernel⟩ ⟨Nat.le_of_ble_eq_true rfl, Nat.le_of_ble_eq_true rfl⟩) (gl_preV (cx_XX s.heap.size tP tN) hXX (Nat.le_refl _) hK hP1 hS (by decide) (sh_Led cI cR s.heap.size (k := 0) (by decide) _) rfl) rfl rfl hl.1 rfl (lv_room (Nat.le_of_ble_eq_true rfl)) d_Law_468 ⟨by decide, by decide⟩) hS hA1 hP2 hp1 (fun H locs hP1 hP2 hS => ?_)
      refine lv_aload_n (pc := 471) hx hb d_Law_471 rfl (lv_at hl 1 rfl) ?_
      refine lv_aload_n (pc := 472) hx hb d_Law_472 rfl (lv_at hl 3 rfl) ?_
      refine lv_iload_n (pc := 473) hx hb d_Law_473 rfl (lv_at hl 0 rfl) ?_
      refine lv_iconst (pc := 474) (v := (1 : Int32)) hx hb d_Law_474 (by decide) ?_
      refine lv_iadd (pc := 475) hx hb d_Law_475 ?_
      refine gl_ld (pc := 476) hx hb hXs hbl hbA hS 1 hgo hL (by decide) (gl_ix (by decide)) d_Law_476 ?_
      refine lv_aload_n (pc := 477) hx hb d_Law_477 rfl (lv_at hl 3 rfl) ?_
      refine lv_iload_n (pc := 478) hx hb d_Law_478 rfl (lv_at hl 0 rfl) ?_
      refine lv_iconst (pc := 479) (v := (2 : Int32)) hx hb d_Law_479 (by decide) ?_
      refine lv_iadd (pc := 480) hx hb d_Law_480 ?_
      refine gl_ld (pc := 481) hx hb hXs hbl hbA hS 2 hgo hL (by decide) (gl_ix (by decide)) d_Law_481 ?_
      refine gl_ci (pc := 482) (va_runV (C := "GasLedgerModel") (As := [.int (xs (5 * n + 1)), .int (xs (5 * n + 2))]) (rest := [.int r]) ⟨hx, hb, hml, hown, hts⟩ (k_Mod_slot l dC dI cI cR cZ (s.heap.size + 97) tP tN (by decide) e2) (gx_cw 2 hts cd_Mod_slot tb_50 tb_864 tb_865 tb_866 rfl rfl ⟨by decide, by decide, by decide +kernel⟩ ⟨Nat.le_of_ble_eq_true rfl, Nat.le_of_ble_eq_true rfl⟩) (gl_preV (mx_XX (s.heap.size + 97)) rfl (Nat.le_add_right _ _) hK hP2 hS (by decide) (sh_Mod cI cZ (s.heap.size + 97) (k := 0) (by decide) _) rfl) rfl rfl hl.1 rfl (lv_room (Nat.le_of_ble_eq_true rfl)) d_Law_482 ⟨by decide, by decide⟩) hS hA2 hP1 hp2 (fun H locs hP2 hP1 hS => ?_)
      refine lv_icmp_eq (pc := 485) (tgt := 639) hx hb d_Law_485 (by decide) (fun _ => ?_) (fun g => absurd rfl g)
      exact ihn V1 U1 H locs hR1 hP1 hP2 hS
    by_cases hj10 : j = 10
    · subst hj10
      refine lv_tableIn (pc := 32) (off := 458) (tgt := 490) hx hb d_Law_32 (by rw [hxj]; decide) (by rw [hxj]; decide) (by rw [hxj]; rfl) (by decide) ?_
      obtain ⟨r, V1, U1, e1, e2, hR1⟩ := h_word n V U hn5 hR (xs (5 * n + 1)) (xs (5 * n + 2))
      refine lv_aload_n (pc := 490) hx hb d_Law_490 rfl (lv_at hl 2 rfl) ?_
      refine lv_aload_n (pc := 491) hx hb d_Law_491 rfl (lv_at hl 3 rfl) ?_
      refine lv_iload_n (pc := 492) hx hb d_Law_492 rfl (lv_at hl 0 rfl) ?_
      refine lv_iconst (pc := 493) (v := (1 : Int32)) hx hb d_Law_493 (by decide) ?_
      refine lv_iadd (pc := 494) hx hb d_Law_494 ?_
      refine gl_ld (pc := 495) hx hb hXs hbl hbA hS 1 hgo hL (by decide) (gl_ix (by decide)) d_Law_495 ?_
      refine lv_aload_n (pc := 496) hx hb d_Law_496 rfl (lv_at hl 3 rfl) ?_
      refine lv_iload_n (pc := 497) hx hb d_Law_497 rfl (lv_at hl 0 rfl) ?_
      refine lv_iconst (pc := 498) (v := (2 : Int32)) hx hb d_Law_498 (by decide) ?_
      refine lv_iadd (pc := 499) hx hb d_Law_499 ?_
      refine gl_ld (pc := 500) hx hb hXs hbl hbA hS 2 hgo hL (by decide) (gl_ix (by decide)) d_Law_500 ?_
      refine gl_ci (pc := 501) (va_runV (C := "GasLedger") (As := [.int (xs (5 * n + 1)), .int (xs (5 * n + 2))]) (rest := []) ⟨hx, hb, hml, hown, hts⟩ (k_Led_word l dC dI cI cR cZ s.heap.size tP tN (by decide) e1) (gx_cw 2 hts cd_Led_word tb_44 tb_557 tb_558 tb_559 rfl rfl ⟨by decide, by decide, by decide +kernel⟩ ⟨Nat.le_of_ble_eq_true rfl, Nat.le_of_ble_eq_true rfl⟩) (gl_preV (cx_XX s.heap.size tP tN) hXX (Nat.le_refl _) hK hP1 hS (by decide) (sh_Led cI cR s.heap.size (k := 0) (by decide) _) rfl) rfl rfl hl.1 rfl (lv_room (Nat.le_of_ble_eq_true rfl)) d_Law_501 ⟨by decide, by decide⟩) hS hA1 hP2 hp1 (fun H locs hP1 hP2 hS => ?_)
      refine lv_aload_n (pc := 504) hx hb d_Law_504 rfl (lv_at hl 1 rfl) ?_
      refine lv_aload_n (pc := 505) hx hb d_Law_505 rfl (lv_at hl 3 rfl) ?_
      refine lv_iload_n (pc := 506) hx hb d_Law_506 rfl (lv_at hl 0 rfl) ?_
      refine lv_iconst (pc := 507) (v := (1 : Int32)) hx hb d_Law_507 (by decide) ?_
      refine lv_iadd (pc := 508) hx hb d_Law_508 ?_
      refine gl_ld (pc := 509) hx hb hXs hbl hbA hS 1 hgo hL (by decide) (gl_ix (by decide)) d_Law_509 ?_
      refine lv_aload_n (pc := 510) hx hb d_Law_510 rfl (lv_at hl 3 rfl) ?_
      refine lv_iload_n (pc := 511) hx hb d_Law_511 rfl (lv_at hl 0 rfl) ?_
      refine lv_iconst (pc := 512) (v := (2 : Int32)) hx hb d_Law_512 (by decide) ?_
      refine lv_iadd (pc := 513) hx hb d_Law_513 ?_
      refine gl_ld (pc := 514) hx hb hXs hbl hbA hS 2 hgo hL (by decide) (gl_ix (by decide)) d_Law_514 ?_
      refine gl_ci (pc := 515) (va_runV (C := "GasLedgerModel") (As := [.int (xs (5 * n + 1)), .int (xs (5 * n + 2))]) (rest := [.int r]) ⟨hx, hb, hml, hown, hts⟩ (k_Mod_word l dC dI cI cR cZ (s.heap.size + 97) tP tN (by decide) e2) (gx_cw 2 hts cd_Mod_word tb_50 tb_868 tb_869 tb_870 rfl rfl ⟨by decide, by decide, by decide +kernel⟩ ⟨Nat.le_of_ble_eq_true rfl, Nat.le_of_ble_eq_true rfl⟩) (gl_preV (mx_XX (s.heap.size + 97)) rfl (Nat.le_add_right _ _) hK hP2 hS (by decide) (sh_Mod cI cZ (s.heap.size + 97) (k := 0) (by decide) _) rfl) rfl rfl hl.1 rfl (lv_room (Nat.le_of_ble_eq_true rfl)) d_Law_515 ⟨by decide, by decide⟩) hS hA2 hP1 hp2 (fun H locs hP2 hP1 hS => ?_)
      refine lv_icmp_eq (pc := 518) (tgt := 639) hx hb d_Law_518 (by decide) (fun _ => ?_) (fun g => absurd rfl g)
      exact ihn V1 U1 H locs hR1 hP1 hP2 hS
    by_cases hj11 : j = 11
    · subst hj11
      refine lv_tableIn (pc := 32) (off := 491) (tgt := 523) hx hb d_Law_32 (by rw [hxj]; decide) (by rw [hxj]; decide) (by rw [hxj]; rfl) (by decide) ?_
      obtain ⟨r, V1, U1, e1, e2, hR1⟩ := h_root n V U hn5 hR 
      refine lv_aload_n (pc := 523) hx hb d_Law_523 rfl (lv_at hl 2 rfl) ?_
      refine gl_ci (pc := 524) (va_runV (C := "GasLedger") (As := []) (rest := []) ⟨hx, hb, hml, hown, hts⟩ (k_Led_root l dC dI cI cR cZ s.heap.size tP tN (by decide) e1) (gx_cw 0 hts cd_Led_root tb_44 tb_562 tb_563 tb_564 rfl rfl ⟨by decide, by decide, by decide +kernel⟩ ⟨Nat.le_of_ble_eq_true rfl, Nat.le_of_ble_eq_true rfl⟩) (gl_preV (cx_XX s.heap.size tP tN) hXX (Nat.le_refl _) hK hP1 hS (by decide) (sh_Led cI cR s.heap.size (k := 0) (by decide) _) rfl) rfl rfl hl.1 rfl (lv_room (Nat.le_of_ble_eq_true rfl)) d_Law_524 ⟨by decide, by decide⟩) hS hA1 hP2 hp1 (fun H locs hP1 hP2 hS => ?_)
      refine lv_aload_n (pc := 527) hx hb d_Law_527 rfl (lv_at hl 1 rfl) ?_
      refine gl_ci (pc := 528) (va_runV (C := "GasLedgerModel") (As := []) (rest := [.int r]) ⟨hx, hb, hml, hown, hts⟩ (k_Mod_root l dC dI cI cR cZ (s.heap.size + 97) tP tN (by decide) e2) (gx_cw 0 hts cd_Mod_root tb_50 tb_736 tb_737 tb_738 rfl rfl ⟨by decide, by decide, by decide +kernel⟩ ⟨Nat.le_of_ble_eq_true rfl, Nat.le_of_ble_eq_true rfl⟩) (gl_preV (mx_XX (s.heap.size + 97)) rfl (Nat.le_add_right _ _) hK hP2 hS (by decide) (sh_Mod cI cZ (s.heap.size + 97) (k := 0) (by decide) _) rfl) rfl rfl hl.1 rfl (lv_room (Nat.le_of_ble_eq_true rfl)) d_Law_528 ⟨by decide, by decide⟩) hS hA2 hP1 hp2 (fun H locs hP2 hP1 hS => ?_)
      refine lv_icmp_eq (pc := 531) (tgt := 639) hx hb d_Law_531 (by decide) (fun _ => ?_) (fun g => absurd rfl g)
      exact ihn V1 U1 H locs hR1 hP1 hP2 hS
    by_cases hj12 : j = 12
    · subst hj12
      refine lv_tableIn (pc := 32) (off := 504) (tgt := 536) hx hb d_Law_32 (by rw [hxj]; decide) (by rw [hxj]; decide) (by rw [hxj]; rfl) (by decide) ?_
      obtain ⟨r, V1, U1, e1, e2, hR1⟩ := h_block n V U hn5 hR (xs (5 * n + 1))
      refine lv_aload_n (pc := 536) hx hb d_Law_536 rfl (lv_at hl 2 rfl) ?_
      refine lv_aload_n (pc := 537) hx hb d_Law_537 rfl (lv_at hl 3 rfl) ?_
      refine lv_iload_n (pc := 538) hx hb d_Law_538 rfl (lv_at hl 0 rfl) ?_
      refine lv_iconst (pc := 539) (v := (1 : Int32)) hx hb d_Law_539 (by decide) ?_
      refine lv_iadd (pc := 540) hx hb d_Law_540 ?_
      refine gl_ld (pc := 541) hx hb hXs hbl hbA hS 1 hgo hL (by decide) (gl_ix (by decide)) d_Law_541 ?_
      refine gl_ci (pc := 542) (va_runV (C := "GasLedger") (As := [.int (xs (5 * n + 1))]) (rest := []) ⟨hx, hb, hml, hown, hts⟩ (k_Led_block l dC dI cI cR cZ s.heap.size tP tN (by decide) e1) (gx_cw 1 hts cd_Led_block tb_44 tb_571 tb_572 tb_573 rfl rfl ⟨by decide, by decide, by decide +kernel⟩ ⟨Nat.le_of_ble_eq_true rfl, Nat.le_of_ble_eq_true rfl⟩) (gl_preV (cx_XX s.heap.size tP tN) hXX (Nat.le_refl _) hK hP1 hS (by decide) (sh_Led cI cR s.heap.size (k := 0) (by decide) _) rfl) rfl rfl hl.1 rfl (lv_room (Nat.le_of_ble_eq_true rfl)) d_Law_542 ⟨by decide, by decide⟩) hS hA1 hP2 hp1 (fun H locs hP1 hP2 hS => ?_)
      refine lv_aload_n (pc := 545) hx hb d_Law_545 rfl (lv_at hl 1 rfl) ?_
      refine lv_aload_n (pc := 546) hx hb d_Law_546 rfl (lv_at hl 3 rfl) ?_
      refine lv_iload_n (pc := 547) hx hb d_Law_547 rfl (lv_at hl 0 rfl) ?_
      refine lv_iconst (pc := 548) (v := (1 : Int32)) hx hb d_Law_548 (by decide) ?_
      refine lv_iadd (pc := 549) hx hb d_Law_549 ?_
      refine gl_ld (pc := 550) hx hb hXs hbl hbA hS 1 hgo hL (by decide) (gl_ix (by decide)) d_Law_550 ?_
      refine gl_ci (pc := 551) (va_runV (C := "GasLedgerModel") (As := [.int (xs (5 * n + 1))]) (rest := [.int r]) ⟨hx, hb, hml, hown, hts⟩ (k_Mod_block l dC dI cI cR cZ (s.heap.size + 97) tP tN (by decide) e2) (gx_cw 1 hts cd_Mod_block tb_50 tb_872 tb_873 tb_874 rfl rfl ⟨by decide, by decide, by decide +kernel⟩ ⟨Nat.le_of_ble_eq_true rfl, Nat.le_of_ble_eq_true rfl⟩) (gl_preV (mx_XX (s.heap.size + 97)) rfl (Nat.le_add_right _ _) hK hP2 hS (by decide) (sh_Mod cI cZ (s.heap.size + 97) (k := 0) (by decide) _) rfl) rfl rfl hl.1 rfl (lv_room (Nat.le_of_ble_eq_true rfl)) d_Law_551 ⟨by decide, by decide⟩) hS hA2 hP1 hp2 (fun H locs hP2 hP1 hS => ?_)
      refine lv_icmp_eq (pc := 554) (tgt := 639) hx hb d_Law_554 (by decide) (fun _ => ?_) (fun g => absurd rfl g)
      exact ihn V1 U1 H locs hR1 hP1 hP2 hS
    by_cases hj13 : j = 13
    · subst hj13
      refine lv_tableIn (pc := 32) (off := 527) (tgt := 559) hx hb d_Law_32 (by rw [hxj]; decide) (by rw [hxj]; decide) (by rw [hxj]; rfl) (by decide) ?_
      obtain ⟨r, V1, U1, e1, e2, hR1⟩ := h_receipt n V U hn5 hR (xs (5 * n + 1)) (xs (5 * n + 2))
      refine lv_aload_n (pc := 559) hx hb d_Law_559 rfl (lv_at hl 2 rfl) ?_
      refine lv_aload_n (pc := 560) hx hb d_Law_560 rfl (lv_at hl 3 rfl) ?_
      refine lv_iload_n (pc := 561) hx hb d_Law_561 rfl (lv_at hl 0 rfl) ?_
      refine lv_iconst (pc := 562) (v := (1 : Int32)) hx hb d_Law_562 (by decide) ?_
      refine lv_iadd (pc := 563) hx hb d_Law_563 ?_
      refine gl_ld (pc := 564) hx hb hXs hbl hbA hS 1 hgo hL (by decide) (gl_ix (by decide)) d_Law_564 ?_
      refine lv_aload_n (pc := 565) hx hb d_Law_565 rfl (lv_at hl 3 rfl) ?_
      refine lv_iload_n (pc := 566) hx hb d_Law_566 rfl (lv_at hl 0 rfl) ?_
      refine lv_iconst (pc := 567) (v := (2 : Int32)) hx hb d_Law_567 (by decide) ?_
      refine lv_iadd (pc := 568) hx hb d_Law_568 ?_
      refine gl_ld (pc := 569) hx hb hXs hbl hbA hS 2 hgo hL (by decide) (gl_ix (by decide)) d_Law_569 ?_
      refine gl_ci (pc := 570) (va_runV (C := "GasLedger") (As := [.int (xs (5 * n + 1)), .int (xs (5 * n + 2))]) (rest := []) ⟨hx, hb, hml, hown, hts⟩ (k_Led_receipt l dC dI cI cR cZ s.heap.size tP tN (by decide) e1) (gx_cw 2 hts cd_Led_receipt tb_44 tb_575 tb_576 tb_577 rfl rfl ⟨by decide, by decide, by decide +kernel⟩ ⟨Nat.le_of_ble_eq_true rfl, Nat.le_of_ble_eq_true rfl⟩) (gl_preV (cx_XX s.heap.size tP tN) hXX (Nat.le_refl _) hK hP1 hS (by decide) (sh_Led cI cR s.heap.size (k := 0) (by decide) _) rfl) rfl rfl hl.1 rfl (lv_room (Nat.le_of_ble_eq_true rfl)) d_Law_570 ⟨by decide, by decide⟩) hS hA1 hP2 hp1 (fun H locs hP1 hP2 hS => ?_)
      refine lv_aload_n (pc := 573) hx hb d_Law_573 rfl (lv_at hl 1 rfl) ?_
      refine lv_aload_n (pc := 574) hx hb d_Law_574 rfl (lv_at hl 3 rfl) ?_
      refine lv_iload_n (pc := 575) hx hb d_Law_575 rfl (lv_at hl 0 rfl) ?_
      refine lv_iconst (pc := 576) (v := (1 : Int32)) hx hb d_Law_576 (by decide) ?_
      refine lv_iadd (pc := 577) hx hb d_Law_577 ?_
      refine gl_ld (pc := 578) hx hb hXs hbl hbA hS 1 hgo hL (by decide) (gl_ix (by decide)) d_Law_578 ?_
      refine lv_aload_n (pc := 579) hx hb d_Law_579 rfl (lv_at hl 3 rfl) ?_
      refine lv_iload_n (pc := 580) hx hb d_Law_580 rfl (lv_at hl 0 rfl) ?_
      refine lv_iconst (pc := 581) (v := (2 : Int32)) hx hb d_Law_581 (by decide) ?_
      refine lv_iadd (pc := 582) hx hb d_Law_582 ?_
      refine gl_ld (pc := 583) hx hb hXs hbl hbA hS 2 hgo hL (by decide) (gl_ix (by decide)) d_Law_583 ?_
      refine gl_ci (pc := 584) (va_runV (C := "GasLedgerModel") (As := [.int (xs (5 * n + 1)), .int (xs (5 * n + 2))]) (rest := [.int r]) ⟨hx, hb, hml, hown, hts⟩ (k_Mod_receipt l dC dI cI cR cZ (s.heap.size + 97) tP tN (by decide) e2) (gx_cw 2 hts cd_Mod_receipt tb_50 tb_880 tb_881 tb_882 rfl rfl ⟨by decide, by decide, by decide +kernel⟩ ⟨Nat.le_of_ble_eq_true rfl, Nat.le_of_ble_eq_true rfl⟩) (gl_preV (mx_XX (s.heap.size + 97)) rfl (Nat.le_add_right _ _) hK hP2 hS (by decide) (sh_Mod cI cZ (s.heap.size + 97) (k := 0) (by decide) _) rfl) rfl rfl hl.1 rfl (lv_room (Nat.le_of_ble_eq_true rfl)) d_Law_584 ⟨by decide, by decide⟩) hS hA2 hP1 hp2 (fun H locs hP2 hP1 hS => ?_)
      refine lv_icmp_eq (pc := 587) (tgt := 639) hx hb d_Law_587 (by decide) (fun _ => ?_) (fun g => absurd rfl g)
      exact ihn V1 U1 H locs hR1 hP1 hP2 hS
    by_cases hj14 : j = 14
    · subst hj14
      refine lv_tableIn (pc := 32) (off := 560) (tgt := 592) hx hb d_Law_32 (by rw [hxj]; decide) (by rw [hxj]; decide) (by rw [hxj]; rfl) (by decide) ?_
      obtain ⟨r, V1, U1, e1, e2, hR1⟩ := h_log n V U hn5 hR (xs (5 * n + 1)) (xs (5 * n + 2))
      refine lv_aload_n (pc := 592) hx hb d_Law_592 rfl (lv_at hl 2 rfl) ?_
      refine lv_aload_n (pc := 593) hx hb d_Law_593 rfl (lv_at hl 3 rfl) ?_
      refine lv_iload_n (pc := 594) hx hb d_Law_594 rfl (lv_at hl 0 rfl) ?_
      refine lv_iconst (pc := 595) (v := (1 : Int32)) hx hb d_Law_595 (by decide) ?_
      refine lv_iadd (pc := 596) hx hb d_Law_596 ?_
      refine gl_ld (pc := 597) hx hb hXs hbl hbA hS 1 hgo hL (by decide) (gl_ix (by decide)) d_Law_597 ?_
      refine lv_aload_n (pc := 598) hx hb d_Law_598 rfl (lv_at hl 3 rfl) ?_
      refine lv_iload_n (pc := 599) hx hb d_Law_599 rfl (lv_at hl 0 rfl) ?_
      refine lv_iconst (pc := 600) (v := (2 : Int32)) hx hb d_Law_600 (by decide) ?_
      refine lv_iadd (pc := 601) hx hb d_Law_601 ?_
      refine gl_ld (pc := 602) hx hb hXs hbl hbA hS 2 hgo hL (by decide) (gl_ix (by decide)) d_Law_602 ?_
      refine gl_ci (pc := 603) (va_runV (C := "GasLedger") (As := [.int (xs (5 * n + 1)), .int (xs (5 * n + 2))]) (rest := []) ⟨hx, hb, hml, hown, hts⟩ (k_Led_log l dC dI cI cR cZ s.heap.size tP tN (by decide) e1) (gx_cw 2 hts cd_Led_log tb_44 tb_583 tb_584 tb_585 rfl rfl ⟨by decide, by decide, by decide +kernel⟩ ⟨Nat.le_of_ble_eq_true rfl, Nat.le_of_ble_eq_true rfl⟩) (gl_preV (cx_XX s.heap.size tP tN) hXX (Nat.le_refl _) hK hP1 hS (by decide) (sh_Led cI cR s.heap.size (k := 0) (by decide) _) rfl) rfl rfl hl.1 rfl (lv_room (Nat.le_of_ble_eq_true rfl)) d_Law_603 ⟨by decide, by decide⟩) hS hA1 hP2 hp1 (fun H locs hP1 hP2 hS => ?_)
      refine lv_aload_n (pc := 606) hx hb d_Law_606 rfl (lv_at hl 1 rfl) ?_
      refine lv_aload_n (pc := 607) hx hb d_Law_607 rfl (lv_at hl 3 rfl) ?_
      refine lv_iload_n (pc := 608) hx hb d_Law_608 rfl (lv_at hl 0 rfl) ?_
      refine lv_iconst (pc := 609) (v := (1 : Int32)) hx hb d_Law_609 (by decide) ?_
      refine lv_iadd (pc := 610) hx hb d_Law_610 ?_
      refine gl_ld (pc := 611) hx hb hXs hbl hbA hS 1 hgo hL (by decide) (gl_ix (by decide)) d_Law_611 ?_
      refine lv_aload_n (pc := 612) hx hb d_Law_612 rfl (lv_at hl 3 rfl) ?_
      refine lv_iload_n (pc := 613) hx hb d_Law_613 rfl (lv_at hl 0 rfl) ?_
      refine lv_iconst (pc := 614) (v := (2 : Int32)) hx hb d_Law_614 (by decide) ?_
      refine lv_iadd (pc := 615) hx hb d_Law_615 ?_
      refine gl_ld (pc := 616) hx hb hXs hbl hbA hS 2 hgo hL (by decide) (gl_ix (by decide)) d_Law_616 ?_
      refine gl_ci (pc := 617) (va_runV (C := "GasLedgerModel") (As := [.int (xs (5 * n + 1)), .int (xs (5 * n + 2))]) (rest := [.int r]) ⟨hx, hb, hml, hown, hts⟩ (k_Mod_log l dC dI cI cR cZ (s.heap.size + 97) tP tN (by decide) e2) (gx_cw 2 hts cd_Mod_log tb_50 tb_884 tb_885 tb_886 rfl rfl ⟨by decide, by decide, by decide +kernel⟩ ⟨Nat.le_of_ble_eq_true rfl, Nat.le_of_ble_eq_true rfl⟩) (gl_preV (mx_XX (s.heap.size + 97)) rfl (Nat.le_add_right _ _) hK hP2 hS (by decide) (sh_Mod cI cZ (s.heap.size + 97) (k := 0) (by decide) _) rfl) rfl rfl hl.1 rfl (lv_room (Nat.le_of_ble_eq_true rfl)) d_Law_617 ⟨by decide, by decide⟩) hS hA2 hP1 hp2 (fun H locs hP2 hP1 hS => ?_)
      refine lv_icmp_eq (pc := 620) (tgt := 639) hx hb d_Law_620 (by decide) (fun _ => ?_) (fun g => absurd rfl g)
      exact ihn V1 U1 H locs hR1 hP1 hP2 hS
    by_cases hj15 : j = 15
    · subst hj15
      refine lv_tableIn (pc := 32) (off := 593) (tgt := 625) hx hb d_Law_32 (by rw [hxj]; decide) (by rw [hxj]; decide) (by rw [hxj]; rfl) (by decide) ?_
      obtain ⟨r, V1, U1, e1, e2, hR1⟩ := h_total n V U hn5 hR 
      refine lv_aload_n (pc := 625) hx hb d_Law_625 rfl (lv_at hl 2 rfl) ?_
      refine gl_cl (pc := 626) (va_runV (C := "GasLedger") (As := []) (rest := []) ⟨hx, hb, hml, hown, hts⟩ (k_Led_total l dC dI cI cR cZ s.heap.size tP tN (by decide) e1) (gx_cw 0 hts cd_Led_total tb_44 tb_591 tb_592 tb_593 rfl rfl ⟨by decide, by decide, by decide +kernel⟩ ⟨Nat.le_of_ble_eq_true rfl, Nat.le_of_ble_eq_true rfl⟩) (gl_preV (cx_XX s.heap.size tP tN) hXX (Nat.le_refl _) hK hP1 hS (by decide) (sh_Led cI cR s.heap.size (k := 0) (by decide) _) rfl) rfl rfl hl.1 rfl (lv_room (Nat.le_of_ble_eq_true rfl)) d_Law_626 ⟨by decide, by decide⟩) hS hA1 hP2 hp1 (fun H locs hP1 hP2 hS => ?_)
      refine lv_aload_n (pc := 629) hx hb d_Law_629 rfl (lv_at hl 1 rfl) ?_
      refine gl_cl (pc := 630) (va_runV (C := "GasLedgerModel") (As := []) (rest := [.long r]) ⟨hx, hb, hml, hown, hts⟩ (k_Mod_total l dC dI cI cR cZ (s.heap.size + 97) tP tN (by decide) e2) (gx_cw 0 hts cd_Mod_total tb_50 tb_888 tb_889 tb_890 rfl rfl ⟨by decide, by decide, by decide +kernel⟩ ⟨Nat.le_of_ble_eq_true rfl, Nat.le_of_ble_eq_true rfl⟩) (gl_preV (mx_XX (s.heap.size + 97)) rfl (Nat.le_add_right _ _) hK hP2 hS (by decide) (sh_Mod cI cZ (s.heap.size + 97) (k := 0) (by decide) _) rfl) rfl rfl hl.1 rfl (lv_room (Nat.le_of_ble_eq_true rfl)) d_Law_630 ⟨by decide, by decide⟩) hS hA2 hP1 hp2 (fun H locs hP2 hP1 hS => ?_)
      refine W.lcmp (pc := 633) hx hb d_Law_633 ?_
      refine lv_if_eq (pc := 634) (tgt := 639) hx hb d_Law_634 (by decide) (fun _ => ?_) (fun g => absurd (gl_cmp r) g)
      exact ihn V1 U1 H locs hR1 hP1 hP2 hS
    exact absurd hj (by omega)
set_option maxRecDepth 100000 in
set_option maxHeartbeats 8000000 in
theorem law_start {Rel : Nat → gx_M → gx_M → Prop} (hsm : sm_all Rel) {p : Program} {e : Env} {s : State} {m : MethodId} {below : List Frame} {meth : Method} {c : Code} (l : Launch) {b L : Nat} {xs : Nat → Int32} (hL : L ≤ 2560) (C0 : lw_At p s m meth c b L xs) : W p l e room_1 s m #[Value.ref b] below meth c s.heap [] 0 0 (lw_Z below #[Value.ref b] s) (entryFrame m ([Value.ref b] : List Value).toArray 4) := by
  obtain ⟨hx, hb, hr, hml, hown, htsL, hXs, hbl, hlk, hg⟩ := id C0
  have hown : s.vm.findClass "GasLedgerLaw" = some m.cls := hown
  have hts : ∀ w ∈ cx_tb, w.before #[Value.ref b] s = true := fun w h => htsL w (List.mem_filter.mp h).1
  obtain ⟨dC, dI, cI, cR, cZ, hK⟩ := gl_K htsL
  obtain ⟨tP, tN, hXX⟩ := gl_X htsL hg
  have hX : gz_X s := va_AO.of (htsL _ (List.mem_of_getElem? (i := 126) (by decide +kernel)))
  have hl := lv_entry ([Value.ref b]) (n := 4) (Nat.le_of_ble_eq_true rfl)
  rw [lg_entry_eq]
  generalize (lg_sl ([Value.ref b]) ++ List.replicate (4 - (lg_sl ([Value.ref b])).length) Slot.unset).toArray = ls at hl ⊢
  have hl : lv_has ls 4 [(0, .ref b)] := hl
  have hP : va_P (dC, dI) cx_cl [] s.heap := fun k q h => by cases h
  have hD : va_D (fun q => s.heap.size ≤ q) [] := ⟨fun i j x y h => (by cases h), fun k q h => (by cases h)⟩
  have hA : ∀ q : Nat, s.heap.size ≤ q → (fun q => s.heap.size ≤ q) q := fun q h => h
  have hS : va_S (fun q => s.heap.size ≤ q) s.heap s.heap [] := va_S.rf
  refine gz_new (pc := 0) (ci := 5) (fs := [.null, .null, .null, .int 0, .int 0, .int 0, .int 0, .int 0, .int 0, .int 0, .int 0, .int 0, .int 0, .int 0]) (C := R_Led) (T := T_Led) (N := 14) hx hb hts in_Led t_Led ty_Led hown (hts _ tb_54) (hts _ tb_55) (hts _ tb_44) hK hP hD hS hA rfl df_Led (by decide) (by decide) (z := s.heap.size + 0) rfl d_Law_0 (fun H hP hD hS hz => ?_)
  refine lv_dup (pc := 3) hx hb d_Law_3 rfl ?_
  refine gz_call (pc := 4) (b := s.heap.size) (k := 0) (n := 97) (mc := 96) (ms := 6171) (va_runI (As := []) (rest := [.ref (s.heap.size + 0)]) ⟨hx, hb, hml, hown, hts⟩ (k_Led_init l dC dI cI cR cZ s.heap.size tP tN) (cwI 0 hts (gx_good cd_Led_init) rfl rfl rfl (hts _ tb_44) (hts _ tb_56) (hts _ tb_57) rfl ⟨by decide, by decide, by decide +kernel⟩ ⟨Nat.le_of_ble_eq_true rfl, Nat.le_of_ble_eq_true rfl⟩) (gz_pre hK hX hP hz) rfl rfl hl.1 rfl (lv_room (Nat.le_of_ble_eq_true rfl)) d_Law_4 ⟨by decide, by decide⟩) hP hD hS hA hz (z := s.heap.size + (0 + 97)) rfl (fun H locs hP hD hS hz => ?_)
  refine lv_astore_n (pc := 7) (lv' := [(1, .ref (s.heap.size + 0)), (0, .ref b)]) hx hb d_Law_7 rfl hl (by decide) rfl (fun ls hl => ?_)
  have hz : H.size = s.heap.size + 97 + 0 := hz
  refine gz_new (pc := 8) (ci := 6) (fs := [.null, .null, .int 0, .int 0, .int 0, .int 0, .int 0, .int 0, .int 0, .int 0, .int 0, .int 0, .null, .int 0, .null, .null, .int 0, .int 0, .int 0, .int 0, .null, .null, .null, .null, .null, .null, .null, .null, .null, .null, .null, .null, .int 0, .int 0, .int 0, .null, .null, .null, .null]) (C := R_Mod) (T := T_Mod) (N := 39) hx hb hts in_Mod t_Mod ty_Mod hown (hts _ tb_595) (hts _ tb_596) (hts _ tb_50) hK hP hD hS hA rfl df_Mod (by decide) (by decide) (z := s.heap.size + 97 + 0) hz d_Law_8 (fun H hP hD hS hz => ?_)
  refine lv_dup (pc := 11) hx hb d_Law_11 rfl ?_
  refine gz_call (pc := 12) (b := (s.heap.size + 97)) (k := 0) (n := 22) (mc := 21) (ms := 7104) (va_runI (As := []) (rest := [.ref (s.heap.size + 97 + 0)]) ⟨hx, hb, hml, hown, hts⟩ (k_Mod_init l dC dI cI cR cZ (s.heap.size + 97) tP tN) (cwI 0 hts (gx_good cd_Mod_init) rfl rfl rfl (hts _ tb_50) (hts _ tb_597) (hts _ tb_598) rfl ⟨by decide, by decide, by decide +kernel⟩ ⟨Nat.le_of_ble_eq_true rfl, Nat.le_of_ble_eq_true rfl⟩) (gz_pre hK hX hP hz) rfl rfl hl.1 rfl (lv_room (Nat.le_of_ble_eq_true rfl)) d_Law_12 ⟨by decide, by decide⟩) hP hD hS hA hz (z := (s.heap.size + 97) + (0 + 22)) rfl (fun H locs hP hD hS hz => ?_)
  refine lv_astore_n (pc := 15) (lv' := [(2, .ref (s.heap.size + 97 + 0)), (1, .ref (s.heap.size + 0)), (0, .ref b)]) hx hb d_Law_15 rfl hl (by decide) rfl (fun ls hl => ?_)
  refine lv_iconst (pc := 16) (v := (0 : Int32)) hx hb d_Law_16 (by decide) ?_
  refine lv_istore_n (pc := 17) (lv' := [(3, .int (0 : Int32)), (2, .ref (s.heap.size + 97 + 0)), (1, .ref (s.heap.size + 0)), (0, .ref b)]) hx hb d_Law_17 rfl hl (by decide) rfl (fun ls hl => ?_)
  have hP1 : va_P (dC, dI) cx_cl (gx_w s.heap.size 97 (gx_v (cx_sh cI cR s.heap.size) cx_V0)) H := gz_fin (fun j hj => by
    have h1 := gz_i (gz_l hP) j hj (Nat.zero_add j)
    exact h1)
  have hP2 : va_P (dC, dI) cx_cl (gx_w (s.heap.size + 97) 22 (gx_v (mx_sh cI cZ (s.heap.size + 97)) mx_V0)) H := gz_fin (fun j hj => by
    have h1 := gz_i (gz_r hP) j hj (Nat.zero_add j)
    exact h1)
  have h0 : Rel 0 cx_V0 mx_V0 := hsm.1
  exact law_loop hsm l hL C0 dC dI cI cR cZ tP tN hK hXX (L + 1) 0 cx_V0 mx_V0 H locs ls (by omega) (by omega) h0 hl hP1 hP2 hS
