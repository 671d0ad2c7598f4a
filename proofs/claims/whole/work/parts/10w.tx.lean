theorem cD_0 (c : Nat) (a : Int32) (V : gx_M) : cb 1 c (nI 0) a V = ((F_Frm_end c (1 : Int32) (0 : Int32) V).bind fun q6 => some q6) := by
  unfold cb
  rw [if_pos (by decide)]
theorem mD_0 (a : Int32) (V : gx_M) : mb 0 (nI 0) a V = (if gx_ib (V 0 19) 8 then ((F_Mod_leave 0 (1 : Int32) (0 : Int32) (V (0 + 12) (V 0 19).toNatClampNeg) V).bind fun q16 => some q16) else none) := by
  unfold mb
  rw [if_pos (by decide)]
theorem cD_1 (c : Nat) (a : Int32) (V : gx_M) : cb 1 c (nI 1) a V = (F_Mac_step_368   1 c (nI 1) a V) := by
  unfold cb
  rw [if_neg (by decide), if_neg (by decide), if_neg (by decide), if_neg (by decide), if_neg (by decide), if_neg (by decide), if_neg (by decide), if_neg (by decide), if_neg (by decide), if_neg (by decide), if_neg (by decide), if_neg (by decide), if_neg (by decide)]
theorem mD_1 (a : Int32) (V : gx_M) : mb 0 (nI 1) a V = ((F_Mod_shuffle 0 (nI 1) a V).bind fun q15 => some q15) := by
  unfold mb
  rw [if_neg (by decide), if_neg (by decide)]
theorem cD_2 (c : Nat) (a : Int32) (V : gx_M) : cb 1 c (nI 2) a V = ((F_Frm_pop c V).bind fun q7 => some q7.2) := by
  unfold cb
  rw [if_neg (by decide), if_pos (by decide)]
theorem mD_2 (a : Int32) (V : gx_M) : mb 0 (nI 2) a V = ((F_Mod_shuffle 0 (nI 2) a V).bind fun q15 => some q15) := by
  unfold mb
  rw [if_neg (by decide), if_neg (by decide)]
theorem cD_3 (c : Nat) (a : Int32) (V : gx_M) : cb 1 c (nI 3) a V = (F_Mac_step_368   1 c (nI 3) a V) := by
  unfold cb
  rw [if_neg (by decide), if_neg (by decide), if_neg (by decide), if_neg (by decide), if_neg (by decide), if_neg (by decide), if_neg (by decide), if_neg (by decide), if_neg (by decide), if_neg (by decide), if_neg (by decide), if_neg (by decide), if_neg (by decide)]
theorem mD_3 (a : Int32) (V : gx_M) : mb 0 (nI 3) a V = ((F_Mod_shuffle 0 (nI 3) a V).bind fun q15 => some q15) := by
  unfold mb
  rw [if_neg (by decide), if_neg (by decide)]
theorem cD_4 (c : Nat) (a : Int32) (V : gx_M) : cb 1 c (nI 4) a V = ((F_Frm_swap c a V).bind fun q8 => some q8) := by
  unfold cb
  rw [if_neg (by decide), if_neg (by decide), if_pos (by decide)]
theorem mD_4 (a : Int32) (V : gx_M) : mb 0 (nI 4) a V = ((F_Mod_shuffle 0 (nI 4) a V).bind fun q15 => some q15) := by
  unfold mb
  rw [if_neg (by decide), if_neg (by decide)]
theorem cD_5 (c : Nat) (a : Int32) (V : gx_M) : cb 1 c (nI 5) a V = (F_Mac_step_368   1 c (nI 5) a V) := by
  unfold cb
  rw [if_neg (by decide), if_neg (by decide), if_neg (by decide), if_neg (by decide), if_neg (by decide), if_neg (by decide), if_neg (by decide), if_neg (by decide), if_neg (by decide), if_neg (by decide), if_neg (by decide), if_neg (by decide), if_neg (by decide)]
theorem mD_5 (a : Int32) (V : gx_M) : mb 0 (nI 5) a V = ((F_Mod_reckon 0 (nI 5) V).bind fun q14 => some q14) := by
  unfold mb
  rw [if_neg (by decide), if_pos (by decide), if_neg (by decide)]
theorem cD_6 (c : Nat) (a : Int32) (V : gx_M) : cb 1 c (nI 6) a V = (F_Mac_step_368   1 c (nI 6) a V) := by
  unfold cb
  rw [if_neg (by decide), if_neg (by decide), if_neg (by decide), if_neg (by decide), if_neg (by decide), if_neg (by decide), if_neg (by decide), if_neg (by decide), if_neg (by decide), if_neg (by decide), if_neg (by decide), if_neg (by decide), if_neg (by decide)]
theorem mD_6 (a : Int32) (V : gx_M) : mb 0 (nI 6) a V = ((F_Mod_reckon 0 (nI 6) V).bind fun q14 => some q14) := by
  unfold mb
  rw [if_neg (by decide), if_pos (by decide), if_neg (by decide)]
theorem cD_7 (c : Nat) (a : Int32) (V : gx_M) : cb 1 c (nI 7) a V = (F_Mac_step_368   1 c (nI 7) a V) := by
  unfold cb
  rw [if_neg (by decide), if_neg (by decide), if_neg (by decide), if_neg (by decide), if_neg (by decide), if_neg (by decide), if_neg (by decide), if_neg (by decide), if_neg (by decide), if_neg (by decide), if_neg (by decide), if_neg (by decide), if_neg (by decide)]
theorem mD_7 (a : Int32) (V : gx_M) : mb 0 (nI 7) a V = ((F_Mod_reckon 0 (nI 7) V).bind fun q14 => some q14) := by
  unfold mb
  rw [if_neg (by decide), if_pos (by decide), if_neg (by decide)]
theorem cD_8 (c : Nat) (a : Int32) (V : gx_M) : cb 1 c (nI 8) a V = (F_Mac_step_368   1 c (nI 8) a V) := by
  unfold cb
  rw [if_neg (by decide), if_neg (by decide), if_neg (by decide), if_neg (by decide), if_neg (by decide), if_neg (by decide), if_neg (by decide), if_neg (by decide), if_neg (by decide), if_neg (by decide), if_neg (by decide), if_neg (by decide), if_neg (by decide)]
theorem mD_8 (a : Int32) (V : gx_M) : mb 0 (nI 8) a V = ((F_Mod_reckon 0 (nI 8) V).bind fun q14 => some q14) := by
  unfold mb
  rw [if_neg (by decide), if_pos (by decide), if_neg (by decide)]
theorem cD_9 (c : Nat) (a : Int32) (V : gx_M) : cb 1 c (nI 9) a V = (F_Mac_step_368   1 c (nI 9) a V) := by
  unfold cb
  rw [if_neg (by decide), if_neg (by decide), if_neg (by decide), if_neg (by decide), if_neg (by decide), if_neg (by decide), if_neg (by decide), if_neg (by decide), if_neg (by decide), if_neg (by decide), if_neg (by decide), if_neg (by decide), if_neg (by decide)]
theorem mD_9 (a : Int32) (V : gx_M) : mb 0 (nI 9) a V = ((F_Mod_reckon 0 (nI 9) V).bind fun q14 => some q14) := by
  unfold mb
  rw [if_neg (by decide), if_pos (by decide), if_neg (by decide)]
theorem cD_10 (c : Nat) (a : Int32) (V : gx_M) : cb 1 c (nI 10) a V = (F_Mac_step_368   1 c (nI 10) a V) := by
  unfold cb
  rw [if_neg (by decide), if_neg (by decide), if_neg (by decide), if_neg (by decide), if_neg (by decide), if_neg (by decide), if_neg (by decide), if_neg (by decide), if_neg (by decide), if_neg (by decide), if_neg (by decide), if_neg (by decide), if_neg (by decide)]
theorem mD_10 (a : Int32) (V : gx_M) : mb 0 (nI 10) a V = ((F_Mod_reckon 0 (nI 10) V).bind fun q14 => some q14) := by
  unfold mb
  rw [if_neg (by decide), if_pos (by decide), if_neg (by decide)]
theorem cD_11 (c : Nat) (a : Int32) (V : gx_M) : cb 1 c (nI 11) a V = (F_Mac_step_368   1 c (nI 11) a V) := by
  unfold cb
  rw [if_neg (by decide), if_neg (by decide), if_neg (by decide), if_neg (by decide), if_neg (by decide), if_neg (by decide), if_neg (by decide), if_neg (by decide), if_neg (by decide), if_neg (by decide), if_neg (by decide), if_neg (by decide), if_neg (by decide)]
theorem mD_11 (a : Int32) (V : gx_M) : mb 0 (nI 11) a V = ((F_Mod_reckon 0 (nI 11) V).bind fun q14 => some q14) := by
  unfold mb
  rw [if_neg (by decide), if_pos (by decide), if_neg (by decide)]
theorem cD_12 (c : Nat) (a : Int32) (V : gx_M) : cb 1 c (nI 12) a V = ((F_Frm_pop c V).bind fun q9 => ((F_Mac_jump 1 c q9.1 q9.2).bind fun q10 => some q10)) := by
  unfold cb
  rw [if_neg (by decide), if_neg (by decide), if_neg (by decide), if_pos (by decide)]
theorem mD_12 (a : Int32) (V : gx_M) : mb 0 (nI 12) a V = ((F_Mod_pop 0 V).bind fun q12 => (if (nI 12) = (12 : Int32) then (if gx_ib (q12.2 0 19) 8 then (gx_let (gx_u q12.2 (0 + 8) (q12.2 0 19).toNatClampNeg q12.1) fun V3 => some V3) else none) else ((F_Mod_pop 0 q12.2).bind fun q13 => (if q13.1 = 0 then some q13.2 else (if gx_ib (q13.2 0 19) 8 then (gx_let (gx_u q13.2 (0 + 8) (q13.2 0 19).toNatClampNeg q12.1) fun V4 => some V4) else none))))) := by
  unfold mb
  rw [if_neg (by decide), if_pos (by decide), if_pos (by decide), if_neg (by decide)]
theorem cD_13 (c : Nat) (a : Int32) (V : gx_M) : cb 1 c (nI 13) a V = ((F_Mac_jumpIf 1 c V).bind fun q11 => some q11) := by
  unfold cb
  rw [if_neg (by decide), if_neg (by decide), if_neg (by decide), if_neg (by decide), if_pos (by decide)]
theorem mD_13 (a : Int32) (V : gx_M) : mb 0 (nI 13) a V = ((F_Mod_pop 0 V).bind fun q12 => (if (nI 13) = (12 : Int32) then (if gx_ib (q12.2 0 19) 8 then (gx_let (gx_u q12.2 (0 + 8) (q12.2 0 19).toNatClampNeg q12.1) fun V3 => some V3) else none) else ((F_Mod_pop 0 q12.2).bind fun q13 => (if q13.1 = 0 then some q13.2 else (if gx_ib (q13.2 0 19) 8 then (gx_let (gx_u q13.2 (0 + 8) (q13.2 0 19).toNatClampNeg q12.1) fun V4 => some V4) else none))))) := by
  unfold mb
  rw [if_neg (by decide), if_pos (by decide), if_pos (by decide), if_neg (by decide)]
theorem cD_14 (c : Nat) (a : Int32) (V : gx_M) : cb 1 c (nI 14) a V = (F_Mac_step_368   1 c (nI 14) a V) := by
  unfold cb
  rw [if_neg (by decide), if_neg (by decide), if_neg (by decide), if_neg (by decide), if_neg (by decide), if_neg (by decide), if_neg (by decide), if_neg (by decide), if_neg (by decide), if_neg (by decide), if_neg (by decide), if_neg (by decide), if_neg (by decide)]
theorem mD_14 (a : Int32) (V : gx_M) : mb 0 (nI 14) a V = ((F_Mod_hold 0 (nI 14) V).bind fun q11 => some q11) := by
  unfold mb
  rw [if_neg (by decide), if_pos (by decide), if_pos (by decide), if_pos (by decide), if_neg (by decide)]
theorem cD_15 (c : Nat) (a : Int32) (V : gx_M) : cb 1 c (nI 15) a V = ((F_Mac_store 1 c V).bind fun q12 => some q12) := by
  unfold cb
  rw [if_neg (by decide), if_neg (by decide), if_neg (by decide), if_neg (by decide), if_neg (by decide), if_pos (by decide)]
theorem mD_15 (a : Int32) (V : gx_M) : mb 0 (nI 15) a V = ((F_Mod_hold 0 (nI 15) V).bind fun q11 => some q11) := by
  unfold mb
  rw [if_neg (by decide), if_pos (by decide), if_pos (by decide), if_pos (by decide), if_neg (by decide)]
theorem cD_16 (c : Nat) (a : Int32) (V : gx_M) : cb 1 c (nI 16) a V = (F_Mac_step_368   1 c (nI 16) a V) := by
  unfold cb
  rw [if_neg (by decide), if_neg (by decide), if_neg (by decide), if_neg (by decide), if_neg (by decide), if_neg (by decide), if_neg (by decide), if_neg (by decide), if_neg (by decide), if_neg (by decide), if_neg (by decide), if_neg (by decide), if_neg (by decide)]
theorem mD_16 (a : Int32) (V : gx_M) : mb 0 (nI 16) a V = ((F_Mod_hold 0 (nI 16) V).bind fun q11 => some q11) := by
  unfold mb
  rw [if_neg (by decide), if_pos (by decide), if_pos (by decide), if_pos (by decide), if_neg (by decide)]
theorem cD_17 (c : Nat) (a : Int32) (V : gx_M) : cb 1 c (nI 17) a V = (F_Mac_step_368   1 c (nI 17) a V) := by
  unfold cb
  rw [if_neg (by decide), if_neg (by decide), if_neg (by decide), if_neg (by decide), if_neg (by decide), if_neg (by decide), if_neg (by decide), if_neg (by decide), if_neg (by decide), if_neg (by decide), if_neg (by decide), if_neg (by decide), if_neg (by decide)]
theorem mD_17 (a : Int32) (V : gx_M) : mb 0 (nI 17) a V = ((F_Mod_hold 0 (nI 17) V).bind fun q11 => some q11) := by
  unfold mb
  rw [if_neg (by decide), if_pos (by decide), if_pos (by decide), if_pos (by decide), if_neg (by decide)]
theorem cD_18 (c : Nat) (a : Int32) (V : gx_M) : cb 1 c (nI 18) a V = (F_Mac_step_368   1 c (nI 18) a V) := by
  unfold cb
  rw [if_neg (by decide), if_neg (by decide), if_neg (by decide), if_neg (by decide), if_neg (by decide), if_neg (by decide), if_neg (by decide), if_neg (by decide), if_neg (by decide), if_neg (by decide), if_neg (by decide), if_neg (by decide), if_neg (by decide)]
theorem mD_18 (a : Int32) (V : gx_M) : mb 0 (nI 18) a V = ((F_Mod_hold 0 (nI 18) V).bind fun q11 => some q11) := by
  unfold mb
  rw [if_neg (by decide), if_pos (by decide), if_pos (by decide), if_pos (by decide), if_neg (by decide)]
theorem cD_19 (c : Nat) (a : Int32) (V : gx_M) : cb 1 c (nI 19) a V = (F_Mac_step_368   1 c (nI 19) a V) := by
  unfold cb
  rw [if_neg (by decide), if_neg (by decide), if_neg (by decide), if_neg (by decide), if_neg (by decide), if_neg (by decide), if_neg (by decide), if_neg (by decide), if_neg (by decide), if_neg (by decide), if_neg (by decide), if_neg (by decide), if_neg (by decide)]
theorem mD_19 (a : Int32) (V : gx_M) : mb 0 (nI 19) a V = ((F_Mod_hold 0 (nI 19) V).bind fun q11 => some q11) := by
  unfold mb
  rw [if_neg (by decide), if_pos (by decide), if_pos (by decide), if_pos (by decide), if_neg (by decide)]
theorem cD_20 (c : Nat) (a : Int32) (V : gx_M) : cb 1 c (nI 20) a V = (F_Mac_step_368   1 c (nI 20) a V) := by
  unfold cb
  rw [if_neg (by decide), if_neg (by decide), if_neg (by decide), if_neg (by decide), if_neg (by decide), if_neg (by decide), if_neg (by decide), if_neg (by decide), if_neg (by decide), if_neg (by decide), if_neg (by decide), if_neg (by decide), if_neg (by decide)]
theorem mD_20 (a : Int32) (V : gx_M) : mb 0 (nI 20) a V = ((F_Mod_hold 0 (nI 20) V).bind fun q11 => some q11) := by
  unfold mb
  rw [if_neg (by decide), if_pos (by decide), if_pos (by decide), if_pos (by decide), if_neg (by decide)]
theorem cD_21 (c : Nat) (a : Int32) (V : gx_M) : cb 1 c (nI 21) a V = (F_Mac_step_368   1 c (nI 21) a V) := by
  unfold cb
  rw [if_neg (by decide), if_neg (by decide), if_neg (by decide), if_neg (by decide), if_neg (by decide), if_neg (by decide), if_neg (by decide), if_neg (by decide), if_neg (by decide), if_neg (by decide), if_neg (by decide), if_neg (by decide), if_neg (by decide)]
theorem mD_21 (a : Int32) (V : gx_M) : mb 0 (nI 21) a V = ((F_Mod_hold 0 (nI 21) V).bind fun q11 => some q11) := by
  unfold mb
  rw [if_neg (by decide), if_pos (by decide), if_pos (by decide), if_pos (by decide), if_neg (by decide)]
theorem cD_22 (c : Nat) (a : Int32) (V : gx_M) : cb 1 c (nI 22) a V = ((F_Mac_callOther 1 c V).bind fun q13 => some q13) := by
  unfold cb
  rw [if_neg (by decide), if_neg (by decide), if_neg (by decide), if_neg (by decide), if_neg (by decide), if_neg (by decide), if_pos (by decide)]
theorem mD_22 (a : Int32) (V : gx_M) : mb 0 (nI 22) a V = ((F_Mod_act 0 (nI 22) V).bind fun q10 => some q10) := by
  unfold mb
  rw [if_neg (by decide), if_pos (by decide), if_pos (by decide), if_pos (by decide), if_pos (by decide)]
theorem cD_23 (c : Nat) (a : Int32) (V : gx_M) : cb 1 c (nI 23) a V = ((F_Mac_delegate 1 c V).bind fun q14 => some q14) := by
  unfold cb
  rw [if_neg (by decide), if_neg (by decide), if_neg (by decide), if_neg (by decide), if_neg (by decide), if_neg (by decide), if_neg (by decide), if_pos (by decide)]
theorem mD_23 (a : Int32) (V : gx_M) : mb 0 (nI 23) a V = ((F_Mod_act 0 (nI 23) V).bind fun q10 => some q10) := by
  unfold mb
  rw [if_neg (by decide), if_pos (by decide), if_pos (by decide), if_pos (by decide), if_pos (by decide)]
theorem cD_24 (c : Nat) (a : Int32) (V : gx_M) : cb 1 c (nI 24) a V = ((F_Mac_create 1 c V).bind fun q15 => some q15) := by
  unfold cb
  rw [if_neg (by decide), if_neg (by decide), if_neg (by decide), if_neg (by decide), if_neg (by decide), if_neg (by decide), if_neg (by decide), if_neg (by decide), if_pos (by decide)]
theorem mD_24 (a : Int32) (V : gx_M) : mb 0 (nI 24) a V = ((F_Mod_act 0 (nI 24) V).bind fun q10 => some q10) := by
  unfold mb
  rw [if_neg (by decide), if_pos (by decide), if_pos (by decide), if_pos (by decide), if_pos (by decide)]
theorem cD_25 (c : Nat) (a : Int32) (V : gx_M) : cb 1 c (nI 25) a V = ((F_Frm_pop c V).bind fun q16 => ((F_Log_add (1 + 8) (V c 0) q16.1 q16.2).bind fun q17 => some q17)) := by
  unfold cb
  rw [if_neg (by decide), if_neg (by decide), if_neg (by decide), if_neg (by decide), if_neg (by decide), if_neg (by decide), if_neg (by decide), if_neg (by decide), if_neg (by decide), if_pos (by decide)]
theorem mD_25 (a : Int32) (V : gx_M) : mb 0 (nI 25) a V = ((F_Mod_act 0 (nI 25) V).bind fun q10 => some q10) := by
  unfold mb
  rw [if_neg (by decide), if_pos (by decide), if_pos (by decide), if_pos (by decide), if_pos (by decide)]
theorem cD_26 (c : Nat) (a : Int32) (V : gx_M) : cb 1 c (nI 26) a V = ((F_Frm_pop c V).bind fun q18 => ((F_Frm_end c (1 : Int32) q18.1 q18.2).bind fun q19 => some q19)) := by
  unfold cb
  rw [if_neg (by decide), if_neg (by decide), if_neg (by decide), if_neg (by decide), if_neg (by decide), if_neg (by decide), if_neg (by decide), if_neg (by decide), if_neg (by decide), if_neg (by decide), if_pos (by decide)]
theorem mD_26 (a : Int32) (V : gx_M) : mb 0 (nI 26) a V = ((F_Mod_act 0 (nI 26) V).bind fun q10 => some q10) := by
  unfold mb
  rw [if_neg (by decide), if_pos (by decide), if_pos (by decide), if_pos (by decide), if_pos (by decide)]
theorem cD_27 (c : Nat) (a : Int32) (V : gx_M) : cb 1 c (nI 27) a V = ((F_Frm_pop c V).bind fun q20 => ((F_Frm_end c (0 : Int32) q20.1 q20.2).bind fun q21 => some q21)) := by
  unfold cb
  rw [if_neg (by decide), if_neg (by decide), if_neg (by decide), if_neg (by decide), if_neg (by decide), if_neg (by decide), if_neg (by decide), if_neg (by decide), if_neg (by decide), if_neg (by decide), if_neg (by decide), if_pos (by decide)]
theorem mD_27 (a : Int32) (V : gx_M) : mb 0 (nI 27) a V = ((F_Mod_act 0 (nI 27) V).bind fun q10 => some q10) := by
  unfold mb
  rw [if_neg (by decide), if_pos (by decide), if_pos (by decide), if_pos (by decide), if_pos (by decide)]
theorem cD_28 (c : Nat) (a : Int32) (V : gx_M) : cb 1 c (nI 28) a V = ((F_Mac_endSelf 1 c V).bind fun q22 => some q22) := by
  unfold cb
  rw [if_neg (by decide), if_neg (by decide), if_neg (by decide), if_neg (by decide), if_neg (by decide), if_neg (by decide), if_neg (by decide), if_neg (by decide), if_neg (by decide), if_neg (by decide), if_neg (by decide), if_neg (by decide), if_pos (by decide)]
theorem mD_28 (a : Int32) (V : gx_M) : mb 0 (nI 28) a V = ((F_Mod_act 0 (nI 28) V).bind fun q10 => some q10) := by
  unfold mb
  rw [if_neg (by decide), if_pos (by decide), if_pos (by decide), if_pos (by decide), if_pos (by decide)]
