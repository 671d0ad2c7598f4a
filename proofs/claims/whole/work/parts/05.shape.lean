/-! The layout: cell k of a world is of kind cx_kd k (an object of class 0 .. 6, the frames (50), an array of n ints (100 + n), of n booleans (10000 + n)); 99: none. -/
def cx_kl : List Nat := [5, 3, 0, 116, 116, 116, 484, 228, 116, 2, 116, 116, 50, 1, 112, 0, 116, 116, 116, 484, 228, 116, 1, 112, 0, 116, 116, 116, 484, 228, 116, 1, 112, 0, 116, 116, 116, 484, 228, 116, 1, 112, 0, 116, 116, 116, 484, 228, 116, 1, 112, 0, 116, 116, 116, 484, 228, 116, 1, 112, 0, 116, 116, 116, 484, 228, 116, 1, 112, 0, 116, 116, 116, 484, 228, 116, 1, 112, 0, 116, 116, 116, 484, 228, 116, 0, 116, 116, 116, 484, 228, 116, 4, 116, 116, 116, 116]
def cx_kd (k : Nat) : Nat := cx_kl.getD k 99
theorem cx_lt {k c : Nat} (h : cx_kd k = c) (hc : c ≠ 99) : k < 97 := by
  by_cases hk : k < 97
  · exact hk
  · exfalso
    apply hc
    rw [← h]
    unfold cx_kd
    rw [List.getD_eq_getElem?_getD, List.getElem?_eq_none (by show 97 ≤ k; omega)]
    rfl
def mx_kl : List Nat := [6, 676, 676, 164, 612, 612, 108, 108, 108, 108, 108, 108, 108, 108, 196, 4708, 108, 108, 132, 10016, 116, 116]
def mx_kd (k : Nat) : Nat := mx_kl.getD k 99
theorem mx_lt {k c : Nat} (h : mx_kd k = c) (hc : c ≠ 99) : k < 22 := by
  by_cases hk : k < 22
  · exact hk
  · exfalso
    apply hc
    rw [← h]
    unfold mx_kd
    rw [List.getD_eq_getElem?_getD, List.getElem?_eq_none (by show 22 ≤ k; omega)]
    rfl
def cx_sh (cI cR : ClassId) (b k : Nat) (f : Nat → Int32) : va_E := if 100 ≤ cx_kd k then .inl (cI, cx_kd k - 100, .inl f) else match cx_kd k with
  | 0 => .inr (0, [.ref (b + (k + 1)), .ref (b + (k + 2)), .ref (b + (k + 3)), .ref (b + (k + 4)), .ref (b + (k + 5)), .ref (b + (k + 6))])
  | 1 => .inr (1, [.int (f 0), .int (f 1), .int (f 2), .int (f 3), .int (f 4), .int (f 5), .int (f 6), .ref (b + (k + 1)), .int (f 8), .int (f 9), .int (f 10), .int (f 11), .ref (b + (k + 2)), .int (f 13), .int (f 14), .int (f 15), .int (f 16)])
  | 2 => .inr (2, [.ref (b + (k + 1)), .ref (b + (k + 2)), .int (f 2), .int (f 3)])
  | 3 => .inr (3, [.ref (b + (k + 1)), .ref (b + (k + 8)), .ref (b + (k + 11)), .int (f 3), .int (f 4), .int (f 5)])
  | 4 => .inr (4, [.ref (b + (k + 1)), .ref (b + (k + 2)), .ref (b + (k + 3)), .ref (b + (k + 4)), .int (f 4)])
  | 5 => .inr (5, [.ref (b + (k + 1)), .ref (b + (k + 85)), .ref (b + (k + 92)), .int (f 3), .int (f 4), .int (f 5), .int (f 6), .int (f 7), .int (f 8), .int (f 9), .int (f 10), .int (f 11), .int (f 12), .int (f 13)])
  | 50 => .inl (cR, 8, .inr (.inr (.inr (.inr (fun j => some (b + (k + (1 + 9 * j))))))))
  | _ => .inr (99, [])
def mx_sh (cI cZ : ClassId) (b k : Nat) (f : Nat → Int32) : va_E := if 10000 ≤ mx_kd k then .inl (cZ, mx_kd k - 10000, .inl f) else if 100 ≤ mx_kd k then .inl (cI, mx_kd k - 100, .inl f) else match mx_kd k with
  | 6 => .inr (6, [.ref (b + (k + 1)), .ref (b + (k + 2)), .int (f 2), .int (f 3), .int (f 4), .int (f 5), .int (f 6), .int (f 7), .int (f 8), .int (f 9), .int (f 10), .int (f 11), .ref (b + (k + 3)), .int (f 13), .ref (b + (k + 4)), .ref (b + (k + 5)), .int (f 16), .int (f 17), .int (f 18), .int (f 19), .ref (b + (k + 6)), .ref (b + (k + 7)), .ref (b + (k + 8)), .ref (b + (k + 9)), .ref (b + (k + 10)), .ref (b + (k + 11)), .ref (b + (k + 12)), .ref (b + (k + 13)), .ref (b + (k + 14)), .ref (b + (k + 15)), .ref (b + (k + 16)), .ref (b + (k + 17)), .int (f 32), .int (f 33), .int (f 34), .ref (b + (k + 18)), .ref (b + (k + 19)), .ref (b + (k + 20)), .ref (b + (k + 21))])
  | _ => .inr (99, [])
theorem sh_Acc (cI cR : ClassId) (b : Nat) {k : Nat} (h : cx_kd k = 0) (f : Nat → Int32) : cx_sh cI cR b k f = .inr (0, [.ref (b + (k + 1)), .ref (b + (k + 2)), .ref (b + (k + 3)), .ref (b + (k + 4)), .ref (b + (k + 5)), .ref (b + (k + 6))]) := by
  unfold cx_sh
  rw [h]
  rfl
theorem to_Acc_balances {k : Nat} (h : cx_kd k = 0) : cx_kd (k + 1) = 116 := (by decide +kernel : ∀ k, k < 97 → cx_kd k = 0 → cx_kd (k + 1) = 116) k (cx_lt h (by decide)) h
theorem to_Acc_nonces {k : Nat} (h : cx_kd k = 0) : cx_kd (k + 2) = 116 := (by decide +kernel : ∀ k, k < 97 → cx_kd k = 0 → cx_kd (k + 2) = 116) k (cx_lt h (by decide)) h
theorem to_Acc_sizes {k : Nat} (h : cx_kd k = 0) : cx_kd (k + 3) = 116 := (by decide +kernel : ∀ k, k < 97 → cx_kd k = 0 → cx_kd (k + 3) = 116) k (cx_lt h (by decide)) h
theorem to_Acc_words {k : Nat} (h : cx_kd k = 0) : cx_kd (k + 4) = 484 := (by decide +kernel : ∀ k, k < 97 → cx_kd k = 0 → cx_kd (k + 4) = 484) k (cx_lt h (by decide)) h
theorem to_Acc_slots {k : Nat} (h : cx_kd k = 0) : cx_kd (k + 5) = 228 := (by decide +kernel : ∀ k, k < 97 → cx_kd k = 0 → cx_kd (k + 5) = 228) k (cx_lt h (by decide)) h
theorem to_Acc_values {k : Nat} (h : cx_kd k = 0) : cx_kd (k + 6) = 116 := (by decide +kernel : ∀ k, k < 97 → cx_kd k = 0 → cx_kd (k + 6) = 116) k (cx_lt h (by decide)) h
theorem sh_Frm (cI cR : ClassId) (b : Nat) {k : Nat} (h : cx_kd k = 1) (f : Nat → Int32) : cx_sh cI cR b k f = .inr (1, [.int (f 0), .int (f 1), .int (f 2), .int (f 3), .int (f 4), .int (f 5), .int (f 6), .ref (b + (k + 1)), .int (f 8), .int (f 9), .int (f 10), .int (f 11), .ref (b + (k + 2)), .int (f 13), .int (f 14), .int (f 15), .int (f 16)]) := by
  unfold cx_sh
  rw [h]
  rfl
theorem to_Frm_stack {k : Nat} (h : cx_kd k = 1) : cx_kd (k + 1) = 112 := (by decide +kernel : ∀ k, k < 97 → cx_kd k = 1 → cx_kd (k + 1) = 112) k (cx_lt h (by decide)) h
theorem to_Frm_accountsBefore {k : Nat} (h : cx_kd k = 1) : cx_kd (k + 2) = 0 := (by decide +kernel : ∀ k, k < 97 → cx_kd k = 1 → cx_kd (k + 2) = 0) k (cx_lt h (by decide)) h
theorem sh_Log (cI cR : ClassId) (b : Nat) {k : Nat} (h : cx_kd k = 2) (f : Nat → Int32) : cx_sh cI cR b k f = .inr (2, [.ref (b + (k + 1)), .ref (b + (k + 2)), .int (f 2), .int (f 3)]) := by
  unfold cx_sh
  rw [h]
  rfl
theorem to_Log_accounts {k : Nat} (h : cx_kd k = 2) : cx_kd (k + 1) = 116 := (by decide +kernel : ∀ k, k < 97 → cx_kd k = 2 → cx_kd (k + 1) = 116) k (cx_lt h (by decide)) h
theorem to_Log_numbers {k : Nat} (h : cx_kd k = 2) : cx_kd (k + 2) = 116 := (by decide +kernel : ∀ k, k < 97 → cx_kd k = 2 → cx_kd (k + 2) = 116) k (cx_lt h (by decide)) h
theorem sh_Mac (cI cR : ClassId) (b : Nat) {k : Nat} (h : cx_kd k = 3) (f : Nat → Int32) : cx_sh cI cR b k f = .inr (3, [.ref (b + (k + 1)), .ref (b + (k + 8)), .ref (b + (k + 11)), .int (f 3), .int (f 4), .int (f 5)]) := by
  unfold cx_sh
  rw [h]
  rfl
theorem to_Mac_accounts {k : Nat} (h : cx_kd k = 3) : cx_kd (k + 1) = 0 := (by decide +kernel : ∀ k, k < 97 → cx_kd k = 3 → cx_kd (k + 1) = 0) k (cx_lt h (by decide)) h
theorem to_Mac_logs {k : Nat} (h : cx_kd k = 3) : cx_kd (k + 8) = 2 := (by decide +kernel : ∀ k, k < 97 → cx_kd k = 3 → cx_kd (k + 8) = 2) k (cx_lt h (by decide)) h
theorem to_Mac_frames {k : Nat} (h : cx_kd k = 3) : cx_kd (k + 11) = 50 := (by decide +kernel : ∀ k, k < 97 → cx_kd k = 3 → cx_kd (k + 11) = 50) k (cx_lt h (by decide)) h
theorem sh_Rec (cI cR : ClassId) (b : Nat) {k : Nat} (h : cx_kd k = 4) (f : Nat → Int32) : cx_sh cI cR b k f = .inr (4, [.ref (b + (k + 1)), .ref (b + (k + 2)), .ref (b + (k + 3)), .ref (b + (k + 4)), .int (f 4)]) := by
  unfold cx_sh
  rw [h]
  rfl
theorem to_Rec_statuses {k : Nat} (h : cx_kd k = 4) : cx_kd (k + 1) = 116 := (by decide +kernel : ∀ k, k < 97 → cx_kd k = 4 → cx_kd (k + 1) = 116) k (cx_lt h (by decide)) h
theorem to_Rec_usedGas {k : Nat} (h : cx_kd k = 4) : cx_kd (k + 2) = 116 := (by decide +kernel : ∀ k, k < 97 → cx_kd k = 4 → cx_kd (k + 2) = 116) k (cx_lt h (by decide)) h
theorem to_Rec_outputs {k : Nat} (h : cx_kd k = 4) : cx_kd (k + 3) = 116 := (by decide +kernel : ∀ k, k < 97 → cx_kd k = 4 → cx_kd (k + 3) = 116) k (cx_lt h (by decide)) h
theorem to_Rec_logCounts {k : Nat} (h : cx_kd k = 4) : cx_kd (k + 4) = 116 := (by decide +kernel : ∀ k, k < 97 → cx_kd k = 4 → cx_kd (k + 4) = 116) k (cx_lt h (by decide)) h
theorem sh_Led (cI cR : ClassId) (b : Nat) {k : Nat} (h : cx_kd k = 5) (f : Nat → Int32) : cx_sh cI cR b k f = .inr (5, [.ref (b + (k + 1)), .ref (b + (k + 85)), .ref (b + (k + 92)), .int (f 3), .int (f 4), .int (f 5), .int (f 6), .int (f 7), .int (f 8), .int (f 9), .int (f 10), .int (f 11), .int (f 12), .int (f 13)]) := by
  unfold cx_sh
  rw [h]
  rfl
theorem to_Led_machine {k : Nat} (h : cx_kd k = 5) : cx_kd (k + 1) = 3 := (by decide +kernel : ∀ k, k < 97 → cx_kd k = 5 → cx_kd (k + 1) = 3) k (cx_lt h (by decide)) h
theorem to_Led_atBegin {k : Nat} (h : cx_kd k = 5) : cx_kd (k + 85) = 0 := (by decide +kernel : ∀ k, k < 97 → cx_kd k = 5 → cx_kd (k + 85) = 0) k (cx_lt h (by decide)) h
theorem to_Led_receipts {k : Nat} (h : cx_kd k = 5) : cx_kd (k + 92) = 4 := (by decide +kernel : ∀ k, k < 97 → cx_kd k = 5 → cx_kd (k + 92) = 4) k (cx_lt h (by decide)) h
theorem sh_Mod (cI cZ : ClassId) (b : Nat) {k : Nat} (h : mx_kd k = 6) (f : Nat → Int32) : mx_sh cI cZ b k f = .inr (6, [.ref (b + (k + 1)), .ref (b + (k + 2)), .int (f 2), .int (f 3), .int (f 4), .int (f 5), .int (f 6), .int (f 7), .int (f 8), .int (f 9), .int (f 10), .int (f 11), .ref (b + (k + 3)), .int (f 13), .ref (b + (k + 4)), .ref (b + (k + 5)), .int (f 16), .int (f 17), .int (f 18), .int (f 19), .ref (b + (k + 6)), .ref (b + (k + 7)), .ref (b + (k + 8)), .ref (b + (k + 9)), .ref (b + (k + 10)), .ref (b + (k + 11)), .ref (b + (k + 12)), .ref (b + (k + 13)), .ref (b + (k + 14)), .ref (b + (k + 15)), .ref (b + (k + 16)), .ref (b + (k + 17)), .int (f 32), .int (f 33), .int (f 34), .ref (b + (k + 18)), .ref (b + (k + 19)), .ref (b + (k + 20)), .ref (b + (k + 21))]) := by
  unfold mx_sh
  rw [h]
  rfl
theorem to_Mod_now {k : Nat} (h : mx_kd k = 6) : mx_kd (k + 1) = 676 := (by decide +kernel : ∀ k, k < 22 → mx_kd k = 6 → mx_kd (k + 1) = 676) k (mx_lt h (by decide)) h
theorem to_Mod_before {k : Nat} (h : mx_kd k = 6) : mx_kd (k + 2) = 676 := (by decide +kernel : ∀ k, k < 22 → mx_kd k = 6 → mx_kd (k + 2) = 676) k (mx_lt h (by decide)) h
theorem to_Mod_receipt {k : Nat} (h : mx_kd k = 6) : mx_kd (k + 3) = 164 := (by decide +kernel : ∀ k, k < 22 → mx_kd k = 6 → mx_kd (k + 3) = 164) k (mx_lt h (by decide)) h
theorem to_Mod_logAccount {k : Nat} (h : mx_kd k = 6) : mx_kd (k + 4) = 612 := (by decide +kernel : ∀ k, k < 22 → mx_kd k = 6 → mx_kd (k + 4) = 612) k (mx_lt h (by decide)) h
theorem to_Mod_logNumber {k : Nat} (h : mx_kd k = 6) : mx_kd (k + 5) = 612 := (by decide +kernel : ∀ k, k < 22 → mx_kd k = 6 → mx_kd (k + 5) = 612) k (mx_lt h (by decide)) h
theorem to_Mod_self {k : Nat} (h : mx_kd k = 6) : mx_kd (k + 6) = 108 := (by decide +kernel : ∀ k, k < 22 → mx_kd k = 6 → mx_kd (k + 6) = 108) k (mx_lt h (by decide)) h
theorem to_Mod_runs {k : Nat} (h : mx_kd k = 6) : mx_kd (k + 7) = 108 := (by decide +kernel : ∀ k, k < 22 → mx_kd k = 6 → mx_kd (k + 7) = 108) k (mx_lt h (by decide)) h
theorem to_Mod_place {k : Nat} (h : mx_kd k = 6) : mx_kd (k + 8) = 108 := (by decide +kernel : ∀ k, k < 22 → mx_kd k = 6 → mx_kd (k + 8) = 108) k (mx_lt h (by decide)) h
theorem to_Mod_caller {k : Nat} (h : mx_kd k = 6) : mx_kd (k + 9) = 108 := (by decide +kernel : ∀ k, k < 22 → mx_kd k = 6 → mx_kd (k + 9) = 108) k (mx_lt h (by decide)) h
theorem to_Mod_value {k : Nat} (h : mx_kd k = 6) : mx_kd (k + 10) = 108 := (by decide +kernel : ∀ k, k < 22 → mx_kd k = 6 → mx_kd (k + 10) = 108) k (mx_lt h (by decide)) h
theorem to_Mod_input {k : Nat} (h : mx_kd k = 6) : mx_kd (k + 11) = 108 := (by decide +kernel : ∀ k, k < 22 → mx_kd k = 6 → mx_kd (k + 11) = 108) k (mx_lt h (by decide)) h
theorem to_Mod_gas {k : Nat} (h : mx_kd k = 6) : mx_kd (k + 12) = 108 := (by decide +kernel : ∀ k, k < 22 → mx_kd k = 6 → mx_kd (k + 12) = 108) k (mx_lt h (by decide)) h
theorem to_Mod_size {k : Nat} (h : mx_kd k = 6) : mx_kd (k + 13) = 108 := (by decide +kernel : ∀ k, k < 22 → mx_kd k = 6 → mx_kd (k + 13) = 108) k (mx_lt h (by decide)) h
theorem to_Mod_stack {k : Nat} (h : mx_kd k = 6) : mx_kd (k + 14) = 196 := (by decide +kernel : ∀ k, k < 22 → mx_kd k = 6 → mx_kd (k + 14) = 196) k (mx_lt h (by decide)) h
theorem to_Mod_copies {k : Nat} (h : mx_kd k = 6) : mx_kd (k + 15) = 4708 := (by decide +kernel : ∀ k, k < 22 → mx_kd k = 6 → mx_kd (k + 15) = 4708) k (mx_lt h (by decide)) h
theorem to_Mod_refunds {k : Nat} (h : mx_kd k = 6) : mx_kd (k + 16) = 108 := (by decide +kernel : ∀ k, k < 22 → mx_kd k = 6 → mx_kd (k + 16) = 108) k (mx_lt h (by decide)) h
theorem to_Mod_logsThen {k : Nat} (h : mx_kd k = 6) : mx_kd (k + 17) = 108 := (by decide +kernel : ∀ k, k < 22 → mx_kd k = 6 → mx_kd (k + 17) = 108) k (mx_lt h (by decide)) h
theorem to_Mod_node {k : Nat} (h : mx_kd k = 6) : mx_kd (k + 18) = 132 := (by decide +kernel : ∀ k, k < 22 → mx_kd k = 6 → mx_kd (k + 18) = 132) k (mx_lt h (by decide)) h
theorem to_Mod_has {k : Nat} (h : mx_kd k = 6) : mx_kd (k + 19) = 10016 := (by decide +kernel : ∀ k, k < 22 → mx_kd k = 6 → mx_kd (k + 19) = 10016) k (mx_lt h (by decide)) h
theorem to_Mod_worth {k : Nat} (h : mx_kd k = 6) : mx_kd (k + 20) = 116 := (by decide +kernel : ∀ k, k < 22 → mx_kd k = 6 → mx_kd (k + 20) = 116) k (mx_lt h (by decide)) h
theorem to_Mod_values {k : Nat} (h : mx_kd k = 6) : mx_kd (k + 21) = 116 := (by decide +kernel : ∀ k, k < 22 → mx_kd k = 6 → mx_kd (k + 21) = 116) k (mx_lt h (by decide)) h
theorem sh_frames (cI cR : ClassId) (b : Nat) {k : Nat} (h : cx_kd k = 50) (f : Nat → Int32) : cx_sh cI cR b k f = .inl (cR, 8, .inr (.inr (.inr (.inr (fun j => some (b + (k + (1 + 9 * j)))))))) := by
  unfold cx_sh
  rw [h]
  rfl
theorem to_frame {k i : Nat} (h : cx_kd k = 50) (hi : i < 8) : cx_kd (k + (1 + 9 * i)) = 1 := (by decide +kernel : ∀ k, k < 97 → cx_kd k = 50 → ∀ i, i < 8 → cx_kd (k + (1 + 9 * i)) = 1) k (cx_lt h (by decide)) h i hi
theorem sh_arr (cI cR : ClassId) (b : Nat) {k n : Nat} (h : cx_kd k = 100 + n) (f : Nat → Int32) : cx_sh cI cR b k f = .inl (cI, n, .inl f) := by
  unfold cx_sh
  rw [h, if_pos (by omega), Nat.add_sub_cancel_left]
theorem sh_arrP (cI cR : ClassId) (b : Nat) {k : Nat} (h : 100 ≤ cx_kd k) (f : Nat → Int32) : cx_sh cI cR b k f = .inl (cI, cx_kd k - 100, .inl f) := by
  unfold cx_sh
  rw [if_pos h]
theorem mh_arr (cI cZ : ClassId) (b : Nat) {k n : Nat} (h : mx_kd k = 100 + n) (hn : n < 9900) (f : Nat → Int32) : mx_sh cI cZ b k f = .inl (cI, n, .inl f) := by
  unfold mx_sh
  rw [h, if_neg (by omega), if_pos (by omega), Nat.add_sub_cancel_left]
theorem mh_arrZ (cI cZ : ClassId) (b : Nat) {k n : Nat} (h : mx_kd k = 10000 + n) (f : Nat → Int32) : mx_sh cI cZ b k f = .inl (cZ, n, .inl f) := by
  unfold mx_sh
  rw [h, if_pos (by omega), Nat.add_sub_cancel_left]
def cx_prices (j : Nat) : Int32 := ([0, 1, 1, 1, 1, 1, 1, 2, 2, 1, 1, 1, 3, 4, 10, 10, 10, 1, 1, 1, 1, 1, 30, 30, 60, 12, 0, 0, 20, 0, 0, 0] : List Int32).getD j 0
def cx_needs (j : Nat) : Int32 := ([0, 0, 1, 0, 0, 2, 2, 2, 2, 2, 2, 1, 1, 2, 1, 2, 1, 0, 0, 0, 0, 0, 4, 3, 3, 1, 1, 1, 1, 13, 13, 13] : List Int32).getD j 0
def cx_X (b tP tN : Nat) (s : State) : Prop := va_Z "GasLedger$Machine" "PRICES" "[I" (.ref tP) (gx_A b 97) s s.heap ∧ va_T .int tP 32 (fun j => .int (cx_prices j)) (gx_A b 97) s s.heap ∧ va_Z "GasLedger$Machine" "NEEDS" "[I" (.ref tN) (gx_A b 97) s s.heap ∧ va_T .int tN 32 (fun j => .int (cx_needs j)) (gx_A b 97) s s.heap ∧ va_Nw (.methodLinkNest "GasLedger$Accounts" 36 ⟨"GasLedger", "isAccount", "(I)Z"⟩ "GasLedger") s ∧ va_Nw (.methodLinkNest "GasLedger$Accounts" 40 ⟨"GasLedger", "isSlot", "(I)Z"⟩ "GasLedger") s ∧ va_Nw (.methodLinkNest "GasLedger$Machine" 224 ⟨"GasLedger", "isSlot", "(I)Z"⟩ "GasLedger") s ∧ va_Nw (.methodLinkNest "GasLedger$Machine" 242 ⟨"GasLedger", "isAccount", "(I)Z"⟩ "GasLedger") s
/-- what stands outside stays, and no frame is seen in it -/
def gy_X (b N : Nat) (X : State → Prop) : Prop := (∀ (s U : State) (H : Heap) (locs : List Loc), X s → va_S (gx_A b N) s.heap H locs → U.heap = H → s.WarmedH U.vm → X U) ∧ ∀ (a : Array Value) (U : State) (g : JFrame) (mk : MethodId), X U → X (U.calling g mk a)
theorem cx_XX (b tP tN : Nat) : gy_X b 97 (cx_X b tP tN) := by
  constructor
  · intro s U H locs hX hS hU hw
    obtain ⟨h1, h2, h3, h4, n1, n2, n3, n4⟩ := hX
    have hv := hw.alike
    have hk : ∀ a : Nat, a < s.heap.size → ¬ gx_A b 97 a → U.heap[a]? = s.heap[a]? := fun a ha hA => by rw [hU]; exact hS.2.1 a ha hA
    exact ⟨(h1.kept hk).moved hv, (h2.kept hk).moved hv, (h3.kept hk).moved hv, (h4.kept hk).moved hv, n1.warmM hw, n2.warmM hw, n3.warmM hw, n4.warmM hw⟩
  · intro a U g mk hX
    obtain ⟨h1, h2, h3, h4, n1, n2, n3, n4⟩ := hX
    exact ⟨h1.moved (U := U.calling g mk a) (Vm.Alike.refl U.vm), h2.moved (U := U.calling g mk a) (Vm.Alike.refl U.vm), h3.moved (U := U.calling g mk a) (Vm.Alike.refl U.vm), h4.moved (U := U.calling g mk a) (Vm.Alike.refl U.vm), n1.same rfl rfl, n2.same rfl rfl, n3.same rfl rfl, n4.same rfl rfl⟩
def mx_X (s : State) : Prop := s = s
theorem mx_XX (b : Nat) : gy_X b 22 mx_X := ⟨fun _ _ _ _ _ _ _ _ => rfl, fun _ _ _ _ _ => rfl⟩
abbrev gx_ty (cI cR cZ : ClassId) : List (ClassId × FieldType) := [(cI, .int), (cR, .object "GasLedger$Frame"), (cZ, .boolean)]
abbrev cx_C (l : Launch) (dC : Nat → ClassId) (dI : Nat → Nat → Nat) (cI cR cZ : ClassId) (b tP tN : Nat) (y : MethodName) (w : List Cond) (rm : Room) (av : List Value) (V : gx_M) (r : Option Value) (V' : gx_M) : Prop := gx_C l y w rm (dC, dI) cx_cl (gx_ty cI cR cZ) b 97 (cx_sh cI cR b) (cx_X b tP tN) av V r V'
abbrev mx_C (l : Launch) (dC : Nat → ClassId) (dI : Nat → Nat → Nat) (cI cR cZ : ClassId) (b tP tN : Nat) (y : MethodName) (w : List Cond) (rm : Room) (av : List Value) (V : gx_M) (r : Option Value) (V' : gx_M) : Prop := gx_C l y w rm (dC, dI) cx_cl (gx_ty cI cR cZ) b 22 (mx_sh cI cZ b) mx_X av V r V'
/-! helpers of the walks -/
abbrev gx_ib (i : Int32) (n : Nat) : Prop := ¬ (i < 0 ∨ n ≤ i.toNatClampNeg)
theorem gx_pos {α : Type} {c : Prop} {d : Decidable c} {t e r : α} (hc : c) (h : @ite α c d t e = r) : t = r := by rw [if_pos hc] at h; exact h
theorem gx_neg {α : Type} {c : Prop} {d : Decidable c} {t e r : α} (hc : ¬ c) (h : @ite α c d t e = r) : e = r := by rw [if_neg hc] at h; exact h
theorem gx_if {α : Type} {c : Prop} {d : Decidable c} {t : Option α} {r : α} (h : @ite (Option α) c d t none = some r) : c ∧ t = some r := by
  by_cases hc : c
  · exact ⟨hc, gx_pos hc h⟩
  · exact absurd (gx_neg hc h) (by simp)
theorem gx_bd {α β : Type} {o : Option α} {f : α → Option β} {r : β} (h : o.bind f = some r) : ∃ q, o = some q ∧ f q = some r := by
  cases o with
  | none => cases h
  | some q => exact ⟨q, rfl, h⟩
def gx_let {α β : Type} (a : α) (f : α → Option β) : Option β := f a
theorem gx_lt {α β : Type} {a : α} {f : α → Option β} {r : β} (h : gx_let a f = some r) : ∃ v, v = a ∧ f v = some r := ⟨a, rfl, h⟩
theorem gx_plt {k : Nat} (h : 100 ≤ cx_kd k) : k < 97 := cx_lt (c := cx_kd k) rfl (by omega)
theorem gx_lko {ps : List (Int × Int)} {dflt x : Int} (h : ∀ q ∈ ps, x ≠ q.1) : Op.lookupswitch.offset ps dflt x = dflt := by
  induction ps with
  | nil => rfl
  | cons q ps ih =>
    obtain ⟨k, o⟩ := q
    have h1 : x ≠ k := h (k, o) List.mem_cons_self
    have h2 := ih (fun q hq => h q (List.mem_cons_of_mem _ hq))
    rw [Op.lookupswitch.offset_cons, if_neg (fun e => h1 e.symm)]
    exact h2
theorem gx_inc {x a c : Int32} (h : a = c) : x + a = x + c := by rw [h]
theorem gx_nz {x : Int32} (h : x = 0 ∨ x = 1) : narrow .boolean (.int x) = .int x := by
  rcases h with rfl | rfl <;> rfl
theorem gx_fz {x : Int32} (h : x = 0 ∨ x = 1) : fits .boolean (.int x) = true := by
  rcases h with rfl | rfl <;> rfl
theorem gx_ne {x c : Int32} {n : Int} (h : ¬ x = c) (hn : c.toInt = n) : x.toInt ≠ n := fun e => h (Int32.toInt_inj.mp (e.trans hn.symm))
theorem gx_ilt {i : Int32} {n : Nat} (h : gx_ib i n) : i.toNatClampNeg < n := Nat.not_le.mp fun q => h (Or.inr q)
theorem tm_min : Cond.code Lib.Math.min.name Lib.Math.min.code 2 (some .int) ∈ cx_tb := gx_tb 385 (by decide +kernel) (by decide +kernel)
theorem tm_max : Cond.code Lib.Math.max.name Lib.Math.max.code 2 (some .int) ∈ cx_tb := gx_tb 388 (by decide +kernel) (by decide +kernel)
section GY
variable {p : Program} {l : Launch} {e : Env} {R : Room} {s : State} {m : MethodId} {args : Array Value} {below : List Frame} {meth : Method} {c : Code} {H : Heap} {locs : List Loc} {cells slots : Nat} {Q : State → Prop}
variable {cc : ByteArray} {pc : Nat} {ls : Array Slot} {rest st0 : List Value} {D : va_G} {cl : List vw_C} {tys : List (ClassId × FieldType)} {H0 : Heap} {b N : Nat} {sh : Nat → (Nat → Int32) → va_E} {V V' V2 : gx_M} {X : State → Prop}
theorem gy_put (hexec : p.tables.exec = Jvm.exec) (hb : c.code = cc) {own ref C : String} {T : u_T} {NF ci index : Nat} {Ts : List Cond} (hts : ∀ w ∈ Ts, w.before args s = true) (hin : ∀ w ∈ u_ws C T NF, w ∈ Ts) (ty0 : Nat → FieldType) (hty : ∀ k, k < NF → parseFieldDescriptor (T k).2.2.1 = some (ty0 k)) (hnm : ∀ a, a < NF → ∀ b, b < NF → a ≠ b → (T a).2.1 ≠ (T b).2.1) (hown : s.vm.findClass own = some m.cls) (hK : va_K D cl tys s) (hP : va_P D cl (gx_w b N (gx_v sh V)) H) (hS : va_S (gx_A b N) H0 H locs) (k0 : Nat) (hk0 : k0 < N) {fs : List Value} (he : sh k0 (V k0) = .inr (ci, fs)) (hc : cl[ci]? = some (C, T, NF)) (k : Nat) (hk : k < NF) (hlink : (Cond.fieldLink own index ref (T k).2.1 (T k).2.2.1).before args s = true) (hsame : ∀ x, s.fieldFound? (T k).1 (T k).2.1 (T k).2.2.1 = some x → s.fieldFound? ref (T k).2.1 (T k).2.2.1 = some x) (hfin : (T k).2.2.2 = false) {ty : FieldType} {x : Int32} (hd : parseFieldDescriptor (T k).2.2.1 = some ty) (hn : narrow ty (.int x) = .int x) (hfit : fits ty (.int x) = true) (hl : k < fs.length) (q : Nat) (hu : sh k0 (upd (V k0) q x) = .inr (ci, fs.set k (.int x)))
    (hdg : decode cc pc = .ok (.putfield index, 3)) (hV : V2 = gx_u V k0 q x) (kk : ∀ (H1 : Heap) (locs1 : List Loc), va_P D cl (gx_w b N (gx_v sh V2)) H1 → va_S (gx_A b N) H0 H1 locs1 → W p l e R s m args below meth c H1 locs1 cells slots Q (F0 m (pc + 3) ls rest)) : W p l e R s m args below meth c H locs cells slots Q (F0 m pc ls (.int x :: .ref (b + k0) :: rest)) := by
  subst hV
  exact gx_put hexec hb hts hin ty0 hty hnm hown hK hP hS k0 hk0 he hc k hk hlink hsame hfin hd hn hfit hl q hu hdg kk
theorem gx_asi (hexec : p.tables.exec = Jvm.exec) (hb : c.code = cc) (hK : va_K D cl tys s) (hP : va_P D cl (gx_w b N (gx_v sh V)) H) (hS : va_S (gx_A b N) H0 H locs) (k0 t0 : Nat) (hk0 : k0 < N) {cA : ClassId} {n : Nat} (he : ∀ f, sh k0 f = .inl (cA, n, .inl f)) (ht : tys[t0]? = some (cA, .int)) {i x : Int32} (hin : gx_ib i n) (hdg : decode cc pc = .ok (.iastore, 1)) (hV : V2 = gx_u V k0 i.toNatClampNeg x)
    (kk : ∀ (H1 : Heap) (locs1 : List Loc), va_P D cl (gx_w b N (gx_v sh V2)) H1 → va_S (gx_A b N) H0 H1 locs1 → W p l e R s m args below meth c H1 locs1 cells slots Q (F0 m (pc + 1) ls rest)) : W p l e R s m args below meth c H locs cells slots Q (F0 m pc ls (.int x :: .int i :: .ref (b + k0) :: rest)) := by
  subst hV
  refine va_iast hexec hb hK hP gx_D hS k0 t0 (gx_at hk0 (he _)) ht hin hdg (fun H1 locs1 hP1 _ hS1 => kk H1 locs1 ?_ hS1)
  rw [gx_set, ← he, gx_vset] at hP1
  exact hP1
theorem gx_asz (hexec : p.tables.exec = Jvm.exec) (hb : c.code = cc) (hK : va_K D cl tys s) (hP : va_P D cl (gx_w b N (gx_v sh V)) H) (hS : va_S (gx_A b N) H0 H locs) (k0 t0 : Nat) (hk0 : k0 < N) {cA : ClassId} {n : Nat} (he : ∀ f, sh k0 f = .inl (cA, n, .inl f)) (ht : tys[t0]? = some (cA, .boolean)) {i x : Int32} (hin : gx_ib i n) (hdg : decode cc pc = .ok (.bastore, 1)) (hV : V2 = gx_u V k0 i.toNatClampNeg (vp_nar .boolean x))
    (kk : ∀ (H1 : Heap) (locs1 : List Loc), va_P D cl (gx_w b N (gx_v sh V2)) H1 → va_S (gx_A b N) H0 H1 locs1 → W p l e R s m args below meth c H1 locs1 cells slots Q (F0 m (pc + 1) ls rest)) : W p l e R s m args below meth c H locs cells slots Q (F0 m pc ls (.int x :: .int i :: .ref (b + k0) :: rest)) := by
  subst hV
  refine va_zast hexec hb hK hP gx_D hS k0 t0 (gx_at hk0 (he _)) ht hin hdg (fun H1 locs1 hP1 _ hS1 => kk H1 locs1 ?_ hS1)
  rw [gx_set, ← he, gx_vset] at hP1
  exact hP1
theorem gx_copy (hexec : p.tables.exec = Jvm.exec) (hb : c.code = cc) (hml : c.maxLocals = ls.size) {own : String} {index : Nat} (hown : s.vm.findClass own = some m.cls) (hlink : (Cond.methodLink own index arraycopyName).before args s = true) (hnat : (Cond.native arraycopyName).before args s = true) (hstat : (Cond.static arraycopyName).before args s = true) (hini : (Cond.initialized "java/lang/System").before args s = true)
    (hK : va_K D cl tys s) (hP : va_P D cl (gx_w b N (gx_v sh V)) H) (hS : va_S (gx_A b N) H0 H locs) (k0 k1 t0 : Nat) (hk0 : k0 < N) (hk1 : k1 < N) {cA : ClassId} {n0 n1 : Nat} (he0 : ∀ f, sh k0 f = .inl (cA, n0, .inl f)) (he1 : ∀ f, sh k1 f = .inl (cA, n1, .inl f)) (ht : tys[t0]? = some (cA, .int)) {n : Int32} {nn : Nat} (hn : ¬ n < 0) (hnn : n.toNatClampNeg = nn) (h0 : nn ≤ n0) (h1 : nn ≤ n1)
    (hframes : 1 ≤ R.frames) (hlocals : (rest.map fun v => v.category).sum + (nativeFrameWords "java/lang/System" "arraycopy" 5 + 11) ≤ R.locals) (hdg : decode cc pc = .ok (.invokestatic index, 3)) (hV : V2 = va_up V k1 (va_cpy (V k0) (V k1) 0 0 nn))
    (kk : ∀ (H1 : Heap) (locs1 : List Loc), va_P D cl (gx_w b N (gx_v sh V2)) H1 → va_S (gx_A b N) H0 H1 locs1 → W p l e R s m args below meth c H1 locs1 cells slots Q (F0 m (pc + 3) ls rest)) : W p l e R s m args below meth c H locs cells slots Q (F0 m pc ls (.int n :: .int 0 :: .ref (b + k1) :: .int 0 :: .ref (b + k0) :: rest)) := by
  subst hV
  subst hnn
  refine va_copyi hexec hb hml hown hlink hnat hstat hini hK hP gx_D hS k0 k1 t0 t0 (gx_at hk0 (he0 _)) (gx_at hk1 (he1 _)) ht ht rfl (by decide) (by decide) hn (by show 0 + _ ≤ _; omega) (by show 0 + _ ≤ _; omega) (fun _ _ => rfl) hframes hlocals hdg (fun H1 locs1 hP1 _ hS1 => kk H1 locs1 ?_ hS1)
  rw [gx_set, ← he1, gx_vset] at hP1
  exact hP1
theorem gx_cw {own C : String} {index maxL : Nat} {y : MethodName} {bytes : ByteArray} {ret : Option FieldType} {rm : Room} (n : Nat) (hts : ∀ w ∈ cx_tb, w.before args s = true) (hcode : Cond.code y bytes maxL ret ∈ cx_tb) (hini : Cond.initialized y.cls ∈ cx_tb) (hlink : Cond.methodLink own index y ∈ cx_tb) (hinst : Cond.instanceMethod y ∈ cx_tb) (hsel : Cond.selects C y y ∈ cx_tb) (hrc : rm.cells = 0) (hrs : rm.slots = 0)
    (hd : y.cls ≠ "java/lang/invoke/MethodHandle" ∧ y.cls ≠ "java/lang/invoke/VarHandle" ∧ (parseMethodDescriptor y.desc).map (fun d => d.parameters.length) = some n) (hR : rm.frames + 1 ≤ R.frames ∧ 8 + (maxL + 11) + rm.locals ≤ R.locals) : CallW R s args own C index y bytes maxL ret (Cond.code y bytes maxL ret :: cx_tb) rm 0 0 n :=
  ⟨callB_of n hts (gx_good hcode) rfl hrc hrs (hts _ hini) (hts _ hlink) hd hR, hts _ hinst, hts _ hsel⟩
theorem gx_cs {own : String} {index maxL : Nat} {y : MethodName} {bytes : ByteArray} {ret : Option FieldType} {rm : Room} (n : Nat) (hts : ∀ w ∈ cx_tb, w.before args s = true) (hcode : Cond.code y bytes maxL ret ∈ cx_tb) (hini : Cond.initialized y.cls ∈ cx_tb) (hlink : Cond.methodLink own index y ∈ cx_tb) (hst : Cond.static y ∈ cx_tb) (hrc : rm.cells = 0) (hrs : rm.slots = 0)
    (hd : y.cls ≠ "java/lang/invoke/MethodHandle" ∧ y.cls ≠ "java/lang/invoke/VarHandle" ∧ (parseMethodDescriptor y.desc).map (fun d => d.parameters.length) = some n) (hR : rm.frames + 1 ≤ R.frames ∧ 8 + (maxL + 11) + rm.locals ≤ R.locals) : CallB R s args own index y bytes maxL ret (Cond.code y bytes maxL ret :: cx_tb) rm 0 0 n ∧ (Cond.static y).before args s = true :=
  ⟨callB_of n hts (gx_good hcode) rfl hrc hrs (hts _ hini) (hts _ hlink) hd hR, hts _ hst⟩
theorem gx_cn {own host : String} {index maxL : Nat} {y : MethodName} {bytes : ByteArray} {ret : Option FieldType} {rm : Room} (n : Nat) (hts : ∀ w ∈ cx_tb, w.before args s = true) (hcode : Cond.code y bytes maxL ret ∈ cx_tb) (hini : Cond.initialized y.cls ∈ cx_tb) (hlink : va_Nw (.methodLinkNest own index y host) s) (hst : Cond.static y ∈ cx_tb) (hrc : rm.cells = 0) (hrs : rm.slots = 0)
    (hd : y.cls ≠ "java/lang/invoke/MethodHandle" ∧ y.cls ≠ "java/lang/invoke/VarHandle" ∧ (parseMethodDescriptor y.desc).map (fun d => d.parameters.length) = some n) (hR : rm.frames + 1 ≤ R.frames ∧ 8 + (maxL + 11) + rm.locals ≤ R.locals) : va_CN R s args own index y host bytes maxL ret (Cond.code y bytes maxL ret :: cx_tb) rm 0 0 n ∧ (Cond.static y).before args s = true ∧ True := by
  refine ⟨?_, hts _ hst, trivial⟩
  have hc : Cond.code y bytes maxL ret ∈ Cond.code y bytes maxL ret :: cx_tb := List.mem_cons_self
  refine ⟨⟨hrc, hrs, hR.1, hR.2, pay_in hts (gx_good hcode), hc⟩, hts _ hcode, hts _ hini, ⟨hd.1, hd.2.1⟩, fun sig h => ?_, va_Nw.use rfl hlink⟩
  have h2 := hd.2.2
  rw [h] at h2
  exact (Option.some.inj h2).symm
theorem gy_pre {av : List Value} (hX0 : gy_X b N X) (hX : X s) (hK : va_K D cl tys s) (hP : va_P D cl (gx_w b N (gx_v sh V)) H) (hS : va_S (gx_A b N) s.heap H locs) : PreS s H (va_Pc av (fun U => va_P D cl (gx_w b N (gx_v sh V)) U.heap ∧ va_K D cl tys U ∧ X U)) av :=
  ⟨fun a U g mk q => ⟨q.1, q.2.1, va_K.moved (u := U) (U := U.calling g mk a) (Vm.Alike.refl U.vm) q.2.2.1, hX0.2 a U g mk q.2.2.2⟩, fun U hU hW => ⟨rfl, by rw [hU]; exact hP, va_K.moved hW.alike hK, hX0.1 s U H locs hX hS hU hW⟩⟩
theorem gy_preV {k0 ci : Nat} {As fs : List Value} {q : vw_C} (hX0 : gy_X b N X) (hX : X s) (hK : va_K D cl tys s) (hP : va_P D cl (gx_w b N (gx_v sh V)) H) (hS : va_S (gx_A b N) s.heap H locs) (hk0 : k0 < N) (he : sh k0 (V k0) = .inr (ci, fs)) (hc : cl[ci]? = some q) : PreV s H q.1 (b + k0) (va_Pc (.ref (b + k0) :: As) (fun U => va_P D cl (gx_w b N (gx_v sh V)) U.heap ∧ va_K D cl tys U ∧ X U)) As :=
  ⟨(gy_pre hX0 hX hK hP hS).1, va_recv hK hP hc (gx_at hk0 he), (gy_pre hX0 hX hK hP hS).2⟩
theorem gx_ci {r : Int32} {a : Array Value} (hr : va_Run p l e R s m args below meth c H locs cells slots 0 0 (F0 m pc ls st0) rest (gx_Q D cl b N sh (some (.int r)) V' a) (gx_A b N)) (hS : va_S (gx_A b N) H0 H locs)
    (kk : ∀ (H1 : Heap) (locs1 : List Loc), va_P D cl (gx_w b N (gx_v sh V')) H1 → va_S (gx_A b N) H0 H1 locs1 → W p l e R s m args below meth c H1 locs1 cells slots Q (F0 m (pc + 3) ls (.int r :: rest))) : W p l e R s m args below meth c H locs cells slots Q (F0 m pc ls st0) :=
  gx_call hr hS (fun _ h => h) (fun H1 locs1 h1 h2 _ _ => kk H1 locs1 h1 h2)
theorem gx_cv {a : Array Value} (hr : va_Run p l e R s m args below meth c H locs cells slots 0 0 (F0 m pc ls st0) rest (gx_Q D cl b N sh none V' a) (gx_A b N)) (hS : va_S (gx_A b N) H0 H locs)
    (kk : ∀ (H1 : Heap) (locs1 : List Loc), va_P D cl (gx_w b N (gx_v sh V')) H1 → va_S (gx_A b N) H0 H1 locs1 → W p l e R s m args below meth c H1 locs1 cells slots Q (F0 m (pc + 3) ls rest)) : W p l e R s m args below meth c H locs cells slots Q (F0 m pc ls st0) :=
  gx_call hr hS (fun _ h => h) (fun H1 locs1 h1 h2 _ _ => kk H1 locs1 h1 h2)
theorem gx_cr {r : Nat} {a : Array Value} (hr : va_Run p l e R s m args below meth c H locs cells slots 0 0 (F0 m pc ls st0) rest (gx_Q D cl b N sh (some (.ref (b + r))) V' a) (gx_A b N)) (hS : va_S (gx_A b N) H0 H locs)
    (kk : ∀ (H1 : Heap) (locs1 : List Loc), va_P D cl (gx_w b N (gx_v sh V')) H1 → va_S (gx_A b N) H0 H1 locs1 → W p l e R s m args below meth c H1 locs1 cells slots Q (F0 m (pc + 3) ls (.ref (b + r) :: rest))) : W p l e R s m args below meth c H locs cells slots Q (F0 m pc ls st0) :=
  gx_call hr hS (fun _ h => h) (fun H1 locs1 h1 h2 _ _ => kk H1 locs1 h1 h2)
theorem gx_aald {cI cR : ClassId} (hexec : p.tables.exec = Jvm.exec) (hb : c.code = cc) (hK : va_K D cl tys s) (hP : va_P D cl (gx_w b 97 (gx_v (cx_sh cI cR b) V)) H) (k0 t0 : Nat) (hk : cx_kd k0 = 50) (ht : tys[t0]? = some (cR, .object "GasLedger$Frame")) {i : Int32} (hin : gx_ib i 8) (hdg : decode cc pc = .ok (.aaload, 1))
    (kk : W p l e R s m args below meth c H locs cells slots Q (F0 m (pc + 1) ls (.ref (b + (k0 + (1 + 9 * i.toNatClampNeg))) :: rest))) : W p l e R s m args below meth c H locs cells slots Q (F0 m pc ls (.int i :: .ref (b + k0) :: rest)) :=
  va_aldq (f := fun j => some (b + (k0 + (1 + 9 * j)))) hexec hb hK hP k0 t0 (gx_at (cx_lt hk (by decide)) (sh_frames cI cR b hk _)) ht hin hdg kk
theorem gx_aret {r : Option Value} {v : Nat} {rt : FieldType} (hexec : p.tables.exec = Jvm.exec) (hb : c.code = cc) (hr : meth.sig.returnType = some rt) (hrt : (∃ n, rt = .object n) ∨ ∃ t, rt = .array t) (hlk : meth.locks = false) (hP : va_P D cl (gx_w b N (gx_v sh V)) H) (hS : va_S (gx_A b N) s.heap H locs) (hdg : decode cc pc = .ok (.areturn, 1)) (hv : some (.ref v) = r) (hV : V = V') :
    W p l e R s m args below meth c H locs cells slots (MQ below (gx_Q D cl b N sh r V') args s cells slots (gx_A b N)) (F0 m pc ls [.ref v]) := by
  subst hv; subst hV
  exact W.aret hexec hb hr hrt (Or.inr ⟨_, rfl⟩) (fun t ht _ => ⟨rfl, by rw [ht]; exact hP, hS.F ht⟩) hS.2.2 hdg
end GY
