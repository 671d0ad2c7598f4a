def cx_tb : List Cond := lw_tbl.filter goodWord
theorem gx_tb {c : Cond} (i : Nat) (h : lw_tbl[i]? = some c) (hg : goodWord c = true) : c ∈ cx_tb := List.mem_filter.mpr ⟨List.mem_of_getElem? h, hg⟩
theorem gx_good {c : Cond} (h : c ∈ cx_tb) : GoodIn cx_tb (c :: cx_tb) := by
  intro w hw
  have h2 : w ∈ cx_tb := by
    rcases List.mem_cons.mp hw with e | e
    · rw [e]; exact h
    · exact e
  exact ⟨h2, good_of_word (List.mem_filter.mp h2).2⟩
def R_Acc : String := "GasLedger$Accounts"
def T_Acc : u_T := fun k => match k with
  | 0 => ("GasLedger$Accounts", "balances", "[I", true)
  | 1 => ("GasLedger$Accounts", "nonces", "[I", true)
  | 2 => ("GasLedger$Accounts", "sizes", "[I", true)
  | 3 => ("GasLedger$Accounts", "words", "[I", true)
  | 4 => ("GasLedger$Accounts", "slots", "[I", true)
  | _ => ("GasLedger$Accounts", "values", "[I", true)
def t_Acc : Nat → FieldType := fun k => match k with
  | 0 => .array .int
  | 1 => .array .int
  | 2 => .array .int
  | 3 => .array .int
  | 4 => .array .int
  | _ => .array .int
theorem nm_Acc : ∀ a, a < 6 → ∀ b, b < 6 → a ≠ b → (T_Acc a).2.1 ≠ (T_Acc b).2.1 := by decide +kernel
theorem ty_Acc : ∀ k, k < 6 → parseFieldDescriptor (T_Acc k).2.2.1 = some (t_Acc k) := by decide +kernel
theorem ly_Acc_0 : u_lay R_Acc T_Acc 0 ∈ cx_tb := gx_tb (c := (Jvm.Cond.laysFinal "GasLedger$Accounts" "GasLedger$Accounts" "balances" "[I")) 88 (by decide +kernel) (by decide +kernel)
theorem ly_Acc_1 : u_lay R_Acc T_Acc 1 ∈ cx_tb := gx_tb (c := (Jvm.Cond.laysFinal "GasLedger$Accounts" "GasLedger$Accounts" "nonces" "[I")) 90 (by decide +kernel) (by decide +kernel)
theorem ly_Acc_2 : u_lay R_Acc T_Acc 2 ∈ cx_tb := gx_tb (c := (Jvm.Cond.laysFinal "GasLedger$Accounts" "GasLedger$Accounts" "sizes" "[I")) 92 (by decide +kernel) (by decide +kernel)
theorem ly_Acc_3 : u_lay R_Acc T_Acc 3 ∈ cx_tb := gx_tb (c := (Jvm.Cond.laysFinal "GasLedger$Accounts" "GasLedger$Accounts" "words" "[I")) 94 (by decide +kernel) (by decide +kernel)
theorem ly_Acc_4 : u_lay R_Acc T_Acc 4 ∈ cx_tb := gx_tb (c := (Jvm.Cond.laysFinal "GasLedger$Accounts" "GasLedger$Accounts" "slots" "[I")) 96 (by decide +kernel) (by decide +kernel)
theorem ly_Acc_5 : u_lay R_Acc T_Acc 5 ∈ cx_tb := gx_tb (c := (Jvm.Cond.laysFinal "GasLedger$Accounts" "GasLedger$Accounts" "values" "[I")) 98 (by decide +kernel) (by decide +kernel)
theorem in_Acc : ∀ w ∈ u_ws R_Acc T_Acc 6, w ∈ cx_tb := by
  intro w hw
  obtain ⟨k, hk, rfl⟩ := List.mem_map.mp hw
  have hk : k < 6 := List.mem_range.mp hk
  match k, hk with
  | 0, _ => exact ly_Acc_0
  | 1, _ => exact ly_Acc_1
  | 2, _ => exact ly_Acc_2
  | 3, _ => exact ly_Acc_3
  | 4, _ => exact ly_Acc_4
  | 5, _ => exact ly_Acc_5
  | k + 6, hk => exact absurd hk (by omega)
def R_Frm : String := "GasLedger$Frame"
def T_Frm : u_T := fun k => match k with
  | 0 => ("GasLedger$Frame", "self", "I", false)
  | 1 => ("GasLedger$Frame", "coder", "I", false)
  | 2 => ("GasLedger$Frame", "place", "I", false)
  | 3 => ("GasLedger$Frame", "caller", "I", false)
  | 4 => ("GasLedger$Frame", "value", "I", false)
  | 5 => ("GasLedger$Frame", "input", "I", false)
  | 6 => ("GasLedger$Frame", "gas", "I", false)
  | 7 => ("GasLedger$Frame", "stack", "[I", true)
  | 8 => ("GasLedger$Frame", "height", "I", false)
  | 9 => ("GasLedger$Frame", "ended", "Z", false)
  | 10 => ("GasLedger$Frame", "endedWell", "Z", false)
  | 11 => ("GasLedger$Frame", "output", "I", false)
  | 12 => ("GasLedger$Frame", "accountsBefore", "LGasLedger$Accounts;", true)
  | 13 => ("GasLedger$Frame", "refundBefore", "I", false)
  | 14 => ("GasLedger$Frame", "goersBefore", "I", false)
  | 15 => ("GasLedger$Frame", "logsBefore", "I", false)
  | _ => ("GasLedger$Frame", "bloomBefore", "I", false)
def t_Frm : Nat → FieldType := fun k => match k with
  | 0 => .int
  | 1 => .int
  | 2 => .int
  | 3 => .int
  | 4 => .int
  | 5 => .int
  | 6 => .int
  | 7 => .array .int
  | 8 => .int
  | 9 => .boolean
  | 10 => .boolean
  | 11 => .int
  | 12 => .object "GasLedger$Accounts"
  | 13 => .int
  | 14 => .int
  | 15 => .int
  | _ => .int
theorem nm_Frm : ∀ a, a < 17 → ∀ b, b < 17 → a ≠ b → (T_Frm a).2.1 ≠ (T_Frm b).2.1 := by decide +kernel
theorem ty_Frm : ∀ k, k < 17 → parseFieldDescriptor (T_Frm k).2.2.1 = some (t_Frm k) := by decide +kernel
theorem ly_Frm_0 : u_lay R_Frm T_Frm 0 ∈ cx_tb := gx_tb (c := (Jvm.Cond.lays "GasLedger$Frame" "GasLedger$Frame" "self" "I")) 166 (by decide +kernel) (by decide +kernel)
theorem ly_Frm_1 : u_lay R_Frm T_Frm 1 ∈ cx_tb := gx_tb (c := (Jvm.Cond.lays "GasLedger$Frame" "GasLedger$Frame" "coder" "I")) 168 (by decide +kernel) (by decide +kernel)
theorem ly_Frm_2 : u_lay R_Frm T_Frm 2 ∈ cx_tb := gx_tb (c := (Jvm.Cond.lays "GasLedger$Frame" "GasLedger$Frame" "place" "I")) 170 (by decide +kernel) (by decide +kernel)
theorem ly_Frm_3 : u_lay R_Frm T_Frm 3 ∈ cx_tb := gx_tb (c := (Jvm.Cond.lays "GasLedger$Frame" "GasLedger$Frame" "caller" "I")) 172 (by decide +kernel) (by decide +kernel)
theorem ly_Frm_4 : u_lay R_Frm T_Frm 4 ∈ cx_tb := gx_tb (c := (Jvm.Cond.lays "GasLedger$Frame" "GasLedger$Frame" "value" "I")) 174 (by decide +kernel) (by decide +kernel)
theorem ly_Frm_5 : u_lay R_Frm T_Frm 5 ∈ cx_tb := gx_tb (c := (Jvm.Cond.lays "GasLedger$Frame" "GasLedger$Frame" "input" "I")) 176 (by decide +kernel) (by decide +kernel)
theorem ly_Frm_6 : u_lay R_Frm T_Frm 6 ∈ cx_tb := gx_tb (c := (Jvm.Cond.lays "GasLedger$Frame" "GasLedger$Frame" "gas" "I")) 178 (by decide +kernel) (by decide +kernel)
theorem ly_Frm_7 : u_lay R_Frm T_Frm 7 ∈ cx_tb := gx_tb (c := (Jvm.Cond.laysFinal "GasLedger$Frame" "GasLedger$Frame" "stack" "[I")) 180 (by decide +kernel) (by decide +kernel)
theorem ly_Frm_8 : u_lay R_Frm T_Frm 8 ∈ cx_tb := gx_tb (c := (Jvm.Cond.lays "GasLedger$Frame" "GasLedger$Frame" "height" "I")) 182 (by decide +kernel) (by decide +kernel)
theorem ly_Frm_9 : u_lay R_Frm T_Frm 9 ∈ cx_tb := gx_tb (c := (Jvm.Cond.lays "GasLedger$Frame" "GasLedger$Frame" "ended" "Z")) 184 (by decide +kernel) (by decide +kernel)
theorem ly_Frm_10 : u_lay R_Frm T_Frm 10 ∈ cx_tb := gx_tb (c := (Jvm.Cond.lays "GasLedger$Frame" "GasLedger$Frame" "endedWell" "Z")) 186 (by decide +kernel) (by decide +kernel)
theorem ly_Frm_11 : u_lay R_Frm T_Frm 11 ∈ cx_tb := gx_tb (c := (Jvm.Cond.lays "GasLedger$Frame" "GasLedger$Frame" "output" "I")) 188 (by decide +kernel) (by decide +kernel)
theorem ly_Frm_12 : u_lay R_Frm T_Frm 12 ∈ cx_tb := gx_tb (c := (Jvm.Cond.laysFinal "GasLedger$Frame" "GasLedger$Frame" "accountsBefore" "LGasLedger$Accounts;")) 190 (by decide +kernel) (by decide +kernel)
theorem ly_Frm_13 : u_lay R_Frm T_Frm 13 ∈ cx_tb := gx_tb (c := (Jvm.Cond.lays "GasLedger$Frame" "GasLedger$Frame" "refundBefore" "I")) 192 (by decide +kernel) (by decide +kernel)
theorem ly_Frm_14 : u_lay R_Frm T_Frm 14 ∈ cx_tb := gx_tb (c := (Jvm.Cond.lays "GasLedger$Frame" "GasLedger$Frame" "goersBefore" "I")) 194 (by decide +kernel) (by decide +kernel)
theorem ly_Frm_15 : u_lay R_Frm T_Frm 15 ∈ cx_tb := gx_tb (c := (Jvm.Cond.lays "GasLedger$Frame" "GasLedger$Frame" "logsBefore" "I")) 196 (by decide +kernel) (by decide +kernel)
theorem ly_Frm_16 : u_lay R_Frm T_Frm 16 ∈ cx_tb := gx_tb (c := (Jvm.Cond.lays "GasLedger$Frame" "GasLedger$Frame" "bloomBefore" "I")) 198 (by decide +kernel) (by decide +kernel)
theorem in_Frm : ∀ w ∈ u_ws R_Frm T_Frm 17, w ∈ cx_tb := by
  intro w hw
  obtain ⟨k, hk, rfl⟩ := List.mem_map.mp hw
  have hk : k < 17 := List.mem_range.mp hk
  match k, hk with
  | 0, _ => exact ly_Frm_0
  | 1, _ => exact ly_Frm_1
  | 2, _ => exact ly_Frm_2
  | 3, _ => exact ly_Frm_3
  | 4, _ => exact ly_Frm_4
  | 5, _ => exact ly_Frm_5
  | 6, _ => exact ly_Frm_6
  | 7, _ => exact ly_Frm_7
  | 8, _ => exact ly_Frm_8
  | 9, _ => exact ly_Frm_9
  | 10, _ => exact ly_Frm_10
  | 11, _ => exact ly_Frm_11
  | 12, _ => exact ly_Frm_12
  | 13, _ => exact ly_Frm_13
  | 14, _ => exact ly_Frm_14
  | 15, _ => exact ly_Frm_15
  | 16, _ => exact ly_Frm_16
  | k + 17, hk => exact absurd hk (by omega)
def R_Log : String := "GasLedger$Logs"
def T_Log : u_T := fun k => match k with
  | 0 => ("GasLedger$Logs", "accounts", "[I", true)
  | 1 => ("GasLedger$Logs", "numbers", "[I", true)
  | 2 => ("GasLedger$Logs", "count", "I", false)
  | _ => ("GasLedger$Logs", "bloom", "I", false)
def t_Log : Nat → FieldType := fun k => match k with
  | 0 => .array .int
  | 1 => .array .int
  | 2 => .int
  | _ => .int
theorem nm_Log : ∀ a, a < 4 → ∀ b, b < 4 → a ≠ b → (T_Log a).2.1 ≠ (T_Log b).2.1 := by decide +kernel
theorem ty_Log : ∀ k, k < 4 → parseFieldDescriptor (T_Log k).2.2.1 = some (t_Log k) := by decide +kernel
theorem ly_Log_0 : u_lay R_Log T_Log 0 ∈ cx_tb := gx_tb (c := (Jvm.Cond.laysFinal "GasLedger$Logs" "GasLedger$Logs" "accounts" "[I")) 116 (by decide +kernel) (by decide +kernel)
theorem ly_Log_1 : u_lay R_Log T_Log 1 ∈ cx_tb := gx_tb (c := (Jvm.Cond.laysFinal "GasLedger$Logs" "GasLedger$Logs" "numbers" "[I")) 118 (by decide +kernel) (by decide +kernel)
theorem ly_Log_2 : u_lay R_Log T_Log 2 ∈ cx_tb := gx_tb (c := (Jvm.Cond.lays "GasLedger$Logs" "GasLedger$Logs" "count" "I")) 120 (by decide +kernel) (by decide +kernel)
theorem ly_Log_3 : u_lay R_Log T_Log 3 ∈ cx_tb := gx_tb (c := (Jvm.Cond.lays "GasLedger$Logs" "GasLedger$Logs" "bloom" "I")) 122 (by decide +kernel) (by decide +kernel)
theorem in_Log : ∀ w ∈ u_ws R_Log T_Log 4, w ∈ cx_tb := by
  intro w hw
  obtain ⟨k, hk, rfl⟩ := List.mem_map.mp hw
  have hk : k < 4 := List.mem_range.mp hk
  match k, hk with
  | 0, _ => exact ly_Log_0
  | 1, _ => exact ly_Log_1
  | 2, _ => exact ly_Log_2
  | 3, _ => exact ly_Log_3
  | k + 4, hk => exact absurd hk (by omega)
def R_Mac : String := "GasLedger$Machine"
def T_Mac : u_T := fun k => match k with
  | 0 => ("GasLedger$Machine", "accounts", "LGasLedger$Accounts;", true)
  | 1 => ("GasLedger$Machine", "logs", "LGasLedger$Logs;", true)
  | 2 => ("GasLedger$Machine", "frames", "[LGasLedger$Frame;", true)
  | 3 => ("GasLedger$Machine", "depth", "I", false)
  | 4 => ("GasLedger$Machine", "refund", "I", false)
  | _ => ("GasLedger$Machine", "goers", "I", false)
def t_Mac : Nat → FieldType := fun k => match k with
  | 0 => .object "GasLedger$Accounts"
  | 1 => .object "GasLedger$Logs"
  | 2 => .array (.object "GasLedger$Frame")
  | 3 => .int
  | 4 => .int
  | _ => .int
theorem nm_Mac : ∀ a, a < 6 → ∀ b, b < 6 → a ≠ b → (T_Mac a).2.1 ≠ (T_Mac b).2.1 := by decide +kernel
theorem ty_Mac : ∀ k, k < 6 → parseFieldDescriptor (T_Mac k).2.2.1 = some (t_Mac k) := by decide +kernel
theorem ly_Mac_0 : u_lay R_Mac T_Mac 0 ∈ cx_tb := gx_tb (c := (Jvm.Cond.laysFinal "GasLedger$Machine" "GasLedger$Machine" "accounts" "LGasLedger$Accounts;")) 210 (by decide +kernel) (by decide +kernel)
theorem ly_Mac_1 : u_lay R_Mac T_Mac 1 ∈ cx_tb := gx_tb (c := (Jvm.Cond.laysFinal "GasLedger$Machine" "GasLedger$Machine" "logs" "LGasLedger$Logs;")) 212 (by decide +kernel) (by decide +kernel)
theorem ly_Mac_2 : u_lay R_Mac T_Mac 2 ∈ cx_tb := gx_tb (c := (Jvm.Cond.laysFinal "GasLedger$Machine" "GasLedger$Machine" "frames" "[LGasLedger$Frame;")) 214 (by decide +kernel) (by decide +kernel)
theorem ly_Mac_3 : u_lay R_Mac T_Mac 3 ∈ cx_tb := gx_tb (c := (Jvm.Cond.lays "GasLedger$Machine" "GasLedger$Machine" "depth" "I")) 216 (by decide +kernel) (by decide +kernel)
theorem ly_Mac_4 : u_lay R_Mac T_Mac 4 ∈ cx_tb := gx_tb (c := (Jvm.Cond.lays "GasLedger$Machine" "GasLedger$Machine" "refund" "I")) 218 (by decide +kernel) (by decide +kernel)
theorem ly_Mac_5 : u_lay R_Mac T_Mac 5 ∈ cx_tb := gx_tb (c := (Jvm.Cond.lays "GasLedger$Machine" "GasLedger$Machine" "goers" "I")) 220 (by decide +kernel) (by decide +kernel)
theorem in_Mac : ∀ w ∈ u_ws R_Mac T_Mac 6, w ∈ cx_tb := by
  intro w hw
  obtain ⟨k, hk, rfl⟩ := List.mem_map.mp hw
  have hk : k < 6 := List.mem_range.mp hk
  match k, hk with
  | 0, _ => exact ly_Mac_0
  | 1, _ => exact ly_Mac_1
  | 2, _ => exact ly_Mac_2
  | 3, _ => exact ly_Mac_3
  | 4, _ => exact ly_Mac_4
  | 5, _ => exact ly_Mac_5
  | k + 6, hk => exact absurd hk (by omega)
def R_Rec : String := "GasLedger$Receipts"
def T_Rec : u_T := fun k => match k with
  | 0 => ("GasLedger$Receipts", "statuses", "[I", true)
  | 1 => ("GasLedger$Receipts", "usedGas", "[I", true)
  | 2 => ("GasLedger$Receipts", "outputs", "[I", true)
  | 3 => ("GasLedger$Receipts", "logCounts", "[I", true)
  | _ => ("GasLedger$Receipts", "count", "I", false)
def t_Rec : Nat → FieldType := fun k => match k with
  | 0 => .array .int
  | 1 => .array .int
  | 2 => .array .int
  | 3 => .array .int
  | _ => .int
theorem nm_Rec : ∀ a, a < 5 → ∀ b, b < 5 → a ≠ b → (T_Rec a).2.1 ≠ (T_Rec b).2.1 := by decide +kernel
theorem ty_Rec : ∀ k, k < 5 → parseFieldDescriptor (T_Rec k).2.2.1 = some (t_Rec k) := by decide +kernel
theorem ly_Rec_0 : u_lay R_Rec T_Rec 0 ∈ cx_tb := gx_tb (c := (Jvm.Cond.laysFinal "GasLedger$Receipts" "GasLedger$Receipts" "statuses" "[I")) 237 (by decide +kernel) (by decide +kernel)
theorem ly_Rec_1 : u_lay R_Rec T_Rec 1 ∈ cx_tb := gx_tb (c := (Jvm.Cond.laysFinal "GasLedger$Receipts" "GasLedger$Receipts" "usedGas" "[I")) 239 (by decide +kernel) (by decide +kernel)
theorem ly_Rec_2 : u_lay R_Rec T_Rec 2 ∈ cx_tb := gx_tb (c := (Jvm.Cond.laysFinal "GasLedger$Receipts" "GasLedger$Receipts" "outputs" "[I")) 241 (by decide +kernel) (by decide +kernel)
theorem ly_Rec_3 : u_lay R_Rec T_Rec 3 ∈ cx_tb := gx_tb (c := (Jvm.Cond.laysFinal "GasLedger$Receipts" "GasLedger$Receipts" "logCounts" "[I")) 243 (by decide +kernel) (by decide +kernel)
theorem ly_Rec_4 : u_lay R_Rec T_Rec 4 ∈ cx_tb := gx_tb (c := (Jvm.Cond.lays "GasLedger$Receipts" "GasLedger$Receipts" "count" "I")) 245 (by decide +kernel) (by decide +kernel)
theorem in_Rec : ∀ w ∈ u_ws R_Rec T_Rec 5, w ∈ cx_tb := by
  intro w hw
  obtain ⟨k, hk, rfl⟩ := List.mem_map.mp hw
  have hk : k < 5 := List.mem_range.mp hk
  match k, hk with
  | 0, _ => exact ly_Rec_0
  | 1, _ => exact ly_Rec_1
  | 2, _ => exact ly_Rec_2
  | 3, _ => exact ly_Rec_3
  | 4, _ => exact ly_Rec_4
  | k + 5, hk => exact absurd hk (by omega)
def R_Led : String := "GasLedger"
def T_Led : u_T := fun k => match k with
  | 0 => ("GasLedger", "machine", "LGasLedger$Machine;", true)
  | 1 => ("GasLedger", "atBegin", "LGasLedger$Accounts;", true)
  | 2 => ("GasLedger", "receipts", "LGasLedger$Receipts;", true)
  | 3 => ("GasLedger", "termsLimit", "I", false)
  | 4 => ("GasLedger", "termsPrice", "I", false)
  | 5 => ("GasLedger", "termsOff", "I", false)
  | 6 => ("GasLedger", "underWay", "Z", false)
  | 7 => ("GasLedger", "time", "I", false)
  | 8 => ("GasLedger", "miner", "I", false)
  | 9 => ("GasLedger", "usedGas", "I", false)
  | 10 => ("GasLedger", "begun", "I", false)
  | 11 => ("GasLedger", "accepted", "I", false)
  | 12 => ("GasLedger", "rejected", "I", false)
  | _ => ("GasLedger", "latestTime", "I", false)
def t_Led : Nat → FieldType := fun k => match k with
  | 0 => .object "GasLedger$Machine"
  | 1 => .object "GasLedger$Accounts"
  | 2 => .object "GasLedger$Receipts"
  | 3 => .int
  | 4 => .int
  | 5 => .int
  | 6 => .boolean
  | 7 => .int
  | 8 => .int
  | 9 => .int
  | 10 => .int
  | 11 => .int
  | 12 => .int
  | _ => .int
theorem nm_Led : ∀ a, a < 14 → ∀ b, b < 14 → a ≠ b → (T_Led a).2.1 ≠ (T_Led b).2.1 := by decide +kernel
theorem ty_Led : ∀ k, k < 14 → parseFieldDescriptor (T_Led k).2.2.1 = some (t_Led k) := by decide +kernel
theorem ly_Led_0 : u_lay R_Led T_Led 0 ∈ cx_tb := gx_tb (c := (Jvm.Cond.laysFinal "GasLedger" "GasLedger" "machine" "LGasLedger$Machine;")) 262 (by decide +kernel) (by decide +kernel)
theorem ly_Led_1 : u_lay R_Led T_Led 1 ∈ cx_tb := gx_tb (c := (Jvm.Cond.laysFinal "GasLedger" "GasLedger" "atBegin" "LGasLedger$Accounts;")) 264 (by decide +kernel) (by decide +kernel)
theorem ly_Led_2 : u_lay R_Led T_Led 2 ∈ cx_tb := gx_tb (c := (Jvm.Cond.laysFinal "GasLedger" "GasLedger" "receipts" "LGasLedger$Receipts;")) 266 (by decide +kernel) (by decide +kernel)
theorem ly_Led_3 : u_lay R_Led T_Led 3 ∈ cx_tb := gx_tb (c := (Jvm.Cond.lays "GasLedger" "GasLedger" "termsLimit" "I")) 268 (by decide +kernel) (by decide +kernel)
theorem ly_Led_4 : u_lay R_Led T_Led 4 ∈ cx_tb := gx_tb (c := (Jvm.Cond.lays "GasLedger" "GasLedger" "termsPrice" "I")) 270 (by decide +kernel) (by decide +kernel)
theorem ly_Led_5 : u_lay R_Led T_Led 5 ∈ cx_tb := gx_tb (c := (Jvm.Cond.lays "GasLedger" "GasLedger" "termsOff" "I")) 272 (by decide +kernel) (by decide +kernel)
theorem ly_Led_6 : u_lay R_Led T_Led 6 ∈ cx_tb := gx_tb (c := (Jvm.Cond.lays "GasLedger" "GasLedger" "underWay" "Z")) 274 (by decide +kernel) (by decide +kernel)
theorem ly_Led_7 : u_lay R_Led T_Led 7 ∈ cx_tb := gx_tb (c := (Jvm.Cond.lays "GasLedger" "GasLedger" "time" "I")) 276 (by decide +kernel) (by decide +kernel)
theorem ly_Led_8 : u_lay R_Led T_Led 8 ∈ cx_tb := gx_tb (c := (Jvm.Cond.lays "GasLedger" "GasLedger" "miner" "I")) 278 (by decide +kernel) (by decide +kernel)
theorem ly_Led_9 : u_lay R_Led T_Led 9 ∈ cx_tb := gx_tb (c := (Jvm.Cond.lays "GasLedger" "GasLedger" "usedGas" "I")) 280 (by decide +kernel) (by decide +kernel)
theorem ly_Led_10 : u_lay R_Led T_Led 10 ∈ cx_tb := gx_tb (c := (Jvm.Cond.lays "GasLedger" "GasLedger" "begun" "I")) 282 (by decide +kernel) (by decide +kernel)
theorem ly_Led_11 : u_lay R_Led T_Led 11 ∈ cx_tb := gx_tb (c := (Jvm.Cond.lays "GasLedger" "GasLedger" "accepted" "I")) 284 (by decide +kernel) (by decide +kernel)
theorem ly_Led_12 : u_lay R_Led T_Led 12 ∈ cx_tb := gx_tb (c := (Jvm.Cond.lays "GasLedger" "GasLedger" "rejected" "I")) 286 (by decide +kernel) (by decide +kernel)
theorem ly_Led_13 : u_lay R_Led T_Led 13 ∈ cx_tb := gx_tb (c := (Jvm.Cond.lays "GasLedger" "GasLedger" "latestTime" "I")) 288 (by decide +kernel) (by decide +kernel)
theorem in_Led : ∀ w ∈ u_ws R_Led T_Led 14, w ∈ cx_tb := by
  intro w hw
  obtain ⟨k, hk, rfl⟩ := List.mem_map.mp hw
  have hk : k < 14 := List.mem_range.mp hk
  match k, hk with
  | 0, _ => exact ly_Led_0
  | 1, _ => exact ly_Led_1
  | 2, _ => exact ly_Led_2
  | 3, _ => exact ly_Led_3
  | 4, _ => exact ly_Led_4
  | 5, _ => exact ly_Led_5
  | 6, _ => exact ly_Led_6
  | 7, _ => exact ly_Led_7
  | 8, _ => exact ly_Led_8
  | 9, _ => exact ly_Led_9
  | 10, _ => exact ly_Led_10
  | 11, _ => exact ly_Led_11
  | 12, _ => exact ly_Led_12
  | 13, _ => exact ly_Led_13
  | k + 14, hk => exact absurd hk (by omega)
def R_Mod : String := "GasLedgerModel"
def T_Mod : u_T := fun k => match k with
  | 0 => ("GasLedgerModel", "now", "[I", true)
  | 1 => ("GasLedgerModel", "before", "[I", true)
  | 2 => ("GasLedgerModel", "refund", "I", false)
  | 3 => ("GasLedgerModel", "begun", "I", false)
  | 4 => ("GasLedgerModel", "open", "Z", false)
  | 5 => ("GasLedgerModel", "miner", "I", false)
  | 6 => ("GasLedgerModel", "time", "I", false)
  | 7 => ("GasLedgerModel", "latest", "I", false)
  | 8 => ("GasLedgerModel", "accepted", "I", false)
  | 9 => ("GasLedgerModel", "rejected", "I", false)
  | 10 => ("GasLedgerModel", "used", "I", false)
  | 11 => ("GasLedgerModel", "receipts", "I", false)
  | 12 => ("GasLedgerModel", "receipt", "[I", true)
  | 13 => ("GasLedgerModel", "logs", "I", false)
  | 14 => ("GasLedgerModel", "logAccount", "[I", true)
  | 15 => ("GasLedgerModel", "logNumber", "[I", true)
  | 16 => ("GasLedgerModel", "limit", "I", false)
  | 17 => ("GasLedgerModel", "price", "I", false)
  | 18 => ("GasLedgerModel", "off", "I", false)
  | 19 => ("GasLedgerModel", "top", "I", false)
  | 20 => ("GasLedgerModel", "self", "[I", true)
  | 21 => ("GasLedgerModel", "runs", "[I", true)
  | 22 => ("GasLedgerModel", "place", "[I", true)
  | 23 => ("GasLedgerModel", "caller", "[I", true)
  | 24 => ("GasLedgerModel", "value", "[I", true)
  | 25 => ("GasLedgerModel", "input", "[I", true)
  | 26 => ("GasLedgerModel", "gas", "[I", true)
  | 27 => ("GasLedgerModel", "size", "[I", true)
  | 28 => ("GasLedgerModel", "stack", "[I", true)
  | 29 => ("GasLedgerModel", "copies", "[I", true)
  | 30 => ("GasLedgerModel", "refunds", "[I", true)
  | 31 => ("GasLedgerModel", "logsThen", "[I", true)
  | 32 => ("GasLedgerModel", "left", "I", false)
  | 33 => ("GasLedgerModel", "status", "I", false)
  | 34 => ("GasLedgerModel", "output", "I", false)
  | 35 => ("GasLedgerModel", "node", "[I", true)
  | 36 => ("GasLedgerModel", "has", "[Z", true)
  | 37 => ("GasLedgerModel", "worth", "[I", true)
  | _ => ("GasLedgerModel", "values", "[I", true)
def t_Mod : Nat → FieldType := fun k => match k with
  | 0 => .array .int
  | 1 => .array .int
  | 2 => .int
  | 3 => .int
  | 4 => .boolean
  | 5 => .int
  | 6 => .int
  | 7 => .int
  | 8 => .int
  | 9 => .int
  | 10 => .int
  | 11 => .int
  | 12 => .array .int
  | 13 => .int
  | 14 => .array .int
  | 15 => .array .int
  | 16 => .int
  | 17 => .int
  | 18 => .int
  | 19 => .int
  | 20 => .array .int
  | 21 => .array .int
  | 22 => .array .int
  | 23 => .array .int
  | 24 => .array .int
  | 25 => .array .int
  | 26 => .array .int
  | 27 => .array .int
  | 28 => .array .int
  | 29 => .array .int
  | 30 => .array .int
  | 31 => .array .int
  | 32 => .int
  | 33 => .int
  | 34 => .int
  | 35 => .array .int
  | 36 => .array .boolean
  | 37 => .array .int
  | _ => .array .int
theorem nm_Mod : ∀ a, a < 39 → ∀ b, b < 39 → a ≠ b → (T_Mod a).2.1 ≠ (T_Mod b).2.1 := by decide +kernel
theorem ty_Mod : ∀ k, k < 39 → parseFieldDescriptor (T_Mod k).2.2.1 = some (t_Mod k) := by decide +kernel
theorem ly_Mod_0 : u_lay R_Mod T_Mod 0 ∈ cx_tb := gx_tb (c := (Jvm.Cond.laysFinal "GasLedgerModel" "GasLedgerModel" "now" "[I")) 640 (by decide +kernel) (by decide +kernel)
theorem ly_Mod_1 : u_lay R_Mod T_Mod 1 ∈ cx_tb := gx_tb (c := (Jvm.Cond.laysFinal "GasLedgerModel" "GasLedgerModel" "before" "[I")) 642 (by decide +kernel) (by decide +kernel)
theorem ly_Mod_2 : u_lay R_Mod T_Mod 2 ∈ cx_tb := gx_tb (c := (Jvm.Cond.lays "GasLedgerModel" "GasLedgerModel" "refund" "I")) 644 (by decide +kernel) (by decide +kernel)
theorem ly_Mod_3 : u_lay R_Mod T_Mod 3 ∈ cx_tb := gx_tb (c := (Jvm.Cond.lays "GasLedgerModel" "GasLedgerModel" "begun" "I")) 646 (by decide +kernel) (by decide +kernel)
theorem ly_Mod_4 : u_lay R_Mod T_Mod 4 ∈ cx_tb := gx_tb (c := (Jvm.Cond.lays "GasLedgerModel" "GasLedgerModel" "open" "Z")) 648 (by decide +kernel) (by decide +kernel)
theorem ly_Mod_5 : u_lay R_Mod T_Mod 5 ∈ cx_tb := gx_tb (c := (Jvm.Cond.lays "GasLedgerModel" "GasLedgerModel" "miner" "I")) 650 (by decide +kernel) (by decide +kernel)
theorem ly_Mod_6 : u_lay R_Mod T_Mod 6 ∈ cx_tb := gx_tb (c := (Jvm.Cond.lays "GasLedgerModel" "GasLedgerModel" "time" "I")) 652 (by decide +kernel) (by decide +kernel)
theorem ly_Mod_7 : u_lay R_Mod T_Mod 7 ∈ cx_tb := gx_tb (c := (Jvm.Cond.lays "GasLedgerModel" "GasLedgerModel" "latest" "I")) 654 (by decide +kernel) (by decide +kernel)
theorem ly_Mod_8 : u_lay R_Mod T_Mod 8 ∈ cx_tb := gx_tb (c := (Jvm.Cond.lays "GasLedgerModel" "GasLedgerModel" "accepted" "I")) 656 (by decide +kernel) (by decide +kernel)
theorem ly_Mod_9 : u_lay R_Mod T_Mod 9 ∈ cx_tb := gx_tb (c := (Jvm.Cond.lays "GasLedgerModel" "GasLedgerModel" "rejected" "I")) 658 (by decide +kernel) (by decide +kernel)
theorem ly_Mod_10 : u_lay R_Mod T_Mod 10 ∈ cx_tb := gx_tb (c := (Jvm.Cond.lays "GasLedgerModel" "GasLedgerModel" "used" "I")) 660 (by decide +kernel) (by decide +kernel)
theorem ly_Mod_11 : u_lay R_Mod T_Mod 11 ∈ cx_tb := gx_tb (c := (Jvm.Cond.lays "GasLedgerModel" "GasLedgerModel" "receipts" "I")) 662 (by decide +kernel) (by decide +kernel)
theorem ly_Mod_12 : u_lay R_Mod T_Mod 12 ∈ cx_tb := gx_tb (c := (Jvm.Cond.laysFinal "GasLedgerModel" "GasLedgerModel" "receipt" "[I")) 664 (by decide +kernel) (by decide +kernel)
theorem ly_Mod_13 : u_lay R_Mod T_Mod 13 ∈ cx_tb := gx_tb (c := (Jvm.Cond.lays "GasLedgerModel" "GasLedgerModel" "logs" "I")) 666 (by decide +kernel) (by decide +kernel)
theorem ly_Mod_14 : u_lay R_Mod T_Mod 14 ∈ cx_tb := gx_tb (c := (Jvm.Cond.laysFinal "GasLedgerModel" "GasLedgerModel" "logAccount" "[I")) 668 (by decide +kernel) (by decide +kernel)
theorem ly_Mod_15 : u_lay R_Mod T_Mod 15 ∈ cx_tb := gx_tb (c := (Jvm.Cond.laysFinal "GasLedgerModel" "GasLedgerModel" "logNumber" "[I")) 670 (by decide +kernel) (by decide +kernel)
theorem ly_Mod_16 : u_lay R_Mod T_Mod 16 ∈ cx_tb := gx_tb (c := (Jvm.Cond.lays "GasLedgerModel" "GasLedgerModel" "limit" "I")) 672 (by decide +kernel) (by decide +kernel)
theorem ly_Mod_17 : u_lay R_Mod T_Mod 17 ∈ cx_tb := gx_tb (c := (Jvm.Cond.lays "GasLedgerModel" "GasLedgerModel" "price" "I")) 674 (by decide +kernel) (by decide +kernel)
theorem ly_Mod_18 : u_lay R_Mod T_Mod 18 ∈ cx_tb := gx_tb (c := (Jvm.Cond.lays "GasLedgerModel" "GasLedgerModel" "off" "I")) 676 (by decide +kernel) (by decide +kernel)
theorem ly_Mod_19 : u_lay R_Mod T_Mod 19 ∈ cx_tb := gx_tb (c := (Jvm.Cond.lays "GasLedgerModel" "GasLedgerModel" "top" "I")) 678 (by decide +kernel) (by decide +kernel)
theorem ly_Mod_20 : u_lay R_Mod T_Mod 20 ∈ cx_tb := gx_tb (c := (Jvm.Cond.laysFinal "GasLedgerModel" "GasLedgerModel" "self" "[I")) 680 (by decide +kernel) (by decide +kernel)
theorem ly_Mod_21 : u_lay R_Mod T_Mod 21 ∈ cx_tb := gx_tb (c := (Jvm.Cond.laysFinal "GasLedgerModel" "GasLedgerModel" "runs" "[I")) 682 (by decide +kernel) (by decide +kernel)
theorem ly_Mod_22 : u_lay R_Mod T_Mod 22 ∈ cx_tb := gx_tb (c := (Jvm.Cond.laysFinal "GasLedgerModel" "GasLedgerModel" "place" "[I")) 684 (by decide +kernel) (by decide +kernel)
theorem ly_Mod_23 : u_lay R_Mod T_Mod 23 ∈ cx_tb := gx_tb (c := (Jvm.Cond.laysFinal "GasLedgerModel" "GasLedgerModel" "caller" "[I")) 686 (by decide +kernel) (by decide +kernel)
theorem ly_Mod_24 : u_lay R_Mod T_Mod 24 ∈ cx_tb := gx_tb (c := (Jvm.Cond.laysFinal "GasLedgerModel" "GasLedgerModel" "value" "[I")) 688 (by decide +kernel) (by decide +kernel)
theorem ly_Mod_25 : u_lay R_Mod T_Mod 25 ∈ cx_tb := gx_tb (c := (Jvm.Cond.laysFinal "GasLedgerModel" "GasLedgerModel" "input" "[I")) 690 (by decide +kernel) (by decide +kernel)
theorem ly_Mod_26 : u_lay R_Mod T_Mod 26 ∈ cx_tb := gx_tb (c := (Jvm.Cond.laysFinal "GasLedgerModel" "GasLedgerModel" "gas" "[I")) 692 (by decide +kernel) (by decide +kernel)
theorem ly_Mod_27 : u_lay R_Mod T_Mod 27 ∈ cx_tb := gx_tb (c := (Jvm.Cond.laysFinal "GasLedgerModel" "GasLedgerModel" "size" "[I")) 694 (by decide +kernel) (by decide +kernel)
theorem ly_Mod_28 : u_lay R_Mod T_Mod 28 ∈ cx_tb := gx_tb (c := (Jvm.Cond.laysFinal "GasLedgerModel" "GasLedgerModel" "stack" "[I")) 696 (by decide +kernel) (by decide +kernel)
theorem ly_Mod_29 : u_lay R_Mod T_Mod 29 ∈ cx_tb := gx_tb (c := (Jvm.Cond.laysFinal "GasLedgerModel" "GasLedgerModel" "copies" "[I")) 698 (by decide +kernel) (by decide +kernel)
theorem ly_Mod_30 : u_lay R_Mod T_Mod 30 ∈ cx_tb := gx_tb (c := (Jvm.Cond.laysFinal "GasLedgerModel" "GasLedgerModel" "refunds" "[I")) 700 (by decide +kernel) (by decide +kernel)
theorem ly_Mod_31 : u_lay R_Mod T_Mod 31 ∈ cx_tb := gx_tb (c := (Jvm.Cond.laysFinal "GasLedgerModel" "GasLedgerModel" "logsThen" "[I")) 702 (by decide +kernel) (by decide +kernel)
theorem ly_Mod_32 : u_lay R_Mod T_Mod 32 ∈ cx_tb := gx_tb (c := (Jvm.Cond.lays "GasLedgerModel" "GasLedgerModel" "left" "I")) 704 (by decide +kernel) (by decide +kernel)
theorem ly_Mod_33 : u_lay R_Mod T_Mod 33 ∈ cx_tb := gx_tb (c := (Jvm.Cond.lays "GasLedgerModel" "GasLedgerModel" "status" "I")) 706 (by decide +kernel) (by decide +kernel)
theorem ly_Mod_34 : u_lay R_Mod T_Mod 34 ∈ cx_tb := gx_tb (c := (Jvm.Cond.lays "GasLedgerModel" "GasLedgerModel" "output" "I")) 708 (by decide +kernel) (by decide +kernel)
theorem ly_Mod_35 : u_lay R_Mod T_Mod 35 ∈ cx_tb := gx_tb (c := (Jvm.Cond.laysFinal "GasLedgerModel" "GasLedgerModel" "node" "[I")) 710 (by decide +kernel) (by decide +kernel)
theorem ly_Mod_36 : u_lay R_Mod T_Mod 36 ∈ cx_tb := gx_tb (c := (Jvm.Cond.laysFinal "GasLedgerModel" "GasLedgerModel" "has" "[Z")) 712 (by decide +kernel) (by decide +kernel)
theorem ly_Mod_37 : u_lay R_Mod T_Mod 37 ∈ cx_tb := gx_tb (c := (Jvm.Cond.laysFinal "GasLedgerModel" "GasLedgerModel" "worth" "[I")) 714 (by decide +kernel) (by decide +kernel)
theorem ly_Mod_38 : u_lay R_Mod T_Mod 38 ∈ cx_tb := gx_tb (c := (Jvm.Cond.laysFinal "GasLedgerModel" "GasLedgerModel" "values" "[I")) 716 (by decide +kernel) (by decide +kernel)
theorem in_Mod : ∀ w ∈ u_ws R_Mod T_Mod 39, w ∈ cx_tb := by
  intro w hw
  obtain ⟨k, hk, rfl⟩ := List.mem_map.mp hw
  have hk : k < 39 := List.mem_range.mp hk
  match k, hk with
  | 0, _ => exact ly_Mod_0
  | 1, _ => exact ly_Mod_1
  | 2, _ => exact ly_Mod_2
  | 3, _ => exact ly_Mod_3
  | 4, _ => exact ly_Mod_4
  | 5, _ => exact ly_Mod_5
  | 6, _ => exact ly_Mod_6
  | 7, _ => exact ly_Mod_7
  | 8, _ => exact ly_Mod_8
  | 9, _ => exact ly_Mod_9
  | 10, _ => exact ly_Mod_10
  | 11, _ => exact ly_Mod_11
  | 12, _ => exact ly_Mod_12
  | 13, _ => exact ly_Mod_13
  | 14, _ => exact ly_Mod_14
  | 15, _ => exact ly_Mod_15
  | 16, _ => exact ly_Mod_16
  | 17, _ => exact ly_Mod_17
  | 18, _ => exact ly_Mod_18
  | 19, _ => exact ly_Mod_19
  | 20, _ => exact ly_Mod_20
  | 21, _ => exact ly_Mod_21
  | 22, _ => exact ly_Mod_22
  | 23, _ => exact ly_Mod_23
  | 24, _ => exact ly_Mod_24
  | 25, _ => exact ly_Mod_25
  | 26, _ => exact ly_Mod_26
  | 27, _ => exact ly_Mod_27
  | 28, _ => exact ly_Mod_28
  | 29, _ => exact ly_Mod_29
  | 30, _ => exact ly_Mod_30
  | 31, _ => exact ly_Mod_31
  | 32, _ => exact ly_Mod_32
  | 33, _ => exact ly_Mod_33
  | 34, _ => exact ly_Mod_34
  | 35, _ => exact ly_Mod_35
  | 36, _ => exact ly_Mod_36
  | 37, _ => exact ly_Mod_37
  | 38, _ => exact ly_Mod_38
  | k + 39, hk => exact absurd hk (by omega)
abbrev cx_cl : List vw_C := [(R_Acc, T_Acc, 6), (R_Frm, T_Frm, 17), (R_Log, T_Log, 4), (R_Mac, T_Mac, 6), (R_Rec, T_Rec, 5), (R_Led, T_Led, 14), (R_Mod, T_Mod, 39)]
