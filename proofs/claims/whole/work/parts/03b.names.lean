abbrev b_Led_init : ByteArray := prog_1_method_1_code
def y_Led_init : MethodName := ⟨"GasLedger", "<init>", "()V"⟩
abbrev rt_Led_init : Option FieldType := (Option.none : Option FieldType)
theorem cd_Led_init : Cond.code y_Led_init b_Led_init 1 rt_Led_init ∈ cx_tb := gx_tb (c := (Jvm.Cond.code ({ cls := "GasLedger", name := "<init>", desc := "()V" } : Jvm.MethodName) prog_1_method_1_code (1 : Nat) (Option.none : Option Jvm.ClassFile.FieldType))) 58 (by decide +kernel) (by decide +kernel)
abbrev w_Led_init : List Cond := Cond.code y_Led_init b_Led_init 1 rt_Led_init :: cx_tb
abbrev b_Led_fund : ByteArray := prog_1_method_2_code
def y_Led_fund : MethodName := ⟨"GasLedger", "fund", "(II)Z"⟩
abbrev rt_Led_fund : Option FieldType := (Option.some FieldType.boolean)
theorem cd_Led_fund : Cond.code y_Led_fund b_Led_fund 3 rt_Led_fund ∈ cx_tb := gx_tb (c := (Jvm.Cond.code ({ cls := "GasLedger", name := "fund", desc := "(II)Z" } : Jvm.MethodName) prog_1_method_2_code (3 : Nat) (Option.some Jvm.ClassFile.FieldType.boolean))) 294 (by decide +kernel) (by decide +kernel)
abbrev w_Led_fund : List Cond := Cond.code y_Led_fund b_Led_fund 3 rt_Led_fund :: cx_tb
abbrev b_Led_code : ByteArray := prog_1_method_3_code
def y_Led_code : MethodName := ⟨"GasLedger", "code", "(II)Z"⟩
abbrev rt_Led_code : Option FieldType := (Option.some FieldType.boolean)
theorem cd_Led_code : Cond.code y_Led_code b_Led_code 3 rt_Led_code ∈ cx_tb := gx_tb (c := (Jvm.Cond.code ({ cls := "GasLedger", name := "code", desc := "(II)Z" } : Jvm.MethodName) prog_1_method_3_code (3 : Nat) (Option.some Jvm.ClassFile.FieldType.boolean))) 302 (by decide +kernel) (by decide +kernel)
abbrev w_Led_code : List Cond := Cond.code y_Led_code b_Led_code 3 rt_Led_code :: cx_tb
abbrev b_Led_preset : ByteArray := prog_1_method_4_code
def y_Led_preset : MethodName := ⟨"GasLedger", "preset", "(III)Z"⟩
abbrev rt_Led_preset : Option FieldType := (Option.some FieldType.boolean)
theorem cd_Led_preset : Cond.code y_Led_preset b_Led_preset 4 rt_Led_preset ∈ cx_tb := gx_tb (c := (Jvm.Cond.code ({ cls := "GasLedger", name := "preset", desc := "(III)Z" } : Jvm.MethodName) prog_1_method_4_code (4 : Nat) (Option.some Jvm.ClassFile.FieldType.boolean))) 310 (by decide +kernel) (by decide +kernel)
abbrev w_Led_preset : List Cond := Cond.code y_Led_preset b_Led_preset 4 rt_Led_preset :: cx_tb
abbrev b_Led_begin : ByteArray := prog_1_method_5_code
def y_Led_begin : MethodName := ⟨"GasLedger", "begin", "(II)Z"⟩
abbrev rt_Led_begin : Option FieldType := (Option.some FieldType.boolean)
theorem cd_Led_begin : Cond.code y_Led_begin b_Led_begin 3 rt_Led_begin ∈ cx_tb := gx_tb (c := (Jvm.Cond.code ({ cls := "GasLedger", name := "begin", desc := "(II)Z" } : Jvm.MethodName) prog_1_method_5_code (3 : Nat) (Option.some Jvm.ClassFile.FieldType.boolean))) 317 (by decide +kernel) (by decide +kernel)
abbrev w_Led_begin : List Cond := Cond.code y_Led_begin b_Led_begin 3 rt_Led_begin :: cx_tb
abbrev b_Led_send : ByteArray := prog_1_method_6_code
def y_Led_send : MethodName := ⟨"GasLedger", "send", "(IIII)I"⟩
abbrev rt_Led_send : Option FieldType := (Option.some FieldType.int)
theorem cd_Led_send : Cond.code y_Led_send b_Led_send 6 rt_Led_send ∈ cx_tb := gx_tb (c := (Jvm.Cond.code ({ cls := "GasLedger", name := "send", desc := "(IIII)I" } : Jvm.MethodName) prog_1_method_6_code (6 : Nat) (Option.some Jvm.ClassFile.FieldType.int))) 332 (by decide +kernel) (by decide +kernel)
abbrev w_Led_send : List Cond := Cond.code y_Led_send b_Led_send 6 rt_Led_send :: cx_tb
abbrev b_Led_terms : ByteArray := prog_1_method_7_code
def y_Led_terms : MethodName := ⟨"GasLedger", "terms", "(III)V"⟩
abbrev rt_Led_terms : Option FieldType := (Option.none : Option FieldType)
theorem cd_Led_terms : Cond.code y_Led_terms b_Led_terms 4 rt_Led_terms ∈ cx_tb := gx_tb (c := (Jvm.Cond.code ({ cls := "GasLedger", name := "terms", desc := "(III)V" } : Jvm.MethodName) prog_1_method_7_code (4 : Nat) (Option.none : Option Jvm.ClassFile.FieldType))) 517 (by decide +kernel) (by decide +kernel)
abbrev w_Led_terms : List Cond := Cond.code y_Led_terms b_Led_terms 4 rt_Led_terms :: cx_tb
abbrev b_Led_pay : ByteArray := prog_1_method_8_code
def y_Led_pay : MethodName := ⟨"GasLedger", "pay", "(IIII)I"⟩
abbrev rt_Led_pay : Option FieldType := (Option.some FieldType.int)
theorem cd_Led_pay : Cond.code y_Led_pay b_Led_pay 8 rt_Led_pay ∈ cx_tb := gx_tb (c := (Jvm.Cond.code ({ cls := "GasLedger", name := "pay", desc := "(IIII)I" } : Jvm.MethodName) prog_1_method_8_code (8 : Nat) (Option.some Jvm.ClassFile.FieldType.int))) 521 (by decide +kernel) (by decide +kernel)
abbrev w_Led_pay : List Cond := Cond.code y_Led_pay b_Led_pay 8 rt_Led_pay :: cx_tb
abbrev b_Led_seal : ByteArray := prog_1_method_9_code
def y_Led_seal : MethodName := ⟨"GasLedger", "seal", "(I)I"⟩
abbrev rt_Led_seal : Option FieldType := (Option.some FieldType.int)
theorem cd_Led_seal : Cond.code y_Led_seal b_Led_seal 2 rt_Led_seal ∈ cx_tb := gx_tb (c := (Jvm.Cond.code ({ cls := "GasLedger", name := "seal", desc := "(I)I" } : Jvm.MethodName) prog_1_method_9_code (2 : Nat) (Option.some Jvm.ClassFile.FieldType.int))) 526 (by decide +kernel) (by decide +kernel)
abbrev w_Led_seal : List Cond := Cond.code y_Led_seal b_Led_seal 2 rt_Led_seal :: cx_tb
abbrev b_Led_look : ByteArray := prog_1_method_10_code
def y_Led_look : MethodName := ⟨"GasLedger", "look", "(II)I"⟩
abbrev rt_Led_look : Option FieldType := (Option.some FieldType.int)
theorem cd_Led_look : Cond.code y_Led_look b_Led_look 3 rt_Led_look ∈ cx_tb := gx_tb (c := (Jvm.Cond.code ({ cls := "GasLedger", name := "look", desc := "(II)I" } : Jvm.MethodName) prog_1_method_10_code (3 : Nat) (Option.some Jvm.ClassFile.FieldType.int))) 530 (by decide +kernel) (by decide +kernel)
abbrev w_Led_look : List Cond := Cond.code y_Led_look b_Led_look 3 rt_Led_look :: cx_tb
abbrev b_Led_slot : ByteArray := prog_1_method_11_code
def y_Led_slot : MethodName := ⟨"GasLedger", "slot", "(II)I"⟩
abbrev rt_Led_slot : Option FieldType := (Option.some FieldType.int)
theorem cd_Led_slot : Cond.code y_Led_slot b_Led_slot 3 rt_Led_slot ∈ cx_tb := gx_tb (c := (Jvm.Cond.code ({ cls := "GasLedger", name := "slot", desc := "(II)I" } : Jvm.MethodName) prog_1_method_11_code (3 : Nat) (Option.some Jvm.ClassFile.FieldType.int))) 555 (by decide +kernel) (by decide +kernel)
abbrev w_Led_slot : List Cond := Cond.code y_Led_slot b_Led_slot 3 rt_Led_slot :: cx_tb
abbrev b_Led_word : ByteArray := prog_1_method_12_code
def y_Led_word : MethodName := ⟨"GasLedger", "word", "(II)I"⟩
abbrev rt_Led_word : Option FieldType := (Option.some FieldType.int)
theorem cd_Led_word : Cond.code y_Led_word b_Led_word 3 rt_Led_word ∈ cx_tb := gx_tb (c := (Jvm.Cond.code ({ cls := "GasLedger", name := "word", desc := "(II)I" } : Jvm.MethodName) prog_1_method_12_code (3 : Nat) (Option.some Jvm.ClassFile.FieldType.int))) 560 (by decide +kernel) (by decide +kernel)
abbrev w_Led_word : List Cond := Cond.code y_Led_word b_Led_word 3 rt_Led_word :: cx_tb
abbrev b_Led_root : ByteArray := prog_1_method_13_code
def y_Led_root : MethodName := ⟨"GasLedger", "root", "()I"⟩
abbrev rt_Led_root : Option FieldType := (Option.some FieldType.int)
theorem cd_Led_root : Cond.code y_Led_root b_Led_root 1 rt_Led_root ∈ cx_tb := gx_tb (c := (Jvm.Cond.code ({ cls := "GasLedger", name := "root", desc := "()I" } : Jvm.MethodName) prog_1_method_13_code (1 : Nat) (Option.some Jvm.ClassFile.FieldType.int))) 565 (by decide +kernel) (by decide +kernel)
abbrev w_Led_root : List Cond := Cond.code y_Led_root b_Led_root 1 rt_Led_root :: cx_tb
abbrev b_Led_block : ByteArray := prog_1_method_14_code
def y_Led_block : MethodName := ⟨"GasLedger", "block", "(I)I"⟩
abbrev rt_Led_block : Option FieldType := (Option.some FieldType.int)
theorem cd_Led_block : Cond.code y_Led_block b_Led_block 2 rt_Led_block ∈ cx_tb := gx_tb (c := (Jvm.Cond.code ({ cls := "GasLedger", name := "block", desc := "(I)I" } : Jvm.MethodName) prog_1_method_14_code (2 : Nat) (Option.some Jvm.ClassFile.FieldType.int))) 574 (by decide +kernel) (by decide +kernel)
abbrev w_Led_block : List Cond := Cond.code y_Led_block b_Led_block 2 rt_Led_block :: cx_tb
abbrev b_Led_receipt : ByteArray := prog_1_method_15_code
def y_Led_receipt : MethodName := ⟨"GasLedger", "receipt", "(II)I"⟩
abbrev rt_Led_receipt : Option FieldType := (Option.some FieldType.int)
theorem cd_Led_receipt : Cond.code y_Led_receipt b_Led_receipt 3 rt_Led_receipt ∈ cx_tb := gx_tb (c := (Jvm.Cond.code ({ cls := "GasLedger", name := "receipt", desc := "(II)I" } : Jvm.MethodName) prog_1_method_15_code (3 : Nat) (Option.some Jvm.ClassFile.FieldType.int))) 578 (by decide +kernel) (by decide +kernel)
abbrev w_Led_receipt : List Cond := Cond.code y_Led_receipt b_Led_receipt 3 rt_Led_receipt :: cx_tb
abbrev b_Led_log : ByteArray := prog_1_method_16_code
def y_Led_log : MethodName := ⟨"GasLedger", "log", "(II)I"⟩
abbrev rt_Led_log : Option FieldType := (Option.some FieldType.int)
theorem cd_Led_log : Cond.code y_Led_log b_Led_log 3 rt_Led_log ∈ cx_tb := gx_tb (c := (Jvm.Cond.code ({ cls := "GasLedger", name := "log", desc := "(II)I" } : Jvm.MethodName) prog_1_method_16_code (3 : Nat) (Option.some Jvm.ClassFile.FieldType.int))) 586 (by decide +kernel) (by decide +kernel)
abbrev w_Led_log : List Cond := Cond.code y_Led_log b_Led_log 3 rt_Led_log :: cx_tb
abbrev b_Led_total : ByteArray := prog_1_method_17_code
def y_Led_total : MethodName := ⟨"GasLedger", "total", "()J"⟩
abbrev rt_Led_total : Option FieldType := (Option.some FieldType.long)
theorem cd_Led_total : Cond.code y_Led_total b_Led_total 4 rt_Led_total ∈ cx_tb := gx_tb (c := (Jvm.Cond.code ({ cls := "GasLedger", name := "total", desc := "()J" } : Jvm.MethodName) prog_1_method_17_code (4 : Nat) (Option.some Jvm.ClassFile.FieldType.long))) 594 (by decide +kernel) (by decide +kernel)
abbrev w_Led_total : List Cond := Cond.code y_Led_total b_Led_total 4 rt_Led_total :: cx_tb
abbrev b_Led_refusalOf : ByteArray := prog_1_method_18_code
def y_Led_refusalOf : MethodName := ⟨"GasLedger", "refusalOf", "(IIIIII)I"⟩
abbrev rt_Led_refusalOf : Option FieldType := (Option.some FieldType.int)
theorem cd_Led_refusalOf : Cond.code y_Led_refusalOf b_Led_refusalOf 9 rt_Led_refusalOf ∈ cx_tb := gx_tb (c := (Jvm.Cond.code ({ cls := "GasLedger", name := "refusalOf", desc := "(IIIIII)I" } : Jvm.MethodName) prog_1_method_18_code (9 : Nat) (Option.some Jvm.ClassFile.FieldType.int))) 336 (by decide +kernel) (by decide +kernel)
abbrev w_Led_refusalOf : List Cond := Cond.code y_Led_refusalOf b_Led_refusalOf 9 rt_Led_refusalOf :: cx_tb
abbrev b_Led_perform : ByteArray := prog_1_method_19_code
def y_Led_perform : MethodName := ⟨"GasLedger", "perform", "(IIIIII)I"⟩
abbrev rt_Led_perform : Option FieldType := (Option.some FieldType.int)
theorem cd_Led_perform : Cond.code y_Led_perform b_Led_perform 12 rt_Led_perform ∈ cx_tb := gx_tb (c := (Jvm.Cond.code ({ cls := "GasLedger", name := "perform", desc := "(IIIIII)I" } : Jvm.MethodName) prog_1_method_19_code (12 : Nat) (Option.some Jvm.ClassFile.FieldType.int))) 340 (by decide +kernel) (by decide +kernel)
abbrev w_Led_perform : List Cond := Cond.code y_Led_perform b_Led_perform 12 rt_Led_perform :: cx_tb
abbrev b_Led_isAccount : ByteArray := prog_1_method_20_code
def y_Led_isAccount : MethodName := ⟨"GasLedger", "isAccount", "(I)Z"⟩
abbrev rt_Led_isAccount : Option FieldType := (Option.some FieldType.boolean)
theorem cd_Led_isAccount : Cond.code y_Led_isAccount b_Led_isAccount 1 rt_Led_isAccount ∈ cx_tb := gx_tb (c := (Jvm.Cond.code ({ cls := "GasLedger", name := "isAccount", desc := "(I)Z" } : Jvm.MethodName) prog_1_method_20_code (1 : Nat) (Option.some Jvm.ClassFile.FieldType.boolean))) 297 (by decide +kernel) (by decide +kernel)
abbrev w_Led_isAccount : List Cond := Cond.code y_Led_isAccount b_Led_isAccount 1 rt_Led_isAccount :: cx_tb
abbrev b_Led_isSlot : ByteArray := prog_1_method_21_code
def y_Led_isSlot : MethodName := ⟨"GasLedger", "isSlot", "(I)Z"⟩
abbrev rt_Led_isSlot : Option FieldType := (Option.some FieldType.boolean)
theorem cd_Led_isSlot : Cond.code y_Led_isSlot b_Led_isSlot 1 rt_Led_isSlot ∈ cx_tb := gx_tb (c := (Jvm.Cond.code ({ cls := "GasLedger", name := "isSlot", desc := "(I)Z" } : Jvm.MethodName) prog_1_method_21_code (1 : Nat) (Option.some Jvm.ClassFile.FieldType.boolean))) 313 (by decide +kernel) (by decide +kernel)
abbrev w_Led_isSlot : List Cond := Cond.code y_Led_isSlot b_Led_isSlot 1 rt_Led_isSlot :: cx_tb
abbrev b_Mod_init : ByteArray := prog_9_method_1_code
def y_Mod_init : MethodName := ⟨"GasLedgerModel", "<init>", "()V"⟩
abbrev rt_Mod_init : Option FieldType := (Option.none : Option FieldType)
theorem cd_Mod_init : Cond.code y_Mod_init b_Mod_init 1 rt_Mod_init ∈ cx_tb := gx_tb (c := (Jvm.Cond.code ({ cls := "GasLedgerModel", name := "<init>", desc := "()V" } : Jvm.MethodName) prog_9_method_1_code (1 : Nat) (Option.none : Option Jvm.ClassFile.FieldType))) 599 (by decide +kernel) (by decide +kernel)
abbrev w_Mod_init : List Cond := Cond.code y_Mod_init b_Mod_init 1 rt_Mod_init :: cx_tb
abbrev b_Mod_in : ByteArray := prog_9_method_2_code
def y_Mod_in : MethodName := ⟨"GasLedgerModel", "in", "(II)Z"⟩
abbrev rt_Mod_in : Option FieldType := (Option.some FieldType.boolean)
theorem cd_Mod_in : Cond.code y_Mod_in b_Mod_in 2 rt_Mod_in ∈ cx_tb := gx_tb (c := (Jvm.Cond.code ({ cls := "GasLedgerModel", name := "in", desc := "(II)Z" } : Jvm.MethodName) prog_9_method_2_code (2 : Nat) (Option.some Jvm.ClassFile.FieldType.boolean))) 726 (by decide +kernel) (by decide +kernel)
abbrev w_Mod_in : List Cond := Cond.code y_Mod_in b_Mod_in 2 rt_Mod_in :: cx_tb
abbrev b_Mod_fund : ByteArray := prog_9_method_3_code
def y_Mod_fund : MethodName := ⟨"GasLedgerModel", "fund", "(II)Z"⟩
abbrev rt_Mod_fund : Option FieldType := (Option.some FieldType.boolean)
theorem cd_Mod_fund : Cond.code y_Mod_fund b_Mod_fund 3 rt_Mod_fund ∈ cx_tb := gx_tb (c := (Jvm.Cond.code ({ cls := "GasLedgerModel", name := "fund", desc := "(II)Z" } : Jvm.MethodName) prog_9_method_3_code (3 : Nat) (Option.some Jvm.ClassFile.FieldType.boolean))) 723 (by decide +kernel) (by decide +kernel)
abbrev w_Mod_fund : List Cond := Cond.code y_Mod_fund b_Mod_fund 3 rt_Mod_fund :: cx_tb
abbrev b_Mod_code : ByteArray := prog_9_method_4_code
def y_Mod_code : MethodName := ⟨"GasLedgerModel", "code", "(II)Z"⟩
abbrev rt_Mod_code : Option FieldType := (Option.some FieldType.boolean)
theorem cd_Mod_code : Cond.code y_Mod_code b_Mod_code 4 rt_Mod_code ∈ cx_tb := gx_tb (c := (Jvm.Cond.code ({ cls := "GasLedgerModel", name := "code", desc := "(II)Z" } : Jvm.MethodName) prog_9_method_4_code (4 : Nat) (Option.some Jvm.ClassFile.FieldType.boolean))) 731 (by decide +kernel) (by decide +kernel)
abbrev w_Mod_code : List Cond := Cond.code y_Mod_code b_Mod_code 4 rt_Mod_code :: cx_tb
abbrev b_Mod_preset : ByteArray := prog_9_method_5_code
def y_Mod_preset : MethodName := ⟨"GasLedgerModel", "preset", "(III)Z"⟩
abbrev rt_Mod_preset : Option FieldType := (Option.some FieldType.boolean)
theorem cd_Mod_preset : Cond.code y_Mod_preset b_Mod_preset 4 rt_Mod_preset ∈ cx_tb := gx_tb (c := (Jvm.Cond.code ({ cls := "GasLedgerModel", name := "preset", desc := "(III)Z" } : Jvm.MethodName) prog_9_method_5_code (4 : Nat) (Option.some Jvm.ClassFile.FieldType.boolean))) 735 (by decide +kernel) (by decide +kernel)
abbrev w_Mod_preset : List Cond := Cond.code y_Mod_preset b_Mod_preset 4 rt_Mod_preset :: cx_tb
abbrev b_Mod_mix : ByteArray := prog_9_method_6_code
def y_Mod_mix : MethodName := ⟨"GasLedgerModel", "mix", "(II)I"⟩
abbrev rt_Mod_mix : Option FieldType := (Option.some FieldType.int)
theorem cd_Mod_mix : Cond.code y_Mod_mix b_Mod_mix 3 rt_Mod_mix ∈ cx_tb := gx_tb (c := (Jvm.Cond.code ({ cls := "GasLedgerModel", name := "mix", desc := "(II)I" } : Jvm.MethodName) prog_9_method_6_code (3 : Nat) (Option.some Jvm.ClassFile.FieldType.int))) 746 (by decide +kernel) (by decide +kernel)
abbrev w_Mod_mix : List Cond := Cond.code y_Mod_mix b_Mod_mix 3 rt_Mod_mix :: cx_tb
abbrev b_Mod_map : ByteArray := prog_9_method_7_code
def y_Mod_map : MethodName := ⟨"GasLedgerModel", "map", "(I)I"⟩
abbrev rt_Mod_map : Option FieldType := (Option.some FieldType.int)
theorem cd_Mod_map : Cond.code y_Mod_map b_Mod_map 4 rt_Mod_map ∈ cx_tb := gx_tb (c := (Jvm.Cond.code ({ cls := "GasLedgerModel", name := "map", desc := "(I)I" } : Jvm.MethodName) prog_9_method_7_code (4 : Nat) (Option.some Jvm.ClassFile.FieldType.int))) 755 (by decide +kernel) (by decide +kernel)
abbrev w_Mod_map : List Cond := Cond.code y_Mod_map b_Mod_map 4 rt_Mod_map :: cx_tb
abbrev b_Mod_part : ByteArray := prog_9_method_8_code
def y_Mod_part : MethodName := ⟨"GasLedgerModel", "part", "(III)I"⟩
abbrev rt_Mod_part : Option FieldType := (Option.some FieldType.int)
theorem cd_Mod_part : Cond.code y_Mod_part b_Mod_part 10 rt_Mod_part ∈ cx_tb := gx_tb (c := (Jvm.Cond.code ({ cls := "GasLedgerModel", name := "part", desc := "(III)I" } : Jvm.MethodName) prog_9_method_8_code (10 : Nat) (Option.some Jvm.ClassFile.FieldType.int))) 759 (by decide +kernel) (by decide +kernel)
abbrev w_Mod_part : List Cond := Cond.code y_Mod_part b_Mod_part 10 rt_Mod_part :: cx_tb
abbrev b_Mod_slotsRoot : ByteArray := prog_9_method_9_code
def y_Mod_slotsRoot : MethodName := ⟨"GasLedgerModel", "slotsRoot", "(I)I"⟩
abbrev rt_Mod_slotsRoot : Option FieldType := (Option.some FieldType.int)
theorem cd_Mod_slotsRoot : Cond.code y_Mod_slotsRoot b_Mod_slotsRoot 3 rt_Mod_slotsRoot ∈ cx_tb := gx_tb (c := (Jvm.Cond.code ({ cls := "GasLedgerModel", name := "slotsRoot", desc := "(I)I" } : Jvm.MethodName) prog_9_method_9_code (3 : Nat) (Option.some Jvm.ClassFile.FieldType.int))) 751 (by decide +kernel) (by decide +kernel)
abbrev w_Mod_slotsRoot : List Cond := Cond.code y_Mod_slotsRoot b_Mod_slotsRoot 3 rt_Mod_slotsRoot :: cx_tb
abbrev b_Mod_valueOf : ByteArray := prog_9_method_10_code
def y_Mod_valueOf : MethodName := ⟨"GasLedgerModel", "valueOf", "(I)I"⟩
abbrev rt_Mod_valueOf : Option FieldType := (Option.some FieldType.int)
theorem cd_Mod_valueOf : Cond.code y_Mod_valueOf b_Mod_valueOf 4 rt_Mod_valueOf ∈ cx_tb := gx_tb (c := (Jvm.Cond.code ({ cls := "GasLedgerModel", name := "valueOf", desc := "(I)I" } : Jvm.MethodName) prog_9_method_10_code (4 : Nat) (Option.some Jvm.ClassFile.FieldType.int))) 743 (by decide +kernel) (by decide +kernel)
abbrev w_Mod_valueOf : List Cond := Cond.code y_Mod_valueOf b_Mod_valueOf 4 rt_Mod_valueOf :: cx_tb
abbrev b_Mod_empty : ByteArray := prog_9_method_11_code
def y_Mod_empty : MethodName := ⟨"GasLedgerModel", "empty", "(I)Z"⟩
abbrev rt_Mod_empty : Option FieldType := (Option.some FieldType.boolean)
theorem cd_Mod_empty : Cond.code y_Mod_empty b_Mod_empty 4 rt_Mod_empty ∈ cx_tb := gx_tb (c := (Jvm.Cond.code ({ cls := "GasLedgerModel", name := "empty", desc := "(I)Z" } : Jvm.MethodName) prog_9_method_11_code (4 : Nat) (Option.some Jvm.ClassFile.FieldType.boolean))) 763 (by decide +kernel) (by decide +kernel)
abbrev w_Mod_empty : List Cond := Cond.code y_Mod_empty b_Mod_empty 4 rt_Mod_empty :: cx_tb
abbrev b_Mod_root : ByteArray := prog_9_method_12_code
def y_Mod_root : MethodName := ⟨"GasLedgerModel", "root", "()I"⟩
abbrev rt_Mod_root : Option FieldType := (Option.some FieldType.int)
theorem cd_Mod_root : Cond.code y_Mod_root b_Mod_root 2 rt_Mod_root ∈ cx_tb := gx_tb (c := (Jvm.Cond.code ({ cls := "GasLedgerModel", name := "root", desc := "()I" } : Jvm.MethodName) prog_9_method_12_code (2 : Nat) (Option.some Jvm.ClassFile.FieldType.int))) 739 (by decide +kernel) (by decide +kernel)
abbrev w_Mod_root : List Cond := Cond.code y_Mod_root b_Mod_root 2 rt_Mod_root :: cx_tb
abbrev b_Mod_enter : ByteArray := prog_9_method_13_code
def y_Mod_enter : MethodName := ⟨"GasLedgerModel", "enter", "(IIIIII)V"⟩
abbrev rt_Mod_enter : Option FieldType := (Option.none : Option FieldType)
theorem cd_Mod_enter : Cond.code y_Mod_enter b_Mod_enter 8 rt_Mod_enter ∈ cx_tb := gx_tb (c := (Jvm.Cond.code ({ cls := "GasLedgerModel", name := "enter", desc := "(IIIIII)V" } : Jvm.MethodName) prog_9_method_13_code (8 : Nat) (Option.none : Option Jvm.ClassFile.FieldType))) 779 (by decide +kernel) (by decide +kernel)
abbrev w_Mod_enter : List Cond := Cond.code y_Mod_enter b_Mod_enter 8 rt_Mod_enter :: cx_tb
abbrev b_Mod_give : ByteArray := prog_9_method_14_code
def y_Mod_give : MethodName := ⟨"GasLedgerModel", "give", "(III)V"⟩
abbrev rt_Mod_give : Option FieldType := (Option.none : Option FieldType)
theorem cd_Mod_give : Cond.code y_Mod_give b_Mod_give 4 rt_Mod_give ∈ cx_tb := gx_tb (c := (Jvm.Cond.code ({ cls := "GasLedgerModel", name := "give", desc := "(III)V" } : Jvm.MethodName) prog_9_method_14_code (4 : Nat) (Option.none : Option Jvm.ClassFile.FieldType))) 783 (by decide +kernel) (by decide +kernel)
abbrev w_Mod_give : List Cond := Cond.code y_Mod_give b_Mod_give 4 rt_Mod_give :: cx_tb
abbrev b_Mod_push : ByteArray := prog_9_method_15_code
def y_Mod_push : MethodName := ⟨"GasLedgerModel", "push", "(I)V"⟩
abbrev rt_Mod_push : Option FieldType := (Option.none : Option FieldType)
theorem cd_Mod_push : Cond.code y_Mod_push b_Mod_push 2 rt_Mod_push ∈ cx_tb := gx_tb (c := (Jvm.Cond.code ({ cls := "GasLedgerModel", name := "push", desc := "(I)V" } : Jvm.MethodName) prog_9_method_15_code (2 : Nat) (Option.none : Option Jvm.ClassFile.FieldType))) 796 (by decide +kernel) (by decide +kernel)
abbrev w_Mod_push : List Cond := Cond.code y_Mod_push b_Mod_push 2 rt_Mod_push :: cx_tb
abbrev b_Mod_pop : ByteArray := prog_9_method_16_code
def y_Mod_pop : MethodName := ⟨"GasLedgerModel", "pop", "()I"⟩
abbrev rt_Mod_pop : Option FieldType := (Option.some FieldType.int)
theorem cd_Mod_pop : Cond.code y_Mod_pop b_Mod_pop 1 rt_Mod_pop ∈ cx_tb := gx_tb (c := (Jvm.Cond.code ({ cls := "GasLedgerModel", name := "pop", desc := "()I" } : Jvm.MethodName) prog_9_method_16_code (1 : Nat) (Option.some Jvm.ClassFile.FieldType.int))) 822 (by decide +kernel) (by decide +kernel)
abbrev w_Mod_pop : List Cond := Cond.code y_Mod_pop b_Mod_pop 1 rt_Mod_pop :: cx_tb
abbrev b_Mod_peek : ByteArray := prog_9_method_17_code
def y_Mod_peek : MethodName := ⟨"GasLedgerModel", "peek", "(I)I"⟩
abbrev rt_Mod_peek : Option FieldType := (Option.some FieldType.int)
theorem cd_Mod_peek : Cond.code y_Mod_peek b_Mod_peek 2 rt_Mod_peek ∈ cx_tb := gx_tb (c := (Jvm.Cond.code ({ cls := "GasLedgerModel", name := "peek", desc := "(I)I" } : Jvm.MethodName) prog_9_method_17_code (2 : Nat) (Option.some Jvm.ClassFile.FieldType.int))) 810 (by decide +kernel) (by decide +kernel)
abbrev w_Mod_peek : List Cond := Cond.code y_Mod_peek b_Mod_peek 2 rt_Mod_peek :: cx_tb
abbrev b_Mod_leave : ByteArray := prog_9_method_18_code
def y_Mod_leave : MethodName := ⟨"GasLedgerModel", "leave", "(ZII)V"⟩
abbrev rt_Mod_leave : Option FieldType := (Option.none : Option FieldType)
theorem cd_Mod_leave : Cond.code y_Mod_leave b_Mod_leave 5 rt_Mod_leave ∈ cx_tb := gx_tb (c := (Jvm.Cond.code ({ cls := "GasLedgerModel", name := "leave", desc := "(ZII)V" } : Jvm.MethodName) prog_9_method_18_code (5 : Nat) (Option.none : Option Jvm.ClassFile.FieldType))) 792 (by decide +kernel) (by decide +kernel)
abbrev w_Mod_leave : List Cond := Cond.code y_Mod_leave b_Mod_leave 5 rt_Mod_leave :: cx_tb
abbrev b_Mod_pops : ByteArray := prog_9_method_19_code
def y_Mod_pops : MethodName := ⟨"GasLedgerModel", "pops", "(I)I"⟩
abbrev rt_Mod_pops : Option FieldType := (Option.some FieldType.int)
theorem cd_Mod_pops : Cond.code y_Mod_pops b_Mod_pops 1 rt_Mod_pops ∈ cx_tb := gx_tb (c := (Jvm.Cond.code ({ cls := "GasLedgerModel", name := "pops", desc := "(I)I" } : Jvm.MethodName) prog_9_method_19_code (1 : Nat) (Option.some Jvm.ClassFile.FieldType.int))) 799 (by decide +kernel) (by decide +kernel)
abbrev w_Mod_pops : List Cond := Cond.code y_Mod_pops b_Mod_pops 1 rt_Mod_pops :: cx_tb
abbrev b_Mod_pushes : ByteArray := prog_9_method_20_code
def y_Mod_pushes : MethodName := ⟨"GasLedgerModel", "pushes", "(I)I"⟩
abbrev rt_Mod_pushes : Option FieldType := (Option.some FieldType.int)
theorem cd_Mod_pushes : Cond.code y_Mod_pushes b_Mod_pushes 1 rt_Mod_pushes ∈ cx_tb := gx_tb (c := (Jvm.Cond.code ({ cls := "GasLedgerModel", name := "pushes", desc := "(I)I" } : Jvm.MethodName) prog_9_method_20_code (1 : Nat) (Option.some Jvm.ClassFile.FieldType.int))) 802 (by decide +kernel) (by decide +kernel)
abbrev w_Mod_pushes : List Cond := Cond.code y_Mod_pushes b_Mod_pushes 1 rt_Mod_pushes :: cx_tb
abbrev b_Mod_cost : ByteArray := prog_9_method_21_code
def y_Mod_cost : MethodName := ⟨"GasLedgerModel", "cost", "(I)I"⟩
abbrev rt_Mod_cost : Option FieldType := (Option.some FieldType.int)
theorem cd_Mod_cost : Cond.code y_Mod_cost b_Mod_cost 3 rt_Mod_cost ∈ cx_tb := gx_tb (c := (Jvm.Cond.code ({ cls := "GasLedgerModel", name := "cost", desc := "(I)I" } : Jvm.MethodName) prog_9_method_21_code (3 : Nat) (Option.some Jvm.ClassFile.FieldType.int))) 806 (by decide +kernel) (by decide +kernel)
abbrev w_Mod_cost : List Cond := Cond.code y_Mod_cost b_Mod_cost 3 rt_Mod_cost :: cx_tb
abbrev b_Mod_fails : ByteArray := prog_9_method_22_code
def y_Mod_fails : MethodName := ⟨"GasLedgerModel", "fails", "(II)Z"⟩
abbrev rt_Mod_fails : Option FieldType := (Option.some FieldType.boolean)
theorem cd_Mod_fails : Cond.code y_Mod_fails b_Mod_fails 6 rt_Mod_fails ∈ cx_tb := gx_tb (c := (Jvm.Cond.code ({ cls := "GasLedgerModel", name := "fails", desc := "(II)Z" } : Jvm.MethodName) prog_9_method_22_code (6 : Nat) (Option.some Jvm.ClassFile.FieldType.boolean))) 814 (by decide +kernel) (by decide +kernel)
abbrev w_Mod_fails : List Cond := Cond.code y_Mod_fails b_Mod_fails 6 rt_Mod_fails :: cx_tb
abbrev b_Mod_step : ByteArray := prog_9_method_23_code
def y_Mod_step : MethodName := ⟨"GasLedgerModel", "step", "()V"⟩
abbrev rt_Mod_step : Option FieldType := (Option.none : Option FieldType)
theorem cd_Mod_step : Cond.code y_Mod_step b_Mod_step 7 rt_Mod_step ∈ cx_tb := gx_tb (c := (Jvm.Cond.code ({ cls := "GasLedgerModel", name := "step", desc := "()V" } : Jvm.MethodName) prog_9_method_23_code (7 : Nat) (Option.none : Option Jvm.ClassFile.FieldType))) 788 (by decide +kernel) (by decide +kernel)
abbrev w_Mod_step : List Cond := Cond.code y_Mod_step b_Mod_step 7 rt_Mod_step :: cx_tb
abbrev b_Mod_shuffle : ByteArray := prog_9_method_24_code
def y_Mod_shuffle : MethodName := ⟨"GasLedgerModel", "shuffle", "(II)V"⟩
abbrev rt_Mod_shuffle : Option FieldType := (Option.none : Option FieldType)
theorem cd_Mod_shuffle : Cond.code y_Mod_shuffle b_Mod_shuffle 5 rt_Mod_shuffle ∈ cx_tb := gx_tb (c := (Jvm.Cond.code ({ cls := "GasLedgerModel", name := "shuffle", desc := "(II)V" } : Jvm.MethodName) prog_9_method_24_code (5 : Nat) (Option.none : Option Jvm.ClassFile.FieldType))) 818 (by decide +kernel) (by decide +kernel)
abbrev w_Mod_shuffle : List Cond := Cond.code y_Mod_shuffle b_Mod_shuffle 5 rt_Mod_shuffle :: cx_tb
abbrev b_Mod_reckon : ByteArray := prog_9_method_25_code
def y_Mod_reckon : MethodName := ⟨"GasLedgerModel", "reckon", "(I)V"⟩
abbrev rt_Mod_reckon : Option FieldType := (Option.none : Option FieldType)
theorem cd_Mod_reckon : Cond.code y_Mod_reckon b_Mod_reckon 4 rt_Mod_reckon ∈ cx_tb := gx_tb (c := (Jvm.Cond.code ({ cls := "GasLedgerModel", name := "reckon", desc := "(I)V" } : Jvm.MethodName) prog_9_method_25_code (4 : Nat) (Option.none : Option Jvm.ClassFile.FieldType))) 826 (by decide +kernel) (by decide +kernel)
abbrev w_Mod_reckon : List Cond := Cond.code y_Mod_reckon b_Mod_reckon 4 rt_Mod_reckon :: cx_tb
abbrev b_Mod_hold : ByteArray := prog_9_method_26_code
def y_Mod_hold : MethodName := ⟨"GasLedgerModel", "hold", "(I)V"⟩
abbrev rt_Mod_hold : Option FieldType := (Option.none : Option FieldType)
theorem cd_Mod_hold : Cond.code y_Mod_hold b_Mod_hold 6 rt_Mod_hold ∈ cx_tb := gx_tb (c := (Jvm.Cond.code ({ cls := "GasLedgerModel", name := "hold", desc := "(I)V" } : Jvm.MethodName) prog_9_method_26_code (6 : Nat) (Option.none : Option Jvm.ClassFile.FieldType))) 830 (by decide +kernel) (by decide +kernel)
abbrev w_Mod_hold : List Cond := Cond.code y_Mod_hold b_Mod_hold 6 rt_Mod_hold :: cx_tb
abbrev b_Mod_act : ByteArray := prog_9_method_27_code
def y_Mod_act : MethodName := ⟨"GasLedgerModel", "act", "(I)V"⟩
abbrev rt_Mod_act : Option FieldType := (Option.none : Option FieldType)
theorem cd_Mod_act : Cond.code y_Mod_act b_Mod_act 4 rt_Mod_act ∈ cx_tb := gx_tb (c := (Jvm.Cond.code ({ cls := "GasLedgerModel", name := "act", desc := "(I)V" } : Jvm.MethodName) prog_9_method_27_code (4 : Nat) (Option.none : Option Jvm.ClassFile.FieldType))) 834 (by decide +kernel) (by decide +kernel)
abbrev w_Mod_act : List Cond := Cond.code y_Mod_act b_Mod_act 4 rt_Mod_act :: cx_tb
abbrev b_Mod_call : ByteArray := prog_9_method_28_code
def y_Mod_call : MethodName := ⟨"GasLedgerModel", "call", "(Z)V"⟩
abbrev rt_Mod_call : Option FieldType := (Option.none : Option FieldType)
theorem cd_Mod_call : Cond.code y_Mod_call b_Mod_call 8 rt_Mod_call ∈ cx_tb := gx_tb (c := (Jvm.Cond.code ({ cls := "GasLedgerModel", name := "call", desc := "(Z)V" } : Jvm.MethodName) prog_9_method_28_code (8 : Nat) (Option.none : Option Jvm.ClassFile.FieldType))) 838 (by decide +kernel) (by decide +kernel)
abbrev w_Mod_call : List Cond := Cond.code y_Mod_call b_Mod_call 8 rt_Mod_call :: cx_tb
abbrev b_Mod_create : ByteArray := prog_9_method_29_code
def y_Mod_create : MethodName := ⟨"GasLedgerModel", "create", "()V"⟩
abbrev rt_Mod_create : Option FieldType := (Option.none : Option FieldType)
theorem cd_Mod_create : Cond.code y_Mod_create b_Mod_create 7 rt_Mod_create ∈ cx_tb := gx_tb (c := (Jvm.Cond.code ({ cls := "GasLedgerModel", name := "create", desc := "()V" } : Jvm.MethodName) prog_9_method_29_code (7 : Nat) (Option.none : Option Jvm.ClassFile.FieldType))) 842 (by decide +kernel) (by decide +kernel)
abbrev w_Mod_create : List Cond := Cond.code y_Mod_create b_Mod_create 7 rt_Mod_create :: cx_tb
abbrev b_Mod_terms : ByteArray := prog_9_method_30_code
def y_Mod_terms : MethodName := ⟨"GasLedgerModel", "terms", "(III)V"⟩
abbrev rt_Mod_terms : Option FieldType := (Option.none : Option FieldType)
theorem cd_Mod_terms : Cond.code y_Mod_terms b_Mod_terms 4 rt_Mod_terms ∈ cx_tb := gx_tb (c := (Jvm.Cond.code ({ cls := "GasLedgerModel", name := "terms", desc := "(III)V" } : Jvm.MethodName) prog_9_method_30_code (4 : Nat) (Option.none : Option Jvm.ClassFile.FieldType))) 767 (by decide +kernel) (by decide +kernel)
abbrev w_Mod_terms : List Cond := Cond.code y_Mod_terms b_Mod_terms 4 rt_Mod_terms :: cx_tb
abbrev b_Mod_send : ByteArray := prog_9_method_31_code
def y_Mod_send : MethodName := ⟨"GasLedgerModel", "send", "(IIII)I"⟩
abbrev rt_Mod_send : Option FieldType := (Option.some FieldType.int)
theorem cd_Mod_send : Cond.code y_Mod_send b_Mod_send 5 rt_Mod_send ∈ cx_tb := gx_tb (c := (Jvm.Cond.code ({ cls := "GasLedgerModel", name := "send", desc := "(IIII)I" } : Jvm.MethodName) prog_9_method_31_code (5 : Nat) (Option.some Jvm.ClassFile.FieldType.int))) 771 (by decide +kernel) (by decide +kernel)
abbrev w_Mod_send : List Cond := Cond.code y_Mod_send b_Mod_send 5 rt_Mod_send :: cx_tb
abbrev b_Mod_pay : ByteArray := prog_9_method_32_code
def y_Mod_pay : MethodName := ⟨"GasLedgerModel", "pay", "(IIII)I"⟩
abbrev rt_Mod_pay : Option FieldType := (Option.some FieldType.int)
theorem cd_Mod_pay : Cond.code y_Mod_pay b_Mod_pay 8 rt_Mod_pay ∈ cx_tb := gx_tb (c := (Jvm.Cond.code ({ cls := "GasLedgerModel", name := "pay", desc := "(IIII)I" } : Jvm.MethodName) prog_9_method_32_code (8 : Nat) (Option.some Jvm.ClassFile.FieldType.int))) 850 (by decide +kernel) (by decide +kernel)
abbrev w_Mod_pay : List Cond := Cond.code y_Mod_pay b_Mod_pay 8 rt_Mod_pay :: cx_tb
abbrev b_Mod_transact : ByteArray := prog_9_method_33_code
def y_Mod_transact : MethodName := ⟨"GasLedgerModel", "transact", "(IIIIIII)I"⟩
abbrev rt_Mod_transact : Option FieldType := (Option.some FieldType.int)
theorem cd_Mod_transact : Cond.code y_Mod_transact b_Mod_transact 11 rt_Mod_transact ∈ cx_tb := gx_tb (c := (Jvm.Cond.code ({ cls := "GasLedgerModel", name := "transact", desc := "(IIIIIII)I" } : Jvm.MethodName) prog_9_method_33_code (11 : Nat) (Option.some Jvm.ClassFile.FieldType.int))) 775 (by decide +kernel) (by decide +kernel)
abbrev w_Mod_transact : List Cond := Cond.code y_Mod_transact b_Mod_transact 11 rt_Mod_transact :: cx_tb
abbrev b_Mod_wipe : ByteArray := prog_9_method_34_code
def y_Mod_wipe : MethodName := ⟨"GasLedgerModel", "wipe", "(I)V"⟩
abbrev rt_Mod_wipe : Option FieldType := (Option.none : Option FieldType)
theorem cd_Mod_wipe : Cond.code y_Mod_wipe b_Mod_wipe 3 rt_Mod_wipe ∈ cx_tb := gx_tb (c := (Jvm.Cond.code ({ cls := "GasLedgerModel", name := "wipe", desc := "(I)V" } : Jvm.MethodName) prog_9_method_34_code (3 : Nat) (Option.none : Option Jvm.ClassFile.FieldType))) 846 (by decide +kernel) (by decide +kernel)
abbrev w_Mod_wipe : List Cond := Cond.code y_Mod_wipe b_Mod_wipe 3 rt_Mod_wipe :: cx_tb
abbrev b_Mod_begin : ByteArray := prog_9_method_35_code
def y_Mod_begin : MethodName := ⟨"GasLedgerModel", "begin", "(II)Z"⟩
abbrev rt_Mod_begin : Option FieldType := (Option.some FieldType.boolean)
theorem cd_Mod_begin : Cond.code y_Mod_begin b_Mod_begin 4 rt_Mod_begin ∈ cx_tb := gx_tb (c := (Jvm.Cond.code ({ cls := "GasLedgerModel", name := "begin", desc := "(II)Z" } : Jvm.MethodName) prog_9_method_35_code (4 : Nat) (Option.some Jvm.ClassFile.FieldType.boolean))) 855 (by decide +kernel) (by decide +kernel)
abbrev w_Mod_begin : List Cond := Cond.code y_Mod_begin b_Mod_begin 4 rt_Mod_begin :: cx_tb
abbrev b_Mod_seal : ByteArray := prog_9_method_36_code
def y_Mod_seal : MethodName := ⟨"GasLedgerModel", "seal", "(I)I"⟩
abbrev rt_Mod_seal : Option FieldType := (Option.some FieldType.int)
theorem cd_Mod_seal : Cond.code y_Mod_seal b_Mod_seal 3 rt_Mod_seal ∈ cx_tb := gx_tb (c := (Jvm.Cond.code ({ cls := "GasLedgerModel", name := "seal", desc := "(I)I" } : Jvm.MethodName) prog_9_method_36_code (3 : Nat) (Option.some Jvm.ClassFile.FieldType.int))) 859 (by decide +kernel) (by decide +kernel)
abbrev w_Mod_seal : List Cond := Cond.code y_Mod_seal b_Mod_seal 3 rt_Mod_seal :: cx_tb
abbrev b_Mod_look : ByteArray := prog_9_method_37_code
def y_Mod_look : MethodName := ⟨"GasLedgerModel", "look", "(II)I"⟩
abbrev rt_Mod_look : Option FieldType := (Option.some FieldType.int)
theorem cd_Mod_look : Cond.code y_Mod_look b_Mod_look 3 rt_Mod_look ∈ cx_tb := gx_tb (c := (Jvm.Cond.code ({ cls := "GasLedgerModel", name := "look", desc := "(II)I" } : Jvm.MethodName) prog_9_method_37_code (3 : Nat) (Option.some Jvm.ClassFile.FieldType.int))) 863 (by decide +kernel) (by decide +kernel)
abbrev w_Mod_look : List Cond := Cond.code y_Mod_look b_Mod_look 3 rt_Mod_look :: cx_tb
abbrev b_Mod_slot : ByteArray := prog_9_method_38_code
def y_Mod_slot : MethodName := ⟨"GasLedgerModel", "slot", "(II)I"⟩
abbrev rt_Mod_slot : Option FieldType := (Option.some FieldType.int)
theorem cd_Mod_slot : Cond.code y_Mod_slot b_Mod_slot 3 rt_Mod_slot ∈ cx_tb := gx_tb (c := (Jvm.Cond.code ({ cls := "GasLedgerModel", name := "slot", desc := "(II)I" } : Jvm.MethodName) prog_9_method_38_code (3 : Nat) (Option.some Jvm.ClassFile.FieldType.int))) 867 (by decide +kernel) (by decide +kernel)
abbrev w_Mod_slot : List Cond := Cond.code y_Mod_slot b_Mod_slot 3 rt_Mod_slot :: cx_tb
abbrev b_Mod_word : ByteArray := prog_9_method_39_code
def y_Mod_word : MethodName := ⟨"GasLedgerModel", "word", "(II)I"⟩
abbrev rt_Mod_word : Option FieldType := (Option.some FieldType.int)
theorem cd_Mod_word : Cond.code y_Mod_word b_Mod_word 3 rt_Mod_word ∈ cx_tb := gx_tb (c := (Jvm.Cond.code ({ cls := "GasLedgerModel", name := "word", desc := "(II)I" } : Jvm.MethodName) prog_9_method_39_code (3 : Nat) (Option.some Jvm.ClassFile.FieldType.int))) 871 (by decide +kernel) (by decide +kernel)
abbrev w_Mod_word : List Cond := Cond.code y_Mod_word b_Mod_word 3 rt_Mod_word :: cx_tb
abbrev b_Mod_bloom : ByteArray := prog_9_method_40_code
def y_Mod_bloom : MethodName := ⟨"GasLedgerModel", "bloom", "()I"⟩
abbrev rt_Mod_bloom : Option FieldType := (Option.some FieldType.int)
theorem cd_Mod_bloom : Cond.code y_Mod_bloom b_Mod_bloom 4 rt_Mod_bloom ∈ cx_tb := gx_tb (c := (Jvm.Cond.code ({ cls := "GasLedgerModel", name := "bloom", desc := "()I" } : Jvm.MethodName) prog_9_method_40_code (4 : Nat) (Option.some Jvm.ClassFile.FieldType.int))) 879 (by decide +kernel) (by decide +kernel)
abbrev w_Mod_bloom : List Cond := Cond.code y_Mod_bloom b_Mod_bloom 4 rt_Mod_bloom :: cx_tb
abbrev b_Mod_block : ByteArray := prog_9_method_41_code
def y_Mod_block : MethodName := ⟨"GasLedgerModel", "block", "(I)I"⟩
abbrev rt_Mod_block : Option FieldType := (Option.some FieldType.int)
theorem cd_Mod_block : Cond.code y_Mod_block b_Mod_block 2 rt_Mod_block ∈ cx_tb := gx_tb (c := (Jvm.Cond.code ({ cls := "GasLedgerModel", name := "block", desc := "(I)I" } : Jvm.MethodName) prog_9_method_41_code (2 : Nat) (Option.some Jvm.ClassFile.FieldType.int))) 875 (by decide +kernel) (by decide +kernel)
abbrev w_Mod_block : List Cond := Cond.code y_Mod_block b_Mod_block 2 rt_Mod_block :: cx_tb
abbrev b_Mod_receipt : ByteArray := prog_9_method_42_code
def y_Mod_receipt : MethodName := ⟨"GasLedgerModel", "receipt", "(II)I"⟩
abbrev rt_Mod_receipt : Option FieldType := (Option.some FieldType.int)
theorem cd_Mod_receipt : Cond.code y_Mod_receipt b_Mod_receipt 3 rt_Mod_receipt ∈ cx_tb := gx_tb (c := (Jvm.Cond.code ({ cls := "GasLedgerModel", name := "receipt", desc := "(II)I" } : Jvm.MethodName) prog_9_method_42_code (3 : Nat) (Option.some Jvm.ClassFile.FieldType.int))) 883 (by decide +kernel) (by decide +kernel)
abbrev w_Mod_receipt : List Cond := Cond.code y_Mod_receipt b_Mod_receipt 3 rt_Mod_receipt :: cx_tb
abbrev b_Mod_log : ByteArray := prog_9_method_43_code
def y_Mod_log : MethodName := ⟨"GasLedgerModel", "log", "(II)I"⟩
abbrev rt_Mod_log : Option FieldType := (Option.some FieldType.int)
theorem cd_Mod_log : Cond.code y_Mod_log b_Mod_log 3 rt_Mod_log ∈ cx_tb := gx_tb (c := (Jvm.Cond.code ({ cls := "GasLedgerModel", name := "log", desc := "(II)I" } : Jvm.MethodName) prog_9_method_43_code (3 : Nat) (Option.some Jvm.ClassFile.FieldType.int))) 887 (by decide +kernel) (by decide +kernel)
abbrev w_Mod_log : List Cond := Cond.code y_Mod_log b_Mod_log 3 rt_Mod_log :: cx_tb
abbrev b_Mod_total : ByteArray := prog_9_method_44_code
def y_Mod_total : MethodName := ⟨"GasLedgerModel", "total", "()J"⟩
abbrev rt_Mod_total : Option FieldType := (Option.some FieldType.long)
theorem cd_Mod_total : Cond.code y_Mod_total b_Mod_total 4 rt_Mod_total ∈ cx_tb := gx_tb (c := (Jvm.Cond.code ({ cls := "GasLedgerModel", name := "total", desc := "()J" } : Jvm.MethodName) prog_9_method_44_code (4 : Nat) (Option.some Jvm.ClassFile.FieldType.long))) 891 (by decide +kernel) (by decide +kernel)
abbrev w_Mod_total : List Cond := Cond.code y_Mod_total b_Mod_total 4 rt_Mod_total :: cx_tb
abbrev b_Acc_init : ByteArray := prog_2_method_1_code
def y_Acc_init : MethodName := ⟨"GasLedger$Accounts", "<init>", "()V"⟩
abbrev rt_Acc_init : Option FieldType := (Option.none : Option FieldType)
theorem cd_Acc_init : Cond.code y_Acc_init b_Acc_init 1 rt_Acc_init ∈ cx_tb := gx_tb (c := (Jvm.Cond.code ({ cls := "GasLedger$Accounts", name := "<init>", desc := "()V" } : Jvm.MethodName) prog_2_method_1_code (1 : Nat) (Option.none : Option Jvm.ClassFile.FieldType))) 72 (by decide +kernel) (by decide +kernel)
abbrev w_Acc_init : List Cond := Cond.code y_Acc_init b_Acc_init 1 rt_Acc_init :: cx_tb
abbrev b_Acc_copyFrom : ByteArray := prog_2_method_2_code
def y_Acc_copyFrom : MethodName := ⟨"GasLedger$Accounts", "copyFrom", "(LGasLedger$Accounts;)V"⟩
abbrev rt_Acc_copyFrom : Option FieldType := (Option.none : Option FieldType)
theorem cd_Acc_copyFrom : Cond.code y_Acc_copyFrom b_Acc_copyFrom 2 rt_Acc_copyFrom ∈ cx_tb := gx_tb (c := (Jvm.Cond.code ({ cls := "GasLedger$Accounts", name := "copyFrom", desc := "(LGasLedger$Accounts;)V" } : Jvm.MethodName) prog_2_method_2_code (2 : Nat) (Option.none : Option Jvm.ClassFile.FieldType))) 325 (by decide +kernel) (by decide +kernel)
abbrev w_Acc_copyFrom : List Cond := Cond.code y_Acc_copyFrom b_Acc_copyFrom 2 rt_Acc_copyFrom :: cx_tb
abbrev b_Acc_append : ByteArray := prog_2_method_3_code
def y_Acc_append : MethodName := ⟨"GasLedger$Accounts", "append", "(II)Z"⟩
abbrev rt_Acc_append : Option FieldType := (Option.some FieldType.boolean)
theorem cd_Acc_append : Cond.code y_Acc_append b_Acc_append 3 rt_Acc_append ∈ cx_tb := gx_tb (c := (Jvm.Cond.code ({ cls := "GasLedger$Accounts", name := "append", desc := "(II)Z" } : Jvm.MethodName) prog_2_method_3_code (3 : Nat) (Option.some Jvm.ClassFile.FieldType.boolean))) 306 (by decide +kernel) (by decide +kernel)
abbrev w_Acc_append : List Cond := Cond.code y_Acc_append b_Acc_append 3 rt_Acc_append :: cx_tb
abbrev b_Acc_wordOf : ByteArray := prog_2_method_4_code
def y_Acc_wordOf : MethodName := ⟨"GasLedger$Accounts", "wordOf", "(II)I"⟩
abbrev rt_Acc_wordOf : Option FieldType := (Option.some FieldType.int)
theorem cd_Acc_wordOf : Cond.code y_Acc_wordOf b_Acc_wordOf 3 rt_Acc_wordOf ∈ cx_tb := gx_tb (c := (Jvm.Cond.code ({ cls := "GasLedger$Accounts", name := "wordOf", desc := "(II)I" } : Jvm.MethodName) prog_2_method_4_code (3 : Nat) (Option.some Jvm.ClassFile.FieldType.int))) 366 (by decide +kernel) (by decide +kernel)
abbrev w_Acc_wordOf : List Cond := Cond.code y_Acc_wordOf b_Acc_wordOf 3 rt_Acc_wordOf :: cx_tb
abbrev b_Acc_slotOf : ByteArray := prog_2_method_5_code
def y_Acc_slotOf : MethodName := ⟨"GasLedger$Accounts", "slotOf", "(II)I"⟩
abbrev rt_Acc_slotOf : Option FieldType := (Option.some FieldType.int)
theorem cd_Acc_slotOf : Cond.code y_Acc_slotOf b_Acc_slotOf 3 rt_Acc_slotOf ∈ cx_tb := gx_tb (c := (Jvm.Cond.code ({ cls := "GasLedger$Accounts", name := "slotOf", desc := "(II)I" } : Jvm.MethodName) prog_2_method_5_code (3 : Nat) (Option.some Jvm.ClassFile.FieldType.int))) 381 (by decide +kernel) (by decide +kernel)
abbrev w_Acc_slotOf : List Cond := Cond.code y_Acc_slotOf b_Acc_slotOf 3 rt_Acc_slotOf :: cx_tb
abbrev b_Acc_balanceOf : ByteArray := prog_2_method_6_code
def y_Acc_balanceOf : MethodName := ⟨"GasLedger$Accounts", "balanceOf", "(I)I"⟩
abbrev rt_Acc_balanceOf : Option FieldType := (Option.some FieldType.int)
theorem cd_Acc_balanceOf : Cond.code y_Acc_balanceOf b_Acc_balanceOf 2 rt_Acc_balanceOf ∈ cx_tb := gx_tb (c := (Jvm.Cond.code ({ cls := "GasLedger$Accounts", name := "balanceOf", desc := "(I)I" } : Jvm.MethodName) prog_2_method_6_code (2 : Nat) (Option.some Jvm.ClassFile.FieldType.int))) 488 (by decide +kernel) (by decide +kernel)
abbrev w_Acc_balanceOf : List Cond := Cond.code y_Acc_balanceOf b_Acc_balanceOf 2 rt_Acc_balanceOf :: cx_tb
abbrev b_Acc_give : ByteArray := prog_2_method_7_code
def y_Acc_give : MethodName := ⟨"GasLedger$Accounts", "give", "(III)V"⟩
abbrev rt_Acc_give : Option FieldType := (Option.none : Option FieldType)
theorem cd_Acc_give : Cond.code y_Acc_give b_Acc_give 4 rt_Acc_give ∈ cx_tb := gx_tb (c := (Jvm.Cond.code ({ cls := "GasLedger$Accounts", name := "give", desc := "(III)V" } : Jvm.MethodName) prog_2_method_7_code (4 : Nat) (Option.none : Option Jvm.ClassFile.FieldType))) 357 (by decide +kernel) (by decide +kernel)
abbrev w_Acc_give : List Cond := Cond.code y_Acc_give b_Acc_give 4 rt_Acc_give :: cx_tb
abbrev b_Acc_clear : ByteArray := prog_2_method_8_code
def y_Acc_clear : MethodName := ⟨"GasLedger$Accounts", "clear", "(I)V"⟩
abbrev rt_Acc_clear : Option FieldType := (Option.none : Option FieldType)
theorem cd_Acc_clear : Cond.code y_Acc_clear b_Acc_clear 3 rt_Acc_clear ∈ cx_tb := gx_tb (c := (Jvm.Cond.code ({ cls := "GasLedger$Accounts", name := "clear", desc := "(I)V" } : Jvm.MethodName) prog_2_method_8_code (3 : Nat) (Option.none : Option Jvm.ClassFile.FieldType))) 509 (by decide +kernel) (by decide +kernel)
abbrev w_Acc_clear : List Cond := Cond.code y_Acc_clear b_Acc_clear 3 rt_Acc_clear :: cx_tb
abbrev b_Acc_isEmpty : ByteArray := prog_2_method_9_code
def y_Acc_isEmpty : MethodName := ⟨"GasLedger$Accounts", "isEmpty", "(I)Z"⟩
abbrev rt_Acc_isEmpty : Option FieldType := (Option.some FieldType.boolean)
theorem cd_Acc_isEmpty : Cond.code y_Acc_isEmpty b_Acc_isEmpty 2 rt_Acc_isEmpty ∈ cx_tb := gx_tb (c := (Jvm.Cond.code ({ cls := "GasLedger$Accounts", name := "isEmpty", desc := "(I)Z" } : Jvm.MethodName) prog_2_method_9_code (2 : Nat) (Option.some Jvm.ClassFile.FieldType.boolean))) 463 (by decide +kernel) (by decide +kernel)
abbrev w_Acc_isEmpty : List Cond := Cond.code y_Acc_isEmpty b_Acc_isEmpty 2 rt_Acc_isEmpty :: cx_tb
abbrev b_Acc_leastEmpty : ByteArray := prog_2_method_10_code
def y_Acc_leastEmpty : MethodName := ⟨"GasLedger$Accounts", "leastEmpty", "()I"⟩
abbrev rt_Acc_leastEmpty : Option FieldType := (Option.some FieldType.int)
theorem cd_Acc_leastEmpty : Cond.code y_Acc_leastEmpty b_Acc_leastEmpty 2 rt_Acc_leastEmpty ∈ cx_tb := gx_tb (c := (Jvm.Cond.code ({ cls := "GasLedger$Accounts", name := "leastEmpty", desc := "()I" } : Jvm.MethodName) prog_2_method_10_code (2 : Nat) (Option.some Jvm.ClassFile.FieldType.int))) 459 (by decide +kernel) (by decide +kernel)
abbrev w_Acc_leastEmpty : List Cond := Cond.code y_Acc_leastEmpty b_Acc_leastEmpty 2 rt_Acc_leastEmpty :: cx_tb
abbrev b_Acc_filledSlots : ByteArray := prog_2_method_11_code
def y_Acc_filledSlots : MethodName := ⟨"GasLedger$Accounts", "filledSlots", "(I)I"⟩
abbrev rt_Acc_filledSlots : Option FieldType := (Option.some FieldType.int)
theorem cd_Acc_filledSlots : Cond.code y_Acc_filledSlots b_Acc_filledSlots 4 rt_Acc_filledSlots ∈ cx_tb := gx_tb (c := (Jvm.Cond.code ({ cls := "GasLedger$Accounts", name := "filledSlots", desc := "(I)I" } : Jvm.MethodName) prog_2_method_11_code (4 : Nat) (Option.some Jvm.ClassFile.FieldType.int))) 467 (by decide +kernel) (by decide +kernel)
abbrev w_Acc_filledSlots : List Cond := Cond.code y_Acc_filledSlots b_Acc_filledSlots 4 rt_Acc_filledSlots :: cx_tb
abbrev b_Acc_slotsRoot : ByteArray := prog_2_method_12_code
def y_Acc_slotsRoot : MethodName := ⟨"GasLedger$Accounts", "slotsRoot", "(I)I"⟩
abbrev rt_Acc_slotsRoot : Option FieldType := (Option.some FieldType.int)
theorem cd_Acc_slotsRoot : Cond.code y_Acc_slotsRoot b_Acc_slotsRoot 2 rt_Acc_slotsRoot ∈ cx_tb := gx_tb (c := (Jvm.Cond.code ({ cls := "GasLedger$Accounts", name := "slotsRoot", desc := "(I)I" } : Jvm.MethodName) prog_2_method_12_code (2 : Nat) (Option.some Jvm.ClassFile.FieldType.int))) 534 (by decide +kernel) (by decide +kernel)
abbrev w_Acc_slotsRoot : List Cond := Cond.code y_Acc_slotsRoot b_Acc_slotsRoot 2 rt_Acc_slotsRoot :: cx_tb
abbrev b_Acc_codeNumber : ByteArray := prog_2_method_13_code
def y_Acc_codeNumber : MethodName := ⟨"GasLedger$Accounts", "codeNumber", "(I)I"⟩
abbrev rt_Acc_codeNumber : Option FieldType := (Option.some FieldType.int)
theorem cd_Acc_codeNumber : Cond.code y_Acc_codeNumber b_Acc_codeNumber 4 rt_Acc_codeNumber ∈ cx_tb := gx_tb (c := (Jvm.Cond.code ({ cls := "GasLedger$Accounts", name := "codeNumber", desc := "(I)I" } : Jvm.MethodName) prog_2_method_13_code (4 : Nat) (Option.some Jvm.ClassFile.FieldType.int))) 550 (by decide +kernel) (by decide +kernel)
abbrev w_Acc_codeNumber : List Cond := Cond.code y_Acc_codeNumber b_Acc_codeNumber 4 rt_Acc_codeNumber :: cx_tb
abbrev b_Acc_valueOf : ByteArray := prog_2_method_14_code
def y_Acc_valueOf : MethodName := ⟨"GasLedger$Accounts", "valueOf", "(I)I"⟩
abbrev rt_Acc_valueOf : Option FieldType := (Option.some FieldType.int)
theorem cd_Acc_valueOf : Cond.code y_Acc_valueOf b_Acc_valueOf 3 rt_Acc_valueOf ∈ cx_tb := gx_tb (c := (Jvm.Cond.code ({ cls := "GasLedger$Accounts", name := "valueOf", desc := "(I)I" } : Jvm.MethodName) prog_2_method_14_code (3 : Nat) (Option.some Jvm.ClassFile.FieldType.int))) 545 (by decide +kernel) (by decide +kernel)
abbrev w_Acc_valueOf : List Cond := Cond.code y_Acc_valueOf b_Acc_valueOf 3 rt_Acc_valueOf :: cx_tb
abbrev b_Acc_rootOfAll : ByteArray := prog_2_method_15_code
def y_Acc_rootOfAll : MethodName := ⟨"GasLedger$Accounts", "rootOfAll", "()I"⟩
abbrev rt_Acc_rootOfAll : Option FieldType := (Option.some FieldType.int)
theorem cd_Acc_rootOfAll : Cond.code y_Acc_rootOfAll b_Acc_rootOfAll 3 rt_Acc_rootOfAll ∈ cx_tb := gx_tb (c := (Jvm.Cond.code ({ cls := "GasLedger$Accounts", name := "rootOfAll", desc := "()I" } : Jvm.MethodName) prog_2_method_15_code (3 : Nat) (Option.some Jvm.ClassFile.FieldType.int))) 569 (by decide +kernel) (by decide +kernel)
abbrev w_Acc_rootOfAll : List Cond := Cond.code y_Acc_rootOfAll b_Acc_rootOfAll 3 rt_Acc_rootOfAll :: cx_tb
abbrev b_Com_mix : ByteArray := prog_3_method_2_code
def y_Com_mix : MethodName := ⟨"GasLedger$Commitment", "mix", "(II)I"⟩
abbrev rt_Com_mix : Option FieldType := (Option.some FieldType.int)
theorem cd_Com_mix : Cond.code y_Com_mix b_Com_mix 3 rt_Com_mix ∈ cx_tb := gx_tb (c := (Jvm.Cond.code ({ cls := "GasLedger$Commitment", name := "mix", desc := "(II)I" } : Jvm.MethodName) prog_3_method_2_code (3 : Nat) (Option.some Jvm.ClassFile.FieldType.int))) 475 (by decide +kernel) (by decide +kernel)
abbrev w_Com_mix : List Cond := Cond.code y_Com_mix b_Com_mix 3 rt_Com_mix :: cx_tb
abbrev b_Com_rootOfMap : ByteArray := prog_3_method_3_code
def y_Com_rootOfMap : MethodName := ⟨"GasLedger$Commitment", "rootOfMap", "([IIII)I"⟩
abbrev rt_Com_rootOfMap : Option FieldType := (Option.some FieldType.int)
theorem cd_Com_rootOfMap : Cond.code y_Com_rootOfMap b_Com_rootOfMap 4 rt_Com_rootOfMap ∈ cx_tb := gx_tb (c := (Jvm.Cond.code ({ cls := "GasLedger$Commitment", name := "rootOfMap", desc := "([IIII)I" } : Jvm.MethodName) prog_3_method_3_code (4 : Nat) (Option.some Jvm.ClassFile.FieldType.int))) 537 (by decide +kernel) (by decide +kernel)
abbrev w_Com_rootOfMap : List Cond := Cond.code y_Com_rootOfMap b_Com_rootOfMap 4 rt_Com_rootOfMap :: cx_tb
abbrev b_Com_rootOfPart : ByteArray := prog_3_method_4_code
def y_Com_rootOfPart : MethodName := ⟨"GasLedger$Commitment", "rootOfPart", "([IIIII)I"⟩
abbrev rt_Com_rootOfPart : Option FieldType := (Option.some FieldType.int)
theorem cd_Com_rootOfPart : Cond.code y_Com_rootOfPart b_Com_rootOfPart 10 rt_Com_rootOfPart ∈ cx_tb := gx_tb (c := (Jvm.Cond.code ({ cls := "GasLedger$Commitment", name := "rootOfPart", desc := "([IIIII)I" } : Jvm.MethodName) prog_3_method_4_code (10 : Nat) (Option.some Jvm.ClassFile.FieldType.int))) 540 (by decide +kernel) (by decide +kernel)
abbrev w_Com_rootOfPart : List Cond := Cond.code y_Com_rootOfPart b_Com_rootOfPart 10 rt_Com_rootOfPart :: cx_tb
abbrev b_Frm_init : ByteArray := prog_4_method_1_code
def y_Frm_init : MethodName := ⟨"GasLedger$Frame", "<init>", "()V"⟩
abbrev rt_Frm_init : Option FieldType := (Option.none : Option FieldType)
theorem cd_Frm_init : Cond.code y_Frm_init b_Frm_init 1 rt_Frm_init ∈ cx_tb := gx_tb (c := (Jvm.Cond.code ({ cls := "GasLedger$Frame", name := "<init>", desc := "()V" } : Jvm.MethodName) prog_4_method_1_code (1 : Nat) (Option.none : Option Jvm.ClassFile.FieldType))) 130 (by decide +kernel) (by decide +kernel)
abbrev w_Frm_init : List Cond := Cond.code y_Frm_init b_Frm_init 1 rt_Frm_init :: cx_tb
abbrev b_Frm_start : ByteArray := prog_4_method_2_code
def y_Frm_start : MethodName := ⟨"GasLedger$Frame", "start", "(IIIIII)V"⟩
abbrev rt_Frm_start : Option FieldType := (Option.none : Option FieldType)
theorem cd_Frm_start : Cond.code y_Frm_start b_Frm_start 7 rt_Frm_start ∈ cx_tb := gx_tb (c := (Jvm.Cond.code ({ cls := "GasLedger$Frame", name := "start", desc := "(IIIIII)V" } : Jvm.MethodName) prog_4_method_2_code (7 : Nat) (Option.none : Option Jvm.ClassFile.FieldType))) 352 (by decide +kernel) (by decide +kernel)
abbrev w_Frm_start : List Cond := Cond.code y_Frm_start b_Frm_start 7 rt_Frm_start :: cx_tb
abbrev b_Frm_end : ByteArray := prog_4_method_3_code
def y_Frm_end : MethodName := ⟨"GasLedger$Frame", "end", "(ZI)V"⟩
abbrev rt_Frm_end : Option FieldType := (Option.none : Option FieldType)
theorem cd_Frm_end : Cond.code y_Frm_end b_Frm_end 3 rt_Frm_end ∈ cx_tb := gx_tb (c := (Jvm.Cond.code ({ cls := "GasLedger$Frame", name := "end", desc := "(ZI)V" } : Jvm.MethodName) prog_4_method_3_code (3 : Nat) (Option.none : Option Jvm.ClassFile.FieldType))) 404 (by decide +kernel) (by decide +kernel)
abbrev w_Frm_end : List Cond := Cond.code y_Frm_end b_Frm_end 3 rt_Frm_end :: cx_tb
abbrev b_Frm_fail : ByteArray := prog_4_method_4_code
def y_Frm_fail : MethodName := ⟨"GasLedger$Frame", "fail", "()V"⟩
abbrev rt_Frm_fail : Option FieldType := (Option.none : Option FieldType)
theorem cd_Frm_fail : Cond.code y_Frm_fail b_Frm_fail 1 rt_Frm_fail ∈ cx_tb := gx_tb (c := (Jvm.Cond.code ({ cls := "GasLedger$Frame", name := "fail", desc := "()V" } : Jvm.MethodName) prog_4_method_4_code (1 : Nat) (Option.none : Option Jvm.ClassFile.FieldType))) 400 (by decide +kernel) (by decide +kernel)
abbrev w_Frm_fail : List Cond := Cond.code y_Frm_fail b_Frm_fail 1 rt_Frm_fail :: cx_tb
abbrev b_Frm_below : ByteArray := prog_4_method_5_code
def y_Frm_below : MethodName := ⟨"GasLedger$Frame", "below", "(I)I"⟩
abbrev rt_Frm_below : Option FieldType := (Option.some FieldType.int)
theorem cd_Frm_below : Cond.code y_Frm_below b_Frm_below 3 rt_Frm_below ∈ cx_tb := gx_tb (c := (Jvm.Cond.code ({ cls := "GasLedger$Frame", name := "below", desc := "(I)I" } : Jvm.MethodName) prog_4_method_5_code (3 : Nat) (Option.some Jvm.ClassFile.FieldType.int))) 377 (by decide +kernel) (by decide +kernel)
abbrev w_Frm_below : List Cond := Cond.code y_Frm_below b_Frm_below 3 rt_Frm_below :: cx_tb
abbrev b_Frm_push : ByteArray := prog_4_method_6_code
def y_Frm_push : MethodName := ⟨"GasLedger$Frame", "push", "(I)V"⟩
abbrev rt_Frm_push : Option FieldType := (Option.none : Option FieldType)
theorem cd_Frm_push : Cond.code y_Frm_push b_Frm_push 2 rt_Frm_push ∈ cx_tb := gx_tb (c := (Jvm.Cond.code ({ cls := "GasLedger$Frame", name := "push", desc := "(I)V" } : Jvm.MethodName) prog_4_method_6_code (2 : Nat) (Option.none : Option Jvm.ClassFile.FieldType))) 443 (by decide +kernel) (by decide +kernel)
abbrev w_Frm_push : List Cond := Cond.code y_Frm_push b_Frm_push 2 rt_Frm_push :: cx_tb
abbrev b_Frm_pop : ByteArray := prog_4_method_7_code
def y_Frm_pop : MethodName := ⟨"GasLedger$Frame", "pop", "()I"⟩
abbrev rt_Frm_pop : Option FieldType := (Option.some FieldType.int)
theorem cd_Frm_pop : Cond.code y_Frm_pop b_Frm_pop 1 rt_Frm_pop ∈ cx_tb := gx_tb (c := (Jvm.Cond.code ({ cls := "GasLedger$Frame", name := "pop", desc := "()I" } : Jvm.MethodName) prog_4_method_7_code (1 : Nat) (Option.some Jvm.ClassFile.FieldType.int))) 409 (by decide +kernel) (by decide +kernel)
abbrev w_Frm_pop : List Cond := Cond.code y_Frm_pop b_Frm_pop 1 rt_Frm_pop :: cx_tb
abbrev b_Frm_swap : ByteArray := prog_4_method_8_code
def y_Frm_swap : MethodName := ⟨"GasLedger$Frame", "swap", "(I)V"⟩
abbrev rt_Frm_swap : Option FieldType := (Option.none : Option FieldType)
theorem cd_Frm_swap : Cond.code y_Frm_swap b_Frm_swap 4 rt_Frm_swap ∈ cx_tb := gx_tb (c := (Jvm.Cond.code ({ cls := "GasLedger$Frame", name := "swap", desc := "(I)V" } : Jvm.MethodName) prog_4_method_8_code (4 : Nat) (Option.none : Option Jvm.ClassFile.FieldType))) 413 (by decide +kernel) (by decide +kernel)
abbrev w_Frm_swap : List Cond := Cond.code y_Frm_swap b_Frm_swap 4 rt_Frm_swap :: cx_tb
abbrev b_Log_init : ByteArray := prog_5_method_1_code
def y_Log_init : MethodName := ⟨"GasLedger$Logs", "<init>", "()V"⟩
abbrev rt_Log_init : Option FieldType := (Option.none : Option FieldType)
theorem cd_Log_init : Cond.code y_Log_init b_Log_init 1 rt_Log_init ∈ cx_tb := gx_tb (c := (Jvm.Cond.code ({ cls := "GasLedger$Logs", name := "<init>", desc := "()V" } : Jvm.MethodName) prog_5_method_1_code (1 : Nat) (Option.none : Option Jvm.ClassFile.FieldType))) 106 (by decide +kernel) (by decide +kernel)
abbrev w_Log_init : List Cond := Cond.code y_Log_init b_Log_init 1 rt_Log_init :: cx_tb
abbrev b_Log_add : ByteArray := prog_5_method_2_code
def y_Log_add : MethodName := ⟨"GasLedger$Logs", "add", "(II)V"⟩
abbrev rt_Log_add : Option FieldType := (Option.none : Option FieldType)
theorem cd_Log_add : Cond.code y_Log_add b_Log_add 3 rt_Log_add ∈ cx_tb := gx_tb (c := (Jvm.Cond.code ({ cls := "GasLedger$Logs", name := "add", desc := "(II)V" } : Jvm.MethodName) prog_5_method_2_code (3 : Nat) (Option.none : Option Jvm.ClassFile.FieldType))) 472 (by decide +kernel) (by decide +kernel)
abbrev w_Log_add : List Cond := Cond.code y_Log_add b_Log_add 3 rt_Log_add :: cx_tb
abbrev b_Log_cutBackTo : ByteArray := prog_5_method_3_code
def y_Log_cutBackTo : MethodName := ⟨"GasLedger$Logs", "cutBackTo", "(II)V"⟩
abbrev rt_Log_cutBackTo : Option FieldType := (Option.none : Option FieldType)
theorem cd_Log_cutBackTo : Cond.code y_Log_cutBackTo b_Log_cutBackTo 3 rt_Log_cutBackTo ∈ cx_tb := gx_tb (c := (Jvm.Cond.code ({ cls := "GasLedger$Logs", name := "cutBackTo", desc := "(II)V" } : Jvm.MethodName) prog_5_method_3_code (3 : Nat) (Option.none : Option Jvm.ClassFile.FieldType))) 321 (by decide +kernel) (by decide +kernel)
abbrev w_Log_cutBackTo : List Cond := Cond.code y_Log_cutBackTo b_Log_cutBackTo 3 rt_Log_cutBackTo :: cx_tb
abbrev b_Log_partOf : ByteArray := prog_5_method_4_code
def y_Log_partOf : MethodName := ⟨"GasLedger$Logs", "partOf", "(II)I"⟩
abbrev rt_Log_partOf : Option FieldType := (Option.some FieldType.int)
theorem cd_Log_partOf : Cond.code y_Log_partOf b_Log_partOf 3 rt_Log_partOf ∈ cx_tb := gx_tb (c := (Jvm.Cond.code ({ cls := "GasLedger$Logs", name := "partOf", desc := "(II)I" } : Jvm.MethodName) prog_5_method_4_code (3 : Nat) (Option.some Jvm.ClassFile.FieldType.int))) 590 (by decide +kernel) (by decide +kernel)
abbrev w_Log_partOf : List Cond := Cond.code y_Log_partOf b_Log_partOf 3 rt_Log_partOf :: cx_tb
abbrev b_Mac_init : ByteArray := prog_6_method_1_code
def y_Mac_init : MethodName := ⟨"GasLedger$Machine", "<init>", "()V"⟩
abbrev rt_Mac_init : Option FieldType := (Option.none : Option FieldType)
theorem cd_Mac_init : Cond.code y_Mac_init b_Mac_init 2 rt_Mac_init ∈ cx_tb := gx_tb (c := (Jvm.Cond.code ({ cls := "GasLedger$Machine", name := "<init>", desc := "()V" } : Jvm.MethodName) prog_6_method_1_code (2 : Nat) (Option.none : Option Jvm.ClassFile.FieldType))) 66 (by decide +kernel) (by decide +kernel)
abbrev w_Mac_init : List Cond := Cond.code y_Mac_init b_Mac_init 2 rt_Mac_init :: cx_tb
abbrev b_Mac_run : ByteArray := prog_6_method_2_code
def y_Mac_run : MethodName := ⟨"GasLedger$Machine", "run", "(IIIII)LGasLedger$Frame;"⟩
abbrev rt_Mac_run : Option FieldType := (Option.some (FieldType.object "GasLedger$Frame"))
theorem cd_Mac_run : Cond.code y_Mac_run b_Mac_run 8 rt_Mac_run ∈ cx_tb := gx_tb (c := (Jvm.Cond.code ({ cls := "GasLedger$Machine", name := "run", desc := "(IIIII)LGasLedger$Frame;" } : Jvm.MethodName) prog_6_method_2_code (8 : Nat) (Option.some (Jvm.ClassFile.FieldType.object "GasLedger$Frame")))) 344 (by decide +kernel) (by decide +kernel)
abbrev w_Mac_run : List Cond := Cond.code y_Mac_run b_Mac_run 8 rt_Mac_run :: cx_tb
abbrev b_Mac_removeGoers : ByteArray := prog_6_method_3_code
def y_Mac_removeGoers : MethodName := ⟨"GasLedger$Machine", "removeGoers", "()V"⟩
abbrev rt_Mac_removeGoers : Option FieldType := (Option.none : Option FieldType)
theorem cd_Mac_removeGoers : Cond.code y_Mac_removeGoers b_Mac_removeGoers 2 rt_Mac_removeGoers ∈ cx_tb := gx_tb (c := (Jvm.Cond.code ({ cls := "GasLedger$Machine", name := "removeGoers", desc := "()V" } : Jvm.MethodName) prog_6_method_3_code (2 : Nat) (Option.none : Option Jvm.ClassFile.FieldType))) 505 (by decide +kernel) (by decide +kernel)
abbrev w_Mac_removeGoers : List Cond := Cond.code y_Mac_removeGoers b_Mac_removeGoers 2 rt_Mac_removeGoers :: cx_tb
abbrev b_Mac_enter : ByteArray := prog_6_method_4_code
def y_Mac_enter : MethodName := ⟨"GasLedger$Machine", "enter", "(IIIIII)V"⟩
abbrev rt_Mac_enter : Option FieldType := (Option.none : Option FieldType)
theorem cd_Mac_enter : Cond.code y_Mac_enter b_Mac_enter 8 rt_Mac_enter ∈ cx_tb := gx_tb (c := (Jvm.Cond.code ({ cls := "GasLedger$Machine", name := "enter", desc := "(IIIIII)V" } : Jvm.MethodName) prog_6_method_4_code (8 : Nat) (Option.none : Option Jvm.ClassFile.FieldType))) 348 (by decide +kernel) (by decide +kernel)
abbrev w_Mac_enter : List Cond := Cond.code y_Mac_enter b_Mac_enter 8 rt_Mac_enter :: cx_tb
abbrev b_Mac_undo : ByteArray := prog_6_method_5_code
def y_Mac_undo : MethodName := ⟨"GasLedger$Machine", "undo", "(LGasLedger$Frame;)V"⟩
abbrev rt_Mac_undo : Option FieldType := (Option.none : Option FieldType)
theorem cd_Mac_undo : Cond.code y_Mac_undo b_Mac_undo 2 rt_Mac_undo ∈ cx_tb := gx_tb (c := (Jvm.Cond.code ({ cls := "GasLedger$Machine", name := "undo", desc := "(LGasLedger$Frame;)V" } : Jvm.MethodName) prog_6_method_5_code (2 : Nat) (Option.none : Option Jvm.ClassFile.FieldType))) 499 (by decide +kernel) (by decide +kernel)
abbrev w_Mac_undo : List Cond := Cond.code y_Mac_undo b_Mac_undo 2 rt_Mac_undo :: cx_tb
abbrev b_Mac_leave : ByteArray := prog_6_method_6_code
def y_Mac_leave : MethodName := ⟨"GasLedger$Machine", "leave", "(LGasLedger$Frame;)V"⟩
abbrev rt_Mac_leave : Option FieldType := (Option.none : Option FieldType)
theorem cd_Mac_leave : Cond.code y_Mac_leave b_Mac_leave 3 rt_Mac_leave ∈ cx_tb := gx_tb (c := (Jvm.Cond.code ({ cls := "GasLedger$Machine", name := "leave", desc := "(LGasLedger$Frame;)V" } : Jvm.MethodName) prog_6_method_6_code (3 : Nat) (Option.none : Option Jvm.ClassFile.FieldType))) 495 (by decide +kernel) (by decide +kernel)
abbrev w_Mac_leave : List Cond := Cond.code y_Mac_leave b_Mac_leave 3 rt_Mac_leave :: cx_tb
abbrev b_Mac_step : ByteArray := prog_6_method_7_code
def y_Mac_step : MethodName := ⟨"GasLedger$Machine", "step", "(LGasLedger$Frame;)V"⟩
abbrev rt_Mac_step : Option FieldType := (Option.none : Option FieldType)
theorem cd_Mac_step : Cond.code y_Mac_step b_Mac_step 7 rt_Mac_step ∈ cx_tb := gx_tb (c := (Jvm.Cond.code ({ cls := "GasLedger$Machine", name := "step", desc := "(LGasLedger$Frame;)V" } : Jvm.MethodName) prog_6_method_7_code (7 : Nat) (Option.none : Option Jvm.ClassFile.FieldType))) 362 (by decide +kernel) (by decide +kernel)
abbrev w_Mac_step : List Cond := Cond.code y_Mac_step b_Mac_step 7 rt_Mac_step :: cx_tb
abbrev b_Mac_priceOf : ByteArray := prog_6_method_8_code
def y_Mac_priceOf : MethodName := ⟨"GasLedger$Machine", "priceOf", "(LGasLedger$Frame;I)I"⟩
abbrev rt_Mac_priceOf : Option FieldType := (Option.some FieldType.int)
theorem cd_Mac_priceOf : Cond.code y_Mac_priceOf b_Mac_priceOf 5 rt_Mac_priceOf ∈ cx_tb := gx_tb (c := (Jvm.Cond.code ({ cls := "GasLedger$Machine", name := "priceOf", desc := "(LGasLedger$Frame;I)I" } : Jvm.MethodName) prog_6_method_8_code (5 : Nat) (Option.some Jvm.ClassFile.FieldType.int))) 371 (by decide +kernel) (by decide +kernel)
abbrev w_Mac_priceOf : List Cond := Cond.code y_Mac_priceOf b_Mac_priceOf 5 rt_Mac_priceOf :: cx_tb
abbrev b_Mac_needsOf : ByteArray := prog_6_method_9_code
def y_Mac_needsOf : MethodName := ⟨"GasLedger$Machine", "needsOf", "(II)I"⟩
abbrev rt_Mac_needsOf : Option FieldType := (Option.some FieldType.int)
theorem cd_Mac_needsOf : Cond.code y_Mac_needsOf b_Mac_needsOf 2 rt_Mac_needsOf ∈ cx_tb := gx_tb (c := (Jvm.Cond.code ({ cls := "GasLedger$Machine", name := "needsOf", desc := "(II)I" } : Jvm.MethodName) prog_6_method_9_code (2 : Nat) (Option.some Jvm.ClassFile.FieldType.int))) 394 (by decide +kernel) (by decide +kernel)
abbrev w_Mac_needsOf : List Cond := Cond.code y_Mac_needsOf b_Mac_needsOf 2 rt_Mac_needsOf :: cx_tb
abbrev b_Mac_onlyPushes : ByteArray := prog_6_method_10_code
def y_Mac_onlyPushes : MethodName := ⟨"GasLedger$Machine", "onlyPushes", "(I)Z"⟩
abbrev rt_Mac_onlyPushes : Option FieldType := (Option.some FieldType.boolean)
theorem cd_Mac_onlyPushes : Cond.code y_Mac_onlyPushes b_Mac_onlyPushes 1 rt_Mac_onlyPushes ∈ cx_tb := gx_tb (c := (Jvm.Cond.code ({ cls := "GasLedger$Machine", name := "onlyPushes", desc := "(I)Z" } : Jvm.MethodName) prog_6_method_10_code (1 : Nat) (Option.some Jvm.ClassFile.FieldType.boolean))) 391 (by decide +kernel) (by decide +kernel)
abbrev w_Mac_onlyPushes : List Cond := Cond.code y_Mac_onlyPushes b_Mac_onlyPushes 1 rt_Mac_onlyPushes :: cx_tb
abbrev b_Mac_resultOf : ByteArray := prog_6_method_11_code
def y_Mac_resultOf : MethodName := ⟨"GasLedger$Machine", "resultOf", "(LGasLedger$Frame;II)I"⟩
abbrev rt_Mac_resultOf : Option FieldType := (Option.some FieldType.int)
theorem cd_Mac_resultOf : Cond.code y_Mac_resultOf b_Mac_resultOf 6 rt_Mac_resultOf ∈ cx_tb := gx_tb (c := (Jvm.Cond.code ({ cls := "GasLedger$Machine", name := "resultOf", desc := "(LGasLedger$Frame;II)I" } : Jvm.MethodName) prog_6_method_11_code (6 : Nat) (Option.some Jvm.ClassFile.FieldType.int))) 484 (by decide +kernel) (by decide +kernel)
abbrev w_Mac_resultOf : List Cond := Cond.code y_Mac_resultOf b_Mac_resultOf 6 rt_Mac_resultOf :: cx_tb
abbrev b_Mac_reckon : ByteArray := prog_6_method_12_code
def y_Mac_reckon : MethodName := ⟨"GasLedger$Machine", "reckon", "(III)I"⟩
abbrev rt_Mac_reckon : Option FieldType := (Option.some FieldType.int)
theorem cd_Mac_reckon : Cond.code y_Mac_reckon b_Mac_reckon 3 rt_Mac_reckon ∈ cx_tb := gx_tb (c := (Jvm.Cond.code ({ cls := "GasLedger$Machine", name := "reckon", desc := "(III)I" } : Jvm.MethodName) prog_6_method_12_code (3 : Nat) (Option.some Jvm.ClassFile.FieldType.int))) 491 (by decide +kernel) (by decide +kernel)
abbrev w_Mac_reckon : List Cond := Cond.code y_Mac_reckon b_Mac_reckon 3 rt_Mac_reckon :: cx_tb
abbrev b_Mac_jump : ByteArray := prog_6_method_13_code
def y_Mac_jump : MethodName := ⟨"GasLedger$Machine", "jump", "(LGasLedger$Frame;I)V"⟩
abbrev rt_Mac_jump : Option FieldType := (Option.none : Option FieldType)
theorem cd_Mac_jump : Cond.code y_Mac_jump b_Mac_jump 3 rt_Mac_jump ∈ cx_tb := gx_tb (c := (Jvm.Cond.code ({ cls := "GasLedger$Machine", name := "jump", desc := "(LGasLedger$Frame;I)V" } : Jvm.MethodName) prog_6_method_13_code (3 : Nat) (Option.none : Option Jvm.ClassFile.FieldType))) 417 (by decide +kernel) (by decide +kernel)
abbrev w_Mac_jump : List Cond := Cond.code y_Mac_jump b_Mac_jump 3 rt_Mac_jump :: cx_tb
abbrev b_Mac_jumpIf : ByteArray := prog_6_method_14_code
def y_Mac_jumpIf : MethodName := ⟨"GasLedger$Machine", "jumpIf", "(LGasLedger$Frame;)V"⟩
abbrev rt_Mac_jumpIf : Option FieldType := (Option.none : Option FieldType)
theorem cd_Mac_jumpIf : Cond.code y_Mac_jumpIf b_Mac_jumpIf 3 rt_Mac_jumpIf ∈ cx_tb := gx_tb (c := (Jvm.Cond.code ({ cls := "GasLedger$Machine", name := "jumpIf", desc := "(LGasLedger$Frame;)V" } : Jvm.MethodName) prog_6_method_14_code (3 : Nat) (Option.none : Option Jvm.ClassFile.FieldType))) 421 (by decide +kernel) (by decide +kernel)
abbrev w_Mac_jumpIf : List Cond := Cond.code y_Mac_jumpIf b_Mac_jumpIf 3 rt_Mac_jumpIf :: cx_tb
abbrev b_Mac_store : ByteArray := prog_6_method_15_code
def y_Mac_store : MethodName := ⟨"GasLedger$Machine", "store", "(LGasLedger$Frame;)V"⟩
abbrev rt_Mac_store : Option FieldType := (Option.none : Option FieldType)
theorem cd_Mac_store : Cond.code y_Mac_store b_Mac_store 5 rt_Mac_store ∈ cx_tb := gx_tb (c := (Jvm.Cond.code ({ cls := "GasLedger$Machine", name := "store", desc := "(LGasLedger$Frame;)V" } : Jvm.MethodName) prog_6_method_15_code (5 : Nat) (Option.none : Option Jvm.ClassFile.FieldType))) 425 (by decide +kernel) (by decide +kernel)
abbrev w_Mac_store : List Cond := Cond.code y_Mac_store b_Mac_store 5 rt_Mac_store :: cx_tb
abbrev b_Mac_callOther : ByteArray := prog_6_method_16_code
def y_Mac_callOther : MethodName := ⟨"GasLedger$Machine", "callOther", "(LGasLedger$Frame;)V"⟩
abbrev rt_Mac_callOther : Option FieldType := (Option.none : Option FieldType)
theorem cd_Mac_callOther : Cond.code y_Mac_callOther b_Mac_callOther 7 rt_Mac_callOther ∈ cx_tb := gx_tb (c := (Jvm.Cond.code ({ cls := "GasLedger$Machine", name := "callOther", desc := "(LGasLedger$Frame;)V" } : Jvm.MethodName) prog_6_method_16_code (7 : Nat) (Option.none : Option Jvm.ClassFile.FieldType))) 430 (by decide +kernel) (by decide +kernel)
abbrev w_Mac_callOther : List Cond := Cond.code y_Mac_callOther b_Mac_callOther 7 rt_Mac_callOther :: cx_tb
abbrev b_Mac_delegate : ByteArray := prog_6_method_17_code
def y_Mac_delegate : MethodName := ⟨"GasLedger$Machine", "delegate", "(LGasLedger$Frame;)V"⟩
abbrev rt_Mac_delegate : Option FieldType := (Option.none : Option FieldType)
theorem cd_Mac_delegate : Cond.code y_Mac_delegate b_Mac_delegate 5 rt_Mac_delegate ∈ cx_tb := gx_tb (c := (Jvm.Cond.code ({ cls := "GasLedger$Machine", name := "delegate", desc := "(LGasLedger$Frame;)V" } : Jvm.MethodName) prog_6_method_17_code (5 : Nat) (Option.none : Option Jvm.ClassFile.FieldType))) 451 (by decide +kernel) (by decide +kernel)
abbrev w_Mac_delegate : List Cond := Cond.code y_Mac_delegate b_Mac_delegate 5 rt_Mac_delegate :: cx_tb
abbrev b_Mac_canEnter : ByteArray := prog_6_method_18_code
def y_Mac_canEnter : MethodName := ⟨"GasLedger$Machine", "canEnter", "(I)Z"⟩
abbrev rt_Mac_canEnter : Option FieldType := (Option.some FieldType.boolean)
theorem cd_Mac_canEnter : Cond.code y_Mac_canEnter b_Mac_canEnter 2 rt_Mac_canEnter ∈ cx_tb := gx_tb (c := (Jvm.Cond.code ({ cls := "GasLedger$Machine", name := "canEnter", desc := "(I)Z" } : Jvm.MethodName) prog_6_method_18_code (2 : Nat) (Option.some Jvm.ClassFile.FieldType.boolean))) 434 (by decide +kernel) (by decide +kernel)
abbrev w_Mac_canEnter : List Cond := Cond.code y_Mac_canEnter b_Mac_canEnter 2 rt_Mac_canEnter :: cx_tb
abbrev b_Mac_pushNoFrame : ByteArray := prog_6_method_19_code
def y_Mac_pushNoFrame : MethodName := ⟨"GasLedger$Machine", "pushNoFrame", "(LGasLedger$Frame;)V"⟩
abbrev rt_Mac_pushNoFrame : Option FieldType := (Option.none : Option FieldType)
theorem cd_Mac_pushNoFrame : Cond.code y_Mac_pushNoFrame b_Mac_pushNoFrame 2 rt_Mac_pushNoFrame ∈ cx_tb := gx_tb (c := (Jvm.Cond.code ({ cls := "GasLedger$Machine", name := "pushNoFrame", desc := "(LGasLedger$Frame;)V" } : Jvm.MethodName) prog_6_method_19_code (2 : Nat) (Option.none : Option Jvm.ClassFile.FieldType))) 439 (by decide +kernel) (by decide +kernel)
abbrev w_Mac_pushNoFrame : List Cond := Cond.code y_Mac_pushNoFrame b_Mac_pushNoFrame 2 rt_Mac_pushNoFrame :: cx_tb
abbrev b_Mac_takeGas : ByteArray := prog_6_method_20_code
def y_Mac_takeGas : MethodName := ⟨"GasLedger$Machine", "takeGas", "(LGasLedger$Frame;I)I"⟩
abbrev rt_Mac_takeGas : Option FieldType := (Option.some FieldType.int)
theorem cd_Mac_takeGas : Cond.code y_Mac_takeGas b_Mac_takeGas 4 rt_Mac_takeGas ∈ cx_tb := gx_tb (c := (Jvm.Cond.code ({ cls := "GasLedger$Machine", name := "takeGas", desc := "(LGasLedger$Frame;I)I" } : Jvm.MethodName) prog_6_method_20_code (4 : Nat) (Option.some Jvm.ClassFile.FieldType.int))) 447 (by decide +kernel) (by decide +kernel)
abbrev w_Mac_takeGas : List Cond := Cond.code y_Mac_takeGas b_Mac_takeGas 4 rt_Mac_takeGas :: cx_tb
abbrev b_Mac_create : ByteArray := prog_6_method_21_code
def y_Mac_create : MethodName := ⟨"GasLedger$Machine", "create", "(LGasLedger$Frame;)V"⟩
abbrev rt_Mac_create : Option FieldType := (Option.none : Option FieldType)
theorem cd_Mac_create : Cond.code y_Mac_create b_Mac_create 8 rt_Mac_create ∈ cx_tb := gx_tb (c := (Jvm.Cond.code ({ cls := "GasLedger$Machine", name := "create", desc := "(LGasLedger$Frame;)V" } : Jvm.MethodName) prog_6_method_21_code (8 : Nat) (Option.none : Option Jvm.ClassFile.FieldType))) 455 (by decide +kernel) (by decide +kernel)
abbrev w_Mac_create : List Cond := Cond.code y_Mac_create b_Mac_create 8 rt_Mac_create :: cx_tb
abbrev b_Mac_endSelf : ByteArray := prog_6_method_22_code
def y_Mac_endSelf : MethodName := ⟨"GasLedger$Machine", "endSelf", "(LGasLedger$Frame;)V"⟩
abbrev rt_Mac_endSelf : Option FieldType := (Option.none : Option FieldType)
theorem cd_Mac_endSelf : Cond.code y_Mac_endSelf b_Mac_endSelf 3 rt_Mac_endSelf ∈ cx_tb := gx_tb (c := (Jvm.Cond.code ({ cls := "GasLedger$Machine", name := "endSelf", desc := "(LGasLedger$Frame;)V" } : Jvm.MethodName) prog_6_method_22_code (3 : Nat) (Option.none : Option Jvm.ClassFile.FieldType))) 480 (by decide +kernel) (by decide +kernel)
abbrev w_Mac_endSelf : List Cond := Cond.code y_Mac_endSelf b_Mac_endSelf 3 rt_Mac_endSelf :: cx_tb
abbrev b_Rec_init : ByteArray := prog_7_method_1_code
def y_Rec_init : MethodName := ⟨"GasLedger$Receipts", "<init>", "()V"⟩
abbrev rt_Rec_init : Option FieldType := (Option.none : Option FieldType)
theorem cd_Rec_init : Cond.code y_Rec_init b_Rec_init 1 rt_Rec_init ∈ cx_tb := gx_tb (c := (Jvm.Cond.code ({ cls := "GasLedger$Receipts", name := "<init>", desc := "()V" } : Jvm.MethodName) prog_7_method_1_code (1 : Nat) (Option.none : Option Jvm.ClassFile.FieldType))) 229 (by decide +kernel) (by decide +kernel)
abbrev w_Rec_init : List Cond := Cond.code y_Rec_init b_Rec_init 1 rt_Rec_init :: cx_tb
abbrev b_Rec_add : ByteArray := prog_7_method_2_code
def y_Rec_add : MethodName := ⟨"GasLedger$Receipts", "add", "(IIII)V"⟩
abbrev rt_Rec_add : Option FieldType := (Option.none : Option FieldType)
theorem cd_Rec_add : Cond.code y_Rec_add b_Rec_add 5 rt_Rec_add ∈ cx_tb := gx_tb (c := (Jvm.Cond.code ({ cls := "GasLedger$Receipts", name := "add", desc := "(IIII)V" } : Jvm.MethodName) prog_7_method_2_code (5 : Nat) (Option.none : Option Jvm.ClassFile.FieldType))) 513 (by decide +kernel) (by decide +kernel)
abbrev w_Rec_add : List Cond := Cond.code y_Rec_add b_Rec_add 5 rt_Rec_add :: cx_tb
abbrev b_Rec_partOf : ByteArray := prog_7_method_3_code
def y_Rec_partOf : MethodName := ⟨"GasLedger$Receipts", "partOf", "(II)I"⟩
abbrev rt_Rec_partOf : Option FieldType := (Option.some FieldType.int)
theorem cd_Rec_partOf : Cond.code y_Rec_partOf b_Rec_partOf 3 rt_Rec_partOf ∈ cx_tb := gx_tb (c := (Jvm.Cond.code ({ cls := "GasLedger$Receipts", name := "partOf", desc := "(II)I" } : Jvm.MethodName) prog_7_method_3_code (3 : Nat) (Option.some Jvm.ClassFile.FieldType.int))) 582 (by decide +kernel) (by decide +kernel)
abbrev w_Rec_partOf : List Cond := Cond.code y_Rec_partOf b_Rec_partOf 3 rt_Rec_partOf :: cx_tb
