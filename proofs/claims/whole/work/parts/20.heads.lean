/-! ===== written by program: methods, links ===== -/
theorem mr_0 : rr_m 0 = some (⟨"RainPurse", "<init>", "()V"⟩, prog_1_method_1_code, 2, none, 9, 1, false) := rfl
theorem nn_0 : decide ((⟨"RainPurse", "<init>", "()V"⟩ : MethodName).name = "<init>") = true := by decide +kernel
theorem mm_0 : rr_mm 0 = some (⟨"RainPurse", "<init>", "()V"⟩, prog_1_method_1_code, 2, none, 9, 1, false) := rr_mm_of mr_0
theorem mr_1 : rr_m 1 = some (⟨"RainPurse$State", "<init>", "()V"⟩, prog_8_method_1_code, 1, none, 6, 1, false) := rfl
theorem nn_1 : decide ((⟨"RainPurse$State", "<init>", "()V"⟩ : MethodName).name = "<init>") = true := by decide +kernel
theorem mm_1 : rr_mm 1 = some (⟨"RainPurse$State", "<init>", "()V"⟩, prog_8_method_1_code, 1, none, 6, 1, false) := rr_mm_of mr_1
theorem mr_2 : rr_m 2 = some (⟨"RainPurse$Row", "<init>", "(I)V"⟩, prog_5_method_1_code, 2, none, 3, 2, false) := rfl
theorem nn_2 : decide ((⟨"RainPurse$Row", "<init>", "(I)V"⟩ : MethodName).name = "<init>") = true := by decide +kernel
theorem mm_2 : rr_mm 2 = some (⟨"RainPurse$Row", "<init>", "(I)V"⟩, prog_5_method_1_code, 2, none, 3, 2, false) := rr_mm_of mr_2
theorem mr_3 : rr_m 3 = some (⟨"RainPurse$Text", "<init>", "()V"⟩, prog_9_method_1_code, 1, none, 7, 1, false) := rfl
theorem nn_3 : decide ((⟨"RainPurse$Text", "<init>", "()V"⟩ : MethodName).name = "<init>") = true := by decide +kernel
theorem mm_3 : rr_mm 3 = some (⟨"RainPurse$Text", "<init>", "()V"⟩, prog_9_method_1_code, 1, none, 7, 1, false) := rr_mm_of mr_3
theorem mr_4 : rr_m 4 = some (⟨"RainPurse$Voices", "<init>", "()V"⟩, prog_10_method_1_code, 1, none, 8, 1, false) := rfl
theorem nn_4 : decide ((⟨"RainPurse$Voices", "<init>", "()V"⟩ : MethodName).name = "<init>") = true := by decide +kernel
theorem mm_4 : rr_mm 4 = some (⟨"RainPurse$Voices", "<init>", "()V"⟩, prog_10_method_1_code, 1, none, 8, 1, false) := rr_mm_of mr_4
theorem mr_5 : rr_m 5 = some (⟨"RainPurse$Reader", "<init>", "()V"⟩, prog_4_method_1_code, 1, none, 2, 1, false) := rfl
theorem nn_5 : decide ((⟨"RainPurse$Reader", "<init>", "()V"⟩ : MethodName).name = "<init>") = true := by decide +kernel
theorem mm_5 : rr_mm 5 = some (⟨"RainPurse$Reader", "<init>", "()V"⟩, prog_4_method_1_code, 1, none, 2, 1, false) := rr_mm_of mr_5
theorem mr_6 : rr_m 6 = some (⟨"RainPurse$Settling", "<init>", "()V"⟩, prog_6_method_1_code, 1, none, 4, 1, false) := rfl
theorem nn_6 : decide ((⟨"RainPurse$Settling", "<init>", "()V"⟩ : MethodName).name = "<init>") = true := by decide +kernel
theorem mm_6 : rr_mm 6 = some (⟨"RainPurse$Settling", "<init>", "()V"⟩, prog_6_method_1_code, 1, none, 4, 1, false) := rr_mm_of mr_6
theorem mr_7 : rr_m 7 = some (⟨"RainPurse$Gauges", "<init>", "()V"⟩, prog_3_method_1_code, 1, none, 1, 1, false) := rfl
theorem nn_7 : decide ((⟨"RainPurse$Gauges", "<init>", "()V"⟩ : MethodName).name = "<init>") = true := by decide +kernel
theorem mm_7 : rr_mm 7 = some (⟨"RainPurse$Gauges", "<init>", "()V"⟩, prog_3_method_1_code, 1, none, 1, 1, false) := rr_mm_of mr_7
theorem mr_8 : rr_m 8 = some (⟨"RainPurse$Sheet", "<init>", "()V"⟩, prog_7_method_1_code, 1, none, 5, 1, false) := rfl
theorem nn_8 : decide ((⟨"RainPurse$Sheet", "<init>", "()V"⟩ : MethodName).name = "<init>") = true := by decide +kernel
theorem mm_8 : rr_mm 8 = some (⟨"RainPurse$Sheet", "<init>", "()V"⟩, prog_7_method_1_code, 1, none, 5, 1, false) := rr_mm_of mr_8
theorem mr_9 : rr_m 9 = some (⟨"RainPurse", "field", "(I)I"⟩, prog_1_method_2_code, 2, some .int, 9, 2, false) := rfl
theorem nn_9 : decide ((⟨"RainPurse", "field", "(I)I"⟩ : MethodName).name = "<init>") = false := by decide +kernel
theorem mm_9 : rr_mm 9 = some (⟨"RainPurse", "field", "(I)I"⟩, prog_1_method_2_code, 2, some .int, 9, 2, false) := rr_mm_of mr_9
theorem mr_10 : rr_m 10 = some (⟨"RainPurse", "within", "(III)Z"⟩, prog_1_method_49_code, 3, some .boolean, 9, 3, true) := rfl
theorem nn_10 : decide ((⟨"RainPurse", "within", "(III)Z"⟩ : MethodName).name = "<init>") = false := by decide +kernel
theorem mm_10 : rr_mm 10 = some (⟨"RainPurse", "within", "(III)Z"⟩, prog_1_method_49_code, 3, some .boolean, 9, 3, true) := rr_mm_of mr_10
theorem mr_11 : rr_m 11 = some (⟨"RainPurse", "error", "(I)I"⟩, prog_1_method_42_code, 2, some .int, 9, 2, false) := rfl
theorem nn_11 : decide ((⟨"RainPurse", "error", "(I)I"⟩ : MethodName).name = "<init>") = false := by decide +kernel
theorem mm_11 : rr_mm 11 = some (⟨"RainPurse", "error", "(I)I"⟩, prog_1_method_42_code, 2, some .int, 9, 2, false) := rr_mm_of mr_11
theorem mr_12 : rr_m 12 = some (⟨"RainPurse", "noteError", "(I)V"⟩, prog_1_method_44_code, 2, none, 9, 2, false) := rfl
theorem nn_12 : decide ((⟨"RainPurse", "noteError", "(I)V"⟩ : MethodName).name = "<init>") = false := by decide +kernel
theorem mm_12 : rr_mm 12 = some (⟨"RainPurse", "noteError", "(I)V"⟩, prog_1_method_44_code, 2, none, 9, 2, false) := rr_mm_of mr_12
theorem mr_13 : rr_m 13 = some (⟨"RainPurse$State", "newField", "(I)I"⟩, prog_8_method_4_code, 3, some .int, 6, 2, false) := rfl
theorem nn_13 : decide ((⟨"RainPurse$State", "newField", "(I)I"⟩ : MethodName).name = "<init>") = false := by decide +kernel
theorem mm_13 : rr_mm 13 = some (⟨"RainPurse$State", "newField", "(I)I"⟩, prog_8_method_4_code, 3, some .int, 6, 2, false) := rr_mm_of mr_13
theorem mr_14 : rr_m 14 = some (⟨"RainPurse", "fieldIs", "(II)I"⟩, prog_1_method_3_code, 3, some .int, 9, 3, false) := rfl
theorem nn_14 : decide ((⟨"RainPurse", "fieldIs", "(II)I"⟩ : MethodName).name = "<init>") = false := by decide +kernel
theorem mm_14 : rr_mm 14 = some (⟨"RainPurse", "fieldIs", "(II)I"⟩, prog_1_method_3_code, 3, some .int, 9, 3, false) := rr_mm_of mr_14
theorem mr_15 : rr_m 15 = some (⟨"RainPurse$State", "hasField", "(I)Z"⟩, prog_8_method_3_code, 2, some .boolean, 6, 2, false) := rfl
theorem nn_15 : decide ((⟨"RainPurse$State", "hasField", "(I)Z"⟩ : MethodName).name = "<init>") = false := by decide +kernel
theorem mm_15 : rr_mm 15 = some (⟨"RainPurse$State", "hasField", "(I)Z"⟩, prog_8_method_3_code, 2, some .boolean, 6, 2, false) := rr_mm_of mr_15
theorem mr_16 : rr_m 16 = some (⟨"RainPurse$State", "owesToday", "(II)I"⟩, prog_8_method_9_code, 3, some .int, 6, 3, false) := rfl
theorem nn_16 : decide ((⟨"RainPurse$State", "owesToday", "(II)I"⟩ : MethodName).name = "<init>") = false := by decide +kernel
theorem mm_16 : rr_mm 16 = some (⟨"RainPurse$State", "owesToday", "(II)I"⟩, prog_8_method_9_code, 3, some .int, 6, 3, false) := rr_mm_of mr_16
theorem mr_17 : rr_m 17 = some (⟨"RainPurse$State", "owes", "(IIII)I"⟩, prog_8_method_7_code, 9, some .int, 6, 5, false) := rfl
theorem nn_17 : decide ((⟨"RainPurse$State", "owes", "(IIII)I"⟩ : MethodName).name = "<init>") = false := by decide +kernel
theorem mm_17 : rr_mm 17 = some (⟨"RainPurse$State", "owes", "(IIII)I"⟩, prog_8_method_7_code, 9, some .int, 6, 5, false) := rr_mm_of mr_17
theorem mr_18 : rr_m 18 = some (⟨"RainPurse$Row", "has", "(I)Z"⟩, prog_5_method_3_code, 2, some .boolean, 3, 2, false) := rfl
theorem nn_18 : decide ((⟨"RainPurse$Row", "has", "(I)Z"⟩ : MethodName).name = "<init>") = false := by decide +kernel
theorem mm_18 : rr_mm 18 = some (⟨"RainPurse$Row", "has", "(I)Z"⟩, prog_5_method_3_code, 2, some .boolean, 3, 2, false) := rr_mm_of mr_18
theorem mr_19 : rr_m 19 = some (⟨"RainPurse$Row", "at", "(I)I"⟩, prog_5_method_4_code, 2, some .int, 3, 2, false) := rfl
theorem nn_19 : decide ((⟨"RainPurse$Row", "at", "(I)I"⟩ : MethodName).name = "<init>") = false := by decide +kernel
theorem mm_19 : rr_mm 19 = some (⟨"RainPurse$Row", "at", "(I)I"⟩, prog_5_method_4_code, 2, some .int, 3, 2, false) := rr_mm_of mr_19
theorem mr_20 : rr_m 20 = some (⟨"RainPurse$Text", "isTold", "()Z"⟩, prog_9_method_2_code, 1, some .boolean, 7, 1, false) := rfl
theorem nn_20 : decide ((⟨"RainPurse$Text", "isTold", "()Z"⟩ : MethodName).name = "<init>") = false := by decide +kernel
theorem mm_20 : rr_mm 20 = some (⟨"RainPurse$Text", "isTold", "()Z"⟩, prog_9_method_2_code, 1, some .boolean, 7, 1, false) := rr_mm_of mr_20
theorem mr_21 : rr_m 21 = some (⟨"RainPurse$Text", "workOut", "(IIII)I"⟩, prog_9_method_8_code, 10, some .int, 7, 5, false) := rfl
theorem nn_21 : decide ((⟨"RainPurse$Text", "workOut", "(IIII)I"⟩ : MethodName).name = "<init>") = false := by decide +kernel
theorem mm_21 : rr_mm 21 = some (⟨"RainPurse$Text", "workOut", "(IIII)I"⟩, prog_9_method_8_code, 10, some .int, 7, 5, false) := rr_mm_of mr_21
theorem mr_22 : rr_m 22 = some (⟨"RainPurse$Text", "joined", "(III)I"⟩, prog_9_method_9_code, 3, some .int, 7, 3, true) := rfl
theorem nn_22 : decide ((⟨"RainPurse$Text", "joined", "(III)I"⟩ : MethodName).name = "<init>") = false := by decide +kernel
theorem mm_22 : rr_mm 22 = some (⟨"RainPurse$Text", "joined", "(III)I"⟩, prog_9_method_9_code, 3, some .int, 7, 3, true) := rr_mm_of mr_22
theorem mr_23 : rr_m 23 = some (⟨"RainPurse", "held", "(II)I"⟩, prog_1_method_50_code, 2, some .int, 9, 2, true) := rfl
theorem nn_23 : decide ((⟨"RainPurse", "held", "(II)I"⟩ : MethodName).name = "<init>") = false := by decide +kernel
theorem mm_23 : rr_mm 23 = some (⟨"RainPurse", "held", "(II)I"⟩, prog_1_method_50_code, 2, some .int, 9, 2, true) := rr_mm_of mr_23
theorem mr_24 : rr_m 24 = some (⟨"RainPurse$State", "paysToday", "([I)V"⟩, prog_8_method_12_code, 2, none, 6, 2, false) := rfl
theorem nn_24 : decide ((⟨"RainPurse$State", "paysToday", "([I)V"⟩ : MethodName).name = "<init>") = false := by decide +kernel
theorem mm_24 : rr_mm 24 = some (⟨"RainPurse$State", "paysToday", "([I)V"⟩, prog_8_method_12_code, 2, none, 6, 2, false) := rr_mm_of mr_24
theorem mr_25 : rr_m 25 = some (⟨"RainPurse$State", "paysBy", "(I[I[I[I)V"⟩, prog_8_method_11_code, 7, none, 6, 5, false) := rfl
theorem nn_25 : decide ((⟨"RainPurse$State", "paysBy", "(I[I[I[I)V"⟩ : MethodName).name = "<init>") = false := by decide +kernel
theorem mm_25 : rr_mm 25 = some (⟨"RainPurse$State", "paysBy", "(I[I[I[I)V"⟩, prog_8_method_11_code, 7, none, 6, 5, false) := rr_mm_of mr_25
theorem mr_26 : rr_m 26 = some (⟨"RainPurse$State", "cropOf", "(I)I"⟩, prog_8_method_6_code, 2, some .int, 6, 2, false) := rfl
theorem nn_26 : decide ((⟨"RainPurse$State", "cropOf", "(I)I"⟩ : MethodName).name = "<init>") = false := by decide +kernel
theorem mm_26 : rr_mm 26 = some (⟨"RainPurse$State", "cropOf", "(I)I"⟩, prog_8_method_6_code, 2, some .int, 6, 2, false) := rr_mm_of mr_26
theorem mr_27 : rr_m 27 = some (⟨"RainPurse", "set", "(III)I"⟩, prog_1_method_4_code, 8, some .int, 9, 4, false) := rfl
theorem nn_27 : decide ((⟨"RainPurse", "set", "(III)I"⟩ : MethodName).name = "<init>") = false := by decide +kernel
theorem mm_27 : rr_mm 27 = some (⟨"RainPurse", "set", "(III)I"⟩, prog_1_method_4_code, 8, some .int, 9, 4, false) := rr_mm_of mr_27
theorem mr_28 : rr_m 28 = some (⟨"RainPurse", "law", "(I)I"⟩, prog_1_method_5_code, 2, some .int, 9, 2, false) := rfl
theorem nn_28 : decide ((⟨"RainPurse", "law", "(I)I"⟩ : MethodName).name = "<init>") = false := by decide +kernel
theorem mm_28 : rr_mm 28 = some (⟨"RainPurse", "law", "(I)I"⟩, prog_1_method_5_code, 2, some .int, 9, 2, false) := rr_mm_of mr_28
theorem mr_29 : rr_m 29 = some (⟨"RainPurse$Row", "add", "(I)Z"⟩, prog_5_method_5_code, 2, some .boolean, 3, 2, false) := rfl
theorem nn_29 : decide ((⟨"RainPurse$Row", "add", "(I)Z"⟩ : MethodName).name = "<init>") = false := by decide +kernel
theorem mm_29 : rr_mm 29 = some (⟨"RainPurse$Row", "add", "(I)Z"⟩, prog_5_method_5_code, 2, some .boolean, 3, 2, false) := rr_mm_of mr_29
theorem mr_30 : rr_m 30 = some (⟨"RainPurse$Row", "size", "()I"⟩, prog_5_method_2_code, 1, some .int, 3, 1, false) := rfl
theorem nn_30 : decide ((⟨"RainPurse$Row", "size", "()I"⟩ : MethodName).name = "<init>") = false := by decide +kernel
theorem mm_30 : rr_mm 30 = some (⟨"RainPurse$Row", "size", "()I"⟩, prog_5_method_2_code, 1, some .int, 3, 1, false) := rr_mm_of mr_30
theorem mr_31 : rr_m 31 = some (⟨"RainPurse", "lawIs", "(II)I"⟩, prog_1_method_6_code, 3, some .int, 9, 3, false) := rfl
theorem nn_31 : decide ((⟨"RainPurse", "lawIs", "(II)I"⟩ : MethodName).name = "<init>") = false := by decide +kernel
theorem mm_31 : rr_mm 31 = some (⟨"RainPurse", "lawIs", "(II)I"⟩, prog_1_method_6_code, 3, some .int, 9, 3, false) := rr_mm_of mr_31
theorem mr_32 : rr_m 32 = some (⟨"RainPurse$State", "allOwe", "(I)I"⟩, prog_8_method_10_code, 4, some .int, 6, 2, false) := rfl
theorem nn_32 : decide ((⟨"RainPurse$State", "allOwe", "(I)I"⟩ : MethodName).name = "<init>") = false := by decide +kernel
theorem mm_32 : rr_mm 32 = some (⟨"RainPurse$State", "allOwe", "(I)I"⟩, prog_8_method_10_code, 4, some .int, 6, 2, false) := rr_mm_of mr_32
theorem mr_33 : rr_m 33 = some (⟨"RainPurse", "as", "(II)I"⟩, prog_1_method_7_code, 4, some .int, 9, 3, false) := rfl
theorem nn_33 : decide ((⟨"RainPurse", "as", "(II)I"⟩ : MethodName).name = "<init>") = false := by decide +kernel
theorem mm_33 : rr_mm 33 = some (⟨"RainPurse", "as", "(II)I"⟩, prog_1_method_7_code, 4, some .int, 9, 3, false) := rr_mm_of mr_33
theorem mr_34 : rr_m 34 = some (⟨"RainPurse", "isUnder", "(II)Z"⟩, prog_1_method_51_code, 4, some .boolean, 9, 2, true) := rfl
theorem nn_34 : decide ((⟨"RainPurse", "isUnder", "(II)Z"⟩ : MethodName).name = "<init>") = false := by decide +kernel
theorem mm_34 : rr_mm 34 = some (⟨"RainPurse", "isUnder", "(II)Z"⟩, prog_1_method_51_code, 4, some .boolean, 9, 2, true) := rr_mm_of mr_34
theorem mr_35 : rr_m 35 = some (⟨"RainPurse", "become", "(II)I"⟩, prog_1_method_8_code, 4, some .int, 9, 3, false) := rfl
theorem nn_35 : decide ((⟨"RainPurse", "become", "(II)I"⟩ : MethodName).name = "<init>") = false := by decide +kernel
theorem mm_35 : rr_mm 35 = some (⟨"RainPurse", "become", "(II)I"⟩, prog_1_method_8_code, 4, some .int, 9, 3, false) := rr_mm_of mr_35
theorem mr_36 : rr_m 36 = some (⟨"RainPurse$Row", "change", "(II)V"⟩, prog_5_method_6_code, 3, none, 3, 3, false) := rfl
theorem nn_36 : decide ((⟨"RainPurse$Row", "change", "(II)V"⟩ : MethodName).name = "<init>") = false := by decide +kernel
theorem mm_36 : rr_mm 36 = some (⟨"RainPurse$Row", "change", "(II)V"⟩, prog_5_method_6_code, 3, none, 3, 3, false) := rr_mm_of mr_36
theorem mr_37 : rr_m 37 = some (⟨"RainPurse", "force", "(I)I"⟩, prog_1_method_9_code, 3, some .int, 9, 2, false) := rfl
theorem nn_37 : decide ((⟨"RainPurse", "force", "(I)I"⟩ : MethodName).name = "<init>") = false := by decide +kernel
theorem mm_37 : rr_mm 37 = some (⟨"RainPurse", "force", "(I)I"⟩, prog_1_method_9_code, 3, some .int, 9, 2, false) := rr_mm_of mr_37
theorem mr_38 : rr_m 38 = some (⟨"RainPurse", "feed", "(JI)I"⟩, prog_1_method_10_code, 5, some .int, 9, 3, false) := rfl
theorem nn_38 : decide ((⟨"RainPurse", "feed", "(JI)I"⟩ : MethodName).name = "<init>") = false := by decide +kernel
theorem mm_38 : rr_mm 38 = some (⟨"RainPurse", "feed", "(JI)I"⟩, prog_1_method_10_code, 5, some .int, 9, 3, false) := rr_mm_of mr_38
theorem mr_39 : rr_m 39 = some (⟨"RainPurse", "text", "(I)I"⟩, prog_1_method_11_code, 3, some .int, 9, 2, false) := rfl
theorem nn_39 : decide ((⟨"RainPurse", "text", "(I)I"⟩ : MethodName).name = "<init>") = false := by decide +kernel
theorem mm_39 : rr_mm 39 = some (⟨"RainPurse", "text", "(I)I"⟩, prog_1_method_11_code, 3, some .int, 9, 2, false) := rr_mm_of mr_39
theorem mr_40 : rr_m 40 = some (⟨"RainPurse$Reader", "faultOf", "(LRainPurse$Row;I)I"⟩, prog_4_method_2_code, 4, some .int, 2, 3, false) := rfl
theorem nn_40 : decide ((⟨"RainPurse$Reader", "faultOf", "(LRainPurse$Row;I)I"⟩ : MethodName).name = "<init>") = false := by decide +kernel
theorem mm_40 : rr_mm 40 = some (⟨"RainPurse$Reader", "faultOf", "(LRainPurse$Row;I)I"⟩, prog_4_method_2_code, 4, some .int, 2, 3, false) := rr_mm_of mr_40
theorem mr_41 : rr_m 41 = some (⟨"RainPurse$Row", "copyFrom", "(LRainPurse$Row;)V"⟩, prog_5_method_8_code, 2, none, 3, 2, false) := rfl
theorem nn_41 : decide ((⟨"RainPurse$Row", "copyFrom", "(LRainPurse$Row;)V"⟩ : MethodName).name = "<init>") = false := by decide +kernel
theorem mm_41 : rr_mm 41 = some (⟨"RainPurse$Row", "copyFrom", "(LRainPurse$Row;)V"⟩, prog_5_method_8_code, 2, none, 3, 2, false) := rr_mm_of mr_41
theorem mr_42 : rr_m 42 = some (⟨"RainPurse$Text", "clear", "()V"⟩, prog_9_method_3_code, 1, none, 7, 1, false) := rfl
theorem nn_42 : decide ((⟨"RainPurse$Text", "clear", "()V"⟩ : MethodName).name = "<init>") = false := by decide +kernel
theorem mm_42 : rr_mm 42 = some (⟨"RainPurse$Text", "clear", "()V"⟩, prog_9_method_3_code, 1, none, 7, 1, false) := rr_mm_of mr_42
theorem mr_43 : rr_m 43 = some (⟨"RainPurse$Reader", "readLevel", "(II)Z"⟩, prog_4_method_3_code, 6, some .boolean, 2, 3, false) := rfl
theorem nn_43 : decide ((⟨"RainPurse$Reader", "readLevel", "(II)Z"⟩ : MethodName).name = "<init>") = false := by decide +kernel
theorem mm_43 : rr_mm 43 = some (⟨"RainPurse$Reader", "readLevel", "(II)Z"⟩, prog_4_method_3_code, 6, some .boolean, 2, 3, false) := rr_mm_of mr_43
theorem mr_44 : rr_m 44 = some (⟨"RainPurse$Reader", "readLeaf", "(I)Z"⟩, prog_4_method_4_code, 3, some .boolean, 2, 2, false) := rfl
theorem nn_44 : decide ((⟨"RainPurse$Reader", "readLeaf", "(I)Z"⟩ : MethodName).name = "<init>") = false := by decide +kernel
theorem mm_44 : rr_mm 44 = some (⟨"RainPurse$Reader", "readLeaf", "(I)Z"⟩, prog_4_method_4_code, 3, some .boolean, 2, 2, false) := rr_mm_of mr_44
theorem mr_45 : rr_m 45 = some (⟨"RainPurse$Reader", "next", "()I"⟩, prog_4_method_8_code, 1, some .int, 2, 1, false) := rfl
theorem nn_45 : decide ((⟨"RainPurse$Reader", "next", "()I"⟩ : MethodName).name = "<init>") = false := by decide +kernel
theorem mm_45 : rr_mm 45 = some (⟨"RainPurse$Reader", "next", "()I"⟩, prog_4_method_8_code, 1, some .int, 2, 1, false) := rr_mm_of mr_45
theorem mr_46 : rr_m 46 = some (⟨"RainPurse$Reader", "isDigit", "(I)Z"⟩, prog_4_method_10_code, 1, some .boolean, 2, 1, true) := rfl
theorem nn_46 : decide ((⟨"RainPurse$Reader", "isDigit", "(I)Z"⟩ : MethodName).name = "<init>") = false := by decide +kernel
theorem mm_46 : rr_mm 46 = some (⟨"RainPurse$Reader", "isDigit", "(I)Z"⟩, prog_4_method_10_code, 1, some .boolean, 2, 1, true) := rr_mm_of mr_46
theorem mr_47 : rr_m 47 = some (⟨"RainPurse$Reader", "readNumber", "()V"⟩, prog_4_method_7_code, 3, none, 2, 1, false) := rfl
theorem nn_47 : decide ((⟨"RainPurse$Reader", "readNumber", "()V"⟩ : MethodName).name = "<init>") = false := by decide +kernel
theorem mm_47 : rr_mm 47 = some (⟨"RainPurse$Reader", "readNumber", "()V"⟩, prog_4_method_7_code, 3, none, 2, 1, false) := rr_mm_of mr_47
theorem mr_48 : rr_m 48 = some (⟨"RainPurse$Text", "addNumber", "(I)V"⟩, prog_9_method_5_code, 2, none, 7, 2, false) := rfl
theorem nn_48 : decide ((⟨"RainPurse$Text", "addNumber", "(I)V"⟩ : MethodName).name = "<init>") = false := by decide +kernel
theorem mm_48 : rr_mm 48 = some (⟨"RainPurse$Text", "addNumber", "(I)V"⟩, prog_9_method_5_code, 2, none, 7, 2, false) := rr_mm_of mr_48
theorem mr_49 : rr_m 49 = some (⟨"RainPurse$Reader", "isName", "(I)Z"⟩, prog_4_method_9_code, 3, some .boolean, 2, 2, false) := rfl
theorem nn_49 : decide ((⟨"RainPurse$Reader", "isName", "(I)Z"⟩ : MethodName).name = "<init>") = false := by decide +kernel
theorem mm_49 : rr_mm 49 = some (⟨"RainPurse$Reader", "isName", "(I)Z"⟩, prog_4_method_9_code, 3, some .boolean, 2, 2, false) := rr_mm_of mr_49
theorem mr_50 : rr_m 50 = some (⟨"RainPurse$Text", "addSign", "(I)V"⟩, prog_9_method_6_code, 2, none, 7, 2, false) := rfl
theorem nn_50 : decide ((⟨"RainPurse$Text", "addSign", "(I)V"⟩ : MethodName).name = "<init>") = false := by decide +kernel
theorem mm_50 : rr_mm 50 = some (⟨"RainPurse$Text", "addSign", "(I)V"⟩, prog_9_method_6_code, 2, none, 7, 2, false) := rr_mm_of mr_50
theorem mr_51 : rr_m 51 = some (⟨"RainPurse$Reader", "readDenied", "(I)Z"⟩, prog_4_method_5_code, 2, some .boolean, 2, 2, false) := rfl
theorem nn_51 : decide ((⟨"RainPurse$Reader", "readDenied", "(I)Z"⟩ : MethodName).name = "<init>") = false := by decide +kernel
theorem mm_51 : rr_mm 51 = some (⟨"RainPurse$Reader", "readDenied", "(I)Z"⟩, prog_4_method_5_code, 2, some .boolean, 2, 2, false) := rr_mm_of mr_51
theorem mr_52 : rr_m 52 = some (⟨"RainPurse$Reader", "readClosed", "(I)Z"⟩, prog_4_method_6_code, 2, some .boolean, 2, 2, false) := rfl
theorem nn_52 : decide ((⟨"RainPurse$Reader", "readClosed", "(I)Z"⟩ : MethodName).name = "<init>") = false := by decide +kernel
theorem mm_52 : rr_mm 52 = some (⟨"RainPurse$Reader", "readClosed", "(I)Z"⟩, prog_4_method_6_code, 2, some .boolean, 2, 2, false) := rr_mm_of mr_52
theorem mr_53 : rr_m 53 = some (⟨"RainPurse$Reader", "levelOf", "(I)I"⟩, prog_4_method_11_code, 1, some .int, 2, 1, true) := rfl
theorem nn_53 : decide ((⟨"RainPurse$Reader", "levelOf", "(I)I"⟩ : MethodName).name = "<init>") = false := by decide +kernel
theorem mm_53 : rr_mm 53 = some (⟨"RainPurse$Reader", "levelOf", "(I)I"⟩, prog_4_method_11_code, 1, some .int, 2, 1, true) := rr_mm_of mr_53
theorem mr_54 : rr_m 54 = some (⟨"RainPurse$Row", "clear", "()V"⟩, prog_5_method_7_code, 1, none, 3, 1, false) := rfl
theorem nn_54 : decide ((⟨"RainPurse$Row", "clear", "()V"⟩ : MethodName).name = "<init>") = false := by decide +kernel
theorem mm_54 : rr_mm 54 = some (⟨"RainPurse$Row", "clear", "()V"⟩, prog_5_method_7_code, 1, none, 3, 1, false) := rr_mm_of mr_54
theorem mr_55 : rr_m 55 = some (⟨"RainPurse$State", "textOf", "(I)LRainPurse$Text;"⟩, prog_8_method_5_code, 2, some (.object "RainPurse$Text"), 6, 2, false) := rfl
theorem nn_55 : decide ((⟨"RainPurse$State", "textOf", "(I)LRainPurse$Text;"⟩ : MethodName).name = "<init>") = false := by decide +kernel
theorem mm_55 : rr_mm 55 = some (⟨"RainPurse$State", "textOf", "(I)LRainPurse$Text;"⟩, prog_8_method_5_code, 2, some (.object "RainPurse$Text"), 6, 2, false) := rr_mm_of mr_55
theorem mr_56 : rr_m 56 = some (⟨"RainPurse$Text", "copyFrom", "(LRainPurse$Text;)V"⟩, prog_9_method_4_code, 2, none, 7, 2, false) := rfl
theorem nn_56 : decide ((⟨"RainPurse$Text", "copyFrom", "(LRainPurse$Text;)V"⟩ : MethodName).name = "<init>") = false := by decide +kernel
theorem mm_56 : rr_mm 56 = some (⟨"RainPurse$Text", "copyFrom", "(LRainPurse$Text;)V"⟩, prog_9_method_4_code, 2, none, 7, 2, false) := rr_mm_of mr_56
theorem mr_57 : rr_m 57 = some (⟨"RainPurse", "untell", "(I)I"⟩, prog_1_method_12_code, 4, some .int, 9, 2, false) := rfl
theorem nn_57 : decide ((⟨"RainPurse", "untell", "(I)I"⟩ : MethodName).name = "<init>") = false := by decide +kernel
theorem mm_57 : rr_mm 57 = some (⟨"RainPurse", "untell", "(I)I"⟩, prog_1_method_12_code, 4, some .int, 9, 2, false) := rr_mm_of mr_57
theorem mr_58 : rr_m 58 = some (⟨"RainPurse", "evening", "()I"⟩, prog_1_method_13_code, 1, some .int, 9, 1, false) := rfl
theorem nn_58 : decide ((⟨"RainPurse", "evening", "()I"⟩ : MethodName).name = "<init>") = false := by decide +kernel
theorem mm_58 : rr_mm 58 = some (⟨"RainPurse", "evening", "()I"⟩, prog_1_method_13_code, 1, some .int, 9, 1, false) := rr_mm_of mr_58
theorem mr_59 : rr_m 59 = some (⟨"RainPurse$State", "endDay", "()I"⟩, prog_8_method_13_code, 4, some .int, 6, 1, false) := rfl
theorem nn_59 : decide ((⟨"RainPurse$State", "endDay", "()I"⟩ : MethodName).name = "<init>") = false := by decide +kernel
theorem mm_59 : rr_mm 59 = some (⟨"RainPurse$State", "endDay", "()I"⟩, prog_8_method_13_code, 4, some .int, 6, 1, false) := rr_mm_of mr_59
theorem mr_60 : rr_m 60 = some (⟨"RainPurse", "settle", "(I)I"⟩, prog_1_method_14_code, 2, some .int, 9, 2, false) := rfl
theorem nn_60 : decide ((⟨"RainPurse", "settle", "(I)I"⟩ : MethodName).name = "<init>") = false := by decide +kernel
theorem mm_60 : rr_mm 60 = some (⟨"RainPurse", "settle", "(I)I"⟩, prog_1_method_14_code, 2, some .int, 9, 2, false) := rr_mm_of mr_60
theorem mr_61 : rr_m 61 = some (⟨"RainPurse$Settling", "workOut", "([II)V"⟩, prog_6_method_2_code, 4, none, 4, 3, false) := rfl
theorem nn_61 : decide ((⟨"RainPurse$Settling", "workOut", "([II)V"⟩ : MethodName).name = "<init>") = false := by decide +kernel
theorem mm_61 : rr_mm 61 = some (⟨"RainPurse$Settling", "workOut", "([II)V"⟩, prog_6_method_2_code, 4, none, 4, 3, false) := rr_mm_of mr_61
theorem mr_62 : rr_m 62 = some (⟨"RainPurse$Settling", "weigh", "(I[I)V"⟩, prog_6_method_3_code, 7, none, 4, 3, false) := rfl
theorem nn_62 : decide ((⟨"RainPurse$Settling", "weigh", "(I[I)V"⟩ : MethodName).name = "<init>") = false := by decide +kernel
theorem mm_62 : rr_mm 62 = some (⟨"RainPurse$Settling", "weigh", "(I[I)V"⟩, prog_6_method_3_code, 7, none, 4, 3, false) := rr_mm_of mr_62
theorem mr_63 : rr_m 63 = some (⟨"java/lang/Integer", "bitCount", "(I)I"⟩, prog_13_method_49_code, 1, some .int, 12, 1, true) := rfl
theorem nn_63 : decide ((⟨"java/lang/Integer", "bitCount", "(I)I"⟩ : MethodName).name = "<init>") = false := by decide +kernel
theorem mm_63 : rr_mm 63 = some (⟨"java/lang/Integer", "bitCount", "(I)I"⟩, prog_13_method_49_code, 1, some .int, 12, 1, true) := rr_mm_of mr_63
theorem mr_64 : rr_m 64 = some (⟨"RainPurse", "night", "(II)I"⟩, prog_1_method_15_code, 5, some .int, 9, 3, false) := rfl
theorem nn_64 : decide ((⟨"RainPurse", "night", "(II)I"⟩ : MethodName).name = "<init>") = false := by decide +kernel
theorem mm_64 : rr_mm 64 = some (⟨"RainPurse", "night", "(II)I"⟩, prog_1_method_15_code, 5, some .int, 9, 3, false) := rr_mm_of mr_64
theorem mr_65 : rr_m 65 = some (⟨"RainPurse", "two", "()I"⟩, prog_1_method_16_code, 1, some .int, 9, 1, false) := rfl
theorem nn_65 : decide ((⟨"RainPurse", "two", "()I"⟩ : MethodName).name = "<init>") = false := by decide +kernel
theorem mm_65 : rr_mm 65 = some (⟨"RainPurse", "two", "()I"⟩, prog_1_method_16_code, 1, some .int, 9, 1, false) := rr_mm_of mr_65
theorem mr_66 : rr_m 66 = some (⟨"RainPurse$State", "nearestTwo", "([I)I"⟩, prog_8_method_20_code, 7, some .int, 6, 2, false) := rfl
theorem nn_66 : decide ((⟨"RainPurse$State", "nearestTwo", "([I)I"⟩ : MethodName).name = "<init>") = false := by decide +kernel
theorem mm_66 : rr_mm 66 = some (⟨"RainPurse$State", "nearestTwo", "([I)I"⟩, prog_8_method_20_code, 7, some .int, 6, 2, false) := rr_mm_of mr_66
theorem mr_67 : rr_m 67 = some (⟨"RainPurse", "gauge", "(II)I"⟩, prog_1_method_17_code, 4, some .int, 9, 3, false) := rfl
theorem nn_67 : decide ((⟨"RainPurse", "gauge", "(II)I"⟩ : MethodName).name = "<init>") = false := by decide +kernel
theorem mm_67 : rr_mm 67 = some (⟨"RainPurse", "gauge", "(II)I"⟩, prog_1_method_17_code, 4, some .int, 9, 3, false) := rr_mm_of mr_67
theorem mr_68 : rr_m 68 = some (⟨"RainPurse", "wrong", "(I)I"⟩, prog_1_method_18_code, 2, some .int, 9, 2, false) := rfl
theorem nn_68 : decide ((⟨"RainPurse", "wrong", "(I)I"⟩ : MethodName).name = "<init>") = false := by decide +kernel
theorem mm_68 : rr_mm 68 = some (⟨"RainPurse", "wrong", "(I)I"⟩, prog_1_method_18_code, 2, some .int, 9, 2, false) := rr_mm_of mr_68
theorem mr_69 : rr_m 69 = some (⟨"RainPurse$Gauges", "workOut", "(LRainPurse$State;)V"⟩, prog_3_method_2_code, 6, none, 1, 2, false) := rfl
theorem nn_69 : decide ((⟨"RainPurse$Gauges", "workOut", "(LRainPurse$State;)V"⟩ : MethodName).name = "<init>") = false := by decide +kernel
theorem mm_69 : rr_mm 69 = some (⟨"RainPurse$Gauges", "workOut", "(LRainPurse$State;)V"⟩, prog_3_method_2_code, 6, none, 1, 2, false) := rr_mm_of mr_69
theorem mr_70 : rr_m 70 = some (⟨"RainPurse$Gauges", "agreeingWith", "(LRainPurse$State;II)I"⟩, prog_3_method_4_code, 6, some .int, 1, 3, true) := rfl
theorem nn_70 : decide ((⟨"RainPurse$Gauges", "agreeingWith", "(LRainPurse$State;II)I"⟩ : MethodName).name = "<init>") = false := by decide +kernel
theorem mm_70 : rr_mm 70 = some (⟨"RainPurse$Gauges", "agreeingWith", "(LRainPurse$State;II)I"⟩, prog_3_method_4_code, 6, some .int, 1, 3, true) := rr_mm_of mr_70
theorem mr_71 : rr_m 71 = some (⟨"RainPurse$Gauges", "isRight", "(II)Z"⟩, prog_3_method_5_code, 5, some .boolean, 1, 3, false) := rfl
theorem nn_71 : decide ((⟨"RainPurse$Gauges", "isRight", "(II)Z"⟩ : MethodName).name = "<init>") = false := by decide +kernel
theorem mm_71 : rr_mm 71 = some (⟨"RainPurse$Gauges", "isRight", "(II)Z"⟩, prog_3_method_5_code, 5, some .boolean, 1, 3, false) := rr_mm_of mr_71
theorem mr_72 : rr_m 72 = some (⟨"RainPurse$Gauges", "take", "(II)V"⟩, prog_3_method_3_code, 3, none, 1, 3, false) := rfl
theorem nn_72 : decide ((⟨"RainPurse$Gauges", "take", "(II)V"⟩ : MethodName).name = "<init>") = false := by decide +kernel
theorem mm_72 : rr_mm 72 = some (⟨"RainPurse$Gauges", "take", "(II)V"⟩, prog_3_method_3_code, 3, none, 1, 3, false) := rr_mm_of mr_72
theorem mr_73 : rr_m 73 = some (⟨"RainPurse", "weather", "(II)I"⟩, prog_1_method_19_code, 4, some .int, 9, 3, false) := rfl
theorem nn_73 : decide ((⟨"RainPurse", "weather", "(II)I"⟩ : MethodName).name = "<init>") = false := by decide +kernel
theorem mm_73 : rr_mm 73 = some (⟨"RainPurse", "weather", "(II)I"⟩, prog_1_method_19_code, 4, some .int, 9, 3, false) := rr_mm_of mr_73
theorem mr_74 : rr_m 74 = some (⟨"RainPurse$State", "allChances", "()I"⟩, prog_8_method_15_code, 3, some .int, 6, 1, false) := rfl
theorem nn_74 : decide ((⟨"RainPurse$State", "allChances", "()I"⟩ : MethodName).name = "<init>") = false := by decide +kernel
theorem mm_74 : rr_mm 74 = some (⟨"RainPurse$State", "allChances", "()I"⟩, prog_8_method_15_code, 3, some .int, 6, 1, false) := rr_mm_of mr_74
theorem mr_75 : rr_m 75 = some (⟨"RainPurse", "rain", "(III)I"⟩, prog_1_method_20_code, 5, some .int, 9, 4, false) := rfl
theorem nn_75 : decide ((⟨"RainPurse", "rain", "(III)I"⟩ : MethodName).name = "<init>") = false := by decide +kernel
theorem mm_75 : rr_mm 75 = some (⟨"RainPurse", "rain", "(III)I"⟩, prog_1_method_20_code, 5, some .int, 9, 4, false) := rr_mm_of mr_75
theorem mr_76 : rr_m 76 = some (⟨"RainPurse", "days", "(I)I"⟩, prog_1_method_21_code, 3, some .int, 9, 2, false) := rfl
theorem nn_76 : decide ((⟨"RainPurse", "days", "(I)I"⟩ : MethodName).name = "<init>") = false := by decide +kernel
theorem mm_76 : rr_mm 76 = some (⟨"RainPurse", "days", "(I)I"⟩, prog_1_method_21_code, 3, some .int, 9, 2, false) := rr_mm_of mr_76
theorem mr_77 : rr_m 77 = some (⟨"RainPurse$State", "isWhole", "()Z"⟩, prog_8_method_16_code, 1, some .boolean, 6, 1, false) := rfl
theorem nn_77 : decide ((⟨"RainPurse$State", "isWhole", "()Z"⟩ : MethodName).name = "<init>") = false := by decide +kernel
theorem mm_77 : rr_mm 77 = some (⟨"RainPurse$State", "isWhole", "()Z"⟩, prog_8_method_16_code, 1, some .boolean, 6, 1, false) := rr_mm_of mr_77
theorem mr_78 : rr_m 78 = some (⟨"RainPurse$State", "drawnWeather", "()I"⟩, prog_8_method_17_code, 4, some .int, 6, 1, false) := rfl
theorem nn_78 : decide ((⟨"RainPurse$State", "drawnWeather", "()I"⟩ : MethodName).name = "<init>") = false := by decide +kernel
theorem mm_78 : rr_mm 78 = some (⟨"RainPurse$State", "drawnWeather", "()I"⟩, prog_8_method_17_code, 4, some .int, 6, 1, false) := rr_mm_of mr_78
theorem mr_79 : rr_m 79 = some (⟨"RainPurse$State", "dayUnder", "(I)V"⟩, prog_8_method_14_code, 2, none, 6, 2, false) := rfl
theorem nn_79 : decide ((⟨"RainPurse$State", "dayUnder", "(I)V"⟩ : MethodName).name = "<init>") = false := by decide +kernel
theorem mm_79 : rr_mm 79 = some (⟨"RainPurse$State", "dayUnder", "(I)V"⟩, prog_8_method_14_code, 2, none, 6, 2, false) := rr_mm_of mr_79
theorem mr_80 : rr_m 80 = some (⟨"RainPurse", "seed", "(I)I"⟩, prog_1_method_22_code, 3, some .int, 9, 2, false) := rfl
theorem nn_80 : decide ((⟨"RainPurse", "seed", "(I)I"⟩ : MethodName).name = "<init>") = false := by decide +kernel
theorem mm_80 : rr_mm 80 = some (⟨"RainPurse", "seed", "(I)I"⟩, prog_1_method_22_code, 3, some .int, 9, 2, false) := rr_mm_of mr_80
theorem mr_81 : rr_m 81 = some (⟨"RainPurse", "mean", "(II)I"⟩, prog_1_method_23_code, 3, some .int, 9, 3, false) := rfl
theorem nn_81 : decide ((⟨"RainPurse", "mean", "(II)I"⟩ : MethodName).name = "<init>") = false := by decide +kernel
theorem mm_81 : rr_mm 81 = some (⟨"RainPurse", "mean", "(II)I"⟩, prog_1_method_23_code, 3, some .int, 9, 3, false) := rr_mm_of mr_81
theorem mr_82 : rr_m 82 = some (⟨"RainPurse$State", "meansBy", "(I[I)V"⟩, prog_8_method_18_code, 5, none, 6, 3, false) := rfl
theorem nn_82 : decide ((⟨"RainPurse$State", "meansBy", "(I[I)V"⟩ : MethodName).name = "<init>") = false := by decide +kernel
theorem mm_82 : rr_mm 82 = some (⟨"RainPurse$State", "meansBy", "(I[I)V"⟩, prog_8_method_18_code, 5, none, 6, 3, false) := rr_mm_of mr_82
theorem mr_83 : rr_m 83 = some (⟨"RainPurse", "inLowestTerms", "(JJI)J"⟩, prog_1_method_52_code, 7, some .long, 9, 3, true) := rfl
theorem nn_83 : decide ((⟨"RainPurse", "inLowestTerms", "(JJI)J"⟩ : MethodName).name = "<init>") = false := by decide +kernel
theorem mm_83 : rr_mm 83 = some (⟨"RainPurse", "inLowestTerms", "(JJI)J"⟩, prog_1_method_52_code, 7, some .long, 9, 3, true) := rr_mm_of mr_83
theorem mr_84 : rr_m 84 = some (⟨"RainPurse", "commonDivisor", "(JJ)J"⟩, prog_1_method_53_code, 11, some .long, 9, 2, true) := rfl
theorem nn_84 : decide ((⟨"RainPurse", "commonDivisor", "(JJ)J"⟩ : MethodName).name = "<init>") = false := by decide +kernel
theorem mm_84 : rr_mm 84 = some (⟨"RainPurse", "commonDivisor", "(JJ)J"⟩, prog_1_method_53_code, 11, some .long, 9, 2, true) := rr_mm_of mr_84
theorem mr_85 : rr_m 85 = some (⟨"RainPurse", "evenest", "()I"⟩, prog_1_method_24_code, 1, some .int, 9, 1, false) := rfl
theorem nn_85 : decide ((⟨"RainPurse", "evenest", "()I"⟩ : MethodName).name = "<init>") = false := by decide +kernel
theorem mm_85 : rr_mm 85 = some (⟨"RainPurse", "evenest", "()I"⟩, prog_1_method_24_code, 1, some .int, 9, 1, false) := rr_mm_of mr_85
theorem mr_86 : rr_m 86 = some (⟨"RainPurse$State", "evenestLaw", "([I)I"⟩, prog_8_method_19_code, 9, some .int, 6, 2, false) := rfl
theorem nn_86 : decide ((⟨"RainPurse$State", "evenestLaw", "([I)I"⟩ : MethodName).name = "<init>") = false := by decide +kernel
theorem mm_86 : rr_mm 86 = some (⟨"RainPurse$State", "evenestLaw", "([I)I"⟩, prog_8_method_19_code, 9, some .int, 6, 2, false) := rr_mm_of mr_86
theorem mr_87 : rr_m 87 = some (⟨"RainPurse", "fails", "(IIII)J"⟩, prog_1_method_25_code, 6, some .long, 9, 5, false) := rfl
theorem nn_87 : decide ((⟨"RainPurse", "fails", "(IIII)J"⟩ : MethodName).name = "<init>") = false := by decide +kernel
theorem mm_87 : rr_mm 87 = some (⟨"RainPurse", "fails", "(IIII)J"⟩, prog_1_method_25_code, 6, some .long, 9, 5, false) := rr_mm_of mr_87
theorem mr_88 : rr_m 88 = some (⟨"RainPurse", "longError", "(I)J"⟩, prog_1_method_43_code, 2, some .long, 9, 2, false) := rfl
theorem nn_88 : decide ((⟨"RainPurse", "longError", "(I)J"⟩ : MethodName).name = "<init>") = false := by decide +kernel
theorem mm_88 : rr_mm 88 = some (⟨"RainPurse", "longError", "(I)J"⟩, prog_1_method_43_code, 2, some .long, 9, 2, false) := rr_mm_of mr_88
theorem mr_89 : rr_m 89 = some (⟨"RainPurse", "madeForecast", "()LRainPurse$Forecast;"⟩, prog_1_method_48_code, 1, some (.object "RainPurse$Forecast"), 9, 1, false) := rfl
theorem nn_89 : decide ((⟨"RainPurse", "madeForecast", "()LRainPurse$Forecast;"⟩ : MethodName).name = "<init>") = false := by decide +kernel
theorem mm_89 : rr_mm 89 = some (⟨"RainPurse", "madeForecast", "()LRainPurse$Forecast;"⟩, prog_1_method_48_code, 1, some (.object "RainPurse$Forecast"), 9, 1, false) := rr_mm_of mr_89
theorem mr_90 : rr_m 90 = some (⟨"RainPurse$Forecast", "<init>", "()V"⟩, prog_2_method_1_code, 1, none, 0, 1, false) := rfl
theorem nn_90 : decide ((⟨"RainPurse$Forecast", "<init>", "()V"⟩ : MethodName).name = "<init>") = true := by decide +kernel
theorem mm_90 : rr_mm 90 = some (⟨"RainPurse$Forecast", "<init>", "()V"⟩, prog_2_method_1_code, 1, none, 0, 1, false) := rr_mm_of mr_90
theorem mr_91 : rr_m 91 = some (⟨"RainPurse$Forecast", "look", "(LRainPurse$State;II)V"⟩, prog_2_method_2_code, 4, none, 0, 4, false) := rfl
theorem nn_91 : decide ((⟨"RainPurse$Forecast", "look", "(LRainPurse$State;II)V"⟩ : MethodName).name = "<init>") = false := by decide +kernel
theorem mm_91 : rr_mm 91 = some (⟨"RainPurse$Forecast", "look", "(LRainPurse$State;II)V"⟩, prog_2_method_2_code, 4, none, 0, 4, false) := rr_mm_of mr_91
theorem mr_92 : rr_m 92 = some (⟨"RainPurse$State", "looksAtSums", "()Z"⟩, prog_8_method_8_code, 2, some .boolean, 6, 1, false) := rfl
theorem nn_92 : decide ((⟨"RainPurse$State", "looksAtSums", "()Z"⟩ : MethodName).name = "<init>") = false := by decide +kernel
theorem mm_92 : rr_mm 92 = some (⟨"RainPurse$State", "looksAtSums", "()Z"⟩, prog_8_method_8_code, 2, some .boolean, 6, 1, false) := rr_mm_of mr_92
theorem mr_93 : rr_m 93 = some (⟨"RainPurse$Text", "names", "(I)Z"⟩, prog_9_method_7_code, 4, some .boolean, 7, 2, false) := rfl
theorem nn_93 : decide ((⟨"RainPurse$Text", "names", "(I)Z"⟩ : MethodName).name = "<init>") = false := by decide +kernel
theorem mm_93 : rr_mm 93 = some (⟨"RainPurse$Text", "names", "(I)Z"⟩, prog_9_method_7_code, 4, some .boolean, 7, 2, false) := rr_mm_of mr_93
theorem mr_94 : rr_m 94 = some (⟨"RainPurse$Forecast", "begin", "(IIZ)V"⟩, prog_2_method_7_code, 4, none, 0, 4, false) := rfl
theorem nn_94 : decide ((⟨"RainPurse$Forecast", "begin", "(IIZ)V"⟩ : MethodName).name = "<init>") = false := by decide +kernel
theorem mm_94 : rr_mm 94 = some (⟨"RainPurse$Forecast", "begin", "(IIZ)V"⟩, prog_2_method_7_code, 4, none, 0, 4, false) := rr_mm_of mr_94
theorem mr_95 : rr_m 95 = some (⟨"RainPurse$Forecast", "follow", "(LRainPurse$State;IIIII)V"⟩, prog_2_method_8_code, 12, none, 0, 7, false) := rfl
theorem nn_95 : decide ((⟨"RainPurse$Forecast", "follow", "(LRainPurse$State;IIIII)V"⟩ : MethodName).name = "<init>") = false := by decide +kernel
theorem mm_95 : rr_mm 95 = some (⟨"RainPurse$Forecast", "follow", "(LRainPurse$State;IIIII)V"⟩, prog_2_method_8_code, 12, none, 0, 7, false) := rr_mm_of mr_95
theorem mr_96 : rr_m 96 = some (⟨"RainPurse$Forecast", "endRow", "(III)V"⟩, prog_2_method_9_code, 4, none, 0, 4, false) := rfl
theorem nn_96 : decide ((⟨"RainPurse$Forecast", "endRow", "(III)V"⟩ : MethodName).name = "<init>") = false := by decide +kernel
theorem mm_96 : rr_mm 96 = some (⟨"RainPurse$Forecast", "endRow", "(III)V"⟩, prog_2_method_9_code, 4, none, 0, 4, false) := rr_mm_of mr_96
theorem mr_97 : rr_m 97 = some (⟨"RainPurse$Forecast", "workOut", "(LRainPurse$State;III)V"⟩, prog_2_method_10_code, 12, none, 0, 5, false) := rfl
theorem nn_97 : decide ((⟨"RainPurse$Forecast", "workOut", "(LRainPurse$State;III)V"⟩ : MethodName).name = "<init>") = false := by decide +kernel
theorem mm_97 : rr_mm 97 = some (⟨"RainPurse$Forecast", "workOut", "(LRainPurse$State;III)V"⟩, prog_2_method_10_code, 12, none, 0, 5, false) := rr_mm_of mr_97
theorem mr_98 : rr_m 98 = some (⟨"RainPurse$Forecast", "failing", "(I)J"⟩, prog_2_method_5_code, 5, some .long, 0, 2, false) := rfl
theorem nn_98 : decide ((⟨"RainPurse$Forecast", "failing", "(I)J"⟩ : MethodName).name = "<init>") = false := by decide +kernel
theorem mm_98 : rr_mm 98 = some (⟨"RainPurse$Forecast", "failing", "(I)J"⟩, prog_2_method_5_code, 5, some .long, 0, 2, false) := rr_mm_of mr_98
theorem mr_99 : rr_m 99 = some (⟨"RainPurse$Forecast", "allWeight", "()J"⟩, prog_2_method_4_code, 1, some .long, 0, 1, false) := rfl
theorem nn_99 : decide ((⟨"RainPurse$Forecast", "allWeight", "()J"⟩ : MethodName).name = "<init>") = false := by decide +kernel
theorem mm_99 : rr_mm 99 = some (⟨"RainPurse$Forecast", "allWeight", "()J"⟩, prog_2_method_4_code, 1, some .long, 0, 1, false) := rr_mm_of mr_99
theorem mr_100 : rr_m 100 = some (⟨"RainPurse", "stands", "(III)I"⟩, prog_1_method_26_code, 6, some .int, 9, 4, false) := rfl
theorem nn_100 : decide ((⟨"RainPurse", "stands", "(III)I"⟩ : MethodName).name = "<init>") = false := by decide +kernel
theorem mm_100 : rr_mm 100 = some (⟨"RainPurse", "stands", "(III)I"⟩, prog_1_method_26_code, 6, some .int, 9, 4, false) := rr_mm_of mr_100
theorem mr_101 : rr_m 101 = some (⟨"RainPurse$Forecast", "leastPurse", "(I)I"⟩, prog_2_method_6_code, 6, some .int, 0, 2, false) := rfl
theorem nn_101 : decide ((⟨"RainPurse$Forecast", "leastPurse", "(I)I"⟩ : MethodName).name = "<init>") = false := by decide +kernel
theorem mm_101 : rr_mm 101 = some (⟨"RainPurse$Forecast", "leastPurse", "(I)I"⟩, prog_2_method_6_code, 6, some .int, 0, 2, false) := rr_mm_of mr_101
theorem mr_102 : rr_m 102 = some (⟨"RainPurse", "book", "(III)I"⟩, prog_1_method_27_code, 4, some .int, 9, 4, false) := rfl
theorem nn_102 : decide ((⟨"RainPurse", "book", "(III)I"⟩ : MethodName).name = "<init>") = false := by decide +kernel
theorem mm_102 : rr_mm 102 = some (⟨"RainPurse", "book", "(III)I"⟩, prog_1_method_27_code, 4, some .int, 9, 4, false) := rr_mm_of mr_102
theorem mr_103 : rr_m 103 = some (⟨"RainPurse$Forecast", "rowsTo", "(LRainPurse$State;III)I"⟩, prog_2_method_3_code, 5, some .int, 0, 5, false) := rfl
theorem nn_103 : decide ((⟨"RainPurse$Forecast", "rowsTo", "(LRainPurse$State;III)I"⟩ : MethodName).name = "<init>") = false := by decide +kernel
theorem mm_103 : rr_mm 103 = some (⟨"RainPurse$Forecast", "rowsTo", "(LRainPurse$State;III)I"⟩, prog_2_method_3_code, 5, some .int, 0, 5, false) := rr_mm_of mr_103
theorem mr_104 : rr_m 104 = some (⟨"RainPurse", "voice", "(III)I"⟩, prog_1_method_28_code, 5, some .int, 9, 4, false) := rfl
theorem nn_104 : decide ((⟨"RainPurse", "voice", "(III)I"⟩ : MethodName).name = "<init>") = false := by decide +kernel
theorem mm_104 : rr_mm 104 = some (⟨"RainPurse", "voice", "(III)I"⟩, prog_1_method_28_code, 5, some .int, 9, 4, false) := rr_mm_of mr_104
theorem mr_105 : rr_m 105 = some (⟨"RainPurse$Voices", "ask", "(IIII)I"⟩, prog_10_method_2_code, 5, some .int, 8, 5, false) := rfl
theorem nn_105 : decide ((⟨"RainPurse$Voices", "ask", "(IIII)I"⟩ : MethodName).name = "<init>") = false := by decide +kernel
theorem mm_105 : rr_mm 105 = some (⟨"RainPurse$Voices", "ask", "(IIII)I"⟩, prog_10_method_2_code, 5, some .int, 8, 5, false) := rr_mm_of mr_105
theorem mr_106 : rr_m 106 = some (⟨"RainPurse$Voices", "speak", "(IIII)I"⟩, prog_10_method_3_code, 9, some .int, 8, 5, false) := rfl
theorem nn_106 : decide ((⟨"RainPurse$Voices", "speak", "(IIII)I"⟩ : MethodName).name = "<init>") = false := by decide +kernel
theorem mm_106 : rr_mm 106 = some (⟨"RainPurse$Voices", "speak", "(IIII)I"⟩, prog_10_method_3_code, 9, some .int, 8, 5, false) := rr_mm_of mr_106
theorem mr_107 : rr_m 107 = some (⟨"RainPurse$Voices", "ownerOf", "(II)I"⟩, prog_10_method_5_code, 4, some .int, 8, 2, true) := rfl
theorem nn_107 : decide ((⟨"RainPurse$Voices", "ownerOf", "(II)I"⟩ : MethodName).name = "<init>") = false := by decide +kernel
theorem mm_107 : rr_mm 107 = some (⟨"RainPurse$Voices", "ownerOf", "(II)I"⟩, prog_10_method_5_code, 4, some .int, 8, 2, true) := rr_mm_of mr_107
theorem mr_108 : rr_m 108 = some (⟨"RainPurse$Voices", "partsOf", "(I)I"⟩, prog_10_method_4_code, 3, some .int, 8, 2, false) := rfl
theorem nn_108 : decide ((⟨"RainPurse$Voices", "partsOf", "(I)I"⟩ : MethodName).name = "<init>") = false := by decide +kernel
theorem mm_108 : rr_mm 108 = some (⟨"RainPurse$Voices", "partsOf", "(I)I"⟩, prog_10_method_4_code, 3, some .int, 8, 2, false) := rr_mm_of mr_108
theorem mr_109 : rr_m 109 = some (⟨"RainPurse", "body", "(I)I"⟩, prog_1_method_29_code, 2, some .int, 9, 2, false) := rfl
theorem nn_109 : decide ((⟨"RainPurse", "body", "(I)I"⟩ : MethodName).name = "<init>") = false := by decide +kernel
theorem mm_109 : rr_mm 109 = some (⟨"RainPurse", "body", "(I)I"⟩, prog_1_method_29_code, 2, some .int, 9, 2, false) := rr_mm_of mr_109
theorem mr_110 : rr_m 110 = some (⟨"RainPurse", "sheet", "(III)I"⟩, prog_1_method_30_code, 5, some .int, 9, 4, false) := rfl
theorem nn_110 : decide ((⟨"RainPurse", "sheet", "(III)I"⟩ : MethodName).name = "<init>") = false := by decide +kernel
theorem mm_110 : rr_mm 110 = some (⟨"RainPurse", "sheet", "(III)I"⟩, prog_1_method_30_code, 5, some .int, 9, 4, false) := rr_mm_of mr_110
theorem mr_111 : rr_m 111 = some (⟨"RainPurse$Sheet", "renew", "(II)V"⟩, prog_7_method_2_code, 4, none, 5, 3, false) := rfl
theorem nn_111 : decide ((⟨"RainPurse$Sheet", "renew", "(II)V"⟩ : MethodName).name = "<init>") = false := by decide +kernel
theorem mm_111 : rr_mm 111 = some (⟨"RainPurse$Sheet", "renew", "(II)V"⟩, prog_7_method_2_code, 4, none, 5, 3, false) := rr_mm_of mr_111
theorem mr_112 : rr_m 112 = some (⟨"RainPurse", "put", "(III)I"⟩, prog_1_method_31_code, 5, some .int, 9, 4, false) := rfl
theorem nn_112 : decide ((⟨"RainPurse", "put", "(III)I"⟩ : MethodName).name = "<init>") = false := by decide +kernel
theorem mm_112 : rr_mm 112 = some (⟨"RainPurse", "put", "(III)I"⟩, prog_1_method_31_code, 5, some .int, 9, 4, false) := rr_mm_of mr_112
theorem mr_113 : rr_m 113 = some (⟨"RainPurse", "errorOfSheet", "(I)I"⟩, prog_1_method_45_code, 2, some .int, 9, 2, false) := rfl
theorem nn_113 : decide ((⟨"RainPurse", "errorOfSheet", "(I)I"⟩ : MethodName).name = "<init>") = false := by decide +kernel
theorem mm_113 : rr_mm 113 = some (⟨"RainPurse", "errorOfSheet", "(I)I"⟩, prog_1_method_45_code, 2, some .int, 9, 2, false) := rr_mm_of mr_113
theorem mr_114 : rr_m 114 = some (⟨"RainPurse$Sheet", "change", "(II)V"⟩, prog_7_method_4_code, 3, none, 5, 3, false) := rfl
theorem nn_114 : decide ((⟨"RainPurse$Sheet", "change", "(II)V"⟩ : MethodName).name = "<init>") = false := by decide +kernel
theorem mm_114 : rr_mm 114 = some (⟨"RainPurse$Sheet", "change", "(II)V"⟩, prog_7_method_4_code, 3, none, 5, 3, false) := rr_mm_of mr_114
theorem mr_115 : rr_m 115 = some (⟨"RainPurse", "move", "(IIIII)I"⟩, prog_1_method_32_code, 8, some .int, 9, 6, false) := rfl
theorem nn_115 : decide ((⟨"RainPurse", "move", "(IIIII)I"⟩ : MethodName).name = "<init>") = false := by decide +kernel
theorem mm_115 : rr_mm 115 = some (⟨"RainPurse", "move", "(IIIII)I"⟩, prog_1_method_32_code, 8, some .int, 9, 6, false) := rr_mm_of mr_115
theorem mr_116 : rr_m 116 = some (⟨"RainPurse$Sheet", "holds", "(II)Z"⟩, prog_7_method_5_code, 3, some .boolean, 5, 3, false) := rfl
theorem nn_116 : decide ((⟨"RainPurse$Sheet", "holds", "(II)Z"⟩ : MethodName).name = "<init>") = false := by decide +kernel
theorem mm_116 : rr_mm 116 = some (⟨"RainPurse$Sheet", "holds", "(II)Z"⟩, prog_7_method_5_code, 3, some .boolean, 5, 3, false) := rr_mm_of mr_116
theorem mr_117 : rr_m 117 = some (⟨"RainPurse", "rains", "(I)I"⟩, prog_1_method_33_code, 5, some .int, 9, 2, false) := rfl
theorem nn_117 : decide ((⟨"RainPurse", "rains", "(I)I"⟩ : MethodName).name = "<init>") = false := by decide +kernel
theorem mm_117 : rr_mm 117 = some (⟨"RainPurse", "rains", "(I)I"⟩, prog_1_method_33_code, 5, some .int, 9, 2, false) := rr_mm_of mr_117
theorem mr_118 : rr_m 118 = some (⟨"RainPurse$Sheet", "at", "(I)I"⟩, prog_7_method_3_code, 2, some .int, 5, 2, false) := rfl
theorem nn_118 : decide ((⟨"RainPurse$Sheet", "at", "(I)I"⟩ : MethodName).name = "<init>") = false := by decide +kernel
theorem mm_118 : rr_mm 118 = some (⟨"RainPurse$Sheet", "at", "(I)I"⟩, prog_7_method_3_code, 2, some .int, 5, 2, false) := rr_mm_of mr_118
theorem mr_119 : rr_m 119 = some (⟨"RainPurse", "judge", "(I)I"⟩, prog_1_method_34_code, 6, some .int, 9, 2, false) := rfl
theorem nn_119 : decide ((⟨"RainPurse", "judge", "(I)I"⟩ : MethodName).name = "<init>") = false := by decide +kernel
theorem mm_119 : rr_mm 119 = some (⟨"RainPurse", "judge", "(I)I"⟩, prog_1_method_34_code, 6, some .int, 9, 2, false) := rr_mm_of mr_119
theorem mr_120 : rr_m 120 = some (⟨"RainPurse", "takePayment", "(LRainPurse$Sheet;I)Z"⟩, prog_1_method_46_code, 6, some .boolean, 9, 3, false) := rfl
theorem nn_120 : decide ((⟨"RainPurse", "takePayment", "(LRainPurse$Sheet;I)Z"⟩ : MethodName).name = "<init>") = false := by decide +kernel
theorem mm_120 : rr_mm 120 = some (⟨"RainPurse", "takePayment", "(LRainPurse$Sheet;I)Z"⟩, prog_1_method_46_code, 6, some .boolean, 9, 3, false) := rr_mm_of mr_120
theorem mr_121 : rr_m 121 = some (⟨"RainPurse", "isSettled", "()Z"⟩, prog_1_method_47_code, 3, some .boolean, 9, 1, false) := rfl
theorem nn_121 : decide ((⟨"RainPurse", "isSettled", "()Z"⟩ : MethodName).name = "<init>") = false := by decide +kernel
theorem mm_121 : rr_mm 121 = some (⟨"RainPurse", "isSettled", "()Z"⟩, prog_1_method_47_code, 3, some .boolean, 9, 1, false) := rr_mm_of mr_121
theorem mr_122 : rr_m 122 = some (⟨"RainPurse", "play", "(I)I"⟩, prog_1_method_35_code, 5, some .int, 9, 2, false) := rfl
theorem nn_122 : decide ((⟨"RainPurse", "play", "(I)I"⟩ : MethodName).name = "<init>") = false := by decide +kernel
theorem mm_122 : rr_mm 122 = some (⟨"RainPurse", "play", "(I)I"⟩, prog_1_method_35_code, 5, some .int, 9, 2, false) := rr_mm_of mr_122
theorem mr_123 : rr_m 123 = some (⟨"RainPurse", "image", "()I"⟩, prog_1_method_36_code, 1, some .int, 9, 1, false) := rfl
theorem nn_123 : decide ((⟨"RainPurse", "image", "()I"⟩ : MethodName).name = "<init>") = false := by decide +kernel
theorem mm_123 : rr_mm 123 = some (⟨"RainPurse", "image", "()I"⟩, prog_1_method_36_code, 1, some .int, 9, 1, false) := rr_mm_of mr_123
theorem mr_124 : rr_m 124 = some (⟨"RainPurse$State", "copyFrom", "(LRainPurse$State;)V"⟩, prog_8_method_2_code, 3, none, 6, 2, false) := rfl
theorem nn_124 : decide ((⟨"RainPurse$State", "copyFrom", "(LRainPurse$State;)V"⟩ : MethodName).name = "<init>") = false := by decide +kernel
theorem mm_124 : rr_mm 124 = some (⟨"RainPurse$State", "copyFrom", "(LRainPurse$State;)V"⟩, prog_8_method_2_code, 3, none, 6, 2, false) := rr_mm_of mr_124
theorem mr_125 : rr_m 125 = some (⟨"RainPurse", "restore", "()I"⟩, prog_1_method_37_code, 1, some .int, 9, 1, false) := rfl
theorem nn_125 : decide ((⟨"RainPurse", "restore", "()I"⟩ : MethodName).name = "<init>") = false := by decide +kernel
theorem mm_125 : rr_mm 125 = some (⟨"RainPurse", "restore", "()I"⟩, prog_1_method_37_code, 1, some .int, 9, 1, false) := rr_mm_of mr_125
theorem mr_126 : rr_m 126 = some (⟨"RainPurse", "tell", "(I)I"⟩, prog_1_method_38_code, 2, some .int, 9, 2, false) := rfl
theorem nn_126 : decide ((⟨"RainPurse", "tell", "(I)I"⟩ : MethodName).name = "<init>") = false := by decide +kernel
theorem mm_126 : rr_mm 126 = some (⟨"RainPurse", "tell", "(I)I"⟩, prog_1_method_38_code, 2, some .int, 9, 2, false) := rr_mm_of mr_126
theorem mr_127 : rr_m 127 = some (⟨"RainPurse", "check", "()I"⟩, prog_1_method_39_code, 5, some .int, 9, 1, false) := rfl
theorem nn_127 : decide ((⟨"RainPurse", "check", "()I"⟩ : MethodName).name = "<init>") = false := by decide +kernel
theorem mm_127 : rr_mm 127 = some (⟨"RainPurse", "check", "()I"⟩, prog_1_method_39_code, 5, some .int, 9, 1, false) := rr_mm_of mr_127
theorem mr_128 : rr_m 128 = some (⟨"RainPurse", "count", "(I)I"⟩, prog_1_method_40_code, 2, some .int, 9, 2, false) := rfl
theorem nn_128 : decide ((⟨"RainPurse", "count", "(I)I"⟩ : MethodName).name = "<init>") = false := by decide +kernel
theorem mm_128 : rr_mm 128 = some (⟨"RainPurse", "count", "(I)I"⟩, prog_1_method_40_code, 2, some .int, 9, 2, false) := rr_mm_of mr_128
theorem mr_129 : rr_m 129 = some (⟨"RainPurse", "told", "(I)I"⟩, prog_1_method_41_code, 2, some .int, 9, 2, false) := rfl
theorem nn_129 : decide ((⟨"RainPurse", "told", "(I)I"⟩ : MethodName).name = "<init>") = false := by decide +kernel
theorem mm_129 : rr_mm 129 = some (⟨"RainPurse", "told", "(I)I"⟩, prog_1_method_41_code, 2, some .int, 9, 2, false) := rr_mm_of mr_129
theorem mr_130 : rr_m 130 = some (⟨"RainPurseModel", "<init>", "()V"⟩, prog_12_method_1_code, 1, none, 10, 1, false) := rfl
theorem nn_130 : decide ((⟨"RainPurseModel", "<init>", "()V"⟩ : MethodName).name = "<init>") = true := by decide +kernel
theorem mm_130 : rr_mm 130 = some (⟨"RainPurseModel", "<init>", "()V"⟩, prog_12_method_1_code, 1, none, 10, 1, false) := rr_mm_of mr_130
theorem mr_131 : rr_m 131 = some (⟨"RainPurseModel", "feed", "(JI)I"⟩, prog_12_method_13_code, 5, some .int, 10, 3, false) := rfl
theorem nn_131 : decide ((⟨"RainPurseModel", "feed", "(JI)I"⟩ : MethodName).name = "<init>") = false := by decide +kernel
theorem mm_131 : rr_mm 131 = some (⟨"RainPurseModel", "feed", "(JI)I"⟩, prog_12_method_13_code, 5, some .int, 10, 3, false) := rr_mm_of mr_131
theorem mr_132 : rr_m 132 = some (⟨"RainPurseModel", "in", "(III)Z"⟩, prog_12_method_3_code, 3, some .boolean, 10, 3, true) := rfl
theorem nn_132 : decide ((⟨"RainPurseModel", "in", "(III)Z"⟩ : MethodName).name = "<init>") = false := by decide +kernel
theorem mm_132 : rr_mm 132 = some (⟨"RainPurseModel", "in", "(III)Z"⟩, prog_12_method_3_code, 3, some .boolean, 10, 3, true) := rr_mm_of mr_132
theorem mr_133 : rr_m 133 = some (⟨"RainPurseModel", "error", "(I)I"⟩, prog_12_method_2_code, 2, some .int, 10, 2, false) := rfl
theorem nn_133 : decide ((⟨"RainPurseModel", "error", "(I)I"⟩ : MethodName).name = "<init>") = false := by decide +kernel
theorem mm_133 : rr_mm 133 = some (⟨"RainPurseModel", "error", "(I)I"⟩, prog_12_method_2_code, 2, some .int, 10, 2, false) := rr_mm_of mr_133
theorem mr_134 : rr_m 134 = some (⟨"RainPurseModel", "text", "(I)I"⟩, prog_12_method_25_code, 5, some .int, 10, 2, false) := rfl
theorem nn_134 : decide ((⟨"RainPurseModel", "text", "(I)I"⟩ : MethodName).name = "<init>") = false := by decide +kernel
theorem mm_134 : rr_mm 134 = some (⟨"RainPurseModel", "text", "(I)I"⟩, prog_12_method_25_code, 5, some .int, 10, 2, false) := rr_mm_of mr_134
theorem mr_135 : rr_m 135 = some (⟨"RainPurseModel", "whole", "()Z"⟩, prog_12_method_17_code, 1, some .boolean, 10, 1, false) := rfl
theorem nn_135 : decide ((⟨"RainPurseModel", "whole", "()Z"⟩ : MethodName).name = "<init>") = false := by decide +kernel
theorem mm_135 : rr_mm 135 = some (⟨"RainPurseModel", "whole", "()Z"⟩, prog_12_method_17_code, 1, some .boolean, 10, 1, false) := rr_mm_of mr_135
theorem mr_136 : rr_m 136 = some (⟨"RainPurseModel", "both", "()Z"⟩, prog_12_method_18_code, 1, some .boolean, 10, 1, false) := rfl
theorem nn_136 : decide ((⟨"RainPurseModel", "both", "()Z"⟩ : MethodName).name = "<init>") = false := by decide +kernel
theorem mm_136 : rr_mm 136 = some (⟨"RainPurseModel", "both", "()Z"⟩, prog_12_method_18_code, 1, some .boolean, 10, 1, false) := rr_mm_of mr_136
theorem mr_137 : rr_m 137 = some (⟨"RainPurseModel", "compared", "()Z"⟩, prog_12_method_19_code, 2, some .boolean, 10, 1, false) := rfl
theorem nn_137 : decide ((⟨"RainPurseModel", "compared", "()Z"⟩ : MethodName).name = "<init>") = false := by decide +kernel
theorem mm_137 : rr_mm 137 = some (⟨"RainPurseModel", "compared", "()Z"⟩, prog_12_method_19_code, 2, some .boolean, 10, 1, false) := rr_mm_of mr_137
theorem mr_138 : rr_m 138 = some (⟨"RainPurseModel", "sum", "()Z"⟩, prog_12_method_20_code, 2, some .boolean, 10, 1, false) := rfl
theorem nn_138 : decide ((⟨"RainPurseModel", "sum", "()Z"⟩ : MethodName).name = "<init>") = false := by decide +kernel
theorem mm_138 : rr_mm 138 = some (⟨"RainPurseModel", "sum", "()Z"⟩, prog_12_method_20_code, 2, some .boolean, 10, 1, false) := rr_mm_of mr_138
theorem mr_139 : rr_m 139 = some (⟨"RainPurseModel", "product", "()Z"⟩, prog_12_method_21_code, 2, some .boolean, 10, 1, false) := rfl
theorem nn_139 : decide ((⟨"RainPurseModel", "product", "()Z"⟩ : MethodName).name = "<init>") = false := by decide +kernel
theorem mm_139 : rr_mm 139 = some (⟨"RainPurseModel", "product", "()Z"⟩, prog_12_method_21_code, 2, some .boolean, 10, 1, false) := rr_mm_of mr_139
theorem mr_140 : rr_m 140 = some (⟨"RainPurseModel", "one", "()Z"⟩, prog_12_method_23_code, 4, some .boolean, 10, 1, false) := rfl
theorem nn_140 : decide ((⟨"RainPurseModel", "one", "()Z"⟩ : MethodName).name = "<init>") = false := by decide +kernel
theorem mm_140 : rr_mm 140 = some (⟨"RainPurseModel", "one", "()Z"⟩, prog_12_method_23_code, 4, some .boolean, 10, 1, false) := rr_mm_of mr_140
theorem mr_141 : rr_m 141 = some (⟨"RainPurseModel", "look", "()I"⟩, prog_12_method_14_code, 1, some .int, 10, 1, false) := rfl
theorem nn_141 : decide ((⟨"RainPurseModel", "look", "()I"⟩ : MethodName).name = "<init>") = false := by decide +kernel
theorem mm_141 : rr_mm 141 = some (⟨"RainPurseModel", "look", "()I"⟩, prog_12_method_14_code, 1, some .int, 10, 1, false) := rr_mm_of mr_141
theorem mr_142 : rr_m 142 = some (⟨"RainPurseModel", "isName", "(I)Z"⟩, prog_12_method_15_code, 2, some .boolean, 10, 2, false) := rfl
theorem nn_142 : decide ((⟨"RainPurseModel", "isName", "(I)Z"⟩ : MethodName).name = "<init>") = false := by decide +kernel
theorem mm_142 : rr_mm 142 = some (⟨"RainPurseModel", "isName", "(I)Z"⟩, prog_12_method_15_code, 2, some .boolean, 10, 2, false) := rr_mm_of mr_142
theorem mr_143 : rr_m 143 = some (⟨"RainPurseModel", "lays", "(II)V"⟩, prog_12_method_16_code, 3, none, 10, 3, false) := rfl
theorem nn_143 : decide ((⟨"RainPurseModel", "lays", "(II)V"⟩ : MethodName).name = "<init>") = false := by decide +kernel
theorem mm_143 : rr_mm 143 = some (⟨"RainPurseModel", "lays", "(II)V"⟩, prog_12_method_16_code, 3, none, 10, 3, false) := rr_mm_of mr_143
theorem mr_144 : rr_m 144 = some (⟨"RainPurseModel", "opens", "()Z"⟩, prog_12_method_22_code, 1, some .boolean, 10, 1, false) := rfl
theorem nn_144 : decide ((⟨"RainPurseModel", "opens", "()Z"⟩ : MethodName).name = "<init>") = false := by decide +kernel
theorem mm_144 : rr_mm 144 = some (⟨"RainPurseModel", "opens", "()Z"⟩, prog_12_method_22_code, 1, some .boolean, 10, 1, false) := rr_mm_of mr_144
theorem mr_145 : rr_m 145 = some (⟨"RainPurseModel", "untell", "(I)I"⟩, prog_12_method_26_code, 3, some .int, 10, 2, false) := rfl
theorem nn_145 : decide ((⟨"RainPurseModel", "untell", "(I)I"⟩ : MethodName).name = "<init>") = false := by decide +kernel
theorem mm_145 : rr_mm 145 = some (⟨"RainPurseModel", "untell", "(I)I"⟩, prog_12_method_26_code, 3, some .int, 10, 2, false) := rr_mm_of mr_145
theorem mr_146 : rr_m 146 = some (⟨"RainPurseModel", "hasText", "(I)Z"⟩, prog_12_method_24_code, 2, some .boolean, 10, 2, false) := rfl
theorem nn_146 : decide ((⟨"RainPurseModel", "hasText", "(I)Z"⟩ : MethodName).name = "<init>") = false := by decide +kernel
theorem mm_146 : rr_mm 146 = some (⟨"RainPurseModel", "hasText", "(I)Z"⟩, prog_12_method_24_code, 2, some .boolean, 10, 2, false) := rr_mm_of mr_146
theorem mr_147 : rr_m 147 = some (⟨"RainPurseModel", "field", "(I)I"⟩, prog_12_method_34_code, 3, some .int, 10, 2, false) := rfl
theorem nn_147 : decide ((⟨"RainPurseModel", "field", "(I)I"⟩ : MethodName).name = "<init>") = false := by decide +kernel
theorem mm_147 : rr_mm 147 = some (⟨"RainPurseModel", "field", "(I)I"⟩, prog_12_method_34_code, 3, some .int, 10, 2, false) := rr_mm_of mr_147
theorem mr_148 : rr_m 148 = some (⟨"RainPurseModel", "lays1", "(III)V"⟩, prog_12_method_10_code, 4, none, 10, 4, false) := rfl
theorem nn_148 : decide ((⟨"RainPurseModel", "lays1", "(III)V"⟩ : MethodName).name = "<init>") = false := by decide +kernel
theorem mm_148 : rr_mm 148 = some (⟨"RainPurseModel", "lays1", "(III)V"⟩, prog_12_method_10_code, 4, none, 10, 4, false) := rr_mm_of mr_148
theorem mr_149 : rr_m 149 = some (⟨"RainPurseModel", "fieldIs", "(II)I"⟩, prog_12_method_35_code, 3, some .int, 10, 3, false) := rfl
theorem nn_149 : decide ((⟨"RainPurseModel", "fieldIs", "(II)I"⟩ : MethodName).name = "<init>") = false := by decide +kernel
theorem mm_149 : rr_mm 149 = some (⟨"RainPurseModel", "fieldIs", "(II)I"⟩, prog_12_method_35_code, 3, some .int, 10, 3, false) := rr_mm_of mr_149
theorem mr_150 : rr_m 150 = some (⟨"RainPurseModel", "isField", "(I)Z"⟩, prog_12_method_6_code, 2, some .boolean, 10, 2, false) := rfl
theorem nn_150 : decide ((⟨"RainPurseModel", "isField", "(I)Z"⟩ : MethodName).name = "<init>") = false := by decide +kernel
theorem mm_150 : rr_mm 150 = some (⟨"RainPurseModel", "isField", "(I)Z"⟩, prog_12_method_6_code, 2, some .boolean, 10, 2, false) := rr_mm_of mr_150
theorem mr_151 : rr_m 151 = some (⟨"RainPurseModel", "findPays", "(I)V"⟩, prog_12_method_32_code, 4, none, 10, 2, false) := rfl
theorem nn_151 : decide ((⟨"RainPurseModel", "findPays", "(I)V"⟩ : MethodName).name = "<init>") = false := by decide +kernel
theorem mm_151 : rr_mm 151 = some (⟨"RainPurseModel", "findPays", "(I)V"⟩, prog_12_method_32_code, 4, none, 10, 2, false) := rr_mm_of mr_151
theorem mr_152 : rr_m 152 = some (⟨"RainPurseModel", "allOwe", "(I)I"⟩, prog_12_method_31_code, 4, some .int, 10, 2, false) := rfl
theorem nn_152 : decide ((⟨"RainPurseModel", "allOwe", "(I)I"⟩ : MethodName).name = "<init>") = false := by decide +kernel
theorem mm_152 : rr_mm 152 = some (⟨"RainPurseModel", "allOwe", "(I)I"⟩, prog_12_method_31_code, 4, some .int, 10, 2, false) := rr_mm_of mr_152
theorem mr_153 : rr_m 153 = some (⟨"RainPurseModel", "owesBy", "(II)I"⟩, prog_12_method_30_code, 7, some .int, 10, 3, false) := rfl
theorem nn_153 : decide ((⟨"RainPurseModel", "owesBy", "(II)I"⟩ : MethodName).name = "<init>") = false := by decide +kernel
theorem mm_153 : rr_mm 153 = some (⟨"RainPurseModel", "owesBy", "(II)I"⟩, prog_12_method_30_code, 7, some .int, 10, 3, false) := rr_mm_of mr_153
theorem mr_154 : rr_m 154 = some (⟨"RainPurseModel", "its", "(II)I"⟩, prog_12_method_9_code, 3, some .int, 10, 3, false) := rfl
theorem nn_154 : decide ((⟨"RainPurseModel", "its", "(II)I"⟩ : MethodName).name = "<init>") = false := by decide +kernel
theorem mm_154 : rr_mm 154 = some (⟨"RainPurseModel", "its", "(II)I"⟩, prog_12_method_9_code, 3, some .int, 10, 3, false) := rr_mm_of mr_154
theorem mr_155 : rr_m 155 = some (⟨"RainPurseModel", "mOf", "(I)I"⟩, prog_12_method_12_code, 2, some .int, 10, 2, false) := rfl
theorem nn_155 : decide ((⟨"RainPurseModel", "mOf", "(I)I"⟩ : MethodName).name = "<init>") = false := by decide +kernel
theorem mm_155 : rr_mm 155 = some (⟨"RainPurseModel", "mOf", "(I)I"⟩, prog_12_method_12_code, 2, some .int, 10, 2, false) := rr_mm_of mr_155
theorem mr_156 : rr_m 156 = some (⟨"RainPurseModel", "kindOf", "(I)I"⟩, prog_12_method_11_code, 2, some .int, 10, 2, false) := rfl
theorem nn_156 : decide ((⟨"RainPurseModel", "kindOf", "(I)I"⟩ : MethodName).name = "<init>") = false := by decide +kernel
theorem mm_156 : rr_mm 156 = some (⟨"RainPurseModel", "kindOf", "(I)I"⟩, prog_12_method_11_code, 2, some .int, 10, 2, false) := rr_mm_of mr_156
theorem mr_157 : rr_m 157 = some (⟨"RainPurseModel", "dues", "(II)I"⟩, prog_12_method_29_code, 3, some .int, 10, 3, false) := rfl
theorem nn_157 : decide ((⟨"RainPurseModel", "dues", "(II)I"⟩ : MethodName).name = "<init>") = false := by decide +kernel
theorem mm_157 : rr_mm 157 = some (⟨"RainPurseModel", "dues", "(II)I"⟩, prog_12_method_29_code, 3, some .int, 10, 3, false) := rr_mm_of mr_157
theorem mr_158 : rr_m 158 = some (⟨"RainPurseModel", "held", "(III)I"⟩, prog_12_method_4_code, 3, some .int, 10, 3, true) := rfl
theorem nn_158 : decide ((⟨"RainPurseModel", "held", "(III)I"⟩ : MethodName).name = "<init>") = false := by decide +kernel
theorem mm_158 : rr_mm 158 = some (⟨"RainPurseModel", "held", "(III)I"⟩, prog_12_method_4_code, 3, some .int, 10, 3, true) := rr_mm_of mr_158
theorem mr_159 : rr_m 159 = some (⟨"RainPurseModel", "worked", "(I)I"⟩, prog_12_method_28_code, 7, some .int, 10, 2, false) := rfl
theorem nn_159 : decide ((⟨"RainPurseModel", "worked", "(I)I"⟩ : MethodName).name = "<init>") = false := by decide +kernel
theorem mm_159 : rr_mm 159 = some (⟨"RainPurseModel", "worked", "(I)I"⟩, prog_12_method_28_code, 7, some .int, 10, 2, false) := rr_mm_of mr_159
theorem mr_160 : rr_m 160 = some (⟨"RainPurseModel", "joined", "(III)I"⟩, prog_12_method_27_code, 3, some .int, 10, 3, true) := rfl
theorem nn_160 : decide ((⟨"RainPurseModel", "joined", "(III)I"⟩ : MethodName).name = "<init>") = false := by decide +kernel
theorem mm_160 : rr_mm 160 = some (⟨"RainPurseModel", "joined", "(III)I"⟩, prog_12_method_27_code, 3, some .int, 10, 3, true) := rr_mm_of mr_160
theorem mr_161 : rr_m 161 = some (⟨"RainPurseModel", "crop", "(I)I"⟩, prog_12_method_33_code, 3, some .int, 10, 2, false) := rfl
theorem nn_161 : decide ((⟨"RainPurseModel", "crop", "(I)I"⟩ : MethodName).name = "<init>") = false := by decide +kernel
theorem mm_161 : rr_mm 161 = some (⟨"RainPurseModel", "crop", "(I)I"⟩, prog_12_method_33_code, 3, some .int, 10, 2, false) := rr_mm_of mr_161
theorem mr_162 : rr_m 162 = some (⟨"RainPurseModel", "set", "(III)I"⟩, prog_12_method_36_code, 5, some .int, 10, 4, false) := rfl
theorem nn_162 : decide ((⟨"RainPurseModel", "set", "(III)I"⟩ : MethodName).name = "<init>") = false := by decide +kernel
theorem mm_162 : rr_mm 162 = some (⟨"RainPurseModel", "set", "(III)I"⟩, prog_12_method_36_code, 5, some .int, 10, 4, false) := rr_mm_of mr_162
theorem mr_163 : rr_m 163 = some (⟨"RainPurseModel", "law", "(I)I"⟩, prog_12_method_37_code, 2, some .int, 10, 2, false) := rfl
theorem nn_163 : decide ((⟨"RainPurseModel", "law", "(I)I"⟩ : MethodName).name = "<init>") = false := by decide +kernel
theorem mm_163 : rr_mm 163 = some (⟨"RainPurseModel", "law", "(I)I"⟩, prog_12_method_37_code, 2, some .int, 10, 2, false) := rr_mm_of mr_163
theorem mr_164 : rr_m 164 = some (⟨"RainPurseModel", "lawIs", "(II)I"⟩, prog_12_method_38_code, 3, some .int, 10, 3, false) := rfl
theorem nn_164 : decide ((⟨"RainPurseModel", "lawIs", "(II)I"⟩ : MethodName).name = "<init>") = false := by decide +kernel
theorem mm_164 : rr_mm 164 = some (⟨"RainPurseModel", "lawIs", "(II)I"⟩, prog_12_method_38_code, 3, some .int, 10, 3, false) := rr_mm_of mr_164
theorem mr_165 : rr_m 165 = some (⟨"RainPurseModel", "isLaw", "(I)Z"⟩, prog_12_method_7_code, 2, some .boolean, 10, 2, false) := rfl
theorem nn_165 : decide ((⟨"RainPurseModel", "isLaw", "(I)Z"⟩ : MethodName).name = "<init>") = false := by decide +kernel
theorem mm_165 : rr_mm 165 = some (⟨"RainPurseModel", "isLaw", "(I)Z"⟩, prog_12_method_7_code, 2, some .boolean, 10, 2, false) := rr_mm_of mr_165
theorem mr_166 : rr_m 166 = some (⟨"RainPurseModel", "as", "(II)I"⟩, prog_12_method_40_code, 3, some .int, 10, 3, false) := rfl
theorem nn_166 : decide ((⟨"RainPurseModel", "as", "(II)I"⟩ : MethodName).name = "<init>") = false := by decide +kernel
theorem mm_166 : rr_mm 166 = some (⟨"RainPurseModel", "as", "(II)I"⟩, prog_12_method_40_code, 3, some .int, 10, 3, false) := rr_mm_of mr_166
theorem mr_167 : rr_m 167 = some (⟨"RainPurseModel", "isUnder", "(II)Z"⟩, prog_12_method_39_code, 2, some .boolean, 10, 2, true) := rfl
theorem nn_167 : decide ((⟨"RainPurseModel", "isUnder", "(II)Z"⟩ : MethodName).name = "<init>") = false := by decide +kernel
theorem mm_167 : rr_mm 167 = some (⟨"RainPurseModel", "isUnder", "(II)Z"⟩, prog_12_method_39_code, 2, some .boolean, 10, 2, true) := rr_mm_of mr_167
theorem mr_168 : rr_m 168 = some (⟨"RainPurseModel", "become", "(II)I"⟩, prog_12_method_41_code, 4, some .int, 10, 3, false) := rfl
theorem nn_168 : decide ((⟨"RainPurseModel", "become", "(II)I"⟩ : MethodName).name = "<init>") = false := by decide +kernel
theorem mm_168 : rr_mm 168 = some (⟨"RainPurseModel", "become", "(II)I"⟩, prog_12_method_41_code, 4, some .int, 10, 3, false) := rr_mm_of mr_168
theorem mr_169 : rr_m 169 = some (⟨"RainPurseModel", "force", "(I)I"⟩, prog_12_method_42_code, 3, some .int, 10, 2, false) := rfl
theorem nn_169 : decide ((⟨"RainPurseModel", "force", "(I)I"⟩ : MethodName).name = "<init>") = false := by decide +kernel
theorem mm_169 : rr_mm 169 = some (⟨"RainPurseModel", "force", "(I)I"⟩, prog_12_method_42_code, 3, some .int, 10, 2, false) := rr_mm_of mr_169
theorem mr_170 : rr_m 170 = some (⟨"RainPurseModel", "evening", "()I"⟩, prog_12_method_44_code, 1, some .int, 10, 1, false) := rfl
theorem nn_170 : decide ((⟨"RainPurseModel", "evening", "()I"⟩ : MethodName).name = "<init>") = false := by decide +kernel
theorem mm_170 : rr_mm 170 = some (⟨"RainPurseModel", "evening", "()I"⟩, prog_12_method_44_code, 1, some .int, 10, 1, false) := rr_mm_of mr_170
theorem mr_171 : rr_m 171 = some (⟨"RainPurseModel", "evens", "()I"⟩, prog_12_method_43_code, 3, some .int, 10, 1, false) := rfl
theorem nn_171 : decide ((⟨"RainPurseModel", "evens", "()I"⟩ : MethodName).name = "<init>") = false := by decide +kernel
theorem mm_171 : rr_mm 171 = some (⟨"RainPurseModel", "evens", "()I"⟩, prog_12_method_43_code, 3, some .int, 10, 1, false) := rr_mm_of mr_171
theorem mr_172 : rr_m 172 = some (⟨"RainPurseModel", "settle", "(I)I"⟩, prog_12_method_49_code, 4, some .int, 10, 2, false) := rfl
theorem nn_172 : decide ((⟨"RainPurseModel", "settle", "(I)I"⟩ : MethodName).name = "<init>") = false := by decide +kernel
theorem mm_172 : rr_mm 172 = some (⟨"RainPurseModel", "settle", "(I)I"⟩, prog_12_method_49_code, 4, some .int, 10, 2, false) := rr_mm_of mr_172
theorem mr_173 : rr_m 173 = some (⟨"RainPurseModel", "payers", "()I"⟩, prog_12_method_46_code, 3, some .int, 10, 1, false) := rfl
theorem nn_173 : decide ((⟨"RainPurseModel", "payers", "()I"⟩ : MethodName).name = "<init>") = false := by decide +kernel
theorem mm_173 : rr_mm 173 = some (⟨"RainPurseModel", "payers", "()I"⟩, prog_12_method_46_code, 3, some .int, 10, 1, false) := rr_mm_of mr_173
theorem mr_174 : rr_m 174 = some (⟨"RainPurseModel", "findHeaps", "()V"⟩, prog_12_method_48_code, 4, none, 10, 1, false) := rfl
theorem nn_174 : decide ((⟨"RainPurseModel", "findHeaps", "()V"⟩ : MethodName).name = "<init>") = false := by decide +kernel
theorem mm_174 : rr_mm 174 = some (⟨"RainPurseModel", "findHeaps", "()V"⟩, prog_12_method_48_code, 4, none, 10, 1, false) := rr_mm_of mr_174
theorem mr_175 : rr_m 175 = some (⟨"RainPurseModel", "sumOf", "(I)I"⟩, prog_12_method_45_code, 4, some .int, 10, 2, false) := rfl
theorem nn_175 : decide ((⟨"RainPurseModel", "sumOf", "(I)I"⟩ : MethodName).name = "<init>") = false := by decide +kernel
theorem mm_175 : rr_mm 175 = some (⟨"RainPurseModel", "sumOf", "(I)I"⟩, prog_12_method_45_code, 4, some .int, 10, 2, false) := rr_mm_of mr_175
theorem mr_176 : rr_m 176 = some (⟨"RainPurseModel", "bitsOf", "(I)I"⟩, prog_12_method_47_code, 3, some .int, 10, 1, true) := rfl
theorem nn_176 : decide ((⟨"RainPurseModel", "bitsOf", "(I)I"⟩ : MethodName).name = "<init>") = false := by decide +kernel
theorem mm_176 : rr_mm 176 = some (⟨"RainPurseModel", "bitsOf", "(I)I"⟩, prog_12_method_47_code, 3, some .int, 10, 1, true) := rr_mm_of mr_176
theorem mr_177 : rr_m 177 = some (⟨"RainPurseModel", "night", "(II)I"⟩, prog_12_method_50_code, 5, some .int, 10, 3, false) := rfl
theorem nn_177 : decide ((⟨"RainPurseModel", "night", "(II)I"⟩ : MethodName).name = "<init>") = false := by decide +kernel
theorem mm_177 : rr_mm 177 = some (⟨"RainPurseModel", "night", "(II)I"⟩, prog_12_method_50_code, 5, some .int, 10, 3, false) := rr_mm_of mr_177
theorem mr_178 : rr_m 178 = some (⟨"RainPurseModel", "two", "()I"⟩, prog_12_method_51_code, 6, some .int, 10, 1, false) := rfl
theorem nn_178 : decide ((⟨"RainPurseModel", "two", "()I"⟩ : MethodName).name = "<init>") = false := by decide +kernel
theorem mm_178 : rr_mm 178 = some (⟨"RainPurseModel", "two", "()I"⟩, prog_12_method_51_code, 6, some .int, 10, 1, false) := rr_mm_of mr_178
theorem mr_179 : rr_m 179 = some (⟨"RainPurseModel", "gauge", "(II)I"⟩, prog_12_method_52_code, 4, some .int, 10, 3, false) := rfl
theorem nn_179 : decide ((⟨"RainPurseModel", "gauge", "(II)I"⟩ : MethodName).name = "<init>") = false := by decide +kernel
theorem mm_179 : rr_mm 179 = some (⟨"RainPurseModel", "gauge", "(II)I"⟩, prog_12_method_52_code, 4, some .int, 10, 3, false) := rr_mm_of mr_179
theorem mr_180 : rr_m 180 = some (⟨"RainPurseModel", "wrong", "(I)I"⟩, prog_12_method_54_code, 10, some .int, 10, 2, false) := rfl
theorem nn_180 : decide ((⟨"RainPurseModel", "wrong", "(I)I"⟩ : MethodName).name = "<init>") = false := by decide +kernel
theorem mm_180 : rr_mm 180 = some (⟨"RainPurseModel", "wrong", "(I)I"⟩, prog_12_method_54_code, 10, some .int, 10, 2, false) := rr_mm_of mr_180
theorem mr_181 : rr_m 181 = some (⟨"RainPurseModel", "isRight", "(I)Z"⟩, prog_12_method_53_code, 8, some .boolean, 10, 2, false) := rfl
theorem nn_181 : decide ((⟨"RainPurseModel", "isRight", "(I)Z"⟩ : MethodName).name = "<init>") = false := by decide +kernel
theorem mm_181 : rr_mm 181 = some (⟨"RainPurseModel", "isRight", "(I)Z"⟩, prog_12_method_53_code, 8, some .boolean, 10, 2, false) := rr_mm_of mr_181
theorem mr_182 : rr_m 182 = some (⟨"RainPurseModel", "weather", "(II)I"⟩, prog_12_method_57_code, 4, some .int, 10, 3, false) := rfl
theorem nn_182 : decide ((⟨"RainPurseModel", "weather", "(II)I"⟩ : MethodName).name = "<init>") = false := by decide +kernel
theorem mm_182 : rr_mm 182 = some (⟨"RainPurseModel", "weather", "(II)I"⟩, prog_12_method_57_code, 4, some .int, 10, 3, false) := rr_mm_of mr_182
theorem mr_183 : rr_m 183 = some (⟨"RainPurseModel", "isWeather", "(I)Z"⟩, prog_12_method_8_code, 1, some .boolean, 10, 1, true) := rfl
theorem nn_183 : decide ((⟨"RainPurseModel", "isWeather", "(I)Z"⟩ : MethodName).name = "<init>") = false := by decide +kernel
theorem mm_183 : rr_mm 183 = some (⟨"RainPurseModel", "isWeather", "(I)Z"⟩, prog_12_method_8_code, 1, some .boolean, 10, 1, true) := rr_mm_of mr_183
theorem mr_184 : rr_m 184 = some (⟨"RainPurseModel", "allChances", "()I"⟩, prog_12_method_55_code, 1, some .int, 10, 1, false) := rfl
theorem nn_184 : decide ((⟨"RainPurseModel", "allChances", "()I"⟩ : MethodName).name = "<init>") = false := by decide +kernel
theorem mm_184 : rr_mm 184 = some (⟨"RainPurseModel", "allChances", "()I"⟩, prog_12_method_55_code, 1, some .int, 10, 1, false) := rr_mm_of mr_184
theorem mr_185 : rr_m 185 = some (⟨"RainPurseModel", "rain", "(III)I"⟩, prog_12_method_58_code, 5, some .int, 10, 4, false) := rfl
theorem nn_185 : decide ((⟨"RainPurseModel", "rain", "(III)I"⟩ : MethodName).name = "<init>") = false := by decide +kernel
theorem mm_185 : rr_mm 185 = some (⟨"RainPurseModel", "rain", "(III)I"⟩, prog_12_method_58_code, 5, some .int, 10, 4, false) := rr_mm_of mr_185
theorem mr_186 : rr_m 186 = some (⟨"RainPurseModel", "days", "(I)I"⟩, prog_12_method_61_code, 6, some .int, 10, 2, false) := rfl
theorem nn_186 : decide ((⟨"RainPurseModel", "days", "(I)I"⟩ : MethodName).name = "<init>") = false := by decide +kernel
theorem mm_186 : rr_mm 186 = some (⟨"RainPurseModel", "days", "(I)I"⟩, prog_12_method_61_code, 6, some .int, 10, 2, false) := rr_mm_of mr_186
theorem mr_187 : rr_m 187 = some (⟨"RainPurseModel", "isWhole", "()Z"⟩, prog_12_method_56_code, 1, some .boolean, 10, 1, false) := rfl
theorem nn_187 : decide ((⟨"RainPurseModel", "isWhole", "()Z"⟩ : MethodName).name = "<init>") = false := by decide +kernel
theorem mm_187 : rr_mm 187 = some (⟨"RainPurseModel", "isWhole", "()Z"⟩, prog_12_method_56_code, 1, some .boolean, 10, 1, false) := rr_mm_of mr_187
theorem mr_188 : rr_m 188 = some (⟨"RainPurseModel", "draw", "()I"⟩, prog_12_method_60_code, 1, some .int, 10, 1, false) := rfl
theorem nn_188 : decide ((⟨"RainPurseModel", "draw", "()I"⟩ : MethodName).name = "<init>") = false := by decide +kernel
theorem mm_188 : rr_mm 188 = some (⟨"RainPurseModel", "draw", "()I"⟩, prog_12_method_60_code, 1, some .int, 10, 1, false) := rr_mm_of mr_188
theorem mr_189 : rr_m 189 = some (⟨"RainPurseModel", "rainsBy", "(I)V"⟩, prog_12_method_59_code, 3, none, 10, 2, false) := rfl
theorem nn_189 : decide ((⟨"RainPurseModel", "rainsBy", "(I)V"⟩ : MethodName).name = "<init>") = false := by decide +kernel
theorem mm_189 : rr_mm 189 = some (⟨"RainPurseModel", "rainsBy", "(I)V"⟩, prog_12_method_59_code, 3, none, 10, 2, false) := rr_mm_of mr_189
theorem mr_190 : rr_m 190 = some (⟨"RainPurseModel", "seed", "(I)I"⟩, prog_12_method_62_code, 3, some .int, 10, 2, false) := rfl
theorem nn_190 : decide ((⟨"RainPurseModel", "seed", "(I)I"⟩ : MethodName).name = "<init>") = false := by decide +kernel
theorem mm_190 : rr_mm 190 = some (⟨"RainPurseModel", "seed", "(I)I"⟩, prog_12_method_62_code, 3, some .int, 10, 2, false) := rr_mm_of mr_190
theorem mr_191 : rr_m 191 = some (⟨"RainPurseModel", "mean", "(II)I"⟩, prog_12_method_65_code, 4, some .int, 10, 3, false) := rfl
theorem nn_191 : decide ((⟨"RainPurseModel", "mean", "(II)I"⟩ : MethodName).name = "<init>") = false := by decide +kernel
theorem mm_191 : rr_mm 191 = some (⟨"RainPurseModel", "mean", "(II)I"⟩, prog_12_method_65_code, 4, some .int, 10, 3, false) := rr_mm_of mr_191
theorem mr_192 : rr_m 192 = some (⟨"RainPurseModel", "findMeans", "(I)V"⟩, prog_12_method_64_code, 4, none, 10, 2, false) := rfl
theorem nn_192 : decide ((⟨"RainPurseModel", "findMeans", "(I)V"⟩ : MethodName).name = "<init>") = false := by decide +kernel
theorem mm_192 : rr_mm 192 = some (⟨"RainPurseModel", "findMeans", "(I)V"⟩, prog_12_method_64_code, 4, none, 10, 2, false) := rr_mm_of mr_192
theorem mr_193 : rr_m 193 = some (⟨"RainPurseModel", "carry", "([I[I)V"⟩, prog_12_method_5_code, 3, none, 10, 2, true) := rfl
theorem nn_193 : decide ((⟨"RainPurseModel", "carry", "([I[I)V"⟩ : MethodName).name = "<init>") = false := by decide +kernel
theorem mm_193 : rr_mm 193 = some (⟨"RainPurseModel", "carry", "([I[I)V"⟩, prog_12_method_5_code, 3, none, 10, 2, true) := rr_mm_of mr_193
theorem mr_194 : rr_m 194 = some (⟨"RainPurseModel", "divisor", "(JJ)J"⟩, prog_12_method_63_code, 10, some .long, 10, 2, true) := rfl
theorem nn_194 : decide ((⟨"RainPurseModel", "divisor", "(JJ)J"⟩ : MethodName).name = "<init>") = false := by decide +kernel
theorem mm_194 : rr_mm 194 = some (⟨"RainPurseModel", "divisor", "(JJ)J"⟩, prog_12_method_63_code, 10, some .long, 10, 2, true) := rr_mm_of mr_194
theorem mr_195 : rr_m 195 = some (⟨"RainPurseModel", "evenest", "()I"⟩, prog_12_method_66_code, 8, some .int, 10, 1, false) := rfl
theorem nn_195 : decide ((⟨"RainPurseModel", "evenest", "()I"⟩ : MethodName).name = "<init>") = false := by decide +kernel
theorem mm_195 : rr_mm 195 = some (⟨"RainPurseModel", "evenest", "()I"⟩, prog_12_method_66_code, 8, some .int, 10, 1, false) := rr_mm_of mr_195
theorem mr_196 : rr_m 196 = some (⟨"RainPurseModel", "fails", "(IIII)J"⟩, prog_12_method_71_code, 9, some .long, 10, 5, false) := rfl
theorem nn_196 : decide ((⟨"RainPurseModel", "fails", "(IIII)J"⟩ : MethodName).name = "<init>") = false := by decide +kernel
theorem mm_196 : rr_mm 196 = some (⟨"RainPurseModel", "fails", "(IIII)J"⟩, prog_12_method_71_code, 9, some .long, 10, 5, false) := rr_mm_of mr_196
theorem mr_197 : rr_m 197 = some (⟨"RainPurseModel", "findRows", "(II)V"⟩, prog_12_method_68_code, 4, none, 10, 3, false) := rfl
theorem nn_197 : decide ((⟨"RainPurseModel", "findRows", "(II)V"⟩ : MethodName).name = "<init>") = false := by decide +kernel
theorem mm_197 : rr_mm 197 = some (⟨"RainPurseModel", "findRows", "(II)V"⟩, prog_12_method_68_code, 4, none, 10, 3, false) := rr_mm_of mr_197
theorem mr_198 : rr_m 198 = some (⟨"RainPurseModel", "findRow", "(III)V"⟩, prog_12_method_67_code, 9, none, 10, 4, false) := rfl
theorem nn_198 : decide ((⟨"RainPurseModel", "findRow", "(III)V"⟩ : MethodName).name = "<init>") = false := by decide +kernel
theorem mm_198 : rr_mm 198 = some (⟨"RainPurseModel", "findRow", "(III)V"⟩, prog_12_method_67_code, 9, none, 10, 4, false) := rr_mm_of mr_198
theorem mr_199 : rr_m 199 = some (⟨"RainPurseModel", "failing", "(I)J"⟩, prog_12_method_69_code, 5, some .long, 10, 2, false) := rfl
theorem nn_199 : decide ((⟨"RainPurseModel", "failing", "(I)J"⟩ : MethodName).name = "<init>") = false := by decide +kernel
theorem mm_199 : rr_mm 199 = some (⟨"RainPurseModel", "failing", "(I)J"⟩, prog_12_method_69_code, 5, some .long, 10, 2, false) := rr_mm_of mr_199
theorem mr_200 : rr_m 200 = some (⟨"RainPurseModel", "allOf", "(I)J"⟩, prog_12_method_70_code, 4, some .long, 10, 1, true) := rfl
theorem nn_200 : decide ((⟨"RainPurseModel", "allOf", "(I)J"⟩ : MethodName).name = "<init>") = false := by decide +kernel
theorem mm_200 : rr_mm 200 = some (⟨"RainPurseModel", "allOf", "(I)J"⟩, prog_12_method_70_code, 4, some .long, 10, 1, true) := rr_mm_of mr_200
theorem mr_201 : rr_m 201 = some (⟨"RainPurseModel", "stands", "(III)I"⟩, prog_12_method_72_code, 7, some .int, 10, 4, false) := rfl
theorem nn_201 : decide ((⟨"RainPurseModel", "stands", "(III)I"⟩ : MethodName).name = "<init>") = false := by decide +kernel
theorem mm_201 : rr_mm 201 = some (⟨"RainPurseModel", "stands", "(III)I"⟩, prog_12_method_72_code, 7, some .int, 10, 4, false) := rr_mm_of mr_201
theorem mr_202 : rr_m 202 = some (⟨"RainPurseModel", "book", "(III)I"⟩, prog_12_method_73_code, 6, some .int, 10, 4, false) := rfl
theorem nn_202 : decide ((⟨"RainPurseModel", "book", "(III)I"⟩ : MethodName).name = "<init>") = false := by decide +kernel
theorem mm_202 : rr_mm 202 = some (⟨"RainPurseModel", "book", "(III)I"⟩, prog_12_method_73_code, 6, some .int, 10, 4, false) := rr_mm_of mr_202
theorem mr_203 : rr_m 203 = some (⟨"RainPurseModel", "voice", "(III)I"⟩, prog_12_method_82_code, 6, some .int, 10, 4, false) := rfl
theorem nn_203 : decide ((⟨"RainPurseModel", "voice", "(III)I"⟩ : MethodName).name = "<init>") = false := by decide +kernel
theorem mm_203 : rr_mm 203 = some (⟨"RainPurseModel", "voice", "(III)I"⟩, prog_12_method_82_code, 6, some .int, 10, 4, false) := rr_mm_of mr_203
theorem mr_204 : rr_m 204 = some (⟨"RainPurseModel", "kindNow", "()I"⟩, prog_12_method_76_code, 1, some .int, 10, 1, false) := rfl
theorem nn_204 : decide ((⟨"RainPurseModel", "kindNow", "()I"⟩ : MethodName).name = "<init>") = false := by decide +kernel
theorem mm_204 : rr_mm 204 = some (⟨"RainPurseModel", "kindNow", "()I"⟩, prog_12_method_76_code, 1, some .int, 10, 1, false) := rr_mm_of mr_204
theorem mr_205 : rr_m 205 = some (⟨"RainPurseModel", "rainsAs", "(II)I"⟩, prog_12_method_78_code, 3, some .int, 10, 3, false) := rfl
theorem nn_205 : decide ((⟨"RainPurseModel", "rainsAs", "(II)I"⟩ : MethodName).name = "<init>") = false := by decide +kernel
theorem mm_205 : rr_mm 205 = some (⟨"RainPurseModel", "rainsAs", "(II)I"⟩, prog_12_method_78_code, 3, some .int, 10, 3, false) := rr_mm_of mr_205
theorem mr_206 : rr_m 206 = some (⟨"RainPurseModel", "begins", "(I)V"⟩, prog_12_method_74_code, 2, none, 10, 2, false) := rfl
theorem nn_206 : decide ((⟨"RainPurseModel", "begins", "(I)V"⟩ : MethodName).name = "<init>") = false := by decide +kernel
theorem mm_206 : rr_mm 206 = some (⟨"RainPurseModel", "begins", "(I)V"⟩, prog_12_method_74_code, 2, none, 10, 2, false) := rr_mm_of mr_206
theorem mr_207 : rr_m 207 = some (⟨"RainPurseModel", "above", "(I)I"⟩, prog_12_method_75_code, 1, some .int, 10, 1, true) := rfl
theorem nn_207 : decide ((⟨"RainPurseModel", "above", "(I)I"⟩ : MethodName).name = "<init>") = false := by decide +kernel
theorem mm_207 : rr_mm 207 = some (⟨"RainPurseModel", "above", "(I)I"⟩, prog_12_method_75_code, 1, some .int, 10, 1, true) := rr_mm_of mr_207
theorem mr_208 : rr_m 208 = some (⟨"RainPurseModel", "owesAs", "(II)I"⟩, prog_12_method_79_code, 3, some .int, 10, 3, false) := rfl
theorem nn_208 : decide ((⟨"RainPurseModel", "owesAs", "(II)I"⟩ : MethodName).name = "<init>") = false := by decide +kernel
theorem mm_208 : rr_mm 208 = some (⟨"RainPurseModel", "owesAs", "(II)I"⟩, prog_12_method_79_code, 3, some .int, 10, 3, false) := rr_mm_of mr_208
theorem mr_209 : rr_m 209 = some (⟨"RainPurseModel", "mNow", "()I"⟩, prog_12_method_77_code, 1, some .int, 10, 1, false) := rfl
theorem nn_209 : decide ((⟨"RainPurseModel", "mNow", "()I"⟩ : MethodName).name = "<init>") = false := by decide +kernel
theorem mm_209 : rr_mm 209 = some (⟨"RainPurseModel", "mNow", "()I"⟩, prog_12_method_77_code, 1, some .int, 10, 1, false) := rr_mm_of mr_209
theorem mr_210 : rr_m 210 = some (⟨"RainPurseModel", "paysAs", "(II)I"⟩, prog_12_method_80_code, 3, some .int, 10, 3, false) := rfl
theorem nn_210 : decide ((⟨"RainPurseModel", "paysAs", "(II)I"⟩ : MethodName).name = "<init>") = false := by decide +kernel
theorem mm_210 : rr_mm 210 = some (⟨"RainPurseModel", "paysAs", "(II)I"⟩, prog_12_method_80_code, 3, some .int, 10, 3, false) := rr_mm_of mr_210
theorem mr_211 : rr_m 211 = some (⟨"RainPurseModel", "partsAs", "(II)I"⟩, prog_12_method_81_code, 5, some .int, 10, 3, false) := rfl
theorem nn_211 : decide ((⟨"RainPurseModel", "partsAs", "(II)I"⟩ : MethodName).name = "<init>") = false := by decide +kernel
theorem mm_211 : rr_mm 211 = some (⟨"RainPurseModel", "partsAs", "(II)I"⟩, prog_12_method_81_code, 5, some .int, 10, 3, false) := rr_mm_of mr_211
theorem mr_212 : rr_m 212 = some (⟨"RainPurseModel", "body", "(I)I"⟩, prog_12_method_83_code, 2, some .int, 10, 2, false) := rfl
theorem nn_212 : decide ((⟨"RainPurseModel", "body", "(I)I"⟩ : MethodName).name = "<init>") = false := by decide +kernel
theorem mm_212 : rr_mm 212 = some (⟨"RainPurseModel", "body", "(I)I"⟩, prog_12_method_83_code, 2, some .int, 10, 2, false) := rr_mm_of mr_212
theorem mr_213 : rr_m 213 = some (⟨"RainPurseModel", "sheet", "(III)I"⟩, prog_12_method_85_code, 5, some .int, 10, 4, false) := rfl
theorem nn_213 : decide ((⟨"RainPurseModel", "sheet", "(III)I"⟩ : MethodName).name = "<init>") = false := by decide +kernel
theorem mm_213 : rr_mm 213 = some (⟨"RainPurseModel", "sheet", "(III)I"⟩, prog_12_method_85_code, 5, some .int, 10, 4, false) := rr_mm_of mr_213
theorem mr_214 : rr_m 214 = some (⟨"RainPurseModel", "isSheet", "(I)Z"⟩, prog_12_method_84_code, 1, some .boolean, 10, 1, true) := rfl
theorem nn_214 : decide ((⟨"RainPurseModel", "isSheet", "(I)Z"⟩ : MethodName).name = "<init>") = false := by decide +kernel
theorem mm_214 : rr_mm 214 = some (⟨"RainPurseModel", "isSheet", "(I)Z"⟩, prog_12_method_84_code, 1, some .boolean, 10, 1, true) := rr_mm_of mr_214
theorem mr_215 : rr_m 215 = some (⟨"RainPurseModel", "put", "(III)I"⟩, prog_12_method_86_code, 5, some .int, 10, 4, false) := rfl
theorem nn_215 : decide ((⟨"RainPurseModel", "put", "(III)I"⟩ : MethodName).name = "<init>") = false := by decide +kernel
theorem mm_215 : rr_mm 215 = some (⟨"RainPurseModel", "put", "(III)I"⟩, prog_12_method_86_code, 5, some .int, 10, 4, false) := rr_mm_of mr_215
theorem mr_216 : rr_m 216 = some (⟨"RainPurseModel", "move", "(IIIII)I"⟩, prog_12_method_87_code, 7, some .int, 10, 6, false) := rfl
theorem nn_216 : decide ((⟨"RainPurseModel", "move", "(IIIII)I"⟩ : MethodName).name = "<init>") = false := by decide +kernel
theorem mm_216 : rr_mm 216 = some (⟨"RainPurseModel", "move", "(IIIII)I"⟩, prog_12_method_87_code, 7, some .int, 10, 6, false) := rr_mm_of mr_216
theorem mr_217 : rr_m 217 = some (⟨"RainPurseModel", "rains", "(I)I"⟩, prog_12_method_89_code, 4, some .int, 10, 2, false) := rfl
theorem nn_217 : decide ((⟨"RainPurseModel", "rains", "(I)I"⟩ : MethodName).name = "<init>") = false := by decide +kernel
theorem mm_217 : rr_mm 217 = some (⟨"RainPurseModel", "rains", "(I)I"⟩, prog_12_method_89_code, 4, some .int, 10, 2, false) := rr_mm_of mr_217
theorem mr_218 : rr_m 218 = some (⟨"RainPurseModel", "lacks", "(I)I"⟩, prog_12_method_88_code, 2, some .int, 10, 2, false) := rfl
theorem nn_218 : decide ((⟨"RainPurseModel", "lacks", "(I)I"⟩ : MethodName).name = "<init>") = false := by decide +kernel
theorem mm_218 : rr_mm 218 = some (⟨"RainPurseModel", "lacks", "(I)I"⟩, prog_12_method_88_code, 2, some .int, 10, 2, false) := rr_mm_of mr_218
theorem mr_219 : rr_m 219 = some (⟨"RainPurseModel", "judge", "(I)I"⟩, prog_12_method_90_code, 7, some .int, 10, 2, false) := rfl
theorem nn_219 : decide ((⟨"RainPurseModel", "judge", "(I)I"⟩ : MethodName).name = "<init>") = false := by decide +kernel
theorem mm_219 : rr_mm 219 = some (⟨"RainPurseModel", "judge", "(I)I"⟩, prog_12_method_90_code, 7, some .int, 10, 2, false) := rr_mm_of mr_219
theorem mr_220 : rr_m 220 = some (⟨"RainPurseModel", "play", "(I)I"⟩, prog_12_method_91_code, 5, some .int, 10, 2, false) := rfl
theorem nn_220 : decide ((⟨"RainPurseModel", "play", "(I)I"⟩ : MethodName).name = "<init>") = false := by decide +kernel
theorem mm_220 : rr_mm 220 = some (⟨"RainPurseModel", "play", "(I)I"⟩, prog_12_method_91_code, 5, some .int, 10, 2, false) := rr_mm_of mr_220
theorem mr_221 : rr_m 221 = some (⟨"RainPurseModel", "image", "()I"⟩, prog_12_method_92_code, 1, some .int, 10, 1, false) := rfl
theorem nn_221 : decide ((⟨"RainPurseModel", "image", "()I"⟩ : MethodName).name = "<init>") = false := by decide +kernel
theorem mm_221 : rr_mm 221 = some (⟨"RainPurseModel", "image", "()I"⟩, prog_12_method_92_code, 1, some .int, 10, 1, false) := rr_mm_of mr_221
theorem mr_222 : rr_m 222 = some (⟨"RainPurseModel", "restore", "()I"⟩, prog_12_method_93_code, 1, some .int, 10, 1, false) := rfl
theorem nn_222 : decide ((⟨"RainPurseModel", "restore", "()I"⟩ : MethodName).name = "<init>") = false := by decide +kernel
theorem mm_222 : rr_mm 222 = some (⟨"RainPurseModel", "restore", "()I"⟩, prog_12_method_93_code, 1, some .int, 10, 1, false) := rr_mm_of mr_222
theorem mr_223 : rr_m 223 = some (⟨"RainPurseModel", "tell", "(I)I"⟩, prog_12_method_94_code, 2, some .int, 10, 2, false) := rfl
theorem nn_223 : decide ((⟨"RainPurseModel", "tell", "(I)I"⟩ : MethodName).name = "<init>") = false := by decide +kernel
theorem mm_223 : rr_mm 223 = some (⟨"RainPurseModel", "tell", "(I)I"⟩, prog_12_method_94_code, 2, some .int, 10, 2, false) := rr_mm_of mr_223
theorem mr_224 : rr_m 224 = some (⟨"RainPurseModel", "check", "()I"⟩, prog_12_method_95_code, 3, some .int, 10, 1, false) := rfl
theorem nn_224 : decide ((⟨"RainPurseModel", "check", "()I"⟩ : MethodName).name = "<init>") = false := by decide +kernel
theorem mm_224 : rr_mm 224 = some (⟨"RainPurseModel", "check", "()I"⟩, prog_12_method_95_code, 3, some .int, 10, 1, false) := rr_mm_of mr_224
theorem mr_225 : rr_m 225 = some (⟨"RainPurseModel", "count", "(I)I"⟩, prog_12_method_96_code, 2, some .int, 10, 2, false) := rfl
theorem nn_225 : decide ((⟨"RainPurseModel", "count", "(I)I"⟩ : MethodName).name = "<init>") = false := by decide +kernel
theorem mm_225 : rr_mm 225 = some (⟨"RainPurseModel", "count", "(I)I"⟩, prog_12_method_96_code, 2, some .int, 10, 2, false) := rr_mm_of mr_225
theorem mr_226 : rr_m 226 = some (⟨"RainPurseModel", "told", "(I)I"⟩, prog_12_method_97_code, 2, some .int, 10, 2, false) := rfl
theorem nn_226 : decide ((⟨"RainPurseModel", "told", "(I)I"⟩ : MethodName).name = "<init>") = false := by decide +kernel
theorem mm_226 : rr_mm 226 = some (⟨"RainPurseModel", "told", "(I)I"⟩, prog_12_method_97_code, 2, some .int, 10, 2, false) := rr_mm_of mr_226
theorem mm_500 : rr_mm 500 = some (x, code, maxLocals, ret, 11, 1, true) := rfl
theorem ff_0_11 : rr_fl 0 11 = some (0, 0, 3, 1) := by decide +kernel
theorem ff_0_15 : rr_fl 0 15 = some (0, 1, 3, 1) := by decide +kernel
theorem ff_0_18 : rr_fl 0 18 = some (0, 3, 3, 1) := by decide +kernel
theorem ff_0_21 : rr_fl 0 21 = some (0, 4, 3, 1) := by decide +kernel
theorem ff_0_24 : rr_fl 0 24 = some (0, 5, 3, 1) := by decide +kernel
theorem ff_0_27 : rr_fl 0 27 = some (0, 6, 3, 1) := by decide +kernel
theorem ff_0_44 : rr_fl 0 44 = some (0, 9, 0, 0) := by decide +kernel
theorem ff_0_52 : rr_fl 0 52 = some (6, 3, 3, 1) := by decide +kernel
theorem ff_0_55 : rr_fl 0 55 = some (0, 8, 0, 0) := by decide +kernel
theorem ff_0_58 : rr_fl 0 58 = some (0, 11, 0, 0) := by decide +kernel
theorem ff_0_61 : rr_fl 0 61 = some (0, 7, 0, 0) := by decide +kernel
theorem ff_0_80 : rr_fl 0 80 = some (0, 10, 0, 0) := by decide +kernel
theorem ff_0_83 : rr_fl 0 83 = some (0, 12, 1, 0) := by decide +kernel
theorem ff_0_87 : rr_fl 0 87 = some (0, 2, 0, 0) := by decide +kernel
theorem ff_0_98 : rr_fl 0 98 = some (6, 12, 0, 0) := by decide +kernel
theorem ff_0_101 : rr_fl 0 101 = some (6, 10, 3, 1) := by decide +kernel
theorem ff_0_114 : rr_fl 0 114 = some (6, 5, 0, 0) := by decide +kernel
theorem ff_0_117 : rr_fl 0 117 = some (6, 2, 3, 1) := by decide +kernel
theorem ff_0_120 : rr_fl 0 120 = some (6, 11, 3, 1) := by decide +kernel
theorem ff_0_124 : rr_fl 0 124 = some (6, 7, 0, 0) := by decide +kernel
theorem ff_1_9 : rr_fl 1 9 = some (1, 4, 3, 1) := by decide +kernel
theorem ff_1_15 : rr_fl 1 15 = some (6, 5, 0, 0) := by decide +kernel
theorem ff_1_31 : rr_fl 1 31 = some (1, 0, 0, 0) := by decide +kernel
theorem ff_1_48 : rr_fl 1 48 = some (1, 1, 0, 0) := by decide +kernel
theorem ff_1_51 : rr_fl 1 51 = some (1, 2, 0, 0) := by decide +kernel
theorem ff_1_54 : rr_fl 1 54 = some (1, 3, 0, 0) := by decide +kernel
theorem ff_1_57 : rr_fl 1 57 = some (6, 1, 3, 1) := by decide +kernel
theorem ff_1_63 : rr_fl 1 63 = some (6, 8, 0, 0) := by decide +kernel
theorem ff_1_66 : rr_fl 1 66 = some (6, 9, 0, 0) := by decide +kernel
theorem ff_2_12 : rr_fl 2 12 = some (2, 0, 3, 1) := by decide +kernel
theorem ff_2_23 : rr_fl 2 23 = some (2, 1, 3, 1) := by decide +kernel
theorem ff_2_34 : rr_fl 2 34 = some (2, 2, 0, 0) := by decide +kernel
theorem ff_2_38 : rr_fl 2 38 = some (2, 3, 0, 0) := by decide +kernel
theorem ff_3_13 : rr_fl 3 13 = some (3, 0, 3, 1) := by decide +kernel
theorem ff_3_19 : rr_fl 3 19 = some (3, 1, 0, 0) := by decide +kernel
theorem ff_4_9 : rr_fl 4 9 = some (4, 3, 3, 1) := by decide +kernel
theorem ff_4_15 : rr_fl 4 15 = some (4, 4, 3, 1) := by decide +kernel
theorem ff_4_18 : rr_fl 4 18 = some (4, 0, 0, 0) := by decide +kernel
theorem ff_4_22 : rr_fl 4 22 = some (4, 2, 0, 0) := by decide +kernel
theorem ff_4_29 : rr_fl 4 29 = some (4, 1, 0, 0) := by decide +kernel
theorem ff_5_9 : rr_fl 5 9 = some (5, 2, 3, 1) := by decide +kernel
theorem ff_5_15 : rr_fl 5 15 = some (5, 0, 0, 0) := by decide +kernel
theorem ff_5_28 : rr_fl 5 28 = some (5, 1, 0, 0) := by decide +kernel
theorem ff_6_9 : rr_fl 6 9 = some (6, 0, 3, 1) := by decide +kernel
theorem ff_6_15 : rr_fl 6 15 = some (6, 1, 3, 1) := by decide +kernel
theorem ff_6_18 : rr_fl 6 18 = some (6, 2, 3, 1) := by decide +kernel
theorem ff_6_21 : rr_fl 6 21 = some (6, 3, 3, 1) := by decide +kernel
theorem ff_6_24 : rr_fl 6 24 = some (6, 4, 3, 1) := by decide +kernel
theorem ff_6_32 : rr_fl 6 32 = some (6, 6, 3, 1) := by decide +kernel
theorem ff_6_36 : rr_fl 6 36 = some (6, 7, 0, 0) := by decide +kernel
theorem ff_6_40 : rr_fl 6 40 = some (6, 8, 0, 0) := by decide +kernel
theorem ff_6_43 : rr_fl 6 43 = some (6, 9, 0, 0) := by decide +kernel
theorem ff_6_46 : rr_fl 6 46 = some (6, 10, 3, 1) := by decide +kernel
theorem ff_6_51 : rr_fl 6 51 = some (6, 11, 3, 1) := by decide +kernel
theorem ff_6_54 : rr_fl 6 54 = some (6, 13, 0, 0) := by decide +kernel
theorem ff_6_57 : rr_fl 6 57 = some (6, 14, 3, 1) := by decide +kernel
theorem ff_6_60 : rr_fl 6 60 = some (6, 15, 3, 1) := by decide +kernel
theorem ff_6_66 : rr_fl 6 66 = some (6, 16, 3, 1) := by decide +kernel
theorem ff_6_70 : rr_fl 6 70 = some (6, 17, 3, 1) := by decide +kernel
theorem ff_6_79 : rr_fl 6 79 = some (6, 5, 0, 0) := by decide +kernel
theorem ff_6_86 : rr_fl 6 86 = some (6, 12, 0, 0) := by decide +kernel
theorem ff_7_9 : rr_fl 7 9 = some (7, 0, 3, 1) := by decide +kernel
theorem ff_7_15 : rr_fl 7 15 = some (7, 1, 3, 1) := by decide +kernel
theorem ff_7_18 : rr_fl 7 18 = some (7, 2, 0, 0) := by decide +kernel
theorem ff_8_14 : rr_fl 8 14 = some (8, 0, 3, 1) := by decide +kernel
theorem ff_8_23 : rr_fl 8 23 = some (8, 1, 1, 0) := by decide +kernel
theorem ff_8_27 : rr_fl 8 27 = some (8, 2, 0, 0) := by decide +kernel
theorem ff_8_31 : rr_fl 8 31 = some (8, 3, 0, 0) := by decide +kernel
theorem ff_8_34 : rr_fl 8 34 = some (8, 4, 0, 0) := by decide +kernel
theorem ff_9_10 : rr_fl 9 10 = some (9, 0, 3, 1) := by decide +kernel
theorem ff_9_16 : rr_fl 9 16 = some (9, 3, 3, 1) := by decide +kernel
theorem ff_9_22 : rr_fl 9 22 = some (9, 4, 3, 1) := by decide +kernel
theorem ff_9_29 : rr_fl 9 29 = some (9, 5, 3, 1) := by decide +kernel
theorem ff_9_36 : rr_fl 9 36 = some (9, 6, 3, 1) := by decide +kernel
theorem ff_9_43 : rr_fl 9 43 = some (9, 7, 3, 1) := by decide +kernel
theorem ff_9_50 : rr_fl 9 50 = some (9, 8, 3, 1) := by decide +kernel
theorem ff_9_54 : rr_fl 9 54 = some (9, 9, 3, 1) := by decide +kernel
theorem ff_9_57 : rr_fl 9 57 = some (9, 10, 3, 1) := by decide +kernel
theorem ff_9_70 : rr_fl 9 70 = some (6, 5, 0, 0) := by decide +kernel
theorem ff_9_81 : rr_fl 9 81 = some (6, 0, 3, 1) := by decide +kernel
theorem ff_9_84 : rr_fl 9 84 = some (6, 1, 3, 1) := by decide +kernel
theorem ff_9_87 : rr_fl 9 87 = some (6, 2, 3, 1) := by decide +kernel
theorem ff_9_90 : rr_fl 9 90 = some (6, 3, 3, 1) := by decide +kernel
theorem ff_9_93 : rr_fl 9 93 = some (6, 7, 0, 0) := by decide +kernel
theorem ff_9_107 : rr_fl 9 107 = some (6, 6, 3, 1) := by decide +kernel
theorem ff_9_136 : rr_fl 9 136 = some (6, 14, 3, 1) := by decide +kernel
theorem ff_9_152 : rr_fl 9 152 = some (2, 0, 3, 1) := by decide +kernel
theorem ff_9_167 : rr_fl 9 167 = some (6, 12, 0, 0) := by decide +kernel
theorem ff_9_177 : rr_fl 9 177 = some (4, 0, 0, 0) := by decide +kernel
theorem ff_9_185 : rr_fl 9 185 = some (4, 1, 0, 0) := by decide +kernel
theorem ff_9_188 : rr_fl 9 188 = some (4, 2, 0, 0) := by decide +kernel
theorem ff_9_204 : rr_fl 9 204 = some (6, 8, 0, 0) := by decide +kernel
theorem ff_9_207 : rr_fl 9 207 = some (6, 9, 0, 0) := by decide +kernel
theorem ff_9_213 : rr_fl 9 213 = some (1, 0, 0, 0) := by decide +kernel
theorem ff_9_216 : rr_fl 9 216 = some (1, 1, 0, 0) := by decide +kernel
theorem ff_9_219 : rr_fl 9 219 = some (1, 2, 0, 0) := by decide +kernel
theorem ff_9_222 : rr_fl 9 222 = some (1, 3, 0, 0) := by decide +kernel
theorem ff_9_225 : rr_fl 9 225 = some (6, 10, 3, 1) := by decide +kernel
theorem ff_9_231 : rr_fl 9 231 = some (6, 11, 3, 1) := by decide +kernel
theorem ff_9_245 : rr_fl 9 245 = some (6, 13, 0, 0) := by decide +kernel
theorem ff_9_293 : rr_fl 9 293 = some (8, 1, 1, 0) := by decide +kernel
theorem ff_9_297 : rr_fl 9 297 = some (8, 0, 3, 1) := by decide +kernel
theorem ff_9_306 : rr_fl 9 306 = some (5, 1, 0, 0) := by decide +kernel
theorem ff_9_308 : rr_fl 9 308 = some (5, 0, 0, 0) := by decide +kernel
theorem ff_9_314 : rr_fl 9 314 = some (5, 2, 3, 1) := by decide +kernel
theorem ff_9_331 : rr_fl 9 331 = some (9, 1, 3, 0) := by decide +kernel
theorem ff_9_336 : rr_fl 9 336 = some (9, 2, 0, 0) := by decide +kernel
theorem ff_9_339 : rr_fl 9 339 = some (6, 15, 3, 1) := by decide +kernel
theorem ff_9_348 : rr_fl 9 348 = some (9, 11, 3, 0) := by decide +kernel
theorem ff_10_7 : rr_fl 10 7 = some (10, 0, 3, 1) := by decide +kernel
theorem ff_10_13 : rr_fl 10 13 = some (10, 1, 3, 1) := by decide +kernel
theorem ff_10_16 : rr_fl 10 16 = some (10, 2, 3, 1) := by decide +kernel
theorem ff_10_19 : rr_fl 10 19 = some (10, 4, 3, 1) := by decide +kernel
theorem ff_10_22 : rr_fl 10 22 = some (10, 9, 3, 1) := by decide +kernel
theorem ff_10_25 : rr_fl 10 25 = some (10, 10, 3, 1) := by decide +kernel
theorem ff_10_28 : rr_fl 10 28 = some (10, 11, 3, 1) := by decide +kernel
theorem ff_10_31 : rr_fl 10 31 = some (10, 12, 3, 1) := by decide +kernel
theorem ff_10_34 : rr_fl 10 34 = some (10, 13, 3, 1) := by decide +kernel
theorem ff_10_37 : rr_fl 10 37 = some (10, 14, 3, 1) := by decide +kernel
theorem ff_10_40 : rr_fl 10 40 = some (10, 15, 3, 1) := by decide +kernel
theorem ff_10_43 : rr_fl 10 43 = some (10, 16, 3, 1) := by decide +kernel
theorem ff_10_46 : rr_fl 10 46 = some (10, 17, 3, 1) := by decide +kernel
theorem ff_10_49 : rr_fl 10 49 = some (10, 19, 3, 1) := by decide +kernel
theorem ff_10_52 : rr_fl 10 52 = some (10, 23, 3, 1) := by decide +kernel
theorem ff_10_55 : rr_fl 10 55 = some (10, 24, 3, 1) := by decide +kernel
theorem ff_10_58 : rr_fl 10 58 = some (10, 25, 3, 1) := by decide +kernel
theorem ff_10_61 : rr_fl 10 61 = some (10, 26, 3, 1) := by decide +kernel
theorem ff_10_64 : rr_fl 10 64 = some (10, 27, 3, 1) := by decide +kernel
theorem ff_10_79 : rr_fl 10 79 = some (10, 5, 0, 0) := by decide +kernel
theorem ff_10_83 : rr_fl 10 83 = some (10, 8, 0, 0) := by decide +kernel
theorem ff_10_86 : rr_fl 10 86 = some (10, 7, 0, 0) := by decide +kernel
theorem ff_10_113 : rr_fl 10 113 = some (10, 6, 0, 0) := by decide +kernel
theorem ff_10_228 : rr_fl 10 228 = some (10, 18, 0, 0) := by decide +kernel
theorem ff_10_252 : rr_fl 10 252 = some (10, 20, 0, 0) := by decide +kernel
theorem ff_10_255 : rr_fl 10 255 = some (10, 21, 0, 0) := by decide +kernel
theorem ff_10_279 : rr_fl 10 279 = some (10, 22, 1, 0) := by decide +kernel
theorem ff_10_292 : rr_fl 10 292 = some (10, 3, 0, 0) := by decide +kernel
theorem ll_0_5 : rr_ml 0 5 = some (1000, 0) := by decide +kernel
theorem ll_0_30 : rr_ml 0 30 = some (92, 0) := by decide +kernel
theorem ll_0_36 : rr_ml 0 36 = some (94, 0) := by decide +kernel
theorem ll_0_40 : rr_ml 0 40 = some (95, 0) := by decide +kernel
theorem ll_0_48 : rr_ml 0 48 = some (15, 0) := by decide +kernel
theorem ll_0_64 : rr_ml 0 64 = some (1002, 0) := by decide +kernel
theorem ll_0_70 : rr_ml 0 70 = some (98, 0) := by decide +kernel
theorem ll_0_76 : rr_ml 0 76 = some (99, 0) := by decide +kernel
theorem ll_0_90 : rr_ml 0 90 = some (96, 0) := by decide +kernel
theorem ll_0_94 : rr_ml 0 94 = some (97, 0) := by decide +kernel
theorem ll_0_105 : rr_ml 0 105 = some (23, 1) := by decide +kernel
theorem ll_0_111 : rr_ml 0 111 = some (1003, 0) := by decide +kernel
theorem ll_0_127 : rr_ml 0 127 = some (25, 0) := by decide +kernel
theorem ll_1_3 : rr_ml 1 3 = some (1000, 0) := by decide +kernel
theorem ll_1_21 : rr_ml 1 21 = some (1003, 0) := by decide +kernel
theorem ll_1_27 : rr_ml 1 27 = some (70, 0) := by decide +kernel
theorem ll_1_34 : rr_ml 1 34 = some (63, 0) := by decide +kernel
theorem ll_1_40 : rr_ml 1 40 = some (71, 0) := by decide +kernel
theorem ll_1_44 : rr_ml 1 44 = some (72, 0) := by decide +kernel
theorem ll_1_60 : rr_ml 1 60 = some (1004, 0) := by decide +kernel
theorem ll_2_3 : rr_ml 2 3 = some (1000, 0) := by decide +kernel
theorem ll_2_11 : rr_ml 2 11 = some (3, 1) := by decide +kernel
theorem ll_2_20 : rr_ml 2 20 = some (2, 0) := by decide +kernel
theorem ll_2_27 : rr_ml 2 27 = some (41, 0) := by decide +kernel
theorem ll_2_31 : rr_ml 2 31 = some (42, 0) := by decide +kernel
theorem ll_2_41 : rr_ml 2 41 = some (43, 0) := by decide +kernel
theorem ll_2_45 : rr_ml 2 45 = some (30, 0) := by decide +kernel
theorem ll_2_49 : rr_ml 2 49 = some (44, 0) := by decide +kernel
theorem ll_2_53 : rr_ml 2 53 = some (45, 0) := by decide +kernel
theorem ll_2_56 : rr_ml 2 56 = some (53, 0) := by decide +kernel
theorem ll_2_60 : rr_ml 2 60 = some (50, 0) := by decide +kernel
theorem ll_2_63 : rr_ml 2 63 = some (46, 0) := by decide +kernel
theorem ll_2_66 : rr_ml 2 66 = some (47, 0) := by decide +kernel
theorem ll_2_69 : rr_ml 2 69 = some (49, 0) := by decide +kernel
theorem ll_2_72 : rr_ml 2 72 = some (51, 0) := by decide +kernel
theorem ll_2_75 : rr_ml 2 75 = some (52, 0) := by decide +kernel
theorem ll_2_78 : rr_ml 2 78 = some (48, 0) := by decide +kernel
theorem ll_2_81 : rr_ml 2 81 = some (19, 0) := by decide +kernel
theorem ll_3_1 : rr_ml 3 1 = some (1000, 0) := by decide +kernel
theorem ll_3_7 : rr_ml 3 7 = some (1002, 0) := by decide +kernel
theorem ll_3_23 : rr_ml 3 23 = some (18, 0) := by decide +kernel
theorem ll_3_27 : rr_ml 3 27 = some (1003, 0) := by decide +kernel
theorem ll_3_30 : rr_ml 3 30 = some (1001, 0) := by decide +kernel
theorem ll_4_3 : rr_ml 4 3 = some (1000, 0) := by decide +kernel
theorem ll_4_25 : rr_ml 4 25 = some (62, 0) := by decide +kernel
theorem ll_4_32 : rr_ml 4 32 = some (1002, 0) := by decide +kernel
theorem ll_5_3 : rr_ml 5 3 = some (1000, 0) := by decide +kernel
theorem ll_5_19 : rr_ml 5 19 = some (1003, 0) := by decide +kernel
theorem ll_5_25 : rr_ml 5 25 = some (1002, 0) := by decide +kernel
theorem ll_6_3 : rr_ml 6 3 = some (1000, 0) := by decide +kernel
theorem ll_6_29 : rr_ml 6 29 = some (2, 0) := by decide +kernel
theorem ll_6_65 : rr_ml 6 65 = some (3, 1) := by decide +kernel
theorem ll_6_73 : rr_ml 6 73 = some (1001, 0) := by decide +kernel
theorem ll_6_82 : rr_ml 6 82 = some (41, 0) := by decide +kernel
theorem ll_6_89 : rr_ml 6 89 = some (56, 0) := by decide +kernel
theorem ll_6_92 : rr_ml 6 92 = some (20, 0) := by decide +kernel
theorem ll_6_96 : rr_ml 6 96 = some (21, 0) := by decide +kernel
theorem ll_6_100 : rr_ml 6 100 = some (23, 1) := by decide +kernel
theorem ll_6_104 : rr_ml 6 104 = some (18, 0) := by decide +kernel
theorem ll_6_108 : rr_ml 6 108 = some (15, 0) := by decide +kernel
theorem ll_6_111 : rr_ml 6 111 = some (19, 0) := by decide +kernel
theorem ll_6_115 : rr_ml 6 115 = some (93, 0) := by decide +kernel
theorem ll_6_118 : rr_ml 6 118 = some (17, 0) := by decide +kernel
theorem ll_6_121 : rr_ml 6 121 = some (16, 0) := by decide +kernel
theorem ll_6_124 : rr_ml 6 124 = some (25, 0) := by decide +kernel
theorem ll_6_129 : rr_ml 6 129 = some (10, 1) := by decide +kernel
theorem ll_6_133 : rr_ml 6 133 = some (59, 0) := by decide +kernel
theorem ll_6_137 : rr_ml 6 137 = some (74, 0) := by decide +kernel
theorem ll_6_141 : rr_ml 6 141 = some (30, 0) := by decide +kernel
theorem ll_6_143 : rr_ml 6 143 = some (82, 0) := by decide +kernel
theorem ll_6_147 : rr_ml 6 147 = some (1004, 0) := by decide +kernel
theorem ll_7_3 : rr_ml 7 3 = some (1000, 0) := by decide +kernel
theorem ll_7_22 : rr_ml 7 22 = some (1001, 0) := by decide +kernel
theorem ll_7_28 : rr_ml 7 28 = some (48, 0) := by decide +kernel
theorem ll_7_32 : rr_ml 7 32 = some (22, 0) := by decide +kernel
theorem ll_8_3 : rr_ml 8 3 = some (1000, 0) := by decide +kernel
theorem ll_8_11 : rr_ml 8 11 = some (2, 0) := by decide +kernel
theorem ll_8_20 : rr_ml 8 20 = some (54, 0) := by decide +kernel
theorem ll_8_37 : rr_ml 8 37 = some (106, 0) := by decide +kernel
theorem ll_8_41 : rr_ml 8 41 = some (107, 0) := by decide +kernel
theorem ll_8_49 : rr_ml 8 49 = some (29, 0) := by decide +kernel
theorem ll_8_56 : rr_ml 8 56 = some (108, 0) := by decide +kernel
theorem ll_8_60 : rr_ml 8 60 = some (10, 1) := by decide +kernel
theorem ll_9_1 : rr_ml 9 1 = some (1000, 0) := by decide +kernel
theorem ll_9_9 : rr_ml 9 9 = some (1, 1) := by decide +kernel
theorem ll_9_28 : rr_ml 9 28 = some (4, 1) := by decide +kernel
theorem ll_9_35 : rr_ml 9 35 = some (5, 1) := by decide +kernel
theorem ll_9_42 : rr_ml 9 42 = some (6, 1) := by decide +kernel
theorem ll_9_49 : rr_ml 9 49 = some (7, 1) := by decide +kernel
theorem ll_9_61 : rr_ml 9 61 = some (8, 1) := by decide +kernel
theorem ll_9_62 : rr_ml 9 62 = some (10, 0) := by decide +kernel
theorem ll_9_66 : rr_ml 9 66 = some (11, 0) := by decide +kernel
theorem ll_9_74 : rr_ml 9 74 = some (13, 0) := by decide +kernel
theorem ll_9_77 : rr_ml 9 77 = some (15, 0) := by decide +kernel
theorem ll_9_96 : rr_ml 9 96 = some (16, 0) := by decide +kernel
theorem ll_9_100 : rr_ml 9 100 = some (24, 0) := by decide +kernel
theorem ll_9_104 : rr_ml 9 104 = some (26, 0) := by decide +kernel
theorem ll_9_111 : rr_ml 9 111 = some (29, 0) := by decide +kernel
theorem ll_9_116 : rr_ml 9 116 = some (30, 0) := by decide +kernel
theorem ll_9_119 : rr_ml 9 119 = some (18, 0) := by decide +kernel
theorem ll_9_122 : rr_ml 9 122 = some (19, 0) := by decide +kernel
theorem ll_9_125 : rr_ml 9 125 = some (32, 0) := by decide +kernel
theorem ll_9_128 : rr_ml 9 128 = some (34, 0) := by decide +kernel
theorem ll_9_132 : rr_ml 9 132 = some (36, 0) := by decide +kernel
theorem ll_9_141 : rr_ml 9 141 = some (40, 0) := by decide +kernel
theorem ll_9_145 : rr_ml 9 145 = some (54, 0) := by decide +kernel
theorem ll_9_148 : rr_ml 9 148 = some (55, 0) := by decide +kernel
theorem ll_9_156 : rr_ml 9 156 = some (56, 0) := by decide +kernel
theorem ll_9_162 : rr_ml 9 162 = some (20, 0) := by decide +kernel
theorem ll_9_166 : rr_ml 9 166 = some (42, 0) := by decide +kernel
theorem ll_9_170 : rr_ml 9 170 = some (59, 0) := by decide +kernel
theorem ll_9_173 : rr_ml 9 173 = some (61, 0) := by decide +kernel
theorem ll_9_180 : rr_ml 9 180 = some (63, 0) := by decide +kernel
theorem ll_9_191 : rr_ml 9 191 = some (1002, 0) := by decide +kernel
theorem ll_9_196 : rr_ml 9 196 = some (17, 0) := by decide +kernel
theorem ll_9_200 : rr_ml 9 200 = some (66, 0) := by decide +kernel
theorem ll_9_210 : rr_ml 9 210 = some (69, 0) := by decide +kernel
theorem ll_9_228 : rr_ml 9 228 = some (74, 0) := by decide +kernel
theorem ll_9_235 : rr_ml 9 235 = some (77, 0) := by decide +kernel
theorem ll_9_238 : rr_ml 9 238 = some (78, 0) := by decide +kernel
theorem ll_9_241 : rr_ml 9 241 = some (79, 0) := by decide +kernel
theorem ll_9_248 : rr_ml 9 248 = some (82, 0) := by decide +kernel
theorem ll_9_254 : rr_ml 9 254 = some (83, 0) := by decide +kernel
theorem ll_9_258 : rr_ml 9 258 = some (86, 0) := by decide +kernel
theorem ll_9_262 : rr_ml 9 262 = some (88, 0) := by decide +kernel
theorem ll_9_266 : rr_ml 9 266 = some (89, 0) := by decide +kernel
theorem ll_9_270 : rr_ml 9 270 = some (91, 0) := by decide +kernel
theorem ll_9_276 : rr_ml 9 276 = some (98, 0) := by decide +kernel
theorem ll_9_279 : rr_ml 9 279 = some (99, 0) := by decide +kernel
theorem ll_9_283 : rr_ml 9 283 = some (101, 0) := by decide +kernel
theorem ll_9_286 : rr_ml 9 286 = some (103, 0) := by decide +kernel
theorem ll_9_290 : rr_ml 9 290 = some (105, 0) := by decide +kernel
theorem ll_9_300 : rr_ml 9 300 = some (111, 0) := by decide +kernel
theorem ll_9_303 : rr_ml 9 303 = some (113, 0) := by decide +kernel
theorem ll_9_307 : rr_ml 9 307 = some (114, 0) := by decide +kernel
theorem ll_9_311 : rr_ml 9 311 = some (116, 0) := by decide +kernel
theorem ll_9_317 : rr_ml 9 317 = some (1001, 0) := by decide +kernel
theorem ll_9_323 : rr_ml 9 323 = some (118, 0) := by decide +kernel
theorem ll_9_324 : rr_ml 9 324 = some (120, 0) := by decide +kernel
theorem ll_9_328 : rr_ml 9 328 = some (121, 0) := by decide +kernel
theorem ll_9_334 : rr_ml 9 334 = some (124, 0) := by decide +kernel
theorem ll_9_342 : rr_ml 9 342 = some (12, 0) := by decide +kernel
theorem ll_9_352 : rr_ml 9 352 = some (90, 1) := by decide +kernel
theorem ll_9_353 : rr_ml 9 353 = some (1003, 0) := by decide +kernel
theorem ll_9_359 : rr_ml 9 359 = some (1005, 0) := by decide +kernel
theorem ll_9_363 : rr_ml 9 363 = some (84, 0) := by decide +kernel
theorem ll_9_367 : rr_ml 9 367 = some (1006, 0) := by decide +kernel
theorem ll_10_1 : rr_ml 10 1 = some (1000, 0) := by decide +kernel
theorem ll_10_69 : rr_ml 10 69 = some (132, 0) := by decide +kernel
theorem ll_10_73 : rr_ml 10 73 = some (133, 0) := by decide +kernel
theorem ll_10_89 : rr_ml 10 89 = some (136, 0) := by decide +kernel
theorem ll_10_93 : rr_ml 10 93 = some (141, 0) := by decide +kernel
theorem ll_10_97 : rr_ml 10 97 = some (143, 0) := by decide +kernel
theorem ll_10_101 : rr_ml 10 101 = some (137, 0) := by decide +kernel
theorem ll_10_104 : rr_ml 10 104 = some (138, 0) := by decide +kernel
theorem ll_10_107 : rr_ml 10 107 = some (139, 0) := by decide +kernel
theorem ll_10_110 : rr_ml 10 110 = some (140, 0) := by decide +kernel
theorem ll_10_116 : rr_ml 10 116 = some (142, 0) := by decide +kernel
theorem ll_10_120 : rr_ml 10 120 = some (144, 0) := by decide +kernel
theorem ll_10_123 : rr_ml 10 123 = some (135, 0) := by decide +kernel
theorem ll_10_126 : rr_ml 10 126 = some (146, 0) := by decide +kernel
theorem ll_10_129 : rr_ml 10 129 = some (160, 0) := by decide +kernel
theorem ll_10_133 : rr_ml 10 133 = some (154, 0) := by decide +kernel
theorem ll_10_137 : rr_ml 10 137 = some (155, 0) := by decide +kernel
theorem ll_10_140 : rr_ml 10 140 = some (158, 0) := by decide +kernel
theorem ll_10_143 : rr_ml 10 143 = some (159, 0) := by decide +kernel
theorem ll_10_146 : rr_ml 10 146 = some (156, 0) := by decide +kernel
theorem ll_10_149 : rr_ml 10 149 = some (157, 0) := by decide +kernel
theorem ll_10_152 : rr_ml 10 152 = some (153, 0) := by decide +kernel
theorem ll_10_155 : rr_ml 10 155 = some (152, 0) := by decide +kernel
theorem ll_10_158 : rr_ml 10 158 = some (148, 0) := by decide +kernel
theorem ll_10_162 : rr_ml 10 162 = some (150, 0) := by decide +kernel
theorem ll_10_165 : rr_ml 10 165 = some (151, 0) := by decide +kernel
theorem ll_10_169 : rr_ml 10 169 = some (161, 0) := by decide +kernel
theorem ll_10_172 : rr_ml 10 172 = some (165, 0) := by decide +kernel
theorem ll_10_175 : rr_ml 10 175 = some (167, 0) := by decide +kernel
theorem ll_10_181 : rr_ml 10 181 = some (171, 0) := by decide +kernel
theorem ll_10_184 : rr_ml 10 184 = some (175, 0) := by decide +kernel
theorem ll_10_187 : rr_ml 10 187 = some (173, 0) := by decide +kernel
theorem ll_10_190 : rr_ml 10 190 = some (174, 0) := by decide +kernel
theorem ll_10_193 : rr_ml 10 193 = some (176, 0) := by decide +kernel
theorem ll_10_196 : rr_ml 10 196 = some (181, 0) := by decide +kernel
theorem ll_10_199 : rr_ml 10 199 = some (184, 0) := by decide +kernel
theorem ll_10_202 : rr_ml 10 202 = some (183, 0) := by decide +kernel
theorem ll_10_206 : rr_ml 10 206 = some (187, 0) := by decide +kernel
theorem ll_10_209 : rr_ml 10 209 = some (188, 0) := by decide +kernel
theorem ll_10_212 : rr_ml 10 212 = some (189, 0) := by decide +kernel
theorem ll_10_215 : rr_ml 10 215 = some (193, 0) := by decide +kernel
theorem ll_10_219 : rr_ml 10 219 = some (192, 0) := by decide +kernel
theorem ll_10_224 : rr_ml 10 224 = some (194, 0) := by decide +kernel
theorem ll_10_231 : rr_ml 10 231 = some (198, 0) := by decide +kernel
theorem ll_10_239 : rr_ml 10 239 = some (197, 0) := by decide +kernel
theorem ll_10_242 : rr_ml 10 242 = some (199, 0) := by decide +kernel
theorem ll_10_246 : rr_ml 10 246 = some (200, 0) := by decide +kernel
theorem ll_10_258 : rr_ml 10 258 = some (206, 0) := by decide +kernel
theorem ll_10_261 : rr_ml 10 261 = some (207, 0) := by decide +kernel
theorem ll_10_264 : rr_ml 10 264 = some (205, 0) := by decide +kernel
theorem ll_10_267 : rr_ml 10 267 = some (204, 0) := by decide +kernel
theorem ll_10_270 : rr_ml 10 270 = some (208, 0) := by decide +kernel
theorem ll_10_273 : rr_ml 10 273 = some (209, 0) := by decide +kernel
theorem ll_10_276 : rr_ml 10 276 = some (210, 0) := by decide +kernel
theorem ll_10_283 : rr_ml 10 283 = some (211, 0) := by decide +kernel
theorem ll_10_286 : rr_ml 10 286 = some (214, 0) := by decide +kernel
theorem ll_10_289 : rr_ml 10 289 = some (218, 0) := by decide +kernel
theorem ll_11_9 : rr_ml 11 9 = some (0, 0) := by decide +kernel
theorem ll_11_12 : rr_ml 11 12 = some (130, 0) := by decide +kernel
theorem ll_11_13 : rr_ml 11 13 = some (9, 0) := by decide +kernel
theorem ll_11_17 : rr_ml 11 17 = some (147, 0) := by decide +kernel
theorem ll_11_18 : rr_ml 11 18 = some (14, 0) := by decide +kernel
theorem ll_11_22 : rr_ml 11 22 = some (149, 0) := by decide +kernel
theorem ll_11_23 : rr_ml 11 23 = some (27, 0) := by decide +kernel
theorem ll_11_27 : rr_ml 11 27 = some (162, 0) := by decide +kernel
theorem ll_11_28 : rr_ml 11 28 = some (28, 0) := by decide +kernel
theorem ll_11_31 : rr_ml 11 31 = some (163, 0) := by decide +kernel
theorem ll_11_32 : rr_ml 11 32 = some (31, 0) := by decide +kernel
theorem ll_11_35 : rr_ml 11 35 = some (164, 0) := by decide +kernel
theorem ll_11_36 : rr_ml 11 36 = some (33, 0) := by decide +kernel
theorem ll_11_39 : rr_ml 11 39 = some (166, 0) := by decide +kernel
theorem ll_11_40 : rr_ml 11 40 = some (35, 0) := by decide +kernel
theorem ll_11_43 : rr_ml 11 43 = some (168, 0) := by decide +kernel
theorem ll_11_44 : rr_ml 11 44 = some (37, 0) := by decide +kernel
theorem ll_11_47 : rr_ml 11 47 = some (169, 0) := by decide +kernel
theorem ll_11_50 : rr_ml 11 50 = some (38, 0) := by decide +kernel
theorem ll_11_54 : rr_ml 11 54 = some (131, 0) := by decide +kernel
theorem ll_11_55 : rr_ml 11 55 = some (39, 0) := by decide +kernel
theorem ll_11_58 : rr_ml 11 58 = some (134, 0) := by decide +kernel
theorem ll_11_59 : rr_ml 11 59 = some (57, 0) := by decide +kernel
theorem ll_11_62 : rr_ml 11 62 = some (145, 0) := by decide +kernel
theorem ll_11_63 : rr_ml 11 63 = some (58, 0) := by decide +kernel
theorem ll_11_67 : rr_ml 11 67 = some (170, 0) := by decide +kernel
theorem ll_11_68 : rr_ml 11 68 = some (60, 0) := by decide +kernel
theorem ll_11_71 : rr_ml 11 71 = some (172, 0) := by decide +kernel
theorem ll_11_72 : rr_ml 11 72 = some (64, 0) := by decide +kernel
theorem ll_11_75 : rr_ml 11 75 = some (177, 0) := by decide +kernel
theorem ll_11_76 : rr_ml 11 76 = some (65, 0) := by decide +kernel
theorem ll_11_79 : rr_ml 11 79 = some (178, 0) := by decide +kernel
theorem ll_11_80 : rr_ml 11 80 = some (67, 0) := by decide +kernel
theorem ll_11_83 : rr_ml 11 83 = some (179, 0) := by decide +kernel
theorem ll_11_84 : rr_ml 11 84 = some (68, 0) := by decide +kernel
theorem ll_11_87 : rr_ml 11 87 = some (180, 0) := by decide +kernel
theorem ll_11_88 : rr_ml 11 88 = some (73, 0) := by decide +kernel
theorem ll_11_91 : rr_ml 11 91 = some (182, 0) := by decide +kernel
theorem ll_11_92 : rr_ml 11 92 = some (75, 0) := by decide +kernel
theorem ll_11_95 : rr_ml 11 95 = some (185, 0) := by decide +kernel
theorem ll_11_96 : rr_ml 11 96 = some (76, 0) := by decide +kernel
theorem ll_11_99 : rr_ml 11 99 = some (186, 0) := by decide +kernel
theorem ll_11_100 : rr_ml 11 100 = some (80, 0) := by decide +kernel
theorem ll_11_103 : rr_ml 11 103 = some (190, 0) := by decide +kernel
theorem ll_11_104 : rr_ml 11 104 = some (81, 0) := by decide +kernel
theorem ll_11_107 : rr_ml 11 107 = some (191, 0) := by decide +kernel
theorem ll_11_108 : rr_ml 11 108 = some (85, 0) := by decide +kernel
theorem ll_11_111 : rr_ml 11 111 = some (195, 0) := by decide +kernel
theorem ll_11_112 : rr_ml 11 112 = some (87, 0) := by decide +kernel
theorem ll_11_116 : rr_ml 11 116 = some (196, 0) := by decide +kernel
theorem ll_11_117 : rr_ml 11 117 = some (100, 0) := by decide +kernel
theorem ll_11_120 : rr_ml 11 120 = some (201, 0) := by decide +kernel
theorem ll_11_121 : rr_ml 11 121 = some (102, 0) := by decide +kernel
theorem ll_11_124 : rr_ml 11 124 = some (202, 0) := by decide +kernel
theorem ll_11_125 : rr_ml 11 125 = some (104, 0) := by decide +kernel
theorem ll_11_128 : rr_ml 11 128 = some (203, 0) := by decide +kernel
theorem ll_11_129 : rr_ml 11 129 = some (109, 0) := by decide +kernel
theorem ll_11_132 : rr_ml 11 132 = some (212, 0) := by decide +kernel
theorem ll_11_133 : rr_ml 11 133 = some (110, 0) := by decide +kernel
theorem ll_11_136 : rr_ml 11 136 = some (213, 0) := by decide +kernel
theorem ll_11_137 : rr_ml 11 137 = some (112, 0) := by decide +kernel
theorem ll_11_140 : rr_ml 11 140 = some (215, 0) := by decide +kernel
theorem ll_11_141 : rr_ml 11 141 = some (115, 0) := by decide +kernel
theorem ll_11_145 : rr_ml 11 145 = some (216, 0) := by decide +kernel
theorem ll_11_146 : rr_ml 11 146 = some (117, 0) := by decide +kernel
theorem ll_11_149 : rr_ml 11 149 = some (217, 0) := by decide +kernel
theorem ll_11_150 : rr_ml 11 150 = some (119, 0) := by decide +kernel
theorem ll_11_153 : rr_ml 11 153 = some (219, 0) := by decide +kernel
theorem ll_11_154 : rr_ml 11 154 = some (122, 0) := by decide +kernel
theorem ll_11_157 : rr_ml 11 157 = some (220, 0) := by decide +kernel
theorem ll_11_158 : rr_ml 11 158 = some (123, 0) := by decide +kernel
theorem ll_11_161 : rr_ml 11 161 = some (221, 0) := by decide +kernel
theorem ll_11_162 : rr_ml 11 162 = some (125, 0) := by decide +kernel
theorem ll_11_165 : rr_ml 11 165 = some (222, 0) := by decide +kernel
theorem ll_11_166 : rr_ml 11 166 = some (126, 0) := by decide +kernel
theorem ll_11_169 : rr_ml 11 169 = some (223, 0) := by decide +kernel
theorem ll_11_170 : rr_ml 11 170 = some (127, 0) := by decide +kernel
theorem ll_11_173 : rr_ml 11 173 = some (224, 0) := by decide +kernel
theorem ll_11_174 : rr_ml 11 174 = some (128, 0) := by decide +kernel
theorem ll_11_177 : rr_ml 11 177 = some (225, 0) := by decide +kernel
theorem ll_11_178 : rr_ml 11 178 = some (129, 0) := by decide +kernel
theorem ll_11_181 : rr_ml 11 181 = some (226, 0) := by decide +kernel
theorem sf_0_108 : rr_sf 0 108 = some 2 := by decide +kernel
theorem sf_8_45 : rr_sf 8 45 = some 1 := by decide +kernel
theorem sf_8_53 : rr_sf 8 53 = some 0 := by decide +kernel
theorem sf_9_356 : rr_sf 9 356 = some 0 := by decide +kernel
theorem cl_2_9 : rr_cl 2 9 = some 7 := by decide +kernel
theorem cl_2_18 : rr_cl 2 18 = some 3 := by decide +kernel
theorem cl_6_27 : rr_cl 6 27 = some 3 := by decide +kernel
theorem cl_6_49 : rr_cl 6 49 = some 100 := by decide +kernel
theorem cl_6_63 : rr_cl 6 63 = some 7 := by decide +kernel
theorem cl_8_9 : rr_cl 8 9 = some 3 := by decide +kernel
theorem cl_9_7 : rr_cl 9 7 = some 6 := by decide +kernel
theorem cl_9_20 : rr_cl 9 20 = some 5 := by decide +kernel
theorem cl_9_26 : rr_cl 9 26 = some 8 := by decide +kernel
theorem cl_9_33 : rr_cl 9 33 = some 2 := by decide +kernel
theorem cl_9_40 : rr_cl 9 40 = some 4 := by decide +kernel
theorem cl_9_47 : rr_cl 9 47 = some 1 := by decide +kernel
theorem cl_9_271 : rr_cl 9 271 = some 0 := by decide +kernel
theorem cl_11_7 : rr_cl 11 7 = some 9 := by decide +kernel
theorem cl_11_10 : rr_cl 11 10 = some 10 := by decide +kernel
theorem ki_0_104 : rr_ki 0 104 = some 999999999 := by decide +kernel
theorem ki_6_128 : rr_ki 6 128 = some 999999999 := by decide +kernel
theorem ki_6_140 : rr_ki 6 140 = some 1103515245 := by decide +kernel
theorem ki_9_261 : rr_ki 9 261 = some 99999 := by decide +kernel
theorem ki_9_345 : rr_ki 9 345 = some (-1000000000) := by decide +kernel
theorem ki_10_68 : rr_ki 10 68 = some (-1000000000) := by decide +kernel
theorem ki_10_179 : rr_ki 10 179 = some (-999999999) := by decide +kernel
theorem ki_10_180 : rr_ki 10 180 = some 999999999 := by decide +kernel
theorem ki_10_205 : rr_ki 10 205 = some 1103515245 := by decide +kernel
theorem ki_10_234 : rr_ki 10 234 = some 99999 := by decide +kernel
theorem ki_10_249 : rr_ki 10 249 = some 100000 := by decide +kernel
theorem ki_12_265 : rr_ki 12 265 = some 1431655765 := by decide +kernel
theorem ki_12_266 : rr_ki 12 266 = some 858993459 := by decide +kernel
theorem ki_12_267 : rr_ki 12 267 = some 252645135 := by decide +kernel
theorem kj_0_74 : rr_kj 0 74 = some 100 := by decide +kernel
theorem kj_9_139 : rr_kj 9 139 = some 255 := by decide +kernel
theorem kj_9_252 : rr_kj 9 252 = some 16 := by decide +kernel
theorem kj_9_346 : rr_kj 9 346 = some (-1000000000000) := by decide +kernel
theorem kj_10_77 : rr_kj 10 77 = some 255 := by decide +kernel
theorem kj_10_222 : rr_kj 10 222 = some 16 := by decide +kernel
theorem kj_10_235 : rr_kj 10 235 = some (-1000000000001) := by decide +kernel
theorem kj_10_237 : rr_kj 10 237 = some (-1000000000003) := by decide +kernel
theorem kj_10_250 : rr_kj 10 250 = some 100 := by decide +kernel
theorem kj_11_48 : rr_kj 11 48 = some 4294967295 := by decide +kernel
