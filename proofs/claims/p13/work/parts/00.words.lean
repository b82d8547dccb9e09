-- ===== PART A: goes FIRST, ahead of the names: the tables' words, and 'selects' of the private methods out of them =====
/-- a private method of a class that the tables say can be made, by its rows of tables_1 -/
def lw_okq (q : MethodName × Nat) : Prop := (q.1.cls ≠ "java/lang/invoke/MethodHandle" ∧ q.1.cls ≠ "java/lang/invoke/VarHandle") ∧ Cond.instantiable q.1.cls q.2 ∈ tables_1 ∧ Cond.privateMethod q.1 ∈ tables_1 ∧ Cond.instanceMethod q.1 ∈ tables_1
theorem ltm1 {x : Cond} (h : x ∈ tables_1_1) : x ∈ tables_1 := List.mem_append_left _ h
theorem ltm2 {x : Cond} (h : x ∈ tables_1_2) : x ∈ tables_1 := List.mem_append_right _ (List.mem_append_left _ h)
theorem ltm3 {x : Cond} (h : x ∈ tables_1_3) : x ∈ tables_1 := List.mem_append_right _ (List.mem_append_right _ (List.mem_append_left _ h))
theorem ltm4 {x : Cond} (h : x ∈ tables_1_4) : x ∈ tables_1 := List.mem_append_right _ (List.mem_append_right _ (List.mem_append_right _ (List.mem_append_left _ h)))
theorem ltm5 {x : Cond} (h : x ∈ tables_1_5) : x ∈ tables_1 := List.mem_append_right _ (List.mem_append_right _ (List.mem_append_right _ (List.mem_append_right _ (List.mem_append_left _ h))))
theorem ltm6 {x : Cond} (h : x ∈ tables_1_6) : x ∈ tables_1 := List.mem_append_right _ (List.mem_append_right _ (List.mem_append_right _ (List.mem_append_right _ (List.mem_append_right _ (List.mem_append_left _ h)))))
theorem ltm7 {x : Cond} (h : x ∈ tables_1_7) : x ∈ tables_1 := List.mem_append_right _ (List.mem_append_right _ (List.mem_append_right _ (List.mem_append_right _ (List.mem_append_right _ (List.mem_append_right _ (List.mem_append_left _ h))))))
theorem ltm8 {x : Cond} (h : x ∈ tables_1_8) : x ∈ tables_1 := List.mem_append_right _ (List.mem_append_right _ (List.mem_append_right _ (List.mem_append_right _ (List.mem_append_right _ (List.mem_append_right _ (List.mem_append_right _ (h)))))))
set_option maxRecDepth 20000 in
theorem lw_p0 : lw_okq (⟨"LentTools", "putBytes", "(I)V"⟩, 17) := ⟨⟨by decide +kernel, by decide +kernel⟩, (ltm1 (List.mem_of_getElem? (i := 22) rfl)), (ltm2 (List.mem_of_getElem? (i := 53) rfl)), (ltm2 (List.mem_of_getElem? (i := 54) rfl))⟩
set_option maxRecDepth 20000 in
theorem lw_p1 : lw_okq (⟨"LentTools", "openTape", "()V"⟩, 17) := ⟨⟨by decide +kernel, by decide +kernel⟩, (ltm1 (List.mem_of_getElem? (i := 22) rfl)), (ltm2 (List.mem_of_getElem? (i := 65) rfl)), (ltm2 (List.mem_of_getElem? (i := 66) rfl))⟩
set_option maxRecDepth 20000 in
theorem lw_p2 : lw_okq (⟨"LentTools$VillageReader", "readClause", "(LLentTools$Text;LLentTools$Village;I)V"⟩, 1) := ⟨⟨by decide +kernel, by decide +kernel⟩, (ltm1 (List.mem_of_getElem? (i := 57) rfl)), (ltm2 (List.mem_of_getElem? (i := 80) rfl)), (ltm2 (List.mem_of_getElem? (i := 81) rfl))⟩
set_option maxRecDepth 20000 in
theorem lw_p3 : lw_okq (⟨"LentTools$VillageReader", "readNumbers", "(LLentTools$Text;II)V"⟩, 1) := ⟨⟨by decide +kernel, by decide +kernel⟩, (ltm1 (List.mem_of_getElem? (i := 57) rfl)), (ltm2 (List.mem_of_getElem? (i := 168) rfl)), (ltm2 (List.mem_of_getElem? (i := 169) rfl))⟩
set_option maxRecDepth 20000 in
theorem lw_p4 : lw_okq (⟨"LentTools$VillageReader", "tell", "(LLentTools$Village;I)V"⟩, 1) := ⟨⟨by decide +kernel, by decide +kernel⟩, (ltm1 (List.mem_of_getElem? (i := 57) rfl)), (ltm2 (List.mem_of_getElem? (i := 189) rfl)), (ltm2 (List.mem_of_getElem? (i := 190) rfl))⟩
set_option maxRecDepth 20000 in
theorem lw_p5 : lw_okq (⟨"LentTools$Village", "setOfTool", "(III)V"⟩, 1) := ⟨⟨by decide +kernel, by decide +kernel⟩, (ltm1 (List.mem_of_getElem? (i := 104) rfl)), (ltm2 (List.mem_of_getElem? (i := 205) rfl)), (ltm2 (List.mem_of_getElem? (i := 206) rfl))⟩
set_option maxRecDepth 20000 in
theorem lw_p6 : lw_okq (⟨"LentTools$Village", "setOfWork", "(III)V"⟩, 1) := ⟨⟨by decide +kernel, by decide +kernel⟩, (ltm1 (List.mem_of_getElem? (i := 104) rfl)), (ltm2 (List.mem_of_getElem? (i := 218) rfl)), (ltm2 (List.mem_of_getElem? (i := 219) rfl))⟩
set_option maxRecDepth 20000 in
theorem lw_p7 : lw_okq (⟨"LentTools$RuleReader", "readLend", "(LLentTools$Text;)V"⟩, 10) := ⟨⟨by decide +kernel, by decide +kernel⟩, (ltm1 (List.mem_of_getElem? (i := 67) rfl)), (ltm3 (List.mem_of_getElem? (i := 18) rfl)), (ltm3 (List.mem_of_getElem? (i := 19) rfl))⟩
set_option maxRecDepth 20000 in
theorem lw_p8 : lw_okq (⟨"LentTools$RuleReader", "readFact", "(LLentTools$Text;)V"⟩, 10) := ⟨⟨by decide +kernel, by decide +kernel⟩, (ltm1 (List.mem_of_getElem? (i := 67) rfl)), (ltm3 (List.mem_of_getElem? (i := 25) rfl)), (ltm3 (List.mem_of_getElem? (i := 26) rfl))⟩
set_option maxRecDepth 20000 in
theorem lw_p9 : lw_okq (⟨"LentTools$RuleReader", "readValue", "(LLentTools$Text;)V"⟩, 10) := ⟨⟨by decide +kernel, by decide +kernel⟩, (ltm1 (List.mem_of_getElem? (i := 67) rfl)), (ltm3 (List.mem_of_getElem? (i := 32) rfl)), (ltm3 (List.mem_of_getElem? (i := 33) rfl))⟩
set_option maxRecDepth 20000 in
theorem lw_p10 : lw_okq (⟨"LentTools$RuleReader", "put", "(I)V"⟩, 10) := ⟨⟨by decide +kernel, by decide +kernel⟩, (ltm1 (List.mem_of_getElem? (i := 67) rfl)), (ltm3 (List.mem_of_getElem? (i := 39) rfl)), (ltm3 (List.mem_of_getElem? (i := 40) rfl))⟩
set_option maxRecDepth 20000 in
theorem lw_p11 : lw_okq (⟨"LentTools$RuleReader", "countOne", "(LLentTools$Text;I)V"⟩, 10) := ⟨⟨by decide +kernel, by decide +kernel⟩, (ltm1 (List.mem_of_getElem? (i := 67) rfl)), (ltm3 (List.mem_of_getElem? (i := 44) rfl)), (ltm3 (List.mem_of_getElem? (i := 45) rfl))⟩
set_option maxRecDepth 20000 in
theorem lw_p12 : lw_okq (⟨"LentTools$RuleReader", "letWait", "(I)V"⟩, 10) := ⟨⟨by decide +kernel, by decide +kernel⟩, (ltm1 (List.mem_of_getElem? (i := 67) rfl)), (ltm3 (List.mem_of_getElem? (i := 49) rfl)), (ltm3 (List.mem_of_getElem? (i := 50) rfl))⟩
set_option maxRecDepth 20000 in
theorem lw_p13 : lw_okq (⟨"LentTools$RuleReader", "readJoint", "(LLentTools$Text;)V"⟩, 10) := ⟨⟨by decide +kernel, by decide +kernel⟩, (ltm1 (List.mem_of_getElem? (i := 67) rfl)), (ltm3 (List.mem_of_getElem? (i := 53) rfl)), (ltm3 (List.mem_of_getElem? (i := 54) rfl))⟩
set_option maxRecDepth 20000 in
theorem lw_p14 : lw_okq (⟨"LentTools$RuleReader", "joinBy", "(I)V"⟩, 10) := ⟨⟨by decide +kernel, by decide +kernel⟩, (ltm1 (List.mem_of_getElem? (i := 67) rfl)), (ltm3 (List.mem_of_getElem? (i := 60) rfl)), (ltm3 (List.mem_of_getElem? (i := 61) rfl))⟩
set_option maxRecDepth 20000 in
theorem lw_p15 : lw_okq (⟨"LentTools$RuleReader", "settle", "(I)V"⟩, 10) := ⟨⟨by decide +kernel, by decide +kernel⟩, (ltm1 (List.mem_of_getElem? (i := 67) rfl)), (ltm3 (List.mem_of_getElem? (i := 64) rfl)), (ltm3 (List.mem_of_getElem? (i := 65) rfl))⟩
def lw_privs_1 : List (MethodName × Nat) := [(⟨"LentTools", "putBytes", "(I)V"⟩, 17), (⟨"LentTools", "openTape", "()V"⟩, 17), (⟨"LentTools$VillageReader", "readClause", "(LLentTools$Text;LLentTools$Village;I)V"⟩, 1), (⟨"LentTools$VillageReader", "readNumbers", "(LLentTools$Text;II)V"⟩, 1), (⟨"LentTools$VillageReader", "tell", "(LLentTools$Village;I)V"⟩, 1), (⟨"LentTools$Village", "setOfTool", "(III)V"⟩, 1), (⟨"LentTools$Village", "setOfWork", "(III)V"⟩, 1), (⟨"LentTools$RuleReader", "readLend", "(LLentTools$Text;)V"⟩, 10), (⟨"LentTools$RuleReader", "readFact", "(LLentTools$Text;)V"⟩, 10), (⟨"LentTools$RuleReader", "readValue", "(LLentTools$Text;)V"⟩, 10), (⟨"LentTools$RuleReader", "put", "(I)V"⟩, 10), (⟨"LentTools$RuleReader", "countOne", "(LLentTools$Text;I)V"⟩, 10), (⟨"LentTools$RuleReader", "letWait", "(I)V"⟩, 10), (⟨"LentTools$RuleReader", "readJoint", "(LLentTools$Text;)V"⟩, 10), (⟨"LentTools$RuleReader", "joinBy", "(I)V"⟩, 10), (⟨"LentTools$RuleReader", "settle", "(I)V"⟩, 10)]
theorem lw_r1 : ∀ q ∈ lw_privs_1, lw_okq q := List.forall_mem_cons.mpr ⟨lw_p0, List.forall_mem_cons.mpr ⟨lw_p1, List.forall_mem_cons.mpr ⟨lw_p2, List.forall_mem_cons.mpr ⟨lw_p3, List.forall_mem_cons.mpr ⟨lw_p4, List.forall_mem_cons.mpr ⟨lw_p5, List.forall_mem_cons.mpr ⟨lw_p6, List.forall_mem_cons.mpr ⟨lw_p7, List.forall_mem_cons.mpr ⟨lw_p8, List.forall_mem_cons.mpr ⟨lw_p9, List.forall_mem_cons.mpr ⟨lw_p10, List.forall_mem_cons.mpr ⟨lw_p11, List.forall_mem_cons.mpr ⟨lw_p12, List.forall_mem_cons.mpr ⟨lw_p13, List.forall_mem_cons.mpr ⟨lw_p14, List.forall_mem_cons.mpr ⟨lw_p15, fun _ h => absurd h List.not_mem_nil⟩⟩⟩⟩⟩⟩⟩⟩⟩⟩⟩⟩⟩⟩⟩⟩
set_option maxRecDepth 20000 in
theorem lw_p16 : lw_okq (⟨"LentTools$RuleReader", "endAnswer", "(LLentTools$Text;)V"⟩, 10) := ⟨⟨by decide +kernel, by decide +kernel⟩, (ltm1 (List.mem_of_getElem? (i := 67) rfl)), (ltm3 (List.mem_of_getElem? (i := 71) rfl)), (ltm3 (List.mem_of_getElem? (i := 72) rfl))⟩
set_option maxRecDepth 20000 in
theorem lw_p17 : lw_okq (⟨"LentTools$RuleReader", "endClause", "(LLentTools$Text;I)V"⟩, 10) := ⟨⟨by decide +kernel, by decide +kernel⟩, (ltm1 (List.mem_of_getElem? (i := 67) rfl)), (ltm3 (List.mem_of_getElem? (i := 76) rfl)), (ltm3 (List.mem_of_getElem? (i := 77) rfl))⟩
set_option maxRecDepth 20000 in
theorem lw_p18 : lw_okq (⟨"LentTools$RuleReader", "readSign", "(LLentTools$Text;)V"⟩, 10) := ⟨⟨by decide +kernel, by decide +kernel⟩, (ltm1 (List.mem_of_getElem? (i := 67) rfl)), (ltm3 (List.mem_of_getElem? (i := 81) rfl)), (ltm3 (List.mem_of_getElem? (i := 82) rfl))⟩
set_option maxRecDepth 20000 in
theorem lw_p19 : lw_okq (⟨"LentTools$RuleReader", "endFact", "(LLentTools$Text;)V"⟩, 10) := ⟨⟨by decide +kernel, by decide +kernel⟩, (ltm1 (List.mem_of_getElem? (i := 67) rfl)), (ltm3 (List.mem_of_getElem? (i := 89) rfl)), (ltm3 (List.mem_of_getElem? (i := 90) rfl))⟩
set_option maxRecDepth 20000 in
theorem lw_p20 : lw_okq (⟨"LentTools$RuleReader", "closeBracket", "()V"⟩, 10) := ⟨⟨by decide +kernel, by decide +kernel⟩, (ltm1 (List.mem_of_getElem? (i := 67) rfl)), (ltm3 (List.mem_of_getElem? (i := 94) rfl)), (ltm3 (List.mem_of_getElem? (i := 95) rfl))⟩
set_option maxRecDepth 20000 in
theorem lw_p21 : lw_okq (⟨"LentTools$ThanksRings", "closes", "(LLentTools$Village;III)Z"⟩, 3) := ⟨⟨by decide +kernel, by decide +kernel⟩, (ltm1 (List.mem_of_getElem? (i := 219) rfl)), (ltm4 (List.mem_of_getElem? (i := 40) rfl)), (ltm4 (List.mem_of_getElem? (i := 41) rfl))⟩
set_option maxRecDepth 20000 in
theorem lw_p22 : lw_okq (⟨"LentTools", "hasRule", "(I)Z"⟩, 17) := ⟨⟨by decide +kernel, by decide +kernel⟩, (ltm1 (List.mem_of_getElem? (i := 22) rfl)), (ltm4 (List.mem_of_getElem? (i := 92) rfl)), (ltm4 (List.mem_of_getElem? (i := 93) rfl))⟩
set_option maxRecDepth 20000 in
theorem lw_p23 : lw_okq (⟨"LentTools$Rule", "sumFor", "(LLentTools$Village;II)J"⟩, 2) := ⟨⟨by decide +kernel, by decide +kernel⟩, (ltm3 (List.mem_of_getElem? (i := 98) rfl)), (ltm4 (List.mem_of_getElem? (i := 107) rfl)), (ltm4 (List.mem_of_getElem? (i := 108) rfl))⟩
set_option maxRecDepth 20000 in
theorem lw_p24 : lw_okq (⟨"LentTools$Chains", "noteLength", "(III)V"⟩, 11) := ⟨⟨by decide +kernel, by decide +kernel⟩, (ltm1 (List.mem_of_getElem? (i := 147) rfl)), (ltm4 (List.mem_of_getElem? (i := 153) rfl)), (ltm4 (List.mem_of_getElem? (i := 154) rfl))⟩
set_option maxRecDepth 20000 in
theorem lw_p25 : lw_okq (⟨"LentTools$Chains", "goFurther", "(LLentTools$Village;I)V"⟩, 11) := ⟨⟨by decide +kernel, by decide +kernel⟩, (ltm1 (List.mem_of_getElem? (i := 147) rfl)), (ltm4 (List.mem_of_getElem? (i := 158) rfl)), (ltm4 (List.mem_of_getElem? (i := 159) rfl))⟩
set_option maxRecDepth 20000 in
theorem lw_p26 : lw_okq (⟨"LentTools$Chains", "listFrom", "(LLentTools$Village;IIII)V"⟩, 11) := ⟨⟨by decide +kernel, by decide +kernel⟩, (ltm1 (List.mem_of_getElem? (i := 147) rfl)), (ltm4 (List.mem_of_getElem? (i := 168) rfl)), (ltm4 (List.mem_of_getElem? (i := 169) rfl))⟩
set_option maxRecDepth 20000 in
theorem lw_p27 : lw_okq (⟨"LentTools$Chains", "goOn", "(LLentTools$Village;III)V"⟩, 11) := ⟨⟨by decide +kernel, by decide +kernel⟩, (ltm1 (List.mem_of_getElem? (i := 147) rfl)), (ltm4 (List.mem_of_getElem? (i := 172) rfl)), (ltm4 (List.mem_of_getElem? (i := 173) rfl))⟩
set_option maxRecDepth 20000 in
theorem lw_p28 : lw_okq (⟨"LentTools$Chains", "noteRow", "()V"⟩, 11) := ⟨⟨by decide +kernel, by decide +kernel⟩, (ltm1 (List.mem_of_getElem? (i := 147) rfl)), (ltm4 (List.mem_of_getElem? (i := 176) rfl)), (ltm4 (List.mem_of_getElem? (i := 177) rfl))⟩
set_option maxRecDepth 20000 in
theorem lw_p29 : lw_okq (⟨"LentTools$Matching", "findAble", "(LLentTools$Village;I)V"⟩, 5) := ⟨⟨by decide +kernel, by decide +kernel⟩, (ltm1 (List.mem_of_getElem? (i := 194) rfl)), (ltm4 (List.mem_of_getElem? (i := 193) rfl)), (ltm4 (List.mem_of_getElem? (i := 194) rfl))⟩
set_option maxRecDepth 20000 in
theorem lw_p30 : lw_okq (⟨"LentTools$Matching", "findWorksOf", "(LLentTools$Village;I)V"⟩, 5) := ⟨⟨by decide +kernel, by decide +kernel⟩, (ltm1 (List.mem_of_getElem? (i := 194) rfl)), (ltm4 (List.mem_of_getElem? (i := 199) rfl)), (ltm4 (List.mem_of_getElem? (i := 200) rfl))⟩
set_option maxRecDepth 20000 in
theorem lw_p31 : lw_okq (⟨"LentTools$Matching", "mostFrom", "(II)I"⟩, 5) := ⟨⟨by decide +kernel, by decide +kernel⟩, (ltm1 (List.mem_of_getElem? (i := 194) rfl)), (ltm4 (List.mem_of_getElem? (i := 208) rfl)), (ltm4 (List.mem_of_getElem? (i := 209) rfl))⟩
def lw_privs_2 : List (MethodName × Nat) := [(⟨"LentTools$RuleReader", "endAnswer", "(LLentTools$Text;)V"⟩, 10), (⟨"LentTools$RuleReader", "endClause", "(LLentTools$Text;I)V"⟩, 10), (⟨"LentTools$RuleReader", "readSign", "(LLentTools$Text;)V"⟩, 10), (⟨"LentTools$RuleReader", "endFact", "(LLentTools$Text;)V"⟩, 10), (⟨"LentTools$RuleReader", "closeBracket", "()V"⟩, 10), (⟨"LentTools$ThanksRings", "closes", "(LLentTools$Village;III)Z"⟩, 3), (⟨"LentTools", "hasRule", "(I)Z"⟩, 17), (⟨"LentTools$Rule", "sumFor", "(LLentTools$Village;II)J"⟩, 2), (⟨"LentTools$Chains", "noteLength", "(III)V"⟩, 11), (⟨"LentTools$Chains", "goFurther", "(LLentTools$Village;I)V"⟩, 11), (⟨"LentTools$Chains", "listFrom", "(LLentTools$Village;IIII)V"⟩, 11), (⟨"LentTools$Chains", "goOn", "(LLentTools$Village;III)V"⟩, 11), (⟨"LentTools$Chains", "noteRow", "()V"⟩, 11), (⟨"LentTools$Matching", "findAble", "(LLentTools$Village;I)V"⟩, 5), (⟨"LentTools$Matching", "findWorksOf", "(LLentTools$Village;I)V"⟩, 5), (⟨"LentTools$Matching", "mostFrom", "(II)I"⟩, 5)]
theorem lw_r2 : ∀ q ∈ lw_privs_2, lw_okq q := List.forall_mem_cons.mpr ⟨lw_p16, List.forall_mem_cons.mpr ⟨lw_p17, List.forall_mem_cons.mpr ⟨lw_p18, List.forall_mem_cons.mpr ⟨lw_p19, List.forall_mem_cons.mpr ⟨lw_p20, List.forall_mem_cons.mpr ⟨lw_p21, List.forall_mem_cons.mpr ⟨lw_p22, List.forall_mem_cons.mpr ⟨lw_p23, List.forall_mem_cons.mpr ⟨lw_p24, List.forall_mem_cons.mpr ⟨lw_p25, List.forall_mem_cons.mpr ⟨lw_p26, List.forall_mem_cons.mpr ⟨lw_p27, List.forall_mem_cons.mpr ⟨lw_p28, List.forall_mem_cons.mpr ⟨lw_p29, List.forall_mem_cons.mpr ⟨lw_p30, List.forall_mem_cons.mpr ⟨lw_p31, fun _ h => absurd h List.not_mem_nil⟩⟩⟩⟩⟩⟩⟩⟩⟩⟩⟩⟩⟩⟩⟩⟩
set_option maxRecDepth 20000 in
theorem lw_p32 : lw_okq (⟨"LentTools$Matching", "firstTool", "(II)I"⟩, 5) := ⟨⟨by decide +kernel, by decide +kernel⟩, (ltm1 (List.mem_of_getElem? (i := 194) rfl)), (ltm4 (List.mem_of_getElem? (i := 217) rfl)), (ltm4 (List.mem_of_getElem? (i := 218) rfl))⟩
set_option maxRecDepth 20000 in
theorem lw_p33 : lw_okq (⟨"LentTools", "isSafe", "(II)Z"⟩, 17) := ⟨⟨by decide +kernel, by decide +kernel⟩, (ltm1 (List.mem_of_getElem? (i := 22) rfl)), (ltm5 (List.mem_of_getElem? (i := 34) rfl)), (ltm5 (List.mem_of_getElem? (i := 35) rfl))⟩
set_option maxRecDepth 20000 in
theorem lw_p34 : lw_okq (⟨"LentTools$Draws", "drawn", "()I"⟩, 1) := ⟨⟨by decide +kernel, by decide +kernel⟩, (ltm1 (List.mem_of_getElem? (i := 135) rfl)), (ltm5 (List.mem_of_getElem? (i := 57) rfl)), (ltm5 (List.mem_of_getElem? (i := 58) rfl))⟩
set_option maxRecDepth 20000 in
theorem lw_p35 : lw_okq (⟨"LentToolsModel", "four", "(I)V"⟩, 39) := ⟨⟨by decide +kernel, by decide +kernel⟩, (ltm5 (List.mem_of_getElem? (i := 89) rfl)), (ltm5 (List.mem_of_getElem? (i := 217) rfl)), (ltm5 (List.mem_of_getElem? (i := 218) rfl))⟩
set_option maxRecDepth 20000 in
theorem lw_p36 : lw_okq (⟨"LentToolsModel", "readsAll", "()Z"⟩, 39) := ⟨⟨by decide +kernel, by decide +kernel⟩, (ltm5 (List.mem_of_getElem? (i := 89) rfl)), (ltm5 (List.mem_of_getElem? (i := 229) rfl)), (ltm5 (List.mem_of_getElem? (i := 230) rfl))⟩
set_option maxRecDepth 20000 in
theorem lw_p37 : lw_okq (⟨"LentToolsModel", "clauseHere", "()Z"⟩, 39) := ⟨⟨by decide +kernel, by decide +kernel⟩, (ltm5 (List.mem_of_getElem? (i := 89) rfl)), (ltm5 (List.mem_of_getElem? (i := 233) rfl)), (ltm5 (List.mem_of_getElem? (i := 234) rfl))⟩
set_option maxRecDepth 20000 in
theorem lw_p38 : lw_okq (⟨"LentToolsModel", "see", "()I"⟩, 39) := ⟨⟨by decide +kernel, by decide +kernel⟩, (ltm5 (List.mem_of_getElem? (i := 89) rfl)), (ltm5 (List.mem_of_getElem? (i := 237) rfl)), (ltm5 (List.mem_of_getElem? (i := 238) rfl))⟩
set_option maxRecDepth 20000 in
theorem lw_p39 : lw_okq (⟨"LentToolsModel", "isVillageWord", "()Z"⟩, 39) := ⟨⟨by decide +kernel, by decide +kernel⟩, (ltm5 (List.mem_of_getElem? (i := 89) rfl)), (ltm6 (List.mem_of_getElem? (i := 1) rfl)), (ltm6 (List.mem_of_getElem? (i := 2) rfl))⟩
set_option maxRecDepth 20000 in
theorem lw_p40 : lw_okq (⟨"LentToolsModel", "isWord", "(J)Z"⟩, 39) := ⟨⟨by decide +kernel, by decide +kernel⟩, (ltm5 (List.mem_of_getElem? (i := 89) rfl)), (ltm6 (List.mem_of_getElem? (i := 6) rfl)), (ltm6 (List.mem_of_getElem? (i := 7) rfl))⟩
set_option maxRecDepth 20000 in
theorem lw_p41 : lw_okq (⟨"LentToolsModel", "isLetter", "(I)Z"⟩, 39) := ⟨⟨by decide +kernel, by decide +kernel⟩, (ltm5 (List.mem_of_getElem? (i := 89) rfl)), (ltm6 (List.mem_of_getElem? (i := 10) rfl)), (ltm6 (List.mem_of_getElem? (i := 11) rfl))⟩
set_option maxRecDepth 20000 in
theorem lw_p42 : lw_okq (⟨"LentToolsModel", "fails", "(II)Z"⟩, 39) := ⟨⟨by decide +kernel, by decide +kernel⟩, (ltm5 (List.mem_of_getElem? (i := 89) rfl)), (ltm6 (List.mem_of_getElem? (i := 19) rfl)), (ltm6 (List.mem_of_getElem? (i := 20) rfl))⟩
set_option maxRecDepth 20000 in
theorem lw_p43 : lw_okq (⟨"LentToolsModel", "villageLineHere", "(I)Z"⟩, 39) := ⟨⟨by decide +kernel, by decide +kernel⟩, (ltm5 (List.mem_of_getElem? (i := 89) rfl)), (ltm6 (List.mem_of_getElem? (i := 23) rfl)), (ltm6 (List.mem_of_getElem? (i := 24) rfl))⟩
set_option maxRecDepth 20000 in
theorem lw_p44 : lw_okq (⟨"LentToolsModel", "isVillageHere", "(I)Z"⟩, 39) := ⟨⟨by decide +kernel, by decide +kernel⟩, (ltm5 (List.mem_of_getElem? (i := 89) rfl)), (ltm6 (List.mem_of_getElem? (i := 27) rfl)), (ltm6 (List.mem_of_getElem? (i := 28) rfl))⟩
set_option maxRecDepth 20000 in
theorem lw_p45 : lw_okq (⟨"LentToolsModel", "passWord", "()V"⟩, 39) := ⟨⟨by decide +kernel, by decide +kernel⟩, (ltm5 (List.mem_of_getElem? (i := 89) rfl)), (ltm6 (List.mem_of_getElem? (i := 31) rfl)), (ltm6 (List.mem_of_getElem? (i := 32) rfl))⟩
set_option maxRecDepth 20000 in
theorem lw_p46 : lw_okq (⟨"LentToolsModel", "numberHere", "(II)Z"⟩, 39) := ⟨⟨by decide +kernel, by decide +kernel⟩, (ltm5 (List.mem_of_getElem? (i := 89) rfl)), (ltm6 (List.mem_of_getElem? (i := 35) rfl)), (ltm6 (List.mem_of_getElem? (i := 36) rfl))⟩
set_option maxRecDepth 20000 in
theorem lw_p47 : lw_okq (⟨"LentToolsModel", "isDigit", "(I)Z"⟩, 39) := ⟨⟨by decide +kernel, by decide +kernel⟩, (ltm5 (List.mem_of_getElem? (i := 89) rfl)), (ltm6 (List.mem_of_getElem? (i := 39) rfl)), (ltm6 (List.mem_of_getElem? (i := 40) rfl))⟩
def lw_privs_3 : List (MethodName × Nat) := [(⟨"LentTools$Matching", "firstTool", "(II)I"⟩, 5), (⟨"LentTools", "isSafe", "(II)Z"⟩, 17), (⟨"LentTools$Draws", "drawn", "()I"⟩, 1), (⟨"LentToolsModel", "four", "(I)V"⟩, 39), (⟨"LentToolsModel", "readsAll", "()Z"⟩, 39), (⟨"LentToolsModel", "clauseHere", "()Z"⟩, 39), (⟨"LentToolsModel", "see", "()I"⟩, 39), (⟨"LentToolsModel", "isVillageWord", "()Z"⟩, 39), (⟨"LentToolsModel", "isWord", "(J)Z"⟩, 39), (⟨"LentToolsModel", "isLetter", "(I)Z"⟩, 39), (⟨"LentToolsModel", "fails", "(II)Z"⟩, 39), (⟨"LentToolsModel", "villageLineHere", "(I)Z"⟩, 39), (⟨"LentToolsModel", "isVillageHere", "(I)Z"⟩, 39), (⟨"LentToolsModel", "passWord", "()V"⟩, 39), (⟨"LentToolsModel", "numberHere", "(II)Z"⟩, 39), (⟨"LentToolsModel", "isDigit", "(I)Z"⟩, 39)]
theorem lw_r3 : ∀ q ∈ lw_privs_3, lw_okq q := List.forall_mem_cons.mpr ⟨lw_p32, List.forall_mem_cons.mpr ⟨lw_p33, List.forall_mem_cons.mpr ⟨lw_p34, List.forall_mem_cons.mpr ⟨lw_p35, List.forall_mem_cons.mpr ⟨lw_p36, List.forall_mem_cons.mpr ⟨lw_p37, List.forall_mem_cons.mpr ⟨lw_p38, List.forall_mem_cons.mpr ⟨lw_p39, List.forall_mem_cons.mpr ⟨lw_p40, List.forall_mem_cons.mpr ⟨lw_p41, List.forall_mem_cons.mpr ⟨lw_p42, List.forall_mem_cons.mpr ⟨lw_p43, List.forall_mem_cons.mpr ⟨lw_p44, List.forall_mem_cons.mpr ⟨lw_p45, List.forall_mem_cons.mpr ⟨lw_p46, List.forall_mem_cons.mpr ⟨lw_p47, fun _ h => absurd h List.not_mem_nil⟩⟩⟩⟩⟩⟩⟩⟩⟩⟩⟩⟩⟩⟩⟩⟩
set_option maxRecDepth 20000 in
theorem lw_p48 : lw_okq (⟨"LentToolsModel", "cellHere", "(III)Z"⟩, 39) := ⟨⟨by decide +kernel, by decide +kernel⟩, (ltm5 (List.mem_of_getElem? (i := 89) rfl)), (ltm6 (List.mem_of_getElem? (i := 46) rfl)), (ltm6 (List.mem_of_getElem? (i := 47) rfl))⟩
set_option maxRecDepth 20000 in
theorem lw_p49 : lw_okq (⟨"LentToolsModel", "isToolHere", "(I)Z"⟩, 39) := ⟨⟨by decide +kernel, by decide +kernel⟩, (ltm5 (List.mem_of_getElem? (i := 89) rfl)), (ltm6 (List.mem_of_getElem? (i := 50) rfl)), (ltm6 (List.mem_of_getElem? (i := 51) rfl))⟩
set_option maxRecDepth 20000 in
theorem lw_p50 : lw_okq (⟨"LentToolsModel", "isTrustHere", "()Z"⟩, 39) := ⟨⟨by decide +kernel, by decide +kernel⟩, (ltm5 (List.mem_of_getElem? (i := 89) rfl)), (ltm6 (List.mem_of_getElem? (i := 54) rfl)), (ltm6 (List.mem_of_getElem? (i := 55) rfl))⟩
set_option maxRecDepth 20000 in
theorem lw_p51 : lw_okq (⟨"LentToolsModel", "areTwoHere", "()Z"⟩, 39) := ⟨⟨by decide +kernel, by decide +kernel⟩, (ltm5 (List.mem_of_getElem? (i := 89) rfl)), (ltm6 (List.mem_of_getElem? (i := 58) rfl)), (ltm6 (List.mem_of_getElem? (i := 59) rfl))⟩
set_option maxRecDepth 20000 in
theorem lw_p52 : lw_okq (⟨"LentToolsModel", "isWorkHere", "(I)Z"⟩, 39) := ⟨⟨by decide +kernel, by decide +kernel⟩, (ltm5 (List.mem_of_getElem? (i := 89) rfl)), (ltm6 (List.mem_of_getElem? (i := 62) rfl)), (ltm6 (List.mem_of_getElem? (i := 63) rfl))⟩
set_option maxRecDepth 20000 in
theorem lw_p53 : lw_okq (⟨"LentToolsModel", "areThanksHere", "()Z"⟩, 39) := ⟨⟨by decide +kernel, by decide +kernel⟩, (ltm5 (List.mem_of_getElem? (i := 89) rfl)), (ltm6 (List.mem_of_getElem? (i := 66) rfl)), (ltm6 (List.mem_of_getElem? (i := 67) rfl))⟩
set_option maxRecDepth 20000 in
theorem lw_p54 : lw_okq (⟨"LentToolsModel", "isLendHere", "()Z"⟩, 39) := ⟨⟨by decide +kernel, by decide +kernel⟩, (ltm5 (List.mem_of_getElem? (i := 89) rfl)), (ltm6 (List.mem_of_getElem? (i := 70) rfl)), (ltm6 (List.mem_of_getElem? (i := 71) rfl))⟩
set_option maxRecDepth 20000 in
theorem lw_p55 : lw_okq (⟨"LentToolsModel", "sum", "()Z"⟩, 39) := ⟨⟨by decide +kernel, by decide +kernel⟩, (ltm5 (List.mem_of_getElem? (i := 89) rfl)), (ltm6 (List.mem_of_getElem? (i := 74) rfl)), (ltm6 (List.mem_of_getElem? (i := 75) rfl))⟩
set_option maxRecDepth 20000 in
theorem lw_p56 : lw_okq (⟨"LentToolsModel", "term", "()Z"⟩, 39) := ⟨⟨by decide +kernel, by decide +kernel⟩, (ltm5 (List.mem_of_getElem? (i := 89) rfl)), (ltm6 (List.mem_of_getElem? (i := 78) rfl)), (ltm6 (List.mem_of_getElem? (i := 79) rfl))⟩
set_option maxRecDepth 20000 in
theorem lw_p57 : lw_okq (⟨"LentToolsModel", "value", "()Z"⟩, 39) := ⟨⟨by decide +kernel, by decide +kernel⟩, (ltm5 (List.mem_of_getElem? (i := 89) rfl)), (ltm6 (List.mem_of_getElem? (i := 82) rfl)), (ltm6 (List.mem_of_getElem? (i := 83) rfl))⟩
set_option maxRecDepth 20000 in
theorem lw_p58 : lw_okq (⟨"LentToolsModel", "makes", "(I)Z"⟩, 39) := ⟨⟨by decide +kernel, by decide +kernel⟩, (ltm5 (List.mem_of_getElem? (i := 89) rfl)), (ltm6 (List.mem_of_getElem? (i := 87) rfl)), (ltm6 (List.mem_of_getElem? (i := 88) rfl))⟩
set_option maxRecDepth 20000 in
theorem lw_p59 : lw_okq (⟨"LentToolsModel", "puts", "(II)V"⟩, 39) := ⟨⟨by decide +kernel, by decide +kernel⟩, (ltm5 (List.mem_of_getElem? (i := 89) rfl)), (ltm6 (List.mem_of_getElem? (i := 91) rfl)), (ltm6 (List.mem_of_getElem? (i := 92) rfl))⟩
set_option maxRecDepth 20000 in
theorem lw_p60 : lw_okq (⟨"LentToolsModel", "wordHere", "()I"⟩, 39) := ⟨⟨by decide +kernel, by decide +kernel⟩, (ltm5 (List.mem_of_getElem? (i := 89) rfl)), (ltm6 (List.mem_of_getElem? (i := 95) rfl)), (ltm6 (List.mem_of_getElem? (i := 96) rfl))⟩
set_option maxRecDepth 20000 in
theorem lw_p61 : lw_okq (⟨"LentToolsModel", "takesWord", "(J)Z"⟩, 39) := ⟨⟨by decide +kernel, by decide +kernel⟩, (ltm5 (List.mem_of_getElem? (i := 89) rfl)), (ltm6 (List.mem_of_getElem? (i := 112) rfl)), (ltm6 (List.mem_of_getElem? (i := 113) rfl))⟩
set_option maxRecDepth 20000 in
theorem lw_p62 : lw_okq (⟨"LentToolsModel", "tested", "()Z"⟩, 39) := ⟨⟨by decide +kernel, by decide +kernel⟩, (ltm5 (List.mem_of_getElem? (i := 89) rfl)), (ltm6 (List.mem_of_getElem? (i := 116) rfl)), (ltm6 (List.mem_of_getElem? (i := 117) rfl))⟩
set_option maxRecDepth 20000 in
theorem lw_p63 : lw_okq (⟨"LentToolsModel", "fact", "()Z"⟩, 39) := ⟨⟨by decide +kernel, by decide +kernel⟩, (ltm5 (List.mem_of_getElem? (i := 89) rfl)), (ltm6 (List.mem_of_getElem? (i := 120) rfl)), (ltm6 (List.mem_of_getElem? (i := 121) rfl))⟩
def lw_privs_4 : List (MethodName × Nat) := [(⟨"LentToolsModel", "cellHere", "(III)Z"⟩, 39), (⟨"LentToolsModel", "isToolHere", "(I)Z"⟩, 39), (⟨"LentToolsModel", "isTrustHere", "()Z"⟩, 39), (⟨"LentToolsModel", "areTwoHere", "()Z"⟩, 39), (⟨"LentToolsModel", "isWorkHere", "(I)Z"⟩, 39), (⟨"LentToolsModel", "areThanksHere", "()Z"⟩, 39), (⟨"LentToolsModel", "isLendHere", "()Z"⟩, 39), (⟨"LentToolsModel", "sum", "()Z"⟩, 39), (⟨"LentToolsModel", "term", "()Z"⟩, 39), (⟨"LentToolsModel", "value", "()Z"⟩, 39), (⟨"LentToolsModel", "makes", "(I)Z"⟩, 39), (⟨"LentToolsModel", "puts", "(II)V"⟩, 39), (⟨"LentToolsModel", "wordHere", "()I"⟩, 39), (⟨"LentToolsModel", "takesWord", "(J)Z"⟩, 39), (⟨"LentToolsModel", "tested", "()Z"⟩, 39), (⟨"LentToolsModel", "fact", "()Z"⟩, 39)]
theorem lw_r4 : ∀ q ∈ lw_privs_4, lw_okq q := List.forall_mem_cons.mpr ⟨lw_p48, List.forall_mem_cons.mpr ⟨lw_p49, List.forall_mem_cons.mpr ⟨lw_p50, List.forall_mem_cons.mpr ⟨lw_p51, List.forall_mem_cons.mpr ⟨lw_p52, List.forall_mem_cons.mpr ⟨lw_p53, List.forall_mem_cons.mpr ⟨lw_p54, List.forall_mem_cons.mpr ⟨lw_p55, List.forall_mem_cons.mpr ⟨lw_p56, List.forall_mem_cons.mpr ⟨lw_p57, List.forall_mem_cons.mpr ⟨lw_p58, List.forall_mem_cons.mpr ⟨lw_p59, List.forall_mem_cons.mpr ⟨lw_p60, List.forall_mem_cons.mpr ⟨lw_p61, List.forall_mem_cons.mpr ⟨lw_p62, List.forall_mem_cons.mpr ⟨lw_p63, fun _ h => absurd h List.not_mem_nil⟩⟩⟩⟩⟩⟩⟩⟩⟩⟩⟩⟩⟩⟩⟩⟩
set_option maxRecDepth 20000 in
theorem lw_p64 : lw_okq (⟨"LentToolsModel", "opens", "(I)Z"⟩, 39) := ⟨⟨by decide +kernel, by decide +kernel⟩, (ltm5 (List.mem_of_getElem? (i := 89) rfl)), (ltm6 (List.mem_of_getElem? (i := 125) rfl)), (ltm6 (List.mem_of_getElem? (i := 126) rfl))⟩
set_option maxRecDepth 20000 in
theorem lw_p65 : lw_okq (⟨"LentToolsModel", "compare", "()Z"⟩, 39) := ⟨⟨by decide +kernel, by decide +kernel⟩, (ltm5 (List.mem_of_getElem? (i := 89) rfl)), (ltm6 (List.mem_of_getElem? (i := 129) rfl)), (ltm6 (List.mem_of_getElem? (i := 130) rfl))⟩
set_option maxRecDepth 20000 in
theorem lw_p66 : lw_okq (⟨"LentToolsModel", "closes", "()V"⟩, 39) := ⟨⟨by decide +kernel, by decide +kernel⟩, (ltm5 (List.mem_of_getElem? (i := 89) rfl)), (ltm6 (List.mem_of_getElem? (i := 133) rfl)), (ltm6 (List.mem_of_getElem? (i := 134) rfl))⟩
set_option maxRecDepth 20000 in
theorem lw_p67 : lw_okq (⟨"LentToolsModel", "settles", "(I)V"⟩, 39) := ⟨⟨by decide +kernel, by decide +kernel⟩, (ltm5 (List.mem_of_getElem? (i := 89) rfl)), (ltm6 (List.mem_of_getElem? (i := 137) rfl)), (ltm6 (List.mem_of_getElem? (i := 138) rfl))⟩
set_option maxRecDepth 20000 in
theorem lw_p68 : lw_okq (⟨"LentToolsModel", "isInside", "()Z"⟩, 39) := ⟨⟨by decide +kernel, by decide +kernel⟩, (ltm5 (List.mem_of_getElem? (i := 89) rfl)), (ltm6 (List.mem_of_getElem? (i := 144) rfl)), (ltm6 (List.mem_of_getElem? (i := 145) rfl))⟩
set_option maxRecDepth 20000 in
theorem lw_p69 : lw_okq (⟨"LentToolsModel", "isTool", "(I)Z"⟩, 39) := ⟨⟨by decide +kernel, by decide +kernel⟩, (ltm5 (List.mem_of_getElem? (i := 89) rfl)), (ltm6 (List.mem_of_getElem? (i := 158) rfl)), (ltm6 (List.mem_of_getElem? (i := 159) rfl))⟩
set_option maxRecDepth 20000 in
theorem lw_p70 : lw_okq (⟨"LentToolsModel", "toolOf", "(II)I"⟩, 39) := ⟨⟨by decide +kernel, by decide +kernel⟩, (ltm5 (List.mem_of_getElem? (i := 89) rfl)), (ltm6 (List.mem_of_getElem? (i := 163) rfl)), (ltm6 (List.mem_of_getElem? (i := 164) rfl))⟩
set_option maxRecDepth 20000 in
theorem lw_p71 : lw_okq (⟨"LentToolsModel", "sharpBy", "(II)I"⟩, 39) := ⟨⟨by decide +kernel, by decide +kernel⟩, (ltm5 (List.mem_of_getElem? (i := 89) rfl)), (ltm6 (List.mem_of_getElem? (i := 167) rfl)), (ltm6 (List.mem_of_getElem? (i := 168) rfl))⟩
set_option maxRecDepth 20000 in
theorem lw_p72 : lw_okq (⟨"LentToolsModel", "isAtHome", "(I)Z"⟩, 39) := ⟨⟨by decide +kernel, by decide +kernel⟩, (ltm5 (List.mem_of_getElem? (i := 89) rfl)), (ltm6 (List.mem_of_getElem? (i := 171) rfl)), (ltm6 (List.mem_of_getElem? (i := 172) rfl))⟩
set_option maxRecDepth 20000 in
theorem lw_p73 : lw_okq (⟨"LentToolsModel", "rustOf", "(I)I"⟩, 39) := ⟨⟨by decide +kernel, by decide +kernel⟩, (ltm5 (List.mem_of_getElem? (i := 89) rfl)), (ltm6 (List.mem_of_getElem? (i := 175) rfl)), (ltm6 (List.mem_of_getElem? (i := 176) rfl))⟩
set_option maxRecDepth 20000 in
theorem lw_p74 : lw_okq (⟨"LentToolsModel", "isWork", "(I)Z"⟩, 39) := ⟨⟨by decide +kernel, by decide +kernel⟩, (ltm5 (List.mem_of_getElem? (i := 89) rfl)), (ltm6 (List.mem_of_getElem? (i := 183) rfl)), (ltm6 (List.mem_of_getElem? (i := 184) rfl))⟩
set_option maxRecDepth 20000 in
theorem lw_p75 : lw_okq (⟨"LentToolsModel", "workOf", "(II)I"⟩, 39) := ⟨⟨by decide +kernel, by decide +kernel⟩, (ltm5 (List.mem_of_getElem? (i := 89) rfl)), (ltm6 (List.mem_of_getElem? (i := 188) rfl)), (ltm6 (List.mem_of_getElem? (i := 189) rfl))⟩
set_option maxRecDepth 20000 in
theorem lw_p76 : lw_okq (⟨"LentToolsModel", "canDo", "(I)Z"⟩, 39) := ⟨⟨by decide +kernel, by decide +kernel⟩, (ltm5 (List.mem_of_getElem? (i := 89) rfl)), (ltm6 (List.mem_of_getElem? (i := 192) rfl)), (ltm6 (List.mem_of_getElem? (i := 193) rfl))⟩
set_option maxRecDepth 20000 in
theorem lw_p77 : lw_okq (⟨"LentToolsModel", "isDone", "(I)Z"⟩, 39) := ⟨⟨by decide +kernel, by decide +kernel⟩, (ltm5 (List.mem_of_getElem? (i := 89) rfl)), (ltm6 (List.mem_of_getElem? (i := 196) rfl)), (ltm6 (List.mem_of_getElem? (i := 197) rfl))⟩
set_option maxRecDepth 20000 in
theorem lw_p78 : lw_okq (⟨"LentToolsModel", "isHouse", "(I)Z"⟩, 39) := ⟨⟨by decide +kernel, by decide +kernel⟩, (ltm5 (List.mem_of_getElem? (i := 89) rfl)), (ltm6 (List.mem_of_getElem? (i := 204) rfl)), (ltm6 (List.mem_of_getElem? (i := 205) rfl))⟩
set_option maxRecDepth 20000 in
theorem lw_p79 : lw_okq (⟨"LentToolsModel", "thanksOf", "(II)I"⟩, 39) := ⟨⟨by decide +kernel, by decide +kernel⟩, (ltm5 (List.mem_of_getElem? (i := 89) rfl)), (ltm6 (List.mem_of_getElem? (i := 208) rfl)), (ltm6 (List.mem_of_getElem? (i := 209) rfl))⟩
def lw_privs_5 : List (MethodName × Nat) := [(⟨"LentToolsModel", "opens", "(I)Z"⟩, 39), (⟨"LentToolsModel", "compare", "()Z"⟩, 39), (⟨"LentToolsModel", "closes", "()V"⟩, 39), (⟨"LentToolsModel", "settles", "(I)V"⟩, 39), (⟨"LentToolsModel", "isInside", "()Z"⟩, 39), (⟨"LentToolsModel", "isTool", "(I)Z"⟩, 39), (⟨"LentToolsModel", "toolOf", "(II)I"⟩, 39), (⟨"LentToolsModel", "sharpBy", "(II)I"⟩, 39), (⟨"LentToolsModel", "isAtHome", "(I)Z"⟩, 39), (⟨"LentToolsModel", "rustOf", "(I)I"⟩, 39), (⟨"LentToolsModel", "isWork", "(I)Z"⟩, 39), (⟨"LentToolsModel", "workOf", "(II)I"⟩, 39), (⟨"LentToolsModel", "canDo", "(I)Z"⟩, 39), (⟨"LentToolsModel", "isDone", "(I)Z"⟩, 39), (⟨"LentToolsModel", "isHouse", "(I)Z"⟩, 39), (⟨"LentToolsModel", "thanksOf", "(II)I"⟩, 39)]
theorem lw_r5 : ∀ q ∈ lw_privs_5, lw_okq q := List.forall_mem_cons.mpr ⟨lw_p64, List.forall_mem_cons.mpr ⟨lw_p65, List.forall_mem_cons.mpr ⟨lw_p66, List.forall_mem_cons.mpr ⟨lw_p67, List.forall_mem_cons.mpr ⟨lw_p68, List.forall_mem_cons.mpr ⟨lw_p69, List.forall_mem_cons.mpr ⟨lw_p70, List.forall_mem_cons.mpr ⟨lw_p71, List.forall_mem_cons.mpr ⟨lw_p72, List.forall_mem_cons.mpr ⟨lw_p73, List.forall_mem_cons.mpr ⟨lw_p74, List.forall_mem_cons.mpr ⟨lw_p75, List.forall_mem_cons.mpr ⟨lw_p76, List.forall_mem_cons.mpr ⟨lw_p77, List.forall_mem_cons.mpr ⟨lw_p78, List.forall_mem_cons.mpr ⟨lw_p79, fun _ h => absurd h List.not_mem_nil⟩⟩⟩⟩⟩⟩⟩⟩⟩⟩⟩⟩⟩⟩⟩⟩
set_option maxRecDepth 20000 in
theorem lw_p80 : lw_okq (⟨"LentToolsModel", "trusts", "(II)Z"⟩, 39) := ⟨⟨by decide +kernel, by decide +kernel⟩, (ltm5 (List.mem_of_getElem? (i := 89) rfl)), (ltm6 (List.mem_of_getElem? (i := 212) rfl)), (ltm6 (List.mem_of_getElem? (i := 213) rfl))⟩
set_option maxRecDepth 20000 in
theorem lw_p81 : lw_okq (⟨"LentToolsModel", "canLend", "(II)Z"⟩, 39) := ⟨⟨by decide +kernel, by decide +kernel⟩, (ltm5 (List.mem_of_getElem? (i := 89) rfl)), (ltm6 (List.mem_of_getElem? (i := 224) rfl)), (ltm6 (List.mem_of_getElem? (i := 225) rfl))⟩
set_option maxRecDepth 20000 in
theorem lw_p82 : lw_okq (⟨"LentToolsModel", "keepsAct", "()V"⟩, 39) := ⟨⟨by decide +kernel, by decide +kernel⟩, (ltm5 (List.mem_of_getElem? (i := 89) rfl)), (ltm6 (List.mem_of_getElem? (i := 228) rfl)), (ltm6 (List.mem_of_getElem? (i := 229) rfl))⟩
set_option maxRecDepth 20000 in
theorem lw_p83 : lw_okq (⟨"LentToolsModel", "lends", "(II)V"⟩, 39) := ⟨⟨by decide +kernel, by decide +kernel⟩, (ltm5 (List.mem_of_getElem? (i := 89) rfl)), (ltm6 (List.mem_of_getElem? (i := 232) rfl)), (ltm6 (List.mem_of_getElem? (i := 233) rfl))⟩
set_option maxRecDepth 20000 in
theorem lw_p84 : lw_okq (⟨"LentToolsModel", "goesHome", "(I)V"⟩, 39) := ⟨⟨by decide +kernel, by decide +kernel⟩, (ltm5 (List.mem_of_getElem? (i := 89) rfl)), (ltm7 (List.mem_of_getElem? (i := 0) rfl)), (ltm7 (List.mem_of_getElem? (i := 1) rfl))⟩
set_option maxRecDepth 20000 in
theorem lw_p85 : lw_okq (⟨"LentToolsModel", "works", "(I)I"⟩, 39) := ⟨⟨by decide +kernel, by decide +kernel⟩, (ltm5 (List.mem_of_getElem? (i := 89) rfl)), (ltm7 (List.mem_of_getElem? (i := 8) rfl)), (ltm7 (List.mem_of_getElem? (i := 9) rfl))⟩
set_option maxRecDepth 20000 in
theorem lw_p86 : lw_okq (⟨"LentToolsModel", "parts", "(II)V"⟩, 39) := ⟨⟨by decide +kernel, by decide +kernel⟩, (ltm5 (List.mem_of_getElem? (i := 89) rfl)), (ltm7 (List.mem_of_getElem? (i := 16) rfl)), (ltm7 (List.mem_of_getElem? (i := 17) rfl))⟩
set_option maxRecDepth 20000 in
theorem lw_p87 : lw_okq (⟨"LentToolsModel", "isGiven", "(II)V"⟩, 39) := ⟨⟨by decide +kernel, by decide +kernel⟩, (ltm5 (List.mem_of_getElem? (i := 89) rfl)), (ltm7 (List.mem_of_getElem? (i := 24) rfl)), (ltm7 (List.mem_of_getElem? (i := 25) rfl))⟩
set_option maxRecDepth 20000 in
theorem lw_p88 : lw_okq (⟨"LentToolsModel", "isVillage", "()Z"⟩, 39) := ⟨⟨by decide +kernel, by decide +kernel⟩, (ltm5 (List.mem_of_getElem? (i := 89) rfl)), (ltm7 (List.mem_of_getElem? (i := 32) rfl)), (ltm7 (List.mem_of_getElem? (i := 33) rfl))⟩
set_option maxRecDepth 20000 in
theorem lw_p89 : lw_okq (⟨"LentToolsModel", "passes", "()I"⟩, 39) := ⟨⟨by decide +kernel, by decide +kernel⟩, (ltm5 (List.mem_of_getElem? (i := 89) rfl)), (ltm7 (List.mem_of_getElem? (i := 36) rfl)), (ltm7 (List.mem_of_getElem? (i := 37) rfl))⟩
set_option maxRecDepth 20000 in
theorem lw_p90 : lw_okq (⟨"LentToolsModel", "shortestRing", "()I"⟩, 39) := ⟨⟨by decide +kernel, by decide +kernel⟩, (ltm5 (List.mem_of_getElem? (i := 89) rfl)), (ltm7 (List.mem_of_getElem? (i := 44) rfl)), (ltm7 (List.mem_of_getElem? (i := 45) rfl))⟩
set_option maxRecDepth 20000 in
theorem lw_p91 : lw_okq (⟨"LentToolsModel", "isRing", "(II)Z"⟩, 39) := ⟨⟨by decide +kernel, by decide +kernel⟩, (ltm5 (List.mem_of_getElem? (i := 89) rfl)), (ltm7 (List.mem_of_getElem? (i := 51) rfl)), (ltm7 (List.mem_of_getElem? (i := 52) rfl))⟩
set_option maxRecDepth 20000 in
theorem lw_p92 : lw_okq (⟨"LentToolsModel", "areUnlike", "(II)Z"⟩, 39) := ⟨⟨by decide +kernel, by decide +kernel⟩, (ltm5 (List.mem_of_getElem? (i := 89) rfl)), (ltm7 (List.mem_of_getElem? (i := 55) rfl)), (ltm7 (List.mem_of_getElem? (i := 56) rfl))⟩
set_option maxRecDepth 20000 in
theorem lw_p93 : lw_okq (⟨"LentToolsModel", "houseIn", "(III)I"⟩, 39) := ⟨⟨by decide +kernel, by decide +kernel⟩, (ltm5 (List.mem_of_getElem? (i := 89) rfl)), (ltm7 (List.mem_of_getElem? (i := 59) rfl)), (ltm7 (List.mem_of_getElem? (i := 60) rfl))⟩
set_option maxRecDepth 20000 in
theorem lw_p94 : lw_okq (⟨"LentToolsModel", "isRule", "(I)Z"⟩, 39) := ⟨⟨by decide +kernel, by decide +kernel⟩, (ltm5 (List.mem_of_getElem? (i := 89) rfl)), (ltm7 (List.mem_of_getElem? (i := 70) rfl)), (ltm7 (List.mem_of_getElem? (i := 71) rfl))⟩
set_option maxRecDepth 20000 in
theorem lw_p95 : lw_okq (⟨"LentToolsModel", "goesBy", "(I)I"⟩, 39) := ⟨⟨by decide +kernel, by decide +kernel⟩, (ltm5 (List.mem_of_getElem? (i := 89) rfl)), (ltm7 (List.mem_of_getElem? (i := 75) rfl)), (ltm7 (List.mem_of_getElem? (i := 76) rfl))⟩
def lw_privs_6 : List (MethodName × Nat) := [(⟨"LentToolsModel", "trusts", "(II)Z"⟩, 39), (⟨"LentToolsModel", "canLend", "(II)Z"⟩, 39), (⟨"LentToolsModel", "keepsAct", "()V"⟩, 39), (⟨"LentToolsModel", "lends", "(II)V"⟩, 39), (⟨"LentToolsModel", "goesHome", "(I)V"⟩, 39), (⟨"LentToolsModel", "works", "(I)I"⟩, 39), (⟨"LentToolsModel", "parts", "(II)V"⟩, 39), (⟨"LentToolsModel", "isGiven", "(II)V"⟩, 39), (⟨"LentToolsModel", "isVillage", "()Z"⟩, 39), (⟨"LentToolsModel", "passes", "()I"⟩, 39), (⟨"LentToolsModel", "shortestRing", "()I"⟩, 39), (⟨"LentToolsModel", "isRing", "(II)Z"⟩, 39), (⟨"LentToolsModel", "areUnlike", "(II)Z"⟩, 39), (⟨"LentToolsModel", "houseIn", "(III)I"⟩, 39), (⟨"LentToolsModel", "isRule", "(I)Z"⟩, 39), (⟨"LentToolsModel", "goesBy", "(I)I"⟩, 39)]
theorem lw_r6 : ∀ q ∈ lw_privs_6, lw_okq q := List.forall_mem_cons.mpr ⟨lw_p80, List.forall_mem_cons.mpr ⟨lw_p81, List.forall_mem_cons.mpr ⟨lw_p82, List.forall_mem_cons.mpr ⟨lw_p83, List.forall_mem_cons.mpr ⟨lw_p84, List.forall_mem_cons.mpr ⟨lw_p85, List.forall_mem_cons.mpr ⟨lw_p86, List.forall_mem_cons.mpr ⟨lw_p87, List.forall_mem_cons.mpr ⟨lw_p88, List.forall_mem_cons.mpr ⟨lw_p89, List.forall_mem_cons.mpr ⟨lw_p90, List.forall_mem_cons.mpr ⟨lw_p91, List.forall_mem_cons.mpr ⟨lw_p92, List.forall_mem_cons.mpr ⟨lw_p93, List.forall_mem_cons.mpr ⟨lw_p94, List.forall_mem_cons.mpr ⟨lw_p95, fun _ h => absurd h List.not_mem_nil⟩⟩⟩⟩⟩⟩⟩⟩⟩⟩⟩⟩⟩⟩⟩⟩
set_option maxRecDepth 20000 in
theorem lw_p96 : lw_okq (⟨"LentToolsModel", "houseBy", "(II)I"⟩, 39) := ⟨⟨by decide +kernel, by decide +kernel⟩, (ltm5 (List.mem_of_getElem? (i := 89) rfl)), (ltm7 (List.mem_of_getElem? (i := 79) rfl)), (ltm7 (List.mem_of_getElem? (i := 80) rfl))⟩
set_option maxRecDepth 20000 in
theorem lw_p97 : lw_okq (⟨"LentToolsModel", "words", "(II)V"⟩, 39) := ⟨⟨by decide +kernel, by decide +kernel⟩, (ltm5 (List.mem_of_getElem? (i := 89) rfl)), (ltm7 (List.mem_of_getElem? (i := 83) rfl)), (ltm7 (List.mem_of_getElem? (i := 84) rfl))⟩
set_option maxRecDepth 20000 in
theorem lw_p98 : lw_okq (⟨"LentToolsModel", "summedBy", "(I)J"⟩, 39) := ⟨⟨by decide +kernel, by decide +kernel⟩, (ltm5 (List.mem_of_getElem? (i := 89) rfl)), (ltm7 (List.mem_of_getElem? (i := 87) rfl)), (ltm7 (List.mem_of_getElem? (i := 88) rfl))⟩
set_option maxRecDepth 20000 in
theorem lw_p99 : lw_okq (⟨"LentToolsModel", "reckons", "(III)J"⟩, 39) := ⟨⟨by decide +kernel, by decide +kernel⟩, (ltm5 (List.mem_of_getElem? (i := 89) rfl)), (ltm7 (List.mem_of_getElem? (i := 91) rfl)), (ltm7 (List.mem_of_getElem? (i := 92) rfl))⟩
set_option maxRecDepth 20000 in
theorem lw_p100 : lw_okq (⟨"LentToolsModel", "push", "(J)V"⟩, 39) := ⟨⟨by decide +kernel, by decide +kernel⟩, (ltm5 (List.mem_of_getElem? (i := 89) rfl)), (ltm7 (List.mem_of_getElem? (i := 95) rfl)), (ltm7 (List.mem_of_getElem? (i := 96) rfl))⟩
set_option maxRecDepth 20000 in
theorem lw_p101 : lw_okq (⟨"LentToolsModel", "pop", "()J"⟩, 39) := ⟨⟨by decide +kernel, by decide +kernel⟩, (ltm5 (List.mem_of_getElem? (i := 89) rfl)), (ltm7 (List.mem_of_getElem? (i := 99) rfl)), (ltm7 (List.mem_of_getElem? (i := 100) rfl))⟩
set_option maxRecDepth 20000 in
theorem lw_p102 : lw_okq (⟨"LentToolsModel", "worksAll", "()I"⟩, 39) := ⟨⟨by decide +kernel, by decide +kernel⟩, (ltm5 (List.mem_of_getElem? (i := 89) rfl)), (ltm7 (List.mem_of_getElem? (i := 106) rfl)), (ltm7 (List.mem_of_getElem? (i := 107) rfl))⟩
set_option maxRecDepth 20000 in
theorem lw_p103 : lw_okq (⟨"LentToolsModel", "chainOf", "(IIZ)I"⟩, 39) := ⟨⟨by decide +kernel, by decide +kernel⟩, (ltm5 (List.mem_of_getElem? (i := 89) rfl)), (ltm7 (List.mem_of_getElem? (i := 115) rfl)), (ltm7 (List.mem_of_getElem? (i := 116) rfl))⟩
set_option maxRecDepth 20000 in
theorem lw_p104 : lw_okq (⟨"LentToolsModel", "hasChain", "(III)Z"⟩, 39) := ⟨⟨by decide +kernel, by decide +kernel⟩, (ltm5 (List.mem_of_getElem? (i := 89) rfl)), (ltm7 (List.mem_of_getElem? (i := 119) rfl)), (ltm7 (List.mem_of_getElem? (i := 120) rfl))⟩
set_option maxRecDepth 20000 in
theorem lw_p105 : lw_okq (⟨"LentToolsModel", "isChain", "(IIII)Z"⟩, 39) := ⟨⟨by decide +kernel, by decide +kernel⟩, (ltm5 (List.mem_of_getElem? (i := 89) rfl)), (ltm7 (List.mem_of_getElem? (i := 123) rfl)), (ltm7 (List.mem_of_getElem? (i := 124) rfl))⟩
set_option maxRecDepth 20000 in
theorem lw_p106 : lw_okq (⟨"LentToolsModel", "hasHouse", "(III)Z"⟩, 39) := ⟨⟨by decide +kernel, by decide +kernel⟩, (ltm5 (List.mem_of_getElem? (i := 89) rfl)), (ltm7 (List.mem_of_getElem? (i := 127) rfl)), (ltm7 (List.mem_of_getElem? (i := 128) rfl))⟩
set_option maxRecDepth 20000 in
theorem lw_p107 : lw_okq (⟨"LentToolsModel", "areTrusted", "(III)Z"⟩, 39) := ⟨⟨by decide +kernel, by decide +kernel⟩, (ltm5 (List.mem_of_getElem? (i := 89) rfl)), (ltm7 (List.mem_of_getElem? (i := 131) rfl)), (ltm7 (List.mem_of_getElem? (i := 132) rfl))⟩
set_option maxRecDepth 20000 in
theorem lw_p108 : lw_okq (⟨"LentToolsModel", "matches", "(I)I"⟩, 39) := ⟨⟨by decide +kernel, by decide +kernel⟩, (ltm5 (List.mem_of_getElem? (i := 89) rfl)), (ltm7 (List.mem_of_getElem? (i := 139) rfl)), (ltm7 (List.mem_of_getElem? (i := 140) rfl))⟩
set_option maxRecDepth 20000 in
theorem lw_p109 : lw_okq (⟨"LentToolsModel", "fillsSuits", "(I)V"⟩, 39) := ⟨⟨by decide +kernel, by decide +kernel⟩, (ltm5 (List.mem_of_getElem? (i := 89) rfl)), (ltm7 (List.mem_of_getElem? (i := 143) rfl)), (ltm7 (List.mem_of_getElem? (i := 144) rfl))⟩
set_option maxRecDepth 20000 in
theorem lw_p110 : lw_okq (⟨"LentToolsModel", "payBy", "(I)I"⟩, 39) := ⟨⟨by decide +kernel, by decide +kernel⟩, (ltm5 (List.mem_of_getElem? (i := 89) rfl)), (ltm7 (List.mem_of_getElem? (i := 147) rfl)), (ltm7 (List.mem_of_getElem? (i := 148) rfl))⟩
set_option maxRecDepth 20000 in
theorem lw_p111 : lw_okq (⟨"LentToolsModel", "toolIn", "(II)I"⟩, 39) := ⟨⟨by decide +kernel, by decide +kernel⟩, (ltm5 (List.mem_of_getElem? (i := 89) rfl)), (ltm7 (List.mem_of_getElem? (i := 151) rfl)), (ltm7 (List.mem_of_getElem? (i := 152) rfl))⟩
def lw_privs_7 : List (MethodName × Nat) := [(⟨"LentToolsModel", "houseBy", "(II)I"⟩, 39), (⟨"LentToolsModel", "words", "(II)V"⟩, 39), (⟨"LentToolsModel", "summedBy", "(I)J"⟩, 39), (⟨"LentToolsModel", "reckons", "(III)J"⟩, 39), (⟨"LentToolsModel", "push", "(J)V"⟩, 39), (⟨"LentToolsModel", "pop", "()J"⟩, 39), (⟨"LentToolsModel", "worksAll", "()I"⟩, 39), (⟨"LentToolsModel", "chainOf", "(IIZ)I"⟩, 39), (⟨"LentToolsModel", "hasChain", "(III)Z"⟩, 39), (⟨"LentToolsModel", "isChain", "(IIII)Z"⟩, 39), (⟨"LentToolsModel", "hasHouse", "(III)Z"⟩, 39), (⟨"LentToolsModel", "areTrusted", "(III)Z"⟩, 39), (⟨"LentToolsModel", "matches", "(I)I"⟩, 39), (⟨"LentToolsModel", "fillsSuits", "(I)V"⟩, 39), (⟨"LentToolsModel", "payBy", "(I)I"⟩, 39), (⟨"LentToolsModel", "toolIn", "(II)I"⟩, 39)]
theorem lw_r7 : ∀ q ∈ lw_privs_7, lw_okq q := List.forall_mem_cons.mpr ⟨lw_p96, List.forall_mem_cons.mpr ⟨lw_p97, List.forall_mem_cons.mpr ⟨lw_p98, List.forall_mem_cons.mpr ⟨lw_p99, List.forall_mem_cons.mpr ⟨lw_p100, List.forall_mem_cons.mpr ⟨lw_p101, List.forall_mem_cons.mpr ⟨lw_p102, List.forall_mem_cons.mpr ⟨lw_p103, List.forall_mem_cons.mpr ⟨lw_p104, List.forall_mem_cons.mpr ⟨lw_p105, List.forall_mem_cons.mpr ⟨lw_p106, List.forall_mem_cons.mpr ⟨lw_p107, List.forall_mem_cons.mpr ⟨lw_p108, List.forall_mem_cons.mpr ⟨lw_p109, List.forall_mem_cons.mpr ⟨lw_p110, List.forall_mem_cons.mpr ⟨lw_p111, fun _ h => absurd h List.not_mem_nil⟩⟩⟩⟩⟩⟩⟩⟩⟩⟩⟩⟩⟩⟩⟩⟩
set_option maxRecDepth 20000 in
theorem lw_p112 : lw_okq (⟨"LentToolsModel", "keeps", "()V"⟩, 39) := ⟨⟨by decide +kernel, by decide +kernel⟩, (ltm5 (List.mem_of_getElem? (i := 89) rfl)), (ltm7 (List.mem_of_getElem? (i := 163) rfl)), (ltm7 (List.mem_of_getElem? (i := 164) rfl))⟩
set_option maxRecDepth 20000 in
theorem lw_p113 : lw_okq (⟨"LentToolsModel", "laysBack", "()V"⟩, 39) := ⟨⟨by decide +kernel, by decide +kernel⟩, (ltm5 (List.mem_of_getElem? (i := 89) rfl)), (ltm7 (List.mem_of_getElem? (i := 167) rfl)), (ltm7 (List.mem_of_getElem? (i := 168) rfl))⟩
set_option maxRecDepth 20000 in
theorem lw_p114 : lw_okq (⟨"LentToolsModel", "owedFrom", "(I)I"⟩, 39) := ⟨⟨by decide +kernel, by decide +kernel⟩, (ltm5 (List.mem_of_getElem? (i := 89) rfl)), (ltm7 (List.mem_of_getElem? (i := 180) rfl)), (ltm7 (List.mem_of_getElem? (i := 181) rfl))⟩
set_option maxRecDepth 20000 in
theorem lw_p115 : lw_okq (⟨"LentToolsModel", "findsRows", "(II)V"⟩, 39) := ⟨⟨by decide +kernel, by decide +kernel⟩, (ltm5 (List.mem_of_getElem? (i := 89) rfl)), (ltm7 (List.mem_of_getElem? (i := 192) rfl)), (ltm7 (List.mem_of_getElem? (i := 193) rfl))⟩
set_option maxRecDepth 20000 in
theorem lw_p116 : lw_okq (⟨"LentToolsModel", "areAllDone", "()Z"⟩, 39) := ⟨⟨by decide +kernel, by decide +kernel⟩, (ltm5 (List.mem_of_getElem? (i := 89) rfl)), (ltm7 (List.mem_of_getElem? (i := 200) rfl)), (ltm7 (List.mem_of_getElem? (i := 201) rfl))⟩
set_option maxRecDepth 20000 in
theorem lw_p117 : lw_okq (⟨"LentToolsModel", "isSafe", "(II)Z"⟩, 39) := ⟨⟨by decide +kernel, by decide +kernel⟩, (ltm5 (List.mem_of_getElem? (i := 89) rfl)), (ltm7 (List.mem_of_getElem? (i := 209) rfl)), (ltm7 (List.mem_of_getElem? (i := 210) rfl))⟩
set_option maxRecDepth 20000 in
theorem lw_p118 : lw_okq (⟨"LentToolsModel", "getsOne", "(II)Z"⟩, 39) := ⟨⟨by decide +kernel, by decide +kernel⟩, (ltm5 (List.mem_of_getElem? (i := 89) rfl)), (ltm7 (List.mem_of_getElem? (i := 213) rfl)), (ltm7 (List.mem_of_getElem? (i := 214) rfl))⟩
set_option maxRecDepth 20000 in
theorem lw_p119 : lw_okq (⟨"LentToolsModel", "lendsDrawn", "()I"⟩, 39) := ⟨⟨by decide +kernel, by decide +kernel⟩, (ltm5 (List.mem_of_getElem? (i := 89) rfl)), (ltm7 (List.mem_of_getElem? (i := 226) rfl)), (ltm7 (List.mem_of_getElem? (i := 227) rfl))⟩
set_option maxRecDepth 20000 in
theorem lw_p120 : lw_okq (⟨"LentToolsModel", "draw", "(I)I"⟩, 39) := ⟨⟨by decide +kernel, by decide +kernel⟩, (ltm5 (List.mem_of_getElem? (i := 89) rfl)), (ltm7 (List.mem_of_getElem? (i := 230) rfl)), (ltm7 (List.mem_of_getElem? (i := 231) rfl))⟩
def lw_privs_8 : List (MethodName × Nat) := [(⟨"LentToolsModel", "keeps", "()V"⟩, 39), (⟨"LentToolsModel", "laysBack", "()V"⟩, 39), (⟨"LentToolsModel", "owedFrom", "(I)I"⟩, 39), (⟨"LentToolsModel", "findsRows", "(II)V"⟩, 39), (⟨"LentToolsModel", "areAllDone", "()Z"⟩, 39), (⟨"LentToolsModel", "isSafe", "(II)Z"⟩, 39), (⟨"LentToolsModel", "getsOne", "(II)Z"⟩, 39), (⟨"LentToolsModel", "lendsDrawn", "()I"⟩, 39), (⟨"LentToolsModel", "draw", "(I)I"⟩, 39)]
theorem lw_r8 : ∀ q ∈ lw_privs_8, lw_okq q := List.forall_mem_cons.mpr ⟨lw_p112, List.forall_mem_cons.mpr ⟨lw_p113, List.forall_mem_cons.mpr ⟨lw_p114, List.forall_mem_cons.mpr ⟨lw_p115, List.forall_mem_cons.mpr ⟨lw_p116, List.forall_mem_cons.mpr ⟨lw_p117, List.forall_mem_cons.mpr ⟨lw_p118, List.forall_mem_cons.mpr ⟨lw_p119, List.forall_mem_cons.mpr ⟨lw_p120, fun _ h => absurd h List.not_mem_nil⟩⟩⟩⟩⟩⟩⟩⟩⟩
def lw_privs : List (MethodName × Nat) := lw_privs_1 ++ (lw_privs_2 ++ (lw_privs_3 ++ (lw_privs_4 ++ (lw_privs_5 ++ (lw_privs_6 ++ (lw_privs_7 ++ (lw_privs_8)))))))
def lw_tbl : List Cond := k2_sels lw_privs ++ tables_1
theorem lw_privs_ok : ∀ q ∈ lw_privs, lw_okq q := by
  show ∀ q ∈ lw_privs_1 ++ (lw_privs_2 ++ (lw_privs_3 ++ (lw_privs_4 ++ (lw_privs_5 ++ (lw_privs_6 ++ (lw_privs_7 ++ (lw_privs_8))))))), lw_okq q
  exact List.forall_mem_append.mpr ⟨lw_r1, List.forall_mem_append.mpr ⟨lw_r2, List.forall_mem_append.mpr ⟨lw_r3, List.forall_mem_append.mpr ⟨lw_r4, List.forall_mem_append.mpr ⟨lw_r5, List.forall_mem_append.mpr ⟨lw_r6, List.forall_mem_append.mpr ⟨lw_r7, lw_r8⟩⟩⟩⟩⟩⟩⟩
-- ===== end of PART A; then your names; then what follows =====
theorem zz_wide : True := by have := @_root_.Jvm.Stand.arrayOver_alikeB; trivial
