section
-- ===== PART A: goes FIRST, ahead of the names: the tables' words, and 'selects' of the private methods out of them =====
/-- a private method of a class that the tables say can be made, by its rows of tables_1 -/
def lw_okq (q : MethodName × Nat) : Prop := (q.1.cls ≠ "java/lang/invoke/MethodHandle" ∧ q.1.cls ≠ "java/lang/invoke/VarHandle") ∧ Cond.instantiable q.1.cls q.2 ∈ tables_1 ∧ Cond.privateMethod q.1 ∈ tables_1 ∧ Cond.instanceMethod q.1 ∈ tables_1
theorem lw_p0 : lw_okq (⟨"MicroMill$Work", "packed", "()I"⟩, 6) := ⟨⟨by decide +kernel, by decide +kernel⟩, List.mem_of_getElem? (i := 14) (by decide +kernel), List.mem_of_getElem? (i := 91) (by decide +kernel), List.mem_of_getElem? (i := 92) (by decide +kernel)⟩
theorem lw_p1 : lw_okq (⟨"MicroMill", "doInstruction", "()I"⟩, 7) := ⟨⟨by decide +kernel, by decide +kernel⟩, List.mem_of_getElem? (i := 6) (by decide +kernel), List.mem_of_getElem? (i := 99) (by decide +kernel), List.mem_of_getElem? (i := 100) (by decide +kernel)⟩
theorem lw_p2 : lw_okq (⟨"MicroMill", "stepUp", "(II)I"⟩, 7) := ⟨⟨by decide +kernel, by decide +kernel⟩, List.mem_of_getElem? (i := 6) (by decide +kernel), List.mem_of_getElem? (i := 103) (by decide +kernel), List.mem_of_getElem? (i := 104) (by decide +kernel)⟩
theorem lw_p3 : lw_okq (⟨"MicroMill", "readWord", "(I)I"⟩, 7) := ⟨⟨by decide +kernel, by decide +kernel⟩, List.mem_of_getElem? (i := 6) (by decide +kernel), List.mem_of_getElem? (i := 107) (by decide +kernel), List.mem_of_getElem? (i := 108) (by decide +kernel)⟩
theorem lw_p4 : lw_okq (⟨"MicroMill", "perform", "(I)V"⟩, 7) := ⟨⟨by decide +kernel, by decide +kernel⟩, List.mem_of_getElem? (i := 6) (by decide +kernel), List.mem_of_getElem? (i := 111) (by decide +kernel), List.mem_of_getElem? (i := 112) (by decide +kernel)⟩
theorem lw_p5 : lw_okq (⟨"MicroMill", "doTwoOperands", "(I)V"⟩, 7) := ⟨⟨by decide +kernel, by decide +kernel⟩, List.mem_of_getElem? (i := 6) (by decide +kernel), List.mem_of_getElem? (i := 118) (by decide +kernel), List.mem_of_getElem? (i := 119) (by decide +kernel)⟩
theorem lw_p6 : lw_okq (⟨"MicroMill", "readOperand", "(IZ)I"⟩, 7) := ⟨⟨by decide +kernel, by decide +kernel⟩, List.mem_of_getElem? (i := 6) (by decide +kernel), List.mem_of_getElem? (i := 123) (by decide +kernel), List.mem_of_getElem? (i := 124) (by decide +kernel)⟩
theorem lw_p7 : lw_okq (⟨"MicroMill", "findAddress", "(III)I"⟩, 7) := ⟨⟨by decide +kernel, by decide +kernel⟩, List.mem_of_getElem? (i := 6) (by decide +kernel), List.mem_of_getElem? (i := 129) (by decide +kernel), List.mem_of_getElem? (i := 130) (by decide +kernel)⟩
theorem lw_p8 : lw_okq (⟨"MicroMill", "stepDown", "(II)I"⟩, 7) := ⟨⟨by decide +kernel, by decide +kernel⟩, List.mem_of_getElem? (i := 6) (by decide +kernel), List.mem_of_getElem? (i := 133) (by decide +kernel), List.mem_of_getElem? (i := 134) (by decide +kernel)⟩
theorem lw_p9 : lw_okq (⟨"MicroMill", "readByte", "(I)I"⟩, 7) := ⟨⟨by decide +kernel, by decide +kernel⟩, List.mem_of_getElem? (i := 6) (by decide +kernel), List.mem_of_getElem? (i := 137) (by decide +kernel), List.mem_of_getElem? (i := 138) (by decide +kernel)⟩
theorem lw_p10 : lw_okq (⟨"MicroMill$Work", "takeWidth", "(Z)V"⟩, 6) := ⟨⟨by decide +kernel, by decide +kernel⟩, List.mem_of_getElem? (i := 14) (by decide +kernel), List.mem_of_getElem? (i := 144) (by decide +kernel), List.mem_of_getElem? (i := 145) (by decide +kernel)⟩
theorem lw_p11 : lw_okq (⟨"MicroMill$Work", "ofTwo", "(III)I"⟩, 6) := ⟨⟨by decide +kernel, by decide +kernel⟩, List.mem_of_getElem? (i := 14) (by decide +kernel), List.mem_of_getElem? (i := 148) (by decide +kernel), List.mem_of_getElem? (i := 149) (by decide +kernel)⟩
theorem lw_p12 : lw_okq (⟨"MicroMill$Work", "logical", "(I)I"⟩, 6) := ⟨⟨by decide +kernel, by decide +kernel⟩, List.mem_of_getElem? (i := 14) (by decide +kernel), List.mem_of_getElem? (i := 152) (by decide +kernel), List.mem_of_getElem? (i := 153) (by decide +kernel)⟩
theorem lw_p13 : lw_okq (⟨"MicroMill$Work", "settled", "(IZZ)I"⟩, 6) := ⟨⟨by decide +kernel, by decide +kernel⟩, List.mem_of_getElem? (i := 14) (by decide +kernel), List.mem_of_getElem? (i := 156) (by decide +kernel), List.mem_of_getElem? (i := 157) (by decide +kernel)⟩
theorem lw_p14 : lw_okq (⟨"MicroMill$Work", "difference", "(II)I"⟩, 6) := ⟨⟨by decide +kernel, by decide +kernel⟩, List.mem_of_getElem? (i := 14) (by decide +kernel), List.mem_of_getElem? (i := 160) (by decide +kernel), List.mem_of_getElem? (i := 161) (by decide +kernel)⟩
theorem lw_p15 : lw_okq (⟨"MicroMill$Work", "sum", "(II)I"⟩, 6) := ⟨⟨by decide +kernel, by decide +kernel⟩, List.mem_of_getElem? (i := 14) (by decide +kernel), List.mem_of_getElem? (i := 164) (by decide +kernel), List.mem_of_getElem? (i := 165) (by decide +kernel)⟩
def lw_privs_1 : List (MethodName × Nat) := [(⟨"MicroMill$Work", "packed", "()I"⟩, 6), (⟨"MicroMill", "doInstruction", "()I"⟩, 7), (⟨"MicroMill", "stepUp", "(II)I"⟩, 7), (⟨"MicroMill", "readWord", "(I)I"⟩, 7), (⟨"MicroMill", "perform", "(I)V"⟩, 7), (⟨"MicroMill", "doTwoOperands", "(I)V"⟩, 7), (⟨"MicroMill", "readOperand", "(IZ)I"⟩, 7), (⟨"MicroMill", "findAddress", "(III)I"⟩, 7), (⟨"MicroMill", "stepDown", "(II)I"⟩, 7), (⟨"MicroMill", "readByte", "(I)I"⟩, 7), (⟨"MicroMill$Work", "takeWidth", "(Z)V"⟩, 6), (⟨"MicroMill$Work", "ofTwo", "(III)I"⟩, 6), (⟨"MicroMill$Work", "logical", "(I)I"⟩, 6), (⟨"MicroMill$Work", "settled", "(IZZ)I"⟩, 6), (⟨"MicroMill$Work", "difference", "(II)I"⟩, 6), (⟨"MicroMill$Work", "sum", "(II)I"⟩, 6)]
theorem lw_r1 : ∀ q ∈ lw_privs_1, lw_okq q := List.forall_mem_cons.mpr ⟨lw_p0, List.forall_mem_cons.mpr ⟨lw_p1, List.forall_mem_cons.mpr ⟨lw_p2, List.forall_mem_cons.mpr ⟨lw_p3, List.forall_mem_cons.mpr ⟨lw_p4, List.forall_mem_cons.mpr ⟨lw_p5, List.forall_mem_cons.mpr ⟨lw_p6, List.forall_mem_cons.mpr ⟨lw_p7, List.forall_mem_cons.mpr ⟨lw_p8, List.forall_mem_cons.mpr ⟨lw_p9, List.forall_mem_cons.mpr ⟨lw_p10, List.forall_mem_cons.mpr ⟨lw_p11, List.forall_mem_cons.mpr ⟨lw_p12, List.forall_mem_cons.mpr ⟨lw_p13, List.forall_mem_cons.mpr ⟨lw_p14, List.forall_mem_cons.mpr ⟨lw_p15, fun _ h => absurd h List.not_mem_nil⟩⟩⟩⟩⟩⟩⟩⟩⟩⟩⟩⟩⟩⟩⟩⟩
theorem lw_p16 : lw_okq (⟨"MicroMill", "putSigned", "(II)V"⟩, 7) := ⟨⟨by decide +kernel, by decide +kernel⟩, List.mem_of_getElem? (i := 6) (by decide +kernel), List.mem_of_getElem? (i := 168) (by decide +kernel), List.mem_of_getElem? (i := 169) (by decide +kernel)⟩
theorem lw_p17 : lw_okq (⟨"MicroMill", "putResult", "(IIZ)V"⟩, 7) := ⟨⟨by decide +kernel, by decide +kernel⟩, List.mem_of_getElem? (i := 6) (by decide +kernel), List.mem_of_getElem? (i := 172) (by decide +kernel), List.mem_of_getElem? (i := 173) (by decide +kernel)⟩
theorem lw_p18 : lw_okq (⟨"MicroMill", "doOneOperand", "(I)V"⟩, 7) := ⟨⟨by decide +kernel, by decide +kernel⟩, List.mem_of_getElem? (i := 6) (by decide +kernel), List.mem_of_getElem? (i := 180) (by decide +kernel), List.mem_of_getElem? (i := 181) (by decide +kernel)⟩
theorem lw_p19 : lw_okq (⟨"MicroMill$Work", "ofShift", "(II)I"⟩, 6) := ⟨⟨by decide +kernel, by decide +kernel⟩, List.mem_of_getElem? (i := 14) (by decide +kernel), List.mem_of_getElem? (i := 184) (by decide +kernel), List.mem_of_getElem? (i := 185) (by decide +kernel)⟩
theorem lw_p20 : lw_okq (⟨"MicroMill$Work", "shifted", "(IZ)I"⟩, 6) := ⟨⟨by decide +kernel, by decide +kernel⟩, List.mem_of_getElem? (i := 14) (by decide +kernel), List.mem_of_getElem? (i := 188) (by decide +kernel), List.mem_of_getElem? (i := 189) (by decide +kernel)⟩
theorem lw_p21 : lw_okq (⟨"MicroMill$Work", "ofOne", "(II)I"⟩, 6) := ⟨⟨by decide +kernel, by decide +kernel⟩, List.mem_of_getElem? (i := 14) (by decide +kernel), List.mem_of_getElem? (i := 192) (by decide +kernel), List.mem_of_getElem? (i := 193) (by decide +kernel)⟩
theorem lw_p22 : lw_okq (⟨"MicroMill$Work", "swapped", "(I)I"⟩, 6) := ⟨⟨by decide +kernel, by decide +kernel⟩, List.mem_of_getElem? (i := 14) (by decide +kernel), List.mem_of_getElem? (i := 196) (by decide +kernel), List.mem_of_getElem? (i := 197) (by decide +kernel)⟩
theorem lw_p23 : lw_okq (⟨"MicroMill", "doBranch", "(I)V"⟩, 7) := ⟨⟨by decide +kernel, by decide +kernel⟩, List.mem_of_getElem? (i := 6) (by decide +kernel), List.mem_of_getElem? (i := 203) (by decide +kernel), List.mem_of_getElem? (i := 204) (by decide +kernel)⟩
theorem lw_p24 : lw_okq (⟨"MicroMill$Work", "allows", "(I)Z"⟩, 6) := ⟨⟨by decide +kernel, by decide +kernel⟩, List.mem_of_getElem? (i := 14) (by decide +kernel), List.mem_of_getElem? (i := 207) (by decide +kernel), List.mem_of_getElem? (i := 208) (by decide +kernel)⟩
theorem lw_p25 : lw_okq (⟨"MicroMill", "doSubtractAndBranch", "(I)V"⟩, 7) := ⟨⟨by decide +kernel, by decide +kernel⟩, List.mem_of_getElem? (i := 6) (by decide +kernel), List.mem_of_getElem? (i := 211) (by decide +kernel), List.mem_of_getElem? (i := 212) (by decide +kernel)⟩
theorem lw_p26 : lw_okq (⟨"MicroMill", "doJump", "(I)V"⟩, 7) := ⟨⟨by decide +kernel, by decide +kernel⟩, List.mem_of_getElem? (i := 6) (by decide +kernel), List.mem_of_getElem? (i := 215) (by decide +kernel), List.mem_of_getElem? (i := 216) (by decide +kernel)⟩
theorem lw_p27 : lw_okq (⟨"MicroMill", "findTarget", "(I)I"⟩, 7) := ⟨⟨by decide +kernel, by decide +kernel⟩, List.mem_of_getElem? (i := 6) (by decide +kernel), List.mem_of_getElem? (i := 219) (by decide +kernel), List.mem_of_getElem? (i := 220) (by decide +kernel)⟩
theorem lw_p28 : lw_okq (⟨"MicroMill", "doJumpToSubroutine", "(I)V"⟩, 7) := ⟨⟨by decide +kernel, by decide +kernel⟩, List.mem_of_getElem? (i := 6) (by decide +kernel), List.mem_of_getElem? (i := 223) (by decide +kernel), List.mem_of_getElem? (i := 224) (by decide +kernel)⟩
theorem lw_p29 : lw_okq (⟨"MicroMill", "doReturn", "(I)V"⟩, 7) := ⟨⟨by decide +kernel, by decide +kernel⟩, List.mem_of_getElem? (i := 6) (by decide +kernel), List.mem_of_getElem? (i := 227) (by decide +kernel), List.mem_of_getElem? (i := 228) (by decide +kernel)⟩
theorem lw_p30 : lw_okq (⟨"MicroMill", "doFlags", "(I)V"⟩, 7) := ⟨⟨by decide +kernel, by decide +kernel⟩, List.mem_of_getElem? (i := 6) (by decide +kernel), List.mem_of_getElem? (i := 231) (by decide +kernel), List.mem_of_getElem? (i := 232) (by decide +kernel)⟩
theorem lw_p31 : lw_okq (⟨"MicroMill$Work", "change", "(IZ)V"⟩, 6) := ⟨⟨by decide +kernel, by decide +kernel⟩, List.mem_of_getElem? (i := 14) (by decide +kernel), List.mem_of_getElem? (i := 235) (by decide +kernel), List.mem_of_getElem? (i := 236) (by decide +kernel)⟩
def lw_privs_2 : List (MethodName × Nat) := [(⟨"MicroMill", "putSigned", "(II)V"⟩, 7), (⟨"MicroMill", "putResult", "(IIZ)V"⟩, 7), (⟨"MicroMill", "doOneOperand", "(I)V"⟩, 7), (⟨"MicroMill$Work", "ofShift", "(II)I"⟩, 6), (⟨"MicroMill$Work", "shifted", "(IZ)I"⟩, 6), (⟨"MicroMill$Work", "ofOne", "(II)I"⟩, 6), (⟨"MicroMill$Work", "swapped", "(I)I"⟩, 6), (⟨"MicroMill", "doBranch", "(I)V"⟩, 7), (⟨"MicroMill$Work", "allows", "(I)Z"⟩, 6), (⟨"MicroMill", "doSubtractAndBranch", "(I)V"⟩, 7), (⟨"MicroMill", "doJump", "(I)V"⟩, 7), (⟨"MicroMill", "findTarget", "(I)I"⟩, 7), (⟨"MicroMill", "doJumpToSubroutine", "(I)V"⟩, 7), (⟨"MicroMill", "doReturn", "(I)V"⟩, 7), (⟨"MicroMill", "doFlags", "(I)V"⟩, 7), (⟨"MicroMill$Work", "change", "(IZ)V"⟩, 6)]
theorem lw_r2 : ∀ q ∈ lw_privs_2, lw_okq q := List.forall_mem_cons.mpr ⟨lw_p16, List.forall_mem_cons.mpr ⟨lw_p17, List.forall_mem_cons.mpr ⟨lw_p18, List.forall_mem_cons.mpr ⟨lw_p19, List.forall_mem_cons.mpr ⟨lw_p20, List.forall_mem_cons.mpr ⟨lw_p21, List.forall_mem_cons.mpr ⟨lw_p22, List.forall_mem_cons.mpr ⟨lw_p23, List.forall_mem_cons.mpr ⟨lw_p24, List.forall_mem_cons.mpr ⟨lw_p25, List.forall_mem_cons.mpr ⟨lw_p26, List.forall_mem_cons.mpr ⟨lw_p27, List.forall_mem_cons.mpr ⟨lw_p28, List.forall_mem_cons.mpr ⟨lw_p29, List.forall_mem_cons.mpr ⟨lw_p30, List.forall_mem_cons.mpr ⟨lw_p31, fun _ h => absurd h List.not_mem_nil⟩⟩⟩⟩⟩⟩⟩⟩⟩⟩⟩⟩⟩⟩⟩⟩
theorem lw_p32 : lw_okq (⟨"MicroMillModel", "following", "()I"⟩, 7) := ⟨⟨by decide +kernel, by decide +kernel⟩, List.mem_of_getElem? (i := 258) (by decide +kernel), List.mem_of_getElem? (i := 323) (by decide +kernel), List.mem_of_getElem? (i := 324) (by decide +kernel)⟩
theorem lw_p33 : lw_okq (⟨"MicroMillModel", "add", "(II)V"⟩, 7) := ⟨⟨by decide +kernel, by decide +kernel⟩, List.mem_of_getElem? (i := 258) (by decide +kernel), List.mem_of_getElem? (i := 327) (by decide +kernel), List.mem_of_getElem? (i := 328) (by decide +kernel)⟩
theorem lw_p34 : lw_okq (⟨"MicroMillModel", "word", "(I)I"⟩, 7) := ⟨⟨by decide +kernel, by decide +kernel⟩, List.mem_of_getElem? (i := 258) (by decide +kernel), List.mem_of_getElem? (i := 331) (by decide +kernel), List.mem_of_getElem? (i := 332) (by decide +kernel)⟩
theorem lw_p35 : lw_okq (⟨"MicroMillModel", "count", "(I)V"⟩, 7) := ⟨⟨by decide +kernel, by decide +kernel⟩, List.mem_of_getElem? (i := 258) (by decide +kernel), List.mem_of_getElem? (i := 335) (by decide +kernel), List.mem_of_getElem? (i := 336) (by decide +kernel)⟩
theorem lw_p36 : lw_okq (⟨"MicroMillModel", "doOther", "(I)V"⟩, 7) := ⟨⟨by decide +kernel, by decide +kernel⟩, List.mem_of_getElem? (i := 258) (by decide +kernel), List.mem_of_getElem? (i := 339) (by decide +kernel), List.mem_of_getElem? (i := 340) (by decide +kernel)⟩
theorem lw_p37 : lw_okq (⟨"MicroMillModel", "branch", "(I)V"⟩, 7) := ⟨⟨by decide +kernel, by decide +kernel⟩, List.mem_of_getElem? (i := 258) (by decide +kernel), List.mem_of_getElem? (i := 343) (by decide +kernel), List.mem_of_getElem? (i := 344) (by decide +kernel)⟩
theorem lw_p38 : lw_okq (⟨"MicroMillModel", "isTrue", "(I)Z"⟩, 7) := ⟨⟨by decide +kernel, by decide +kernel⟩, List.mem_of_getElem? (i := 258) (by decide +kernel), List.mem_of_getElem? (i := 347) (by decide +kernel), List.mem_of_getElem? (i := 348) (by decide +kernel)⟩
theorem lw_p39 : lw_okq (⟨"MicroMillModel", "doOne", "(IIZ)V"⟩, 7) := ⟨⟨by decide +kernel, by decide +kernel⟩, List.mem_of_getElem? (i := 258) (by decide +kernel), List.mem_of_getElem? (i := 351) (by decide +kernel), List.mem_of_getElem? (i := 352) (by decide +kernel)⟩
theorem lw_p40 : lw_okq (⟨"MicroMillModel", "find", "(IZ)V"⟩, 7) := ⟨⟨by decide +kernel, by decide +kernel⟩, List.mem_of_getElem? (i := 258) (by decide +kernel), List.mem_of_getElem? (i := 355) (by decide +kernel), List.mem_of_getElem? (i := 356) (by decide +kernel)⟩
theorem lw_p41 : lw_okq (⟨"MicroMillModel", "read", "(Z)I"⟩, 7) := ⟨⟨by decide +kernel, by decide +kernel⟩, List.mem_of_getElem? (i := 258) (by decide +kernel), List.mem_of_getElem? (i := 359) (by decide +kernel), List.mem_of_getElem? (i := 360) (by decide +kernel)⟩
theorem lw_p42 : lw_okq (⟨"MicroMillModel", "octet", "(I)I"⟩, 7) := ⟨⟨by decide +kernel, by decide +kernel⟩, List.mem_of_getElem? (i := 258) (by decide +kernel), List.mem_of_getElem? (i := 363) (by decide +kernel), List.mem_of_getElem? (i := 364) (by decide +kernel)⟩
theorem lw_p43 : lw_okq (⟨"MicroMillModel", "tell", "(IIZZ)V"⟩, 7) := ⟨⟨by decide +kernel, by decide +kernel⟩, List.mem_of_getElem? (i := 258) (by decide +kernel), List.mem_of_getElem? (i := 368) (by decide +kernel), List.mem_of_getElem? (i := 369) (by decide +kernel)⟩
theorem lw_p44 : lw_okq (⟨"MicroMillModel", "one", "(III)I"⟩, 7) := ⟨⟨by decide +kernel, by decide +kernel⟩, List.mem_of_getElem? (i := 258) (by decide +kernel), List.mem_of_getElem? (i := 372) (by decide +kernel), List.mem_of_getElem? (i := 373) (by decide +kernel)⟩
theorem lw_p45 : lw_okq (⟨"MicroMillModel", "moved", "(III)I"⟩, 7) := ⟨⟨by decide +kernel, by decide +kernel⟩, List.mem_of_getElem? (i := 258) (by decide +kernel), List.mem_of_getElem? (i := 376) (by decide +kernel), List.mem_of_getElem? (i := 377) (by decide +kernel)⟩
theorem lw_p46 : lw_okq (⟨"MicroMillModel", "put", "(IZZ)V"⟩, 7) := ⟨⟨by decide +kernel, by decide +kernel⟩, List.mem_of_getElem? (i := 258) (by decide +kernel), List.mem_of_getElem? (i := 380) (by decide +kernel), List.mem_of_getElem? (i := 381) (by decide +kernel)⟩
theorem lw_p47 : lw_okq (⟨"MicroMillModel", "jump", "(I)V"⟩, 7) := ⟨⟨by decide +kernel, by decide +kernel⟩, List.mem_of_getElem? (i := 258) (by decide +kernel), List.mem_of_getElem? (i := 385) (by decide +kernel), List.mem_of_getElem? (i := 386) (by decide +kernel)⟩
def lw_privs_3 : List (MethodName × Nat) := [(⟨"MicroMillModel", "following", "()I"⟩, 7), (⟨"MicroMillModel", "add", "(II)V"⟩, 7), (⟨"MicroMillModel", "word", "(I)I"⟩, 7), (⟨"MicroMillModel", "count", "(I)V"⟩, 7), (⟨"MicroMillModel", "doOther", "(I)V"⟩, 7), (⟨"MicroMillModel", "branch", "(I)V"⟩, 7), (⟨"MicroMillModel", "isTrue", "(I)Z"⟩, 7), (⟨"MicroMillModel", "doOne", "(IIZ)V"⟩, 7), (⟨"MicroMillModel", "find", "(IZ)V"⟩, 7), (⟨"MicroMillModel", "read", "(Z)I"⟩, 7), (⟨"MicroMillModel", "octet", "(I)I"⟩, 7), (⟨"MicroMillModel", "tell", "(IIZZ)V"⟩, 7), (⟨"MicroMillModel", "one", "(III)I"⟩, 7), (⟨"MicroMillModel", "moved", "(III)I"⟩, 7), (⟨"MicroMillModel", "put", "(IZZ)V"⟩, 7), (⟨"MicroMillModel", "jump", "(I)V"⟩, 7)]
theorem lw_r3 : ∀ q ∈ lw_privs_3, lw_okq q := List.forall_mem_cons.mpr ⟨lw_p32, List.forall_mem_cons.mpr ⟨lw_p33, List.forall_mem_cons.mpr ⟨lw_p34, List.forall_mem_cons.mpr ⟨lw_p35, List.forall_mem_cons.mpr ⟨lw_p36, List.forall_mem_cons.mpr ⟨lw_p37, List.forall_mem_cons.mpr ⟨lw_p38, List.forall_mem_cons.mpr ⟨lw_p39, List.forall_mem_cons.mpr ⟨lw_p40, List.forall_mem_cons.mpr ⟨lw_p41, List.forall_mem_cons.mpr ⟨lw_p42, List.forall_mem_cons.mpr ⟨lw_p43, List.forall_mem_cons.mpr ⟨lw_p44, List.forall_mem_cons.mpr ⟨lw_p45, List.forall_mem_cons.mpr ⟨lw_p46, List.forall_mem_cons.mpr ⟨lw_p47, fun _ h => absurd h List.not_mem_nil⟩⟩⟩⟩⟩⟩⟩⟩⟩⟩⟩⟩⟩⟩⟩⟩
theorem lw_p48 : lw_okq (⟨"MicroMillModel", "back", "(I)V"⟩, 7) := ⟨⟨by decide +kernel, by decide +kernel⟩, List.mem_of_getElem? (i := 258) (by decide +kernel), List.mem_of_getElem? (i := 389) (by decide +kernel), List.mem_of_getElem? (i := 390) (by decide +kernel)⟩
theorem lw_p49 : lw_okq (⟨"MicroMillModel", "flag", "(I)V"⟩, 7) := ⟨⟨by decide +kernel, by decide +kernel⟩, List.mem_of_getElem? (i := 258) (by decide +kernel), List.mem_of_getElem? (i := 393) (by decide +kernel), List.mem_of_getElem? (i := 394) (by decide +kernel)⟩
theorem lw_p50 : lw_okq (⟨"MicroMillModel", "doTwo", "(I)V"⟩, 7) := ⟨⟨by decide +kernel, by decide +kernel⟩, List.mem_of_getElem? (i := 258) (by decide +kernel), List.mem_of_getElem? (i := 397) (by decide +kernel), List.mem_of_getElem? (i := 398) (by decide +kernel)⟩
theorem lw_p51 : lw_okq (⟨"MicroMillModel", "two", "(IIII)I"⟩, 7) := ⟨⟨by decide +kernel, by decide +kernel⟩, List.mem_of_getElem? (i := 258) (by decide +kernel), List.mem_of_getElem? (i := 401) (by decide +kernel), List.mem_of_getElem? (i := 402) (by decide +kernel)⟩
def lw_privs_4 : List (MethodName × Nat) := [(⟨"MicroMillModel", "back", "(I)V"⟩, 7), (⟨"MicroMillModel", "flag", "(I)V"⟩, 7), (⟨"MicroMillModel", "doTwo", "(I)V"⟩, 7), (⟨"MicroMillModel", "two", "(IIII)I"⟩, 7)]
theorem lw_r4 : ∀ q ∈ lw_privs_4, lw_okq q := List.forall_mem_cons.mpr ⟨lw_p48, List.forall_mem_cons.mpr ⟨lw_p49, List.forall_mem_cons.mpr ⟨lw_p50, List.forall_mem_cons.mpr ⟨lw_p51, fun _ h => absurd h List.not_mem_nil⟩⟩⟩⟩
def lw_privs : List (MethodName × Nat) := lw_privs_1 ++ (lw_privs_2 ++ (lw_privs_3 ++ (lw_privs_4)))
def lw_tbl : List Cond := k2_sels lw_privs ++ tables_1
theorem lw_privs_ok : ∀ q ∈ lw_privs, lw_okq q := by
  show ∀ q ∈ lw_privs_1 ++ (lw_privs_2 ++ (lw_privs_3 ++ (lw_privs_4))), lw_okq q
  exact List.forall_mem_append.mpr ⟨lw_r1, List.forall_mem_append.mpr ⟨lw_r2, List.forall_mem_append.mpr ⟨lw_r3, lw_r4⟩⟩⟩
end
section
def RX0 : String := "MicroMill$Work"
def TX0 : u_T := fun k => match k with
  | 0 => ("MicroMill$Work", "n", "Z", false)
  | 1 => ("MicroMill$Work", "z", "Z", false)
  | 2 => ("MicroMill$Work", "v", "Z", false)
  | 3 => ("MicroMill$Work", "c", "Z", false)
  | 4 => ("MicroMill$Work", "bits", "I", false)
  | _ => ("MicroMill$Work", "high", "I", false)
def tyX0 : Nat → FieldType := fun k => match k with
  | 0 => .boolean
  | 1 => .boolean
  | 2 => .boolean
  | 3 => .boolean
  | 4 => .int
  | _ => .int
theorem nmX0 : ∀ a, a < 6 → ∀ b, b < 6 → a ≠ b → (TX0 a).2.1 ≠ (TX0 b).2.1 := by decide +kernel
theorem tyX0_ok : ∀ k, k < 6 → parseFieldDescriptor (TX0 k).2.2.1 = some (tyX0 k) := by decide +kernel
def RX1 : String := "MicroMill"
def TX1 : u_T := fun k => match k with
  | 0 => ("MicroMill", "words", "[I", true)
  | 1 => ("MicroMill", "registers", "[I", true)
  | 2 => ("MicroMill", "work", "LMicroMill$Work;", true)
  | 3 => ("MicroMill", "stopReason", "I", false)
  | 4 => ("MicroMill", "allCycles", "J", false)
  | 5 => ("MicroMill", "spent", "I", false)
  | _ => ("MicroMill", "place", "I", false)
def tyX1 : Nat → FieldType := fun k => match k with
  | 0 => .array .int
  | 1 => .array .int
  | 2 => .object "MicroMill$Work"
  | 3 => .int
  | 4 => .long
  | 5 => .int
  | _ => .int
theorem nmX1 : ∀ a, a < 7 → ∀ b, b < 7 → a ≠ b → (TX1 a).2.1 ≠ (TX1 b).2.1 := by decide +kernel
theorem tyX1_ok : ∀ k, k < 7 → parseFieldDescriptor (TX1 k).2.2.1 = some (tyX1 k) := by decide +kernel
def RX2 : String := "MicroMillModel"
def TX2 : u_T := fun k => match k with
  | 0 => ("MicroMillModel", "words", "[I", true)
  | 1 => ("MicroMillModel", "registers", "[I", true)
  | 2 => ("MicroMillModel", "flags", "I", false)
  | 3 => ("MicroMillModel", "why", "I", false)
  | 4 => ("MicroMillModel", "all", "J", false)
  | 5 => ("MicroMillModel", "took", "I", false)
  | _ => ("MicroMillModel", "place", "I", false)
def tyX2 : Nat → FieldType := fun k => match k with
  | 0 => .array .int
  | 1 => .array .int
  | 2 => .int
  | 3 => .int
  | 4 => .long
  | 5 => .int
  | _ => .int
theorem nmX2 : ∀ a, a < 7 → ∀ b, b < 7 → a ≠ b → (TX2 a).2.1 ≠ (TX2 b).2.1 := by decide +kernel
theorem tyX2_ok : ∀ k, k < 7 → parseFieldDescriptor (TX2 k).2.2.1 = some (tyX2 k) := by decide +kernel
def RL : String := "MicroMillLaw"
abbrev cX1_init : ByteArray := prog_1_method_1_code
def yX1_init : MethodName := ⟨RX1, "<init>", "()V"⟩
abbrev cX0_init : ByteArray := prog_2_method_1_code
def yX0_init : MethodName := ⟨RX0, "<init>", "()V"⟩
abbrev cX1_poke : ByteArray := prog_1_method_2_code
def yX1_poke : MethodName := ⟨RX1, "poke", "(II)Z"⟩
abbrev cX1_isWordAddress : ByteArray := prog_1_method_12_code
def yX1_isWordAddress : MethodName := ⟨RX1, "isWordAddress", "(I)Z"⟩
abbrev cX1_peek : ByteArray := prog_1_method_3_code
def yX1_peek : MethodName := ⟨RX1, "peek", "(I)I"⟩
abbrev cX1_set : ByteArray := prog_1_method_4_code
def yX1_set : MethodName := ⟨RX1, "set", "(II)Z"⟩
abbrev cX1_isRegister : ByteArray := prog_1_method_13_code
def yX1_isRegister : MethodName := ⟨RX1, "isRegister", "(I)Z"⟩
abbrev cX1_register : ByteArray := prog_1_method_5_code
def yX1_register : MethodName := ⟨RX1, "register", "(I)I"⟩
abbrev cX1_flags : ByteArray := prog_1_method_6_code
def yX1_flags : MethodName := ⟨RX1, "flags", "()I"⟩
abbrev cX0_packed : ByteArray := prog_2_method_3_code
def yX0_packed : MethodName := ⟨RX0, "packed", "()I"⟩
abbrev cX1_step : ByteArray := prog_1_method_7_code
def yX1_step : MethodName := ⟨RX1, "step", "()I"⟩
abbrev cX1_doInstruction : ByteArray := prog_1_method_14_code
def yX1_doInstruction : MethodName := ⟨RX1, "doInstruction", "()I"⟩
abbrev cX1_stepUp : ByteArray := prog_1_method_30_code
def yX1_stepUp : MethodName := ⟨RX1, "stepUp", "(II)I"⟩
abbrev cX1_readWord : ByteArray := prog_1_method_32_code
def yX1_readWord : MethodName := ⟨RX1, "readWord", "(I)I"⟩
abbrev cX1_perform : ByteArray := prog_1_method_15_code
def yX1_perform : MethodName := ⟨RX1, "perform", "(I)V"⟩
abbrev cX1_isOfTwoOperands : ByteArray := prog_1_method_16_code
def yX1_isOfTwoOperands : MethodName := ⟨RX1, "isOfTwoOperands", "(I)Z"⟩
abbrev cX1_doTwoOperands : ByteArray := prog_1_method_19_code
def yX1_doTwoOperands : MethodName := ⟨RX1, "doTwoOperands", "(I)V"⟩
abbrev cX1_readOperand : ByteArray := prog_1_method_28_code
def yX1_readOperand : MethodName := ⟨RX1, "readOperand", "(IZ)I"⟩
abbrev cX1_findAddress : ByteArray := prog_1_method_29_code
def yX1_findAddress : MethodName := ⟨RX1, "findAddress", "(III)I"⟩
abbrev cX1_stepDown : ByteArray := prog_1_method_31_code
def yX1_stepDown : MethodName := ⟨RX1, "stepDown", "(II)I"⟩
abbrev cX1_readByte : ByteArray := prog_1_method_33_code
def yX1_readByte : MethodName := ⟨RX1, "readByte", "(I)I"⟩
abbrev cX1_shiftOf : ByteArray := prog_1_method_34_code
def yX1_shiftOf : MethodName := ⟨RX1, "shiftOf", "(I)I"⟩
abbrev cX0_takeWidth : ByteArray := prog_2_method_2_code
def yX0_takeWidth : MethodName := ⟨RX0, "takeWidth", "(Z)V"⟩
abbrev cX0_ofTwo : ByteArray := prog_2_method_6_code
def yX0_ofTwo : MethodName := ⟨RX0, "ofTwo", "(III)I"⟩
abbrev cX0_logical : ByteArray := prog_2_method_9_code
def yX0_logical : MethodName := ⟨RX0, "logical", "(I)I"⟩
abbrev cX0_settled : ByteArray := prog_2_method_14_code
def yX0_settled : MethodName := ⟨RX0, "settled", "(IZZ)I"⟩
abbrev cX0_difference : ByteArray := prog_2_method_11_code
def yX0_difference : MethodName := ⟨RX0, "difference", "(II)I"⟩
abbrev cX0_sum : ByteArray := prog_2_method_10_code
def yX0_sum : MethodName := ⟨RX0, "sum", "(II)I"⟩
abbrev cX1_putSigned : ByteArray := prog_1_method_36_code
def yX1_putSigned : MethodName := ⟨RX1, "putSigned", "(II)V"⟩
abbrev cX1_putResult : ByteArray := prog_1_method_35_code
def yX1_putResult : MethodName := ⟨RX1, "putResult", "(IIZ)V"⟩
abbrev cX1_isOfOneOperand : ByteArray := prog_1_method_17_code
def yX1_isOfOneOperand : MethodName := ⟨RX1, "isOfOneOperand", "(I)Z"⟩
abbrev cX1_doOneOperand : ByteArray := prog_1_method_20_code
def yX1_doOneOperand : MethodName := ⟨RX1, "doOneOperand", "(I)V"⟩
abbrev cX0_ofShift : ByteArray := prog_2_method_8_code
def yX0_ofShift : MethodName := ⟨RX0, "ofShift", "(II)I"⟩
abbrev cX0_shifted : ByteArray := prog_2_method_12_code
def yX0_shifted : MethodName := ⟨RX0, "shifted", "(IZ)I"⟩
abbrev cX0_ofOne : ByteArray := prog_2_method_7_code
def yX0_ofOne : MethodName := ⟨RX0, "ofOne", "(II)I"⟩
abbrev cX0_swapped : ByteArray := prog_2_method_13_code
def yX0_swapped : MethodName := ⟨RX0, "swapped", "(I)I"⟩
abbrev cX1_isBranch : ByteArray := prog_1_method_18_code
def yX1_isBranch : MethodName := ⟨RX1, "isBranch", "(I)Z"⟩
abbrev cX1_doBranch : ByteArray := prog_1_method_21_code
def yX1_doBranch : MethodName := ⟨RX1, "doBranch", "(I)V"⟩
abbrev cX0_allows : ByteArray := prog_2_method_5_code
def yX0_allows : MethodName := ⟨RX0, "allows", "(I)Z"⟩
abbrev cX1_doSubtractAndBranch : ByteArray := prog_1_method_22_code
def yX1_doSubtractAndBranch : MethodName := ⟨RX1, "doSubtractAndBranch", "(I)V"⟩
abbrev cX1_doJump : ByteArray := prog_1_method_23_code
def yX1_doJump : MethodName := ⟨RX1, "doJump", "(I)V"⟩
abbrev cX1_findTarget : ByteArray := prog_1_method_27_code
def yX1_findTarget : MethodName := ⟨RX1, "findTarget", "(I)I"⟩
abbrev cX1_doJumpToSubroutine : ByteArray := prog_1_method_24_code
def yX1_doJumpToSubroutine : MethodName := ⟨RX1, "doJumpToSubroutine", "(I)V"⟩
abbrev cX1_doReturn : ByteArray := prog_1_method_25_code
def yX1_doReturn : MethodName := ⟨RX1, "doReturn", "(I)V"⟩
abbrev cX1_doFlags : ByteArray := prog_1_method_26_code
def yX1_doFlags : MethodName := ⟨RX1, "doFlags", "(I)V"⟩
abbrev cX0_change : ByteArray := prog_2_method_4_code
def yX0_change : MethodName := ⟨RX0, "change", "(IZ)V"⟩
abbrev cX1_run : ByteArray := prog_1_method_8_code
def yX1_run : MethodName := ⟨RX1, "run", "(I)I"⟩
abbrev cX1_cycles : ByteArray := prog_1_method_9_code
def yX1_cycles : MethodName := ⟨RX1, "cycles", "()J"⟩
abbrev cX1_stopped : ByteArray := prog_1_method_10_code
def yX1_stopped : MethodName := ⟨RX1, "stopped", "()I"⟩
abbrev cX1_go : ByteArray := prog_1_method_11_code
def yX1_go : MethodName := ⟨RX1, "go", "()Z"⟩
abbrev cX2_init : ByteArray := prog_4_method_1_code
def yX2_init : MethodName := ⟨RX2, "<init>", "()V"⟩
abbrev cX2_poke : ByteArray := prog_4_method_2_code
def yX2_poke : MethodName := ⟨RX2, "poke", "(II)Z"⟩
abbrev cX2_peek : ByteArray := prog_4_method_3_code
def yX2_peek : MethodName := ⟨RX2, "peek", "(I)I"⟩
abbrev cX2_set : ByteArray := prog_4_method_4_code
def yX2_set : MethodName := ⟨RX2, "set", "(II)Z"⟩
abbrev cX2_register : ByteArray := prog_4_method_5_code
def yX2_register : MethodName := ⟨RX2, "register", "(I)I"⟩
abbrev cX2_flags : ByteArray := prog_4_method_6_code
def yX2_flags : MethodName := ⟨RX2, "flags", "()I"⟩
abbrev cX2_cycles : ByteArray := prog_4_method_7_code
def yX2_cycles : MethodName := ⟨RX2, "cycles", "()J"⟩
abbrev cX2_stopped : ByteArray := prog_4_method_8_code
def yX2_stopped : MethodName := ⟨RX2, "stopped", "()I"⟩
abbrev cX2_go : ByteArray := prog_4_method_9_code
def yX2_go : MethodName := ⟨RX2, "go", "()Z"⟩
abbrev cX2_step : ByteArray := prog_4_method_30_code
def yX2_step : MethodName := ⟨RX2, "step", "()I"⟩
abbrev cX2_following : ByteArray := prog_4_method_13_code
def yX2_following : MethodName := ⟨RX2, "following", "()I"⟩
abbrev cX2_add : ByteArray := prog_4_method_10_code
def yX2_add : MethodName := ⟨RX2, "add", "(II)V"⟩
abbrev cX2_word : ByteArray := prog_4_method_11_code
def yX2_word : MethodName := ⟨RX2, "word", "(I)I"⟩
abbrev cX2_count : ByteArray := prog_4_method_25_code
def yX2_count : MethodName := ⟨RX2, "count", "(I)V"⟩
abbrev cX2_doOther : ByteArray := prog_4_method_29_code
def yX2_doOther : MethodName := ⟨RX2, "doOther", "(I)V"⟩
abbrev cX2_branch : ByteArray := prog_4_method_24_code
def yX2_branch : MethodName := ⟨RX2, "branch", "(I)V"⟩
abbrev cX2_isTrue : ByteArray := prog_4_method_23_code
def yX2_isTrue : MethodName := ⟨RX2, "isTrue", "(I)Z"⟩
abbrev cX2_doOne : ByteArray := prog_4_method_22_code
def yX2_doOne : MethodName := ⟨RX2, "doOne", "(IIZ)V"⟩
abbrev cX2_find : ByteArray := prog_4_method_14_code
def yX2_find : MethodName := ⟨RX2, "find", "(IZ)V"⟩
abbrev cX2_read : ByteArray := prog_4_method_15_code
def yX2_read : MethodName := ⟨RX2, "read", "(Z)I"⟩
abbrev cX2_octet : ByteArray := prog_4_method_12_code
def yX2_octet : MethodName := ⟨RX2, "octet", "(I)I"⟩
abbrev cX2_tell : ByteArray := prog_4_method_17_code
def yX2_tell : MethodName := ⟨RX2, "tell", "(IIZZ)V"⟩
abbrev cX2_one : ByteArray := prog_4_method_19_code
def yX2_one : MethodName := ⟨RX2, "one", "(III)I"⟩
abbrev cX2_moved : ByteArray := prog_4_method_20_code
def yX2_moved : MethodName := ⟨RX2, "moved", "(III)I"⟩
abbrev cX2_put : ByteArray := prog_4_method_16_code
def yX2_put : MethodName := ⟨RX2, "put", "(IZZ)V"⟩
abbrev cX2_jump : ByteArray := prog_4_method_26_code
def yX2_jump : MethodName := ⟨RX2, "jump", "(I)V"⟩
abbrev cX2_back : ByteArray := prog_4_method_27_code
def yX2_back : MethodName := ⟨RX2, "back", "(I)V"⟩
abbrev cX2_flag : ByteArray := prog_4_method_28_code
def yX2_flag : MethodName := ⟨RX2, "flag", "(I)V"⟩
abbrev cX2_doTwo : ByteArray := prog_4_method_21_code
def yX2_doTwo : MethodName := ⟨RX2, "doTwo", "(I)V"⟩
abbrev cX2_two : ByteArray := prog_4_method_18_code
def yX2_two : MethodName := ⟨RX2, "two", "(IIII)I"⟩
abbrev cX2_run : ByteArray := prog_4_method_31_code
def yX2_run : MethodName := ⟨RX2, "run", "(I)I"⟩
abbrev cL_law : ByteArray := code
abbrev vwCl : List vw_C := [(RX0, TX0, 6), (RX1, TX1, 7), (RX2, TX2, 7)]
/-- all words of the tables that stay -/
def wAll : List Cond := lw_tbl.filter goodWord
theorem wAll_tb : ∀ w ∈ wAll, w ∈ lw_tbl := fun _ h => (List.mem_filter.mp h).1
theorem wAll_of {w : Cond} (h : w ∈ tables_1) (hg : goodWord w = true) : w ∈ wAll := List.mem_filter.mpr ⟨List.mem_append_right _ h, hg⟩
theorem wAll_ps {w : Cond} (h : w ∈ k2_sels lw_privs) (hg : goodWord w = true) : w ∈ wAll := List.mem_filter.mpr ⟨List.mem_append_left _ h, hg⟩
theorem gC {x : Cond} {y : MethodName} {b : ByteArray} {L : Nat} {ret : Option FieldType} (h5 : Cond.code y b L ret ∈ wAll) : GoodIn (x :: wAll) (Cond.code y b L ret :: wAll) := by
  intro w hw
  have h : w ∈ wAll := by
    rcases List.mem_cons.mp hw with rfl | h
    · exact h5
    · exact h
  exact ⟨List.mem_cons_of_mem _ h, good_of_word (List.mem_filter.mp h).2⟩
theorem gV {x : Cond} {own C : String} {idx : Nat} {y : MethodName} {b : ByteArray} {L : Nat} {ret : Option FieldType} (h1 : Cond.methodLink own idx y ∈ wAll) (h2 : Cond.instanceMethod y ∈ wAll) (h3 : Cond.selects C y y ∈ wAll) (h4 : Cond.initialized C ∈ wAll) (h5 : Cond.code y b L ret ∈ wAll) : GoodIn (x :: wAll) (wsV own idx C y (Cond.code y b L ret :: wAll)) := by
  intro w hw
  have h : w ∈ wAll := by
    rcases List.mem_append.mp hw with h | h
    · simp only [List.mem_cons, List.not_mem_nil, or_false] at h
      rcases h with rfl | rfl | rfl | rfl
      · exact h1
      · exact h2
      · exact h3
      · exact h4
    · rcases List.mem_cons.mp h with rfl | h
      · exact h5
      · exact h
  exact ⟨List.mem_cons_of_mem _ h, good_of_word (List.mem_filter.mp h).2⟩
theorem gS {x : Cond} {own : String} {idx : Nat} {y : MethodName} {b : ByteArray} {L : Nat} {ret : Option FieldType} (h1 : Cond.methodLink own idx y ∈ wAll) (h2 : Cond.static y ∈ wAll) (h4 : Cond.initialized own ∈ wAll) (h5 : Cond.code y b L ret ∈ wAll) : GoodIn (x :: wAll) (wsS own idx y (Cond.code y b L ret :: wAll)) := by
  intro w hw
  have h : w ∈ wAll := by
    rcases List.mem_append.mp hw with h | h
    · simp only [List.mem_cons, List.not_mem_nil, or_false] at h
      rcases h with rfl | rfl | rfl
      · exact h1
      · exact h2
      · exact h4
    · rcases List.mem_cons.mp h with rfl | h
      · exact h5
      · exact h
  exact ⟨List.mem_cons_of_mem _ h, good_of_word (List.mem_filter.mp h).2⟩
theorem w_init_MicroMillLaw : Cond.initialized RL ∈ wAll := wAll_of (List.mem_of_getElem? (i := 0) (by decide +kernel)) rfl
theorem w_init_MicroMill : Cond.initialized RX1 ∈ wAll := wAll_of (List.mem_of_getElem? (i := 1) (by decide +kernel)) rfl
theorem w_init_MicroMill_Work : Cond.initialized RX0 ∈ wAll := wAll_of (List.mem_of_getElem? (i := 2) (by decide +kernel)) rfl
theorem w_init_MicroMillModel : Cond.initialized RX2 ∈ wAll := wAll_of (List.mem_of_getElem? (i := 3) (by decide +kernel)) rfl
theorem w_init_java_lang_Math : Cond.initialized "java/lang/Math" ∈ wAll := wAll_of (List.mem_of_getElem? (i := 4) (by decide +kernel)) rfl
theorem w_cl_L_7 : Cond.classLink RL 7 RX1 ∈ wAll := wAll_of (List.mem_of_getElem? (i := 5) (by decide +kernel)) rfl
theorem w_inst_X1 : Cond.instantiable RX1 7 ∈ wAll := wAll_of (List.mem_of_getElem? (i := 6) (by decide +kernel)) rfl
theorem w_m_L_9 : Cond.methodLink RL 9 yX1_init ∈ wAll := wAll_of (List.mem_of_getElem? (i := 7) (by decide +kernel)) rfl
theorem w_im_yX1_init : Cond.instanceMethod yX1_init ∈ wAll := wAll_of (List.mem_of_getElem? (i := 8) (by decide +kernel)) rfl
theorem w_co_yX1_init : Cond.code yX1_init cX1_init 1 none ∈ wAll := wAll_of (List.mem_of_getElem? (i := 9) (by rfl)) rfl
theorem w_m_X1_1 : Cond.methodLink RX1 1 objectInit ∈ wAll := wAll_of (List.mem_of_getElem? (i := 10) (by decide +kernel)) rfl
theorem w_im_objectInit : Cond.instanceMethod objectInit ∈ wAll := wAll_of (List.mem_of_getElem? (i := 11) (by decide +kernel)) rfl
theorem w_co_objectInit : Cond.code objectInit ⟨#[0xb1]⟩ 1 none ∈ wAll := wAll_of (List.mem_of_getElem? (i := 12) (by rfl)) rfl
theorem w_cl_X1_16 : Cond.classLink RX1 16 RX0 ∈ wAll := wAll_of (List.mem_of_getElem? (i := 13) (by decide +kernel)) rfl
theorem w_inst_X0 : Cond.instantiable RX0 6 ∈ wAll := wAll_of (List.mem_of_getElem? (i := 14) (by decide +kernel)) rfl
theorem w_im_yX0_init : Cond.instanceMethod yX0_init ∈ wAll := wAll_of (List.mem_of_getElem? (i := 16) (by decide +kernel)) rfl
theorem w_co_yX0_init : Cond.code yX0_init cX0_init 1 none ∈ wAll := wAll_of (List.mem_of_getElem? (i := 17) (by rfl)) rfl
theorem w_m_X0_3 : Cond.methodLink RX0 3 objectInit ∈ wAll := wAll_of (List.mem_of_getElem? (i := 18) (by decide +kernel)) rfl
theorem w_k_X0_24 : Cond.constant RX0 24 (65535) ∈ wAll := wAll_of (List.mem_of_getElem? (i := 19) (by decide +kernel)) rfl
theorem w_k_X0_29 : Cond.constant RX0 29 (32768) ∈ wAll := wAll_of (List.mem_of_getElem? (i := 20) (by decide +kernel)) rfl
theorem w_f_X0_9 : Cond.fieldLink RX0 9 "MicroMill$Work" "n" "Z" ∈ wAll := wAll_of (List.mem_of_getElem? (i := 21) (by decide +kernel)) rfl
theorem w_f_X0_15 : Cond.fieldLink RX0 15 "MicroMill$Work" "z" "Z" ∈ wAll := wAll_of (List.mem_of_getElem? (i := 22) (by decide +kernel)) rfl
theorem w_f_X0_18 : Cond.fieldLink RX0 18 "MicroMill$Work" "v" "Z" ∈ wAll := wAll_of (List.mem_of_getElem? (i := 23) (by decide +kernel)) rfl
theorem w_f_X0_21 : Cond.fieldLink RX0 21 "MicroMill$Work" "c" "Z" ∈ wAll := wAll_of (List.mem_of_getElem? (i := 24) (by decide +kernel)) rfl
theorem w_f_X0_25 : Cond.fieldLink RX0 25 "MicroMill$Work" "bits" "I" ∈ wAll := wAll_of (List.mem_of_getElem? (i := 25) (by decide +kernel)) rfl
theorem w_f_X0_30 : Cond.fieldLink RX0 30 "MicroMill$Work" "high" "I" ∈ wAll := wAll_of (List.mem_of_getElem? (i := 26) (by decide +kernel)) rfl
theorem w_arr_I : Cond.arrayClass .int ∈ wAll := wAll_of (List.mem_of_getElem? (i := 40) (by decide +kernel)) rfl
theorem w_f_X1_9 : Cond.fieldLink RX1 9 "MicroMill" "words" "[I" ∈ wAll := wAll_of (List.mem_of_getElem? (i := 41) (by decide +kernel)) rfl
theorem w_f_X1_13 : Cond.fieldLink RX1 13 "MicroMill" "registers" "[I" ∈ wAll := wAll_of (List.mem_of_getElem? (i := 42) (by decide +kernel)) rfl
theorem w_f_X1_19 : Cond.fieldLink RX1 19 "MicroMill" "work" "LMicroMill$Work;" ∈ wAll := wAll_of (List.mem_of_getElem? (i := 43) (by decide +kernel)) rfl
theorem w_f_X1_23 : Cond.fieldLink RX1 23 "MicroMill" "stopReason" "I" ∈ wAll := wAll_of (List.mem_of_getElem? (i := 44) (by decide +kernel)) rfl
theorem w_f_X1_27 : Cond.fieldLink RX1 27 "MicroMill" "allCycles" "J" ∈ wAll := wAll_of (List.mem_of_getElem? (i := 45) (by decide +kernel)) rfl
theorem w_f_X1_31 : Cond.fieldLink RX1 31 "MicroMill" "spent" "I" ∈ wAll := wAll_of (List.mem_of_getElem? (i := 46) (by decide +kernel)) rfl
theorem w_f_X1_34 : Cond.fieldLink RX1 34 "MicroMill" "place" "I" ∈ wAll := wAll_of (List.mem_of_getElem? (i := 47) (by decide +kernel)) rfl
theorem w_m_L_13 : Cond.methodLink RL 13 yX1_poke ∈ wAll := wAll_of (List.mem_of_getElem? (i := 63) (by decide +kernel)) rfl
theorem w_im_yX1_poke : Cond.instanceMethod yX1_poke ∈ wAll := wAll_of (List.mem_of_getElem? (i := 64) (by decide +kernel)) rfl
theorem w_sel_yX1_poke : Cond.selects RX1 yX1_poke yX1_poke ∈ wAll := wAll_of (List.mem_of_getElem? (i := 65) (by decide +kernel)) rfl
theorem w_co_yX1_poke : Cond.code yX1_poke cX1_poke 3 (some .boolean) ∈ wAll := wAll_of (List.mem_of_getElem? (i := 66) (by rfl)) rfl
theorem w_m_X1_37 : Cond.methodLink RX1 37 yX1_isWordAddress ∈ wAll := wAll_of (List.mem_of_getElem? (i := 67) (by decide +kernel)) rfl
theorem w_sm_yX1_isWordAddress : Cond.static yX1_isWordAddress ∈ wAll := wAll_of (List.mem_of_getElem? (i := 68) (by decide +kernel)) rfl
theorem w_co_yX1_isWordAddress : Cond.code yX1_isWordAddress cX1_isWordAddress 1 (some .boolean) ∈ wAll := wAll_of (List.mem_of_getElem? (i := 69) (by rfl)) rfl
theorem w_k_X1_41 : Cond.constant RX1 41 (65535) ∈ wAll := wAll_of (List.mem_of_getElem? (i := 70) (by decide +kernel)) rfl
theorem w_m_L_18 : Cond.methodLink RL 18 yX1_peek ∈ wAll := wAll_of (List.mem_of_getElem? (i := 71) (by decide +kernel)) rfl
theorem w_im_yX1_peek : Cond.instanceMethod yX1_peek ∈ wAll := wAll_of (List.mem_of_getElem? (i := 72) (by decide +kernel)) rfl
theorem w_sel_yX1_peek : Cond.selects RX1 yX1_peek yX1_peek ∈ wAll := wAll_of (List.mem_of_getElem? (i := 73) (by decide +kernel)) rfl
theorem w_co_yX1_peek : Cond.code yX1_peek cX1_peek 2 (some .int) ∈ wAll := wAll_of (List.mem_of_getElem? (i := 74) (by rfl)) rfl
theorem w_m_L_23 : Cond.methodLink RL 23 yX1_set ∈ wAll := wAll_of (List.mem_of_getElem? (i := 75) (by decide +kernel)) rfl
theorem w_im_yX1_set : Cond.instanceMethod yX1_set ∈ wAll := wAll_of (List.mem_of_getElem? (i := 76) (by decide +kernel)) rfl
theorem w_sel_yX1_set : Cond.selects RX1 yX1_set yX1_set ∈ wAll := wAll_of (List.mem_of_getElem? (i := 77) (by decide +kernel)) rfl
theorem w_co_yX1_set : Cond.code yX1_set cX1_set 3 (some .boolean) ∈ wAll := wAll_of (List.mem_of_getElem? (i := 78) (by rfl)) rfl
theorem w_m_X1_42 : Cond.methodLink RX1 42 yX1_isRegister ∈ wAll := wAll_of (List.mem_of_getElem? (i := 79) (by decide +kernel)) rfl
theorem w_sm_yX1_isRegister : Cond.static yX1_isRegister ∈ wAll := wAll_of (List.mem_of_getElem? (i := 80) (by decide +kernel)) rfl
theorem w_co_yX1_isRegister : Cond.code yX1_isRegister cX1_isRegister 1 (some .boolean) ∈ wAll := wAll_of (List.mem_of_getElem? (i := 81) (by rfl)) rfl
theorem w_m_L_27 : Cond.methodLink RL 27 yX1_register ∈ wAll := wAll_of (List.mem_of_getElem? (i := 82) (by decide +kernel)) rfl
theorem w_im_yX1_register : Cond.instanceMethod yX1_register ∈ wAll := wAll_of (List.mem_of_getElem? (i := 83) (by decide +kernel)) rfl
theorem w_sel_yX1_register : Cond.selects RX1 yX1_register yX1_register ∈ wAll := wAll_of (List.mem_of_getElem? (i := 84) (by decide +kernel)) rfl
theorem w_co_yX1_register : Cond.code yX1_register cX1_register 2 (some .int) ∈ wAll := wAll_of (List.mem_of_getElem? (i := 85) (by rfl)) rfl
theorem w_m_L_31 : Cond.methodLink RL 31 yX1_flags ∈ wAll := wAll_of (List.mem_of_getElem? (i := 86) (by decide +kernel)) rfl
theorem w_im_yX1_flags : Cond.instanceMethod yX1_flags ∈ wAll := wAll_of (List.mem_of_getElem? (i := 87) (by decide +kernel)) rfl
theorem w_sel_yX1_flags : Cond.selects RX1 yX1_flags yX1_flags ∈ wAll := wAll_of (List.mem_of_getElem? (i := 88) (by decide +kernel)) rfl
theorem w_co_yX1_flags : Cond.code yX1_flags cX1_flags 1 (some .int) ∈ wAll := wAll_of (List.mem_of_getElem? (i := 89) (by rfl)) rfl
theorem w_im_yX0_packed : Cond.instanceMethod yX0_packed ∈ wAll := wAll_of (List.mem_of_getElem? (i := 92) (by decide +kernel)) rfl
theorem w_co_yX0_packed : Cond.code yX0_packed cX0_packed 1 (some .int) ∈ wAll := wAll_of (List.mem_of_getElem? (i := 93) (by rfl)) rfl
theorem w_m_L_36 : Cond.methodLink RL 36 yX1_step ∈ wAll := wAll_of (List.mem_of_getElem? (i := 94) (by decide +kernel)) rfl
theorem w_im_yX1_step : Cond.instanceMethod yX1_step ∈ wAll := wAll_of (List.mem_of_getElem? (i := 95) (by decide +kernel)) rfl
theorem w_sel_yX1_step : Cond.selects RX1 yX1_step yX1_step ∈ wAll := wAll_of (List.mem_of_getElem? (i := 96) (by decide +kernel)) rfl
theorem w_co_yX1_step : Cond.code yX1_step cX1_step 1 (some .int) ∈ wAll := wAll_of (List.mem_of_getElem? (i := 97) (by rfl)) rfl
theorem w_m_X1_49 : Cond.methodLink RX1 49 yX1_doInstruction ∈ wAll := wAll_of (List.mem_of_getElem? (i := 98) (by decide +kernel)) rfl
theorem w_im_yX1_doInstruction : Cond.instanceMethod yX1_doInstruction ∈ wAll := wAll_of (List.mem_of_getElem? (i := 100) (by decide +kernel)) rfl
theorem w_co_yX1_doInstruction : Cond.code yX1_doInstruction cX1_doInstruction 2 (some .int) ∈ wAll := wAll_of (List.mem_of_getElem? (i := 101) (by rfl)) rfl
theorem w_m_X1_58 : Cond.methodLink RX1 58 yX1_stepUp ∈ wAll := wAll_of (List.mem_of_getElem? (i := 102) (by decide +kernel)) rfl
theorem w_im_yX1_stepUp : Cond.instanceMethod yX1_stepUp ∈ wAll := wAll_of (List.mem_of_getElem? (i := 104) (by decide +kernel)) rfl
theorem w_co_yX1_stepUp : Cond.code yX1_stepUp cX1_stepUp 4 (some .int) ∈ wAll := wAll_of (List.mem_of_getElem? (i := 105) (by rfl)) rfl
theorem w_m_X1_61 : Cond.methodLink RX1 61 yX1_readWord ∈ wAll := wAll_of (List.mem_of_getElem? (i := 106) (by decide +kernel)) rfl
theorem w_im_yX1_readWord : Cond.instanceMethod yX1_readWord ∈ wAll := wAll_of (List.mem_of_getElem? (i := 108) (by decide +kernel)) rfl
theorem w_co_yX1_readWord : Cond.code yX1_readWord cX1_readWord 2 (some .int) ∈ wAll := wAll_of (List.mem_of_getElem? (i := 109) (by rfl)) rfl
theorem w_m_X1_65 : Cond.methodLink RX1 65 yX1_perform ∈ wAll := wAll_of (List.mem_of_getElem? (i := 110) (by decide +kernel)) rfl
theorem w_im_yX1_perform : Cond.instanceMethod yX1_perform ∈ wAll := wAll_of (List.mem_of_getElem? (i := 112) (by decide +kernel)) rfl
theorem w_co_yX1_perform : Cond.code yX1_perform cX1_perform 2 none ∈ wAll := wAll_of (List.mem_of_getElem? (i := 113) (by rfl)) rfl
theorem w_m_X1_69 : Cond.methodLink RX1 69 yX1_isOfTwoOperands ∈ wAll := wAll_of (List.mem_of_getElem? (i := 114) (by decide +kernel)) rfl
theorem w_sm_yX1_isOfTwoOperands : Cond.static yX1_isOfTwoOperands ∈ wAll := wAll_of (List.mem_of_getElem? (i := 115) (by decide +kernel)) rfl
theorem w_co_yX1_isOfTwoOperands : Cond.code yX1_isOfTwoOperands cX1_isOfTwoOperands 2 (some .boolean) ∈ wAll := wAll_of (List.mem_of_getElem? (i := 116) (by rfl)) rfl
theorem w_m_X1_72 : Cond.methodLink RX1 72 yX1_doTwoOperands ∈ wAll := wAll_of (List.mem_of_getElem? (i := 117) (by decide +kernel)) rfl
theorem w_im_yX1_doTwoOperands : Cond.instanceMethod yX1_doTwoOperands ∈ wAll := wAll_of (List.mem_of_getElem? (i := 119) (by decide +kernel)) rfl
theorem w_co_yX1_doTwoOperands : Cond.code yX1_doTwoOperands cX1_doTwoOperands 8 none ∈ wAll := wAll_of (List.mem_of_getElem? (i := 120) (by rfl)) rfl
theorem w_k_X1_103 : Cond.constant RX1 103 (32768) ∈ wAll := wAll_of (List.mem_of_getElem? (i := 121) (by decide +kernel)) rfl
theorem w_m_X1_104 : Cond.methodLink RX1 104 yX1_readOperand ∈ wAll := wAll_of (List.mem_of_getElem? (i := 122) (by decide +kernel)) rfl
theorem w_im_yX1_readOperand : Cond.instanceMethod yX1_readOperand ∈ wAll := wAll_of (List.mem_of_getElem? (i := 124) (by decide +kernel)) rfl
theorem w_co_yX1_readOperand : Cond.code yX1_readOperand cX1_readOperand 5 (some .int) ∈ wAll := wAll_of (List.mem_of_getElem? (i := 125) (by rfl)) rfl
theorem w_f_X1_143 : Cond.fieldLink RX1 143 "MicroMill" "MODE_CYCLES" "[I" ∈ wAll := wAll_of (List.mem_of_getElem? (i := 126) (by decide +kernel)) rfl
theorem t_ls_MODE : Cond.laysStatic RX1 "MODE_CYCLES" "[I" ∈ tables_1 := List.mem_of_getElem? (i := 127) (by decide +kernel)
theorem w_m_X1_146 : Cond.methodLink RX1 146 yX1_findAddress ∈ wAll := wAll_of (List.mem_of_getElem? (i := 128) (by decide +kernel)) rfl
theorem w_im_yX1_findAddress : Cond.instanceMethod yX1_findAddress ∈ wAll := wAll_of (List.mem_of_getElem? (i := 130) (by decide +kernel)) rfl
theorem w_co_yX1_findAddress : Cond.code yX1_findAddress cX1_findAddress 6 (some .int) ∈ wAll := wAll_of (List.mem_of_getElem? (i := 131) (by rfl)) rfl
theorem w_m_X1_133 : Cond.methodLink RX1 133 yX1_stepDown ∈ wAll := wAll_of (List.mem_of_getElem? (i := 132) (by decide +kernel)) rfl
theorem w_im_yX1_stepDown : Cond.instanceMethod yX1_stepDown ∈ wAll := wAll_of (List.mem_of_getElem? (i := 134) (by decide +kernel)) rfl
theorem w_co_yX1_stepDown : Cond.code yX1_stepDown cX1_stepDown 3 (some .int) ∈ wAll := wAll_of (List.mem_of_getElem? (i := 135) (by rfl)) rfl
theorem w_m_X1_149 : Cond.methodLink RX1 149 yX1_readByte ∈ wAll := wAll_of (List.mem_of_getElem? (i := 136) (by decide +kernel)) rfl
theorem w_im_yX1_readByte : Cond.instanceMethod yX1_readByte ∈ wAll := wAll_of (List.mem_of_getElem? (i := 138) (by decide +kernel)) rfl
theorem w_co_yX1_readByte : Cond.code yX1_readByte cX1_readByte 2 (some .int) ∈ wAll := wAll_of (List.mem_of_getElem? (i := 139) (by rfl)) rfl
theorem w_m_X1_152 : Cond.methodLink RX1 152 yX1_shiftOf ∈ wAll := wAll_of (List.mem_of_getElem? (i := 140) (by decide +kernel)) rfl
theorem w_sm_yX1_shiftOf : Cond.static yX1_shiftOf ∈ wAll := wAll_of (List.mem_of_getElem? (i := 141) (by decide +kernel)) rfl
theorem w_co_yX1_shiftOf : Cond.code yX1_shiftOf cX1_shiftOf 1 (some .int) ∈ wAll := wAll_of (List.mem_of_getElem? (i := 142) (by rfl)) rfl
theorem w_im_yX0_takeWidth : Cond.instanceMethod yX0_takeWidth ∈ wAll := wAll_of (List.mem_of_getElem? (i := 145) (by decide +kernel)) rfl
theorem w_co_yX0_takeWidth : Cond.code yX0_takeWidth cX0_takeWidth 2 none ∈ wAll := wAll_of (List.mem_of_getElem? (i := 146) (by rfl)) rfl
theorem w_im_yX0_ofTwo : Cond.instanceMethod yX0_ofTwo ∈ wAll := wAll_of (List.mem_of_getElem? (i := 149) (by decide +kernel)) rfl
theorem w_co_yX0_ofTwo : Cond.code yX0_ofTwo cX0_ofTwo 4 (some .int) ∈ wAll := wAll_of (List.mem_of_getElem? (i := 150) (by rfl)) rfl
theorem w_m_X0_33 : Cond.methodLink RX0 33 yX0_logical ∈ wAll := wAll_of (List.mem_of_getElem? (i := 151) (by decide +kernel)) rfl
theorem w_im_yX0_logical : Cond.instanceMethod yX0_logical ∈ wAll := wAll_of (List.mem_of_getElem? (i := 153) (by decide +kernel)) rfl
theorem w_co_yX0_logical : Cond.code yX0_logical cX0_logical 2 (some .int) ∈ wAll := wAll_of (List.mem_of_getElem? (i := 154) (by rfl)) rfl
theorem w_m_X0_44 : Cond.methodLink RX0 44 yX0_settled ∈ wAll := wAll_of (List.mem_of_getElem? (i := 155) (by decide +kernel)) rfl
theorem w_im_yX0_settled : Cond.instanceMethod yX0_settled ∈ wAll := wAll_of (List.mem_of_getElem? (i := 157) (by decide +kernel)) rfl
theorem w_co_yX0_settled : Cond.code yX0_settled cX0_settled 5 (some .int) ∈ wAll := wAll_of (List.mem_of_getElem? (i := 158) (by rfl)) rfl
theorem w_m_X0_37 : Cond.methodLink RX0 37 yX0_difference ∈ wAll := wAll_of (List.mem_of_getElem? (i := 159) (by decide +kernel)) rfl
theorem w_im_yX0_difference : Cond.instanceMethod yX0_difference ∈ wAll := wAll_of (List.mem_of_getElem? (i := 161) (by decide +kernel)) rfl
theorem w_co_yX0_difference : Cond.code yX0_difference cX0_difference 5 (some .int) ∈ wAll := wAll_of (List.mem_of_getElem? (i := 162) (by rfl)) rfl
theorem w_m_X0_41 : Cond.methodLink RX0 41 yX0_sum ∈ wAll := wAll_of (List.mem_of_getElem? (i := 163) (by decide +kernel)) rfl
theorem w_im_yX0_sum : Cond.instanceMethod yX0_sum ∈ wAll := wAll_of (List.mem_of_getElem? (i := 165) (by decide +kernel)) rfl
theorem w_co_yX0_sum : Cond.code yX0_sum cX0_sum 5 (some .int) ∈ wAll := wAll_of (List.mem_of_getElem? (i := 166) (by rfl)) rfl
theorem w_m_X1_116 : Cond.methodLink RX1 116 yX1_putSigned ∈ wAll := wAll_of (List.mem_of_getElem? (i := 167) (by decide +kernel)) rfl
theorem w_im_yX1_putSigned : Cond.instanceMethod yX1_putSigned ∈ wAll := wAll_of (List.mem_of_getElem? (i := 169) (by decide +kernel)) rfl
theorem w_co_yX1_putSigned : Cond.code yX1_putSigned cX1_putSigned 3 none ∈ wAll := wAll_of (List.mem_of_getElem? (i := 170) (by rfl)) rfl
theorem w_m_X1_120 : Cond.methodLink RX1 120 yX1_putResult ∈ wAll := wAll_of (List.mem_of_getElem? (i := 171) (by decide +kernel)) rfl
theorem w_im_yX1_putResult : Cond.instanceMethod yX1_putResult ∈ wAll := wAll_of (List.mem_of_getElem? (i := 173) (by decide +kernel)) rfl
theorem w_co_yX1_putResult : Cond.code yX1_putResult cX1_putResult 5 none ∈ wAll := wAll_of (List.mem_of_getElem? (i := 174) (by rfl)) rfl
theorem w_m_X1_75 : Cond.methodLink RX1 75 yX1_isOfOneOperand ∈ wAll := wAll_of (List.mem_of_getElem? (i := 175) (by decide +kernel)) rfl
theorem w_sm_yX1_isOfOneOperand : Cond.static yX1_isOfOneOperand ∈ wAll := wAll_of (List.mem_of_getElem? (i := 176) (by decide +kernel)) rfl
theorem w_co_yX1_isOfOneOperand : Cond.code yX1_isOfOneOperand cX1_isOfOneOperand 2 (some .boolean) ∈ wAll := wAll_of (List.mem_of_getElem? (i := 177) (by rfl)) rfl
theorem w_k_X1_102 : Cond.constant RX1 102 (-32769) ∈ wAll := wAll_of (List.mem_of_getElem? (i := 178) (by decide +kernel)) rfl
theorem w_m_X1_78 : Cond.methodLink RX1 78 yX1_doOneOperand ∈ wAll := wAll_of (List.mem_of_getElem? (i := 179) (by decide +kernel)) rfl
theorem w_im_yX1_doOneOperand : Cond.instanceMethod yX1_doOneOperand ∈ wAll := wAll_of (List.mem_of_getElem? (i := 181) (by decide +kernel)) rfl
theorem w_co_yX1_doOneOperand : Cond.code yX1_doOneOperand cX1_doOneOperand 6 none ∈ wAll := wAll_of (List.mem_of_getElem? (i := 182) (by rfl)) rfl
theorem w_im_yX0_ofShift : Cond.instanceMethod yX0_ofShift ∈ wAll := wAll_of (List.mem_of_getElem? (i := 185) (by decide +kernel)) rfl
theorem w_co_yX0_ofShift : Cond.code yX0_ofShift cX0_ofShift 5 (some .int) ∈ wAll := wAll_of (List.mem_of_getElem? (i := 186) (by rfl)) rfl
theorem w_m_X0_51 : Cond.methodLink RX0 51 yX0_shifted ∈ wAll := wAll_of (List.mem_of_getElem? (i := 187) (by decide +kernel)) rfl
theorem w_im_yX0_shifted : Cond.instanceMethod yX0_shifted ∈ wAll := wAll_of (List.mem_of_getElem? (i := 189) (by decide +kernel)) rfl
theorem w_co_yX0_shifted : Cond.code yX0_shifted cX0_shifted 4 (some .int) ∈ wAll := wAll_of (List.mem_of_getElem? (i := 190) (by rfl)) rfl
theorem w_im_yX0_ofOne : Cond.instanceMethod yX0_ofOne ∈ wAll := wAll_of (List.mem_of_getElem? (i := 193) (by decide +kernel)) rfl
theorem w_co_yX0_ofOne : Cond.code yX0_ofOne cX0_ofOne 3 (some .int) ∈ wAll := wAll_of (List.mem_of_getElem? (i := 194) (by rfl)) rfl
theorem w_m_X0_48 : Cond.methodLink RX0 48 yX0_swapped ∈ wAll := wAll_of (List.mem_of_getElem? (i := 195) (by decide +kernel)) rfl
theorem w_im_yX0_swapped : Cond.instanceMethod yX0_swapped ∈ wAll := wAll_of (List.mem_of_getElem? (i := 197) (by decide +kernel)) rfl
theorem w_co_yX0_swapped : Cond.code yX0_swapped cX0_swapped 3 (some .int) ∈ wAll := wAll_of (List.mem_of_getElem? (i := 198) (by rfl)) rfl
theorem w_m_X1_81 : Cond.methodLink RX1 81 yX1_isBranch ∈ wAll := wAll_of (List.mem_of_getElem? (i := 199) (by decide +kernel)) rfl
theorem w_sm_yX1_isBranch : Cond.static yX1_isBranch ∈ wAll := wAll_of (List.mem_of_getElem? (i := 200) (by decide +kernel)) rfl
theorem w_co_yX1_isBranch : Cond.code yX1_isBranch cX1_isBranch 2 (some .boolean) ∈ wAll := wAll_of (List.mem_of_getElem? (i := 201) (by rfl)) rfl
theorem w_m_X1_84 : Cond.methodLink RX1 84 yX1_doBranch ∈ wAll := wAll_of (List.mem_of_getElem? (i := 202) (by decide +kernel)) rfl
theorem w_im_yX1_doBranch : Cond.instanceMethod yX1_doBranch ∈ wAll := wAll_of (List.mem_of_getElem? (i := 204) (by decide +kernel)) rfl
theorem w_co_yX1_doBranch : Cond.code yX1_doBranch cX1_doBranch 2 none ∈ wAll := wAll_of (List.mem_of_getElem? (i := 205) (by rfl)) rfl
theorem w_im_yX0_allows : Cond.instanceMethod yX0_allows ∈ wAll := wAll_of (List.mem_of_getElem? (i := 208) (by decide +kernel)) rfl
theorem w_co_yX0_allows : Cond.code yX0_allows cX0_allows 2 (some .boolean) ∈ wAll := wAll_of (List.mem_of_getElem? (i := 209) (by rfl)) rfl
theorem w_m_X1_87 : Cond.methodLink RX1 87 yX1_doSubtractAndBranch ∈ wAll := wAll_of (List.mem_of_getElem? (i := 210) (by decide +kernel)) rfl
theorem w_im_yX1_doSubtractAndBranch : Cond.instanceMethod yX1_doSubtractAndBranch ∈ wAll := wAll_of (List.mem_of_getElem? (i := 212) (by decide +kernel)) rfl
theorem w_co_yX1_doSubtractAndBranch : Cond.code yX1_doSubtractAndBranch cX1_doSubtractAndBranch 2 none ∈ wAll := wAll_of (List.mem_of_getElem? (i := 213) (by rfl)) rfl
theorem w_m_X1_90 : Cond.methodLink RX1 90 yX1_doJump ∈ wAll := wAll_of (List.mem_of_getElem? (i := 214) (by decide +kernel)) rfl
theorem w_im_yX1_doJump : Cond.instanceMethod yX1_doJump ∈ wAll := wAll_of (List.mem_of_getElem? (i := 216) (by decide +kernel)) rfl
theorem w_co_yX1_doJump : Cond.code yX1_doJump cX1_doJump 3 none ∈ wAll := wAll_of (List.mem_of_getElem? (i := 217) (by rfl)) rfl
theorem w_m_X1_136 : Cond.methodLink RX1 136 yX1_findTarget ∈ wAll := wAll_of (List.mem_of_getElem? (i := 218) (by decide +kernel)) rfl
theorem w_im_yX1_findTarget : Cond.instanceMethod yX1_findTarget ∈ wAll := wAll_of (List.mem_of_getElem? (i := 220) (by decide +kernel)) rfl
theorem w_co_yX1_findTarget : Cond.code yX1_findTarget cX1_findTarget 3 (some .int) ∈ wAll := wAll_of (List.mem_of_getElem? (i := 221) (by rfl)) rfl
theorem w_m_X1_93 : Cond.methodLink RX1 93 yX1_doJumpToSubroutine ∈ wAll := wAll_of (List.mem_of_getElem? (i := 222) (by decide +kernel)) rfl
theorem w_im_yX1_doJumpToSubroutine : Cond.instanceMethod yX1_doJumpToSubroutine ∈ wAll := wAll_of (List.mem_of_getElem? (i := 224) (by decide +kernel)) rfl
theorem w_co_yX1_doJumpToSubroutine : Cond.code yX1_doJumpToSubroutine cX1_doJumpToSubroutine 5 none ∈ wAll := wAll_of (List.mem_of_getElem? (i := 225) (by rfl)) rfl
theorem w_m_X1_96 : Cond.methodLink RX1 96 yX1_doReturn ∈ wAll := wAll_of (List.mem_of_getElem? (i := 226) (by decide +kernel)) rfl
theorem w_im_yX1_doReturn : Cond.instanceMethod yX1_doReturn ∈ wAll := wAll_of (List.mem_of_getElem? (i := 228) (by decide +kernel)) rfl
theorem w_co_yX1_doReturn : Cond.code yX1_doReturn cX1_doReturn 3 none ∈ wAll := wAll_of (List.mem_of_getElem? (i := 229) (by rfl)) rfl
theorem w_m_X1_99 : Cond.methodLink RX1 99 yX1_doFlags ∈ wAll := wAll_of (List.mem_of_getElem? (i := 230) (by decide +kernel)) rfl
theorem w_im_yX1_doFlags : Cond.instanceMethod yX1_doFlags ∈ wAll := wAll_of (List.mem_of_getElem? (i := 232) (by decide +kernel)) rfl
theorem w_co_yX1_doFlags : Cond.code yX1_doFlags cX1_doFlags 2 none ∈ wAll := wAll_of (List.mem_of_getElem? (i := 233) (by rfl)) rfl
theorem w_im_yX0_change : Cond.instanceMethod yX0_change ∈ wAll := wAll_of (List.mem_of_getElem? (i := 236) (by decide +kernel)) rfl
theorem w_co_yX0_change : Cond.code yX0_change cX0_change 3 none ∈ wAll := wAll_of (List.mem_of_getElem? (i := 237) (by rfl)) rfl
theorem w_m_L_40 : Cond.methodLink RL 40 yX1_run ∈ wAll := wAll_of (List.mem_of_getElem? (i := 238) (by decide +kernel)) rfl
theorem w_im_yX1_run : Cond.instanceMethod yX1_run ∈ wAll := wAll_of (List.mem_of_getElem? (i := 239) (by decide +kernel)) rfl
theorem w_sel_yX1_run : Cond.selects RX1 yX1_run yX1_run ∈ wAll := wAll_of (List.mem_of_getElem? (i := 240) (by decide +kernel)) rfl
theorem w_co_yX1_run : Cond.code yX1_run cX1_run 4 (some .int) ∈ wAll := wAll_of (List.mem_of_getElem? (i := 241) (by rfl)) rfl
theorem w_m_X1_52 : Cond.methodLink RX1 52 Lib.Math.min.name ∈ wAll := wAll_of (List.mem_of_getElem? (i := 242) (by decide +kernel)) rfl
theorem w_sm_Lib_Math_min_name : Cond.static Lib.Math.min.name ∈ wAll := wAll_of (List.mem_of_getElem? (i := 243) (by decide +kernel)) rfl
theorem w_co_min : Cond.code Lib.Math.min.name Lib.Math.min.code 2 (some .int) ∈ wAll := wAll_of (List.mem_of_getElem? (i := 244) (by rfl)) rfl
theorem w_m_L_44 : Cond.methodLink RL 44 yX1_cycles ∈ wAll := wAll_of (List.mem_of_getElem? (i := 245) (by decide +kernel)) rfl
theorem w_im_yX1_cycles : Cond.instanceMethod yX1_cycles ∈ wAll := wAll_of (List.mem_of_getElem? (i := 246) (by decide +kernel)) rfl
theorem w_sel_yX1_cycles : Cond.selects RX1 yX1_cycles yX1_cycles ∈ wAll := wAll_of (List.mem_of_getElem? (i := 247) (by decide +kernel)) rfl
theorem w_co_yX1_cycles : Cond.code yX1_cycles cX1_cycles 1 (some .long) ∈ wAll := wAll_of (List.mem_of_getElem? (i := 248) (by rfl)) rfl
theorem w_m_L_49 : Cond.methodLink RL 49 yX1_stopped ∈ wAll := wAll_of (List.mem_of_getElem? (i := 249) (by decide +kernel)) rfl
theorem w_im_yX1_stopped : Cond.instanceMethod yX1_stopped ∈ wAll := wAll_of (List.mem_of_getElem? (i := 250) (by decide +kernel)) rfl
theorem w_sel_yX1_stopped : Cond.selects RX1 yX1_stopped yX1_stopped ∈ wAll := wAll_of (List.mem_of_getElem? (i := 251) (by decide +kernel)) rfl
theorem w_co_yX1_stopped : Cond.code yX1_stopped cX1_stopped 1 (some .int) ∈ wAll := wAll_of (List.mem_of_getElem? (i := 252) (by rfl)) rfl
theorem w_m_L_53 : Cond.methodLink RL 53 yX1_go ∈ wAll := wAll_of (List.mem_of_getElem? (i := 253) (by decide +kernel)) rfl
theorem w_im_yX1_go : Cond.instanceMethod yX1_go ∈ wAll := wAll_of (List.mem_of_getElem? (i := 254) (by decide +kernel)) rfl
theorem w_sel_yX1_go : Cond.selects RX1 yX1_go yX1_go ∈ wAll := wAll_of (List.mem_of_getElem? (i := 255) (by decide +kernel)) rfl
theorem w_co_yX1_go : Cond.code yX1_go cX1_go 2 (some .boolean) ∈ wAll := wAll_of (List.mem_of_getElem? (i := 256) (by rfl)) rfl
theorem w_cl_L_10 : Cond.classLink RL 10 RX2 ∈ wAll := wAll_of (List.mem_of_getElem? (i := 257) (by decide +kernel)) rfl
theorem w_inst_X2 : Cond.instantiable RX2 7 ∈ wAll := wAll_of (List.mem_of_getElem? (i := 258) (by decide +kernel)) rfl
theorem w_m_L_12 : Cond.methodLink RL 12 yX2_init ∈ wAll := wAll_of (List.mem_of_getElem? (i := 259) (by decide +kernel)) rfl
theorem w_im_yX2_init : Cond.instanceMethod yX2_init ∈ wAll := wAll_of (List.mem_of_getElem? (i := 260) (by decide +kernel)) rfl
theorem w_co_yX2_init : Cond.code yX2_init cX2_init 1 none ∈ wAll := wAll_of (List.mem_of_getElem? (i := 261) (by rfl)) rfl
theorem w_m_X2_1 : Cond.methodLink RX2 1 objectInit ∈ wAll := wAll_of (List.mem_of_getElem? (i := 262) (by decide +kernel)) rfl
theorem w_f_X2_7 : Cond.fieldLink RX2 7 "MicroMillModel" "words" "[I" ∈ wAll := wAll_of (List.mem_of_getElem? (i := 263) (by decide +kernel)) rfl
theorem w_f_X2_13 : Cond.fieldLink RX2 13 "MicroMillModel" "registers" "[I" ∈ wAll := wAll_of (List.mem_of_getElem? (i := 264) (by decide +kernel)) rfl
theorem w_f_X2_17 : Cond.fieldLink RX2 17 "MicroMillModel" "flags" "I" ∈ wAll := wAll_of (List.mem_of_getElem? (i := 265) (by decide +kernel)) rfl
theorem w_f_X2_25 : Cond.fieldLink RX2 25 "MicroMillModel" "why" "I" ∈ wAll := wAll_of (List.mem_of_getElem? (i := 266) (by decide +kernel)) rfl
theorem w_f_X2_21 : Cond.fieldLink RX2 21 "MicroMillModel" "all" "J" ∈ wAll := wAll_of (List.mem_of_getElem? (i := 267) (by decide +kernel)) rfl
theorem w_f_X2_39 : Cond.fieldLink RX2 39 "MicroMillModel" "took" "I" ∈ wAll := wAll_of (List.mem_of_getElem? (i := 268) (by decide +kernel)) rfl
theorem w_f_X2_36 : Cond.fieldLink RX2 36 "MicroMillModel" "place" "I" ∈ wAll := wAll_of (List.mem_of_getElem? (i := 269) (by decide +kernel)) rfl
theorem w_m_L_17 : Cond.methodLink RL 17 yX2_poke ∈ wAll := wAll_of (List.mem_of_getElem? (i := 285) (by decide +kernel)) rfl
theorem w_im_yX2_poke : Cond.instanceMethod yX2_poke ∈ wAll := wAll_of (List.mem_of_getElem? (i := 286) (by decide +kernel)) rfl
theorem w_sel_yX2_poke : Cond.selects RX2 yX2_poke yX2_poke ∈ wAll := wAll_of (List.mem_of_getElem? (i := 287) (by decide +kernel)) rfl
theorem w_co_yX2_poke : Cond.code yX2_poke cX2_poke 3 (some .boolean) ∈ wAll := wAll_of (List.mem_of_getElem? (i := 288) (by rfl)) rfl
theorem w_k_X2_16 : Cond.constant RX2 16 (65535) ∈ wAll := wAll_of (List.mem_of_getElem? (i := 289) (by decide +kernel)) rfl
theorem w_m_L_22 : Cond.methodLink RL 22 yX2_peek ∈ wAll := wAll_of (List.mem_of_getElem? (i := 290) (by decide +kernel)) rfl
theorem w_im_yX2_peek : Cond.instanceMethod yX2_peek ∈ wAll := wAll_of (List.mem_of_getElem? (i := 291) (by decide +kernel)) rfl
theorem w_sel_yX2_peek : Cond.selects RX2 yX2_peek yX2_peek ∈ wAll := wAll_of (List.mem_of_getElem? (i := 292) (by decide +kernel)) rfl
theorem w_co_yX2_peek : Cond.code yX2_peek cX2_peek 2 (some .int) ∈ wAll := wAll_of (List.mem_of_getElem? (i := 293) (by rfl)) rfl
theorem w_m_L_26 : Cond.methodLink RL 26 yX2_set ∈ wAll := wAll_of (List.mem_of_getElem? (i := 294) (by decide +kernel)) rfl
theorem w_im_yX2_set : Cond.instanceMethod yX2_set ∈ wAll := wAll_of (List.mem_of_getElem? (i := 295) (by decide +kernel)) rfl
theorem w_sel_yX2_set : Cond.selects RX2 yX2_set yX2_set ∈ wAll := wAll_of (List.mem_of_getElem? (i := 296) (by decide +kernel)) rfl
theorem w_co_yX2_set : Cond.code yX2_set cX2_set 3 (some .boolean) ∈ wAll := wAll_of (List.mem_of_getElem? (i := 297) (by rfl)) rfl
theorem w_m_L_30 : Cond.methodLink RL 30 yX2_register ∈ wAll := wAll_of (List.mem_of_getElem? (i := 298) (by decide +kernel)) rfl
theorem w_im_yX2_register : Cond.instanceMethod yX2_register ∈ wAll := wAll_of (List.mem_of_getElem? (i := 299) (by decide +kernel)) rfl
theorem w_sel_yX2_register : Cond.selects RX2 yX2_register yX2_register ∈ wAll := wAll_of (List.mem_of_getElem? (i := 300) (by decide +kernel)) rfl
theorem w_co_yX2_register : Cond.code yX2_register cX2_register 2 (some .int) ∈ wAll := wAll_of (List.mem_of_getElem? (i := 301) (by rfl)) rfl
theorem w_m_L_35 : Cond.methodLink RL 35 yX2_flags ∈ wAll := wAll_of (List.mem_of_getElem? (i := 302) (by decide +kernel)) rfl
theorem w_im_yX2_flags : Cond.instanceMethod yX2_flags ∈ wAll := wAll_of (List.mem_of_getElem? (i := 303) (by decide +kernel)) rfl
theorem w_sel_yX2_flags : Cond.selects RX2 yX2_flags yX2_flags ∈ wAll := wAll_of (List.mem_of_getElem? (i := 304) (by decide +kernel)) rfl
theorem w_co_yX2_flags : Cond.code yX2_flags cX2_flags 1 (some .int) ∈ wAll := wAll_of (List.mem_of_getElem? (i := 305) (by rfl)) rfl
theorem w_m_L_48 : Cond.methodLink RL 48 yX2_cycles ∈ wAll := wAll_of (List.mem_of_getElem? (i := 306) (by decide +kernel)) rfl
theorem w_im_yX2_cycles : Cond.instanceMethod yX2_cycles ∈ wAll := wAll_of (List.mem_of_getElem? (i := 307) (by decide +kernel)) rfl
theorem w_sel_yX2_cycles : Cond.selects RX2 yX2_cycles yX2_cycles ∈ wAll := wAll_of (List.mem_of_getElem? (i := 308) (by decide +kernel)) rfl
theorem w_co_yX2_cycles : Cond.code yX2_cycles cX2_cycles 1 (some .long) ∈ wAll := wAll_of (List.mem_of_getElem? (i := 309) (by rfl)) rfl
theorem w_m_L_52 : Cond.methodLink RL 52 yX2_stopped ∈ wAll := wAll_of (List.mem_of_getElem? (i := 310) (by decide +kernel)) rfl
theorem w_im_yX2_stopped : Cond.instanceMethod yX2_stopped ∈ wAll := wAll_of (List.mem_of_getElem? (i := 311) (by decide +kernel)) rfl
theorem w_sel_yX2_stopped : Cond.selects RX2 yX2_stopped yX2_stopped ∈ wAll := wAll_of (List.mem_of_getElem? (i := 312) (by decide +kernel)) rfl
theorem w_co_yX2_stopped : Cond.code yX2_stopped cX2_stopped 1 (some .int) ∈ wAll := wAll_of (List.mem_of_getElem? (i := 313) (by rfl)) rfl
theorem w_m_L_57 : Cond.methodLink RL 57 yX2_go ∈ wAll := wAll_of (List.mem_of_getElem? (i := 314) (by decide +kernel)) rfl
theorem w_im_yX2_go : Cond.instanceMethod yX2_go ∈ wAll := wAll_of (List.mem_of_getElem? (i := 315) (by decide +kernel)) rfl
theorem w_sel_yX2_go : Cond.selects RX2 yX2_go yX2_go ∈ wAll := wAll_of (List.mem_of_getElem? (i := 316) (by decide +kernel)) rfl
theorem w_co_yX2_go : Cond.code yX2_go cX2_go 2 (some .boolean) ∈ wAll := wAll_of (List.mem_of_getElem? (i := 317) (by rfl)) rfl
theorem w_m_L_39 : Cond.methodLink RL 39 yX2_step ∈ wAll := wAll_of (List.mem_of_getElem? (i := 318) (by decide +kernel)) rfl
theorem w_im_yX2_step : Cond.instanceMethod yX2_step ∈ wAll := wAll_of (List.mem_of_getElem? (i := 319) (by decide +kernel)) rfl
theorem w_sel_yX2_step : Cond.selects RX2 yX2_step yX2_step ∈ wAll := wAll_of (List.mem_of_getElem? (i := 320) (by decide +kernel)) rfl
theorem w_co_yX2_step : Cond.code yX2_step cX2_step 3 (some .int) ∈ wAll := wAll_of (List.mem_of_getElem? (i := 321) (by rfl)) rfl
theorem w_m_X2_42 : Cond.methodLink RX2 42 yX2_following ∈ wAll := wAll_of (List.mem_of_getElem? (i := 322) (by decide +kernel)) rfl
theorem w_im_yX2_following : Cond.instanceMethod yX2_following ∈ wAll := wAll_of (List.mem_of_getElem? (i := 324) (by decide +kernel)) rfl
theorem w_co_yX2_following : Cond.code yX2_following cX2_following 2 (some .int) ∈ wAll := wAll_of (List.mem_of_getElem? (i := 325) (by rfl)) rfl
theorem w_m_X2_28 : Cond.methodLink RX2 28 yX2_add ∈ wAll := wAll_of (List.mem_of_getElem? (i := 326) (by decide +kernel)) rfl
theorem w_im_yX2_add : Cond.instanceMethod yX2_add ∈ wAll := wAll_of (List.mem_of_getElem? (i := 328) (by decide +kernel)) rfl
theorem w_co_yX2_add : Cond.code yX2_add cX2_add 3 none ∈ wAll := wAll_of (List.mem_of_getElem? (i := 329) (by rfl)) rfl
theorem w_m_X2_32 : Cond.methodLink RX2 32 yX2_word ∈ wAll := wAll_of (List.mem_of_getElem? (i := 330) (by decide +kernel)) rfl
theorem w_im_yX2_word : Cond.instanceMethod yX2_word ∈ wAll := wAll_of (List.mem_of_getElem? (i := 332) (by decide +kernel)) rfl
theorem w_co_yX2_word : Cond.code yX2_word cX2_word 2 (some .int) ∈ wAll := wAll_of (List.mem_of_getElem? (i := 333) (by rfl)) rfl
theorem w_m_X2_99 : Cond.methodLink RX2 99 yX2_count ∈ wAll := wAll_of (List.mem_of_getElem? (i := 334) (by decide +kernel)) rfl
theorem w_im_yX2_count : Cond.instanceMethod yX2_count ∈ wAll := wAll_of (List.mem_of_getElem? (i := 336) (by decide +kernel)) rfl
theorem w_co_yX2_count : Cond.code yX2_count cX2_count 3 none ∈ wAll := wAll_of (List.mem_of_getElem? (i := 337) (by rfl)) rfl
theorem w_m_X2_102 : Cond.methodLink RX2 102 yX2_doOther ∈ wAll := wAll_of (List.mem_of_getElem? (i := 338) (by decide +kernel)) rfl
theorem w_im_yX2_doOther : Cond.instanceMethod yX2_doOther ∈ wAll := wAll_of (List.mem_of_getElem? (i := 340) (by decide +kernel)) rfl
theorem w_co_yX2_doOther : Cond.code yX2_doOther cX2_doOther 5 none ∈ wAll := wAll_of (List.mem_of_getElem? (i := 341) (by rfl)) rfl
theorem w_m_X2_82 : Cond.methodLink RX2 82 yX2_branch ∈ wAll := wAll_of (List.mem_of_getElem? (i := 342) (by decide +kernel)) rfl
theorem w_im_yX2_branch : Cond.instanceMethod yX2_branch ∈ wAll := wAll_of (List.mem_of_getElem? (i := 344) (by decide +kernel)) rfl
theorem w_co_yX2_branch : Cond.code yX2_branch cX2_branch 3 none ∈ wAll := wAll_of (List.mem_of_getElem? (i := 345) (by rfl)) rfl
theorem w_m_X2_78 : Cond.methodLink RX2 78 yX2_isTrue ∈ wAll := wAll_of (List.mem_of_getElem? (i := 346) (by decide +kernel)) rfl
theorem w_im_yX2_isTrue : Cond.instanceMethod yX2_isTrue ∈ wAll := wAll_of (List.mem_of_getElem? (i := 348) (by decide +kernel)) rfl
theorem w_co_yX2_isTrue : Cond.code yX2_isTrue cX2_isTrue 7 (some .boolean) ∈ wAll := wAll_of (List.mem_of_getElem? (i := 349) (by rfl)) rfl
theorem w_m_X2_86 : Cond.methodLink RX2 86 yX2_doOne ∈ wAll := wAll_of (List.mem_of_getElem? (i := 350) (by decide +kernel)) rfl
theorem w_im_yX2_doOne : Cond.instanceMethod yX2_doOne ∈ wAll := wAll_of (List.mem_of_getElem? (i := 352) (by decide +kernel)) rfl
theorem w_co_yX2_doOne : Cond.code yX2_doOne cX2_doOne 7 none ∈ wAll := wAll_of (List.mem_of_getElem? (i := 353) (by rfl)) rfl
theorem w_m_X2_54 : Cond.methodLink RX2 54 yX2_find ∈ wAll := wAll_of (List.mem_of_getElem? (i := 354) (by decide +kernel)) rfl
theorem w_im_yX2_find : Cond.instanceMethod yX2_find ∈ wAll := wAll_of (List.mem_of_getElem? (i := 356) (by decide +kernel)) rfl
theorem w_co_yX2_find : Cond.code yX2_find cX2_find 8 none ∈ wAll := wAll_of (List.mem_of_getElem? (i := 357) (by rfl)) rfl
theorem w_m_X2_58 : Cond.methodLink RX2 58 yX2_read ∈ wAll := wAll_of (List.mem_of_getElem? (i := 358) (by decide +kernel)) rfl
theorem w_im_yX2_read : Cond.instanceMethod yX2_read ∈ wAll := wAll_of (List.mem_of_getElem? (i := 360) (by decide +kernel)) rfl
theorem w_co_yX2_read : Cond.code yX2_read cX2_read 2 (some .int) ∈ wAll := wAll_of (List.mem_of_getElem? (i := 361) (by rfl)) rfl
theorem w_m_X2_46 : Cond.methodLink RX2 46 yX2_octet ∈ wAll := wAll_of (List.mem_of_getElem? (i := 362) (by decide +kernel)) rfl
theorem w_im_yX2_octet : Cond.instanceMethod yX2_octet ∈ wAll := wAll_of (List.mem_of_getElem? (i := 364) (by decide +kernel)) rfl
theorem w_co_yX2_octet : Cond.code yX2_octet cX2_octet 2 (some .int) ∈ wAll := wAll_of (List.mem_of_getElem? (i := 365) (by rfl)) rfl
theorem w_k_X2_62 : Cond.constant RX2 62 (32768) ∈ wAll := wAll_of (List.mem_of_getElem? (i := 366) (by decide +kernel)) rfl
theorem w_m_X2_50 : Cond.methodLink RX2 50 yX2_tell ∈ wAll := wAll_of (List.mem_of_getElem? (i := 367) (by decide +kernel)) rfl
theorem w_im_yX2_tell : Cond.instanceMethod yX2_tell ∈ wAll := wAll_of (List.mem_of_getElem? (i := 369) (by decide +kernel)) rfl
theorem w_co_yX2_tell : Cond.code yX2_tell cX2_tell 5 none ∈ wAll := wAll_of (List.mem_of_getElem? (i := 370) (by rfl)) rfl
theorem w_m_X2_71 : Cond.methodLink RX2 71 yX2_one ∈ wAll := wAll_of (List.mem_of_getElem? (i := 371) (by decide +kernel)) rfl
theorem w_im_yX2_one : Cond.instanceMethod yX2_one ∈ wAll := wAll_of (List.mem_of_getElem? (i := 373) (by decide +kernel)) rfl
theorem w_co_yX2_one : Cond.code yX2_one cX2_one 10 (some .int) ∈ wAll := wAll_of (List.mem_of_getElem? (i := 374) (by rfl)) rfl
theorem w_m_X2_75 : Cond.methodLink RX2 75 yX2_moved ∈ wAll := wAll_of (List.mem_of_getElem? (i := 375) (by decide +kernel)) rfl
theorem w_im_yX2_moved : Cond.instanceMethod yX2_moved ∈ wAll := wAll_of (List.mem_of_getElem? (i := 377) (by decide +kernel)) rfl
theorem w_co_yX2_moved : Cond.code yX2_moved cX2_moved 8 (some .int) ∈ wAll := wAll_of (List.mem_of_getElem? (i := 378) (by rfl)) rfl
theorem w_m_X2_67 : Cond.methodLink RX2 67 yX2_put ∈ wAll := wAll_of (List.mem_of_getElem? (i := 379) (by decide +kernel)) rfl
theorem w_im_yX2_put : Cond.instanceMethod yX2_put ∈ wAll := wAll_of (List.mem_of_getElem? (i := 381) (by decide +kernel)) rfl
theorem w_co_yX2_put : Cond.code yX2_put cX2_put 5 none ∈ wAll := wAll_of (List.mem_of_getElem? (i := 382) (by rfl)) rfl
theorem w_k_X2_49 : Cond.constant RX2 49 (65280) ∈ wAll := wAll_of (List.mem_of_getElem? (i := 383) (by decide +kernel)) rfl
theorem w_m_X2_90 : Cond.methodLink RX2 90 yX2_jump ∈ wAll := wAll_of (List.mem_of_getElem? (i := 384) (by decide +kernel)) rfl
theorem w_im_yX2_jump : Cond.instanceMethod yX2_jump ∈ wAll := wAll_of (List.mem_of_getElem? (i := 386) (by decide +kernel)) rfl
theorem w_co_yX2_jump : Cond.code yX2_jump cX2_jump 5 none ∈ wAll := wAll_of (List.mem_of_getElem? (i := 387) (by rfl)) rfl
theorem w_m_X2_93 : Cond.methodLink RX2 93 yX2_back ∈ wAll := wAll_of (List.mem_of_getElem? (i := 388) (by decide +kernel)) rfl
theorem w_im_yX2_back : Cond.instanceMethod yX2_back ∈ wAll := wAll_of (List.mem_of_getElem? (i := 390) (by decide +kernel)) rfl
theorem w_co_yX2_back : Cond.code yX2_back cX2_back 5 none ∈ wAll := wAll_of (List.mem_of_getElem? (i := 391) (by rfl)) rfl
theorem w_m_X2_96 : Cond.methodLink RX2 96 yX2_flag ∈ wAll := wAll_of (List.mem_of_getElem? (i := 392) (by decide +kernel)) rfl
theorem w_im_yX2_flag : Cond.instanceMethod yX2_flag ∈ wAll := wAll_of (List.mem_of_getElem? (i := 394) (by decide +kernel)) rfl
theorem w_co_yX2_flag : Cond.code yX2_flag cX2_flag 2 none ∈ wAll := wAll_of (List.mem_of_getElem? (i := 395) (by rfl)) rfl
theorem w_m_X2_105 : Cond.methodLink RX2 105 yX2_doTwo ∈ wAll := wAll_of (List.mem_of_getElem? (i := 396) (by decide +kernel)) rfl
theorem w_im_yX2_doTwo : Cond.instanceMethod yX2_doTwo ∈ wAll := wAll_of (List.mem_of_getElem? (i := 398) (by decide +kernel)) rfl
theorem w_co_yX2_doTwo : Cond.code yX2_doTwo cX2_doTwo 8 none ∈ wAll := wAll_of (List.mem_of_getElem? (i := 399) (by rfl)) rfl
theorem w_m_X2_63 : Cond.methodLink RX2 63 yX2_two ∈ wAll := wAll_of (List.mem_of_getElem? (i := 400) (by decide +kernel)) rfl
theorem w_im_yX2_two : Cond.instanceMethod yX2_two ∈ wAll := wAll_of (List.mem_of_getElem? (i := 402) (by decide +kernel)) rfl
theorem w_co_yX2_two : Cond.code yX2_two cX2_two 10 (some .int) ∈ wAll := wAll_of (List.mem_of_getElem? (i := 403) (by rfl)) rfl
theorem w_m_L_43 : Cond.methodLink RL 43 yX2_run ∈ wAll := wAll_of (List.mem_of_getElem? (i := 404) (by decide +kernel)) rfl
theorem w_im_yX2_run : Cond.instanceMethod yX2_run ∈ wAll := wAll_of (List.mem_of_getElem? (i := 405) (by decide +kernel)) rfl
theorem w_sel_yX2_run : Cond.selects RX2 yX2_run yX2_run ∈ wAll := wAll_of (List.mem_of_getElem? (i := 406) (by decide +kernel)) rfl
theorem w_co_yX2_run : Cond.code yX2_run cX2_run 3 (some .int) ∈ wAll := wAll_of (List.mem_of_getElem? (i := 407) (by rfl)) rfl
theorem w_m_X2_108 : Cond.methodLink RX2 108 yX2_step ∈ wAll := wAll_of (List.mem_of_getElem? (i := 408) (by decide +kernel)) rfl
theorem w_sel_yX0_packed : Cond.selects RX0 yX0_packed yX0_packed ∈ wAll := wAll_ps (List.mem_of_getElem? (i := 0) (by decide +kernel)) rfl
theorem w_sel_yX1_doInstruction : Cond.selects RX1 yX1_doInstruction yX1_doInstruction ∈ wAll := wAll_ps (List.mem_of_getElem? (i := 1) (by decide +kernel)) rfl
theorem w_sel_yX1_stepUp : Cond.selects RX1 yX1_stepUp yX1_stepUp ∈ wAll := wAll_ps (List.mem_of_getElem? (i := 2) (by decide +kernel)) rfl
theorem w_sel_yX1_readWord : Cond.selects RX1 yX1_readWord yX1_readWord ∈ wAll := wAll_ps (List.mem_of_getElem? (i := 3) (by decide +kernel)) rfl
theorem w_sel_yX1_perform : Cond.selects RX1 yX1_perform yX1_perform ∈ wAll := wAll_ps (List.mem_of_getElem? (i := 4) (by decide +kernel)) rfl
theorem w_sel_yX1_doTwoOperands : Cond.selects RX1 yX1_doTwoOperands yX1_doTwoOperands ∈ wAll := wAll_ps (List.mem_of_getElem? (i := 5) (by decide +kernel)) rfl
theorem w_sel_yX1_readOperand : Cond.selects RX1 yX1_readOperand yX1_readOperand ∈ wAll := wAll_ps (List.mem_of_getElem? (i := 6) (by decide +kernel)) rfl
theorem w_sel_yX1_findAddress : Cond.selects RX1 yX1_findAddress yX1_findAddress ∈ wAll := wAll_ps (List.mem_of_getElem? (i := 7) (by decide +kernel)) rfl
theorem w_sel_yX1_stepDown : Cond.selects RX1 yX1_stepDown yX1_stepDown ∈ wAll := wAll_ps (List.mem_of_getElem? (i := 8) (by decide +kernel)) rfl
theorem w_sel_yX1_readByte : Cond.selects RX1 yX1_readByte yX1_readByte ∈ wAll := wAll_ps (List.mem_of_getElem? (i := 9) (by decide +kernel)) rfl
theorem w_sel_yX0_takeWidth : Cond.selects RX0 yX0_takeWidth yX0_takeWidth ∈ wAll := wAll_ps (List.mem_of_getElem? (i := 10) (by decide +kernel)) rfl
theorem w_sel_yX0_ofTwo : Cond.selects RX0 yX0_ofTwo yX0_ofTwo ∈ wAll := wAll_ps (List.mem_of_getElem? (i := 11) (by decide +kernel)) rfl
theorem w_sel_yX0_logical : Cond.selects RX0 yX0_logical yX0_logical ∈ wAll := wAll_ps (List.mem_of_getElem? (i := 12) (by decide +kernel)) rfl
theorem w_sel_yX0_settled : Cond.selects RX0 yX0_settled yX0_settled ∈ wAll := wAll_ps (List.mem_of_getElem? (i := 13) (by decide +kernel)) rfl
theorem w_sel_yX0_difference : Cond.selects RX0 yX0_difference yX0_difference ∈ wAll := wAll_ps (List.mem_of_getElem? (i := 14) (by decide +kernel)) rfl
theorem w_sel_yX0_sum : Cond.selects RX0 yX0_sum yX0_sum ∈ wAll := wAll_ps (List.mem_of_getElem? (i := 15) (by decide +kernel)) rfl
theorem w_sel_yX1_putSigned : Cond.selects RX1 yX1_putSigned yX1_putSigned ∈ wAll := wAll_ps (List.mem_of_getElem? (i := 16) (by decide +kernel)) rfl
theorem w_sel_yX1_putResult : Cond.selects RX1 yX1_putResult yX1_putResult ∈ wAll := wAll_ps (List.mem_of_getElem? (i := 17) (by decide +kernel)) rfl
theorem w_sel_yX1_doOneOperand : Cond.selects RX1 yX1_doOneOperand yX1_doOneOperand ∈ wAll := wAll_ps (List.mem_of_getElem? (i := 18) (by decide +kernel)) rfl
theorem w_sel_yX0_ofShift : Cond.selects RX0 yX0_ofShift yX0_ofShift ∈ wAll := wAll_ps (List.mem_of_getElem? (i := 19) (by decide +kernel)) rfl
theorem w_sel_yX0_shifted : Cond.selects RX0 yX0_shifted yX0_shifted ∈ wAll := wAll_ps (List.mem_of_getElem? (i := 20) (by decide +kernel)) rfl
theorem w_sel_yX0_ofOne : Cond.selects RX0 yX0_ofOne yX0_ofOne ∈ wAll := wAll_ps (List.mem_of_getElem? (i := 21) (by decide +kernel)) rfl
theorem w_sel_yX0_swapped : Cond.selects RX0 yX0_swapped yX0_swapped ∈ wAll := wAll_ps (List.mem_of_getElem? (i := 22) (by decide +kernel)) rfl
theorem w_sel_yX1_doBranch : Cond.selects RX1 yX1_doBranch yX1_doBranch ∈ wAll := wAll_ps (List.mem_of_getElem? (i := 23) (by decide +kernel)) rfl
theorem w_sel_yX0_allows : Cond.selects RX0 yX0_allows yX0_allows ∈ wAll := wAll_ps (List.mem_of_getElem? (i := 24) (by decide +kernel)) rfl
theorem w_sel_yX1_doSubtractAndBranch : Cond.selects RX1 yX1_doSubtractAndBranch yX1_doSubtractAndBranch ∈ wAll := wAll_ps (List.mem_of_getElem? (i := 25) (by decide +kernel)) rfl
theorem w_sel_yX1_doJump : Cond.selects RX1 yX1_doJump yX1_doJump ∈ wAll := wAll_ps (List.mem_of_getElem? (i := 26) (by decide +kernel)) rfl
theorem w_sel_yX1_findTarget : Cond.selects RX1 yX1_findTarget yX1_findTarget ∈ wAll := wAll_ps (List.mem_of_getElem? (i := 27) (by decide +kernel)) rfl
theorem w_sel_yX1_doJumpToSubroutine : Cond.selects RX1 yX1_doJumpToSubroutine yX1_doJumpToSubroutine ∈ wAll := wAll_ps (List.mem_of_getElem? (i := 28) (by decide +kernel)) rfl
theorem w_sel_yX1_doReturn : Cond.selects RX1 yX1_doReturn yX1_doReturn ∈ wAll := wAll_ps (List.mem_of_getElem? (i := 29) (by decide +kernel)) rfl
theorem w_sel_yX1_doFlags : Cond.selects RX1 yX1_doFlags yX1_doFlags ∈ wAll := wAll_ps (List.mem_of_getElem? (i := 30) (by decide +kernel)) rfl
theorem w_sel_yX0_change : Cond.selects RX0 yX0_change yX0_change ∈ wAll := wAll_ps (List.mem_of_getElem? (i := 31) (by decide +kernel)) rfl
theorem w_sel_yX2_following : Cond.selects RX2 yX2_following yX2_following ∈ wAll := wAll_ps (List.mem_of_getElem? (i := 32) (by decide +kernel)) rfl
theorem w_sel_yX2_add : Cond.selects RX2 yX2_add yX2_add ∈ wAll := wAll_ps (List.mem_of_getElem? (i := 33) (by decide +kernel)) rfl
theorem w_sel_yX2_word : Cond.selects RX2 yX2_word yX2_word ∈ wAll := wAll_ps (List.mem_of_getElem? (i := 34) (by decide +kernel)) rfl
theorem w_sel_yX2_count : Cond.selects RX2 yX2_count yX2_count ∈ wAll := wAll_ps (List.mem_of_getElem? (i := 35) (by decide +kernel)) rfl
theorem w_sel_yX2_doOther : Cond.selects RX2 yX2_doOther yX2_doOther ∈ wAll := wAll_ps (List.mem_of_getElem? (i := 36) (by decide +kernel)) rfl
theorem w_sel_yX2_branch : Cond.selects RX2 yX2_branch yX2_branch ∈ wAll := wAll_ps (List.mem_of_getElem? (i := 37) (by decide +kernel)) rfl
theorem w_sel_yX2_isTrue : Cond.selects RX2 yX2_isTrue yX2_isTrue ∈ wAll := wAll_ps (List.mem_of_getElem? (i := 38) (by decide +kernel)) rfl
theorem w_sel_yX2_doOne : Cond.selects RX2 yX2_doOne yX2_doOne ∈ wAll := wAll_ps (List.mem_of_getElem? (i := 39) (by decide +kernel)) rfl
theorem w_sel_yX2_find : Cond.selects RX2 yX2_find yX2_find ∈ wAll := wAll_ps (List.mem_of_getElem? (i := 40) (by decide +kernel)) rfl
theorem w_sel_yX2_read : Cond.selects RX2 yX2_read yX2_read ∈ wAll := wAll_ps (List.mem_of_getElem? (i := 41) (by decide +kernel)) rfl
theorem w_sel_yX2_octet : Cond.selects RX2 yX2_octet yX2_octet ∈ wAll := wAll_ps (List.mem_of_getElem? (i := 42) (by decide +kernel)) rfl
theorem w_sel_yX2_tell : Cond.selects RX2 yX2_tell yX2_tell ∈ wAll := wAll_ps (List.mem_of_getElem? (i := 43) (by decide +kernel)) rfl
theorem w_sel_yX2_one : Cond.selects RX2 yX2_one yX2_one ∈ wAll := wAll_ps (List.mem_of_getElem? (i := 44) (by decide +kernel)) rfl
theorem w_sel_yX2_moved : Cond.selects RX2 yX2_moved yX2_moved ∈ wAll := wAll_ps (List.mem_of_getElem? (i := 45) (by decide +kernel)) rfl
theorem w_sel_yX2_put : Cond.selects RX2 yX2_put yX2_put ∈ wAll := wAll_ps (List.mem_of_getElem? (i := 46) (by decide +kernel)) rfl
theorem w_sel_yX2_jump : Cond.selects RX2 yX2_jump yX2_jump ∈ wAll := wAll_ps (List.mem_of_getElem? (i := 47) (by decide +kernel)) rfl
theorem w_sel_yX2_back : Cond.selects RX2 yX2_back yX2_back ∈ wAll := wAll_ps (List.mem_of_getElem? (i := 48) (by decide +kernel)) rfl
theorem w_sel_yX2_flag : Cond.selects RX2 yX2_flag yX2_flag ∈ wAll := wAll_ps (List.mem_of_getElem? (i := 49) (by decide +kernel)) rfl
theorem w_sel_yX2_doTwo : Cond.selects RX2 yX2_doTwo yX2_doTwo ∈ wAll := wAll_ps (List.mem_of_getElem? (i := 50) (by decide +kernel)) rfl
theorem w_sel_yX2_two : Cond.selects RX2 yX2_two yX2_two ∈ wAll := wAll_ps (List.mem_of_getElem? (i := 51) (by decide +kernel)) rfl
theorem w_flX0 : ∀ w ∈ u_ws RX0 TX0 6, w ∈ wAll := by decide +kernel
theorem w_flX1 : ∀ w ∈ u_ws RX1 TX1 7, w ∈ wAll := by decide +kernel
theorem w_flX2 : ∀ w ∈ u_ws RX2 TX2 7, w ∈ wAll := by decide +kernel
end
section
theorem dX0_init_0 : decode cX0_init 0 = .ok (.aload_n 0, 1) := by decide +kernel
theorem dX0_init_1 : decode cX0_init 1 = .ok (.invokespecial 3, 3) := by decide +kernel
theorem dX0_init_4 : decode cX0_init 4 = .ok (.aload_n 0, 1) := by decide +kernel
theorem dX0_init_5 : decode cX0_init 5 = .ok (.iconst 0, 1) := by decide +kernel
theorem dX0_init_6 : decode cX0_init 6 = .ok (.putfield 9, 3) := by decide +kernel
theorem dX0_init_9 : decode cX0_init 9 = .ok (.aload_n 0, 1) := by decide +kernel
theorem dX0_init_10 : decode cX0_init 10 = .ok (.iconst 0, 1) := by decide +kernel
theorem dX0_init_11 : decode cX0_init 11 = .ok (.putfield 15, 3) := by decide +kernel
theorem dX0_init_14 : decode cX0_init 14 = .ok (.aload_n 0, 1) := by decide +kernel
theorem dX0_init_15 : decode cX0_init 15 = .ok (.iconst 0, 1) := by decide +kernel
theorem dX0_init_16 : decode cX0_init 16 = .ok (.putfield 18, 3) := by decide +kernel
theorem dX0_init_19 : decode cX0_init 19 = .ok (.aload_n 0, 1) := by decide +kernel
theorem dX0_init_20 : decode cX0_init 20 = .ok (.iconst 0, 1) := by decide +kernel
theorem dX0_init_21 : decode cX0_init 21 = .ok (.putfield 21, 3) := by decide +kernel
theorem dX0_init_24 : decode cX0_init 24 = .ok (.aload_n 0, 1) := by decide +kernel
theorem dX0_init_25 : decode cX0_init 25 = .ok (.ldc 24, 2) := by decide +kernel
theorem dX0_init_27 : decode cX0_init 27 = .ok (.putfield 25, 3) := by decide +kernel
theorem dX0_init_30 : decode cX0_init 30 = .ok (.aload_n 0, 1) := by decide +kernel
theorem dX0_init_31 : decode cX0_init 31 = .ok (.ldc 29, 2) := by decide +kernel
theorem dX0_init_33 : decode cX0_init 33 = .ok (.putfield 30, 3) := by decide +kernel
theorem dX0_init_36 : decode cX0_init 36 = .ok (.return_, 1) := by decide +kernel
theorem dX0_packed_0 : decode cX0_packed 0 = .ok (.aload_n 0, 1) := by decide +kernel
theorem dX0_packed_1 : decode cX0_packed 1 = .ok (.getfield 9, 3) := by decide +kernel
theorem dX0_packed_4 : decode cX0_packed 4 = .ok (.ifCond .eq 8, 3) := by decide +kernel
theorem dX0_packed_7 : decode cX0_packed 7 = .ok (.bipush 8, 2) := by decide +kernel
theorem dX0_packed_9 : decode cX0_packed 9 = .ok (.goto 4, 3) := by decide +kernel
theorem dX0_packed_12 : decode cX0_packed 12 = .ok (.iconst 0, 1) := by decide +kernel
theorem dX0_packed_13 : decode cX0_packed 13 = .ok (.aload_n 0, 1) := by decide +kernel
theorem dX0_packed_14 : decode cX0_packed 14 = .ok (.getfield 15, 3) := by decide +kernel
theorem dX0_packed_17 : decode cX0_packed 17 = .ok (.ifCond .eq 7, 3) := by decide +kernel
theorem dX0_packed_20 : decode cX0_packed 20 = .ok (.iconst 4, 1) := by decide +kernel
theorem dX0_packed_21 : decode cX0_packed 21 = .ok (.goto 4, 3) := by decide +kernel
theorem dX0_packed_24 : decode cX0_packed 24 = .ok (.iconst 0, 1) := by decide +kernel
theorem dX0_packed_25 : decode cX0_packed 25 = .ok (.ior, 1) := by decide +kernel
theorem dX0_packed_26 : decode cX0_packed 26 = .ok (.aload_n 0, 1) := by decide +kernel
theorem dX0_packed_27 : decode cX0_packed 27 = .ok (.getfield 18, 3) := by decide +kernel
theorem dX0_packed_30 : decode cX0_packed 30 = .ok (.ifCond .eq 7, 3) := by decide +kernel
theorem dX0_packed_33 : decode cX0_packed 33 = .ok (.iconst 2, 1) := by decide +kernel
theorem dX0_packed_34 : decode cX0_packed 34 = .ok (.goto 4, 3) := by decide +kernel
theorem dX0_packed_37 : decode cX0_packed 37 = .ok (.iconst 0, 1) := by decide +kernel
theorem dX0_packed_38 : decode cX0_packed 38 = .ok (.ior, 1) := by decide +kernel
theorem dX0_packed_39 : decode cX0_packed 39 = .ok (.aload_n 0, 1) := by decide +kernel
theorem dX0_packed_40 : decode cX0_packed 40 = .ok (.getfield 21, 3) := by decide +kernel
theorem dX0_packed_43 : decode cX0_packed 43 = .ok (.ifCond .eq 7, 3) := by decide +kernel
theorem dX0_packed_46 : decode cX0_packed 46 = .ok (.iconst 1, 1) := by decide +kernel
theorem dX0_packed_47 : decode cX0_packed 47 = .ok (.goto 4, 3) := by decide +kernel
theorem dX0_packed_50 : decode cX0_packed 50 = .ok (.iconst 0, 1) := by decide +kernel
theorem dX0_packed_51 : decode cX0_packed 51 = .ok (.ior, 1) := by decide +kernel
theorem dX0_packed_52 : decode cX0_packed 52 = .ok (.ireturn, 1) := by decide +kernel
theorem dX0_takeWidth_0 : decode cX0_takeWidth 0 = .ok (.aload_n 0, 1) := by decide +kernel
theorem dX0_takeWidth_1 : decode cX0_takeWidth 1 = .ok (.iload_n 1, 1) := by decide +kernel
theorem dX0_takeWidth_2 : decode cX0_takeWidth 2 = .ok (.ifCond .eq 9, 3) := by decide +kernel
theorem dX0_takeWidth_5 : decode cX0_takeWidth 5 = .ok (.sipush 255, 3) := by decide +kernel
theorem dX0_takeWidth_8 : decode cX0_takeWidth 8 = .ok (.goto 5, 3) := by decide +kernel
theorem dX0_takeWidth_11 : decode cX0_takeWidth 11 = .ok (.ldc 24, 2) := by decide +kernel
theorem dX0_takeWidth_13 : decode cX0_takeWidth 13 = .ok (.putfield 25, 3) := by decide +kernel
theorem dX0_takeWidth_16 : decode cX0_takeWidth 16 = .ok (.aload_n 0, 1) := by decide +kernel
theorem dX0_takeWidth_17 : decode cX0_takeWidth 17 = .ok (.iload_n 1, 1) := by decide +kernel
theorem dX0_takeWidth_18 : decode cX0_takeWidth 18 = .ok (.ifCond .eq 9, 3) := by decide +kernel
theorem dX0_takeWidth_21 : decode cX0_takeWidth 21 = .ok (.sipush 128, 3) := by decide +kernel
theorem dX0_takeWidth_24 : decode cX0_takeWidth 24 = .ok (.goto 5, 3) := by decide +kernel
theorem dX0_takeWidth_27 : decode cX0_takeWidth 27 = .ok (.ldc 29, 2) := by decide +kernel
theorem dX0_takeWidth_29 : decode cX0_takeWidth 29 = .ok (.putfield 30, 3) := by decide +kernel
theorem dX0_takeWidth_32 : decode cX0_takeWidth 32 = .ok (.return_, 1) := by decide +kernel
theorem dX0_ofTwo_0 : decode cX0_ofTwo 0 = .ok (.iload_n 1, 1) := by decide +kernel
theorem dX0_ofTwo_1 : decode cX0_ofTwo 1 = .ok (.tableswitch 85 1 6 #[39, 45, 52, 60, 70, 78], 39) := by decide +kernel
theorem dX0_ofTwo_40 : decode cX0_ofTwo 40 = .ok (.aload_n 0, 1) := by decide +kernel
theorem dX0_ofTwo_41 : decode cX0_ofTwo 41 = .ok (.iload_n 2, 1) := by decide +kernel
theorem dX0_ofTwo_42 : decode cX0_ofTwo 42 = .ok (.invokevirtual 33, 3) := by decide +kernel
theorem dX0_ofTwo_45 : decode cX0_ofTwo 45 = .ok (.ireturn, 1) := by decide +kernel
theorem dX0_ofTwo_46 : decode cX0_ofTwo 46 = .ok (.aload_n 0, 1) := by decide +kernel
theorem dX0_ofTwo_47 : decode cX0_ofTwo 47 = .ok (.iload_n 2, 1) := by decide +kernel
theorem dX0_ofTwo_48 : decode cX0_ofTwo 48 = .ok (.iload_n 3, 1) := by decide +kernel
theorem dX0_ofTwo_49 : decode cX0_ofTwo 49 = .ok (.invokevirtual 37, 3) := by decide +kernel
theorem dX0_ofTwo_52 : decode cX0_ofTwo 52 = .ok (.ireturn, 1) := by decide +kernel
theorem dX0_ofTwo_53 : decode cX0_ofTwo 53 = .ok (.aload_n 0, 1) := by decide +kernel
theorem dX0_ofTwo_54 : decode cX0_ofTwo 54 = .ok (.iload_n 2, 1) := by decide +kernel
theorem dX0_ofTwo_55 : decode cX0_ofTwo 55 = .ok (.iload_n 3, 1) := by decide +kernel
theorem dX0_ofTwo_56 : decode cX0_ofTwo 56 = .ok (.iand, 1) := by decide +kernel
theorem dX0_ofTwo_57 : decode cX0_ofTwo 57 = .ok (.invokevirtual 33, 3) := by decide +kernel
theorem dX0_ofTwo_60 : decode cX0_ofTwo 60 = .ok (.ireturn, 1) := by decide +kernel
theorem dX0_ofTwo_61 : decode cX0_ofTwo 61 = .ok (.aload_n 0, 1) := by decide +kernel
theorem dX0_ofTwo_62 : decode cX0_ofTwo 62 = .ok (.iload_n 3, 1) := by decide +kernel
theorem dX0_ofTwo_63 : decode cX0_ofTwo 63 = .ok (.iload_n 2, 1) := by decide +kernel
theorem dX0_ofTwo_64 : decode cX0_ofTwo 64 = .ok (.iconst (-1), 1) := by decide +kernel
theorem dX0_ofTwo_65 : decode cX0_ofTwo 65 = .ok (.ixor, 1) := by decide +kernel
theorem dX0_ofTwo_66 : decode cX0_ofTwo 66 = .ok (.iand, 1) := by decide +kernel
theorem dX0_ofTwo_67 : decode cX0_ofTwo 67 = .ok (.invokevirtual 33, 3) := by decide +kernel
theorem dX0_ofTwo_70 : decode cX0_ofTwo 70 = .ok (.ireturn, 1) := by decide +kernel
theorem dX0_ofTwo_71 : decode cX0_ofTwo 71 = .ok (.aload_n 0, 1) := by decide +kernel
theorem dX0_ofTwo_72 : decode cX0_ofTwo 72 = .ok (.iload_n 2, 1) := by decide +kernel
theorem dX0_ofTwo_73 : decode cX0_ofTwo 73 = .ok (.iload_n 3, 1) := by decide +kernel
theorem dX0_ofTwo_74 : decode cX0_ofTwo 74 = .ok (.ior, 1) := by decide +kernel
theorem dX0_ofTwo_75 : decode cX0_ofTwo 75 = .ok (.invokevirtual 33, 3) := by decide +kernel
theorem dX0_ofTwo_78 : decode cX0_ofTwo 78 = .ok (.ireturn, 1) := by decide +kernel
theorem dX0_ofTwo_79 : decode cX0_ofTwo 79 = .ok (.aload_n 0, 1) := by decide +kernel
theorem dX0_ofTwo_80 : decode cX0_ofTwo 80 = .ok (.iload_n 2, 1) := by decide +kernel
theorem dX0_ofTwo_81 : decode cX0_ofTwo 81 = .ok (.iload_n 3, 1) := by decide +kernel
theorem dX0_ofTwo_82 : decode cX0_ofTwo 82 = .ok (.invokevirtual 41, 3) := by decide +kernel
theorem dX0_ofTwo_85 : decode cX0_ofTwo 85 = .ok (.ireturn, 1) := by decide +kernel
theorem dX0_ofTwo_86 : decode cX0_ofTwo 86 = .ok (.aload_n 0, 1) := by decide +kernel
theorem dX0_ofTwo_87 : decode cX0_ofTwo 87 = .ok (.iload_n 3, 1) := by decide +kernel
theorem dX0_ofTwo_88 : decode cX0_ofTwo 88 = .ok (.iload_n 2, 1) := by decide +kernel
theorem dX0_ofTwo_89 : decode cX0_ofTwo 89 = .ok (.invokevirtual 37, 3) := by decide +kernel
theorem dX0_ofTwo_92 : decode cX0_ofTwo 92 = .ok (.ireturn, 1) := by decide +kernel
theorem dX0_logical_0 : decode cX0_logical 0 = .ok (.aload_n 0, 1) := by decide +kernel
theorem dX0_logical_1 : decode cX0_logical 1 = .ok (.iload_n 1, 1) := by decide +kernel
theorem dX0_logical_2 : decode cX0_logical 2 = .ok (.iconst 0, 1) := by decide +kernel
theorem dX0_logical_3 : decode cX0_logical 3 = .ok (.aload_n 0, 1) := by decide +kernel
theorem dX0_logical_4 : decode cX0_logical 4 = .ok (.getfield 21, 3) := by decide +kernel
theorem dX0_logical_7 : decode cX0_logical 7 = .ok (.invokevirtual 44, 3) := by decide +kernel
theorem dX0_logical_10 : decode cX0_logical 10 = .ok (.ireturn, 1) := by decide +kernel
theorem dX0_settled_0 : decode cX0_settled 0 = .ok (.iload_n 1, 1) := by decide +kernel
theorem dX0_settled_1 : decode cX0_settled 1 = .ok (.aload_n 0, 1) := by decide +kernel
theorem dX0_settled_2 : decode cX0_settled 2 = .ok (.getfield 25, 3) := by decide +kernel
theorem dX0_settled_5 : decode cX0_settled 5 = .ok (.iand, 1) := by decide +kernel
theorem dX0_settled_6 : decode cX0_settled 6 = .ok (.istore 4, 2) := by decide +kernel
theorem dX0_settled_8 : decode cX0_settled 8 = .ok (.aload_n 0, 1) := by decide +kernel
theorem dX0_settled_9 : decode cX0_settled 9 = .ok (.iload 4, 2) := by decide +kernel
theorem dX0_settled_11 : decode cX0_settled 11 = .ok (.aload_n 0, 1) := by decide +kernel
theorem dX0_settled_12 : decode cX0_settled 12 = .ok (.getfield 30, 3) := by decide +kernel
theorem dX0_settled_15 : decode cX0_settled 15 = .ok (.iand, 1) := by decide +kernel
theorem dX0_settled_16 : decode cX0_settled 16 = .ok (.ifCond .eq 7, 3) := by decide +kernel
theorem dX0_settled_19 : decode cX0_settled 19 = .ok (.iconst 1, 1) := by decide +kernel
theorem dX0_settled_20 : decode cX0_settled 20 = .ok (.goto 4, 3) := by decide +kernel
theorem dX0_settled_23 : decode cX0_settled 23 = .ok (.iconst 0, 1) := by decide +kernel
theorem dX0_settled_24 : decode cX0_settled 24 = .ok (.putfield 9, 3) := by decide +kernel
theorem dX0_settled_27 : decode cX0_settled 27 = .ok (.aload_n 0, 1) := by decide +kernel
theorem dX0_settled_28 : decode cX0_settled 28 = .ok (.iload 4, 2) := by decide +kernel
theorem dX0_settled_30 : decode cX0_settled 30 = .ok (.ifCond .ne 7, 3) := by decide +kernel
theorem dX0_settled_33 : decode cX0_settled 33 = .ok (.iconst 1, 1) := by decide +kernel
theorem dX0_settled_34 : decode cX0_settled 34 = .ok (.goto 4, 3) := by decide +kernel
theorem dX0_settled_37 : decode cX0_settled 37 = .ok (.iconst 0, 1) := by decide +kernel
theorem dX0_settled_38 : decode cX0_settled 38 = .ok (.putfield 15, 3) := by decide +kernel
theorem dX0_settled_41 : decode cX0_settled 41 = .ok (.aload_n 0, 1) := by decide +kernel
theorem dX0_settled_42 : decode cX0_settled 42 = .ok (.iload_n 2, 1) := by decide +kernel
theorem dX0_settled_43 : decode cX0_settled 43 = .ok (.putfield 18, 3) := by decide +kernel
theorem dX0_settled_46 : decode cX0_settled 46 = .ok (.aload_n 0, 1) := by decide +kernel
theorem dX0_settled_47 : decode cX0_settled 47 = .ok (.iload_n 3, 1) := by decide +kernel
theorem dX0_settled_48 : decode cX0_settled 48 = .ok (.putfield 21, 3) := by decide +kernel
theorem dX0_settled_51 : decode cX0_settled 51 = .ok (.iload 4, 2) := by decide +kernel
theorem dX0_settled_53 : decode cX0_settled 53 = .ok (.ireturn, 1) := by decide +kernel
theorem dX0_difference_0 : decode cX0_difference 0 = .ok (.iload_n 1, 1) := by decide +kernel
theorem dX0_difference_1 : decode cX0_difference 1 = .ok (.iload_n 2, 1) := by decide +kernel
theorem dX0_difference_2 : decode cX0_difference 2 = .ok (.isub, 1) := by decide +kernel
theorem dX0_difference_3 : decode cX0_difference 3 = .ok (.istore_n 3, 1) := by decide +kernel
theorem dX0_difference_4 : decode cX0_difference 4 = .ok (.iload_n 1, 1) := by decide +kernel
theorem dX0_difference_5 : decode cX0_difference 5 = .ok (.aload_n 0, 1) := by decide +kernel
theorem dX0_difference_6 : decode cX0_difference 6 = .ok (.getfield 30, 3) := by decide +kernel
theorem dX0_difference_9 : decode cX0_difference 9 = .ok (.iand, 1) := by decide +kernel
theorem dX0_difference_10 : decode cX0_difference 10 = .ok (.iload_n 2, 1) := by decide +kernel
theorem dX0_difference_11 : decode cX0_difference 11 = .ok (.aload_n 0, 1) := by decide +kernel
theorem dX0_difference_12 : decode cX0_difference 12 = .ok (.getfield 30, 3) := by decide +kernel
theorem dX0_difference_15 : decode cX0_difference 15 = .ok (.iand, 1) := by decide +kernel
theorem dX0_difference_16 : decode cX0_difference 16 = .ok (.if_icmp .eq 22, 3) := by decide +kernel
theorem dX0_difference_19 : decode cX0_difference 19 = .ok (.iload_n 3, 1) := by decide +kernel
theorem dX0_difference_20 : decode cX0_difference 20 = .ok (.aload_n 0, 1) := by decide +kernel
theorem dX0_difference_21 : decode cX0_difference 21 = .ok (.getfield 30, 3) := by decide +kernel
theorem dX0_difference_24 : decode cX0_difference 24 = .ok (.iand, 1) := by decide +kernel
theorem dX0_difference_25 : decode cX0_difference 25 = .ok (.iload_n 2, 1) := by decide +kernel
theorem dX0_difference_26 : decode cX0_difference 26 = .ok (.aload_n 0, 1) := by decide +kernel
theorem dX0_difference_27 : decode cX0_difference 27 = .ok (.getfield 30, 3) := by decide +kernel
theorem dX0_difference_30 : decode cX0_difference 30 = .ok (.iand, 1) := by decide +kernel
theorem dX0_difference_31 : decode cX0_difference 31 = .ok (.if_icmp .ne 7, 3) := by decide +kernel
theorem dX0_difference_34 : decode cX0_difference 34 = .ok (.iconst 1, 1) := by decide +kernel
theorem dX0_difference_35 : decode cX0_difference 35 = .ok (.goto 4, 3) := by decide +kernel
theorem dX0_difference_38 : decode cX0_difference 38 = .ok (.iconst 0, 1) := by decide +kernel
theorem dX0_difference_39 : decode cX0_difference 39 = .ok (.istore 4, 2) := by decide +kernel
theorem dX0_difference_41 : decode cX0_difference 41 = .ok (.aload_n 0, 1) := by decide +kernel
theorem dX0_difference_42 : decode cX0_difference 42 = .ok (.iload_n 3, 1) := by decide +kernel
theorem dX0_difference_43 : decode cX0_difference 43 = .ok (.iload 4, 2) := by decide +kernel
theorem dX0_difference_45 : decode cX0_difference 45 = .ok (.iload_n 1, 1) := by decide +kernel
theorem dX0_difference_46 : decode cX0_difference 46 = .ok (.iload_n 2, 1) := by decide +kernel
theorem dX0_difference_47 : decode cX0_difference 47 = .ok (.if_icmp .ge 7, 3) := by decide +kernel
theorem dX0_difference_50 : decode cX0_difference 50 = .ok (.iconst 1, 1) := by decide +kernel
theorem dX0_difference_51 : decode cX0_difference 51 = .ok (.goto 4, 3) := by decide +kernel
theorem dX0_difference_54 : decode cX0_difference 54 = .ok (.iconst 0, 1) := by decide +kernel
theorem dX0_difference_55 : decode cX0_difference 55 = .ok (.invokevirtual 44, 3) := by decide +kernel
theorem dX0_difference_58 : decode cX0_difference 58 = .ok (.ireturn, 1) := by decide +kernel
theorem dX0_sum_0 : decode cX0_sum 0 = .ok (.iload_n 1, 1) := by decide +kernel
theorem dX0_sum_1 : decode cX0_sum 1 = .ok (.iload_n 2, 1) := by decide +kernel
theorem dX0_sum_2 : decode cX0_sum 2 = .ok (.iadd, 1) := by decide +kernel
theorem dX0_sum_3 : decode cX0_sum 3 = .ok (.istore_n 3, 1) := by decide +kernel
theorem dX0_sum_4 : decode cX0_sum 4 = .ok (.iload_n 1, 1) := by decide +kernel
theorem dX0_sum_5 : decode cX0_sum 5 = .ok (.aload_n 0, 1) := by decide +kernel
theorem dX0_sum_6 : decode cX0_sum 6 = .ok (.getfield 30, 3) := by decide +kernel
theorem dX0_sum_9 : decode cX0_sum 9 = .ok (.iand, 1) := by decide +kernel
theorem dX0_sum_10 : decode cX0_sum 10 = .ok (.iload_n 2, 1) := by decide +kernel
theorem dX0_sum_11 : decode cX0_sum 11 = .ok (.aload_n 0, 1) := by decide +kernel
theorem dX0_sum_12 : decode cX0_sum 12 = .ok (.getfield 30, 3) := by decide +kernel
theorem dX0_sum_15 : decode cX0_sum 15 = .ok (.iand, 1) := by decide +kernel
theorem dX0_sum_16 : decode cX0_sum 16 = .ok (.if_icmp .ne 22, 3) := by decide +kernel
theorem dX0_sum_19 : decode cX0_sum 19 = .ok (.iload_n 3, 1) := by decide +kernel
theorem dX0_sum_20 : decode cX0_sum 20 = .ok (.aload_n 0, 1) := by decide +kernel
theorem dX0_sum_21 : decode cX0_sum 21 = .ok (.getfield 30, 3) := by decide +kernel
theorem dX0_sum_24 : decode cX0_sum 24 = .ok (.iand, 1) := by decide +kernel
theorem dX0_sum_25 : decode cX0_sum 25 = .ok (.iload_n 1, 1) := by decide +kernel
theorem dX0_sum_26 : decode cX0_sum 26 = .ok (.aload_n 0, 1) := by decide +kernel
theorem dX0_sum_27 : decode cX0_sum 27 = .ok (.getfield 30, 3) := by decide +kernel
theorem dX0_sum_30 : decode cX0_sum 30 = .ok (.iand, 1) := by decide +kernel
theorem dX0_sum_31 : decode cX0_sum 31 = .ok (.if_icmp .eq 7, 3) := by decide +kernel
theorem dX0_sum_34 : decode cX0_sum 34 = .ok (.iconst 1, 1) := by decide +kernel
theorem dX0_sum_35 : decode cX0_sum 35 = .ok (.goto 4, 3) := by decide +kernel
theorem dX0_sum_38 : decode cX0_sum 38 = .ok (.iconst 0, 1) := by decide +kernel
theorem dX0_sum_39 : decode cX0_sum 39 = .ok (.istore 4, 2) := by decide +kernel
theorem dX0_sum_41 : decode cX0_sum 41 = .ok (.aload_n 0, 1) := by decide +kernel
theorem dX0_sum_42 : decode cX0_sum 42 = .ok (.iload_n 3, 1) := by decide +kernel
theorem dX0_sum_43 : decode cX0_sum 43 = .ok (.iload 4, 2) := by decide +kernel
theorem dX0_sum_45 : decode cX0_sum 45 = .ok (.iload_n 3, 1) := by decide +kernel
theorem dX0_sum_46 : decode cX0_sum 46 = .ok (.aload_n 0, 1) := by decide +kernel
theorem dX0_sum_47 : decode cX0_sum 47 = .ok (.getfield 25, 3) := by decide +kernel
theorem dX0_sum_50 : decode cX0_sum 50 = .ok (.if_icmp .le 7, 3) := by decide +kernel
theorem dX0_sum_53 : decode cX0_sum 53 = .ok (.iconst 1, 1) := by decide +kernel
theorem dX0_sum_54 : decode cX0_sum 54 = .ok (.goto 4, 3) := by decide +kernel
theorem dX0_sum_57 : decode cX0_sum 57 = .ok (.iconst 0, 1) := by decide +kernel
theorem dX0_sum_58 : decode cX0_sum 58 = .ok (.invokevirtual 44, 3) := by decide +kernel
theorem dX0_sum_61 : decode cX0_sum 61 = .ok (.ireturn, 1) := by decide +kernel
theorem dX0_ofShift_0 : decode cX0_ofShift 0 = .ok (.iload_n 2, 1) := by decide +kernel
theorem dX0_ofShift_1 : decode cX0_ofShift 1 = .ok (.iconst 1, 1) := by decide +kernel
theorem dX0_ofShift_2 : decode cX0_ofShift 2 = .ok (.iand, 1) := by decide +kernel
theorem dX0_ofShift_3 : decode cX0_ofShift 3 = .ok (.ifCond .eq 7, 3) := by decide +kernel
theorem dX0_ofShift_6 : decode cX0_ofShift 6 = .ok (.iconst 1, 1) := by decide +kernel
theorem dX0_ofShift_7 : decode cX0_ofShift 7 = .ok (.goto 4, 3) := by decide +kernel
theorem dX0_ofShift_10 : decode cX0_ofShift 10 = .ok (.iconst 0, 1) := by decide +kernel
theorem dX0_ofShift_11 : decode cX0_ofShift 11 = .ok (.istore_n 3, 1) := by decide +kernel
theorem dX0_ofShift_12 : decode cX0_ofShift 12 = .ok (.iload_n 2, 1) := by decide +kernel
theorem dX0_ofShift_13 : decode cX0_ofShift 13 = .ok (.aload_n 0, 1) := by decide +kernel
theorem dX0_ofShift_14 : decode cX0_ofShift 14 = .ok (.getfield 30, 3) := by decide +kernel
theorem dX0_ofShift_17 : decode cX0_ofShift 17 = .ok (.iand, 1) := by decide +kernel
theorem dX0_ofShift_18 : decode cX0_ofShift 18 = .ok (.ifCond .eq 7, 3) := by decide +kernel
theorem dX0_ofShift_21 : decode cX0_ofShift 21 = .ok (.iconst 1, 1) := by decide +kernel
theorem dX0_ofShift_22 : decode cX0_ofShift 22 = .ok (.goto 4, 3) := by decide +kernel
theorem dX0_ofShift_25 : decode cX0_ofShift 25 = .ok (.iconst 0, 1) := by decide +kernel
theorem dX0_ofShift_26 : decode cX0_ofShift 26 = .ok (.istore 4, 2) := by decide +kernel
theorem dX0_ofShift_28 : decode cX0_ofShift 28 = .ok (.iload_n 1, 1) := by decide +kernel
theorem dX0_ofShift_29 : decode cX0_ofShift 29 = .ok (.tableswitch 91 48 50 #[27, 52, 75], 27) := by decide +kernel
theorem dX0_ofShift_56 : decode cX0_ofShift 56 = .ok (.aload_n 0, 1) := by decide +kernel
theorem dX0_ofShift_57 : decode cX0_ofShift 57 = .ok (.iload_n 2, 1) := by decide +kernel
theorem dX0_ofShift_58 : decode cX0_ofShift 58 = .ok (.iconst 1, 1) := by decide +kernel
theorem dX0_ofShift_59 : decode cX0_ofShift 59 = .ok (.ishr, 1) := by decide +kernel
theorem dX0_ofShift_60 : decode cX0_ofShift 60 = .ok (.aload_n 0, 1) := by decide +kernel
theorem dX0_ofShift_61 : decode cX0_ofShift 61 = .ok (.getfield 21, 3) := by decide +kernel
theorem dX0_ofShift_64 : decode cX0_ofShift 64 = .ok (.ifCond .eq 10, 3) := by decide +kernel
theorem dX0_ofShift_67 : decode cX0_ofShift 67 = .ok (.aload_n 0, 1) := by decide +kernel
theorem dX0_ofShift_68 : decode cX0_ofShift 68 = .ok (.getfield 30, 3) := by decide +kernel
theorem dX0_ofShift_71 : decode cX0_ofShift 71 = .ok (.goto 4, 3) := by decide +kernel
theorem dX0_ofShift_74 : decode cX0_ofShift 74 = .ok (.iconst 0, 1) := by decide +kernel
theorem dX0_ofShift_75 : decode cX0_ofShift 75 = .ok (.ior, 1) := by decide +kernel
theorem dX0_ofShift_76 : decode cX0_ofShift 76 = .ok (.iload_n 3, 1) := by decide +kernel
theorem dX0_ofShift_77 : decode cX0_ofShift 77 = .ok (.invokevirtual 51, 3) := by decide +kernel
theorem dX0_ofShift_80 : decode cX0_ofShift 80 = .ok (.ireturn, 1) := by decide +kernel
theorem dX0_ofShift_81 : decode cX0_ofShift 81 = .ok (.aload_n 0, 1) := by decide +kernel
theorem dX0_ofShift_82 : decode cX0_ofShift 82 = .ok (.iload_n 2, 1) := by decide +kernel
theorem dX0_ofShift_83 : decode cX0_ofShift 83 = .ok (.iconst 1, 1) := by decide +kernel
theorem dX0_ofShift_84 : decode cX0_ofShift 84 = .ok (.ishl, 1) := by decide +kernel
theorem dX0_ofShift_85 : decode cX0_ofShift 85 = .ok (.aload_n 0, 1) := by decide +kernel
theorem dX0_ofShift_86 : decode cX0_ofShift 86 = .ok (.getfield 21, 3) := by decide +kernel
theorem dX0_ofShift_89 : decode cX0_ofShift 89 = .ok (.ifCond .eq 7, 3) := by decide +kernel
theorem dX0_ofShift_92 : decode cX0_ofShift 92 = .ok (.iconst 1, 1) := by decide +kernel
theorem dX0_ofShift_93 : decode cX0_ofShift 93 = .ok (.goto 4, 3) := by decide +kernel
theorem dX0_ofShift_96 : decode cX0_ofShift 96 = .ok (.iconst 0, 1) := by decide +kernel
theorem dX0_ofShift_97 : decode cX0_ofShift 97 = .ok (.ior, 1) := by decide +kernel
theorem dX0_ofShift_98 : decode cX0_ofShift 98 = .ok (.iload 4, 2) := by decide +kernel
theorem dX0_ofShift_100 : decode cX0_ofShift 100 = .ok (.invokevirtual 51, 3) := by decide +kernel
theorem dX0_ofShift_103 : decode cX0_ofShift 103 = .ok (.ireturn, 1) := by decide +kernel
theorem dX0_ofShift_104 : decode cX0_ofShift 104 = .ok (.aload_n 0, 1) := by decide +kernel
theorem dX0_ofShift_105 : decode cX0_ofShift 105 = .ok (.iload_n 2, 1) := by decide +kernel
theorem dX0_ofShift_106 : decode cX0_ofShift 106 = .ok (.iconst 1, 1) := by decide +kernel
theorem dX0_ofShift_107 : decode cX0_ofShift 107 = .ok (.ishr, 1) := by decide +kernel
theorem dX0_ofShift_108 : decode cX0_ofShift 108 = .ok (.iload_n 2, 1) := by decide +kernel
theorem dX0_ofShift_109 : decode cX0_ofShift 109 = .ok (.aload_n 0, 1) := by decide +kernel
theorem dX0_ofShift_110 : decode cX0_ofShift 110 = .ok (.getfield 30, 3) := by decide +kernel
theorem dX0_ofShift_113 : decode cX0_ofShift 113 = .ok (.iand, 1) := by decide +kernel
theorem dX0_ofShift_114 : decode cX0_ofShift 114 = .ok (.ior, 1) := by decide +kernel
theorem dX0_ofShift_115 : decode cX0_ofShift 115 = .ok (.iload_n 3, 1) := by decide +kernel
theorem dX0_ofShift_116 : decode cX0_ofShift 116 = .ok (.invokevirtual 51, 3) := by decide +kernel
theorem dX0_ofShift_119 : decode cX0_ofShift 119 = .ok (.ireturn, 1) := by decide +kernel
theorem dX0_ofShift_120 : decode cX0_ofShift 120 = .ok (.aload_n 0, 1) := by decide +kernel
theorem dX0_ofShift_121 : decode cX0_ofShift 121 = .ok (.iload_n 2, 1) := by decide +kernel
theorem dX0_ofShift_122 : decode cX0_ofShift 122 = .ok (.iconst 1, 1) := by decide +kernel
theorem dX0_ofShift_123 : decode cX0_ofShift 123 = .ok (.ishl, 1) := by decide +kernel
theorem dX0_ofShift_124 : decode cX0_ofShift 124 = .ok (.iload 4, 2) := by decide +kernel
theorem dX0_ofShift_126 : decode cX0_ofShift 126 = .ok (.invokevirtual 51, 3) := by decide +kernel
theorem dX0_ofShift_129 : decode cX0_ofShift 129 = .ok (.ireturn, 1) := by decide +kernel
theorem dX0_shifted_0 : decode cX0_shifted 0 = .ok (.iload_n 1, 1) := by decide +kernel
theorem dX0_shifted_1 : decode cX0_shifted 1 = .ok (.aload_n 0, 1) := by decide +kernel
theorem dX0_shifted_2 : decode cX0_shifted 2 = .ok (.getfield 30, 3) := by decide +kernel
theorem dX0_shifted_5 : decode cX0_shifted 5 = .ok (.iand, 1) := by decide +kernel
theorem dX0_shifted_6 : decode cX0_shifted 6 = .ok (.ifCond .eq 7, 3) := by decide +kernel
theorem dX0_shifted_9 : decode cX0_shifted 9 = .ok (.iconst 1, 1) := by decide +kernel
theorem dX0_shifted_10 : decode cX0_shifted 10 = .ok (.goto 4, 3) := by decide +kernel
theorem dX0_shifted_13 : decode cX0_shifted 13 = .ok (.iconst 0, 1) := by decide +kernel
theorem dX0_shifted_14 : decode cX0_shifted 14 = .ok (.istore_n 3, 1) := by decide +kernel
theorem dX0_shifted_15 : decode cX0_shifted 15 = .ok (.aload_n 0, 1) := by decide +kernel
theorem dX0_shifted_16 : decode cX0_shifted 16 = .ok (.iload_n 1, 1) := by decide +kernel
theorem dX0_shifted_17 : decode cX0_shifted 17 = .ok (.iload_n 3, 1) := by decide +kernel
theorem dX0_shifted_18 : decode cX0_shifted 18 = .ok (.iload_n 2, 1) := by decide +kernel
theorem dX0_shifted_19 : decode cX0_shifted 19 = .ok (.if_icmp .eq 7, 3) := by decide +kernel
theorem dX0_shifted_22 : decode cX0_shifted 22 = .ok (.iconst 1, 1) := by decide +kernel
theorem dX0_shifted_23 : decode cX0_shifted 23 = .ok (.goto 4, 3) := by decide +kernel
theorem dX0_shifted_26 : decode cX0_shifted 26 = .ok (.iconst 0, 1) := by decide +kernel
theorem dX0_shifted_27 : decode cX0_shifted 27 = .ok (.iload_n 2, 1) := by decide +kernel
theorem dX0_shifted_28 : decode cX0_shifted 28 = .ok (.invokevirtual 44, 3) := by decide +kernel
theorem dX0_shifted_31 : decode cX0_shifted 31 = .ok (.ireturn, 1) := by decide +kernel
theorem dX0_ofOne_0 : decode cX0_ofOne 0 = .ok (.iload_n 1, 1) := by decide +kernel
theorem dX0_ofOne_1 : decode cX0_ofOne 1 = .ok (.tableswitch 254 40 47 #[47, 55, 65, 92, 117, 146, 199, 246], 47) := by decide +kernel
theorem dX0_ofOne_48 : decode cX0_ofOne 48 = .ok (.aload_n 0, 1) := by decide +kernel
theorem dX0_ofOne_49 : decode cX0_ofOne 49 = .ok (.iconst 0, 1) := by decide +kernel
theorem dX0_ofOne_50 : decode cX0_ofOne 50 = .ok (.iconst 0, 1) := by decide +kernel
theorem dX0_ofOne_51 : decode cX0_ofOne 51 = .ok (.iconst 0, 1) := by decide +kernel
theorem dX0_ofOne_52 : decode cX0_ofOne 52 = .ok (.invokevirtual 44, 3) := by decide +kernel
theorem dX0_ofOne_55 : decode cX0_ofOne 55 = .ok (.ireturn, 1) := by decide +kernel
theorem dX0_ofOne_56 : decode cX0_ofOne 56 = .ok (.aload_n 0, 1) := by decide +kernel
theorem dX0_ofOne_57 : decode cX0_ofOne 57 = .ok (.iload_n 2, 1) := by decide +kernel
theorem dX0_ofOne_58 : decode cX0_ofOne 58 = .ok (.iconst (-1), 1) := by decide +kernel
theorem dX0_ofOne_59 : decode cX0_ofOne 59 = .ok (.ixor, 1) := by decide +kernel
theorem dX0_ofOne_60 : decode cX0_ofOne 60 = .ok (.iconst 0, 1) := by decide +kernel
theorem dX0_ofOne_61 : decode cX0_ofOne 61 = .ok (.iconst 1, 1) := by decide +kernel
theorem dX0_ofOne_62 : decode cX0_ofOne 62 = .ok (.invokevirtual 44, 3) := by decide +kernel
theorem dX0_ofOne_65 : decode cX0_ofOne 65 = .ok (.ireturn, 1) := by decide +kernel
theorem dX0_ofOne_66 : decode cX0_ofOne 66 = .ok (.aload_n 0, 1) := by decide +kernel
theorem dX0_ofOne_67 : decode cX0_ofOne 67 = .ok (.iload_n 2, 1) := by decide +kernel
theorem dX0_ofOne_68 : decode cX0_ofOne 68 = .ok (.iconst 1, 1) := by decide +kernel
theorem dX0_ofOne_69 : decode cX0_ofOne 69 = .ok (.iadd, 1) := by decide +kernel
theorem dX0_ofOne_70 : decode cX0_ofOne 70 = .ok (.iload_n 2, 1) := by decide +kernel
theorem dX0_ofOne_71 : decode cX0_ofOne 71 = .ok (.iconst 1, 1) := by decide +kernel
theorem dX0_ofOne_72 : decode cX0_ofOne 72 = .ok (.iadd, 1) := by decide +kernel
theorem dX0_ofOne_73 : decode cX0_ofOne 73 = .ok (.aload_n 0, 1) := by decide +kernel
theorem dX0_ofOne_74 : decode cX0_ofOne 74 = .ok (.getfield 30, 3) := by decide +kernel
theorem dX0_ofOne_77 : decode cX0_ofOne 77 = .ok (.if_icmp .ne 7, 3) := by decide +kernel
theorem dX0_ofOne_80 : decode cX0_ofOne 80 = .ok (.iconst 1, 1) := by decide +kernel
theorem dX0_ofOne_81 : decode cX0_ofOne 81 = .ok (.goto 4, 3) := by decide +kernel
theorem dX0_ofOne_84 : decode cX0_ofOne 84 = .ok (.iconst 0, 1) := by decide +kernel
theorem dX0_ofOne_85 : decode cX0_ofOne 85 = .ok (.aload_n 0, 1) := by decide +kernel
theorem dX0_ofOne_86 : decode cX0_ofOne 86 = .ok (.getfield 21, 3) := by decide +kernel
theorem dX0_ofOne_89 : decode cX0_ofOne 89 = .ok (.invokevirtual 44, 3) := by decide +kernel
theorem dX0_ofOne_92 : decode cX0_ofOne 92 = .ok (.ireturn, 1) := by decide +kernel
theorem dX0_ofOne_93 : decode cX0_ofOne 93 = .ok (.aload_n 0, 1) := by decide +kernel
theorem dX0_ofOne_94 : decode cX0_ofOne 94 = .ok (.iload_n 2, 1) := by decide +kernel
theorem dX0_ofOne_95 : decode cX0_ofOne 95 = .ok (.iconst 1, 1) := by decide +kernel
theorem dX0_ofOne_96 : decode cX0_ofOne 96 = .ok (.isub, 1) := by decide +kernel
theorem dX0_ofOne_97 : decode cX0_ofOne 97 = .ok (.iload_n 2, 1) := by decide +kernel
theorem dX0_ofOne_98 : decode cX0_ofOne 98 = .ok (.aload_n 0, 1) := by decide +kernel
theorem dX0_ofOne_99 : decode cX0_ofOne 99 = .ok (.getfield 30, 3) := by decide +kernel
theorem dX0_ofOne_102 : decode cX0_ofOne 102 = .ok (.if_icmp .ne 7, 3) := by decide +kernel
theorem dX0_ofOne_105 : decode cX0_ofOne 105 = .ok (.iconst 1, 1) := by decide +kernel
theorem dX0_ofOne_106 : decode cX0_ofOne 106 = .ok (.goto 4, 3) := by decide +kernel
theorem dX0_ofOne_109 : decode cX0_ofOne 109 = .ok (.iconst 0, 1) := by decide +kernel
theorem dX0_ofOne_110 : decode cX0_ofOne 110 = .ok (.aload_n 0, 1) := by decide +kernel
theorem dX0_ofOne_111 : decode cX0_ofOne 111 = .ok (.getfield 21, 3) := by decide +kernel
theorem dX0_ofOne_114 : decode cX0_ofOne 114 = .ok (.invokevirtual 44, 3) := by decide +kernel
theorem dX0_ofOne_117 : decode cX0_ofOne 117 = .ok (.ireturn, 1) := by decide +kernel
theorem dX0_ofOne_118 : decode cX0_ofOne 118 = .ok (.aload_n 0, 1) := by decide +kernel
theorem dX0_ofOne_119 : decode cX0_ofOne 119 = .ok (.iload_n 2, 1) := by decide +kernel
theorem dX0_ofOne_120 : decode cX0_ofOne 120 = .ok (.ineg, 1) := by decide +kernel
theorem dX0_ofOne_121 : decode cX0_ofOne 121 = .ok (.iload_n 2, 1) := by decide +kernel
theorem dX0_ofOne_122 : decode cX0_ofOne 122 = .ok (.aload_n 0, 1) := by decide +kernel
theorem dX0_ofOne_123 : decode cX0_ofOne 123 = .ok (.getfield 30, 3) := by decide +kernel
theorem dX0_ofOne_126 : decode cX0_ofOne 126 = .ok (.if_icmp .ne 7, 3) := by decide +kernel
theorem dX0_ofOne_129 : decode cX0_ofOne 129 = .ok (.iconst 1, 1) := by decide +kernel
theorem dX0_ofOne_130 : decode cX0_ofOne 130 = .ok (.goto 4, 3) := by decide +kernel
theorem dX0_ofOne_133 : decode cX0_ofOne 133 = .ok (.iconst 0, 1) := by decide +kernel
theorem dX0_ofOne_134 : decode cX0_ofOne 134 = .ok (.iload_n 2, 1) := by decide +kernel
theorem dX0_ofOne_135 : decode cX0_ofOne 135 = .ok (.ifCond .eq 7, 3) := by decide +kernel
theorem dX0_ofOne_138 : decode cX0_ofOne 138 = .ok (.iconst 1, 1) := by decide +kernel
theorem dX0_ofOne_139 : decode cX0_ofOne 139 = .ok (.goto 4, 3) := by decide +kernel
theorem dX0_ofOne_142 : decode cX0_ofOne 142 = .ok (.iconst 0, 1) := by decide +kernel
theorem dX0_ofOne_143 : decode cX0_ofOne 143 = .ok (.invokevirtual 44, 3) := by decide +kernel
theorem dX0_ofOne_146 : decode cX0_ofOne 146 = .ok (.ireturn, 1) := by decide +kernel
theorem dX0_ofOne_147 : decode cX0_ofOne 147 = .ok (.aload_n 0, 1) := by decide +kernel
theorem dX0_ofOne_148 : decode cX0_ofOne 148 = .ok (.getfield 21, 3) := by decide +kernel
theorem dX0_ofOne_151 : decode cX0_ofOne 151 = .ok (.ifCond .eq 41, 3) := by decide +kernel
theorem dX0_ofOne_154 : decode cX0_ofOne 154 = .ok (.aload_n 0, 1) := by decide +kernel
theorem dX0_ofOne_155 : decode cX0_ofOne 155 = .ok (.iload_n 2, 1) := by decide +kernel
theorem dX0_ofOne_156 : decode cX0_ofOne 156 = .ok (.iconst 1, 1) := by decide +kernel
theorem dX0_ofOne_157 : decode cX0_ofOne 157 = .ok (.iadd, 1) := by decide +kernel
theorem dX0_ofOne_158 : decode cX0_ofOne 158 = .ok (.iload_n 2, 1) := by decide +kernel
theorem dX0_ofOne_159 : decode cX0_ofOne 159 = .ok (.iconst 1, 1) := by decide +kernel
theorem dX0_ofOne_160 : decode cX0_ofOne 160 = .ok (.iadd, 1) := by decide +kernel
theorem dX0_ofOne_161 : decode cX0_ofOne 161 = .ok (.aload_n 0, 1) := by decide +kernel
theorem dX0_ofOne_162 : decode cX0_ofOne 162 = .ok (.getfield 30, 3) := by decide +kernel
theorem dX0_ofOne_165 : decode cX0_ofOne 165 = .ok (.if_icmp .ne 7, 3) := by decide +kernel
theorem dX0_ofOne_168 : decode cX0_ofOne 168 = .ok (.iconst 1, 1) := by decide +kernel
theorem dX0_ofOne_169 : decode cX0_ofOne 169 = .ok (.goto 4, 3) := by decide +kernel
theorem dX0_ofOne_172 : decode cX0_ofOne 172 = .ok (.iconst 0, 1) := by decide +kernel
theorem dX0_ofOne_173 : decode cX0_ofOne 173 = .ok (.iload_n 2, 1) := by decide +kernel
theorem dX0_ofOne_174 : decode cX0_ofOne 174 = .ok (.aload_n 0, 1) := by decide +kernel
theorem dX0_ofOne_175 : decode cX0_ofOne 175 = .ok (.getfield 25, 3) := by decide +kernel
theorem dX0_ofOne_178 : decode cX0_ofOne 178 = .ok (.if_icmp .ne 7, 3) := by decide +kernel
theorem dX0_ofOne_181 : decode cX0_ofOne 181 = .ok (.iconst 1, 1) := by decide +kernel
theorem dX0_ofOne_182 : decode cX0_ofOne 182 = .ok (.goto 4, 3) := by decide +kernel
theorem dX0_ofOne_185 : decode cX0_ofOne 185 = .ok (.iconst 0, 1) := by decide +kernel
theorem dX0_ofOne_186 : decode cX0_ofOne 186 = .ok (.invokevirtual 44, 3) := by decide +kernel
theorem dX0_ofOne_189 : decode cX0_ofOne 189 = .ok (.goto 10, 3) := by decide +kernel
theorem dX0_ofOne_192 : decode cX0_ofOne 192 = .ok (.aload_n 0, 1) := by decide +kernel
theorem dX0_ofOne_193 : decode cX0_ofOne 193 = .ok (.iload_n 2, 1) := by decide +kernel
theorem dX0_ofOne_194 : decode cX0_ofOne 194 = .ok (.iconst 0, 1) := by decide +kernel
theorem dX0_ofOne_195 : decode cX0_ofOne 195 = .ok (.iconst 0, 1) := by decide +kernel
theorem dX0_ofOne_196 : decode cX0_ofOne 196 = .ok (.invokevirtual 44, 3) := by decide +kernel
theorem dX0_ofOne_199 : decode cX0_ofOne 199 = .ok (.ireturn, 1) := by decide +kernel
theorem dX0_ofOne_200 : decode cX0_ofOne 200 = .ok (.aload_n 0, 1) := by decide +kernel
theorem dX0_ofOne_201 : decode cX0_ofOne 201 = .ok (.getfield 21, 3) := by decide +kernel
theorem dX0_ofOne_204 : decode cX0_ofOne 204 = .ok (.ifCond .eq 35, 3) := by decide +kernel
theorem dX0_ofOne_207 : decode cX0_ofOne 207 = .ok (.aload_n 0, 1) := by decide +kernel
theorem dX0_ofOne_208 : decode cX0_ofOne 208 = .ok (.iload_n 2, 1) := by decide +kernel
theorem dX0_ofOne_209 : decode cX0_ofOne 209 = .ok (.iconst 1, 1) := by decide +kernel
theorem dX0_ofOne_210 : decode cX0_ofOne 210 = .ok (.isub, 1) := by decide +kernel
theorem dX0_ofOne_211 : decode cX0_ofOne 211 = .ok (.iload_n 2, 1) := by decide +kernel
theorem dX0_ofOne_212 : decode cX0_ofOne 212 = .ok (.aload_n 0, 1) := by decide +kernel
theorem dX0_ofOne_213 : decode cX0_ofOne 213 = .ok (.getfield 30, 3) := by decide +kernel
theorem dX0_ofOne_216 : decode cX0_ofOne 216 = .ok (.if_icmp .ne 7, 3) := by decide +kernel
theorem dX0_ofOne_219 : decode cX0_ofOne 219 = .ok (.iconst 1, 1) := by decide +kernel
theorem dX0_ofOne_220 : decode cX0_ofOne 220 = .ok (.goto 4, 3) := by decide +kernel
theorem dX0_ofOne_223 : decode cX0_ofOne 223 = .ok (.iconst 0, 1) := by decide +kernel
theorem dX0_ofOne_224 : decode cX0_ofOne 224 = .ok (.iload_n 2, 1) := by decide +kernel
theorem dX0_ofOne_225 : decode cX0_ofOne 225 = .ok (.ifCond .ne 7, 3) := by decide +kernel
theorem dX0_ofOne_228 : decode cX0_ofOne 228 = .ok (.iconst 1, 1) := by decide +kernel
theorem dX0_ofOne_229 : decode cX0_ofOne 229 = .ok (.goto 4, 3) := by decide +kernel
theorem dX0_ofOne_232 : decode cX0_ofOne 232 = .ok (.iconst 0, 1) := by decide +kernel
theorem dX0_ofOne_233 : decode cX0_ofOne 233 = .ok (.invokevirtual 44, 3) := by decide +kernel
end
section
theorem dX0_ofOne_236 : decode cX0_ofOne 236 = .ok (.goto 10, 3) := by decide +kernel
theorem dX0_ofOne_239 : decode cX0_ofOne 239 = .ok (.aload_n 0, 1) := by decide +kernel
theorem dX0_ofOne_240 : decode cX0_ofOne 240 = .ok (.iload_n 2, 1) := by decide +kernel
theorem dX0_ofOne_241 : decode cX0_ofOne 241 = .ok (.iconst 0, 1) := by decide +kernel
theorem dX0_ofOne_242 : decode cX0_ofOne 242 = .ok (.iconst 0, 1) := by decide +kernel
theorem dX0_ofOne_243 : decode cX0_ofOne 243 = .ok (.invokevirtual 44, 3) := by decide +kernel
theorem dX0_ofOne_246 : decode cX0_ofOne 246 = .ok (.ireturn, 1) := by decide +kernel
theorem dX0_ofOne_247 : decode cX0_ofOne 247 = .ok (.aload_n 0, 1) := by decide +kernel
theorem dX0_ofOne_248 : decode cX0_ofOne 248 = .ok (.iload_n 2, 1) := by decide +kernel
theorem dX0_ofOne_249 : decode cX0_ofOne 249 = .ok (.iconst 0, 1) := by decide +kernel
theorem dX0_ofOne_250 : decode cX0_ofOne 250 = .ok (.iconst 0, 1) := by decide +kernel
theorem dX0_ofOne_251 : decode cX0_ofOne 251 = .ok (.invokevirtual 44, 3) := by decide +kernel
theorem dX0_ofOne_254 : decode cX0_ofOne 254 = .ok (.ireturn, 1) := by decide +kernel
theorem dX0_ofOne_255 : decode cX0_ofOne 255 = .ok (.aload_n 0, 1) := by decide +kernel
theorem dX0_ofOne_256 : decode cX0_ofOne 256 = .ok (.iload_n 2, 1) := by decide +kernel
theorem dX0_ofOne_257 : decode cX0_ofOne 257 = .ok (.invokevirtual 48, 3) := by decide +kernel
theorem dX0_ofOne_260 : decode cX0_ofOne 260 = .ok (.ireturn, 1) := by decide +kernel
theorem dX0_swapped_0 : decode cX0_swapped 0 = .ok (.iload_n 1, 1) := by decide +kernel
theorem dX0_swapped_1 : decode cX0_swapped 1 = .ok (.bipush 8, 2) := by decide +kernel
theorem dX0_swapped_3 : decode cX0_swapped 3 = .ok (.ishl, 1) := by decide +kernel
theorem dX0_swapped_4 : decode cX0_swapped 4 = .ok (.iload_n 1, 1) := by decide +kernel
theorem dX0_swapped_5 : decode cX0_swapped 5 = .ok (.bipush 8, 2) := by decide +kernel
theorem dX0_swapped_7 : decode cX0_swapped 7 = .ok (.ishr, 1) := by decide +kernel
theorem dX0_swapped_8 : decode cX0_swapped 8 = .ok (.ior, 1) := by decide +kernel
theorem dX0_swapped_9 : decode cX0_swapped 9 = .ok (.ldc 24, 2) := by decide +kernel
theorem dX0_swapped_11 : decode cX0_swapped 11 = .ok (.iand, 1) := by decide +kernel
theorem dX0_swapped_12 : decode cX0_swapped 12 = .ok (.istore_n 2, 1) := by decide +kernel
theorem dX0_swapped_13 : decode cX0_swapped 13 = .ok (.aload_n 0, 1) := by decide +kernel
theorem dX0_swapped_14 : decode cX0_swapped 14 = .ok (.iload_n 2, 1) := by decide +kernel
theorem dX0_swapped_15 : decode cX0_swapped 15 = .ok (.sipush 128, 3) := by decide +kernel
theorem dX0_swapped_18 : decode cX0_swapped 18 = .ok (.iand, 1) := by decide +kernel
theorem dX0_swapped_19 : decode cX0_swapped 19 = .ok (.ifCond .eq 7, 3) := by decide +kernel
theorem dX0_swapped_22 : decode cX0_swapped 22 = .ok (.iconst 1, 1) := by decide +kernel
theorem dX0_swapped_23 : decode cX0_swapped 23 = .ok (.goto 4, 3) := by decide +kernel
theorem dX0_swapped_26 : decode cX0_swapped 26 = .ok (.iconst 0, 1) := by decide +kernel
theorem dX0_swapped_27 : decode cX0_swapped 27 = .ok (.putfield 9, 3) := by decide +kernel
theorem dX0_swapped_30 : decode cX0_swapped 30 = .ok (.aload_n 0, 1) := by decide +kernel
theorem dX0_swapped_31 : decode cX0_swapped 31 = .ok (.iload_n 2, 1) := by decide +kernel
theorem dX0_swapped_32 : decode cX0_swapped 32 = .ok (.sipush 255, 3) := by decide +kernel
theorem dX0_swapped_35 : decode cX0_swapped 35 = .ok (.iand, 1) := by decide +kernel
theorem dX0_swapped_36 : decode cX0_swapped 36 = .ok (.ifCond .ne 7, 3) := by decide +kernel
theorem dX0_swapped_39 : decode cX0_swapped 39 = .ok (.iconst 1, 1) := by decide +kernel
theorem dX0_swapped_40 : decode cX0_swapped 40 = .ok (.goto 4, 3) := by decide +kernel
theorem dX0_swapped_43 : decode cX0_swapped 43 = .ok (.iconst 0, 1) := by decide +kernel
theorem dX0_swapped_44 : decode cX0_swapped 44 = .ok (.putfield 15, 3) := by decide +kernel
theorem dX0_swapped_47 : decode cX0_swapped 47 = .ok (.aload_n 0, 1) := by decide +kernel
theorem dX0_swapped_48 : decode cX0_swapped 48 = .ok (.iconst 0, 1) := by decide +kernel
theorem dX0_swapped_49 : decode cX0_swapped 49 = .ok (.putfield 18, 3) := by decide +kernel
theorem dX0_swapped_52 : decode cX0_swapped 52 = .ok (.aload_n 0, 1) := by decide +kernel
theorem dX0_swapped_53 : decode cX0_swapped 53 = .ok (.iconst 0, 1) := by decide +kernel
theorem dX0_swapped_54 : decode cX0_swapped 54 = .ok (.putfield 21, 3) := by decide +kernel
theorem dX0_swapped_57 : decode cX0_swapped 57 = .ok (.iload_n 2, 1) := by decide +kernel
theorem dX0_swapped_58 : decode cX0_swapped 58 = .ok (.ireturn, 1) := by decide +kernel
theorem dX0_allows_0 : decode cX0_allows 0 = .ok (.iload_n 1, 1) := by decide +kernel
theorem dX0_allows_1 : decode cX0_allows 1 = .ok (.lookupswitch 314 #[(1, 123), (2, 125), (3, 138), (4, 143), (5, 160), (6, 177), (7, 201), (128, 225), (129, 238), (130, 243), (131, 263), (132, 283), (133, 296), (134, 301)], 123) := by decide +kernel
theorem dX0_allows_124 : decode cX0_allows 124 = .ok (.iconst 1, 1) := by decide +kernel
theorem dX0_allows_125 : decode cX0_allows 125 = .ok (.ireturn, 1) := by decide +kernel
theorem dX0_allows_126 : decode cX0_allows 126 = .ok (.aload_n 0, 1) := by decide +kernel
theorem dX0_allows_127 : decode cX0_allows 127 = .ok (.getfield 15, 3) := by decide +kernel
theorem dX0_allows_130 : decode cX0_allows 130 = .ok (.ifCond .ne 7, 3) := by decide +kernel
theorem dX0_allows_133 : decode cX0_allows 133 = .ok (.iconst 1, 1) := by decide +kernel
theorem dX0_allows_134 : decode cX0_allows 134 = .ok (.goto 4, 3) := by decide +kernel
theorem dX0_allows_137 : decode cX0_allows 137 = .ok (.iconst 0, 1) := by decide +kernel
theorem dX0_allows_138 : decode cX0_allows 138 = .ok (.ireturn, 1) := by decide +kernel
theorem dX0_allows_139 : decode cX0_allows 139 = .ok (.aload_n 0, 1) := by decide +kernel
theorem dX0_allows_140 : decode cX0_allows 140 = .ok (.getfield 15, 3) := by decide +kernel
theorem dX0_allows_143 : decode cX0_allows 143 = .ok (.ireturn, 1) := by decide +kernel
theorem dX0_allows_144 : decode cX0_allows 144 = .ok (.aload_n 0, 1) := by decide +kernel
theorem dX0_allows_145 : decode cX0_allows 145 = .ok (.getfield 9, 3) := by decide +kernel
theorem dX0_allows_148 : decode cX0_allows 148 = .ok (.aload_n 0, 1) := by decide +kernel
theorem dX0_allows_149 : decode cX0_allows 149 = .ok (.getfield 18, 3) := by decide +kernel
theorem dX0_allows_152 : decode cX0_allows 152 = .ok (.if_icmp .ne 7, 3) := by decide +kernel
theorem dX0_allows_155 : decode cX0_allows 155 = .ok (.iconst 1, 1) := by decide +kernel
theorem dX0_allows_156 : decode cX0_allows 156 = .ok (.goto 4, 3) := by decide +kernel
theorem dX0_allows_159 : decode cX0_allows 159 = .ok (.iconst 0, 1) := by decide +kernel
theorem dX0_allows_160 : decode cX0_allows 160 = .ok (.ireturn, 1) := by decide +kernel
theorem dX0_allows_161 : decode cX0_allows 161 = .ok (.aload_n 0, 1) := by decide +kernel
theorem dX0_allows_162 : decode cX0_allows 162 = .ok (.getfield 9, 3) := by decide +kernel
theorem dX0_allows_165 : decode cX0_allows 165 = .ok (.aload_n 0, 1) := by decide +kernel
theorem dX0_allows_166 : decode cX0_allows 166 = .ok (.getfield 18, 3) := by decide +kernel
theorem dX0_allows_169 : decode cX0_allows 169 = .ok (.if_icmp .eq 7, 3) := by decide +kernel
theorem dX0_allows_172 : decode cX0_allows 172 = .ok (.iconst 1, 1) := by decide +kernel
theorem dX0_allows_173 : decode cX0_allows 173 = .ok (.goto 4, 3) := by decide +kernel
theorem dX0_allows_176 : decode cX0_allows 176 = .ok (.iconst 0, 1) := by decide +kernel
theorem dX0_allows_177 : decode cX0_allows 177 = .ok (.ireturn, 1) := by decide +kernel
theorem dX0_allows_178 : decode cX0_allows 178 = .ok (.aload_n 0, 1) := by decide +kernel
theorem dX0_allows_179 : decode cX0_allows 179 = .ok (.getfield 15, 3) := by decide +kernel
theorem dX0_allows_182 : decode cX0_allows 182 = .ok (.ifCond .ne 18, 3) := by decide +kernel
theorem dX0_allows_185 : decode cX0_allows 185 = .ok (.aload_n 0, 1) := by decide +kernel
theorem dX0_allows_186 : decode cX0_allows 186 = .ok (.getfield 9, 3) := by decide +kernel
theorem dX0_allows_189 : decode cX0_allows 189 = .ok (.aload_n 0, 1) := by decide +kernel
theorem dX0_allows_190 : decode cX0_allows 190 = .ok (.getfield 18, 3) := by decide +kernel
theorem dX0_allows_193 : decode cX0_allows 193 = .ok (.if_icmp .ne 7, 3) := by decide +kernel
theorem dX0_allows_196 : decode cX0_allows 196 = .ok (.iconst 1, 1) := by decide +kernel
theorem dX0_allows_197 : decode cX0_allows 197 = .ok (.goto 4, 3) := by decide +kernel
theorem dX0_allows_200 : decode cX0_allows 200 = .ok (.iconst 0, 1) := by decide +kernel
theorem dX0_allows_201 : decode cX0_allows 201 = .ok (.ireturn, 1) := by decide +kernel
theorem dX0_allows_202 : decode cX0_allows 202 = .ok (.aload_n 0, 1) := by decide +kernel
theorem dX0_allows_203 : decode cX0_allows 203 = .ok (.getfield 15, 3) := by decide +kernel
theorem dX0_allows_206 : decode cX0_allows 206 = .ok (.ifCond .ne 14, 3) := by decide +kernel
theorem dX0_allows_209 : decode cX0_allows 209 = .ok (.aload_n 0, 1) := by decide +kernel
theorem dX0_allows_210 : decode cX0_allows 210 = .ok (.getfield 9, 3) := by decide +kernel
theorem dX0_allows_213 : decode cX0_allows 213 = .ok (.aload_n 0, 1) := by decide +kernel
theorem dX0_allows_214 : decode cX0_allows 214 = .ok (.getfield 18, 3) := by decide +kernel
theorem dX0_allows_217 : decode cX0_allows 217 = .ok (.if_icmp .eq 7, 3) := by decide +kernel
theorem dX0_allows_220 : decode cX0_allows 220 = .ok (.iconst 1, 1) := by decide +kernel
theorem dX0_allows_221 : decode cX0_allows 221 = .ok (.goto 4, 3) := by decide +kernel
theorem dX0_allows_224 : decode cX0_allows 224 = .ok (.iconst 0, 1) := by decide +kernel
theorem dX0_allows_225 : decode cX0_allows 225 = .ok (.ireturn, 1) := by decide +kernel
theorem dX0_allows_226 : decode cX0_allows 226 = .ok (.aload_n 0, 1) := by decide +kernel
theorem dX0_allows_227 : decode cX0_allows 227 = .ok (.getfield 9, 3) := by decide +kernel
theorem dX0_allows_230 : decode cX0_allows 230 = .ok (.ifCond .ne 7, 3) := by decide +kernel
theorem dX0_allows_233 : decode cX0_allows 233 = .ok (.iconst 1, 1) := by decide +kernel
theorem dX0_allows_234 : decode cX0_allows 234 = .ok (.goto 4, 3) := by decide +kernel
theorem dX0_allows_237 : decode cX0_allows 237 = .ok (.iconst 0, 1) := by decide +kernel
theorem dX0_allows_238 : decode cX0_allows 238 = .ok (.ireturn, 1) := by decide +kernel
theorem dX0_allows_239 : decode cX0_allows 239 = .ok (.aload_n 0, 1) := by decide +kernel
theorem dX0_allows_240 : decode cX0_allows 240 = .ok (.getfield 9, 3) := by decide +kernel
theorem dX0_allows_243 : decode cX0_allows 243 = .ok (.ireturn, 1) := by decide +kernel
theorem dX0_allows_244 : decode cX0_allows 244 = .ok (.aload_n 0, 1) := by decide +kernel
theorem dX0_allows_245 : decode cX0_allows 245 = .ok (.getfield 21, 3) := by decide +kernel
theorem dX0_allows_248 : decode cX0_allows 248 = .ok (.ifCond .ne 14, 3) := by decide +kernel
theorem dX0_allows_251 : decode cX0_allows 251 = .ok (.aload_n 0, 1) := by decide +kernel
theorem dX0_allows_252 : decode cX0_allows 252 = .ok (.getfield 15, 3) := by decide +kernel
theorem dX0_allows_255 : decode cX0_allows 255 = .ok (.ifCond .ne 7, 3) := by decide +kernel
theorem dX0_allows_258 : decode cX0_allows 258 = .ok (.iconst 1, 1) := by decide +kernel
theorem dX0_allows_259 : decode cX0_allows 259 = .ok (.goto 4, 3) := by decide +kernel
theorem dX0_allows_262 : decode cX0_allows 262 = .ok (.iconst 0, 1) := by decide +kernel
theorem dX0_allows_263 : decode cX0_allows 263 = .ok (.ireturn, 1) := by decide +kernel
theorem dX0_allows_264 : decode cX0_allows 264 = .ok (.aload_n 0, 1) := by decide +kernel
theorem dX0_allows_265 : decode cX0_allows 265 = .ok (.getfield 21, 3) := by decide +kernel
theorem dX0_allows_268 : decode cX0_allows 268 = .ok (.ifCond .ne 10, 3) := by decide +kernel
theorem dX0_allows_271 : decode cX0_allows 271 = .ok (.aload_n 0, 1) := by decide +kernel
theorem dX0_allows_272 : decode cX0_allows 272 = .ok (.getfield 15, 3) := by decide +kernel
theorem dX0_allows_275 : decode cX0_allows 275 = .ok (.ifCond .eq 7, 3) := by decide +kernel
theorem dX0_allows_278 : decode cX0_allows 278 = .ok (.iconst 1, 1) := by decide +kernel
theorem dX0_allows_279 : decode cX0_allows 279 = .ok (.goto 4, 3) := by decide +kernel
theorem dX0_allows_282 : decode cX0_allows 282 = .ok (.iconst 0, 1) := by decide +kernel
theorem dX0_allows_283 : decode cX0_allows 283 = .ok (.ireturn, 1) := by decide +kernel
theorem dX0_allows_284 : decode cX0_allows 284 = .ok (.aload_n 0, 1) := by decide +kernel
theorem dX0_allows_285 : decode cX0_allows 285 = .ok (.getfield 18, 3) := by decide +kernel
theorem dX0_allows_288 : decode cX0_allows 288 = .ok (.ifCond .ne 7, 3) := by decide +kernel
theorem dX0_allows_291 : decode cX0_allows 291 = .ok (.iconst 1, 1) := by decide +kernel
theorem dX0_allows_292 : decode cX0_allows 292 = .ok (.goto 4, 3) := by decide +kernel
theorem dX0_allows_295 : decode cX0_allows 295 = .ok (.iconst 0, 1) := by decide +kernel
theorem dX0_allows_296 : decode cX0_allows 296 = .ok (.ireturn, 1) := by decide +kernel
theorem dX0_allows_297 : decode cX0_allows 297 = .ok (.aload_n 0, 1) := by decide +kernel
theorem dX0_allows_298 : decode cX0_allows 298 = .ok (.getfield 18, 3) := by decide +kernel
theorem dX0_allows_301 : decode cX0_allows 301 = .ok (.ireturn, 1) := by decide +kernel
theorem dX0_allows_302 : decode cX0_allows 302 = .ok (.aload_n 0, 1) := by decide +kernel
theorem dX0_allows_303 : decode cX0_allows 303 = .ok (.getfield 21, 3) := by decide +kernel
theorem dX0_allows_306 : decode cX0_allows 306 = .ok (.ifCond .ne 7, 3) := by decide +kernel
theorem dX0_allows_309 : decode cX0_allows 309 = .ok (.iconst 1, 1) := by decide +kernel
theorem dX0_allows_310 : decode cX0_allows 310 = .ok (.goto 4, 3) := by decide +kernel
theorem dX0_allows_313 : decode cX0_allows 313 = .ok (.iconst 0, 1) := by decide +kernel
theorem dX0_allows_314 : decode cX0_allows 314 = .ok (.ireturn, 1) := by decide +kernel
theorem dX0_allows_315 : decode cX0_allows 315 = .ok (.aload_n 0, 1) := by decide +kernel
theorem dX0_allows_316 : decode cX0_allows 316 = .ok (.getfield 21, 3) := by decide +kernel
theorem dX0_allows_319 : decode cX0_allows 319 = .ok (.ireturn, 1) := by decide +kernel
theorem dX0_change_0 : decode cX0_change 0 = .ok (.aload_n 0, 1) := by decide +kernel
theorem dX0_change_1 : decode cX0_change 1 = .ok (.iload_n 1, 1) := by decide +kernel
theorem dX0_change_2 : decode cX0_change 2 = .ok (.bipush 8, 2) := by decide +kernel
theorem dX0_change_4 : decode cX0_change 4 = .ok (.iand, 1) := by decide +kernel
theorem dX0_change_5 : decode cX0_change 5 = .ok (.ifCond .eq 7, 3) := by decide +kernel
theorem dX0_change_8 : decode cX0_change 8 = .ok (.iload_n 2, 1) := by decide +kernel
theorem dX0_change_9 : decode cX0_change 9 = .ok (.goto 7, 3) := by decide +kernel
theorem dX0_change_12 : decode cX0_change 12 = .ok (.aload_n 0, 1) := by decide +kernel
theorem dX0_change_13 : decode cX0_change 13 = .ok (.getfield 9, 3) := by decide +kernel
theorem dX0_change_16 : decode cX0_change 16 = .ok (.putfield 9, 3) := by decide +kernel
theorem dX0_change_19 : decode cX0_change 19 = .ok (.aload_n 0, 1) := by decide +kernel
theorem dX0_change_20 : decode cX0_change 20 = .ok (.iload_n 1, 1) := by decide +kernel
theorem dX0_change_21 : decode cX0_change 21 = .ok (.iconst 4, 1) := by decide +kernel
theorem dX0_change_22 : decode cX0_change 22 = .ok (.iand, 1) := by decide +kernel
theorem dX0_change_23 : decode cX0_change 23 = .ok (.ifCond .eq 7, 3) := by decide +kernel
theorem dX0_change_26 : decode cX0_change 26 = .ok (.iload_n 2, 1) := by decide +kernel
theorem dX0_change_27 : decode cX0_change 27 = .ok (.goto 7, 3) := by decide +kernel
theorem dX0_change_30 : decode cX0_change 30 = .ok (.aload_n 0, 1) := by decide +kernel
theorem dX0_change_31 : decode cX0_change 31 = .ok (.getfield 15, 3) := by decide +kernel
theorem dX0_change_34 : decode cX0_change 34 = .ok (.putfield 15, 3) := by decide +kernel
theorem dX0_change_37 : decode cX0_change 37 = .ok (.aload_n 0, 1) := by decide +kernel
theorem dX0_change_38 : decode cX0_change 38 = .ok (.iload_n 1, 1) := by decide +kernel
theorem dX0_change_39 : decode cX0_change 39 = .ok (.iconst 2, 1) := by decide +kernel
theorem dX0_change_40 : decode cX0_change 40 = .ok (.iand, 1) := by decide +kernel
theorem dX0_change_41 : decode cX0_change 41 = .ok (.ifCond .eq 7, 3) := by decide +kernel
theorem dX0_change_44 : decode cX0_change 44 = .ok (.iload_n 2, 1) := by decide +kernel
theorem dX0_change_45 : decode cX0_change 45 = .ok (.goto 7, 3) := by decide +kernel
theorem dX0_change_48 : decode cX0_change 48 = .ok (.aload_n 0, 1) := by decide +kernel
theorem dX0_change_49 : decode cX0_change 49 = .ok (.getfield 18, 3) := by decide +kernel
theorem dX0_change_52 : decode cX0_change 52 = .ok (.putfield 18, 3) := by decide +kernel
theorem dX0_change_55 : decode cX0_change 55 = .ok (.aload_n 0, 1) := by decide +kernel
theorem dX0_change_56 : decode cX0_change 56 = .ok (.iload_n 1, 1) := by decide +kernel
theorem dX0_change_57 : decode cX0_change 57 = .ok (.iconst 1, 1) := by decide +kernel
theorem dX0_change_58 : decode cX0_change 58 = .ok (.iand, 1) := by decide +kernel
theorem dX0_change_59 : decode cX0_change 59 = .ok (.ifCond .eq 7, 3) := by decide +kernel
theorem dX0_change_62 : decode cX0_change 62 = .ok (.iload_n 2, 1) := by decide +kernel
theorem dX0_change_63 : decode cX0_change 63 = .ok (.goto 7, 3) := by decide +kernel
theorem dX0_change_66 : decode cX0_change 66 = .ok (.aload_n 0, 1) := by decide +kernel
theorem dX0_change_67 : decode cX0_change 67 = .ok (.getfield 21, 3) := by decide +kernel
theorem dX0_change_70 : decode cX0_change 70 = .ok (.putfield 21, 3) := by decide +kernel
theorem dX0_change_73 : decode cX0_change 73 = .ok (.return_, 1) := by decide +kernel
end
section
theorem dX1_init_0 : decode cX1_init 0 = .ok (.aload_n 0, 1) := by decide +kernel
theorem dX1_init_1 : decode cX1_init 1 = .ok (.invokespecial 1, 3) := by decide +kernel
theorem dX1_init_4 : decode cX1_init 4 = .ok (.aload_n 0, 1) := by decide +kernel
theorem dX1_init_5 : decode cX1_init 5 = .ok (.sipush 2048, 3) := by decide +kernel
theorem dX1_init_8 : decode cX1_init 8 = .ok (.newarray .int, 2) := by decide +kernel
theorem dX1_init_10 : decode cX1_init 10 = .ok (.putfield 9, 3) := by decide +kernel
theorem dX1_init_13 : decode cX1_init 13 = .ok (.aload_n 0, 1) := by decide +kernel
theorem dX1_init_14 : decode cX1_init 14 = .ok (.bipush 8, 2) := by decide +kernel
theorem dX1_init_16 : decode cX1_init 16 = .ok (.newarray .int, 2) := by decide +kernel
theorem dX1_init_18 : decode cX1_init 18 = .ok (.putfield 13, 3) := by decide +kernel
theorem dX1_init_21 : decode cX1_init 21 = .ok (.aload_n 0, 1) := by decide +kernel
theorem dX1_init_22 : decode cX1_init 22 = .ok (.new 16, 3) := by decide +kernel
theorem dX1_init_25 : decode cX1_init 25 = .ok (.dup, 1) := by decide +kernel
theorem dX1_init_26 : decode cX1_init 26 = .ok (.invokespecial 18, 3) := by decide +kernel
theorem dX1_init_29 : decode cX1_init 29 = .ok (.putfield 19, 3) := by decide +kernel
theorem dX1_init_32 : decode cX1_init 32 = .ok (.aload_n 0, 1) := by decide +kernel
theorem dX1_init_33 : decode cX1_init 33 = .ok (.iconst 0, 1) := by decide +kernel
theorem dX1_init_34 : decode cX1_init 34 = .ok (.putfield 23, 3) := by decide +kernel
theorem dX1_init_37 : decode cX1_init 37 = .ok (.aload_n 0, 1) := by decide +kernel
theorem dX1_init_38 : decode cX1_init 38 = .ok (.lconst 0, 1) := by decide +kernel
theorem dX1_init_39 : decode cX1_init 39 = .ok (.putfield 27, 3) := by decide +kernel
theorem dX1_init_42 : decode cX1_init 42 = .ok (.aload_n 0, 1) := by decide +kernel
theorem dX1_init_43 : decode cX1_init 43 = .ok (.iconst 0, 1) := by decide +kernel
theorem dX1_init_44 : decode cX1_init 44 = .ok (.putfield 31, 3) := by decide +kernel
theorem dX1_init_47 : decode cX1_init 47 = .ok (.aload_n 0, 1) := by decide +kernel
theorem dX1_init_48 : decode cX1_init 48 = .ok (.iconst (-1), 1) := by decide +kernel
theorem dX1_init_49 : decode cX1_init 49 = .ok (.putfield 34, 3) := by decide +kernel
theorem dX1_init_52 : decode cX1_init 52 = .ok (.return_, 1) := by decide +kernel
theorem dX1_poke_0 : decode cX1_poke 0 = .ok (.iload_n 1, 1) := by decide +kernel
theorem dX1_poke_1 : decode cX1_poke 1 = .ok (.invokestatic 37, 3) := by decide +kernel
theorem dX1_poke_4 : decode cX1_poke 4 = .ok (.ifCond .ne 5, 3) := by decide +kernel
theorem dX1_poke_7 : decode cX1_poke 7 = .ok (.iconst 0, 1) := by decide +kernel
theorem dX1_poke_8 : decode cX1_poke 8 = .ok (.ireturn, 1) := by decide +kernel
theorem dX1_poke_9 : decode cX1_poke 9 = .ok (.aload_n 0, 1) := by decide +kernel
theorem dX1_poke_10 : decode cX1_poke 10 = .ok (.getfield 9, 3) := by decide +kernel
theorem dX1_poke_13 : decode cX1_poke 13 = .ok (.iload_n 1, 1) := by decide +kernel
theorem dX1_poke_14 : decode cX1_poke 14 = .ok (.iconst 1, 1) := by decide +kernel
theorem dX1_poke_15 : decode cX1_poke 15 = .ok (.ishr, 1) := by decide +kernel
theorem dX1_poke_16 : decode cX1_poke 16 = .ok (.iload_n 2, 1) := by decide +kernel
theorem dX1_poke_17 : decode cX1_poke 17 = .ok (.ldc 41, 2) := by decide +kernel
theorem dX1_poke_19 : decode cX1_poke 19 = .ok (.iand, 1) := by decide +kernel
theorem dX1_poke_20 : decode cX1_poke 20 = .ok (.iastore, 1) := by decide +kernel
theorem dX1_poke_21 : decode cX1_poke 21 = .ok (.iconst 1, 1) := by decide +kernel
theorem dX1_poke_22 : decode cX1_poke 22 = .ok (.ireturn, 1) := by decide +kernel
theorem dX1_isWordAddress_0 : decode cX1_isWordAddress 0 = .ok (.iload_n 0, 1) := by decide +kernel
theorem dX1_isWordAddress_1 : decode cX1_isWordAddress 1 = .ok (.ifCond .lt 20, 3) := by decide +kernel
theorem dX1_isWordAddress_4 : decode cX1_isWordAddress 4 = .ok (.iload_n 0, 1) := by decide +kernel
theorem dX1_isWordAddress_5 : decode cX1_isWordAddress 5 = .ok (.sipush 4096, 3) := by decide +kernel
theorem dX1_isWordAddress_8 : decode cX1_isWordAddress 8 = .ok (.if_icmp .ge 13, 3) := by decide +kernel
theorem dX1_isWordAddress_11 : decode cX1_isWordAddress 11 = .ok (.iload_n 0, 1) := by decide +kernel
theorem dX1_isWordAddress_12 : decode cX1_isWordAddress 12 = .ok (.iconst 1, 1) := by decide +kernel
theorem dX1_isWordAddress_13 : decode cX1_isWordAddress 13 = .ok (.iand, 1) := by decide +kernel
theorem dX1_isWordAddress_14 : decode cX1_isWordAddress 14 = .ok (.ifCond .ne 7, 3) := by decide +kernel
theorem dX1_isWordAddress_17 : decode cX1_isWordAddress 17 = .ok (.iconst 1, 1) := by decide +kernel
theorem dX1_isWordAddress_18 : decode cX1_isWordAddress 18 = .ok (.goto 4, 3) := by decide +kernel
theorem dX1_isWordAddress_21 : decode cX1_isWordAddress 21 = .ok (.iconst 0, 1) := by decide +kernel
theorem dX1_isWordAddress_22 : decode cX1_isWordAddress 22 = .ok (.ireturn, 1) := by decide +kernel
theorem dX1_peek_0 : decode cX1_peek 0 = .ok (.iload_n 1, 1) := by decide +kernel
theorem dX1_peek_1 : decode cX1_peek 1 = .ok (.invokestatic 37, 3) := by decide +kernel
theorem dX1_peek_4 : decode cX1_peek 4 = .ok (.ifCond .eq 14, 3) := by decide +kernel
theorem dX1_peek_7 : decode cX1_peek 7 = .ok (.aload_n 0, 1) := by decide +kernel
theorem dX1_peek_8 : decode cX1_peek 8 = .ok (.getfield 9, 3) := by decide +kernel
theorem dX1_peek_11 : decode cX1_peek 11 = .ok (.iload_n 1, 1) := by decide +kernel
theorem dX1_peek_12 : decode cX1_peek 12 = .ok (.iconst 1, 1) := by decide +kernel
theorem dX1_peek_13 : decode cX1_peek 13 = .ok (.ishr, 1) := by decide +kernel
theorem dX1_peek_14 : decode cX1_peek 14 = .ok (.iaload, 1) := by decide +kernel
theorem dX1_peek_15 : decode cX1_peek 15 = .ok (.goto 4, 3) := by decide +kernel
theorem dX1_peek_18 : decode cX1_peek 18 = .ok (.iconst (-1), 1) := by decide +kernel
theorem dX1_peek_19 : decode cX1_peek 19 = .ok (.ireturn, 1) := by decide +kernel
theorem dX1_set_0 : decode cX1_set 0 = .ok (.iload_n 1, 1) := by decide +kernel
theorem dX1_set_1 : decode cX1_set 1 = .ok (.invokestatic 42, 3) := by decide +kernel
theorem dX1_set_4 : decode cX1_set 4 = .ok (.ifCond .ne 5, 3) := by decide +kernel
theorem dX1_set_7 : decode cX1_set 7 = .ok (.iconst 0, 1) := by decide +kernel
theorem dX1_set_8 : decode cX1_set 8 = .ok (.ireturn, 1) := by decide +kernel
theorem dX1_set_9 : decode cX1_set 9 = .ok (.aload_n 0, 1) := by decide +kernel
theorem dX1_set_10 : decode cX1_set 10 = .ok (.getfield 13, 3) := by decide +kernel
theorem dX1_set_13 : decode cX1_set 13 = .ok (.iload_n 1, 1) := by decide +kernel
theorem dX1_set_14 : decode cX1_set 14 = .ok (.iload_n 2, 1) := by decide +kernel
theorem dX1_set_15 : decode cX1_set 15 = .ok (.ldc 41, 2) := by decide +kernel
theorem dX1_set_17 : decode cX1_set 17 = .ok (.iand, 1) := by decide +kernel
theorem dX1_set_18 : decode cX1_set 18 = .ok (.iastore, 1) := by decide +kernel
theorem dX1_set_19 : decode cX1_set 19 = .ok (.iconst 1, 1) := by decide +kernel
theorem dX1_set_20 : decode cX1_set 20 = .ok (.ireturn, 1) := by decide +kernel
theorem dX1_isRegister_0 : decode cX1_isRegister 0 = .ok (.iload_n 0, 1) := by decide +kernel
theorem dX1_isRegister_1 : decode cX1_isRegister 1 = .ok (.ifCond .lt 13, 3) := by decide +kernel
theorem dX1_isRegister_4 : decode cX1_isRegister 4 = .ok (.iload_n 0, 1) := by decide +kernel
theorem dX1_isRegister_5 : decode cX1_isRegister 5 = .ok (.bipush 8, 2) := by decide +kernel
theorem dX1_isRegister_7 : decode cX1_isRegister 7 = .ok (.if_icmp .ge 7, 3) := by decide +kernel
theorem dX1_isRegister_10 : decode cX1_isRegister 10 = .ok (.iconst 1, 1) := by decide +kernel
theorem dX1_isRegister_11 : decode cX1_isRegister 11 = .ok (.goto 4, 3) := by decide +kernel
theorem dX1_isRegister_14 : decode cX1_isRegister 14 = .ok (.iconst 0, 1) := by decide +kernel
theorem dX1_isRegister_15 : decode cX1_isRegister 15 = .ok (.ireturn, 1) := by decide +kernel
theorem dX1_register_0 : decode cX1_register 0 = .ok (.iload_n 1, 1) := by decide +kernel
theorem dX1_register_1 : decode cX1_register 1 = .ok (.invokestatic 42, 3) := by decide +kernel
theorem dX1_register_4 : decode cX1_register 4 = .ok (.ifCond .eq 12, 3) := by decide +kernel
theorem dX1_register_7 : decode cX1_register 7 = .ok (.aload_n 0, 1) := by decide +kernel
theorem dX1_register_8 : decode cX1_register 8 = .ok (.getfield 13, 3) := by decide +kernel
theorem dX1_register_11 : decode cX1_register 11 = .ok (.iload_n 1, 1) := by decide +kernel
theorem dX1_register_12 : decode cX1_register 12 = .ok (.iaload, 1) := by decide +kernel
theorem dX1_register_13 : decode cX1_register 13 = .ok (.goto 4, 3) := by decide +kernel
theorem dX1_register_16 : decode cX1_register 16 = .ok (.iconst (-1), 1) := by decide +kernel
theorem dX1_register_17 : decode cX1_register 17 = .ok (.ireturn, 1) := by decide +kernel
theorem dX1_flags_0 : decode cX1_flags 0 = .ok (.aload_n 0, 1) := by decide +kernel
theorem dX1_flags_1 : decode cX1_flags 1 = .ok (.getfield 19, 3) := by decide +kernel
theorem dX1_flags_4 : decode cX1_flags 4 = .ok (.invokevirtual 45, 3) := by decide +kernel
theorem dX1_flags_7 : decode cX1_flags 7 = .ok (.ireturn, 1) := by decide +kernel
theorem dX1_step_0 : decode cX1_step 0 = .ok (.aload_n 0, 1) := by decide +kernel
theorem dX1_step_1 : decode cX1_step 1 = .ok (.getfield 23, 3) := by decide +kernel
theorem dX1_step_4 : decode cX1_step 4 = .ok (.ifCond .ne 10, 3) := by decide +kernel
theorem dX1_step_7 : decode cX1_step 7 = .ok (.aload_n 0, 1) := by decide +kernel
theorem dX1_step_8 : decode cX1_step 8 = .ok (.invokevirtual 49, 3) := by decide +kernel
theorem dX1_step_11 : decode cX1_step 11 = .ok (.goto 4, 3) := by decide +kernel
theorem dX1_step_14 : decode cX1_step 14 = .ok (.iconst (-1), 1) := by decide +kernel
theorem dX1_step_15 : decode cX1_step 15 = .ok (.ireturn, 1) := by decide +kernel
theorem dX1_doInstruction_0 : decode cX1_doInstruction 0 = .ok (.aload_n 0, 1) := by decide +kernel
theorem dX1_doInstruction_1 : decode cX1_doInstruction 1 = .ok (.iconst 2, 1) := by decide +kernel
theorem dX1_doInstruction_2 : decode cX1_doInstruction 2 = .ok (.putfield 31, 3) := by decide +kernel
theorem dX1_doInstruction_5 : decode cX1_doInstruction 5 = .ok (.aload_n 0, 1) := by decide +kernel
theorem dX1_doInstruction_6 : decode cX1_doInstruction 6 = .ok (.aload_n 0, 1) := by decide +kernel
theorem dX1_doInstruction_7 : decode cX1_doInstruction 7 = .ok (.bipush 7, 2) := by decide +kernel
theorem dX1_doInstruction_9 : decode cX1_doInstruction 9 = .ok (.iconst 2, 1) := by decide +kernel
theorem dX1_doInstruction_10 : decode cX1_doInstruction 10 = .ok (.invokevirtual 58, 3) := by decide +kernel
theorem dX1_doInstruction_13 : decode cX1_doInstruction 13 = .ok (.invokevirtual 61, 3) := by decide +kernel
theorem dX1_doInstruction_16 : decode cX1_doInstruction 16 = .ok (.istore_n 1, 1) := by decide +kernel
theorem dX1_doInstruction_17 : decode cX1_doInstruction 17 = .ok (.iload_n 1, 1) := by decide +kernel
theorem dX1_doInstruction_18 : decode cX1_doInstruction 18 = .ok (.iconst (-1), 1) := by decide +kernel
theorem dX1_doInstruction_19 : decode cX1_doInstruction 19 = .ok (.if_icmp .eq 8, 3) := by decide +kernel
theorem dX1_doInstruction_22 : decode cX1_doInstruction 22 = .ok (.aload_n 0, 1) := by decide +kernel
theorem dX1_doInstruction_23 : decode cX1_doInstruction 23 = .ok (.iload_n 1, 1) := by decide +kernel
theorem dX1_doInstruction_24 : decode cX1_doInstruction 24 = .ok (.invokevirtual 65, 3) := by decide +kernel
theorem dX1_doInstruction_27 : decode cX1_doInstruction 27 = .ok (.aload_n 0, 1) := by decide +kernel
theorem dX1_doInstruction_28 : decode cX1_doInstruction 28 = .ok (.getfield 23, 3) := by decide +kernel
theorem dX1_doInstruction_31 : decode cX1_doInstruction 31 = .ok (.ifCond .eq 5, 3) := by decide +kernel
theorem dX1_doInstruction_34 : decode cX1_doInstruction 34 = .ok (.iconst (-1), 1) := by decide +kernel
theorem dX1_doInstruction_35 : decode cX1_doInstruction 35 = .ok (.ireturn, 1) := by decide +kernel
theorem dX1_doInstruction_36 : decode cX1_doInstruction 36 = .ok (.aload_n 0, 1) := by decide +kernel
theorem dX1_doInstruction_37 : decode cX1_doInstruction 37 = .ok (.dup, 1) := by decide +kernel
theorem dX1_doInstruction_38 : decode cX1_doInstruction 38 = .ok (.getfield 27, 3) := by decide +kernel
theorem dX1_doInstruction_41 : decode cX1_doInstruction 41 = .ok (.aload_n 0, 1) := by decide +kernel
theorem dX1_doInstruction_42 : decode cX1_doInstruction 42 = .ok (.getfield 31, 3) := by decide +kernel
theorem dX1_doInstruction_45 : decode cX1_doInstruction 45 = .ok (.i2l, 1) := by decide +kernel
theorem dX1_doInstruction_46 : decode cX1_doInstruction 46 = .ok (.ladd, 1) := by decide +kernel
theorem dX1_doInstruction_47 : decode cX1_doInstruction 47 = .ok (.putfield 27, 3) := by decide +kernel
theorem dX1_doInstruction_50 : decode cX1_doInstruction 50 = .ok (.aload_n 0, 1) := by decide +kernel
theorem dX1_doInstruction_51 : decode cX1_doInstruction 51 = .ok (.getfield 31, 3) := by decide +kernel
theorem dX1_doInstruction_54 : decode cX1_doInstruction 54 = .ok (.ireturn, 1) := by decide +kernel
theorem dX1_stepUp_0 : decode cX1_stepUp 0 = .ok (.aload_n 0, 1) := by decide +kernel
theorem dX1_stepUp_1 : decode cX1_stepUp 1 = .ok (.getfield 13, 3) := by decide +kernel
theorem dX1_stepUp_4 : decode cX1_stepUp 4 = .ok (.iload_n 1, 1) := by decide +kernel
theorem dX1_stepUp_5 : decode cX1_stepUp 5 = .ok (.iaload, 1) := by decide +kernel
theorem dX1_stepUp_6 : decode cX1_stepUp 6 = .ok (.istore_n 3, 1) := by decide +kernel
theorem dX1_stepUp_7 : decode cX1_stepUp 7 = .ok (.aload_n 0, 1) := by decide +kernel
theorem dX1_stepUp_8 : decode cX1_stepUp 8 = .ok (.getfield 13, 3) := by decide +kernel
theorem dX1_stepUp_11 : decode cX1_stepUp 11 = .ok (.iload_n 1, 1) := by decide +kernel
theorem dX1_stepUp_12 : decode cX1_stepUp 12 = .ok (.iload_n 3, 1) := by decide +kernel
theorem dX1_stepUp_13 : decode cX1_stepUp 13 = .ok (.iload_n 2, 1) := by decide +kernel
theorem dX1_stepUp_14 : decode cX1_stepUp 14 = .ok (.iadd, 1) := by decide +kernel
theorem dX1_stepUp_15 : decode cX1_stepUp 15 = .ok (.ldc 41, 2) := by decide +kernel
theorem dX1_stepUp_17 : decode cX1_stepUp 17 = .ok (.iand, 1) := by decide +kernel
theorem dX1_stepUp_18 : decode cX1_stepUp 18 = .ok (.iastore, 1) := by decide +kernel
theorem dX1_stepUp_19 : decode cX1_stepUp 19 = .ok (.iload_n 3, 1) := by decide +kernel
theorem dX1_stepUp_20 : decode cX1_stepUp 20 = .ok (.ireturn, 1) := by decide +kernel
theorem dX1_readWord_0 : decode cX1_readWord 0 = .ok (.iload_n 1, 1) := by decide +kernel
theorem dX1_readWord_1 : decode cX1_readWord 1 = .ok (.iconst 1, 1) := by decide +kernel
theorem dX1_readWord_2 : decode cX1_readWord 2 = .ok (.iand, 1) := by decide +kernel
theorem dX1_readWord_3 : decode cX1_readWord 3 = .ok (.ifCond .eq 10, 3) := by decide +kernel
theorem dX1_readWord_6 : decode cX1_readWord 6 = .ok (.aload_n 0, 1) := by decide +kernel
theorem dX1_readWord_7 : decode cX1_readWord 7 = .ok (.iconst 3, 1) := by decide +kernel
theorem dX1_readWord_8 : decode cX1_readWord 8 = .ok (.putfield 23, 3) := by decide +kernel
theorem dX1_readWord_11 : decode cX1_readWord 11 = .ok (.iconst (-1), 1) := by decide +kernel
theorem dX1_readWord_12 : decode cX1_readWord 12 = .ok (.ireturn, 1) := by decide +kernel
theorem dX1_readWord_13 : decode cX1_readWord 13 = .ok (.iload_n 1, 1) := by decide +kernel
theorem dX1_readWord_14 : decode cX1_readWord 14 = .ok (.sipush 4096, 3) := by decide +kernel
theorem dX1_readWord_17 : decode cX1_readWord 17 = .ok (.if_icmp .lt 10, 3) := by decide +kernel
theorem dX1_readWord_20 : decode cX1_readWord 20 = .ok (.aload_n 0, 1) := by decide +kernel
theorem dX1_readWord_21 : decode cX1_readWord 21 = .ok (.iconst 4, 1) := by decide +kernel
theorem dX1_readWord_22 : decode cX1_readWord 22 = .ok (.putfield 23, 3) := by decide +kernel
theorem dX1_readWord_25 : decode cX1_readWord 25 = .ok (.iconst (-1), 1) := by decide +kernel
theorem dX1_readWord_26 : decode cX1_readWord 26 = .ok (.ireturn, 1) := by decide +kernel
theorem dX1_readWord_27 : decode cX1_readWord 27 = .ok (.aload_n 0, 1) := by decide +kernel
theorem dX1_readWord_28 : decode cX1_readWord 28 = .ok (.getfield 9, 3) := by decide +kernel
theorem dX1_readWord_31 : decode cX1_readWord 31 = .ok (.iload_n 1, 1) := by decide +kernel
theorem dX1_readWord_32 : decode cX1_readWord 32 = .ok (.iconst 1, 1) := by decide +kernel
theorem dX1_readWord_33 : decode cX1_readWord 33 = .ok (.ishr, 1) := by decide +kernel
theorem dX1_readWord_34 : decode cX1_readWord 34 = .ok (.iaload, 1) := by decide +kernel
theorem dX1_readWord_35 : decode cX1_readWord 35 = .ok (.ireturn, 1) := by decide +kernel
theorem dX1_perform_0 : decode cX1_perform 0 = .ok (.iload_n 1, 1) := by decide +kernel
theorem dX1_perform_1 : decode cX1_perform 1 = .ok (.invokestatic 69, 3) := by decide +kernel
theorem dX1_perform_4 : decode cX1_perform 4 = .ok (.ifCond .eq 11, 3) := by decide +kernel
theorem dX1_perform_7 : decode cX1_perform 7 = .ok (.aload_n 0, 1) := by decide +kernel
theorem dX1_perform_8 : decode cX1_perform 8 = .ok (.iload_n 1, 1) := by decide +kernel
theorem dX1_perform_9 : decode cX1_perform 9 = .ok (.invokevirtual 72, 3) := by decide +kernel
theorem dX1_perform_12 : decode cX1_perform 12 = .ok (.goto 136, 3) := by decide +kernel
theorem dX1_perform_15 : decode cX1_perform 15 = .ok (.iload_n 1, 1) := by decide +kernel
theorem dX1_perform_16 : decode cX1_perform 16 = .ok (.invokestatic 75, 3) := by decide +kernel
theorem dX1_perform_19 : decode cX1_perform 19 = .ok (.ifCond .eq 11, 3) := by decide +kernel
theorem dX1_perform_22 : decode cX1_perform 22 = .ok (.aload_n 0, 1) := by decide +kernel
theorem dX1_perform_23 : decode cX1_perform 23 = .ok (.iload_n 1, 1) := by decide +kernel
theorem dX1_perform_24 : decode cX1_perform 24 = .ok (.invokevirtual 78, 3) := by decide +kernel
theorem dX1_perform_27 : decode cX1_perform 27 = .ok (.goto 121, 3) := by decide +kernel
theorem dX1_perform_30 : decode cX1_perform 30 = .ok (.iload_n 1, 1) := by decide +kernel
theorem dX1_perform_31 : decode cX1_perform 31 = .ok (.invokestatic 81, 3) := by decide +kernel
theorem dX1_perform_34 : decode cX1_perform 34 = .ok (.ifCond .eq 11, 3) := by decide +kernel
theorem dX1_perform_37 : decode cX1_perform 37 = .ok (.aload_n 0, 1) := by decide +kernel
theorem dX1_perform_38 : decode cX1_perform 38 = .ok (.iload_n 1, 1) := by decide +kernel
theorem dX1_perform_39 : decode cX1_perform 39 = .ok (.invokevirtual 84, 3) := by decide +kernel
theorem dX1_perform_42 : decode cX1_perform 42 = .ok (.goto 106, 3) := by decide +kernel
theorem dX1_perform_45 : decode cX1_perform 45 = .ok (.iload_n 1, 1) := by decide +kernel
theorem dX1_perform_46 : decode cX1_perform 46 = .ok (.bipush 9, 2) := by decide +kernel
theorem dX1_perform_48 : decode cX1_perform 48 = .ok (.ishr, 1) := by decide +kernel
theorem dX1_perform_49 : decode cX1_perform 49 = .ok (.bipush 63, 2) := by decide +kernel
theorem dX1_perform_51 : decode cX1_perform 51 = .ok (.if_icmp .ne 11, 3) := by decide +kernel
theorem dX1_perform_54 : decode cX1_perform 54 = .ok (.aload_n 0, 1) := by decide +kernel
theorem dX1_perform_55 : decode cX1_perform 55 = .ok (.iload_n 1, 1) := by decide +kernel
theorem dX1_perform_56 : decode cX1_perform 56 = .ok (.invokevirtual 87, 3) := by decide +kernel
theorem dX1_perform_59 : decode cX1_perform 59 = .ok (.goto 89, 3) := by decide +kernel
theorem dX1_perform_62 : decode cX1_perform 62 = .ok (.iload_n 1, 1) := by decide +kernel
theorem dX1_perform_63 : decode cX1_perform 63 = .ok (.bipush 6, 2) := by decide +kernel
theorem dX1_perform_65 : decode cX1_perform 65 = .ok (.ishr, 1) := by decide +kernel
theorem dX1_perform_66 : decode cX1_perform 66 = .ok (.iconst 1, 1) := by decide +kernel
theorem dX1_perform_67 : decode cX1_perform 67 = .ok (.if_icmp .ne 11, 3) := by decide +kernel
theorem dX1_perform_70 : decode cX1_perform 70 = .ok (.aload_n 0, 1) := by decide +kernel
theorem dX1_perform_71 : decode cX1_perform 71 = .ok (.iload_n 1, 1) := by decide +kernel
theorem dX1_perform_72 : decode cX1_perform 72 = .ok (.invokevirtual 90, 3) := by decide +kernel
theorem dX1_perform_75 : decode cX1_perform 75 = .ok (.goto 73, 3) := by decide +kernel
theorem dX1_perform_78 : decode cX1_perform 78 = .ok (.iload_n 1, 1) := by decide +kernel
theorem dX1_perform_79 : decode cX1_perform 79 = .ok (.bipush 9, 2) := by decide +kernel
theorem dX1_perform_81 : decode cX1_perform 81 = .ok (.ishr, 1) := by decide +kernel
theorem dX1_perform_82 : decode cX1_perform 82 = .ok (.iconst 4, 1) := by decide +kernel
theorem dX1_perform_83 : decode cX1_perform 83 = .ok (.if_icmp .ne 11, 3) := by decide +kernel
theorem dX1_perform_86 : decode cX1_perform 86 = .ok (.aload_n 0, 1) := by decide +kernel
theorem dX1_perform_87 : decode cX1_perform 87 = .ok (.iload_n 1, 1) := by decide +kernel
theorem dX1_perform_88 : decode cX1_perform 88 = .ok (.invokevirtual 93, 3) := by decide +kernel
theorem dX1_perform_91 : decode cX1_perform 91 = .ok (.goto 57, 3) := by decide +kernel
theorem dX1_perform_94 : decode cX1_perform 94 = .ok (.iload_n 1, 1) := by decide +kernel
theorem dX1_perform_95 : decode cX1_perform 95 = .ok (.iconst 3, 1) := by decide +kernel
theorem dX1_perform_96 : decode cX1_perform 96 = .ok (.ishr, 1) := by decide +kernel
theorem dX1_perform_97 : decode cX1_perform 97 = .ok (.bipush 16, 2) := by decide +kernel
theorem dX1_perform_99 : decode cX1_perform 99 = .ok (.if_icmp .ne 14, 3) := by decide +kernel
theorem dX1_perform_102 : decode cX1_perform 102 = .ok (.aload_n 0, 1) := by decide +kernel
theorem dX1_perform_103 : decode cX1_perform 103 = .ok (.iload_n 1, 1) := by decide +kernel
theorem dX1_perform_104 : decode cX1_perform 104 = .ok (.bipush 7, 2) := by decide +kernel
theorem dX1_perform_106 : decode cX1_perform 106 = .ok (.iand, 1) := by decide +kernel
theorem dX1_perform_107 : decode cX1_perform 107 = .ok (.invokevirtual 96, 3) := by decide +kernel
theorem dX1_perform_110 : decode cX1_perform 110 = .ok (.goto 38, 3) := by decide +kernel
theorem dX1_perform_113 : decode cX1_perform 113 = .ok (.iload_n 1, 1) := by decide +kernel
theorem dX1_perform_114 : decode cX1_perform 114 = .ok (.sipush 160, 3) := by decide +kernel
theorem dX1_perform_117 : decode cX1_perform 117 = .ok (.if_icmp .lt 18, 3) := by decide +kernel
theorem dX1_perform_120 : decode cX1_perform 120 = .ok (.iload_n 1, 1) := by decide +kernel
theorem dX1_perform_121 : decode cX1_perform 121 = .ok (.sipush 191, 3) := by decide +kernel
theorem dX1_perform_124 : decode cX1_perform 124 = .ok (.if_icmp .gt 11, 3) := by decide +kernel
theorem dX1_perform_127 : decode cX1_perform 127 = .ok (.aload_n 0, 1) := by decide +kernel
theorem dX1_perform_128 : decode cX1_perform 128 = .ok (.iload_n 1, 1) := by decide +kernel
theorem dX1_perform_129 : decode cX1_perform 129 = .ok (.invokevirtual 99, 3) := by decide +kernel
theorem dX1_perform_132 : decode cX1_perform 132 = .ok (.goto 16, 3) := by decide +kernel
theorem dX1_perform_135 : decode cX1_perform 135 = .ok (.aload_n 0, 1) := by decide +kernel
theorem dX1_perform_136 : decode cX1_perform 136 = .ok (.iload_n 1, 1) := by decide +kernel
theorem dX1_perform_137 : decode cX1_perform 137 = .ok (.ifCond .ne 7, 3) := by decide +kernel
theorem dX1_perform_140 : decode cX1_perform 140 = .ok (.iconst 1, 1) := by decide +kernel
theorem dX1_perform_141 : decode cX1_perform 141 = .ok (.goto 4, 3) := by decide +kernel
theorem dX1_perform_144 : decode cX1_perform 144 = .ok (.iconst 2, 1) := by decide +kernel
theorem dX1_perform_145 : decode cX1_perform 145 = .ok (.putfield 23, 3) := by decide +kernel
theorem dX1_perform_148 : decode cX1_perform 148 = .ok (.return_, 1) := by decide +kernel
theorem dX1_isOfTwoOperands_0 : decode cX1_isOfTwoOperands 0 = .ok (.iload_n 0, 1) := by decide +kernel
theorem dX1_isOfTwoOperands_1 : decode cX1_isOfTwoOperands 1 = .ok (.bipush 12, 2) := by decide +kernel
theorem dX1_isOfTwoOperands_3 : decode cX1_isOfTwoOperands 3 = .ok (.ishr, 1) := by decide +kernel
theorem dX1_isOfTwoOperands_4 : decode cX1_isOfTwoOperands 4 = .ok (.bipush 7, 2) := by decide +kernel
theorem dX1_isOfTwoOperands_6 : decode cX1_isOfTwoOperands 6 = .ok (.iand, 1) := by decide +kernel
theorem dX1_isOfTwoOperands_7 : decode cX1_isOfTwoOperands 7 = .ok (.istore_n 1, 1) := by decide +kernel
theorem dX1_isOfTwoOperands_8 : decode cX1_isOfTwoOperands 8 = .ok (.iload_n 1, 1) := by decide +kernel
theorem dX1_isOfTwoOperands_9 : decode cX1_isOfTwoOperands 9 = .ok (.iconst 1, 1) := by decide +kernel
theorem dX1_isOfTwoOperands_10 : decode cX1_isOfTwoOperands 10 = .ok (.if_icmp .lt 13, 3) := by decide +kernel
theorem dX1_isOfTwoOperands_13 : decode cX1_isOfTwoOperands 13 = .ok (.iload_n 1, 1) := by decide +kernel
theorem dX1_isOfTwoOperands_14 : decode cX1_isOfTwoOperands 14 = .ok (.bipush 6, 2) := by decide +kernel
theorem dX1_isOfTwoOperands_16 : decode cX1_isOfTwoOperands 16 = .ok (.if_icmp .gt 7, 3) := by decide +kernel
theorem dX1_isOfTwoOperands_19 : decode cX1_isOfTwoOperands 19 = .ok (.iconst 1, 1) := by decide +kernel
theorem dX1_isOfTwoOperands_20 : decode cX1_isOfTwoOperands 20 = .ok (.goto 4, 3) := by decide +kernel
theorem dX1_isOfTwoOperands_23 : decode cX1_isOfTwoOperands 23 = .ok (.iconst 0, 1) := by decide +kernel
theorem dX1_isOfTwoOperands_24 : decode cX1_isOfTwoOperands 24 = .ok (.ireturn, 1) := by decide +kernel
theorem dX1_doTwoOperands_0 : decode cX1_doTwoOperands 0 = .ok (.iload_n 1, 1) := by decide +kernel
theorem dX1_doTwoOperands_1 : decode cX1_doTwoOperands 1 = .ok (.bipush 12, 2) := by decide +kernel
theorem dX1_doTwoOperands_3 : decode cX1_doTwoOperands 3 = .ok (.ishr, 1) := by decide +kernel
theorem dX1_doTwoOperands_4 : decode cX1_doTwoOperands 4 = .ok (.bipush 14, 2) := by decide +kernel
theorem dX1_doTwoOperands_6 : decode cX1_doTwoOperands 6 = .ok (.if_icmp .ne 7, 3) := by decide +kernel
theorem dX1_doTwoOperands_9 : decode cX1_doTwoOperands 9 = .ok (.iconst 1, 1) := by decide +kernel
theorem dX1_doTwoOperands_10 : decode cX1_doTwoOperands 10 = .ok (.goto 4, 3) := by decide +kernel
theorem dX1_doTwoOperands_13 : decode cX1_doTwoOperands 13 = .ok (.iconst 0, 1) := by decide +kernel
theorem dX1_doTwoOperands_14 : decode cX1_doTwoOperands 14 = .ok (.istore_n 2, 1) := by decide +kernel
theorem dX1_doTwoOperands_15 : decode cX1_doTwoOperands 15 = .ok (.iload_n 2, 1) := by decide +kernel
theorem dX1_doTwoOperands_16 : decode cX1_doTwoOperands 16 = .ok (.ifCond .ne 14, 3) := by decide +kernel
theorem dX1_doTwoOperands_19 : decode cX1_doTwoOperands 19 = .ok (.iload_n 1, 1) := by decide +kernel
theorem dX1_doTwoOperands_20 : decode cX1_doTwoOperands 20 = .ok (.ldc 103, 2) := by decide +kernel
theorem dX1_doTwoOperands_22 : decode cX1_doTwoOperands 22 = .ok (.iand, 1) := by decide +kernel
theorem dX1_doTwoOperands_23 : decode cX1_doTwoOperands 23 = .ok (.ifCond .eq 7, 3) := by decide +kernel
theorem dX1_doTwoOperands_26 : decode cX1_doTwoOperands 26 = .ok (.iconst 1, 1) := by decide +kernel
theorem dX1_doTwoOperands_27 : decode cX1_doTwoOperands 27 = .ok (.goto 4, 3) := by decide +kernel
theorem dX1_doTwoOperands_30 : decode cX1_doTwoOperands 30 = .ok (.iconst 0, 1) := by decide +kernel
theorem dX1_doTwoOperands_31 : decode cX1_doTwoOperands 31 = .ok (.istore_n 3, 1) := by decide +kernel
theorem dX1_doTwoOperands_32 : decode cX1_doTwoOperands 32 = .ok (.aload_n 0, 1) := by decide +kernel
theorem dX1_doTwoOperands_33 : decode cX1_doTwoOperands 33 = .ok (.iload_n 1, 1) := by decide +kernel
theorem dX1_doTwoOperands_34 : decode cX1_doTwoOperands 34 = .ok (.bipush 6, 2) := by decide +kernel
theorem dX1_doTwoOperands_36 : decode cX1_doTwoOperands 36 = .ok (.ishr, 1) := by decide +kernel
theorem dX1_doTwoOperands_37 : decode cX1_doTwoOperands 37 = .ok (.bipush 63, 2) := by decide +kernel
theorem dX1_doTwoOperands_39 : decode cX1_doTwoOperands 39 = .ok (.iand, 1) := by decide +kernel
theorem dX1_doTwoOperands_40 : decode cX1_doTwoOperands 40 = .ok (.iload_n 3, 1) := by decide +kernel
theorem dX1_doTwoOperands_41 : decode cX1_doTwoOperands 41 = .ok (.invokevirtual 104, 3) := by decide +kernel
theorem dX1_doTwoOperands_44 : decode cX1_doTwoOperands 44 = .ok (.istore 4, 2) := by decide +kernel
theorem dX1_doTwoOperands_46 : decode cX1_doTwoOperands 46 = .ok (.iload 4, 2) := by decide +kernel
theorem dX1_doTwoOperands_48 : decode cX1_doTwoOperands 48 = .ok (.iconst (-1), 1) := by decide +kernel
theorem dX1_doTwoOperands_49 : decode cX1_doTwoOperands 49 = .ok (.if_icmp .ne 4, 3) := by decide +kernel
theorem dX1_doTwoOperands_52 : decode cX1_doTwoOperands 52 = .ok (.return_, 1) := by decide +kernel
theorem dX1_doTwoOperands_53 : decode cX1_doTwoOperands 53 = .ok (.aload_n 0, 1) := by decide +kernel
theorem dX1_doTwoOperands_54 : decode cX1_doTwoOperands 54 = .ok (.iload_n 1, 1) := by decide +kernel
theorem dX1_doTwoOperands_55 : decode cX1_doTwoOperands 55 = .ok (.bipush 63, 2) := by decide +kernel
theorem dX1_doTwoOperands_57 : decode cX1_doTwoOperands 57 = .ok (.iand, 1) := by decide +kernel
theorem dX1_doTwoOperands_58 : decode cX1_doTwoOperands 58 = .ok (.iload_n 3, 1) := by decide +kernel
theorem dX1_doTwoOperands_59 : decode cX1_doTwoOperands 59 = .ok (.invokevirtual 104, 3) := by decide +kernel
theorem dX1_doTwoOperands_62 : decode cX1_doTwoOperands 62 = .ok (.istore 5, 2) := by decide +kernel
theorem dX1_doTwoOperands_64 : decode cX1_doTwoOperands 64 = .ok (.iload 5, 2) := by decide +kernel
theorem dX1_doTwoOperands_66 : decode cX1_doTwoOperands 66 = .ok (.iconst (-1), 1) := by decide +kernel
theorem dX1_doTwoOperands_67 : decode cX1_doTwoOperands 67 = .ok (.if_icmp .ne 4, 3) := by decide +kernel
theorem dX1_doTwoOperands_70 : decode cX1_doTwoOperands 70 = .ok (.return_, 1) := by decide +kernel
theorem dX1_doTwoOperands_71 : decode cX1_doTwoOperands 71 = .ok (.iload_n 2, 1) := by decide +kernel
theorem dX1_doTwoOperands_72 : decode cX1_doTwoOperands 72 = .ok (.ifCond .eq 8, 3) := by decide +kernel
theorem dX1_doTwoOperands_75 : decode cX1_doTwoOperands 75 = .ok (.bipush 14, 2) := by decide +kernel
theorem dX1_doTwoOperands_77 : decode cX1_doTwoOperands 77 = .ok (.goto 10, 3) := by decide +kernel
theorem dX1_doTwoOperands_80 : decode cX1_doTwoOperands 80 = .ok (.iload_n 1, 1) := by decide +kernel
theorem dX1_doTwoOperands_81 : decode cX1_doTwoOperands 81 = .ok (.bipush 12, 2) := by decide +kernel
theorem dX1_doTwoOperands_83 : decode cX1_doTwoOperands 83 = .ok (.ishr, 1) := by decide +kernel
theorem dX1_doTwoOperands_84 : decode cX1_doTwoOperands 84 = .ok (.bipush 7, 2) := by decide +kernel
theorem dX1_doTwoOperands_86 : decode cX1_doTwoOperands 86 = .ok (.iand, 1) := by decide +kernel
theorem dX1_doTwoOperands_87 : decode cX1_doTwoOperands 87 = .ok (.istore 6, 2) := by decide +kernel
theorem dX1_doTwoOperands_89 : decode cX1_doTwoOperands 89 = .ok (.aload_n 0, 1) := by decide +kernel
theorem dX1_doTwoOperands_90 : decode cX1_doTwoOperands 90 = .ok (.getfield 19, 3) := by decide +kernel
theorem dX1_doTwoOperands_93 : decode cX1_doTwoOperands 93 = .ok (.iload_n 3, 1) := by decide +kernel
theorem dX1_doTwoOperands_94 : decode cX1_doTwoOperands 94 = .ok (.invokevirtual 108, 3) := by decide +kernel
theorem dX1_doTwoOperands_97 : decode cX1_doTwoOperands 97 = .ok (.aload_n 0, 1) := by decide +kernel
theorem dX1_doTwoOperands_98 : decode cX1_doTwoOperands 98 = .ok (.getfield 19, 3) := by decide +kernel
theorem dX1_doTwoOperands_101 : decode cX1_doTwoOperands 101 = .ok (.iload 6, 2) := by decide +kernel
theorem dX1_doTwoOperands_103 : decode cX1_doTwoOperands 103 = .ok (.iload 4, 2) := by decide +kernel
theorem dX1_doTwoOperands_105 : decode cX1_doTwoOperands 105 = .ok (.iload 5, 2) := by decide +kernel
theorem dX1_doTwoOperands_107 : decode cX1_doTwoOperands 107 = .ok (.invokevirtual 112, 3) := by decide +kernel
theorem dX1_doTwoOperands_110 : decode cX1_doTwoOperands 110 = .ok (.istore 7, 2) := by decide +kernel
theorem dX1_doTwoOperands_112 : decode cX1_doTwoOperands 112 = .ok (.aload_n 0, 1) := by decide +kernel
theorem dX1_doTwoOperands_113 : decode cX1_doTwoOperands 113 = .ok (.dup, 1) := by decide +kernel
theorem dX1_doTwoOperands_114 : decode cX1_doTwoOperands 114 = .ok (.getfield 31, 3) := by decide +kernel
theorem dX1_doTwoOperands_117 : decode cX1_doTwoOperands 117 = .ok (.iconst 1, 1) := by decide +kernel
theorem dX1_doTwoOperands_118 : decode cX1_doTwoOperands 118 = .ok (.iadd, 1) := by decide +kernel
theorem dX1_doTwoOperands_119 : decode cX1_doTwoOperands 119 = .ok (.putfield 31, 3) := by decide +kernel
theorem dX1_doTwoOperands_122 : decode cX1_doTwoOperands 122 = .ok (.iload 6, 2) := by decide +kernel
theorem dX1_doTwoOperands_124 : decode cX1_doTwoOperands 124 = .ok (.iconst 1, 1) := by decide +kernel
theorem dX1_doTwoOperands_125 : decode cX1_doTwoOperands 125 = .ok (.if_icmp .ne 28, 3) := by decide +kernel
theorem dX1_doTwoOperands_128 : decode cX1_doTwoOperands 128 = .ok (.iload_n 3, 1) := by decide +kernel
theorem dX1_doTwoOperands_129 : decode cX1_doTwoOperands 129 = .ok (.ifCond .eq 24, 3) := by decide +kernel
theorem dX1_doTwoOperands_132 : decode cX1_doTwoOperands 132 = .ok (.aload_n 0, 1) := by decide +kernel
theorem dX1_doTwoOperands_133 : decode cX1_doTwoOperands 133 = .ok (.getfield 34, 3) := by decide +kernel
theorem dX1_doTwoOperands_136 : decode cX1_doTwoOperands 136 = .ok (.iconst (-1), 1) := by decide +kernel
theorem dX1_doTwoOperands_137 : decode cX1_doTwoOperands 137 = .ok (.if_icmp .ne 16, 3) := by decide +kernel
theorem dX1_doTwoOperands_140 : decode cX1_doTwoOperands 140 = .ok (.aload_n 0, 1) := by decide +kernel
theorem dX1_doTwoOperands_141 : decode cX1_doTwoOperands 141 = .ok (.iload_n 1, 1) := by decide +kernel
theorem dX1_doTwoOperands_142 : decode cX1_doTwoOperands 142 = .ok (.bipush 7, 2) := by decide +kernel
theorem dX1_doTwoOperands_144 : decode cX1_doTwoOperands 144 = .ok (.iand, 1) := by decide +kernel
theorem dX1_doTwoOperands_145 : decode cX1_doTwoOperands 145 = .ok (.iload 7, 2) := by decide +kernel
theorem dX1_doTwoOperands_147 : decode cX1_doTwoOperands 147 = .ok (.invokevirtual 116, 3) := by decide +kernel
theorem dX1_doTwoOperands_150 : decode cX1_doTwoOperands 150 = .ok (.goto 26, 3) := by decide +kernel
theorem dX1_doTwoOperands_153 : decode cX1_doTwoOperands 153 = .ok (.iload 6, 2) := by decide +kernel
theorem dX1_doTwoOperands_155 : decode cX1_doTwoOperands 155 = .ok (.iconst 2, 1) := by decide +kernel
theorem dX1_doTwoOperands_156 : decode cX1_doTwoOperands 156 = .ok (.if_icmp .eq 20, 3) := by decide +kernel
theorem dX1_doTwoOperands_159 : decode cX1_doTwoOperands 159 = .ok (.iload 6, 2) := by decide +kernel
theorem dX1_doTwoOperands_161 : decode cX1_doTwoOperands 161 = .ok (.iconst 3, 1) := by decide +kernel
theorem dX1_doTwoOperands_162 : decode cX1_doTwoOperands 162 = .ok (.if_icmp .eq 14, 3) := by decide +kernel
theorem dX1_doTwoOperands_165 : decode cX1_doTwoOperands 165 = .ok (.aload_n 0, 1) := by decide +kernel
theorem dX1_doTwoOperands_166 : decode cX1_doTwoOperands 166 = .ok (.iload_n 1, 1) := by decide +kernel
theorem dX1_doTwoOperands_167 : decode cX1_doTwoOperands 167 = .ok (.bipush 7, 2) := by decide +kernel
theorem dX1_doTwoOperands_169 : decode cX1_doTwoOperands 169 = .ok (.iand, 1) := by decide +kernel
theorem dX1_doTwoOperands_170 : decode cX1_doTwoOperands 170 = .ok (.iload 7, 2) := by decide +kernel
theorem dX1_doTwoOperands_172 : decode cX1_doTwoOperands 172 = .ok (.iload_n 3, 1) := by decide +kernel
theorem dX1_doTwoOperands_173 : decode cX1_doTwoOperands 173 = .ok (.invokevirtual 120, 3) := by decide +kernel
theorem dX1_doTwoOperands_176 : decode cX1_doTwoOperands 176 = .ok (.return_, 1) := by decide +kernel
theorem dX1_readOperand_0 : decode cX1_readOperand 0 = .ok (.iload_n 1, 1) := by decide +kernel
theorem dX1_readOperand_1 : decode cX1_readOperand 1 = .ok (.iconst 3, 1) := by decide +kernel
theorem dX1_readOperand_2 : decode cX1_readOperand 2 = .ok (.ishr, 1) := by decide +kernel
theorem dX1_readOperand_3 : decode cX1_readOperand 3 = .ok (.istore_n 3, 1) := by decide +kernel
theorem dX1_readOperand_4 : decode cX1_readOperand 4 = .ok (.iload_n 1, 1) := by decide +kernel
theorem dX1_readOperand_5 : decode cX1_readOperand 5 = .ok (.bipush 7, 2) := by decide +kernel
theorem dX1_readOperand_7 : decode cX1_readOperand 7 = .ok (.iand, 1) := by decide +kernel
theorem dX1_readOperand_8 : decode cX1_readOperand 8 = .ok (.istore 4, 2) := by decide +kernel
theorem dX1_readOperand_10 : decode cX1_readOperand 10 = .ok (.aload_n 0, 1) := by decide +kernel
theorem dX1_readOperand_11 : decode cX1_readOperand 11 = .ok (.dup, 1) := by decide +kernel
theorem dX1_readOperand_12 : decode cX1_readOperand 12 = .ok (.getfield 31, 3) := by decide +kernel
theorem dX1_readOperand_15 : decode cX1_readOperand 15 = .ok (.getstatic 143, 3) := by decide +kernel
theorem dX1_readOperand_18 : decode cX1_readOperand 18 = .ok (.iload_n 3, 1) := by decide +kernel
theorem dX1_readOperand_19 : decode cX1_readOperand 19 = .ok (.iaload, 1) := by decide +kernel
theorem dX1_readOperand_20 : decode cX1_readOperand 20 = .ok (.iadd, 1) := by decide +kernel
theorem dX1_readOperand_21 : decode cX1_readOperand 21 = .ok (.putfield 31, 3) := by decide +kernel
theorem dX1_readOperand_24 : decode cX1_readOperand 24 = .ok (.iload_n 3, 1) := by decide +kernel
theorem dX1_readOperand_25 : decode cX1_readOperand 25 = .ok (.ifCond .ne 34, 3) := by decide +kernel
theorem dX1_readOperand_28 : decode cX1_readOperand 28 = .ok (.aload_n 0, 1) := by decide +kernel
theorem dX1_readOperand_29 : decode cX1_readOperand 29 = .ok (.iconst (-1), 1) := by decide +kernel
theorem dX1_readOperand_30 : decode cX1_readOperand 30 = .ok (.putfield 34, 3) := by decide +kernel
theorem dX1_readOperand_33 : decode cX1_readOperand 33 = .ok (.iload_n 2, 1) := by decide +kernel
theorem dX1_readOperand_34 : decode cX1_readOperand 34 = .ok (.ifCond .eq 17, 3) := by decide +kernel
theorem dX1_readOperand_37 : decode cX1_readOperand 37 = .ok (.aload_n 0, 1) := by decide +kernel
theorem dX1_readOperand_38 : decode cX1_readOperand 38 = .ok (.getfield 13, 3) := by decide +kernel
theorem dX1_readOperand_41 : decode cX1_readOperand 41 = .ok (.iload 4, 2) := by decide +kernel
theorem dX1_readOperand_43 : decode cX1_readOperand 43 = .ok (.iaload, 1) := by decide +kernel
theorem dX1_readOperand_44 : decode cX1_readOperand 44 = .ok (.sipush 255, 3) := by decide +kernel
theorem dX1_readOperand_47 : decode cX1_readOperand 47 = .ok (.iand, 1) := by decide +kernel
theorem dX1_readOperand_48 : decode cX1_readOperand 48 = .ok (.goto 10, 3) := by decide +kernel
theorem dX1_readOperand_51 : decode cX1_readOperand 51 = .ok (.aload_n 0, 1) := by decide +kernel
theorem dX1_readOperand_52 : decode cX1_readOperand 52 = .ok (.getfield 13, 3) := by decide +kernel
theorem dX1_readOperand_55 : decode cX1_readOperand 55 = .ok (.iload 4, 2) := by decide +kernel
theorem dX1_readOperand_57 : decode cX1_readOperand 57 = .ok (.iaload, 1) := by decide +kernel
theorem dX1_readOperand_58 : decode cX1_readOperand 58 = .ok (.ireturn, 1) := by decide +kernel
theorem dX1_readOperand_59 : decode cX1_readOperand 59 = .ok (.aload_n 0, 1) := by decide +kernel
theorem dX1_readOperand_60 : decode cX1_readOperand 60 = .ok (.aload_n 0, 1) := by decide +kernel
theorem dX1_readOperand_61 : decode cX1_readOperand 61 = .ok (.iload_n 3, 1) := by decide +kernel
theorem dX1_readOperand_62 : decode cX1_readOperand 62 = .ok (.iload 4, 2) := by decide +kernel
theorem dX1_readOperand_64 : decode cX1_readOperand 64 = .ok (.iload_n 2, 1) := by decide +kernel
theorem dX1_readOperand_65 : decode cX1_readOperand 65 = .ok (.ifCond .eq 14, 3) := by decide +kernel
end
section
theorem dX1_readOperand_68 : decode cX1_readOperand 68 = .ok (.iload 4, 2) := by decide +kernel
theorem dX1_readOperand_70 : decode cX1_readOperand 70 = .ok (.bipush 6, 2) := by decide +kernel
theorem dX1_readOperand_72 : decode cX1_readOperand 72 = .ok (.if_icmp .ge 7, 3) := by decide +kernel
theorem dX1_readOperand_75 : decode cX1_readOperand 75 = .ok (.iconst 1, 1) := by decide +kernel
theorem dX1_readOperand_76 : decode cX1_readOperand 76 = .ok (.goto 4, 3) := by decide +kernel
theorem dX1_readOperand_79 : decode cX1_readOperand 79 = .ok (.iconst 2, 1) := by decide +kernel
theorem dX1_readOperand_80 : decode cX1_readOperand 80 = .ok (.invokevirtual 146, 3) := by decide +kernel
theorem dX1_readOperand_83 : decode cX1_readOperand 83 = .ok (.putfield 34, 3) := by decide +kernel
theorem dX1_readOperand_86 : decode cX1_readOperand 86 = .ok (.aload_n 0, 1) := by decide +kernel
theorem dX1_readOperand_87 : decode cX1_readOperand 87 = .ok (.getfield 34, 3) := by decide +kernel
theorem dX1_readOperand_90 : decode cX1_readOperand 90 = .ok (.iconst (-1), 1) := by decide +kernel
theorem dX1_readOperand_91 : decode cX1_readOperand 91 = .ok (.if_icmp .ne 5, 3) := by decide +kernel
theorem dX1_readOperand_94 : decode cX1_readOperand 94 = .ok (.iconst (-1), 1) := by decide +kernel
theorem dX1_readOperand_95 : decode cX1_readOperand 95 = .ok (.ireturn, 1) := by decide +kernel
theorem dX1_readOperand_96 : decode cX1_readOperand 96 = .ok (.iload_n 2, 1) := by decide +kernel
theorem dX1_readOperand_97 : decode cX1_readOperand 97 = .ok (.ifCond .eq 14, 3) := by decide +kernel
theorem dX1_readOperand_100 : decode cX1_readOperand 100 = .ok (.aload_n 0, 1) := by decide +kernel
theorem dX1_readOperand_101 : decode cX1_readOperand 101 = .ok (.aload_n 0, 1) := by decide +kernel
theorem dX1_readOperand_102 : decode cX1_readOperand 102 = .ok (.getfield 34, 3) := by decide +kernel
theorem dX1_readOperand_105 : decode cX1_readOperand 105 = .ok (.invokevirtual 149, 3) := by decide +kernel
theorem dX1_readOperand_108 : decode cX1_readOperand 108 = .ok (.goto 11, 3) := by decide +kernel
theorem dX1_readOperand_111 : decode cX1_readOperand 111 = .ok (.aload_n 0, 1) := by decide +kernel
theorem dX1_readOperand_112 : decode cX1_readOperand 112 = .ok (.aload_n 0, 1) := by decide +kernel
theorem dX1_readOperand_113 : decode cX1_readOperand 113 = .ok (.getfield 34, 3) := by decide +kernel
theorem dX1_readOperand_116 : decode cX1_readOperand 116 = .ok (.invokevirtual 61, 3) := by decide +kernel
theorem dX1_readOperand_119 : decode cX1_readOperand 119 = .ok (.ireturn, 1) := by decide +kernel
theorem dX1_findAddress_0 : decode cX1_findAddress 0 = .ok (.iload_n 1, 1) := by decide +kernel
theorem dX1_findAddress_1 : decode cX1_findAddress 1 = .ok (.tableswitch 78 1 5 #[35, 42, 49, 60, 67], 35) := by decide +kernel
theorem dX1_findAddress_36 : decode cX1_findAddress 36 = .ok (.aload_n 0, 1) := by decide +kernel
theorem dX1_findAddress_37 : decode cX1_findAddress 37 = .ok (.getfield 13, 3) := by decide +kernel
theorem dX1_findAddress_40 : decode cX1_findAddress 40 = .ok (.iload_n 2, 1) := by decide +kernel
theorem dX1_findAddress_41 : decode cX1_findAddress 41 = .ok (.iaload, 1) := by decide +kernel
theorem dX1_findAddress_42 : decode cX1_findAddress 42 = .ok (.ireturn, 1) := by decide +kernel
theorem dX1_findAddress_43 : decode cX1_findAddress 43 = .ok (.aload_n 0, 1) := by decide +kernel
theorem dX1_findAddress_44 : decode cX1_findAddress 44 = .ok (.iload_n 2, 1) := by decide +kernel
theorem dX1_findAddress_45 : decode cX1_findAddress 45 = .ok (.iload_n 3, 1) := by decide +kernel
theorem dX1_findAddress_46 : decode cX1_findAddress 46 = .ok (.invokevirtual 58, 3) := by decide +kernel
theorem dX1_findAddress_49 : decode cX1_findAddress 49 = .ok (.ireturn, 1) := by decide +kernel
theorem dX1_findAddress_50 : decode cX1_findAddress 50 = .ok (.aload_n 0, 1) := by decide +kernel
theorem dX1_findAddress_51 : decode cX1_findAddress 51 = .ok (.aload_n 0, 1) := by decide +kernel
theorem dX1_findAddress_52 : decode cX1_findAddress 52 = .ok (.iload_n 2, 1) := by decide +kernel
theorem dX1_findAddress_53 : decode cX1_findAddress 53 = .ok (.iconst 2, 1) := by decide +kernel
theorem dX1_findAddress_54 : decode cX1_findAddress 54 = .ok (.invokevirtual 58, 3) := by decide +kernel
theorem dX1_findAddress_57 : decode cX1_findAddress 57 = .ok (.invokevirtual 61, 3) := by decide +kernel
theorem dX1_findAddress_60 : decode cX1_findAddress 60 = .ok (.ireturn, 1) := by decide +kernel
theorem dX1_findAddress_61 : decode cX1_findAddress 61 = .ok (.aload_n 0, 1) := by decide +kernel
theorem dX1_findAddress_62 : decode cX1_findAddress 62 = .ok (.iload_n 2, 1) := by decide +kernel
theorem dX1_findAddress_63 : decode cX1_findAddress 63 = .ok (.iload_n 3, 1) := by decide +kernel
theorem dX1_findAddress_64 : decode cX1_findAddress 64 = .ok (.invokevirtual 133, 3) := by decide +kernel
theorem dX1_findAddress_67 : decode cX1_findAddress 67 = .ok (.ireturn, 1) := by decide +kernel
theorem dX1_findAddress_68 : decode cX1_findAddress 68 = .ok (.aload_n 0, 1) := by decide +kernel
theorem dX1_findAddress_69 : decode cX1_findAddress 69 = .ok (.aload_n 0, 1) := by decide +kernel
theorem dX1_findAddress_70 : decode cX1_findAddress 70 = .ok (.iload_n 2, 1) := by decide +kernel
theorem dX1_findAddress_71 : decode cX1_findAddress 71 = .ok (.iconst 2, 1) := by decide +kernel
theorem dX1_findAddress_72 : decode cX1_findAddress 72 = .ok (.invokevirtual 133, 3) := by decide +kernel
theorem dX1_findAddress_75 : decode cX1_findAddress 75 = .ok (.invokevirtual 61, 3) := by decide +kernel
theorem dX1_findAddress_78 : decode cX1_findAddress 78 = .ok (.ireturn, 1) := by decide +kernel
theorem dX1_findAddress_79 : decode cX1_findAddress 79 = .ok (.aload_n 0, 1) := by decide +kernel
theorem dX1_findAddress_80 : decode cX1_findAddress 80 = .ok (.aload_n 0, 1) := by decide +kernel
theorem dX1_findAddress_81 : decode cX1_findAddress 81 = .ok (.bipush 7, 2) := by decide +kernel
theorem dX1_findAddress_83 : decode cX1_findAddress 83 = .ok (.iconst 2, 1) := by decide +kernel
theorem dX1_findAddress_84 : decode cX1_findAddress 84 = .ok (.invokevirtual 58, 3) := by decide +kernel
theorem dX1_findAddress_87 : decode cX1_findAddress 87 = .ok (.invokevirtual 61, 3) := by decide +kernel
theorem dX1_findAddress_90 : decode cX1_findAddress 90 = .ok (.istore 4, 2) := by decide +kernel
theorem dX1_findAddress_92 : decode cX1_findAddress 92 = .ok (.iload 4, 2) := by decide +kernel
theorem dX1_findAddress_94 : decode cX1_findAddress 94 = .ok (.iconst (-1), 1) := by decide +kernel
theorem dX1_findAddress_95 : decode cX1_findAddress 95 = .ok (.if_icmp .ne 5, 3) := by decide +kernel
theorem dX1_findAddress_98 : decode cX1_findAddress 98 = .ok (.iconst (-1), 1) := by decide +kernel
theorem dX1_findAddress_99 : decode cX1_findAddress 99 = .ok (.ireturn, 1) := by decide +kernel
theorem dX1_findAddress_100 : decode cX1_findAddress 100 = .ok (.iload 4, 2) := by decide +kernel
theorem dX1_findAddress_102 : decode cX1_findAddress 102 = .ok (.aload_n 0, 1) := by decide +kernel
theorem dX1_findAddress_103 : decode cX1_findAddress 103 = .ok (.getfield 13, 3) := by decide +kernel
theorem dX1_findAddress_106 : decode cX1_findAddress 106 = .ok (.iload_n 2, 1) := by decide +kernel
theorem dX1_findAddress_107 : decode cX1_findAddress 107 = .ok (.iaload, 1) := by decide +kernel
theorem dX1_findAddress_108 : decode cX1_findAddress 108 = .ok (.iadd, 1) := by decide +kernel
theorem dX1_findAddress_109 : decode cX1_findAddress 109 = .ok (.ldc 41, 2) := by decide +kernel
theorem dX1_findAddress_111 : decode cX1_findAddress 111 = .ok (.iand, 1) := by decide +kernel
theorem dX1_findAddress_112 : decode cX1_findAddress 112 = .ok (.istore 5, 2) := by decide +kernel
theorem dX1_findAddress_114 : decode cX1_findAddress 114 = .ok (.iload_n 1, 1) := by decide +kernel
theorem dX1_findAddress_115 : decode cX1_findAddress 115 = .ok (.bipush 6, 2) := by decide +kernel
theorem dX1_findAddress_117 : decode cX1_findAddress 117 = .ok (.if_icmp .ne 8, 3) := by decide +kernel
theorem dX1_findAddress_120 : decode cX1_findAddress 120 = .ok (.iload 5, 2) := by decide +kernel
theorem dX1_findAddress_122 : decode cX1_findAddress 122 = .ok (.goto 9, 3) := by decide +kernel
theorem dX1_findAddress_125 : decode cX1_findAddress 125 = .ok (.aload_n 0, 1) := by decide +kernel
theorem dX1_findAddress_126 : decode cX1_findAddress 126 = .ok (.iload 5, 2) := by decide +kernel
theorem dX1_findAddress_128 : decode cX1_findAddress 128 = .ok (.invokevirtual 61, 3) := by decide +kernel
theorem dX1_findAddress_131 : decode cX1_findAddress 131 = .ok (.ireturn, 1) := by decide +kernel
theorem dX1_stepDown_0 : decode cX1_stepDown 0 = .ok (.aload_n 0, 1) := by decide +kernel
theorem dX1_stepDown_1 : decode cX1_stepDown 1 = .ok (.getfield 13, 3) := by decide +kernel
theorem dX1_stepDown_4 : decode cX1_stepDown 4 = .ok (.iload_n 1, 1) := by decide +kernel
theorem dX1_stepDown_5 : decode cX1_stepDown 5 = .ok (.aload_n 0, 1) := by decide +kernel
theorem dX1_stepDown_6 : decode cX1_stepDown 6 = .ok (.getfield 13, 3) := by decide +kernel
theorem dX1_stepDown_9 : decode cX1_stepDown 9 = .ok (.iload_n 1, 1) := by decide +kernel
theorem dX1_stepDown_10 : decode cX1_stepDown 10 = .ok (.iaload, 1) := by decide +kernel
theorem dX1_stepDown_11 : decode cX1_stepDown 11 = .ok (.iload_n 2, 1) := by decide +kernel
theorem dX1_stepDown_12 : decode cX1_stepDown 12 = .ok (.isub, 1) := by decide +kernel
theorem dX1_stepDown_13 : decode cX1_stepDown 13 = .ok (.ldc 41, 2) := by decide +kernel
theorem dX1_stepDown_15 : decode cX1_stepDown 15 = .ok (.iand, 1) := by decide +kernel
theorem dX1_stepDown_16 : decode cX1_stepDown 16 = .ok (.iastore, 1) := by decide +kernel
theorem dX1_stepDown_17 : decode cX1_stepDown 17 = .ok (.aload_n 0, 1) := by decide +kernel
theorem dX1_stepDown_18 : decode cX1_stepDown 18 = .ok (.getfield 13, 3) := by decide +kernel
theorem dX1_stepDown_21 : decode cX1_stepDown 21 = .ok (.iload_n 1, 1) := by decide +kernel
theorem dX1_stepDown_22 : decode cX1_stepDown 22 = .ok (.iaload, 1) := by decide +kernel
theorem dX1_stepDown_23 : decode cX1_stepDown 23 = .ok (.ireturn, 1) := by decide +kernel
theorem dX1_readByte_0 : decode cX1_readByte 0 = .ok (.iload_n 1, 1) := by decide +kernel
theorem dX1_readByte_1 : decode cX1_readByte 1 = .ok (.sipush 4096, 3) := by decide +kernel
theorem dX1_readByte_4 : decode cX1_readByte 4 = .ok (.if_icmp .lt 10, 3) := by decide +kernel
theorem dX1_readByte_7 : decode cX1_readByte 7 = .ok (.aload_n 0, 1) := by decide +kernel
theorem dX1_readByte_8 : decode cX1_readByte 8 = .ok (.iconst 4, 1) := by decide +kernel
theorem dX1_readByte_9 : decode cX1_readByte 9 = .ok (.putfield 23, 3) := by decide +kernel
theorem dX1_readByte_12 : decode cX1_readByte 12 = .ok (.iconst (-1), 1) := by decide +kernel
theorem dX1_readByte_13 : decode cX1_readByte 13 = .ok (.ireturn, 1) := by decide +kernel
theorem dX1_readByte_14 : decode cX1_readByte 14 = .ok (.aload_n 0, 1) := by decide +kernel
theorem dX1_readByte_15 : decode cX1_readByte 15 = .ok (.getfield 9, 3) := by decide +kernel
theorem dX1_readByte_18 : decode cX1_readByte 18 = .ok (.iload_n 1, 1) := by decide +kernel
theorem dX1_readByte_19 : decode cX1_readByte 19 = .ok (.iconst 1, 1) := by decide +kernel
theorem dX1_readByte_20 : decode cX1_readByte 20 = .ok (.ishr, 1) := by decide +kernel
theorem dX1_readByte_21 : decode cX1_readByte 21 = .ok (.iaload, 1) := by decide +kernel
theorem dX1_readByte_22 : decode cX1_readByte 22 = .ok (.iload_n 1, 1) := by decide +kernel
theorem dX1_readByte_23 : decode cX1_readByte 23 = .ok (.invokestatic 152, 3) := by decide +kernel
theorem dX1_readByte_26 : decode cX1_readByte 26 = .ok (.ishr, 1) := by decide +kernel
theorem dX1_readByte_27 : decode cX1_readByte 27 = .ok (.sipush 255, 3) := by decide +kernel
theorem dX1_readByte_30 : decode cX1_readByte 30 = .ok (.iand, 1) := by decide +kernel
theorem dX1_readByte_31 : decode cX1_readByte 31 = .ok (.ireturn, 1) := by decide +kernel
theorem dX1_shiftOf_0 : decode cX1_shiftOf 0 = .ok (.iload_n 0, 1) := by decide +kernel
theorem dX1_shiftOf_1 : decode cX1_shiftOf 1 = .ok (.iconst 1, 1) := by decide +kernel
theorem dX1_shiftOf_2 : decode cX1_shiftOf 2 = .ok (.iand, 1) := by decide +kernel
theorem dX1_shiftOf_3 : decode cX1_shiftOf 3 = .ok (.bipush 8, 2) := by decide +kernel
theorem dX1_shiftOf_5 : decode cX1_shiftOf 5 = .ok (.imul, 1) := by decide +kernel
theorem dX1_shiftOf_6 : decode cX1_shiftOf 6 = .ok (.ireturn, 1) := by decide +kernel
theorem dX1_putSigned_0 : decode cX1_putSigned 0 = .ok (.aload_n 0, 1) := by decide +kernel
theorem dX1_putSigned_1 : decode cX1_putSigned 1 = .ok (.dup, 1) := by decide +kernel
theorem dX1_putSigned_2 : decode cX1_putSigned 2 = .ok (.getfield 31, 3) := by decide +kernel
theorem dX1_putSigned_5 : decode cX1_putSigned 5 = .ok (.iconst 1, 1) := by decide +kernel
theorem dX1_putSigned_6 : decode cX1_putSigned 6 = .ok (.iadd, 1) := by decide +kernel
theorem dX1_putSigned_7 : decode cX1_putSigned 7 = .ok (.putfield 31, 3) := by decide +kernel
theorem dX1_putSigned_10 : decode cX1_putSigned 10 = .ok (.aload_n 0, 1) := by decide +kernel
theorem dX1_putSigned_11 : decode cX1_putSigned 11 = .ok (.getfield 13, 3) := by decide +kernel
theorem dX1_putSigned_14 : decode cX1_putSigned 14 = .ok (.iload_n 1, 1) := by decide +kernel
theorem dX1_putSigned_15 : decode cX1_putSigned 15 = .ok (.iload_n 2, 1) := by decide +kernel
theorem dX1_putSigned_16 : decode cX1_putSigned 16 = .ok (.i2b, 1) := by decide +kernel
theorem dX1_putSigned_17 : decode cX1_putSigned 17 = .ok (.ldc 41, 2) := by decide +kernel
theorem dX1_putSigned_19 : decode cX1_putSigned 19 = .ok (.iand, 1) := by decide +kernel
theorem dX1_putSigned_20 : decode cX1_putSigned 20 = .ok (.iastore, 1) := by decide +kernel
theorem dX1_putSigned_21 : decode cX1_putSigned 21 = .ok (.return_, 1) := by decide +kernel
theorem dX1_putResult_0 : decode cX1_putResult 0 = .ok (.aload_n 0, 1) := by decide +kernel
theorem dX1_putResult_1 : decode cX1_putResult 1 = .ok (.dup, 1) := by decide +kernel
theorem dX1_putResult_2 : decode cX1_putResult 2 = .ok (.getfield 31, 3) := by decide +kernel
theorem dX1_putResult_5 : decode cX1_putResult 5 = .ok (.iconst 1, 1) := by decide +kernel
theorem dX1_putResult_6 : decode cX1_putResult 6 = .ok (.iadd, 1) := by decide +kernel
theorem dX1_putResult_7 : decode cX1_putResult 7 = .ok (.putfield 31, 3) := by decide +kernel
theorem dX1_putResult_10 : decode cX1_putResult 10 = .ok (.aload_n 0, 1) := by decide +kernel
theorem dX1_putResult_11 : decode cX1_putResult 11 = .ok (.getfield 34, 3) := by decide +kernel
theorem dX1_putResult_14 : decode cX1_putResult 14 = .ok (.iconst (-1), 1) := by decide +kernel
theorem dX1_putResult_15 : decode cX1_putResult 15 = .ok (.if_icmp .ne 32, 3) := by decide +kernel
theorem dX1_putResult_18 : decode cX1_putResult 18 = .ok (.aload_n 0, 1) := by decide +kernel
theorem dX1_putResult_19 : decode cX1_putResult 19 = .ok (.getfield 13, 3) := by decide +kernel
theorem dX1_putResult_22 : decode cX1_putResult 22 = .ok (.iload_n 1, 1) := by decide +kernel
theorem dX1_putResult_23 : decode cX1_putResult 23 = .ok (.iload_n 3, 1) := by decide +kernel
theorem dX1_putResult_24 : decode cX1_putResult 24 = .ok (.ifCond .eq 18, 3) := by decide +kernel
theorem dX1_putResult_27 : decode cX1_putResult 27 = .ok (.aload_n 0, 1) := by decide +kernel
theorem dX1_putResult_28 : decode cX1_putResult 28 = .ok (.getfield 13, 3) := by decide +kernel
theorem dX1_putResult_31 : decode cX1_putResult 31 = .ok (.iload_n 1, 1) := by decide +kernel
theorem dX1_putResult_32 : decode cX1_putResult 32 = .ok (.iaload, 1) := by decide +kernel
theorem dX1_putResult_33 : decode cX1_putResult 33 = .ok (.sipush (-256), 3) := by decide +kernel
theorem dX1_putResult_36 : decode cX1_putResult 36 = .ok (.iand, 1) := by decide +kernel
theorem dX1_putResult_37 : decode cX1_putResult 37 = .ok (.iload_n 2, 1) := by decide +kernel
theorem dX1_putResult_38 : decode cX1_putResult 38 = .ok (.ior, 1) := by decide +kernel
theorem dX1_putResult_39 : decode cX1_putResult 39 = .ok (.goto 4, 3) := by decide +kernel
theorem dX1_putResult_42 : decode cX1_putResult 42 = .ok (.iload_n 2, 1) := by decide +kernel
theorem dX1_putResult_43 : decode cX1_putResult 43 = .ok (.iastore, 1) := by decide +kernel
theorem dX1_putResult_44 : decode cX1_putResult 44 = .ok (.goto 67, 3) := by decide +kernel
theorem dX1_putResult_47 : decode cX1_putResult 47 = .ok (.iload_n 3, 1) := by decide +kernel
theorem dX1_putResult_48 : decode cX1_putResult 48 = .ok (.ifCond .eq 51, 3) := by decide +kernel
theorem dX1_putResult_51 : decode cX1_putResult 51 = .ok (.aload_n 0, 1) := by decide +kernel
theorem dX1_putResult_52 : decode cX1_putResult 52 = .ok (.getfield 34, 3) := by decide +kernel
theorem dX1_putResult_55 : decode cX1_putResult 55 = .ok (.invokestatic 152, 3) := by decide +kernel
theorem dX1_putResult_58 : decode cX1_putResult 58 = .ok (.istore 4, 2) := by decide +kernel
theorem dX1_putResult_60 : decode cX1_putResult 60 = .ok (.aload_n 0, 1) := by decide +kernel
theorem dX1_putResult_61 : decode cX1_putResult 61 = .ok (.getfield 9, 3) := by decide +kernel
theorem dX1_putResult_64 : decode cX1_putResult 64 = .ok (.aload_n 0, 1) := by decide +kernel
theorem dX1_putResult_65 : decode cX1_putResult 65 = .ok (.getfield 34, 3) := by decide +kernel
theorem dX1_putResult_68 : decode cX1_putResult 68 = .ok (.iconst 1, 1) := by decide +kernel
theorem dX1_putResult_69 : decode cX1_putResult 69 = .ok (.ishr, 1) := by decide +kernel
theorem dX1_putResult_70 : decode cX1_putResult 70 = .ok (.aload_n 0, 1) := by decide +kernel
theorem dX1_putResult_71 : decode cX1_putResult 71 = .ok (.getfield 9, 3) := by decide +kernel
theorem dX1_putResult_74 : decode cX1_putResult 74 = .ok (.aload_n 0, 1) := by decide +kernel
theorem dX1_putResult_75 : decode cX1_putResult 75 = .ok (.getfield 34, 3) := by decide +kernel
theorem dX1_putResult_78 : decode cX1_putResult 78 = .ok (.iconst 1, 1) := by decide +kernel
theorem dX1_putResult_79 : decode cX1_putResult 79 = .ok (.ishr, 1) := by decide +kernel
theorem dX1_putResult_80 : decode cX1_putResult 80 = .ok (.iaload, 1) := by decide +kernel
theorem dX1_putResult_81 : decode cX1_putResult 81 = .ok (.sipush 255, 3) := by decide +kernel
theorem dX1_putResult_84 : decode cX1_putResult 84 = .ok (.iload 4, 2) := by decide +kernel
theorem dX1_putResult_86 : decode cX1_putResult 86 = .ok (.ishl, 1) := by decide +kernel
theorem dX1_putResult_87 : decode cX1_putResult 87 = .ok (.iconst (-1), 1) := by decide +kernel
theorem dX1_putResult_88 : decode cX1_putResult 88 = .ok (.ixor, 1) := by decide +kernel
theorem dX1_putResult_89 : decode cX1_putResult 89 = .ok (.iand, 1) := by decide +kernel
theorem dX1_putResult_90 : decode cX1_putResult 90 = .ok (.iload_n 2, 1) := by decide +kernel
theorem dX1_putResult_91 : decode cX1_putResult 91 = .ok (.iload 4, 2) := by decide +kernel
theorem dX1_putResult_93 : decode cX1_putResult 93 = .ok (.ishl, 1) := by decide +kernel
theorem dX1_putResult_94 : decode cX1_putResult 94 = .ok (.ior, 1) := by decide +kernel
theorem dX1_putResult_95 : decode cX1_putResult 95 = .ok (.iastore, 1) := by decide +kernel
theorem dX1_putResult_96 : decode cX1_putResult 96 = .ok (.goto 15, 3) := by decide +kernel
theorem dX1_putResult_99 : decode cX1_putResult 99 = .ok (.aload_n 0, 1) := by decide +kernel
theorem dX1_putResult_100 : decode cX1_putResult 100 = .ok (.getfield 9, 3) := by decide +kernel
theorem dX1_putResult_103 : decode cX1_putResult 103 = .ok (.aload_n 0, 1) := by decide +kernel
theorem dX1_putResult_104 : decode cX1_putResult 104 = .ok (.getfield 34, 3) := by decide +kernel
theorem dX1_putResult_107 : decode cX1_putResult 107 = .ok (.iconst 1, 1) := by decide +kernel
theorem dX1_putResult_108 : decode cX1_putResult 108 = .ok (.ishr, 1) := by decide +kernel
theorem dX1_putResult_109 : decode cX1_putResult 109 = .ok (.iload_n 2, 1) := by decide +kernel
theorem dX1_putResult_110 : decode cX1_putResult 110 = .ok (.iastore, 1) := by decide +kernel
theorem dX1_putResult_111 : decode cX1_putResult 111 = .ok (.return_, 1) := by decide +kernel
theorem dX1_isOfOneOperand_0 : decode cX1_isOfOneOperand 0 = .ok (.iload_n 0, 1) := by decide +kernel
theorem dX1_isOfOneOperand_1 : decode cX1_isOfOneOperand 1 = .ok (.ldc 102, 2) := by decide +kernel
theorem dX1_isOfOneOperand_3 : decode cX1_isOfOneOperand 3 = .ok (.iand, 1) := by decide +kernel
theorem dX1_isOfOneOperand_4 : decode cX1_isOfOneOperand 4 = .ok (.bipush 6, 2) := by decide +kernel
theorem dX1_isOfOneOperand_6 : decode cX1_isOfOneOperand 6 = .ok (.ishr, 1) := by decide +kernel
theorem dX1_isOfOneOperand_7 : decode cX1_isOfOneOperand 7 = .ok (.istore_n 1, 1) := by decide +kernel
theorem dX1_isOfOneOperand_8 : decode cX1_isOfOneOperand 8 = .ok (.iload_n 1, 1) := by decide +kernel
theorem dX1_isOfOneOperand_9 : decode cX1_isOfOneOperand 9 = .ok (.bipush 40, 2) := by decide +kernel
theorem dX1_isOfOneOperand_11 : decode cX1_isOfOneOperand 11 = .ok (.if_icmp .lt 9, 3) := by decide +kernel
theorem dX1_isOfOneOperand_14 : decode cX1_isOfOneOperand 14 = .ok (.iload_n 1, 1) := by decide +kernel
theorem dX1_isOfOneOperand_15 : decode cX1_isOfOneOperand 15 = .ok (.bipush 51, 2) := by decide +kernel
theorem dX1_isOfOneOperand_17 : decode cX1_isOfOneOperand 17 = .ok (.if_icmp .le 11, 3) := by decide +kernel
theorem dX1_isOfOneOperand_20 : decode cX1_isOfOneOperand 20 = .ok (.iload_n 0, 1) := by decide +kernel
theorem dX1_isOfOneOperand_21 : decode cX1_isOfOneOperand 21 = .ok (.bipush 6, 2) := by decide +kernel
theorem dX1_isOfOneOperand_23 : decode cX1_isOfOneOperand 23 = .ok (.ishr, 1) := by decide +kernel
theorem dX1_isOfOneOperand_24 : decode cX1_isOfOneOperand 24 = .ok (.iconst 3, 1) := by decide +kernel
theorem dX1_isOfOneOperand_25 : decode cX1_isOfOneOperand 25 = .ok (.if_icmp .ne 7, 3) := by decide +kernel
theorem dX1_isOfOneOperand_28 : decode cX1_isOfOneOperand 28 = .ok (.iconst 1, 1) := by decide +kernel
theorem dX1_isOfOneOperand_29 : decode cX1_isOfOneOperand 29 = .ok (.goto 4, 3) := by decide +kernel
theorem dX1_isOfOneOperand_32 : decode cX1_isOfOneOperand 32 = .ok (.iconst 0, 1) := by decide +kernel
theorem dX1_isOfOneOperand_33 : decode cX1_isOfOneOperand 33 = .ok (.ireturn, 1) := by decide +kernel
theorem dX1_doOneOperand_0 : decode cX1_doOneOperand 0 = .ok (.iload_n 1, 1) := by decide +kernel
theorem dX1_doOneOperand_1 : decode cX1_doOneOperand 1 = .ok (.ldc 103, 2) := by decide +kernel
theorem dX1_doOneOperand_3 : decode cX1_doOneOperand 3 = .ok (.iand, 1) := by decide +kernel
theorem dX1_doOneOperand_4 : decode cX1_doOneOperand 4 = .ok (.ifCond .eq 7, 3) := by decide +kernel
theorem dX1_doOneOperand_7 : decode cX1_doOneOperand 7 = .ok (.iconst 1, 1) := by decide +kernel
theorem dX1_doOneOperand_8 : decode cX1_doOneOperand 8 = .ok (.goto 4, 3) := by decide +kernel
theorem dX1_doOneOperand_11 : decode cX1_doOneOperand 11 = .ok (.iconst 0, 1) := by decide +kernel
theorem dX1_doOneOperand_12 : decode cX1_doOneOperand 12 = .ok (.istore_n 2, 1) := by decide +kernel
theorem dX1_doOneOperand_13 : decode cX1_doOneOperand 13 = .ok (.iload_n 1, 1) := by decide +kernel
theorem dX1_doOneOperand_14 : decode cX1_doOneOperand 14 = .ok (.ldc 102, 2) := by decide +kernel
theorem dX1_doOneOperand_16 : decode cX1_doOneOperand 16 = .ok (.iand, 1) := by decide +kernel
theorem dX1_doOneOperand_17 : decode cX1_doOneOperand 17 = .ok (.bipush 6, 2) := by decide +kernel
theorem dX1_doOneOperand_19 : decode cX1_doOneOperand 19 = .ok (.ishr, 1) := by decide +kernel
theorem dX1_doOneOperand_20 : decode cX1_doOneOperand 20 = .ok (.istore_n 3, 1) := by decide +kernel
theorem dX1_doOneOperand_21 : decode cX1_doOneOperand 21 = .ok (.aload_n 0, 1) := by decide +kernel
theorem dX1_doOneOperand_22 : decode cX1_doOneOperand 22 = .ok (.iload_n 1, 1) := by decide +kernel
theorem dX1_doOneOperand_23 : decode cX1_doOneOperand 23 = .ok (.bipush 63, 2) := by decide +kernel
theorem dX1_doOneOperand_25 : decode cX1_doOneOperand 25 = .ok (.iand, 1) := by decide +kernel
theorem dX1_doOneOperand_26 : decode cX1_doOneOperand 26 = .ok (.iload_n 2, 1) := by decide +kernel
theorem dX1_doOneOperand_27 : decode cX1_doOneOperand 27 = .ok (.invokevirtual 104, 3) := by decide +kernel
theorem dX1_doOneOperand_30 : decode cX1_doOneOperand 30 = .ok (.istore 4, 2) := by decide +kernel
theorem dX1_doOneOperand_32 : decode cX1_doOneOperand 32 = .ok (.iload 4, 2) := by decide +kernel
theorem dX1_doOneOperand_34 : decode cX1_doOneOperand 34 = .ok (.iconst (-1), 1) := by decide +kernel
theorem dX1_doOneOperand_35 : decode cX1_doOneOperand 35 = .ok (.if_icmp .ne 4, 3) := by decide +kernel
theorem dX1_doOneOperand_38 : decode cX1_doOneOperand 38 = .ok (.return_, 1) := by decide +kernel
theorem dX1_doOneOperand_39 : decode cX1_doOneOperand 39 = .ok (.aload_n 0, 1) := by decide +kernel
theorem dX1_doOneOperand_40 : decode cX1_doOneOperand 40 = .ok (.getfield 19, 3) := by decide +kernel
theorem dX1_doOneOperand_43 : decode cX1_doOneOperand 43 = .ok (.iload_n 2, 1) := by decide +kernel
theorem dX1_doOneOperand_44 : decode cX1_doOneOperand 44 = .ok (.invokevirtual 108, 3) := by decide +kernel
theorem dX1_doOneOperand_47 : decode cX1_doOneOperand 47 = .ok (.iload_n 3, 1) := by decide +kernel
theorem dX1_doOneOperand_48 : decode cX1_doOneOperand 48 = .ok (.bipush 48, 2) := by decide +kernel
theorem dX1_doOneOperand_50 : decode cX1_doOneOperand 50 = .ok (.if_icmp .lt 16, 3) := by decide +kernel
theorem dX1_doOneOperand_53 : decode cX1_doOneOperand 53 = .ok (.aload_n 0, 1) := by decide +kernel
theorem dX1_doOneOperand_54 : decode cX1_doOneOperand 54 = .ok (.getfield 19, 3) := by decide +kernel
theorem dX1_doOneOperand_57 : decode cX1_doOneOperand 57 = .ok (.iload_n 3, 1) := by decide +kernel
theorem dX1_doOneOperand_58 : decode cX1_doOneOperand 58 = .ok (.iload 4, 2) := by decide +kernel
theorem dX1_doOneOperand_60 : decode cX1_doOneOperand 60 = .ok (.invokevirtual 124, 3) := by decide +kernel
theorem dX1_doOneOperand_63 : decode cX1_doOneOperand 63 = .ok (.goto 13, 3) := by decide +kernel
theorem dX1_doOneOperand_66 : decode cX1_doOneOperand 66 = .ok (.aload_n 0, 1) := by decide +kernel
theorem dX1_doOneOperand_67 : decode cX1_doOneOperand 67 = .ok (.getfield 19, 3) := by decide +kernel
theorem dX1_doOneOperand_70 : decode cX1_doOneOperand 70 = .ok (.iload_n 3, 1) := by decide +kernel
theorem dX1_doOneOperand_71 : decode cX1_doOneOperand 71 = .ok (.iload 4, 2) := by decide +kernel
theorem dX1_doOneOperand_73 : decode cX1_doOneOperand 73 = .ok (.invokevirtual 127, 3) := by decide +kernel
theorem dX1_doOneOperand_76 : decode cX1_doOneOperand 76 = .ok (.istore 5, 2) := by decide +kernel
theorem dX1_doOneOperand_78 : decode cX1_doOneOperand 78 = .ok (.aload_n 0, 1) := by decide +kernel
theorem dX1_doOneOperand_79 : decode cX1_doOneOperand 79 = .ok (.dup, 1) := by decide +kernel
theorem dX1_doOneOperand_80 : decode cX1_doOneOperand 80 = .ok (.getfield 31, 3) := by decide +kernel
theorem dX1_doOneOperand_83 : decode cX1_doOneOperand 83 = .ok (.iconst 1, 1) := by decide +kernel
theorem dX1_doOneOperand_84 : decode cX1_doOneOperand 84 = .ok (.iadd, 1) := by decide +kernel
theorem dX1_doOneOperand_85 : decode cX1_doOneOperand 85 = .ok (.putfield 31, 3) := by decide +kernel
theorem dX1_doOneOperand_88 : decode cX1_doOneOperand 88 = .ok (.iload_n 3, 1) := by decide +kernel
theorem dX1_doOneOperand_89 : decode cX1_doOneOperand 89 = .ok (.bipush 47, 2) := by decide +kernel
theorem dX1_doOneOperand_91 : decode cX1_doOneOperand 91 = .ok (.if_icmp .eq 14, 3) := by decide +kernel
theorem dX1_doOneOperand_94 : decode cX1_doOneOperand 94 = .ok (.aload_n 0, 1) := by decide +kernel
theorem dX1_doOneOperand_95 : decode cX1_doOneOperand 95 = .ok (.iload_n 1, 1) := by decide +kernel
theorem dX1_doOneOperand_96 : decode cX1_doOneOperand 96 = .ok (.bipush 7, 2) := by decide +kernel
theorem dX1_doOneOperand_98 : decode cX1_doOneOperand 98 = .ok (.iand, 1) := by decide +kernel
theorem dX1_doOneOperand_99 : decode cX1_doOneOperand 99 = .ok (.iload 5, 2) := by decide +kernel
theorem dX1_doOneOperand_101 : decode cX1_doOneOperand 101 = .ok (.iload_n 2, 1) := by decide +kernel
theorem dX1_doOneOperand_102 : decode cX1_doOneOperand 102 = .ok (.invokevirtual 120, 3) := by decide +kernel
theorem dX1_doOneOperand_105 : decode cX1_doOneOperand 105 = .ok (.return_, 1) := by decide +kernel
theorem dX1_isBranch_0 : decode cX1_isBranch 0 = .ok (.iload_n 0, 1) := by decide +kernel
theorem dX1_isBranch_1 : decode cX1_isBranch 1 = .ok (.bipush 8, 2) := by decide +kernel
theorem dX1_isBranch_3 : decode cX1_isBranch 3 = .ok (.ishr, 1) := by decide +kernel
theorem dX1_isBranch_4 : decode cX1_isBranch 4 = .ok (.istore_n 1, 1) := by decide +kernel
theorem dX1_isBranch_5 : decode cX1_isBranch 5 = .ok (.iload_n 1, 1) := by decide +kernel
theorem dX1_isBranch_6 : decode cX1_isBranch 6 = .ok (.iconst 1, 1) := by decide +kernel
theorem dX1_isBranch_7 : decode cX1_isBranch 7 = .ok (.if_icmp .lt 9, 3) := by decide +kernel
theorem dX1_isBranch_10 : decode cX1_isBranch 10 = .ok (.iload_n 1, 1) := by decide +kernel
theorem dX1_isBranch_11 : decode cX1_isBranch 11 = .ok (.bipush 7, 2) := by decide +kernel
theorem dX1_isBranch_13 : decode cX1_isBranch 13 = .ok (.if_icmp .le 17, 3) := by decide +kernel
theorem dX1_isBranch_16 : decode cX1_isBranch 16 = .ok (.iload_n 1, 1) := by decide +kernel
theorem dX1_isBranch_17 : decode cX1_isBranch 17 = .ok (.sipush 128, 3) := by decide +kernel
theorem dX1_isBranch_20 : decode cX1_isBranch 20 = .ok (.if_icmp .lt 14, 3) := by decide +kernel
theorem dX1_isBranch_23 : decode cX1_isBranch 23 = .ok (.iload_n 1, 1) := by decide +kernel
theorem dX1_isBranch_24 : decode cX1_isBranch 24 = .ok (.sipush 135, 3) := by decide +kernel
theorem dX1_isBranch_27 : decode cX1_isBranch 27 = .ok (.if_icmp .gt 7, 3) := by decide +kernel
theorem dX1_isBranch_30 : decode cX1_isBranch 30 = .ok (.iconst 1, 1) := by decide +kernel
theorem dX1_isBranch_31 : decode cX1_isBranch 31 = .ok (.goto 4, 3) := by decide +kernel
theorem dX1_isBranch_34 : decode cX1_isBranch 34 = .ok (.iconst 0, 1) := by decide +kernel
theorem dX1_isBranch_35 : decode cX1_isBranch 35 = .ok (.ireturn, 1) := by decide +kernel
theorem dX1_doBranch_0 : decode cX1_doBranch 0 = .ok (.aload_n 0, 1) := by decide +kernel
theorem dX1_doBranch_1 : decode cX1_doBranch 1 = .ok (.dup, 1) := by decide +kernel
theorem dX1_doBranch_2 : decode cX1_doBranch 2 = .ok (.getfield 31, 3) := by decide +kernel
theorem dX1_doBranch_5 : decode cX1_doBranch 5 = .ok (.iconst 1, 1) := by decide +kernel
theorem dX1_doBranch_6 : decode cX1_doBranch 6 = .ok (.iadd, 1) := by decide +kernel
theorem dX1_doBranch_7 : decode cX1_doBranch 7 = .ok (.putfield 31, 3) := by decide +kernel
theorem dX1_doBranch_10 : decode cX1_doBranch 10 = .ok (.aload_n 0, 1) := by decide +kernel
theorem dX1_doBranch_11 : decode cX1_doBranch 11 = .ok (.getfield 19, 3) := by decide +kernel
theorem dX1_doBranch_14 : decode cX1_doBranch 14 = .ok (.iload_n 1, 1) := by decide +kernel
theorem dX1_doBranch_15 : decode cX1_doBranch 15 = .ok (.bipush 8, 2) := by decide +kernel
theorem dX1_doBranch_17 : decode cX1_doBranch 17 = .ok (.ishr, 1) := by decide +kernel
theorem dX1_doBranch_18 : decode cX1_doBranch 18 = .ok (.invokevirtual 130, 3) := by decide +kernel
theorem dX1_doBranch_21 : decode cX1_doBranch 21 = .ok (.ifCond .eq 35, 3) := by decide +kernel
theorem dX1_doBranch_24 : decode cX1_doBranch 24 = .ok (.aload_n 0, 1) := by decide +kernel
theorem dX1_doBranch_25 : decode cX1_doBranch 25 = .ok (.dup, 1) := by decide +kernel
theorem dX1_doBranch_26 : decode cX1_doBranch 26 = .ok (.getfield 31, 3) := by decide +kernel
theorem dX1_doBranch_29 : decode cX1_doBranch 29 = .ok (.iconst 1, 1) := by decide +kernel
theorem dX1_doBranch_30 : decode cX1_doBranch 30 = .ok (.iadd, 1) := by decide +kernel
theorem dX1_doBranch_31 : decode cX1_doBranch 31 = .ok (.putfield 31, 3) := by decide +kernel
theorem dX1_doBranch_34 : decode cX1_doBranch 34 = .ok (.aload_n 0, 1) := by decide +kernel
theorem dX1_doBranch_35 : decode cX1_doBranch 35 = .ok (.getfield 13, 3) := by decide +kernel
theorem dX1_doBranch_38 : decode cX1_doBranch 38 = .ok (.bipush 7, 2) := by decide +kernel
theorem dX1_doBranch_40 : decode cX1_doBranch 40 = .ok (.aload_n 0, 1) := by decide +kernel
theorem dX1_doBranch_41 : decode cX1_doBranch 41 = .ok (.getfield 13, 3) := by decide +kernel
theorem dX1_doBranch_44 : decode cX1_doBranch 44 = .ok (.bipush 7, 2) := by decide +kernel
theorem dX1_doBranch_46 : decode cX1_doBranch 46 = .ok (.iaload, 1) := by decide +kernel
theorem dX1_doBranch_47 : decode cX1_doBranch 47 = .ok (.iconst 2, 1) := by decide +kernel
theorem dX1_doBranch_48 : decode cX1_doBranch 48 = .ok (.iload_n 1, 1) := by decide +kernel
theorem dX1_doBranch_49 : decode cX1_doBranch 49 = .ok (.i2b, 1) := by decide +kernel
theorem dX1_doBranch_50 : decode cX1_doBranch 50 = .ok (.imul, 1) := by decide +kernel
theorem dX1_doBranch_51 : decode cX1_doBranch 51 = .ok (.iadd, 1) := by decide +kernel
theorem dX1_doBranch_52 : decode cX1_doBranch 52 = .ok (.ldc 41, 2) := by decide +kernel
theorem dX1_doBranch_54 : decode cX1_doBranch 54 = .ok (.iand, 1) := by decide +kernel
theorem dX1_doBranch_55 : decode cX1_doBranch 55 = .ok (.iastore, 1) := by decide +kernel
theorem dX1_doBranch_56 : decode cX1_doBranch 56 = .ok (.return_, 1) := by decide +kernel
theorem dX1_doSubtractAndBranch_0 : decode cX1_doSubtractAndBranch 0 = .ok (.aload_n 0, 1) := by decide +kernel
theorem dX1_doSubtractAndBranch_1 : decode cX1_doSubtractAndBranch 1 = .ok (.dup, 1) := by decide +kernel
theorem dX1_doSubtractAndBranch_2 : decode cX1_doSubtractAndBranch 2 = .ok (.getfield 31, 3) := by decide +kernel
theorem dX1_doSubtractAndBranch_5 : decode cX1_doSubtractAndBranch 5 = .ok (.iconst 2, 1) := by decide +kernel
theorem dX1_doSubtractAndBranch_6 : decode cX1_doSubtractAndBranch 6 = .ok (.iadd, 1) := by decide +kernel
theorem dX1_doSubtractAndBranch_7 : decode cX1_doSubtractAndBranch 7 = .ok (.putfield 31, 3) := by decide +kernel
theorem dX1_doSubtractAndBranch_10 : decode cX1_doSubtractAndBranch 10 = .ok (.aload_n 0, 1) := by decide +kernel
theorem dX1_doSubtractAndBranch_11 : decode cX1_doSubtractAndBranch 11 = .ok (.iload_n 1, 1) := by decide +kernel
theorem dX1_doSubtractAndBranch_12 : decode cX1_doSubtractAndBranch 12 = .ok (.bipush 6, 2) := by decide +kernel
theorem dX1_doSubtractAndBranch_14 : decode cX1_doSubtractAndBranch 14 = .ok (.ishr, 1) := by decide +kernel
theorem dX1_doSubtractAndBranch_15 : decode cX1_doSubtractAndBranch 15 = .ok (.bipush 7, 2) := by decide +kernel
theorem dX1_doSubtractAndBranch_17 : decode cX1_doSubtractAndBranch 17 = .ok (.iand, 1) := by decide +kernel
theorem dX1_doSubtractAndBranch_18 : decode cX1_doSubtractAndBranch 18 = .ok (.iconst 1, 1) := by decide +kernel
theorem dX1_doSubtractAndBranch_19 : decode cX1_doSubtractAndBranch 19 = .ok (.invokevirtual 133, 3) := by decide +kernel
theorem dX1_doSubtractAndBranch_22 : decode cX1_doSubtractAndBranch 22 = .ok (.ifCond .eq 26, 3) := by decide +kernel
theorem dX1_doSubtractAndBranch_25 : decode cX1_doSubtractAndBranch 25 = .ok (.aload_n 0, 1) := by decide +kernel
theorem dX1_doSubtractAndBranch_26 : decode cX1_doSubtractAndBranch 26 = .ok (.dup, 1) := by decide +kernel
theorem dX1_doSubtractAndBranch_27 : decode cX1_doSubtractAndBranch 27 = .ok (.getfield 31, 3) := by decide +kernel
theorem dX1_doSubtractAndBranch_30 : decode cX1_doSubtractAndBranch 30 = .ok (.iconst 1, 1) := by decide +kernel
theorem dX1_doSubtractAndBranch_31 : decode cX1_doSubtractAndBranch 31 = .ok (.iadd, 1) := by decide +kernel
theorem dX1_doSubtractAndBranch_32 : decode cX1_doSubtractAndBranch 32 = .ok (.putfield 31, 3) := by decide +kernel
theorem dX1_doSubtractAndBranch_35 : decode cX1_doSubtractAndBranch 35 = .ok (.aload_n 0, 1) := by decide +kernel
theorem dX1_doSubtractAndBranch_36 : decode cX1_doSubtractAndBranch 36 = .ok (.bipush 7, 2) := by decide +kernel
theorem dX1_doSubtractAndBranch_38 : decode cX1_doSubtractAndBranch 38 = .ok (.iconst 2, 1) := by decide +kernel
theorem dX1_doSubtractAndBranch_39 : decode cX1_doSubtractAndBranch 39 = .ok (.iload_n 1, 1) := by decide +kernel
theorem dX1_doSubtractAndBranch_40 : decode cX1_doSubtractAndBranch 40 = .ok (.bipush 63, 2) := by decide +kernel
theorem dX1_doSubtractAndBranch_42 : decode cX1_doSubtractAndBranch 42 = .ok (.iand, 1) := by decide +kernel
theorem dX1_doSubtractAndBranch_43 : decode cX1_doSubtractAndBranch 43 = .ok (.imul, 1) := by decide +kernel
theorem dX1_doSubtractAndBranch_44 : decode cX1_doSubtractAndBranch 44 = .ok (.invokevirtual 133, 3) := by decide +kernel
theorem dX1_doSubtractAndBranch_47 : decode cX1_doSubtractAndBranch 47 = .ok (.pop, 1) := by decide +kernel
theorem dX1_doSubtractAndBranch_48 : decode cX1_doSubtractAndBranch 48 = .ok (.return_, 1) := by decide +kernel
theorem dX1_doJump_0 : decode cX1_doJump 0 = .ok (.aload_n 0, 1) := by decide +kernel
theorem dX1_doJump_1 : decode cX1_doJump 1 = .ok (.iload_n 1, 1) := by decide +kernel
theorem dX1_doJump_2 : decode cX1_doJump 2 = .ok (.bipush 63, 2) := by decide +kernel
theorem dX1_doJump_4 : decode cX1_doJump 4 = .ok (.iand, 1) := by decide +kernel
theorem dX1_doJump_5 : decode cX1_doJump 5 = .ok (.invokevirtual 136, 3) := by decide +kernel
theorem dX1_doJump_8 : decode cX1_doJump 8 = .ok (.istore_n 2, 1) := by decide +kernel
theorem dX1_doJump_9 : decode cX1_doJump 9 = .ok (.iload_n 2, 1) := by decide +kernel
theorem dX1_doJump_10 : decode cX1_doJump 10 = .ok (.iconst (-1), 1) := by decide +kernel
theorem dX1_doJump_11 : decode cX1_doJump 11 = .ok (.if_icmp .eq 21, 3) := by decide +kernel
theorem dX1_doJump_14 : decode cX1_doJump 14 = .ok (.aload_n 0, 1) := by decide +kernel
theorem dX1_doJump_15 : decode cX1_doJump 15 = .ok (.getfield 13, 3) := by decide +kernel
theorem dX1_doJump_18 : decode cX1_doJump 18 = .ok (.bipush 7, 2) := by decide +kernel
theorem dX1_doJump_20 : decode cX1_doJump 20 = .ok (.iload_n 2, 1) := by decide +kernel
theorem dX1_doJump_21 : decode cX1_doJump 21 = .ok (.iastore, 1) := by decide +kernel
theorem dX1_doJump_22 : decode cX1_doJump 22 = .ok (.aload_n 0, 1) := by decide +kernel
theorem dX1_doJump_23 : decode cX1_doJump 23 = .ok (.dup, 1) := by decide +kernel
theorem dX1_doJump_24 : decode cX1_doJump 24 = .ok (.getfield 31, 3) := by decide +kernel
theorem dX1_doJump_27 : decode cX1_doJump 27 = .ok (.iconst 1, 1) := by decide +kernel
theorem dX1_doJump_28 : decode cX1_doJump 28 = .ok (.iadd, 1) := by decide +kernel
theorem dX1_doJump_29 : decode cX1_doJump 29 = .ok (.putfield 31, 3) := by decide +kernel
theorem dX1_doJump_32 : decode cX1_doJump 32 = .ok (.return_, 1) := by decide +kernel
theorem dX1_findTarget_0 : decode cX1_findTarget 0 = .ok (.iload_n 1, 1) := by decide +kernel
theorem dX1_findTarget_1 : decode cX1_findTarget 1 = .ok (.iconst 3, 1) := by decide +kernel
theorem dX1_findTarget_2 : decode cX1_findTarget 2 = .ok (.ishr, 1) := by decide +kernel
theorem dX1_findTarget_3 : decode cX1_findTarget 3 = .ok (.istore_n 2, 1) := by decide +kernel
theorem dX1_findTarget_4 : decode cX1_findTarget 4 = .ok (.iload_n 2, 1) := by decide +kernel
theorem dX1_findTarget_5 : decode cX1_findTarget 5 = .ok (.ifCond .ne 10, 3) := by decide +kernel
theorem dX1_findTarget_8 : decode cX1_findTarget 8 = .ok (.aload_n 0, 1) := by decide +kernel
theorem dX1_findTarget_9 : decode cX1_findTarget 9 = .ok (.iconst 2, 1) := by decide +kernel
theorem dX1_findTarget_10 : decode cX1_findTarget 10 = .ok (.putfield 23, 3) := by decide +kernel
theorem dX1_findTarget_13 : decode cX1_findTarget 13 = .ok (.iconst (-1), 1) := by decide +kernel
theorem dX1_findTarget_14 : decode cX1_findTarget 14 = .ok (.ireturn, 1) := by decide +kernel
theorem dX1_findTarget_15 : decode cX1_findTarget 15 = .ok (.aload_n 0, 1) := by decide +kernel
theorem dX1_findTarget_16 : decode cX1_findTarget 16 = .ok (.dup, 1) := by decide +kernel
theorem dX1_findTarget_17 : decode cX1_findTarget 17 = .ok (.getfield 31, 3) := by decide +kernel
theorem dX1_findTarget_20 : decode cX1_findTarget 20 = .ok (.getstatic 143, 3) := by decide +kernel
theorem dX1_findTarget_23 : decode cX1_findTarget 23 = .ok (.iload_n 2, 1) := by decide +kernel
theorem dX1_findTarget_24 : decode cX1_findTarget 24 = .ok (.iaload, 1) := by decide +kernel
theorem dX1_findTarget_25 : decode cX1_findTarget 25 = .ok (.iconst 1, 1) := by decide +kernel
theorem dX1_findTarget_26 : decode cX1_findTarget 26 = .ok (.isub, 1) := by decide +kernel
end
section
theorem dX1_findTarget_27 : decode cX1_findTarget 27 = .ok (.iadd, 1) := by decide +kernel
theorem dX1_findTarget_28 : decode cX1_findTarget 28 = .ok (.putfield 31, 3) := by decide +kernel
theorem dX1_findTarget_31 : decode cX1_findTarget 31 = .ok (.aload_n 0, 1) := by decide +kernel
theorem dX1_findTarget_32 : decode cX1_findTarget 32 = .ok (.iload_n 2, 1) := by decide +kernel
theorem dX1_findTarget_33 : decode cX1_findTarget 33 = .ok (.iload_n 1, 1) := by decide +kernel
theorem dX1_findTarget_34 : decode cX1_findTarget 34 = .ok (.bipush 7, 2) := by decide +kernel
theorem dX1_findTarget_36 : decode cX1_findTarget 36 = .ok (.iand, 1) := by decide +kernel
theorem dX1_findTarget_37 : decode cX1_findTarget 37 = .ok (.iconst 2, 1) := by decide +kernel
theorem dX1_findTarget_38 : decode cX1_findTarget 38 = .ok (.invokevirtual 146, 3) := by decide +kernel
theorem dX1_findTarget_41 : decode cX1_findTarget 41 = .ok (.ireturn, 1) := by decide +kernel
theorem dX1_doJumpToSubroutine_0 : decode cX1_doJumpToSubroutine 0 = .ok (.aload_n 0, 1) := by decide +kernel
theorem dX1_doJumpToSubroutine_1 : decode cX1_doJumpToSubroutine 1 = .ok (.iload_n 1, 1) := by decide +kernel
theorem dX1_doJumpToSubroutine_2 : decode cX1_doJumpToSubroutine 2 = .ok (.bipush 63, 2) := by decide +kernel
theorem dX1_doJumpToSubroutine_4 : decode cX1_doJumpToSubroutine 4 = .ok (.iand, 1) := by decide +kernel
theorem dX1_doJumpToSubroutine_5 : decode cX1_doJumpToSubroutine 5 = .ok (.invokevirtual 136, 3) := by decide +kernel
theorem dX1_doJumpToSubroutine_8 : decode cX1_doJumpToSubroutine 8 = .ok (.istore_n 2, 1) := by decide +kernel
theorem dX1_doJumpToSubroutine_9 : decode cX1_doJumpToSubroutine 9 = .ok (.iload_n 2, 1) := by decide +kernel
theorem dX1_doJumpToSubroutine_10 : decode cX1_doJumpToSubroutine 10 = .ok (.iconst (-1), 1) := by decide +kernel
theorem dX1_doJumpToSubroutine_11 : decode cX1_doJumpToSubroutine 11 = .ok (.if_icmp .ne 4, 3) := by decide +kernel
theorem dX1_doJumpToSubroutine_14 : decode cX1_doJumpToSubroutine 14 = .ok (.return_, 1) := by decide +kernel
theorem dX1_doJumpToSubroutine_15 : decode cX1_doJumpToSubroutine 15 = .ok (.aload_n 0, 1) := by decide +kernel
theorem dX1_doJumpToSubroutine_16 : decode cX1_doJumpToSubroutine 16 = .ok (.bipush 6, 2) := by decide +kernel
theorem dX1_doJumpToSubroutine_18 : decode cX1_doJumpToSubroutine 18 = .ok (.iconst 2, 1) := by decide +kernel
theorem dX1_doJumpToSubroutine_19 : decode cX1_doJumpToSubroutine 19 = .ok (.invokevirtual 133, 3) := by decide +kernel
theorem dX1_doJumpToSubroutine_22 : decode cX1_doJumpToSubroutine 22 = .ok (.istore_n 3, 1) := by decide +kernel
theorem dX1_doJumpToSubroutine_23 : decode cX1_doJumpToSubroutine 23 = .ok (.aload_n 0, 1) := by decide +kernel
theorem dX1_doJumpToSubroutine_24 : decode cX1_doJumpToSubroutine 24 = .ok (.iload_n 3, 1) := by decide +kernel
theorem dX1_doJumpToSubroutine_25 : decode cX1_doJumpToSubroutine 25 = .ok (.invokevirtual 61, 3) := by decide +kernel
theorem dX1_doJumpToSubroutine_28 : decode cX1_doJumpToSubroutine 28 = .ok (.iconst (-1), 1) := by decide +kernel
theorem dX1_doJumpToSubroutine_29 : decode cX1_doJumpToSubroutine 29 = .ok (.if_icmp .ne 4, 3) := by decide +kernel
theorem dX1_doJumpToSubroutine_32 : decode cX1_doJumpToSubroutine 32 = .ok (.return_, 1) := by decide +kernel
theorem dX1_doJumpToSubroutine_33 : decode cX1_doJumpToSubroutine 33 = .ok (.iload_n 1, 1) := by decide +kernel
theorem dX1_doJumpToSubroutine_34 : decode cX1_doJumpToSubroutine 34 = .ok (.bipush 6, 2) := by decide +kernel
theorem dX1_doJumpToSubroutine_36 : decode cX1_doJumpToSubroutine 36 = .ok (.ishr, 1) := by decide +kernel
theorem dX1_doJumpToSubroutine_37 : decode cX1_doJumpToSubroutine 37 = .ok (.bipush 7, 2) := by decide +kernel
theorem dX1_doJumpToSubroutine_39 : decode cX1_doJumpToSubroutine 39 = .ok (.iand, 1) := by decide +kernel
theorem dX1_doJumpToSubroutine_40 : decode cX1_doJumpToSubroutine 40 = .ok (.istore 4, 2) := by decide +kernel
theorem dX1_doJumpToSubroutine_42 : decode cX1_doJumpToSubroutine 42 = .ok (.aload_n 0, 1) := by decide +kernel
theorem dX1_doJumpToSubroutine_43 : decode cX1_doJumpToSubroutine 43 = .ok (.getfield 9, 3) := by decide +kernel
theorem dX1_doJumpToSubroutine_46 : decode cX1_doJumpToSubroutine 46 = .ok (.iload_n 3, 1) := by decide +kernel
theorem dX1_doJumpToSubroutine_47 : decode cX1_doJumpToSubroutine 47 = .ok (.iconst 1, 1) := by decide +kernel
theorem dX1_doJumpToSubroutine_48 : decode cX1_doJumpToSubroutine 48 = .ok (.ishr, 1) := by decide +kernel
theorem dX1_doJumpToSubroutine_49 : decode cX1_doJumpToSubroutine 49 = .ok (.aload_n 0, 1) := by decide +kernel
theorem dX1_doJumpToSubroutine_50 : decode cX1_doJumpToSubroutine 50 = .ok (.getfield 13, 3) := by decide +kernel
theorem dX1_doJumpToSubroutine_53 : decode cX1_doJumpToSubroutine 53 = .ok (.iload 4, 2) := by decide +kernel
theorem dX1_doJumpToSubroutine_55 : decode cX1_doJumpToSubroutine 55 = .ok (.iaload, 1) := by decide +kernel
theorem dX1_doJumpToSubroutine_56 : decode cX1_doJumpToSubroutine 56 = .ok (.iastore, 1) := by decide +kernel
theorem dX1_doJumpToSubroutine_57 : decode cX1_doJumpToSubroutine 57 = .ok (.aload_n 0, 1) := by decide +kernel
theorem dX1_doJumpToSubroutine_58 : decode cX1_doJumpToSubroutine 58 = .ok (.getfield 13, 3) := by decide +kernel
theorem dX1_doJumpToSubroutine_61 : decode cX1_doJumpToSubroutine 61 = .ok (.iload 4, 2) := by decide +kernel
theorem dX1_doJumpToSubroutine_63 : decode cX1_doJumpToSubroutine 63 = .ok (.aload_n 0, 1) := by decide +kernel
theorem dX1_doJumpToSubroutine_64 : decode cX1_doJumpToSubroutine 64 = .ok (.getfield 13, 3) := by decide +kernel
theorem dX1_doJumpToSubroutine_67 : decode cX1_doJumpToSubroutine 67 = .ok (.bipush 7, 2) := by decide +kernel
theorem dX1_doJumpToSubroutine_69 : decode cX1_doJumpToSubroutine 69 = .ok (.iaload, 1) := by decide +kernel
theorem dX1_doJumpToSubroutine_70 : decode cX1_doJumpToSubroutine 70 = .ok (.iastore, 1) := by decide +kernel
theorem dX1_doJumpToSubroutine_71 : decode cX1_doJumpToSubroutine 71 = .ok (.aload_n 0, 1) := by decide +kernel
theorem dX1_doJumpToSubroutine_72 : decode cX1_doJumpToSubroutine 72 = .ok (.getfield 13, 3) := by decide +kernel
theorem dX1_doJumpToSubroutine_75 : decode cX1_doJumpToSubroutine 75 = .ok (.bipush 7, 2) := by decide +kernel
theorem dX1_doJumpToSubroutine_77 : decode cX1_doJumpToSubroutine 77 = .ok (.iload_n 2, 1) := by decide +kernel
theorem dX1_doJumpToSubroutine_78 : decode cX1_doJumpToSubroutine 78 = .ok (.iastore, 1) := by decide +kernel
theorem dX1_doJumpToSubroutine_79 : decode cX1_doJumpToSubroutine 79 = .ok (.aload_n 0, 1) := by decide +kernel
theorem dX1_doJumpToSubroutine_80 : decode cX1_doJumpToSubroutine 80 = .ok (.dup, 1) := by decide +kernel
theorem dX1_doJumpToSubroutine_81 : decode cX1_doJumpToSubroutine 81 = .ok (.getfield 31, 3) := by decide +kernel
theorem dX1_doJumpToSubroutine_84 : decode cX1_doJumpToSubroutine 84 = .ok (.bipush 6, 2) := by decide +kernel
theorem dX1_doJumpToSubroutine_86 : decode cX1_doJumpToSubroutine 86 = .ok (.iadd, 1) := by decide +kernel
theorem dX1_doJumpToSubroutine_87 : decode cX1_doJumpToSubroutine 87 = .ok (.putfield 31, 3) := by decide +kernel
theorem dX1_doJumpToSubroutine_90 : decode cX1_doJumpToSubroutine 90 = .ok (.return_, 1) := by decide +kernel
theorem dX1_doReturn_0 : decode cX1_doReturn 0 = .ok (.aload_n 0, 1) := by decide +kernel
theorem dX1_doReturn_1 : decode cX1_doReturn 1 = .ok (.getfield 13, 3) := by decide +kernel
theorem dX1_doReturn_4 : decode cX1_doReturn 4 = .ok (.bipush 7, 2) := by decide +kernel
theorem dX1_doReturn_6 : decode cX1_doReturn 6 = .ok (.aload_n 0, 1) := by decide +kernel
theorem dX1_doReturn_7 : decode cX1_doReturn 7 = .ok (.getfield 13, 3) := by decide +kernel
theorem dX1_doReturn_10 : decode cX1_doReturn 10 = .ok (.iload_n 1, 1) := by decide +kernel
theorem dX1_doReturn_11 : decode cX1_doReturn 11 = .ok (.iaload, 1) := by decide +kernel
theorem dX1_doReturn_12 : decode cX1_doReturn 12 = .ok (.iastore, 1) := by decide +kernel
theorem dX1_doReturn_13 : decode cX1_doReturn 13 = .ok (.aload_n 0, 1) := by decide +kernel
theorem dX1_doReturn_14 : decode cX1_doReturn 14 = .ok (.aload_n 0, 1) := by decide +kernel
theorem dX1_doReturn_15 : decode cX1_doReturn 15 = .ok (.bipush 6, 2) := by decide +kernel
theorem dX1_doReturn_17 : decode cX1_doReturn 17 = .ok (.iconst 2, 1) := by decide +kernel
theorem dX1_doReturn_18 : decode cX1_doReturn 18 = .ok (.invokevirtual 58, 3) := by decide +kernel
theorem dX1_doReturn_21 : decode cX1_doReturn 21 = .ok (.invokevirtual 61, 3) := by decide +kernel
theorem dX1_doReturn_24 : decode cX1_doReturn 24 = .ok (.istore_n 2, 1) := by decide +kernel
theorem dX1_doReturn_25 : decode cX1_doReturn 25 = .ok (.iload_n 2, 1) := by decide +kernel
theorem dX1_doReturn_26 : decode cX1_doReturn 26 = .ok (.iconst (-1), 1) := by decide +kernel
theorem dX1_doReturn_27 : decode cX1_doReturn 27 = .ok (.if_icmp .eq 20, 3) := by decide +kernel
theorem dX1_doReturn_30 : decode cX1_doReturn 30 = .ok (.aload_n 0, 1) := by decide +kernel
theorem dX1_doReturn_31 : decode cX1_doReturn 31 = .ok (.getfield 13, 3) := by decide +kernel
theorem dX1_doReturn_34 : decode cX1_doReturn 34 = .ok (.iload_n 1, 1) := by decide +kernel
theorem dX1_doReturn_35 : decode cX1_doReturn 35 = .ok (.iload_n 2, 1) := by decide +kernel
theorem dX1_doReturn_36 : decode cX1_doReturn 36 = .ok (.iastore, 1) := by decide +kernel
theorem dX1_doReturn_37 : decode cX1_doReturn 37 = .ok (.aload_n 0, 1) := by decide +kernel
theorem dX1_doReturn_38 : decode cX1_doReturn 38 = .ok (.dup, 1) := by decide +kernel
theorem dX1_doReturn_39 : decode cX1_doReturn 39 = .ok (.getfield 31, 3) := by decide +kernel
theorem dX1_doReturn_42 : decode cX1_doReturn 42 = .ok (.iconst 3, 1) := by decide +kernel
theorem dX1_doReturn_43 : decode cX1_doReturn 43 = .ok (.iadd, 1) := by decide +kernel
theorem dX1_doReturn_44 : decode cX1_doReturn 44 = .ok (.putfield 31, 3) := by decide +kernel
theorem dX1_doReturn_47 : decode cX1_doReturn 47 = .ok (.return_, 1) := by decide +kernel
theorem dX1_doFlags_0 : decode cX1_doFlags 0 = .ok (.aload_n 0, 1) := by decide +kernel
theorem dX1_doFlags_1 : decode cX1_doFlags 1 = .ok (.getfield 19, 3) := by decide +kernel
theorem dX1_doFlags_4 : decode cX1_doFlags 4 = .ok (.iload_n 1, 1) := by decide +kernel
theorem dX1_doFlags_5 : decode cX1_doFlags 5 = .ok (.bipush 15, 2) := by decide +kernel
theorem dX1_doFlags_7 : decode cX1_doFlags 7 = .ok (.iand, 1) := by decide +kernel
theorem dX1_doFlags_8 : decode cX1_doFlags 8 = .ok (.iload_n 1, 1) := by decide +kernel
theorem dX1_doFlags_9 : decode cX1_doFlags 9 = .ok (.bipush 16, 2) := by decide +kernel
theorem dX1_doFlags_11 : decode cX1_doFlags 11 = .ok (.iand, 1) := by decide +kernel
theorem dX1_doFlags_12 : decode cX1_doFlags 12 = .ok (.ifCond .eq 7, 3) := by decide +kernel
theorem dX1_doFlags_15 : decode cX1_doFlags 15 = .ok (.iconst 1, 1) := by decide +kernel
theorem dX1_doFlags_16 : decode cX1_doFlags 16 = .ok (.goto 4, 3) := by decide +kernel
theorem dX1_doFlags_19 : decode cX1_doFlags 19 = .ok (.iconst 0, 1) := by decide +kernel
theorem dX1_doFlags_20 : decode cX1_doFlags 20 = .ok (.invokevirtual 139, 3) := by decide +kernel
theorem dX1_doFlags_23 : decode cX1_doFlags 23 = .ok (.aload_n 0, 1) := by decide +kernel
theorem dX1_doFlags_24 : decode cX1_doFlags 24 = .ok (.dup, 1) := by decide +kernel
theorem dX1_doFlags_25 : decode cX1_doFlags 25 = .ok (.getfield 31, 3) := by decide +kernel
theorem dX1_doFlags_28 : decode cX1_doFlags 28 = .ok (.iconst 1, 1) := by decide +kernel
theorem dX1_doFlags_29 : decode cX1_doFlags 29 = .ok (.iadd, 1) := by decide +kernel
theorem dX1_doFlags_30 : decode cX1_doFlags 30 = .ok (.putfield 31, 3) := by decide +kernel
theorem dX1_doFlags_33 : decode cX1_doFlags 33 = .ok (.return_, 1) := by decide +kernel
theorem dX1_run_0 : decode cX1_run 0 = .ok (.iload_n 1, 1) := by decide +kernel
theorem dX1_run_1 : decode cX1_run 1 = .ok (.sipush 10000, 3) := by decide +kernel
theorem dX1_run_4 : decode cX1_run 4 = .ok (.invokestatic 52, 3) := by decide +kernel
theorem dX1_run_7 : decode cX1_run 7 = .ok (.istore_n 2, 1) := by decide +kernel
theorem dX1_run_8 : decode cX1_run 8 = .ok (.iconst 0, 1) := by decide +kernel
theorem dX1_run_9 : decode cX1_run 9 = .ok (.istore_n 3, 1) := by decide +kernel
theorem dX1_run_10 : decode cX1_run 10 = .ok (.iload_n 3, 1) := by decide +kernel
theorem dX1_run_11 : decode cX1_run 11 = .ok (.iload_n 2, 1) := by decide +kernel
theorem dX1_run_12 : decode cX1_run 12 = .ok (.if_icmp .ge 24, 3) := by decide +kernel
theorem dX1_run_15 : decode cX1_run 15 = .ok (.aload_n 0, 1) := by decide +kernel
theorem dX1_run_16 : decode cX1_run 16 = .ok (.getfield 23, 3) := by decide +kernel
theorem dX1_run_19 : decode cX1_run 19 = .ok (.ifCond .ne 17, 3) := by decide +kernel
theorem dX1_run_22 : decode cX1_run 22 = .ok (.aload_n 0, 1) := by decide +kernel
theorem dX1_run_23 : decode cX1_run 23 = .ok (.invokevirtual 49, 3) := by decide +kernel
theorem dX1_run_26 : decode cX1_run 26 = .ok (.iconst (-1), 1) := by decide +kernel
theorem dX1_run_27 : decode cX1_run 27 = .ok (.if_icmp .eq 9, 3) := by decide +kernel
theorem dX1_run_30 : decode cX1_run 30 = .ok (.iinc 3 1, 3) := by decide +kernel
theorem dX1_run_33 : decode cX1_run 33 = .ok (.goto (-23), 3) := by decide +kernel
theorem dX1_run_36 : decode cX1_run 36 = .ok (.iload_n 3, 1) := by decide +kernel
theorem dX1_run_37 : decode cX1_run 37 = .ok (.ireturn, 1) := by decide +kernel
theorem dX1_cycles_0 : decode cX1_cycles 0 = .ok (.aload_n 0, 1) := by decide +kernel
theorem dX1_cycles_1 : decode cX1_cycles 1 = .ok (.getfield 27, 3) := by decide +kernel
theorem dX1_cycles_4 : decode cX1_cycles 4 = .ok (.lreturn, 1) := by decide +kernel
theorem dX1_stopped_0 : decode cX1_stopped 0 = .ok (.aload_n 0, 1) := by decide +kernel
theorem dX1_stopped_1 : decode cX1_stopped 1 = .ok (.getfield 23, 3) := by decide +kernel
theorem dX1_stopped_4 : decode cX1_stopped 4 = .ok (.ireturn, 1) := by decide +kernel
theorem dX1_go_0 : decode cX1_go 0 = .ok (.aload_n 0, 1) := by decide +kernel
theorem dX1_go_1 : decode cX1_go 1 = .ok (.getfield 23, 3) := by decide +kernel
theorem dX1_go_4 : decode cX1_go 4 = .ok (.ifCond .eq 7, 3) := by decide +kernel
theorem dX1_go_7 : decode cX1_go 7 = .ok (.iconst 1, 1) := by decide +kernel
theorem dX1_go_8 : decode cX1_go 8 = .ok (.goto 4, 3) := by decide +kernel
theorem dX1_go_11 : decode cX1_go 11 = .ok (.iconst 0, 1) := by decide +kernel
theorem dX1_go_12 : decode cX1_go 12 = .ok (.istore_n 1, 1) := by decide +kernel
theorem dX1_go_13 : decode cX1_go 13 = .ok (.aload_n 0, 1) := by decide +kernel
theorem dX1_go_14 : decode cX1_go 14 = .ok (.iconst 0, 1) := by decide +kernel
theorem dX1_go_15 : decode cX1_go 15 = .ok (.putfield 23, 3) := by decide +kernel
theorem dX1_go_18 : decode cX1_go 18 = .ok (.iload_n 1, 1) := by decide +kernel
theorem dX1_go_19 : decode cX1_go 19 = .ok (.ireturn, 1) := by decide +kernel
end
section
theorem dX2_init_0 : decode cX2_init 0 = .ok (.aload_n 0, 1) := by decide +kernel
theorem dX2_init_1 : decode cX2_init 1 = .ok (.invokespecial 1, 3) := by decide +kernel
theorem dX2_init_4 : decode cX2_init 4 = .ok (.aload_n 0, 1) := by decide +kernel
theorem dX2_init_5 : decode cX2_init 5 = .ok (.sipush 2048, 3) := by decide +kernel
theorem dX2_init_8 : decode cX2_init 8 = .ok (.newarray .int, 2) := by decide +kernel
theorem dX2_init_10 : decode cX2_init 10 = .ok (.putfield 7, 3) := by decide +kernel
theorem dX2_init_13 : decode cX2_init 13 = .ok (.aload_n 0, 1) := by decide +kernel
theorem dX2_init_14 : decode cX2_init 14 = .ok (.bipush 8, 2) := by decide +kernel
theorem dX2_init_16 : decode cX2_init 16 = .ok (.newarray .int, 2) := by decide +kernel
theorem dX2_init_18 : decode cX2_init 18 = .ok (.putfield 13, 3) := by decide +kernel
theorem dX2_init_21 : decode cX2_init 21 = .ok (.return_, 1) := by decide +kernel
theorem dX2_poke_0 : decode cX2_poke 0 = .ok (.iload_n 1, 1) := by decide +kernel
theorem dX2_poke_1 : decode cX2_poke 1 = .ok (.ifCond .lt 16, 3) := by decide +kernel
theorem dX2_poke_4 : decode cX2_poke 4 = .ok (.iload_n 1, 1) := by decide +kernel
theorem dX2_poke_5 : decode cX2_poke 5 = .ok (.sipush 4096, 3) := by decide +kernel
theorem dX2_poke_8 : decode cX2_poke 8 = .ok (.if_icmp .ge 9, 3) := by decide +kernel
theorem dX2_poke_11 : decode cX2_poke 11 = .ok (.iload_n 1, 1) := by decide +kernel
theorem dX2_poke_12 : decode cX2_poke 12 = .ok (.iconst 2, 1) := by decide +kernel
theorem dX2_poke_13 : decode cX2_poke 13 = .ok (.irem, 1) := by decide +kernel
theorem dX2_poke_14 : decode cX2_poke 14 = .ok (.ifCond .eq 5, 3) := by decide +kernel
theorem dX2_poke_17 : decode cX2_poke 17 = .ok (.iconst 0, 1) := by decide +kernel
theorem dX2_poke_18 : decode cX2_poke 18 = .ok (.ireturn, 1) := by decide +kernel
theorem dX2_poke_19 : decode cX2_poke 19 = .ok (.aload_n 0, 1) := by decide +kernel
theorem dX2_poke_20 : decode cX2_poke 20 = .ok (.getfield 7, 3) := by decide +kernel
theorem dX2_poke_23 : decode cX2_poke 23 = .ok (.iload_n 1, 1) := by decide +kernel
theorem dX2_poke_24 : decode cX2_poke 24 = .ok (.iconst 2, 1) := by decide +kernel
theorem dX2_poke_25 : decode cX2_poke 25 = .ok (.idiv, 1) := by decide +kernel
theorem dX2_poke_26 : decode cX2_poke 26 = .ok (.iload_n 2, 1) := by decide +kernel
theorem dX2_poke_27 : decode cX2_poke 27 = .ok (.ldc 16, 2) := by decide +kernel
theorem dX2_poke_29 : decode cX2_poke 29 = .ok (.iand, 1) := by decide +kernel
theorem dX2_poke_30 : decode cX2_poke 30 = .ok (.iastore, 1) := by decide +kernel
theorem dX2_poke_31 : decode cX2_poke 31 = .ok (.iconst 1, 1) := by decide +kernel
theorem dX2_poke_32 : decode cX2_poke 32 = .ok (.ireturn, 1) := by decide +kernel
theorem dX2_peek_0 : decode cX2_peek 0 = .ok (.iload_n 1, 1) := by decide +kernel
theorem dX2_peek_1 : decode cX2_peek 1 = .ok (.ifCond .lt 16, 3) := by decide +kernel
theorem dX2_peek_4 : decode cX2_peek 4 = .ok (.iload_n 1, 1) := by decide +kernel
theorem dX2_peek_5 : decode cX2_peek 5 = .ok (.sipush 4096, 3) := by decide +kernel
theorem dX2_peek_8 : decode cX2_peek 8 = .ok (.if_icmp .ge 9, 3) := by decide +kernel
theorem dX2_peek_11 : decode cX2_peek 11 = .ok (.iload_n 1, 1) := by decide +kernel
theorem dX2_peek_12 : decode cX2_peek 12 = .ok (.iconst 2, 1) := by decide +kernel
theorem dX2_peek_13 : decode cX2_peek 13 = .ok (.irem, 1) := by decide +kernel
theorem dX2_peek_14 : decode cX2_peek 14 = .ok (.ifCond .eq 7, 3) := by decide +kernel
theorem dX2_peek_17 : decode cX2_peek 17 = .ok (.iconst (-1), 1) := by decide +kernel
theorem dX2_peek_18 : decode cX2_peek 18 = .ok (.goto 11, 3) := by decide +kernel
theorem dX2_peek_21 : decode cX2_peek 21 = .ok (.aload_n 0, 1) := by decide +kernel
theorem dX2_peek_22 : decode cX2_peek 22 = .ok (.getfield 7, 3) := by decide +kernel
theorem dX2_peek_25 : decode cX2_peek 25 = .ok (.iload_n 1, 1) := by decide +kernel
theorem dX2_peek_26 : decode cX2_peek 26 = .ok (.iconst 2, 1) := by decide +kernel
theorem dX2_peek_27 : decode cX2_peek 27 = .ok (.idiv, 1) := by decide +kernel
theorem dX2_peek_28 : decode cX2_peek 28 = .ok (.iaload, 1) := by decide +kernel
theorem dX2_peek_29 : decode cX2_peek 29 = .ok (.ireturn, 1) := by decide +kernel
theorem dX2_set_0 : decode cX2_set 0 = .ok (.iload_n 1, 1) := by decide +kernel
theorem dX2_set_1 : decode cX2_set 1 = .ok (.ifCond .lt 9, 3) := by decide +kernel
theorem dX2_set_4 : decode cX2_set 4 = .ok (.iload_n 1, 1) := by decide +kernel
theorem dX2_set_5 : decode cX2_set 5 = .ok (.bipush 7, 2) := by decide +kernel
theorem dX2_set_7 : decode cX2_set 7 = .ok (.if_icmp .le 5, 3) := by decide +kernel
theorem dX2_set_10 : decode cX2_set 10 = .ok (.iconst 0, 1) := by decide +kernel
theorem dX2_set_11 : decode cX2_set 11 = .ok (.ireturn, 1) := by decide +kernel
theorem dX2_set_12 : decode cX2_set 12 = .ok (.aload_n 0, 1) := by decide +kernel
theorem dX2_set_13 : decode cX2_set 13 = .ok (.getfield 13, 3) := by decide +kernel
theorem dX2_set_16 : decode cX2_set 16 = .ok (.iload_n 1, 1) := by decide +kernel
theorem dX2_set_17 : decode cX2_set 17 = .ok (.iload_n 2, 1) := by decide +kernel
theorem dX2_set_18 : decode cX2_set 18 = .ok (.ldc 16, 2) := by decide +kernel
theorem dX2_set_20 : decode cX2_set 20 = .ok (.iand, 1) := by decide +kernel
theorem dX2_set_21 : decode cX2_set 21 = .ok (.iastore, 1) := by decide +kernel
theorem dX2_set_22 : decode cX2_set 22 = .ok (.iconst 1, 1) := by decide +kernel
theorem dX2_set_23 : decode cX2_set 23 = .ok (.ireturn, 1) := by decide +kernel
theorem dX2_register_0 : decode cX2_register 0 = .ok (.iload_n 1, 1) := by decide +kernel
theorem dX2_register_1 : decode cX2_register 1 = .ok (.ifCond .lt 9, 3) := by decide +kernel
theorem dX2_register_4 : decode cX2_register 4 = .ok (.iload_n 1, 1) := by decide +kernel
theorem dX2_register_5 : decode cX2_register 5 = .ok (.bipush 7, 2) := by decide +kernel
theorem dX2_register_7 : decode cX2_register 7 = .ok (.if_icmp .le 7, 3) := by decide +kernel
theorem dX2_register_10 : decode cX2_register 10 = .ok (.iconst (-1), 1) := by decide +kernel
theorem dX2_register_11 : decode cX2_register 11 = .ok (.goto 9, 3) := by decide +kernel
theorem dX2_register_14 : decode cX2_register 14 = .ok (.aload_n 0, 1) := by decide +kernel
theorem dX2_register_15 : decode cX2_register 15 = .ok (.getfield 13, 3) := by decide +kernel
theorem dX2_register_18 : decode cX2_register 18 = .ok (.iload_n 1, 1) := by decide +kernel
theorem dX2_register_19 : decode cX2_register 19 = .ok (.iaload, 1) := by decide +kernel
theorem dX2_register_20 : decode cX2_register 20 = .ok (.ireturn, 1) := by decide +kernel
theorem dX2_flags_0 : decode cX2_flags 0 = .ok (.aload_n 0, 1) := by decide +kernel
theorem dX2_flags_1 : decode cX2_flags 1 = .ok (.getfield 17, 3) := by decide +kernel
theorem dX2_flags_4 : decode cX2_flags 4 = .ok (.ireturn, 1) := by decide +kernel
theorem dX2_cycles_0 : decode cX2_cycles 0 = .ok (.aload_n 0, 1) := by decide +kernel
theorem dX2_cycles_1 : decode cX2_cycles 1 = .ok (.getfield 21, 3) := by decide +kernel
theorem dX2_cycles_4 : decode cX2_cycles 4 = .ok (.lreturn, 1) := by decide +kernel
theorem dX2_stopped_0 : decode cX2_stopped 0 = .ok (.aload_n 0, 1) := by decide +kernel
theorem dX2_stopped_1 : decode cX2_stopped 1 = .ok (.getfield 25, 3) := by decide +kernel
theorem dX2_stopped_4 : decode cX2_stopped 4 = .ok (.ireturn, 1) := by decide +kernel
theorem dX2_go_0 : decode cX2_go 0 = .ok (.aload_n 0, 1) := by decide +kernel
theorem dX2_go_1 : decode cX2_go 1 = .ok (.getfield 25, 3) := by decide +kernel
theorem dX2_go_4 : decode cX2_go 4 = .ok (.ifCond .le 7, 3) := by decide +kernel
theorem dX2_go_7 : decode cX2_go 7 = .ok (.iconst 1, 1) := by decide +kernel
theorem dX2_go_8 : decode cX2_go 8 = .ok (.goto 4, 3) := by decide +kernel
theorem dX2_go_11 : decode cX2_go 11 = .ok (.iconst 0, 1) := by decide +kernel
theorem dX2_go_12 : decode cX2_go 12 = .ok (.istore_n 1, 1) := by decide +kernel
theorem dX2_go_13 : decode cX2_go 13 = .ok (.aload_n 0, 1) := by decide +kernel
theorem dX2_go_14 : decode cX2_go 14 = .ok (.iconst 0, 1) := by decide +kernel
theorem dX2_go_15 : decode cX2_go 15 = .ok (.putfield 25, 3) := by decide +kernel
theorem dX2_go_18 : decode cX2_go 18 = .ok (.iload_n 1, 1) := by decide +kernel
theorem dX2_go_19 : decode cX2_go 19 = .ok (.ireturn, 1) := by decide +kernel
theorem dX2_step_0 : decode cX2_step 0 = .ok (.aload_n 0, 1) := by decide +kernel
theorem dX2_step_1 : decode cX2_step 1 = .ok (.getfield 25, 3) := by decide +kernel
theorem dX2_step_4 : decode cX2_step 4 = .ok (.ifCond .le 5, 3) := by decide +kernel
theorem dX2_step_7 : decode cX2_step 7 = .ok (.iconst (-1), 1) := by decide +kernel
theorem dX2_step_8 : decode cX2_step 8 = .ok (.ireturn, 1) := by decide +kernel
theorem dX2_step_9 : decode cX2_step 9 = .ok (.aload_n 0, 1) := by decide +kernel
theorem dX2_step_10 : decode cX2_step 10 = .ok (.iconst 2, 1) := by decide +kernel
theorem dX2_step_11 : decode cX2_step 11 = .ok (.putfield 39, 3) := by decide +kernel
theorem dX2_step_14 : decode cX2_step 14 = .ok (.aload_n 0, 1) := by decide +kernel
theorem dX2_step_15 : decode cX2_step 15 = .ok (.invokevirtual 42, 3) := by decide +kernel
theorem dX2_step_18 : decode cX2_step 18 = .ok (.istore_n 1, 1) := by decide +kernel
theorem dX2_step_19 : decode cX2_step 19 = .ok (.aload_n 0, 1) := by decide +kernel
theorem dX2_step_20 : decode cX2_step 20 = .ok (.getfield 25, 3) := by decide +kernel
theorem dX2_step_23 : decode cX2_step 23 = .ok (.ifCond .le 5, 3) := by decide +kernel
theorem dX2_step_26 : decode cX2_step 26 = .ok (.iconst (-1), 1) := by decide +kernel
theorem dX2_step_27 : decode cX2_step 27 = .ok (.ireturn, 1) := by decide +kernel
theorem dX2_step_28 : decode cX2_step 28 = .ok (.iload_n 1, 1) := by decide +kernel
theorem dX2_step_29 : decode cX2_step 29 = .ok (.bipush 12, 2) := by decide +kernel
theorem dX2_step_31 : decode cX2_step 31 = .ok (.ishr, 1) := by decide +kernel
theorem dX2_step_32 : decode cX2_step 32 = .ok (.istore_n 2, 1) := by decide +kernel
theorem dX2_step_33 : decode cX2_step 33 = .ok (.iload_n 1, 1) := by decide +kernel
theorem dX2_step_34 : decode cX2_step 34 = .ok (.bipush 9, 2) := by decide +kernel
theorem dX2_step_36 : decode cX2_step 36 = .ok (.ishr, 1) := by decide +kernel
theorem dX2_step_37 : decode cX2_step 37 = .ok (.bipush 63, 2) := by decide +kernel
theorem dX2_step_39 : decode cX2_step 39 = .ok (.if_icmp .ne 11, 3) := by decide +kernel
theorem dX2_step_42 : decode cX2_step 42 = .ok (.aload_n 0, 1) := by decide +kernel
theorem dX2_step_43 : decode cX2_step 43 = .ok (.iload_n 1, 1) := by decide +kernel
theorem dX2_step_44 : decode cX2_step 44 = .ok (.invokevirtual 99, 3) := by decide +kernel
theorem dX2_step_47 : decode cX2_step 47 = .ok (.goto 46, 3) := by decide +kernel
theorem dX2_step_50 : decode cX2_step 50 = .ok (.iload_n 2, 1) := by decide +kernel
theorem dX2_step_51 : decode cX2_step 51 = .ok (.bipush 7, 2) := by decide +kernel
theorem dX2_step_53 : decode cX2_step 53 = .ok (.if_icmp .eq 9, 3) := by decide +kernel
theorem dX2_step_56 : decode cX2_step 56 = .ok (.iload_n 2, 1) := by decide +kernel
theorem dX2_step_57 : decode cX2_step 57 = .ok (.bipush 15, 2) := by decide +kernel
theorem dX2_step_59 : decode cX2_step 59 = .ok (.if_icmp .ne 11, 3) := by decide +kernel
theorem dX2_step_62 : decode cX2_step 62 = .ok (.aload_n 0, 1) := by decide +kernel
theorem dX2_step_63 : decode cX2_step 63 = .ok (.iconst 2, 1) := by decide +kernel
theorem dX2_step_64 : decode cX2_step 64 = .ok (.putfield 25, 3) := by decide +kernel
theorem dX2_step_67 : decode cX2_step 67 = .ok (.goto 26, 3) := by decide +kernel
theorem dX2_step_70 : decode cX2_step 70 = .ok (.iload_n 2, 1) := by decide +kernel
theorem dX2_step_71 : decode cX2_step 71 = .ok (.ifCond .eq 9, 3) := by decide +kernel
theorem dX2_step_74 : decode cX2_step 74 = .ok (.iload_n 2, 1) := by decide +kernel
theorem dX2_step_75 : decode cX2_step 75 = .ok (.bipush 8, 2) := by decide +kernel
theorem dX2_step_77 : decode cX2_step 77 = .ok (.if_icmp .ne 11, 3) := by decide +kernel
theorem dX2_step_80 : decode cX2_step 80 = .ok (.aload_n 0, 1) := by decide +kernel
theorem dX2_step_81 : decode cX2_step 81 = .ok (.iload_n 1, 1) := by decide +kernel
theorem dX2_step_82 : decode cX2_step 82 = .ok (.invokevirtual 102, 3) := by decide +kernel
theorem dX2_step_85 : decode cX2_step 85 = .ok (.goto 8, 3) := by decide +kernel
theorem dX2_step_88 : decode cX2_step 88 = .ok (.aload_n 0, 1) := by decide +kernel
theorem dX2_step_89 : decode cX2_step 89 = .ok (.iload_n 1, 1) := by decide +kernel
theorem dX2_step_90 : decode cX2_step 90 = .ok (.invokevirtual 105, 3) := by decide +kernel
theorem dX2_step_93 : decode cX2_step 93 = .ok (.aload_n 0, 1) := by decide +kernel
theorem dX2_step_94 : decode cX2_step 94 = .ok (.getfield 25, 3) := by decide +kernel
theorem dX2_step_97 : decode cX2_step 97 = .ok (.ifCond .le 5, 3) := by decide +kernel
theorem dX2_step_100 : decode cX2_step 100 = .ok (.iconst (-1), 1) := by decide +kernel
theorem dX2_step_101 : decode cX2_step 101 = .ok (.ireturn, 1) := by decide +kernel
theorem dX2_step_102 : decode cX2_step 102 = .ok (.aload_n 0, 1) := by decide +kernel
theorem dX2_step_103 : decode cX2_step 103 = .ok (.dup, 1) := by decide +kernel
theorem dX2_step_104 : decode cX2_step 104 = .ok (.getfield 21, 3) := by decide +kernel
theorem dX2_step_107 : decode cX2_step 107 = .ok (.aload_n 0, 1) := by decide +kernel
theorem dX2_step_108 : decode cX2_step 108 = .ok (.getfield 39, 3) := by decide +kernel
theorem dX2_step_111 : decode cX2_step 111 = .ok (.i2l, 1) := by decide +kernel
theorem dX2_step_112 : decode cX2_step 112 = .ok (.ladd, 1) := by decide +kernel
theorem dX2_step_113 : decode cX2_step 113 = .ok (.putfield 21, 3) := by decide +kernel
theorem dX2_step_116 : decode cX2_step 116 = .ok (.aload_n 0, 1) := by decide +kernel
theorem dX2_step_117 : decode cX2_step 117 = .ok (.getfield 39, 3) := by decide +kernel
theorem dX2_step_120 : decode cX2_step 120 = .ok (.ireturn, 1) := by decide +kernel
theorem dX2_following_0 : decode cX2_following 0 = .ok (.aload_n 0, 1) := by decide +kernel
theorem dX2_following_1 : decode cX2_following 1 = .ok (.getfield 13, 3) := by decide +kernel
theorem dX2_following_4 : decode cX2_following 4 = .ok (.bipush 7, 2) := by decide +kernel
theorem dX2_following_6 : decode cX2_following 6 = .ok (.iaload, 1) := by decide +kernel
theorem dX2_following_7 : decode cX2_following 7 = .ok (.istore_n 1, 1) := by decide +kernel
theorem dX2_following_8 : decode cX2_following 8 = .ok (.aload_n 0, 1) := by decide +kernel
theorem dX2_following_9 : decode cX2_following 9 = .ok (.bipush 7, 2) := by decide +kernel
theorem dX2_following_11 : decode cX2_following 11 = .ok (.iconst 2, 1) := by decide +kernel
theorem dX2_following_12 : decode cX2_following 12 = .ok (.invokevirtual 28, 3) := by decide +kernel
theorem dX2_following_15 : decode cX2_following 15 = .ok (.aload_n 0, 1) := by decide +kernel
theorem dX2_following_16 : decode cX2_following 16 = .ok (.iload_n 1, 1) := by decide +kernel
theorem dX2_following_17 : decode cX2_following 17 = .ok (.invokevirtual 32, 3) := by decide +kernel
theorem dX2_following_20 : decode cX2_following 20 = .ok (.ireturn, 1) := by decide +kernel
theorem dX2_add_0 : decode cX2_add 0 = .ok (.aload_n 0, 1) := by decide +kernel
theorem dX2_add_1 : decode cX2_add 1 = .ok (.getfield 13, 3) := by decide +kernel
theorem dX2_add_4 : decode cX2_add 4 = .ok (.iload_n 1, 1) := by decide +kernel
theorem dX2_add_5 : decode cX2_add 5 = .ok (.aload_n 0, 1) := by decide +kernel
theorem dX2_add_6 : decode cX2_add 6 = .ok (.getfield 13, 3) := by decide +kernel
theorem dX2_add_9 : decode cX2_add 9 = .ok (.iload_n 1, 1) := by decide +kernel
theorem dX2_add_10 : decode cX2_add 10 = .ok (.iaload, 1) := by decide +kernel
theorem dX2_add_11 : decode cX2_add 11 = .ok (.iload_n 2, 1) := by decide +kernel
theorem dX2_add_12 : decode cX2_add 12 = .ok (.iadd, 1) := by decide +kernel
theorem dX2_add_13 : decode cX2_add 13 = .ok (.ldc 16, 2) := by decide +kernel
theorem dX2_add_15 : decode cX2_add 15 = .ok (.iand, 1) := by decide +kernel
theorem dX2_add_16 : decode cX2_add 16 = .ok (.iastore, 1) := by decide +kernel
theorem dX2_add_17 : decode cX2_add 17 = .ok (.return_, 1) := by decide +kernel
theorem dX2_word_0 : decode cX2_word 0 = .ok (.aload_n 0, 1) := by decide +kernel
theorem dX2_word_1 : decode cX2_word 1 = .ok (.getfield 25, 3) := by decide +kernel
theorem dX2_word_4 : decode cX2_word 4 = .ok (.ifCond .le 5, 3) := by decide +kernel
theorem dX2_word_7 : decode cX2_word 7 = .ok (.iconst 0, 1) := by decide +kernel
theorem dX2_word_8 : decode cX2_word 8 = .ok (.ireturn, 1) := by decide +kernel
theorem dX2_word_9 : decode cX2_word 9 = .ok (.aload_n 0, 1) := by decide +kernel
theorem dX2_word_10 : decode cX2_word 10 = .ok (.iload_n 1, 1) := by decide +kernel
theorem dX2_word_11 : decode cX2_word 11 = .ok (.iconst 2, 1) := by decide +kernel
theorem dX2_word_12 : decode cX2_word 12 = .ok (.irem, 1) := by decide +kernel
theorem dX2_word_13 : decode cX2_word 13 = .ok (.ifCond .eq 7, 3) := by decide +kernel
theorem dX2_word_16 : decode cX2_word 16 = .ok (.iconst 3, 1) := by decide +kernel
theorem dX2_word_17 : decode cX2_word 17 = .ok (.goto 15, 3) := by decide +kernel
theorem dX2_word_20 : decode cX2_word 20 = .ok (.iload_n 1, 1) := by decide +kernel
theorem dX2_word_21 : decode cX2_word 21 = .ok (.sipush 4096, 3) := by decide +kernel
theorem dX2_word_24 : decode cX2_word 24 = .ok (.if_icmp .lt 7, 3) := by decide +kernel
theorem dX2_word_27 : decode cX2_word 27 = .ok (.iconst 4, 1) := by decide +kernel
theorem dX2_word_28 : decode cX2_word 28 = .ok (.goto 4, 3) := by decide +kernel
theorem dX2_word_31 : decode cX2_word 31 = .ok (.iconst 0, 1) := by decide +kernel
theorem dX2_word_32 : decode cX2_word 32 = .ok (.putfield 25, 3) := by decide +kernel
theorem dX2_word_35 : decode cX2_word 35 = .ok (.aload_n 0, 1) := by decide +kernel
theorem dX2_word_36 : decode cX2_word 36 = .ok (.getfield 25, 3) := by decide +kernel
theorem dX2_word_39 : decode cX2_word 39 = .ok (.ifCond .le 7, 3) := by decide +kernel
theorem dX2_word_42 : decode cX2_word 42 = .ok (.iconst 0, 1) := by decide +kernel
theorem dX2_word_43 : decode cX2_word 43 = .ok (.goto 11, 3) := by decide +kernel
theorem dX2_word_46 : decode cX2_word 46 = .ok (.aload_n 0, 1) := by decide +kernel
theorem dX2_word_47 : decode cX2_word 47 = .ok (.getfield 7, 3) := by decide +kernel
theorem dX2_word_50 : decode cX2_word 50 = .ok (.iload_n 1, 1) := by decide +kernel
theorem dX2_word_51 : decode cX2_word 51 = .ok (.iconst 2, 1) := by decide +kernel
theorem dX2_word_52 : decode cX2_word 52 = .ok (.idiv, 1) := by decide +kernel
theorem dX2_word_53 : decode cX2_word 53 = .ok (.iaload, 1) := by decide +kernel
theorem dX2_word_54 : decode cX2_word 54 = .ok (.ireturn, 1) := by decide +kernel
theorem dX2_count_0 : decode cX2_count 0 = .ok (.iload_n 1, 1) := by decide +kernel
theorem dX2_count_1 : decode cX2_count 1 = .ok (.bipush 6, 2) := by decide +kernel
theorem dX2_count_3 : decode cX2_count 3 = .ok (.ishr, 1) := by decide +kernel
theorem dX2_count_4 : decode cX2_count 4 = .ok (.bipush 7, 2) := by decide +kernel
theorem dX2_count_6 : decode cX2_count 6 = .ok (.iand, 1) := by decide +kernel
theorem dX2_count_7 : decode cX2_count 7 = .ok (.istore_n 2, 1) := by decide +kernel
theorem dX2_count_8 : decode cX2_count 8 = .ok (.aload_n 0, 1) := by decide +kernel
theorem dX2_count_9 : decode cX2_count 9 = .ok (.iload_n 2, 1) := by decide +kernel
theorem dX2_count_10 : decode cX2_count 10 = .ok (.iconst (-1), 1) := by decide +kernel
theorem dX2_count_11 : decode cX2_count 11 = .ok (.invokevirtual 28, 3) := by decide +kernel
theorem dX2_count_14 : decode cX2_count 14 = .ok (.aload_n 0, 1) := by decide +kernel
theorem dX2_count_15 : decode cX2_count 15 = .ok (.dup, 1) := by decide +kernel
theorem dX2_count_16 : decode cX2_count 16 = .ok (.getfield 39, 3) := by decide +kernel
theorem dX2_count_19 : decode cX2_count 19 = .ok (.iconst 2, 1) := by decide +kernel
theorem dX2_count_20 : decode cX2_count 20 = .ok (.iadd, 1) := by decide +kernel
theorem dX2_count_21 : decode cX2_count 21 = .ok (.putfield 39, 3) := by decide +kernel
theorem dX2_count_24 : decode cX2_count 24 = .ok (.aload_n 0, 1) := by decide +kernel
theorem dX2_count_25 : decode cX2_count 25 = .ok (.getfield 13, 3) := by decide +kernel
theorem dX2_count_28 : decode cX2_count 28 = .ok (.iload_n 2, 1) := by decide +kernel
theorem dX2_count_29 : decode cX2_count 29 = .ok (.iaload, 1) := by decide +kernel
theorem dX2_count_30 : decode cX2_count 30 = .ok (.ifCond .ne 4, 3) := by decide +kernel
theorem dX2_count_33 : decode cX2_count 33 = .ok (.return_, 1) := by decide +kernel
theorem dX2_count_34 : decode cX2_count 34 = .ok (.aload_n 0, 1) := by decide +kernel
theorem dX2_count_35 : decode cX2_count 35 = .ok (.dup, 1) := by decide +kernel
theorem dX2_count_36 : decode cX2_count 36 = .ok (.getfield 39, 3) := by decide +kernel
theorem dX2_count_39 : decode cX2_count 39 = .ok (.iconst 1, 1) := by decide +kernel
theorem dX2_count_40 : decode cX2_count 40 = .ok (.iadd, 1) := by decide +kernel
theorem dX2_count_41 : decode cX2_count 41 = .ok (.putfield 39, 3) := by decide +kernel
theorem dX2_count_44 : decode cX2_count 44 = .ok (.aload_n 0, 1) := by decide +kernel
theorem dX2_count_45 : decode cX2_count 45 = .ok (.bipush 7, 2) := by decide +kernel
theorem dX2_count_47 : decode cX2_count 47 = .ok (.bipush (-2), 2) := by decide +kernel
theorem dX2_count_49 : decode cX2_count 49 = .ok (.iload_n 1, 1) := by decide +kernel
theorem dX2_count_50 : decode cX2_count 50 = .ok (.bipush 63, 2) := by decide +kernel
theorem dX2_count_52 : decode cX2_count 52 = .ok (.iand, 1) := by decide +kernel
theorem dX2_count_53 : decode cX2_count 53 = .ok (.imul, 1) := by decide +kernel
theorem dX2_count_54 : decode cX2_count 54 = .ok (.invokevirtual 28, 3) := by decide +kernel
theorem dX2_count_57 : decode cX2_count 57 = .ok (.return_, 1) := by decide +kernel
theorem dX2_doOther_0 : decode cX2_doOther 0 = .ok (.iload_n 1, 1) := by decide +kernel
theorem dX2_doOther_1 : decode cX2_doOther 1 = .ok (.bipush 6, 2) := by decide +kernel
theorem dX2_doOther_3 : decode cX2_doOther 3 = .ok (.ishr, 1) := by decide +kernel
theorem dX2_doOther_4 : decode cX2_doOther 4 = .ok (.sipush 511, 3) := by decide +kernel
theorem dX2_doOther_7 : decode cX2_doOther 7 = .ok (.iand, 1) := by decide +kernel
theorem dX2_doOther_8 : decode cX2_doOther 8 = .ok (.istore_n 2, 1) := by decide +kernel
theorem dX2_doOther_9 : decode cX2_doOther 9 = .ok (.iload_n 1, 1) := by decide +kernel
theorem dX2_doOther_10 : decode cX2_doOther 10 = .ok (.sipush 32767, 3) := by decide +kernel
theorem dX2_doOther_13 : decode cX2_doOther 13 = .ok (.if_icmp .le 7, 3) := by decide +kernel
theorem dX2_doOther_16 : decode cX2_doOther 16 = .ok (.iconst 1, 1) := by decide +kernel
theorem dX2_doOther_17 : decode cX2_doOther 17 = .ok (.goto 4, 3) := by decide +kernel
theorem dX2_doOther_20 : decode cX2_doOther 20 = .ok (.iconst 0, 1) := by decide +kernel
theorem dX2_doOther_21 : decode cX2_doOther 21 = .ok (.istore_n 3, 1) := by decide +kernel
theorem dX2_doOther_22 : decode cX2_doOther 22 = .ok (.iload_n 1, 1) := by decide +kernel
theorem dX2_doOther_23 : decode cX2_doOther 23 = .ok (.bipush 8, 2) := by decide +kernel
theorem dX2_doOther_25 : decode cX2_doOther 25 = .ok (.ishr, 1) := by decide +kernel
theorem dX2_doOther_26 : decode cX2_doOther 26 = .ok (.istore 4, 2) := by decide +kernel
theorem dX2_doOther_28 : decode cX2_doOther 28 = .ok (.iload 4, 2) := by decide +kernel
theorem dX2_doOther_30 : decode cX2_doOther 30 = .ok (.ifCond .le 10, 3) := by decide +kernel
theorem dX2_doOther_33 : decode cX2_doOther 33 = .ok (.iload 4, 2) := by decide +kernel
theorem dX2_doOther_35 : decode cX2_doOther 35 = .ok (.bipush 8, 2) := by decide +kernel
theorem dX2_doOther_37 : decode cX2_doOther 37 = .ok (.if_icmp .lt 18, 3) := by decide +kernel
theorem dX2_doOther_40 : decode cX2_doOther 40 = .ok (.iload 4, 2) := by decide +kernel
theorem dX2_doOther_42 : decode cX2_doOther 42 = .ok (.bipush 127, 2) := by decide +kernel
theorem dX2_doOther_44 : decode cX2_doOther 44 = .ok (.if_icmp .le 19, 3) := by decide +kernel
theorem dX2_doOther_47 : decode cX2_doOther 47 = .ok (.iload 4, 2) := by decide +kernel
theorem dX2_doOther_49 : decode cX2_doOther 49 = .ok (.sipush 136, 3) := by decide +kernel
theorem dX2_doOther_52 : decode cX2_doOther 52 = .ok (.if_icmp .ge 11, 3) := by decide +kernel
theorem dX2_doOther_55 : decode cX2_doOther 55 = .ok (.aload_n 0, 1) := by decide +kernel
theorem dX2_doOther_56 : decode cX2_doOther 56 = .ok (.iload_n 1, 1) := by decide +kernel
theorem dX2_doOther_57 : decode cX2_doOther 57 = .ok (.invokevirtual 82, 3) := by decide +kernel
theorem dX2_doOther_60 : decode cX2_doOther 60 = .ok (.goto 129, 3) := by decide +kernel
theorem dX2_doOther_63 : decode cX2_doOther 63 = .ok (.iload_n 2, 1) := by decide +kernel
theorem dX2_doOther_64 : decode cX2_doOther 64 = .ok (.bipush 40, 2) := by decide +kernel
theorem dX2_doOther_66 : decode cX2_doOther 66 = .ok (.if_icmp .lt 19, 3) := by decide +kernel
theorem dX2_doOther_69 : decode cX2_doOther 69 = .ok (.iload_n 2, 1) := by decide +kernel
theorem dX2_doOther_70 : decode cX2_doOther 70 = .ok (.bipush 51, 2) := by decide +kernel
theorem dX2_doOther_72 : decode cX2_doOther 72 = .ok (.if_icmp .gt 13, 3) := by decide +kernel
theorem dX2_doOther_75 : decode cX2_doOther 75 = .ok (.aload_n 0, 1) := by decide +kernel
theorem dX2_doOther_76 : decode cX2_doOther 76 = .ok (.iload_n 1, 1) := by decide +kernel
theorem dX2_doOther_77 : decode cX2_doOther 77 = .ok (.iload_n 2, 1) := by decide +kernel
theorem dX2_doOther_78 : decode cX2_doOther 78 = .ok (.iload_n 3, 1) := by decide +kernel
theorem dX2_doOther_79 : decode cX2_doOther 79 = .ok (.invokevirtual 86, 3) := by decide +kernel
theorem dX2_doOther_82 : decode cX2_doOther 82 = .ok (.goto 107, 3) := by decide +kernel
theorem dX2_doOther_85 : decode cX2_doOther 85 = .ok (.iload_n 3, 1) := by decide +kernel
theorem dX2_doOther_86 : decode cX2_doOther 86 = .ok (.ifCond .eq 11, 3) := by decide +kernel
theorem dX2_doOther_89 : decode cX2_doOther 89 = .ok (.aload_n 0, 1) := by decide +kernel
theorem dX2_doOther_90 : decode cX2_doOther 90 = .ok (.iconst 2, 1) := by decide +kernel
theorem dX2_doOther_91 : decode cX2_doOther 91 = .ok (.putfield 25, 3) := by decide +kernel
theorem dX2_doOther_94 : decode cX2_doOther 94 = .ok (.goto 95, 3) := by decide +kernel
theorem dX2_doOther_97 : decode cX2_doOther 97 = .ok (.iload_n 2, 1) := by decide +kernel
theorem dX2_doOther_98 : decode cX2_doOther 98 = .ok (.iconst 3, 1) := by decide +kernel
theorem dX2_doOther_99 : decode cX2_doOther 99 = .ok (.if_icmp .ne 13, 3) := by decide +kernel
theorem dX2_doOther_102 : decode cX2_doOther 102 = .ok (.aload_n 0, 1) := by decide +kernel
theorem dX2_doOther_103 : decode cX2_doOther 103 = .ok (.iload_n 1, 1) := by decide +kernel
theorem dX2_doOther_104 : decode cX2_doOther 104 = .ok (.iconst 3, 1) := by decide +kernel
theorem dX2_doOther_105 : decode cX2_doOther 105 = .ok (.iconst 0, 1) := by decide +kernel
theorem dX2_doOther_106 : decode cX2_doOther 106 = .ok (.invokevirtual 86, 3) := by decide +kernel
theorem dX2_doOther_109 : decode cX2_doOther 109 = .ok (.goto 80, 3) := by decide +kernel
theorem dX2_doOther_112 : decode cX2_doOther 112 = .ok (.iload_n 2, 1) := by decide +kernel
theorem dX2_doOther_113 : decode cX2_doOther 113 = .ok (.iconst 1, 1) := by decide +kernel
theorem dX2_doOther_114 : decode cX2_doOther 114 = .ok (.if_icmp .eq 10, 3) := by decide +kernel
theorem dX2_doOther_117 : decode cX2_doOther 117 = .ok (.iload_n 2, 1) := by decide +kernel
theorem dX2_doOther_118 : decode cX2_doOther 118 = .ok (.iconst 3, 1) := by decide +kernel
theorem dX2_doOther_119 : decode cX2_doOther 119 = .ok (.ishr, 1) := by decide +kernel
theorem dX2_doOther_120 : decode cX2_doOther 120 = .ok (.iconst 4, 1) := by decide +kernel
theorem dX2_doOther_121 : decode cX2_doOther 121 = .ok (.if_icmp .ne 11, 3) := by decide +kernel
theorem dX2_doOther_124 : decode cX2_doOther 124 = .ok (.aload_n 0, 1) := by decide +kernel
theorem dX2_doOther_125 : decode cX2_doOther 125 = .ok (.iload_n 1, 1) := by decide +kernel
theorem dX2_doOther_126 : decode cX2_doOther 126 = .ok (.invokevirtual 90, 3) := by decide +kernel
theorem dX2_doOther_129 : decode cX2_doOther 129 = .ok (.goto 60, 3) := by decide +kernel
theorem dX2_doOther_132 : decode cX2_doOther 132 = .ok (.iload_n 1, 1) := by decide +kernel
theorem dX2_doOther_133 : decode cX2_doOther 133 = .ok (.sipush 128, 3) := by decide +kernel
theorem dX2_doOther_136 : decode cX2_doOther 136 = .ok (.if_icmp .lt 18, 3) := by decide +kernel
theorem dX2_doOther_139 : decode cX2_doOther 139 = .ok (.iload_n 1, 1) := by decide +kernel
theorem dX2_doOther_140 : decode cX2_doOther 140 = .ok (.sipush 136, 3) := by decide +kernel
theorem dX2_doOther_143 : decode cX2_doOther 143 = .ok (.if_icmp .ge 11, 3) := by decide +kernel
theorem dX2_doOther_146 : decode cX2_doOther 146 = .ok (.aload_n 0, 1) := by decide +kernel
theorem dX2_doOther_147 : decode cX2_doOther 147 = .ok (.iload_n 1, 1) := by decide +kernel
theorem dX2_doOther_148 : decode cX2_doOther 148 = .ok (.invokevirtual 93, 3) := by decide +kernel
theorem dX2_doOther_151 : decode cX2_doOther 151 = .ok (.goto 38, 3) := by decide +kernel
theorem dX2_doOther_154 : decode cX2_doOther 154 = .ok (.iload_n 1, 1) := by decide +kernel
theorem dX2_doOther_155 : decode cX2_doOther 155 = .ok (.sipush 160, 3) := by decide +kernel
theorem dX2_doOther_158 : decode cX2_doOther 158 = .ok (.if_icmp .lt 18, 3) := by decide +kernel
theorem dX2_doOther_161 : decode cX2_doOther 161 = .ok (.iload_n 1, 1) := by decide +kernel
theorem dX2_doOther_162 : decode cX2_doOther 162 = .ok (.sipush 192, 3) := by decide +kernel
theorem dX2_doOther_165 : decode cX2_doOther 165 = .ok (.if_icmp .ge 11, 3) := by decide +kernel
theorem dX2_doOther_168 : decode cX2_doOther 168 = .ok (.aload_n 0, 1) := by decide +kernel
theorem dX2_doOther_169 : decode cX2_doOther 169 = .ok (.iload_n 1, 1) := by decide +kernel
theorem dX2_doOther_170 : decode cX2_doOther 170 = .ok (.invokevirtual 96, 3) := by decide +kernel
theorem dX2_doOther_173 : decode cX2_doOther 173 = .ok (.goto 16, 3) := by decide +kernel
theorem dX2_doOther_176 : decode cX2_doOther 176 = .ok (.aload_n 0, 1) := by decide +kernel
theorem dX2_doOther_177 : decode cX2_doOther 177 = .ok (.iload_n 1, 1) := by decide +kernel
theorem dX2_doOther_178 : decode cX2_doOther 178 = .ok (.ifCond .ne 7, 3) := by decide +kernel
theorem dX2_doOther_181 : decode cX2_doOther 181 = .ok (.iconst 1, 1) := by decide +kernel
theorem dX2_doOther_182 : decode cX2_doOther 182 = .ok (.goto 4, 3) := by decide +kernel
theorem dX2_doOther_185 : decode cX2_doOther 185 = .ok (.iconst 2, 1) := by decide +kernel
theorem dX2_doOther_186 : decode cX2_doOther 186 = .ok (.putfield 25, 3) := by decide +kernel
theorem dX2_doOther_189 : decode cX2_doOther 189 = .ok (.return_, 1) := by decide +kernel
theorem dX2_branch_0 : decode cX2_branch 0 = .ok (.aload_n 0, 1) := by decide +kernel
theorem dX2_branch_1 : decode cX2_branch 1 = .ok (.dup, 1) := by decide +kernel
theorem dX2_branch_2 : decode cX2_branch 2 = .ok (.getfield 39, 3) := by decide +kernel
theorem dX2_branch_5 : decode cX2_branch 5 = .ok (.iconst 1, 1) := by decide +kernel
theorem dX2_branch_6 : decode cX2_branch 6 = .ok (.iadd, 1) := by decide +kernel
theorem dX2_branch_7 : decode cX2_branch 7 = .ok (.putfield 39, 3) := by decide +kernel
theorem dX2_branch_10 : decode cX2_branch 10 = .ok (.aload_n 0, 1) := by decide +kernel
theorem dX2_branch_11 : decode cX2_branch 11 = .ok (.iload_n 1, 1) := by decide +kernel
theorem dX2_branch_12 : decode cX2_branch 12 = .ok (.bipush 8, 2) := by decide +kernel
theorem dX2_branch_14 : decode cX2_branch 14 = .ok (.ishr, 1) := by decide +kernel
theorem dX2_branch_15 : decode cX2_branch 15 = .ok (.invokevirtual 78, 3) := by decide +kernel
theorem dX2_branch_18 : decode cX2_branch 18 = .ok (.ifCond .ne 4, 3) := by decide +kernel
theorem dX2_branch_21 : decode cX2_branch 21 = .ok (.return_, 1) := by decide +kernel
theorem dX2_branch_22 : decode cX2_branch 22 = .ok (.aload_n 0, 1) := by decide +kernel
theorem dX2_branch_23 : decode cX2_branch 23 = .ok (.dup, 1) := by decide +kernel
theorem dX2_branch_24 : decode cX2_branch 24 = .ok (.getfield 39, 3) := by decide +kernel
theorem dX2_branch_27 : decode cX2_branch 27 = .ok (.iconst 1, 1) := by decide +kernel
theorem dX2_branch_28 : decode cX2_branch 28 = .ok (.iadd, 1) := by decide +kernel
theorem dX2_branch_29 : decode cX2_branch 29 = .ok (.putfield 39, 3) := by decide +kernel
theorem dX2_branch_32 : decode cX2_branch 32 = .ok (.iload_n 1, 1) := by decide +kernel
theorem dX2_branch_33 : decode cX2_branch 33 = .ok (.sipush 255, 3) := by decide +kernel
theorem dX2_branch_36 : decode cX2_branch 36 = .ok (.iand, 1) := by decide +kernel
theorem dX2_branch_37 : decode cX2_branch 37 = .ok (.istore_n 2, 1) := by decide +kernel
theorem dX2_branch_38 : decode cX2_branch 38 = .ok (.aload_n 0, 1) := by decide +kernel
theorem dX2_branch_39 : decode cX2_branch 39 = .ok (.bipush 7, 2) := by decide +kernel
theorem dX2_branch_41 : decode cX2_branch 41 = .ok (.iconst 2, 1) := by decide +kernel
theorem dX2_branch_42 : decode cX2_branch 42 = .ok (.iload_n 2, 1) := by decide +kernel
theorem dX2_branch_43 : decode cX2_branch 43 = .ok (.bipush 127, 2) := by decide +kernel
theorem dX2_branch_45 : decode cX2_branch 45 = .ok (.if_icmp .le 11, 3) := by decide +kernel
theorem dX2_branch_48 : decode cX2_branch 48 = .ok (.iload_n 2, 1) := by decide +kernel
theorem dX2_branch_49 : decode cX2_branch 49 = .ok (.sipush 256, 3) := by decide +kernel
theorem dX2_branch_52 : decode cX2_branch 52 = .ok (.isub, 1) := by decide +kernel
theorem dX2_branch_53 : decode cX2_branch 53 = .ok (.goto 4, 3) := by decide +kernel
theorem dX2_branch_56 : decode cX2_branch 56 = .ok (.iload_n 2, 1) := by decide +kernel
theorem dX2_branch_57 : decode cX2_branch 57 = .ok (.imul, 1) := by decide +kernel
theorem dX2_branch_58 : decode cX2_branch 58 = .ok (.invokevirtual 28, 3) := by decide +kernel
theorem dX2_branch_61 : decode cX2_branch 61 = .ok (.return_, 1) := by decide +kernel
theorem dX2_isTrue_0 : decode cX2_isTrue 0 = .ok (.aload_n 0, 1) := by decide +kernel
theorem dX2_isTrue_1 : decode cX2_isTrue 1 = .ok (.getfield 17, 3) := by decide +kernel
theorem dX2_isTrue_4 : decode cX2_isTrue 4 = .ok (.bipush 8, 2) := by decide +kernel
theorem dX2_isTrue_6 : decode cX2_isTrue 6 = .ok (.iand, 1) := by decide +kernel
theorem dX2_isTrue_7 : decode cX2_isTrue 7 = .ok (.ifCond .eq 7, 3) := by decide +kernel
theorem dX2_isTrue_10 : decode cX2_isTrue 10 = .ok (.iconst 1, 1) := by decide +kernel
theorem dX2_isTrue_11 : decode cX2_isTrue 11 = .ok (.goto 4, 3) := by decide +kernel
theorem dX2_isTrue_14 : decode cX2_isTrue 14 = .ok (.iconst 0, 1) := by decide +kernel
theorem dX2_isTrue_15 : decode cX2_isTrue 15 = .ok (.istore_n 2, 1) := by decide +kernel
theorem dX2_isTrue_16 : decode cX2_isTrue 16 = .ok (.aload_n 0, 1) := by decide +kernel
theorem dX2_isTrue_17 : decode cX2_isTrue 17 = .ok (.getfield 17, 3) := by decide +kernel
theorem dX2_isTrue_20 : decode cX2_isTrue 20 = .ok (.iconst 4, 1) := by decide +kernel
theorem dX2_isTrue_21 : decode cX2_isTrue 21 = .ok (.iand, 1) := by decide +kernel
theorem dX2_isTrue_22 : decode cX2_isTrue 22 = .ok (.ifCond .eq 7, 3) := by decide +kernel
theorem dX2_isTrue_25 : decode cX2_isTrue 25 = .ok (.iconst 1, 1) := by decide +kernel
theorem dX2_isTrue_26 : decode cX2_isTrue 26 = .ok (.goto 4, 3) := by decide +kernel
theorem dX2_isTrue_29 : decode cX2_isTrue 29 = .ok (.iconst 0, 1) := by decide +kernel
theorem dX2_isTrue_30 : decode cX2_isTrue 30 = .ok (.istore_n 3, 1) := by decide +kernel
theorem dX2_isTrue_31 : decode cX2_isTrue 31 = .ok (.aload_n 0, 1) := by decide +kernel
theorem dX2_isTrue_32 : decode cX2_isTrue 32 = .ok (.getfield 17, 3) := by decide +kernel
theorem dX2_isTrue_35 : decode cX2_isTrue 35 = .ok (.iconst 2, 1) := by decide +kernel
theorem dX2_isTrue_36 : decode cX2_isTrue 36 = .ok (.iand, 1) := by decide +kernel
theorem dX2_isTrue_37 : decode cX2_isTrue 37 = .ok (.ifCond .eq 7, 3) := by decide +kernel
end
section
theorem dX2_isTrue_40 : decode cX2_isTrue 40 = .ok (.iconst 1, 1) := by decide +kernel
theorem dX2_isTrue_41 : decode cX2_isTrue 41 = .ok (.goto 4, 3) := by decide +kernel
theorem dX2_isTrue_44 : decode cX2_isTrue 44 = .ok (.iconst 0, 1) := by decide +kernel
theorem dX2_isTrue_45 : decode cX2_isTrue 45 = .ok (.istore 4, 2) := by decide +kernel
theorem dX2_isTrue_47 : decode cX2_isTrue 47 = .ok (.aload_n 0, 1) := by decide +kernel
theorem dX2_isTrue_48 : decode cX2_isTrue 48 = .ok (.getfield 17, 3) := by decide +kernel
theorem dX2_isTrue_51 : decode cX2_isTrue 51 = .ok (.iconst 1, 1) := by decide +kernel
theorem dX2_isTrue_52 : decode cX2_isTrue 52 = .ok (.iand, 1) := by decide +kernel
theorem dX2_isTrue_53 : decode cX2_isTrue 53 = .ok (.ifCond .eq 7, 3) := by decide +kernel
theorem dX2_isTrue_56 : decode cX2_isTrue 56 = .ok (.iconst 1, 1) := by decide +kernel
theorem dX2_isTrue_57 : decode cX2_isTrue 57 = .ok (.goto 4, 3) := by decide +kernel
theorem dX2_isTrue_60 : decode cX2_isTrue 60 = .ok (.iconst 0, 1) := by decide +kernel
theorem dX2_isTrue_61 : decode cX2_isTrue 61 = .ok (.istore 5, 2) := by decide +kernel
theorem dX2_isTrue_63 : decode cX2_isTrue 63 = .ok (.iload_n 1, 1) := by decide +kernel
theorem dX2_isTrue_64 : decode cX2_isTrue 64 = .ok (.bipush 8, 2) := by decide +kernel
theorem dX2_isTrue_66 : decode cX2_isTrue 66 = .ok (.if_icmp .ge 61, 3) := by decide +kernel
theorem dX2_isTrue_69 : decode cX2_isTrue 69 = .ok (.iload_n 1, 1) := by decide +kernel
theorem dX2_isTrue_70 : decode cX2_isTrue 70 = .ok (.iconst 2, 1) := by decide +kernel
theorem dX2_isTrue_71 : decode cX2_isTrue 71 = .ok (.idiv, 1) := by decide +kernel
theorem dX2_isTrue_72 : decode cX2_isTrue 72 = .ok (.iconst 1, 1) := by decide +kernel
theorem dX2_isTrue_73 : decode cX2_isTrue 73 = .ok (.if_icmp .ne 15, 3) := by decide +kernel
theorem dX2_isTrue_76 : decode cX2_isTrue 76 = .ok (.iload_n 3, 1) := by decide +kernel
theorem dX2_isTrue_77 : decode cX2_isTrue 77 = .ok (.ifCond .ne 7, 3) := by decide +kernel
theorem dX2_isTrue_80 : decode cX2_isTrue 80 = .ok (.iconst 1, 1) := by decide +kernel
theorem dX2_isTrue_81 : decode cX2_isTrue 81 = .ok (.goto 122, 3) := by decide +kernel
theorem dX2_isTrue_84 : decode cX2_isTrue 84 = .ok (.iconst 0, 1) := by decide +kernel
theorem dX2_isTrue_85 : decode cX2_isTrue 85 = .ok (.goto 118, 3) := by decide +kernel
theorem dX2_isTrue_88 : decode cX2_isTrue 88 = .ok (.iload_n 1, 1) := by decide +kernel
theorem dX2_isTrue_89 : decode cX2_isTrue 89 = .ok (.iconst 2, 1) := by decide +kernel
theorem dX2_isTrue_90 : decode cX2_isTrue 90 = .ok (.idiv, 1) := by decide +kernel
theorem dX2_isTrue_91 : decode cX2_isTrue 91 = .ok (.iconst 2, 1) := by decide +kernel
theorem dX2_isTrue_92 : decode cX2_isTrue 92 = .ok (.if_icmp .ne 17, 3) := by decide +kernel
theorem dX2_isTrue_95 : decode cX2_isTrue 95 = .ok (.iload_n 2, 1) := by decide +kernel
theorem dX2_isTrue_96 : decode cX2_isTrue 96 = .ok (.iload 4, 2) := by decide +kernel
theorem dX2_isTrue_98 : decode cX2_isTrue 98 = .ok (.if_icmp .ne 7, 3) := by decide +kernel
theorem dX2_isTrue_101 : decode cX2_isTrue 101 = .ok (.iconst 1, 1) := by decide +kernel
theorem dX2_isTrue_102 : decode cX2_isTrue 102 = .ok (.goto 101, 3) := by decide +kernel
theorem dX2_isTrue_105 : decode cX2_isTrue 105 = .ok (.iconst 0, 1) := by decide +kernel
theorem dX2_isTrue_106 : decode cX2_isTrue 106 = .ok (.goto 97, 3) := by decide +kernel
theorem dX2_isTrue_109 : decode cX2_isTrue 109 = .ok (.iload_n 3, 1) := by decide +kernel
theorem dX2_isTrue_110 : decode cX2_isTrue 110 = .ok (.ifCond .ne 13, 3) := by decide +kernel
theorem dX2_isTrue_113 : decode cX2_isTrue 113 = .ok (.iload_n 2, 1) := by decide +kernel
theorem dX2_isTrue_114 : decode cX2_isTrue 114 = .ok (.iload 4, 2) := by decide +kernel
theorem dX2_isTrue_116 : decode cX2_isTrue 116 = .ok (.if_icmp .ne 7, 3) := by decide +kernel
theorem dX2_isTrue_119 : decode cX2_isTrue 119 = .ok (.iconst 1, 1) := by decide +kernel
theorem dX2_isTrue_120 : decode cX2_isTrue 120 = .ok (.goto 83, 3) := by decide +kernel
theorem dX2_isTrue_123 : decode cX2_isTrue 123 = .ok (.iconst 0, 1) := by decide +kernel
theorem dX2_isTrue_124 : decode cX2_isTrue 124 = .ok (.goto 79, 3) := by decide +kernel
theorem dX2_isTrue_127 : decode cX2_isTrue 127 = .ok (.iload_n 1, 1) := by decide +kernel
theorem dX2_isTrue_128 : decode cX2_isTrue 128 = .ok (.iconst 2, 1) := by decide +kernel
theorem dX2_isTrue_129 : decode cX2_isTrue 129 = .ok (.idiv, 1) := by decide +kernel
theorem dX2_isTrue_130 : decode cX2_isTrue 130 = .ok (.bipush 64, 2) := by decide +kernel
theorem dX2_isTrue_132 : decode cX2_isTrue 132 = .ok (.if_icmp .ne 15, 3) := by decide +kernel
theorem dX2_isTrue_135 : decode cX2_isTrue 135 = .ok (.iload_n 2, 1) := by decide +kernel
theorem dX2_isTrue_136 : decode cX2_isTrue 136 = .ok (.ifCond .ne 7, 3) := by decide +kernel
theorem dX2_isTrue_139 : decode cX2_isTrue 139 = .ok (.iconst 1, 1) := by decide +kernel
theorem dX2_isTrue_140 : decode cX2_isTrue 140 = .ok (.goto 63, 3) := by decide +kernel
theorem dX2_isTrue_143 : decode cX2_isTrue 143 = .ok (.iconst 0, 1) := by decide +kernel
theorem dX2_isTrue_144 : decode cX2_isTrue 144 = .ok (.goto 59, 3) := by decide +kernel
theorem dX2_isTrue_147 : decode cX2_isTrue 147 = .ok (.iload_n 1, 1) := by decide +kernel
theorem dX2_isTrue_148 : decode cX2_isTrue 148 = .ok (.iconst 2, 1) := by decide +kernel
theorem dX2_isTrue_149 : decode cX2_isTrue 149 = .ok (.idiv, 1) := by decide +kernel
theorem dX2_isTrue_150 : decode cX2_isTrue 150 = .ok (.bipush 65, 2) := by decide +kernel
theorem dX2_isTrue_152 : decode cX2_isTrue 152 = .ok (.if_icmp .ne 20, 3) := by decide +kernel
theorem dX2_isTrue_155 : decode cX2_isTrue 155 = .ok (.iload 5, 2) := by decide +kernel
theorem dX2_isTrue_157 : decode cX2_isTrue 157 = .ok (.ifCond .ne 11, 3) := by decide +kernel
theorem dX2_isTrue_160 : decode cX2_isTrue 160 = .ok (.iload_n 3, 1) := by decide +kernel
theorem dX2_isTrue_161 : decode cX2_isTrue 161 = .ok (.ifCond .ne 7, 3) := by decide +kernel
theorem dX2_isTrue_164 : decode cX2_isTrue 164 = .ok (.iconst 1, 1) := by decide +kernel
theorem dX2_isTrue_165 : decode cX2_isTrue 165 = .ok (.goto 38, 3) := by decide +kernel
theorem dX2_isTrue_168 : decode cX2_isTrue 168 = .ok (.iconst 0, 1) := by decide +kernel
theorem dX2_isTrue_169 : decode cX2_isTrue 169 = .ok (.goto 34, 3) := by decide +kernel
theorem dX2_isTrue_172 : decode cX2_isTrue 172 = .ok (.iload_n 1, 1) := by decide +kernel
theorem dX2_isTrue_173 : decode cX2_isTrue 173 = .ok (.iconst 2, 1) := by decide +kernel
theorem dX2_isTrue_174 : decode cX2_isTrue 174 = .ok (.idiv, 1) := by decide +kernel
theorem dX2_isTrue_175 : decode cX2_isTrue 175 = .ok (.bipush 66, 2) := by decide +kernel
theorem dX2_isTrue_177 : decode cX2_isTrue 177 = .ok (.if_icmp .ne 16, 3) := by decide +kernel
theorem dX2_isTrue_180 : decode cX2_isTrue 180 = .ok (.iload 4, 2) := by decide +kernel
theorem dX2_isTrue_182 : decode cX2_isTrue 182 = .ok (.ifCond .ne 7, 3) := by decide +kernel
theorem dX2_isTrue_185 : decode cX2_isTrue 185 = .ok (.iconst 1, 1) := by decide +kernel
theorem dX2_isTrue_186 : decode cX2_isTrue 186 = .ok (.goto 17, 3) := by decide +kernel
theorem dX2_isTrue_189 : decode cX2_isTrue 189 = .ok (.iconst 0, 1) := by decide +kernel
theorem dX2_isTrue_190 : decode cX2_isTrue 190 = .ok (.goto 13, 3) := by decide +kernel
theorem dX2_isTrue_193 : decode cX2_isTrue 193 = .ok (.iload 5, 2) := by decide +kernel
theorem dX2_isTrue_195 : decode cX2_isTrue 195 = .ok (.ifCond .ne 7, 3) := by decide +kernel
theorem dX2_isTrue_198 : decode cX2_isTrue 198 = .ok (.iconst 1, 1) := by decide +kernel
theorem dX2_isTrue_199 : decode cX2_isTrue 199 = .ok (.goto 4, 3) := by decide +kernel
theorem dX2_isTrue_202 : decode cX2_isTrue 202 = .ok (.iconst 0, 1) := by decide +kernel
theorem dX2_isTrue_203 : decode cX2_isTrue 203 = .ok (.istore 6, 2) := by decide +kernel
theorem dX2_isTrue_205 : decode cX2_isTrue 205 = .ok (.iload_n 1, 1) := by decide +kernel
theorem dX2_isTrue_206 : decode cX2_isTrue 206 = .ok (.iconst 1, 1) := by decide +kernel
theorem dX2_isTrue_207 : decode cX2_isTrue 207 = .ok (.if_icmp .eq 19, 3) := by decide +kernel
theorem dX2_isTrue_210 : decode cX2_isTrue 210 = .ok (.iload_n 1, 1) := by decide +kernel
theorem dX2_isTrue_211 : decode cX2_isTrue 211 = .ok (.iconst 2, 1) := by decide +kernel
theorem dX2_isTrue_212 : decode cX2_isTrue 212 = .ok (.irem, 1) := by decide +kernel
theorem dX2_isTrue_213 : decode cX2_isTrue 213 = .ok (.ifCond .ne 7, 3) := by decide +kernel
theorem dX2_isTrue_216 : decode cX2_isTrue 216 = .ok (.iconst 1, 1) := by decide +kernel
theorem dX2_isTrue_217 : decode cX2_isTrue 217 = .ok (.goto 4, 3) := by decide +kernel
theorem dX2_isTrue_220 : decode cX2_isTrue 220 = .ok (.iconst 0, 1) := by decide +kernel
theorem dX2_isTrue_221 : decode cX2_isTrue 221 = .ok (.iload 6, 2) := by decide +kernel
theorem dX2_isTrue_223 : decode cX2_isTrue 223 = .ok (.if_icmp .ne 7, 3) := by decide +kernel
theorem dX2_isTrue_226 : decode cX2_isTrue 226 = .ok (.iconst 1, 1) := by decide +kernel
theorem dX2_isTrue_227 : decode cX2_isTrue 227 = .ok (.goto 4, 3) := by decide +kernel
theorem dX2_isTrue_230 : decode cX2_isTrue 230 = .ok (.iconst 0, 1) := by decide +kernel
theorem dX2_isTrue_231 : decode cX2_isTrue 231 = .ok (.ireturn, 1) := by decide +kernel
theorem dX2_doOne_0 : decode cX2_doOne 0 = .ok (.aload_n 0, 1) := by decide +kernel
theorem dX2_doOne_1 : decode cX2_doOne 1 = .ok (.iload_n 1, 1) := by decide +kernel
theorem dX2_doOne_2 : decode cX2_doOne 2 = .ok (.bipush 63, 2) := by decide +kernel
theorem dX2_doOne_4 : decode cX2_doOne 4 = .ok (.iand, 1) := by decide +kernel
theorem dX2_doOne_5 : decode cX2_doOne 5 = .ok (.iload_n 3, 1) := by decide +kernel
theorem dX2_doOne_6 : decode cX2_doOne 6 = .ok (.invokevirtual 54, 3) := by decide +kernel
theorem dX2_doOne_9 : decode cX2_doOne 9 = .ok (.aload_n 0, 1) := by decide +kernel
theorem dX2_doOne_10 : decode cX2_doOne 10 = .ok (.iload_n 3, 1) := by decide +kernel
theorem dX2_doOne_11 : decode cX2_doOne 11 = .ok (.invokevirtual 58, 3) := by decide +kernel
theorem dX2_doOne_14 : decode cX2_doOne 14 = .ok (.istore 4, 2) := by decide +kernel
theorem dX2_doOne_16 : decode cX2_doOne 16 = .ok (.aload_n 0, 1) := by decide +kernel
theorem dX2_doOne_17 : decode cX2_doOne 17 = .ok (.getfield 25, 3) := by decide +kernel
theorem dX2_doOne_20 : decode cX2_doOne 20 = .ok (.ifCond .le 4, 3) := by decide +kernel
theorem dX2_doOne_23 : decode cX2_doOne 23 = .ok (.return_, 1) := by decide +kernel
theorem dX2_doOne_24 : decode cX2_doOne 24 = .ok (.aload_n 0, 1) := by decide +kernel
theorem dX2_doOne_25 : decode cX2_doOne 25 = .ok (.dup, 1) := by decide +kernel
theorem dX2_doOne_26 : decode cX2_doOne 26 = .ok (.getfield 39, 3) := by decide +kernel
theorem dX2_doOne_29 : decode cX2_doOne 29 = .ok (.iconst 1, 1) := by decide +kernel
theorem dX2_doOne_30 : decode cX2_doOne 30 = .ok (.iadd, 1) := by decide +kernel
theorem dX2_doOne_31 : decode cX2_doOne 31 = .ok (.putfield 39, 3) := by decide +kernel
theorem dX2_doOne_34 : decode cX2_doOne 34 = .ok (.iload_n 3, 1) := by decide +kernel
theorem dX2_doOne_35 : decode cX2_doOne 35 = .ok (.ifCond .eq 9, 3) := by decide +kernel
theorem dX2_doOne_38 : decode cX2_doOne 38 = .ok (.sipush 128, 3) := by decide +kernel
theorem dX2_doOne_41 : decode cX2_doOne 41 = .ok (.goto 5, 3) := by decide +kernel
theorem dX2_doOne_44 : decode cX2_doOne 44 = .ok (.ldc 62, 2) := by decide +kernel
theorem dX2_doOne_46 : decode cX2_doOne 46 = .ok (.istore 5, 2) := by decide +kernel
theorem dX2_doOne_48 : decode cX2_doOne 48 = .ok (.iconst 0, 1) := by decide +kernel
theorem dX2_doOne_49 : decode cX2_doOne 49 = .ok (.istore 6, 2) := by decide +kernel
theorem dX2_doOne_51 : decode cX2_doOne 51 = .ok (.iload_n 2, 1) := by decide +kernel
theorem dX2_doOne_52 : decode cX2_doOne 52 = .ok (.iconst 3, 1) := by decide +kernel
theorem dX2_doOne_53 : decode cX2_doOne 53 = .ok (.if_icmp .ne 38, 3) := by decide +kernel
theorem dX2_doOne_56 : decode cX2_doOne 56 = .ok (.iload 4, 2) := by decide +kernel
theorem dX2_doOne_58 : decode cX2_doOne 58 = .ok (.bipush 8, 2) := by decide +kernel
theorem dX2_doOne_60 : decode cX2_doOne 60 = .ok (.ishr, 1) := by decide +kernel
theorem dX2_doOne_61 : decode cX2_doOne 61 = .ok (.iload 4, 2) := by decide +kernel
theorem dX2_doOne_63 : decode cX2_doOne 63 = .ok (.sipush 255, 3) := by decide +kernel
theorem dX2_doOne_66 : decode cX2_doOne 66 = .ok (.iand, 1) := by decide +kernel
theorem dX2_doOne_67 : decode cX2_doOne 67 = .ok (.bipush 8, 2) := by decide +kernel
theorem dX2_doOne_69 : decode cX2_doOne 69 = .ok (.ishl, 1) := by decide +kernel
theorem dX2_doOne_70 : decode cX2_doOne 70 = .ok (.ior, 1) := by decide +kernel
theorem dX2_doOne_71 : decode cX2_doOne 71 = .ok (.istore 6, 2) := by decide +kernel
theorem dX2_doOne_73 : decode cX2_doOne 73 = .ok (.aload_n 0, 1) := by decide +kernel
theorem dX2_doOne_74 : decode cX2_doOne 74 = .ok (.iload 6, 2) := by decide +kernel
theorem dX2_doOne_76 : decode cX2_doOne 76 = .ok (.sipush 255, 3) := by decide +kernel
theorem dX2_doOne_79 : decode cX2_doOne 79 = .ok (.iand, 1) := by decide +kernel
theorem dX2_doOne_80 : decode cX2_doOne 80 = .ok (.sipush 128, 3) := by decide +kernel
theorem dX2_doOne_83 : decode cX2_doOne 83 = .ok (.iconst 0, 1) := by decide +kernel
theorem dX2_doOne_84 : decode cX2_doOne 84 = .ok (.iconst 0, 1) := by decide +kernel
theorem dX2_doOne_85 : decode cX2_doOne 85 = .ok (.invokevirtual 50, 3) := by decide +kernel
theorem dX2_doOne_88 : decode cX2_doOne 88 = .ok (.goto 38, 3) := by decide +kernel
theorem dX2_doOne_91 : decode cX2_doOne 91 = .ok (.iload_n 2, 1) := by decide +kernel
theorem dX2_doOne_92 : decode cX2_doOne 92 = .ok (.bipush 48, 2) := by decide +kernel
theorem dX2_doOne_94 : decode cX2_doOne 94 = .ok (.if_icmp .ge 18, 3) := by decide +kernel
theorem dX2_doOne_97 : decode cX2_doOne 97 = .ok (.aload_n 0, 1) := by decide +kernel
theorem dX2_doOne_98 : decode cX2_doOne 98 = .ok (.iload_n 2, 1) := by decide +kernel
theorem dX2_doOne_99 : decode cX2_doOne 99 = .ok (.bipush 40, 2) := by decide +kernel
theorem dX2_doOne_101 : decode cX2_doOne 101 = .ok (.isub, 1) := by decide +kernel
theorem dX2_doOne_102 : decode cX2_doOne 102 = .ok (.iload 4, 2) := by decide +kernel
theorem dX2_doOne_104 : decode cX2_doOne 104 = .ok (.iload 5, 2) := by decide +kernel
theorem dX2_doOne_106 : decode cX2_doOne 106 = .ok (.invokevirtual 71, 3) := by decide +kernel
theorem dX2_doOne_109 : decode cX2_doOne 109 = .ok (.goto 15, 3) := by decide +kernel
theorem dX2_doOne_112 : decode cX2_doOne 112 = .ok (.aload_n 0, 1) := by decide +kernel
theorem dX2_doOne_113 : decode cX2_doOne 113 = .ok (.iload_n 2, 1) := by decide +kernel
theorem dX2_doOne_114 : decode cX2_doOne 114 = .ok (.bipush 48, 2) := by decide +kernel
theorem dX2_doOne_116 : decode cX2_doOne 116 = .ok (.isub, 1) := by decide +kernel
theorem dX2_doOne_117 : decode cX2_doOne 117 = .ok (.iload 4, 2) := by decide +kernel
theorem dX2_doOne_119 : decode cX2_doOne 119 = .ok (.iload 5, 2) := by decide +kernel
theorem dX2_doOne_121 : decode cX2_doOne 121 = .ok (.invokevirtual 75, 3) := by decide +kernel
theorem dX2_doOne_124 : decode cX2_doOne 124 = .ok (.istore 6, 2) := by decide +kernel
theorem dX2_doOne_126 : decode cX2_doOne 126 = .ok (.iload_n 2, 1) := by decide +kernel
theorem dX2_doOne_127 : decode cX2_doOne 127 = .ok (.bipush 47, 2) := by decide +kernel
theorem dX2_doOne_129 : decode cX2_doOne 129 = .ok (.if_icmp .eq 11, 3) := by decide +kernel
theorem dX2_doOne_132 : decode cX2_doOne 132 = .ok (.aload_n 0, 1) := by decide +kernel
theorem dX2_doOne_133 : decode cX2_doOne 133 = .ok (.iload 6, 2) := by decide +kernel
theorem dX2_doOne_135 : decode cX2_doOne 135 = .ok (.iload_n 3, 1) := by decide +kernel
theorem dX2_doOne_136 : decode cX2_doOne 136 = .ok (.iconst 0, 1) := by decide +kernel
theorem dX2_doOne_137 : decode cX2_doOne 137 = .ok (.invokevirtual 67, 3) := by decide +kernel
theorem dX2_doOne_140 : decode cX2_doOne 140 = .ok (.return_, 1) := by decide +kernel
theorem dX2_find_0 : decode cX2_find 0 = .ok (.iload_n 1, 1) := by decide +kernel
theorem dX2_find_1 : decode cX2_find 1 = .ok (.iconst 3, 1) := by decide +kernel
theorem dX2_find_2 : decode cX2_find 2 = .ok (.ishr, 1) := by decide +kernel
theorem dX2_find_3 : decode cX2_find 3 = .ok (.bipush 7, 2) := by decide +kernel
theorem dX2_find_5 : decode cX2_find 5 = .ok (.iand, 1) := by decide +kernel
theorem dX2_find_6 : decode cX2_find 6 = .ok (.istore_n 3, 1) := by decide +kernel
theorem dX2_find_7 : decode cX2_find 7 = .ok (.iload_n 1, 1) := by decide +kernel
theorem dX2_find_8 : decode cX2_find 8 = .ok (.bipush 7, 2) := by decide +kernel
theorem dX2_find_10 : decode cX2_find 10 = .ok (.iand, 1) := by decide +kernel
theorem dX2_find_11 : decode cX2_find 11 = .ok (.istore 4, 2) := by decide +kernel
theorem dX2_find_13 : decode cX2_find 13 = .ok (.iload_n 2, 1) := by decide +kernel
theorem dX2_find_14 : decode cX2_find 14 = .ok (.ifCond .eq 20, 3) := by decide +kernel
theorem dX2_find_17 : decode cX2_find 17 = .ok (.iload_n 3, 1) := by decide +kernel
theorem dX2_find_18 : decode cX2_find 18 = .ok (.iconst 2, 1) := by decide +kernel
theorem dX2_find_19 : decode cX2_find 19 = .ok (.irem, 1) := by decide +kernel
theorem dX2_find_20 : decode cX2_find 20 = .ok (.ifCond .ne 14, 3) := by decide +kernel
theorem dX2_find_23 : decode cX2_find 23 = .ok (.iload 4, 2) := by decide +kernel
theorem dX2_find_25 : decode cX2_find 25 = .ok (.bipush 6, 2) := by decide +kernel
theorem dX2_find_27 : decode cX2_find 27 = .ok (.if_icmp .ge 7, 3) := by decide +kernel
theorem dX2_find_30 : decode cX2_find 30 = .ok (.iconst 1, 1) := by decide +kernel
theorem dX2_find_31 : decode cX2_find 31 = .ok (.goto 4, 3) := by decide +kernel
theorem dX2_find_34 : decode cX2_find 34 = .ok (.iconst 2, 1) := by decide +kernel
theorem dX2_find_35 : decode cX2_find 35 = .ok (.istore 5, 2) := by decide +kernel
theorem dX2_find_37 : decode cX2_find 37 = .ok (.aload_n 0, 1) := by decide +kernel
theorem dX2_find_38 : decode cX2_find 38 = .ok (.iconst (-1), 1) := by decide +kernel
theorem dX2_find_39 : decode cX2_find 39 = .ok (.iload 4, 2) := by decide +kernel
theorem dX2_find_41 : decode cX2_find 41 = .ok (.isub, 1) := by decide +kernel
theorem dX2_find_42 : decode cX2_find 42 = .ok (.putfield 36, 3) := by decide +kernel
theorem dX2_find_45 : decode cX2_find 45 = .ok (.iload_n 3, 1) := by decide +kernel
theorem dX2_find_46 : decode cX2_find 46 = .ok (.ifCond .ne 4, 3) := by decide +kernel
theorem dX2_find_49 : decode cX2_find 49 = .ok (.return_, 1) := by decide +kernel
theorem dX2_find_50 : decode cX2_find 50 = .ok (.iload_n 3, 1) := by decide +kernel
theorem dX2_find_51 : decode cX2_find 51 = .ok (.iconst 2, 1) := by decide +kernel
theorem dX2_find_52 : decode cX2_find 52 = .ok (.idiv, 1) := by decide +kernel
theorem dX2_find_53 : decode cX2_find 53 = .ok (.istore 6, 2) := by decide +kernel
theorem dX2_find_55 : decode cX2_find 55 = .ok (.aload_n 0, 1) := by decide +kernel
theorem dX2_find_56 : decode cX2_find 56 = .ok (.dup, 1) := by decide +kernel
theorem dX2_find_57 : decode cX2_find 57 = .ok (.getfield 39, 3) := by decide +kernel
theorem dX2_find_60 : decode cX2_find 60 = .ok (.iload 6, 2) := by decide +kernel
theorem dX2_find_62 : decode cX2_find 62 = .ok (.ifCond .ne 7, 3) := by decide +kernel
theorem dX2_find_65 : decode cX2_find 65 = .ok (.iconst 1, 1) := by decide +kernel
theorem dX2_find_66 : decode cX2_find 66 = .ok (.goto 24, 3) := by decide +kernel
theorem dX2_find_69 : decode cX2_find 69 = .ok (.iload 6, 2) := by decide +kernel
theorem dX2_find_71 : decode cX2_find 71 = .ok (.iconst 1, 1) := by decide +kernel
theorem dX2_find_72 : decode cX2_find 72 = .ok (.if_icmp .ne 7, 3) := by decide +kernel
theorem dX2_find_75 : decode cX2_find 75 = .ok (.iconst 1, 1) := by decide +kernel
theorem dX2_find_76 : decode cX2_find 76 = .ok (.goto 14, 3) := by decide +kernel
theorem dX2_find_79 : decode cX2_find 79 = .ok (.iload 6, 2) := by decide +kernel
theorem dX2_find_81 : decode cX2_find 81 = .ok (.iconst 2, 1) := by decide +kernel
theorem dX2_find_82 : decode cX2_find 82 = .ok (.if_icmp .ne 7, 3) := by decide +kernel
theorem dX2_find_85 : decode cX2_find 85 = .ok (.iconst 2, 1) := by decide +kernel
theorem dX2_find_86 : decode cX2_find 86 = .ok (.goto 4, 3) := by decide +kernel
theorem dX2_find_89 : decode cX2_find 89 = .ok (.iconst 3, 1) := by decide +kernel
theorem dX2_find_90 : decode cX2_find 90 = .ok (.iadd, 1) := by decide +kernel
theorem dX2_find_91 : decode cX2_find 91 = .ok (.putfield 39, 3) := by decide +kernel
theorem dX2_find_94 : decode cX2_find 94 = .ok (.aload_n 0, 1) := by decide +kernel
theorem dX2_find_95 : decode cX2_find 95 = .ok (.aload_n 0, 1) := by decide +kernel
theorem dX2_find_96 : decode cX2_find 96 = .ok (.getfield 13, 3) := by decide +kernel
theorem dX2_find_99 : decode cX2_find 99 = .ok (.iload 4, 2) := by decide +kernel
theorem dX2_find_101 : decode cX2_find 101 = .ok (.iaload, 1) := by decide +kernel
theorem dX2_find_102 : decode cX2_find 102 = .ok (.putfield 36, 3) := by decide +kernel
theorem dX2_find_105 : decode cX2_find 105 = .ok (.iload 6, 2) := by decide +kernel
theorem dX2_find_107 : decode cX2_find 107 = .ok (.iconst 1, 1) := by decide +kernel
theorem dX2_find_108 : decode cX2_find 108 = .ok (.if_icmp .ne 11, 3) := by decide +kernel
theorem dX2_find_111 : decode cX2_find 111 = .ok (.aload_n 0, 1) := by decide +kernel
theorem dX2_find_112 : decode cX2_find 112 = .ok (.iload 4, 2) := by decide +kernel
theorem dX2_find_114 : decode cX2_find 114 = .ok (.iload 5, 2) := by decide +kernel
theorem dX2_find_116 : decode cX2_find 116 = .ok (.invokevirtual 28, 3) := by decide +kernel
theorem dX2_find_119 : decode cX2_find 119 = .ok (.iload 6, 2) := by decide +kernel
theorem dX2_find_121 : decode cX2_find 121 = .ok (.iconst 2, 1) := by decide +kernel
theorem dX2_find_122 : decode cX2_find 122 = .ok (.if_icmp .ne 23, 3) := by decide +kernel
theorem dX2_find_125 : decode cX2_find 125 = .ok (.aload_n 0, 1) := by decide +kernel
theorem dX2_find_126 : decode cX2_find 126 = .ok (.iload 4, 2) := by decide +kernel
theorem dX2_find_128 : decode cX2_find 128 = .ok (.iload 5, 2) := by decide +kernel
theorem dX2_find_130 : decode cX2_find 130 = .ok (.ineg, 1) := by decide +kernel
theorem dX2_find_131 : decode cX2_find 131 = .ok (.invokevirtual 28, 3) := by decide +kernel
theorem dX2_find_134 : decode cX2_find 134 = .ok (.aload_n 0, 1) := by decide +kernel
theorem dX2_find_135 : decode cX2_find 135 = .ok (.aload_n 0, 1) := by decide +kernel
theorem dX2_find_136 : decode cX2_find 136 = .ok (.getfield 13, 3) := by decide +kernel
theorem dX2_find_139 : decode cX2_find 139 = .ok (.iload 4, 2) := by decide +kernel
theorem dX2_find_141 : decode cX2_find 141 = .ok (.iaload, 1) := by decide +kernel
theorem dX2_find_142 : decode cX2_find 142 = .ok (.putfield 36, 3) := by decide +kernel
theorem dX2_find_145 : decode cX2_find 145 = .ok (.iload 6, 2) := by decide +kernel
theorem dX2_find_147 : decode cX2_find 147 = .ok (.iconst 3, 1) := by decide +kernel
theorem dX2_find_148 : decode cX2_find 148 = .ok (.if_icmp .ne 26, 3) := by decide +kernel
theorem dX2_find_151 : decode cX2_find 151 = .ok (.aload_n 0, 1) := by decide +kernel
theorem dX2_find_152 : decode cX2_find 152 = .ok (.invokevirtual 42, 3) := by decide +kernel
theorem dX2_find_155 : decode cX2_find 155 = .ok (.istore 7, 2) := by decide +kernel
theorem dX2_find_157 : decode cX2_find 157 = .ok (.aload_n 0, 1) := by decide +kernel
theorem dX2_find_158 : decode cX2_find 158 = .ok (.iload 7, 2) := by decide +kernel
theorem dX2_find_160 : decode cX2_find 160 = .ok (.aload_n 0, 1) := by decide +kernel
theorem dX2_find_161 : decode cX2_find 161 = .ok (.getfield 13, 3) := by decide +kernel
theorem dX2_find_164 : decode cX2_find 164 = .ok (.iload 4, 2) := by decide +kernel
theorem dX2_find_166 : decode cX2_find 166 = .ok (.iaload, 1) := by decide +kernel
theorem dX2_find_167 : decode cX2_find 167 = .ok (.iadd, 1) := by decide +kernel
theorem dX2_find_168 : decode cX2_find 168 = .ok (.ldc 16, 2) := by decide +kernel
theorem dX2_find_170 : decode cX2_find 170 = .ok (.iand, 1) := by decide +kernel
theorem dX2_find_171 : decode cX2_find 171 = .ok (.putfield 36, 3) := by decide +kernel
theorem dX2_find_174 : decode cX2_find 174 = .ok (.iload_n 3, 1) := by decide +kernel
theorem dX2_find_175 : decode cX2_find 175 = .ok (.iconst 3, 1) := by decide +kernel
theorem dX2_find_176 : decode cX2_find 176 = .ok (.if_icmp .eq 14, 3) := by decide +kernel
theorem dX2_find_179 : decode cX2_find 179 = .ok (.iload_n 3, 1) := by decide +kernel
theorem dX2_find_180 : decode cX2_find 180 = .ok (.iconst 5, 1) := by decide +kernel
theorem dX2_find_181 : decode cX2_find 181 = .ok (.if_icmp .eq 9, 3) := by decide +kernel
theorem dX2_find_184 : decode cX2_find 184 = .ok (.iload_n 3, 1) := by decide +kernel
theorem dX2_find_185 : decode cX2_find 185 = .ok (.bipush 7, 2) := by decide +kernel
theorem dX2_find_187 : decode cX2_find 187 = .ok (.if_icmp .ne 25, 3) := by decide +kernel
theorem dX2_find_190 : decode cX2_find 190 = .ok (.aload_n 0, 1) := by decide +kernel
theorem dX2_find_191 : decode cX2_find 191 = .ok (.dup, 1) := by decide +kernel
theorem dX2_find_192 : decode cX2_find 192 = .ok (.getfield 39, 3) := by decide +kernel
theorem dX2_find_195 : decode cX2_find 195 = .ok (.iconst 1, 1) := by decide +kernel
theorem dX2_find_196 : decode cX2_find 196 = .ok (.iadd, 1) := by decide +kernel
theorem dX2_find_197 : decode cX2_find 197 = .ok (.putfield 39, 3) := by decide +kernel
theorem dX2_find_200 : decode cX2_find 200 = .ok (.aload_n 0, 1) := by decide +kernel
theorem dX2_find_201 : decode cX2_find 201 = .ok (.aload_n 0, 1) := by decide +kernel
theorem dX2_find_202 : decode cX2_find 202 = .ok (.aload_n 0, 1) := by decide +kernel
theorem dX2_find_203 : decode cX2_find 203 = .ok (.getfield 36, 3) := by decide +kernel
theorem dX2_find_206 : decode cX2_find 206 = .ok (.invokevirtual 32, 3) := by decide +kernel
theorem dX2_find_209 : decode cX2_find 209 = .ok (.putfield 36, 3) := by decide +kernel
theorem dX2_find_212 : decode cX2_find 212 = .ok (.return_, 1) := by decide +kernel
theorem dX2_read_0 : decode cX2_read 0 = .ok (.aload_n 0, 1) := by decide +kernel
theorem dX2_read_1 : decode cX2_read 1 = .ok (.dup, 1) := by decide +kernel
theorem dX2_read_2 : decode cX2_read 2 = .ok (.getfield 39, 3) := by decide +kernel
theorem dX2_read_5 : decode cX2_read 5 = .ok (.iconst 1, 1) := by decide +kernel
theorem dX2_read_6 : decode cX2_read 6 = .ok (.iadd, 1) := by decide +kernel
theorem dX2_read_7 : decode cX2_read 7 = .ok (.putfield 39, 3) := by decide +kernel
theorem dX2_read_10 : decode cX2_read 10 = .ok (.aload_n 0, 1) := by decide +kernel
theorem dX2_read_11 : decode cX2_read 11 = .ok (.getfield 25, 3) := by decide +kernel
theorem dX2_read_14 : decode cX2_read 14 = .ok (.ifCond .le 5, 3) := by decide +kernel
theorem dX2_read_17 : decode cX2_read 17 = .ok (.iconst 0, 1) := by decide +kernel
theorem dX2_read_18 : decode cX2_read 18 = .ok (.ireturn, 1) := by decide +kernel
theorem dX2_read_19 : decode cX2_read 19 = .ok (.aload_n 0, 1) := by decide +kernel
theorem dX2_read_20 : decode cX2_read 20 = .ok (.getfield 36, 3) := by decide +kernel
theorem dX2_read_23 : decode cX2_read 23 = .ok (.ifCond .ge 28, 3) := by decide +kernel
theorem dX2_read_26 : decode cX2_read 26 = .ok (.aload_n 0, 1) := by decide +kernel
theorem dX2_read_27 : decode cX2_read 27 = .ok (.getfield 13, 3) := by decide +kernel
theorem dX2_read_30 : decode cX2_read 30 = .ok (.iconst (-1), 1) := by decide +kernel
theorem dX2_read_31 : decode cX2_read 31 = .ok (.aload_n 0, 1) := by decide +kernel
theorem dX2_read_32 : decode cX2_read 32 = .ok (.getfield 36, 3) := by decide +kernel
theorem dX2_read_35 : decode cX2_read 35 = .ok (.isub, 1) := by decide +kernel
theorem dX2_read_36 : decode cX2_read 36 = .ok (.iaload, 1) := by decide +kernel
theorem dX2_read_37 : decode cX2_read 37 = .ok (.iload_n 1, 1) := by decide +kernel
theorem dX2_read_38 : decode cX2_read 38 = .ok (.ifCond .eq 9, 3) := by decide +kernel
theorem dX2_read_41 : decode cX2_read 41 = .ok (.sipush 255, 3) := by decide +kernel
theorem dX2_read_44 : decode cX2_read 44 = .ok (.goto 5, 3) := by decide +kernel
theorem dX2_read_47 : decode cX2_read 47 = .ok (.ldc 16, 2) := by decide +kernel
theorem dX2_read_49 : decode cX2_read 49 = .ok (.iand, 1) := by decide +kernel
theorem dX2_read_50 : decode cX2_read 50 = .ok (.ireturn, 1) := by decide +kernel
theorem dX2_read_51 : decode cX2_read 51 = .ok (.iload_n 1, 1) := by decide +kernel
theorem dX2_read_52 : decode cX2_read 52 = .ok (.ifCond .eq 14, 3) := by decide +kernel
theorem dX2_read_55 : decode cX2_read 55 = .ok (.aload_n 0, 1) := by decide +kernel
theorem dX2_read_56 : decode cX2_read 56 = .ok (.aload_n 0, 1) := by decide +kernel
theorem dX2_read_57 : decode cX2_read 57 = .ok (.getfield 36, 3) := by decide +kernel
theorem dX2_read_60 : decode cX2_read 60 = .ok (.invokevirtual 46, 3) := by decide +kernel
theorem dX2_read_63 : decode cX2_read 63 = .ok (.goto 11, 3) := by decide +kernel
theorem dX2_read_66 : decode cX2_read 66 = .ok (.aload_n 0, 1) := by decide +kernel
theorem dX2_read_67 : decode cX2_read 67 = .ok (.aload_n 0, 1) := by decide +kernel
theorem dX2_read_68 : decode cX2_read 68 = .ok (.getfield 36, 3) := by decide +kernel
theorem dX2_read_71 : decode cX2_read 71 = .ok (.invokevirtual 32, 3) := by decide +kernel
theorem dX2_read_74 : decode cX2_read 74 = .ok (.ireturn, 1) := by decide +kernel
theorem dX2_octet_0 : decode cX2_octet 0 = .ok (.aload_n 0, 1) := by decide +kernel
theorem dX2_octet_1 : decode cX2_octet 1 = .ok (.getfield 25, 3) := by decide +kernel
theorem dX2_octet_4 : decode cX2_octet 4 = .ok (.ifCond .le 5, 3) := by decide +kernel
theorem dX2_octet_7 : decode cX2_octet 7 = .ok (.iconst 0, 1) := by decide +kernel
theorem dX2_octet_8 : decode cX2_octet 8 = .ok (.ireturn, 1) := by decide +kernel
theorem dX2_octet_9 : decode cX2_octet 9 = .ok (.aload_n 0, 1) := by decide +kernel
theorem dX2_octet_10 : decode cX2_octet 10 = .ok (.iload_n 1, 1) := by decide +kernel
theorem dX2_octet_11 : decode cX2_octet 11 = .ok (.sipush 4096, 3) := by decide +kernel
theorem dX2_octet_14 : decode cX2_octet 14 = .ok (.if_icmp .lt 7, 3) := by decide +kernel
theorem dX2_octet_17 : decode cX2_octet 17 = .ok (.iconst 4, 1) := by decide +kernel
theorem dX2_octet_18 : decode cX2_octet 18 = .ok (.goto 4, 3) := by decide +kernel
theorem dX2_octet_21 : decode cX2_octet 21 = .ok (.iconst 0, 1) := by decide +kernel
theorem dX2_octet_22 : decode cX2_octet 22 = .ok (.putfield 25, 3) := by decide +kernel
theorem dX2_octet_25 : decode cX2_octet 25 = .ok (.aload_n 0, 1) := by decide +kernel
theorem dX2_octet_26 : decode cX2_octet 26 = .ok (.getfield 25, 3) := by decide +kernel
theorem dX2_octet_29 : decode cX2_octet 29 = .ok (.ifCond .le 7, 3) := by decide +kernel
theorem dX2_octet_32 : decode cX2_octet 32 = .ok (.iconst 0, 1) := by decide +kernel
theorem dX2_octet_33 : decode cX2_octet 33 = .ok (.goto 22, 3) := by decide +kernel
theorem dX2_octet_36 : decode cX2_octet 36 = .ok (.aload_n 0, 1) := by decide +kernel
theorem dX2_octet_37 : decode cX2_octet 37 = .ok (.getfield 7, 3) := by decide +kernel
theorem dX2_octet_40 : decode cX2_octet 40 = .ok (.iload_n 1, 1) := by decide +kernel
theorem dX2_octet_41 : decode cX2_octet 41 = .ok (.iconst 2, 1) := by decide +kernel
theorem dX2_octet_42 : decode cX2_octet 42 = .ok (.idiv, 1) := by decide +kernel
theorem dX2_octet_43 : decode cX2_octet 43 = .ok (.iaload, 1) := by decide +kernel
theorem dX2_octet_44 : decode cX2_octet 44 = .ok (.bipush 8, 2) := by decide +kernel
theorem dX2_octet_46 : decode cX2_octet 46 = .ok (.iload_n 1, 1) := by decide +kernel
theorem dX2_octet_47 : decode cX2_octet 47 = .ok (.iconst 2, 1) := by decide +kernel
theorem dX2_octet_48 : decode cX2_octet 48 = .ok (.irem, 1) := by decide +kernel
theorem dX2_octet_49 : decode cX2_octet 49 = .ok (.imul, 1) := by decide +kernel
theorem dX2_octet_50 : decode cX2_octet 50 = .ok (.ishr, 1) := by decide +kernel
theorem dX2_octet_51 : decode cX2_octet 51 = .ok (.sipush 255, 3) := by decide +kernel
theorem dX2_octet_54 : decode cX2_octet 54 = .ok (.iand, 1) := by decide +kernel
theorem dX2_octet_55 : decode cX2_octet 55 = .ok (.ireturn, 1) := by decide +kernel
theorem dX2_tell_0 : decode cX2_tell 0 = .ok (.aload_n 0, 1) := by decide +kernel
theorem dX2_tell_1 : decode cX2_tell 1 = .ok (.iload_n 1, 1) := by decide +kernel
theorem dX2_tell_2 : decode cX2_tell 2 = .ok (.iload_n 2, 1) := by decide +kernel
theorem dX2_tell_3 : decode cX2_tell 3 = .ok (.iand, 1) := by decide +kernel
theorem dX2_tell_4 : decode cX2_tell 4 = .ok (.ifCond .eq 8, 3) := by decide +kernel
theorem dX2_tell_7 : decode cX2_tell 7 = .ok (.bipush 8, 2) := by decide +kernel
theorem dX2_tell_9 : decode cX2_tell 9 = .ok (.goto 4, 3) := by decide +kernel
theorem dX2_tell_12 : decode cX2_tell 12 = .ok (.iconst 0, 1) := by decide +kernel
theorem dX2_tell_13 : decode cX2_tell 13 = .ok (.iload_n 1, 1) := by decide +kernel
theorem dX2_tell_14 : decode cX2_tell 14 = .ok (.ifCond .ne 7, 3) := by decide +kernel
theorem dX2_tell_17 : decode cX2_tell 17 = .ok (.iconst 4, 1) := by decide +kernel
theorem dX2_tell_18 : decode cX2_tell 18 = .ok (.goto 4, 3) := by decide +kernel
theorem dX2_tell_21 : decode cX2_tell 21 = .ok (.iconst 0, 1) := by decide +kernel
theorem dX2_tell_22 : decode cX2_tell 22 = .ok (.iadd, 1) := by decide +kernel
theorem dX2_tell_23 : decode cX2_tell 23 = .ok (.iload_n 3, 1) := by decide +kernel
theorem dX2_tell_24 : decode cX2_tell 24 = .ok (.ifCond .eq 7, 3) := by decide +kernel
theorem dX2_tell_27 : decode cX2_tell 27 = .ok (.iconst 2, 1) := by decide +kernel
theorem dX2_tell_28 : decode cX2_tell 28 = .ok (.goto 4, 3) := by decide +kernel
theorem dX2_tell_31 : decode cX2_tell 31 = .ok (.iconst 0, 1) := by decide +kernel
theorem dX2_tell_32 : decode cX2_tell 32 = .ok (.iadd, 1) := by decide +kernel
theorem dX2_tell_33 : decode cX2_tell 33 = .ok (.iload 4, 2) := by decide +kernel
theorem dX2_tell_35 : decode cX2_tell 35 = .ok (.ifCond .eq 7, 3) := by decide +kernel
theorem dX2_tell_38 : decode cX2_tell 38 = .ok (.iconst 1, 1) := by decide +kernel
theorem dX2_tell_39 : decode cX2_tell 39 = .ok (.goto 4, 3) := by decide +kernel
theorem dX2_tell_42 : decode cX2_tell 42 = .ok (.iconst 0, 1) := by decide +kernel
theorem dX2_tell_43 : decode cX2_tell 43 = .ok (.iadd, 1) := by decide +kernel
theorem dX2_tell_44 : decode cX2_tell 44 = .ok (.putfield 17, 3) := by decide +kernel
theorem dX2_tell_47 : decode cX2_tell 47 = .ok (.return_, 1) := by decide +kernel
theorem dX2_one_0 : decode cX2_one 0 = .ok (.iconst 2, 1) := by decide +kernel
theorem dX2_one_1 : decode cX2_one 1 = .ok (.iload_n 3, 1) := by decide +kernel
theorem dX2_one_2 : decode cX2_one 2 = .ok (.imul, 1) := by decide +kernel
theorem dX2_one_3 : decode cX2_one 3 = .ok (.iconst 1, 1) := by decide +kernel
theorem dX2_one_4 : decode cX2_one 4 = .ok (.isub, 1) := by decide +kernel
theorem dX2_one_5 : decode cX2_one 5 = .ok (.istore 4, 2) := by decide +kernel
theorem dX2_one_7 : decode cX2_one 7 = .ok (.aload_n 0, 1) := by decide +kernel
theorem dX2_one_8 : decode cX2_one 8 = .ok (.getfield 17, 3) := by decide +kernel
theorem dX2_one_11 : decode cX2_one 11 = .ok (.iconst 1, 1) := by decide +kernel
theorem dX2_one_12 : decode cX2_one 12 = .ok (.iand, 1) := by decide +kernel
theorem dX2_one_13 : decode cX2_one 13 = .ok (.ifCond .eq 7, 3) := by decide +kernel
theorem dX2_one_16 : decode cX2_one 16 = .ok (.iconst 1, 1) := by decide +kernel
theorem dX2_one_17 : decode cX2_one 17 = .ok (.goto 4, 3) := by decide +kernel
theorem dX2_one_20 : decode cX2_one 20 = .ok (.iconst 0, 1) := by decide +kernel
theorem dX2_one_21 : decode cX2_one 21 = .ok (.istore 5, 2) := by decide +kernel
theorem dX2_one_23 : decode cX2_one 23 = .ok (.iload 5, 2) := by decide +kernel
end
section
theorem dX2_one_25 : decode cX2_one 25 = .ok (.ifCond .eq 7, 3) := by decide +kernel
theorem dX2_one_28 : decode cX2_one 28 = .ok (.iconst 1, 1) := by decide +kernel
theorem dX2_one_29 : decode cX2_one 29 = .ok (.goto 4, 3) := by decide +kernel
theorem dX2_one_32 : decode cX2_one 32 = .ok (.iconst 0, 1) := by decide +kernel
theorem dX2_one_33 : decode cX2_one 33 = .ok (.istore 6, 2) := by decide +kernel
theorem dX2_one_35 : decode cX2_one 35 = .ok (.iload_n 1, 1) := by decide +kernel
theorem dX2_one_36 : decode cX2_one 36 = .ok (.ifCond .ne 7, 3) := by decide +kernel
theorem dX2_one_39 : decode cX2_one 39 = .ok (.iconst 0, 1) := by decide +kernel
theorem dX2_one_40 : decode cX2_one 40 = .ok (.goto 72, 3) := by decide +kernel
theorem dX2_one_43 : decode cX2_one 43 = .ok (.iload_n 1, 1) := by decide +kernel
theorem dX2_one_44 : decode cX2_one 44 = .ok (.iconst 1, 1) := by decide +kernel
theorem dX2_one_45 : decode cX2_one 45 = .ok (.if_icmp .ne 9, 3) := by decide +kernel
theorem dX2_one_48 : decode cX2_one 48 = .ok (.iload_n 2, 1) := by decide +kernel
theorem dX2_one_49 : decode cX2_one 49 = .ok (.iconst (-1), 1) := by decide +kernel
theorem dX2_one_50 : decode cX2_one 50 = .ok (.ixor, 1) := by decide +kernel
theorem dX2_one_51 : decode cX2_one 51 = .ok (.goto 61, 3) := by decide +kernel
theorem dX2_one_54 : decode cX2_one 54 = .ok (.iload_n 1, 1) := by decide +kernel
theorem dX2_one_55 : decode cX2_one 55 = .ok (.iconst 2, 1) := by decide +kernel
theorem dX2_one_56 : decode cX2_one 56 = .ok (.if_icmp .ne 9, 3) := by decide +kernel
theorem dX2_one_59 : decode cX2_one 59 = .ok (.iload_n 2, 1) := by decide +kernel
theorem dX2_one_60 : decode cX2_one 60 = .ok (.iconst 1, 1) := by decide +kernel
theorem dX2_one_61 : decode cX2_one 61 = .ok (.iadd, 1) := by decide +kernel
theorem dX2_one_62 : decode cX2_one 62 = .ok (.goto 50, 3) := by decide +kernel
theorem dX2_one_65 : decode cX2_one 65 = .ok (.iload_n 1, 1) := by decide +kernel
theorem dX2_one_66 : decode cX2_one 66 = .ok (.iconst 3, 1) := by decide +kernel
theorem dX2_one_67 : decode cX2_one 67 = .ok (.if_icmp .ne 9, 3) := by decide +kernel
theorem dX2_one_70 : decode cX2_one 70 = .ok (.iload_n 2, 1) := by decide +kernel
theorem dX2_one_71 : decode cX2_one 71 = .ok (.iconst 1, 1) := by decide +kernel
theorem dX2_one_72 : decode cX2_one 72 = .ok (.isub, 1) := by decide +kernel
theorem dX2_one_73 : decode cX2_one 73 = .ok (.goto 39, 3) := by decide +kernel
theorem dX2_one_76 : decode cX2_one 76 = .ok (.iload_n 1, 1) := by decide +kernel
theorem dX2_one_77 : decode cX2_one 77 = .ok (.iconst 4, 1) := by decide +kernel
theorem dX2_one_78 : decode cX2_one 78 = .ok (.if_icmp .ne 8, 3) := by decide +kernel
theorem dX2_one_81 : decode cX2_one 81 = .ok (.iload_n 2, 1) := by decide +kernel
theorem dX2_one_82 : decode cX2_one 82 = .ok (.ineg, 1) := by decide +kernel
theorem dX2_one_83 : decode cX2_one 83 = .ok (.goto 29, 3) := by decide +kernel
theorem dX2_one_86 : decode cX2_one 86 = .ok (.iload_n 1, 1) := by decide +kernel
theorem dX2_one_87 : decode cX2_one 87 = .ok (.iconst 5, 1) := by decide +kernel
theorem dX2_one_88 : decode cX2_one 88 = .ok (.if_icmp .ne 10, 3) := by decide +kernel
theorem dX2_one_91 : decode cX2_one 91 = .ok (.iload_n 2, 1) := by decide +kernel
theorem dX2_one_92 : decode cX2_one 92 = .ok (.iload 6, 2) := by decide +kernel
theorem dX2_one_94 : decode cX2_one 94 = .ok (.iadd, 1) := by decide +kernel
theorem dX2_one_95 : decode cX2_one 95 = .ok (.goto 17, 3) := by decide +kernel
theorem dX2_one_98 : decode cX2_one 98 = .ok (.iload_n 1, 1) := by decide +kernel
theorem dX2_one_99 : decode cX2_one 99 = .ok (.bipush 6, 2) := by decide +kernel
theorem dX2_one_101 : decode cX2_one 101 = .ok (.if_icmp .ne 10, 3) := by decide +kernel
theorem dX2_one_104 : decode cX2_one 104 = .ok (.iload_n 2, 1) := by decide +kernel
theorem dX2_one_105 : decode cX2_one 105 = .ok (.iload 6, 2) := by decide +kernel
theorem dX2_one_107 : decode cX2_one 107 = .ok (.isub, 1) := by decide +kernel
theorem dX2_one_108 : decode cX2_one 108 = .ok (.goto 4, 3) := by decide +kernel
theorem dX2_one_111 : decode cX2_one 111 = .ok (.iload_n 2, 1) := by decide +kernel
theorem dX2_one_112 : decode cX2_one 112 = .ok (.istore 7, 2) := by decide +kernel
theorem dX2_one_114 : decode cX2_one 114 = .ok (.iload 7, 2) := by decide +kernel
theorem dX2_one_116 : decode cX2_one 116 = .ok (.iload 4, 2) := by decide +kernel
theorem dX2_one_118 : decode cX2_one 118 = .ok (.iand, 1) := by decide +kernel
theorem dX2_one_119 : decode cX2_one 119 = .ok (.istore 7, 2) := by decide +kernel
theorem dX2_one_121 : decode cX2_one 121 = .ok (.iload_n 1, 1) := by decide +kernel
theorem dX2_one_122 : decode cX2_one 122 = .ok (.iconst 2, 1) := by decide +kernel
theorem dX2_one_123 : decode cX2_one 123 = .ok (.if_icmp .eq 8, 3) := by decide +kernel
theorem dX2_one_126 : decode cX2_one 126 = .ok (.iload_n 1, 1) := by decide +kernel
theorem dX2_one_127 : decode cX2_one 127 = .ok (.iconst 4, 1) := by decide +kernel
theorem dX2_one_128 : decode cX2_one 128 = .ok (.if_icmp .ne 17, 3) := by decide +kernel
theorem dX2_one_131 : decode cX2_one 131 = .ok (.iload 7, 2) := by decide +kernel
theorem dX2_one_133 : decode cX2_one 133 = .ok (.iload_n 3, 1) := by decide +kernel
theorem dX2_one_134 : decode cX2_one 134 = .ok (.if_icmp .ne 7, 3) := by decide +kernel
theorem dX2_one_137 : decode cX2_one 137 = .ok (.iconst 1, 1) := by decide +kernel
theorem dX2_one_138 : decode cX2_one 138 = .ok (.goto 70, 3) := by decide +kernel
theorem dX2_one_141 : decode cX2_one 141 = .ok (.iconst 0, 1) := by decide +kernel
theorem dX2_one_142 : decode cX2_one 142 = .ok (.goto 66, 3) := by decide +kernel
theorem dX2_one_145 : decode cX2_one 145 = .ok (.iload_n 1, 1) := by decide +kernel
theorem dX2_one_146 : decode cX2_one 146 = .ok (.iconst 3, 1) := by decide +kernel
theorem dX2_one_147 : decode cX2_one 147 = .ok (.if_icmp .ne 16, 3) := by decide +kernel
theorem dX2_one_150 : decode cX2_one 150 = .ok (.iload_n 2, 1) := by decide +kernel
theorem dX2_one_151 : decode cX2_one 151 = .ok (.iload_n 3, 1) := by decide +kernel
theorem dX2_one_152 : decode cX2_one 152 = .ok (.if_icmp .ne 7, 3) := by decide +kernel
theorem dX2_one_155 : decode cX2_one 155 = .ok (.iconst 1, 1) := by decide +kernel
theorem dX2_one_156 : decode cX2_one 156 = .ok (.goto 52, 3) := by decide +kernel
theorem dX2_one_159 : decode cX2_one 159 = .ok (.iconst 0, 1) := by decide +kernel
theorem dX2_one_160 : decode cX2_one 160 = .ok (.goto 48, 3) := by decide +kernel
theorem dX2_one_163 : decode cX2_one 163 = .ok (.iload_n 1, 1) := by decide +kernel
theorem dX2_one_164 : decode cX2_one 164 = .ok (.iconst 5, 1) := by decide +kernel
theorem dX2_one_165 : decode cX2_one 165 = .ok (.if_icmp .ne 22, 3) := by decide +kernel
theorem dX2_one_168 : decode cX2_one 168 = .ok (.iload 5, 2) := by decide +kernel
theorem dX2_one_170 : decode cX2_one 170 = .ok (.ifCond .eq 13, 3) := by decide +kernel
theorem dX2_one_173 : decode cX2_one 173 = .ok (.iload 7, 2) := by decide +kernel
theorem dX2_one_175 : decode cX2_one 175 = .ok (.iload_n 3, 1) := by decide +kernel
theorem dX2_one_176 : decode cX2_one 176 = .ok (.if_icmp .ne 7, 3) := by decide +kernel
theorem dX2_one_179 : decode cX2_one 179 = .ok (.iconst 1, 1) := by decide +kernel
theorem dX2_one_180 : decode cX2_one 180 = .ok (.goto 28, 3) := by decide +kernel
theorem dX2_one_183 : decode cX2_one 183 = .ok (.iconst 0, 1) := by decide +kernel
theorem dX2_one_184 : decode cX2_one 184 = .ok (.goto 24, 3) := by decide +kernel
theorem dX2_one_187 : decode cX2_one 187 = .ok (.iload_n 1, 1) := by decide +kernel
theorem dX2_one_188 : decode cX2_one 188 = .ok (.bipush 6, 2) := by decide +kernel
theorem dX2_one_190 : decode cX2_one 190 = .ok (.if_icmp .ne 17, 3) := by decide +kernel
theorem dX2_one_193 : decode cX2_one 193 = .ok (.iload 5, 2) := by decide +kernel
theorem dX2_one_195 : decode cX2_one 195 = .ok (.ifCond .eq 12, 3) := by decide +kernel
theorem dX2_one_198 : decode cX2_one 198 = .ok (.iload_n 2, 1) := by decide +kernel
theorem dX2_one_199 : decode cX2_one 199 = .ok (.iload_n 3, 1) := by decide +kernel
theorem dX2_one_200 : decode cX2_one 200 = .ok (.if_icmp .ne 7, 3) := by decide +kernel
theorem dX2_one_203 : decode cX2_one 203 = .ok (.iconst 1, 1) := by decide +kernel
theorem dX2_one_204 : decode cX2_one 204 = .ok (.goto 4, 3) := by decide +kernel
theorem dX2_one_207 : decode cX2_one 207 = .ok (.iconst 0, 1) := by decide +kernel
theorem dX2_one_208 : decode cX2_one 208 = .ok (.istore 8, 2) := by decide +kernel
theorem dX2_one_210 : decode cX2_one 210 = .ok (.iload_n 1, 1) := by decide +kernel
theorem dX2_one_211 : decode cX2_one 211 = .ok (.iconst 1, 1) := by decide +kernel
theorem dX2_one_212 : decode cX2_one 212 = .ok (.if_icmp .eq 58, 3) := by decide +kernel
theorem dX2_one_215 : decode cX2_one 215 = .ok (.iload_n 1, 1) := by decide +kernel
theorem dX2_one_216 : decode cX2_one 216 = .ok (.iconst 2, 1) := by decide +kernel
theorem dX2_one_217 : decode cX2_one 217 = .ok (.if_icmp .eq 8, 3) := by decide +kernel
theorem dX2_one_220 : decode cX2_one 220 = .ok (.iload_n 1, 1) := by decide +kernel
theorem dX2_one_221 : decode cX2_one 221 = .ok (.iconst 3, 1) := by decide +kernel
theorem dX2_one_222 : decode cX2_one 222 = .ok (.if_icmp .ne 8, 3) := by decide +kernel
theorem dX2_one_225 : decode cX2_one 225 = .ok (.iload 5, 2) := by decide +kernel
theorem dX2_one_227 : decode cX2_one 227 = .ok (.ifCond .ne 43, 3) := by decide +kernel
theorem dX2_one_230 : decode cX2_one 230 = .ok (.iload_n 1, 1) := by decide +kernel
theorem dX2_one_231 : decode cX2_one 231 = .ok (.iconst 4, 1) := by decide +kernel
theorem dX2_one_232 : decode cX2_one 232 = .ok (.if_icmp .ne 8, 3) := by decide +kernel
theorem dX2_one_235 : decode cX2_one 235 = .ok (.iload 7, 2) := by decide +kernel
theorem dX2_one_237 : decode cX2_one 237 = .ok (.ifCond .ne 33, 3) := by decide +kernel
theorem dX2_one_240 : decode cX2_one 240 = .ok (.iload_n 1, 1) := by decide +kernel
theorem dX2_one_241 : decode cX2_one 241 = .ok (.iconst 5, 1) := by decide +kernel
theorem dX2_one_242 : decode cX2_one 242 = .ok (.if_icmp .ne 13, 3) := by decide +kernel
theorem dX2_one_245 : decode cX2_one 245 = .ok (.iload 5, 2) := by decide +kernel
theorem dX2_one_247 : decode cX2_one 247 = .ok (.ifCond .eq 8, 3) := by decide +kernel
theorem dX2_one_250 : decode cX2_one 250 = .ok (.iload 7, 2) := by decide +kernel
theorem dX2_one_252 : decode cX2_one 252 = .ok (.ifCond .eq 18, 3) := by decide +kernel
theorem dX2_one_255 : decode cX2_one 255 = .ok (.iload_n 1, 1) := by decide +kernel
theorem dX2_one_256 : decode cX2_one 256 = .ok (.bipush 6, 2) := by decide +kernel
theorem dX2_one_258 : decode cX2_one 258 = .ok (.if_icmp .ne 16, 3) := by decide +kernel
theorem dX2_one_261 : decode cX2_one 261 = .ok (.iload 5, 2) := by decide +kernel
theorem dX2_one_263 : decode cX2_one 263 = .ok (.ifCond .eq 11, 3) := by decide +kernel
theorem dX2_one_266 : decode cX2_one 266 = .ok (.iload_n 2, 1) := by decide +kernel
theorem dX2_one_267 : decode cX2_one 267 = .ok (.ifCond .ne 7, 3) := by decide +kernel
theorem dX2_one_270 : decode cX2_one 270 = .ok (.iconst 1, 1) := by decide +kernel
theorem dX2_one_271 : decode cX2_one 271 = .ok (.goto 4, 3) := by decide +kernel
theorem dX2_one_274 : decode cX2_one 274 = .ok (.iconst 0, 1) := by decide +kernel
theorem dX2_one_275 : decode cX2_one 275 = .ok (.istore 9, 2) := by decide +kernel
theorem dX2_one_277 : decode cX2_one 277 = .ok (.aload_n 0, 1) := by decide +kernel
theorem dX2_one_278 : decode cX2_one 278 = .ok (.iload 7, 2) := by decide +kernel
theorem dX2_one_280 : decode cX2_one 280 = .ok (.iload_n 3, 1) := by decide +kernel
theorem dX2_one_281 : decode cX2_one 281 = .ok (.iload 8, 2) := by decide +kernel
theorem dX2_one_283 : decode cX2_one 283 = .ok (.iload 9, 2) := by decide +kernel
theorem dX2_one_285 : decode cX2_one 285 = .ok (.invokevirtual 50, 3) := by decide +kernel
theorem dX2_one_288 : decode cX2_one 288 = .ok (.iload 7, 2) := by decide +kernel
theorem dX2_one_290 : decode cX2_one 290 = .ok (.ireturn, 1) := by decide +kernel
theorem dX2_moved_0 : decode cX2_moved 0 = .ok (.aload_n 0, 1) := by decide +kernel
theorem dX2_moved_1 : decode cX2_moved 1 = .ok (.getfield 17, 3) := by decide +kernel
theorem dX2_moved_4 : decode cX2_moved 4 = .ok (.iconst 1, 1) := by decide +kernel
theorem dX2_moved_5 : decode cX2_moved 5 = .ok (.iand, 1) := by decide +kernel
theorem dX2_moved_6 : decode cX2_moved 6 = .ok (.ifCond .eq 7, 3) := by decide +kernel
theorem dX2_moved_9 : decode cX2_moved 9 = .ok (.iconst 1, 1) := by decide +kernel
theorem dX2_moved_10 : decode cX2_moved 10 = .ok (.goto 4, 3) := by decide +kernel
theorem dX2_moved_13 : decode cX2_moved 13 = .ok (.iconst 0, 1) := by decide +kernel
theorem dX2_moved_14 : decode cX2_moved 14 = .ok (.istore 4, 2) := by decide +kernel
theorem dX2_moved_16 : decode cX2_moved 16 = .ok (.iload_n 1, 1) := by decide +kernel
theorem dX2_moved_17 : decode cX2_moved 17 = .ok (.iconst 2, 1) := by decide +kernel
theorem dX2_moved_18 : decode cX2_moved 18 = .ok (.irem, 1) := by decide +kernel
theorem dX2_moved_19 : decode cX2_moved 19 = .ok (.ifCond .ne 7, 3) := by decide +kernel
theorem dX2_moved_22 : decode cX2_moved 22 = .ok (.iconst 1, 1) := by decide +kernel
theorem dX2_moved_23 : decode cX2_moved 23 = .ok (.goto 4, 3) := by decide +kernel
theorem dX2_moved_26 : decode cX2_moved 26 = .ok (.iconst 0, 1) := by decide +kernel
theorem dX2_moved_27 : decode cX2_moved 27 = .ok (.istore 5, 2) := by decide +kernel
theorem dX2_moved_29 : decode cX2_moved 29 = .ok (.iload 5, 2) := by decide +kernel
theorem dX2_moved_31 : decode cX2_moved 31 = .ok (.ifCond .eq 9, 3) := by decide +kernel
theorem dX2_moved_34 : decode cX2_moved 34 = .ok (.iload_n 2, 1) := by decide +kernel
theorem dX2_moved_35 : decode cX2_moved 35 = .ok (.iconst 1, 1) := by decide +kernel
theorem dX2_moved_36 : decode cX2_moved 36 = .ok (.ishr, 1) := by decide +kernel
theorem dX2_moved_37 : decode cX2_moved 37 = .ok (.goto 12, 3) := by decide +kernel
theorem dX2_moved_40 : decode cX2_moved 40 = .ok (.iload_n 2, 1) := by decide +kernel
theorem dX2_moved_41 : decode cX2_moved 41 = .ok (.iconst 1, 1) := by decide +kernel
theorem dX2_moved_42 : decode cX2_moved 42 = .ok (.ishl, 1) := by decide +kernel
theorem dX2_moved_43 : decode cX2_moved 43 = .ok (.iconst 2, 1) := by decide +kernel
theorem dX2_moved_44 : decode cX2_moved 44 = .ok (.iload_n 3, 1) := by decide +kernel
theorem dX2_moved_45 : decode cX2_moved 45 = .ok (.imul, 1) := by decide +kernel
theorem dX2_moved_46 : decode cX2_moved 46 = .ok (.iconst 1, 1) := by decide +kernel
theorem dX2_moved_47 : decode cX2_moved 47 = .ok (.isub, 1) := by decide +kernel
theorem dX2_moved_48 : decode cX2_moved 48 = .ok (.iand, 1) := by decide +kernel
theorem dX2_moved_49 : decode cX2_moved 49 = .ok (.istore 6, 2) := by decide +kernel
theorem dX2_moved_51 : decode cX2_moved 51 = .ok (.iload_n 1, 1) := by decide +kernel
theorem dX2_moved_52 : decode cX2_moved 52 = .ok (.ifCond .ne 8, 3) := by decide +kernel
theorem dX2_moved_55 : decode cX2_moved 55 = .ok (.iload 4, 2) := by decide +kernel
theorem dX2_moved_57 : decode cX2_moved 57 = .ok (.ifCond .ne 14, 3) := by decide +kernel
theorem dX2_moved_60 : decode cX2_moved 60 = .ok (.iload_n 1, 1) := by decide +kernel
theorem dX2_moved_61 : decode cX2_moved 61 = .ok (.iconst 2, 1) := by decide +kernel
theorem dX2_moved_62 : decode cX2_moved 62 = .ok (.if_icmp .ne 15, 3) := by decide +kernel
theorem dX2_moved_65 : decode cX2_moved 65 = .ok (.iload_n 2, 1) := by decide +kernel
theorem dX2_moved_66 : decode cX2_moved 66 = .ok (.iload_n 3, 1) := by decide +kernel
theorem dX2_moved_67 : decode cX2_moved 67 = .ok (.iand, 1) := by decide +kernel
theorem dX2_moved_68 : decode cX2_moved 68 = .ok (.ifCond .eq 9, 3) := by decide +kernel
theorem dX2_moved_71 : decode cX2_moved 71 = .ok (.iload 6, 2) := by decide +kernel
theorem dX2_moved_73 : decode cX2_moved 73 = .ok (.iload_n 3, 1) := by decide +kernel
theorem dX2_moved_74 : decode cX2_moved 74 = .ok (.ior, 1) := by decide +kernel
theorem dX2_moved_75 : decode cX2_moved 75 = .ok (.istore 6, 2) := by decide +kernel
theorem dX2_moved_77 : decode cX2_moved 77 = .ok (.iload_n 1, 1) := by decide +kernel
theorem dX2_moved_78 : decode cX2_moved 78 = .ok (.iconst 1, 1) := by decide +kernel
theorem dX2_moved_79 : decode cX2_moved 79 = .ok (.if_icmp .ne 14, 3) := by decide +kernel
theorem dX2_moved_82 : decode cX2_moved 82 = .ok (.iload 4, 2) := by decide +kernel
theorem dX2_moved_84 : decode cX2_moved 84 = .ok (.ifCond .eq 9, 3) := by decide +kernel
theorem dX2_moved_87 : decode cX2_moved 87 = .ok (.iload 6, 2) := by decide +kernel
theorem dX2_moved_89 : decode cX2_moved 89 = .ok (.iconst 1, 1) := by decide +kernel
theorem dX2_moved_90 : decode cX2_moved 90 = .ok (.ior, 1) := by decide +kernel
theorem dX2_moved_91 : decode cX2_moved 91 = .ok (.istore 6, 2) := by decide +kernel
theorem dX2_moved_93 : decode cX2_moved 93 = .ok (.iload_n 2, 1) := by decide +kernel
theorem dX2_moved_94 : decode cX2_moved 94 = .ok (.iload 5, 2) := by decide +kernel
theorem dX2_moved_96 : decode cX2_moved 96 = .ok (.ifCond .eq 7, 3) := by decide +kernel
theorem dX2_moved_99 : decode cX2_moved 99 = .ok (.iconst 1, 1) := by decide +kernel
theorem dX2_moved_100 : decode cX2_moved 100 = .ok (.goto 4, 3) := by decide +kernel
theorem dX2_moved_103 : decode cX2_moved 103 = .ok (.iload_n 3, 1) := by decide +kernel
theorem dX2_moved_104 : decode cX2_moved 104 = .ok (.iand, 1) := by decide +kernel
theorem dX2_moved_105 : decode cX2_moved 105 = .ok (.ifCond .eq 7, 3) := by decide +kernel
theorem dX2_moved_108 : decode cX2_moved 108 = .ok (.iconst 1, 1) := by decide +kernel
theorem dX2_moved_109 : decode cX2_moved 109 = .ok (.goto 4, 3) := by decide +kernel
theorem dX2_moved_112 : decode cX2_moved 112 = .ok (.iconst 0, 1) := by decide +kernel
theorem dX2_moved_113 : decode cX2_moved 113 = .ok (.istore 7, 2) := by decide +kernel
theorem dX2_moved_115 : decode cX2_moved 115 = .ok (.aload_n 0, 1) := by decide +kernel
theorem dX2_moved_116 : decode cX2_moved 116 = .ok (.iload 6, 2) := by decide +kernel
theorem dX2_moved_118 : decode cX2_moved 118 = .ok (.iload_n 3, 1) := by decide +kernel
theorem dX2_moved_119 : decode cX2_moved 119 = .ok (.iload 6, 2) := by decide +kernel
theorem dX2_moved_121 : decode cX2_moved 121 = .ok (.iload_n 3, 1) := by decide +kernel
theorem dX2_moved_122 : decode cX2_moved 122 = .ok (.iand, 1) := by decide +kernel
theorem dX2_moved_123 : decode cX2_moved 123 = .ok (.ifCond .eq 7, 3) := by decide +kernel
theorem dX2_moved_126 : decode cX2_moved 126 = .ok (.iconst 1, 1) := by decide +kernel
theorem dX2_moved_127 : decode cX2_moved 127 = .ok (.goto 4, 3) := by decide +kernel
theorem dX2_moved_130 : decode cX2_moved 130 = .ok (.iconst 0, 1) := by decide +kernel
theorem dX2_moved_131 : decode cX2_moved 131 = .ok (.iload 7, 2) := by decide +kernel
theorem dX2_moved_133 : decode cX2_moved 133 = .ok (.if_icmp .eq 7, 3) := by decide +kernel
theorem dX2_moved_136 : decode cX2_moved 136 = .ok (.iconst 1, 1) := by decide +kernel
theorem dX2_moved_137 : decode cX2_moved 137 = .ok (.goto 4, 3) := by decide +kernel
theorem dX2_moved_140 : decode cX2_moved 140 = .ok (.iconst 0, 1) := by decide +kernel
theorem dX2_moved_141 : decode cX2_moved 141 = .ok (.iload 7, 2) := by decide +kernel
theorem dX2_moved_143 : decode cX2_moved 143 = .ok (.invokevirtual 50, 3) := by decide +kernel
theorem dX2_moved_146 : decode cX2_moved 146 = .ok (.iload 6, 2) := by decide +kernel
theorem dX2_moved_148 : decode cX2_moved 148 = .ok (.ireturn, 1) := by decide +kernel
theorem dX2_put_0 : decode cX2_put 0 = .ok (.aload_n 0, 1) := by decide +kernel
theorem dX2_put_1 : decode cX2_put 1 = .ok (.dup, 1) := by decide +kernel
theorem dX2_put_2 : decode cX2_put 2 = .ok (.getfield 39, 3) := by decide +kernel
theorem dX2_put_5 : decode cX2_put 5 = .ok (.iconst 1, 1) := by decide +kernel
theorem dX2_put_6 : decode cX2_put 6 = .ok (.iadd, 1) := by decide +kernel
theorem dX2_put_7 : decode cX2_put 7 = .ok (.putfield 39, 3) := by decide +kernel
theorem dX2_put_10 : decode cX2_put 10 = .ok (.aload_n 0, 1) := by decide +kernel
theorem dX2_put_11 : decode cX2_put 11 = .ok (.getfield 36, 3) := by decide +kernel
theorem dX2_put_14 : decode cX2_put 14 = .ok (.ifCond .ge 62, 3) := by decide +kernel
theorem dX2_put_17 : decode cX2_put 17 = .ok (.iconst (-1), 1) := by decide +kernel
theorem dX2_put_18 : decode cX2_put 18 = .ok (.aload_n 0, 1) := by decide +kernel
theorem dX2_put_19 : decode cX2_put 19 = .ok (.getfield 36, 3) := by decide +kernel
theorem dX2_put_22 : decode cX2_put 22 = .ok (.isub, 1) := by decide +kernel
theorem dX2_put_23 : decode cX2_put 23 = .ok (.istore 4, 2) := by decide +kernel
theorem dX2_put_25 : decode cX2_put 25 = .ok (.aload_n 0, 1) := by decide +kernel
theorem dX2_put_26 : decode cX2_put 26 = .ok (.getfield 13, 3) := by decide +kernel
theorem dX2_put_29 : decode cX2_put 29 = .ok (.iload 4, 2) := by decide +kernel
theorem dX2_put_31 : decode cX2_put 31 = .ok (.iload_n 2, 1) := by decide +kernel
theorem dX2_put_32 : decode cX2_put 32 = .ok (.ifCond .ne 7, 3) := by decide +kernel
theorem dX2_put_35 : decode cX2_put 35 = .ok (.iload_n 1, 1) := by decide +kernel
theorem dX2_put_36 : decode cX2_put 36 = .ok (.goto 36, 3) := by decide +kernel
theorem dX2_put_39 : decode cX2_put 39 = .ok (.iload_n 3, 1) := by decide +kernel
theorem dX2_put_40 : decode cX2_put 40 = .ok (.ifCond .eq 20, 3) := by decide +kernel
theorem dX2_put_43 : decode cX2_put 43 = .ok (.iload_n 1, 1) := by decide +kernel
theorem dX2_put_44 : decode cX2_put 44 = .ok (.bipush 127, 2) := by decide +kernel
theorem dX2_put_46 : decode cX2_put 46 = .ok (.if_icmp .le 10, 3) := by decide +kernel
theorem dX2_put_49 : decode cX2_put 49 = .ok (.iload_n 1, 1) := by decide +kernel
theorem dX2_put_50 : decode cX2_put 50 = .ok (.ldc 49, 2) := by decide +kernel
theorem dX2_put_52 : decode cX2_put 52 = .ok (.ior, 1) := by decide +kernel
theorem dX2_put_53 : decode cX2_put 53 = .ok (.goto 19, 3) := by decide +kernel
theorem dX2_put_56 : decode cX2_put 56 = .ok (.iload_n 1, 1) := by decide +kernel
theorem dX2_put_57 : decode cX2_put 57 = .ok (.goto 15, 3) := by decide +kernel
theorem dX2_put_60 : decode cX2_put 60 = .ok (.aload_n 0, 1) := by decide +kernel
theorem dX2_put_61 : decode cX2_put 61 = .ok (.getfield 13, 3) := by decide +kernel
theorem dX2_put_64 : decode cX2_put 64 = .ok (.iload 4, 2) := by decide +kernel
theorem dX2_put_66 : decode cX2_put 66 = .ok (.iaload, 1) := by decide +kernel
theorem dX2_put_67 : decode cX2_put 67 = .ok (.ldc 49, 2) := by decide +kernel
theorem dX2_put_69 : decode cX2_put 69 = .ok (.iand, 1) := by decide +kernel
theorem dX2_put_70 : decode cX2_put 70 = .ok (.iload_n 1, 1) := by decide +kernel
theorem dX2_put_71 : decode cX2_put 71 = .ok (.ior, 1) := by decide +kernel
theorem dX2_put_72 : decode cX2_put 72 = .ok (.iastore, 1) := by decide +kernel
theorem dX2_put_73 : decode cX2_put 73 = .ok (.goto 69, 3) := by decide +kernel
theorem dX2_put_76 : decode cX2_put 76 = .ok (.iload_n 2, 1) := by decide +kernel
theorem dX2_put_77 : decode cX2_put 77 = .ok (.ifCond .eq 53, 3) := by decide +kernel
theorem dX2_put_80 : decode cX2_put 80 = .ok (.bipush 8, 2) := by decide +kernel
theorem dX2_put_82 : decode cX2_put 82 = .ok (.aload_n 0, 1) := by decide +kernel
theorem dX2_put_83 : decode cX2_put 83 = .ok (.getfield 36, 3) := by decide +kernel
theorem dX2_put_86 : decode cX2_put 86 = .ok (.iconst 2, 1) := by decide +kernel
theorem dX2_put_87 : decode cX2_put 87 = .ok (.irem, 1) := by decide +kernel
theorem dX2_put_88 : decode cX2_put 88 = .ok (.imul, 1) := by decide +kernel
theorem dX2_put_89 : decode cX2_put 89 = .ok (.istore 4, 2) := by decide +kernel
theorem dX2_put_91 : decode cX2_put 91 = .ok (.aload_n 0, 1) := by decide +kernel
theorem dX2_put_92 : decode cX2_put 92 = .ok (.getfield 7, 3) := by decide +kernel
theorem dX2_put_95 : decode cX2_put 95 = .ok (.aload_n 0, 1) := by decide +kernel
theorem dX2_put_96 : decode cX2_put 96 = .ok (.getfield 36, 3) := by decide +kernel
theorem dX2_put_99 : decode cX2_put 99 = .ok (.iconst 2, 1) := by decide +kernel
theorem dX2_put_100 : decode cX2_put 100 = .ok (.idiv, 1) := by decide +kernel
theorem dX2_put_101 : decode cX2_put 101 = .ok (.aload_n 0, 1) := by decide +kernel
theorem dX2_put_102 : decode cX2_put 102 = .ok (.getfield 7, 3) := by decide +kernel
theorem dX2_put_105 : decode cX2_put 105 = .ok (.aload_n 0, 1) := by decide +kernel
theorem dX2_put_106 : decode cX2_put 106 = .ok (.getfield 36, 3) := by decide +kernel
theorem dX2_put_109 : decode cX2_put 109 = .ok (.iconst 2, 1) := by decide +kernel
theorem dX2_put_110 : decode cX2_put 110 = .ok (.idiv, 1) := by decide +kernel
theorem dX2_put_111 : decode cX2_put 111 = .ok (.iaload, 1) := by decide +kernel
theorem dX2_put_112 : decode cX2_put 112 = .ok (.sipush 255, 3) := by decide +kernel
theorem dX2_put_115 : decode cX2_put 115 = .ok (.iload 4, 2) := by decide +kernel
theorem dX2_put_117 : decode cX2_put 117 = .ok (.ishl, 1) := by decide +kernel
theorem dX2_put_118 : decode cX2_put 118 = .ok (.iconst (-1), 1) := by decide +kernel
theorem dX2_put_119 : decode cX2_put 119 = .ok (.ixor, 1) := by decide +kernel
theorem dX2_put_120 : decode cX2_put 120 = .ok (.iand, 1) := by decide +kernel
theorem dX2_put_121 : decode cX2_put 121 = .ok (.iload_n 1, 1) := by decide +kernel
theorem dX2_put_122 : decode cX2_put 122 = .ok (.iload 4, 2) := by decide +kernel
theorem dX2_put_124 : decode cX2_put 124 = .ok (.ishl, 1) := by decide +kernel
theorem dX2_put_125 : decode cX2_put 125 = .ok (.ior, 1) := by decide +kernel
theorem dX2_put_126 : decode cX2_put 126 = .ok (.iastore, 1) := by decide +kernel
theorem dX2_put_127 : decode cX2_put 127 = .ok (.goto 15, 3) := by decide +kernel
theorem dX2_put_130 : decode cX2_put 130 = .ok (.aload_n 0, 1) := by decide +kernel
theorem dX2_put_131 : decode cX2_put 131 = .ok (.getfield 7, 3) := by decide +kernel
theorem dX2_put_134 : decode cX2_put 134 = .ok (.aload_n 0, 1) := by decide +kernel
theorem dX2_put_135 : decode cX2_put 135 = .ok (.getfield 36, 3) := by decide +kernel
theorem dX2_put_138 : decode cX2_put 138 = .ok (.iconst 2, 1) := by decide +kernel
theorem dX2_put_139 : decode cX2_put 139 = .ok (.idiv, 1) := by decide +kernel
theorem dX2_put_140 : decode cX2_put 140 = .ok (.iload_n 1, 1) := by decide +kernel
theorem dX2_put_141 : decode cX2_put 141 = .ok (.iastore, 1) := by decide +kernel
theorem dX2_put_142 : decode cX2_put 142 = .ok (.return_, 1) := by decide +kernel
theorem dX2_jump_0 : decode cX2_jump 0 = .ok (.iload_n 1, 1) := by decide +kernel
theorem dX2_jump_1 : decode cX2_jump 1 = .ok (.iconst 3, 1) := by decide +kernel
theorem dX2_jump_2 : decode cX2_jump 2 = .ok (.ishr, 1) := by decide +kernel
theorem dX2_jump_3 : decode cX2_jump 3 = .ok (.bipush 7, 2) := by decide +kernel
theorem dX2_jump_5 : decode cX2_jump 5 = .ok (.iand, 1) := by decide +kernel
theorem dX2_jump_6 : decode cX2_jump 6 = .ok (.ifCond .ne 9, 3) := by decide +kernel
theorem dX2_jump_9 : decode cX2_jump 9 = .ok (.aload_n 0, 1) := by decide +kernel
theorem dX2_jump_10 : decode cX2_jump 10 = .ok (.iconst 2, 1) := by decide +kernel
theorem dX2_jump_11 : decode cX2_jump 11 = .ok (.putfield 25, 3) := by decide +kernel
theorem dX2_jump_14 : decode cX2_jump 14 = .ok (.return_, 1) := by decide +kernel
theorem dX2_jump_15 : decode cX2_jump 15 = .ok (.aload_n 0, 1) := by decide +kernel
theorem dX2_jump_16 : decode cX2_jump 16 = .ok (.iload_n 1, 1) := by decide +kernel
theorem dX2_jump_17 : decode cX2_jump 17 = .ok (.bipush 63, 2) := by decide +kernel
theorem dX2_jump_19 : decode cX2_jump 19 = .ok (.iand, 1) := by decide +kernel
theorem dX2_jump_20 : decode cX2_jump 20 = .ok (.iconst 0, 1) := by decide +kernel
theorem dX2_jump_21 : decode cX2_jump 21 = .ok (.invokevirtual 54, 3) := by decide +kernel
theorem dX2_jump_24 : decode cX2_jump 24 = .ok (.aload_n 0, 1) := by decide +kernel
theorem dX2_jump_25 : decode cX2_jump 25 = .ok (.getfield 25, 3) := by decide +kernel
theorem dX2_jump_28 : decode cX2_jump 28 = .ok (.ifCond .le 4, 3) := by decide +kernel
theorem dX2_jump_31 : decode cX2_jump 31 = .ok (.return_, 1) := by decide +kernel
theorem dX2_jump_32 : decode cX2_jump 32 = .ok (.aload_n 0, 1) := by decide +kernel
theorem dX2_jump_33 : decode cX2_jump 33 = .ok (.getfield 36, 3) := by decide +kernel
theorem dX2_jump_36 : decode cX2_jump 36 = .ok (.istore_n 2, 1) := by decide +kernel
theorem dX2_jump_37 : decode cX2_jump 37 = .ok (.iload_n 1, 1) := by decide +kernel
theorem dX2_jump_38 : decode cX2_jump 38 = .ok (.bipush 6, 2) := by decide +kernel
theorem dX2_jump_40 : decode cX2_jump 40 = .ok (.ishr, 1) := by decide +kernel
theorem dX2_jump_41 : decode cX2_jump 41 = .ok (.iconst 1, 1) := by decide +kernel
theorem dX2_jump_42 : decode cX2_jump 42 = .ok (.if_icmp .ne 22, 3) := by decide +kernel
theorem dX2_jump_45 : decode cX2_jump 45 = .ok (.aload_n 0, 1) := by decide +kernel
theorem dX2_jump_46 : decode cX2_jump 46 = .ok (.dup, 1) := by decide +kernel
theorem dX2_jump_47 : decode cX2_jump 47 = .ok (.getfield 39, 3) := by decide +kernel
theorem dX2_jump_50 : decode cX2_jump 50 = .ok (.iconst 1, 1) := by decide +kernel
theorem dX2_jump_51 : decode cX2_jump 51 = .ok (.iadd, 1) := by decide +kernel
theorem dX2_jump_52 : decode cX2_jump 52 = .ok (.putfield 39, 3) := by decide +kernel
theorem dX2_jump_55 : decode cX2_jump 55 = .ok (.aload_n 0, 1) := by decide +kernel
theorem dX2_jump_56 : decode cX2_jump 56 = .ok (.getfield 13, 3) := by decide +kernel
theorem dX2_jump_59 : decode cX2_jump 59 = .ok (.bipush 7, 2) := by decide +kernel
theorem dX2_jump_61 : decode cX2_jump 61 = .ok (.iload_n 2, 1) := by decide +kernel
theorem dX2_jump_62 : decode cX2_jump 62 = .ok (.iastore, 1) := by decide +kernel
theorem dX2_jump_63 : decode cX2_jump 63 = .ok (.return_, 1) := by decide +kernel
theorem dX2_jump_64 : decode cX2_jump 64 = .ok (.iload_n 1, 1) := by decide +kernel
theorem dX2_jump_65 : decode cX2_jump 65 = .ok (.bipush 6, 2) := by decide +kernel
theorem dX2_jump_67 : decode cX2_jump 67 = .ok (.ishr, 1) := by decide +kernel
theorem dX2_jump_68 : decode cX2_jump 68 = .ok (.bipush 7, 2) := by decide +kernel
theorem dX2_jump_70 : decode cX2_jump 70 = .ok (.iand, 1) := by decide +kernel
theorem dX2_jump_71 : decode cX2_jump 71 = .ok (.istore_n 3, 1) := by decide +kernel
theorem dX2_jump_72 : decode cX2_jump 72 = .ok (.aload_n 0, 1) := by decide +kernel
theorem dX2_jump_73 : decode cX2_jump 73 = .ok (.bipush 6, 2) := by decide +kernel
theorem dX2_jump_75 : decode cX2_jump 75 = .ok (.bipush (-2), 2) := by decide +kernel
theorem dX2_jump_77 : decode cX2_jump 77 = .ok (.invokevirtual 28, 3) := by decide +kernel
theorem dX2_jump_80 : decode cX2_jump 80 = .ok (.aload_n 0, 1) := by decide +kernel
theorem dX2_jump_81 : decode cX2_jump 81 = .ok (.aload_n 0, 1) := by decide +kernel
theorem dX2_jump_82 : decode cX2_jump 82 = .ok (.getfield 13, 3) := by decide +kernel
theorem dX2_jump_85 : decode cX2_jump 85 = .ok (.bipush 6, 2) := by decide +kernel
theorem dX2_jump_87 : decode cX2_jump 87 = .ok (.iaload, 1) := by decide +kernel
theorem dX2_jump_88 : decode cX2_jump 88 = .ok (.invokevirtual 32, 3) := by decide +kernel
theorem dX2_jump_91 : decode cX2_jump 91 = .ok (.istore 4, 2) := by decide +kernel
theorem dX2_jump_93 : decode cX2_jump 93 = .ok (.aload_n 0, 1) := by decide +kernel
theorem dX2_jump_94 : decode cX2_jump 94 = .ok (.getfield 25, 3) := by decide +kernel
theorem dX2_jump_97 : decode cX2_jump 97 = .ok (.ifCond .le 4, 3) := by decide +kernel
theorem dX2_jump_100 : decode cX2_jump 100 = .ok (.return_, 1) := by decide +kernel
theorem dX2_jump_101 : decode cX2_jump 101 = .ok (.aload_n 0, 1) := by decide +kernel
theorem dX2_jump_102 : decode cX2_jump 102 = .ok (.getfield 7, 3) := by decide +kernel
theorem dX2_jump_105 : decode cX2_jump 105 = .ok (.aload_n 0, 1) := by decide +kernel
theorem dX2_jump_106 : decode cX2_jump 106 = .ok (.getfield 13, 3) := by decide +kernel
theorem dX2_jump_109 : decode cX2_jump 109 = .ok (.bipush 6, 2) := by decide +kernel
theorem dX2_jump_111 : decode cX2_jump 111 = .ok (.iaload, 1) := by decide +kernel
theorem dX2_jump_112 : decode cX2_jump 112 = .ok (.iconst 2, 1) := by decide +kernel
theorem dX2_jump_113 : decode cX2_jump 113 = .ok (.idiv, 1) := by decide +kernel
theorem dX2_jump_114 : decode cX2_jump 114 = .ok (.aload_n 0, 1) := by decide +kernel
theorem dX2_jump_115 : decode cX2_jump 115 = .ok (.getfield 13, 3) := by decide +kernel
theorem dX2_jump_118 : decode cX2_jump 118 = .ok (.iload_n 3, 1) := by decide +kernel
theorem dX2_jump_119 : decode cX2_jump 119 = .ok (.iaload, 1) := by decide +kernel
theorem dX2_jump_120 : decode cX2_jump 120 = .ok (.iastore, 1) := by decide +kernel
theorem dX2_jump_121 : decode cX2_jump 121 = .ok (.aload_n 0, 1) := by decide +kernel
theorem dX2_jump_122 : decode cX2_jump 122 = .ok (.getfield 13, 3) := by decide +kernel
theorem dX2_jump_125 : decode cX2_jump 125 = .ok (.iload_n 3, 1) := by decide +kernel
theorem dX2_jump_126 : decode cX2_jump 126 = .ok (.aload_n 0, 1) := by decide +kernel
theorem dX2_jump_127 : decode cX2_jump 127 = .ok (.getfield 13, 3) := by decide +kernel
theorem dX2_jump_130 : decode cX2_jump 130 = .ok (.bipush 7, 2) := by decide +kernel
theorem dX2_jump_132 : decode cX2_jump 132 = .ok (.iaload, 1) := by decide +kernel
theorem dX2_jump_133 : decode cX2_jump 133 = .ok (.iastore, 1) := by decide +kernel
theorem dX2_jump_134 : decode cX2_jump 134 = .ok (.aload_n 0, 1) := by decide +kernel
theorem dX2_jump_135 : decode cX2_jump 135 = .ok (.getfield 13, 3) := by decide +kernel
theorem dX2_jump_138 : decode cX2_jump 138 = .ok (.bipush 7, 2) := by decide +kernel
theorem dX2_jump_140 : decode cX2_jump 140 = .ok (.iload_n 2, 1) := by decide +kernel
theorem dX2_jump_141 : decode cX2_jump 141 = .ok (.iastore, 1) := by decide +kernel
theorem dX2_jump_142 : decode cX2_jump 142 = .ok (.aload_n 0, 1) := by decide +kernel
theorem dX2_jump_143 : decode cX2_jump 143 = .ok (.dup, 1) := by decide +kernel
theorem dX2_jump_144 : decode cX2_jump 144 = .ok (.getfield 39, 3) := by decide +kernel
theorem dX2_jump_147 : decode cX2_jump 147 = .ok (.bipush 6, 2) := by decide +kernel
theorem dX2_jump_149 : decode cX2_jump 149 = .ok (.iadd, 1) := by decide +kernel
theorem dX2_jump_150 : decode cX2_jump 150 = .ok (.putfield 39, 3) := by decide +kernel
theorem dX2_jump_153 : decode cX2_jump 153 = .ok (.return_, 1) := by decide +kernel
theorem dX2_back_0 : decode cX2_back 0 = .ok (.iload_n 1, 1) := by decide +kernel
theorem dX2_back_1 : decode cX2_back 1 = .ok (.bipush 7, 2) := by decide +kernel
theorem dX2_back_3 : decode cX2_back 3 = .ok (.iand, 1) := by decide +kernel
theorem dX2_back_4 : decode cX2_back 4 = .ok (.istore_n 2, 1) := by decide +kernel
theorem dX2_back_5 : decode cX2_back 5 = .ok (.aload_n 0, 1) := by decide +kernel
theorem dX2_back_6 : decode cX2_back 6 = .ok (.getfield 13, 3) := by decide +kernel
theorem dX2_back_9 : decode cX2_back 9 = .ok (.bipush 7, 2) := by decide +kernel
theorem dX2_back_11 : decode cX2_back 11 = .ok (.aload_n 0, 1) := by decide +kernel
end
section
theorem dX2_back_12 : decode cX2_back 12 = .ok (.getfield 13, 3) := by decide +kernel
theorem dX2_back_15 : decode cX2_back 15 = .ok (.iload_n 2, 1) := by decide +kernel
theorem dX2_back_16 : decode cX2_back 16 = .ok (.iaload, 1) := by decide +kernel
theorem dX2_back_17 : decode cX2_back 17 = .ok (.iastore, 1) := by decide +kernel
theorem dX2_back_18 : decode cX2_back 18 = .ok (.aload_n 0, 1) := by decide +kernel
theorem dX2_back_19 : decode cX2_back 19 = .ok (.getfield 13, 3) := by decide +kernel
theorem dX2_back_22 : decode cX2_back 22 = .ok (.bipush 6, 2) := by decide +kernel
theorem dX2_back_24 : decode cX2_back 24 = .ok (.iaload, 1) := by decide +kernel
theorem dX2_back_25 : decode cX2_back 25 = .ok (.istore_n 3, 1) := by decide +kernel
theorem dX2_back_26 : decode cX2_back 26 = .ok (.aload_n 0, 1) := by decide +kernel
theorem dX2_back_27 : decode cX2_back 27 = .ok (.bipush 6, 2) := by decide +kernel
theorem dX2_back_29 : decode cX2_back 29 = .ok (.iconst 2, 1) := by decide +kernel
theorem dX2_back_30 : decode cX2_back 30 = .ok (.invokevirtual 28, 3) := by decide +kernel
theorem dX2_back_33 : decode cX2_back 33 = .ok (.aload_n 0, 1) := by decide +kernel
theorem dX2_back_34 : decode cX2_back 34 = .ok (.iload_n 3, 1) := by decide +kernel
theorem dX2_back_35 : decode cX2_back 35 = .ok (.invokevirtual 32, 3) := by decide +kernel
theorem dX2_back_38 : decode cX2_back 38 = .ok (.istore 4, 2) := by decide +kernel
theorem dX2_back_40 : decode cX2_back 40 = .ok (.aload_n 0, 1) := by decide +kernel
theorem dX2_back_41 : decode cX2_back 41 = .ok (.getfield 25, 3) := by decide +kernel
theorem dX2_back_44 : decode cX2_back 44 = .ok (.ifCond .le 4, 3) := by decide +kernel
theorem dX2_back_47 : decode cX2_back 47 = .ok (.return_, 1) := by decide +kernel
theorem dX2_back_48 : decode cX2_back 48 = .ok (.aload_n 0, 1) := by decide +kernel
theorem dX2_back_49 : decode cX2_back 49 = .ok (.getfield 13, 3) := by decide +kernel
theorem dX2_back_52 : decode cX2_back 52 = .ok (.iload_n 2, 1) := by decide +kernel
theorem dX2_back_53 : decode cX2_back 53 = .ok (.iload 4, 2) := by decide +kernel
theorem dX2_back_55 : decode cX2_back 55 = .ok (.iastore, 1) := by decide +kernel
theorem dX2_back_56 : decode cX2_back 56 = .ok (.aload_n 0, 1) := by decide +kernel
theorem dX2_back_57 : decode cX2_back 57 = .ok (.dup, 1) := by decide +kernel
theorem dX2_back_58 : decode cX2_back 58 = .ok (.getfield 39, 3) := by decide +kernel
theorem dX2_back_61 : decode cX2_back 61 = .ok (.iconst 3, 1) := by decide +kernel
theorem dX2_back_62 : decode cX2_back 62 = .ok (.iadd, 1) := by decide +kernel
theorem dX2_back_63 : decode cX2_back 63 = .ok (.putfield 39, 3) := by decide +kernel
theorem dX2_back_66 : decode cX2_back 66 = .ok (.return_, 1) := by decide +kernel
theorem dX2_flag_0 : decode cX2_flag 0 = .ok (.aload_n 0, 1) := by decide +kernel
theorem dX2_flag_1 : decode cX2_flag 1 = .ok (.dup, 1) := by decide +kernel
theorem dX2_flag_2 : decode cX2_flag 2 = .ok (.getfield 39, 3) := by decide +kernel
theorem dX2_flag_5 : decode cX2_flag 5 = .ok (.iconst 1, 1) := by decide +kernel
theorem dX2_flag_6 : decode cX2_flag 6 = .ok (.iadd, 1) := by decide +kernel
theorem dX2_flag_7 : decode cX2_flag 7 = .ok (.putfield 39, 3) := by decide +kernel
theorem dX2_flag_10 : decode cX2_flag 10 = .ok (.aload_n 0, 1) := by decide +kernel
theorem dX2_flag_11 : decode cX2_flag 11 = .ok (.iload_n 1, 1) := by decide +kernel
theorem dX2_flag_12 : decode cX2_flag 12 = .ok (.bipush 16, 2) := by decide +kernel
theorem dX2_flag_14 : decode cX2_flag 14 = .ok (.iand, 1) := by decide +kernel
theorem dX2_flag_15 : decode cX2_flag 15 = .ok (.ifCond .eq 15, 3) := by decide +kernel
theorem dX2_flag_18 : decode cX2_flag 18 = .ok (.aload_n 0, 1) := by decide +kernel
theorem dX2_flag_19 : decode cX2_flag 19 = .ok (.getfield 17, 3) := by decide +kernel
theorem dX2_flag_22 : decode cX2_flag 22 = .ok (.iload_n 1, 1) := by decide +kernel
theorem dX2_flag_23 : decode cX2_flag 23 = .ok (.bipush 15, 2) := by decide +kernel
theorem dX2_flag_25 : decode cX2_flag 25 = .ok (.iand, 1) := by decide +kernel
theorem dX2_flag_26 : decode cX2_flag 26 = .ok (.ior, 1) := by decide +kernel
theorem dX2_flag_27 : decode cX2_flag 27 = .ok (.goto 14, 3) := by decide +kernel
theorem dX2_flag_30 : decode cX2_flag 30 = .ok (.aload_n 0, 1) := by decide +kernel
theorem dX2_flag_31 : decode cX2_flag 31 = .ok (.getfield 17, 3) := by decide +kernel
theorem dX2_flag_34 : decode cX2_flag 34 = .ok (.iload_n 1, 1) := by decide +kernel
theorem dX2_flag_35 : decode cX2_flag 35 = .ok (.iconst (-1), 1) := by decide +kernel
theorem dX2_flag_36 : decode cX2_flag 36 = .ok (.ixor, 1) := by decide +kernel
theorem dX2_flag_37 : decode cX2_flag 37 = .ok (.iand, 1) := by decide +kernel
theorem dX2_flag_38 : decode cX2_flag 38 = .ok (.bipush 15, 2) := by decide +kernel
theorem dX2_flag_40 : decode cX2_flag 40 = .ok (.iand, 1) := by decide +kernel
theorem dX2_flag_41 : decode cX2_flag 41 = .ok (.putfield 17, 3) := by decide +kernel
theorem dX2_flag_44 : decode cX2_flag 44 = .ok (.return_, 1) := by decide +kernel
theorem dX2_doTwo_0 : decode cX2_doTwo 0 = .ok (.iload_n 1, 1) := by decide +kernel
theorem dX2_doTwo_1 : decode cX2_doTwo 1 = .ok (.bipush 12, 2) := by decide +kernel
theorem dX2_doTwo_3 : decode cX2_doTwo 3 = .ok (.ishr, 1) := by decide +kernel
theorem dX2_doTwo_4 : decode cX2_doTwo 4 = .ok (.istore_n 2, 1) := by decide +kernel
theorem dX2_doTwo_5 : decode cX2_doTwo 5 = .ok (.iload_n 2, 1) := by decide +kernel
theorem dX2_doTwo_6 : decode cX2_doTwo 6 = .ok (.bipush 8, 2) := by decide +kernel
theorem dX2_doTwo_8 : decode cX2_doTwo 8 = .ok (.if_icmp .le 13, 3) := by decide +kernel
theorem dX2_doTwo_11 : decode cX2_doTwo 11 = .ok (.iload_n 2, 1) := by decide +kernel
theorem dX2_doTwo_12 : decode cX2_doTwo 12 = .ok (.bipush 14, 2) := by decide +kernel
theorem dX2_doTwo_14 : decode cX2_doTwo 14 = .ok (.if_icmp .ge 7, 3) := by decide +kernel
theorem dX2_doTwo_17 : decode cX2_doTwo 17 = .ok (.iconst 1, 1) := by decide +kernel
theorem dX2_doTwo_18 : decode cX2_doTwo 18 = .ok (.goto 4, 3) := by decide +kernel
theorem dX2_doTwo_21 : decode cX2_doTwo 21 = .ok (.iconst 0, 1) := by decide +kernel
theorem dX2_doTwo_22 : decode cX2_doTwo 22 = .ok (.istore_n 3, 1) := by decide +kernel
theorem dX2_doTwo_23 : decode cX2_doTwo 23 = .ok (.iload_n 2, 1) := by decide +kernel
theorem dX2_doTwo_24 : decode cX2_doTwo 24 = .ok (.bipush 14, 2) := by decide +kernel
theorem dX2_doTwo_26 : decode cX2_doTwo 26 = .ok (.if_icmp .ne 8, 3) := by decide +kernel
theorem dX2_doTwo_29 : decode cX2_doTwo 29 = .ok (.bipush 7, 2) := by decide +kernel
theorem dX2_doTwo_31 : decode cX2_doTwo 31 = .ok (.goto 7, 3) := by decide +kernel
theorem dX2_doTwo_34 : decode cX2_doTwo 34 = .ok (.iload_n 2, 1) := by decide +kernel
theorem dX2_doTwo_35 : decode cX2_doTwo 35 = .ok (.bipush 7, 2) := by decide +kernel
theorem dX2_doTwo_37 : decode cX2_doTwo 37 = .ok (.iand, 1) := by decide +kernel
theorem dX2_doTwo_38 : decode cX2_doTwo 38 = .ok (.istore 4, 2) := by decide +kernel
theorem dX2_doTwo_40 : decode cX2_doTwo 40 = .ok (.aload_n 0, 1) := by decide +kernel
theorem dX2_doTwo_41 : decode cX2_doTwo 41 = .ok (.iload_n 1, 1) := by decide +kernel
theorem dX2_doTwo_42 : decode cX2_doTwo 42 = .ok (.bipush 6, 2) := by decide +kernel
theorem dX2_doTwo_44 : decode cX2_doTwo 44 = .ok (.ishr, 1) := by decide +kernel
theorem dX2_doTwo_45 : decode cX2_doTwo 45 = .ok (.bipush 63, 2) := by decide +kernel
theorem dX2_doTwo_47 : decode cX2_doTwo 47 = .ok (.iand, 1) := by decide +kernel
theorem dX2_doTwo_48 : decode cX2_doTwo 48 = .ok (.iload_n 3, 1) := by decide +kernel
theorem dX2_doTwo_49 : decode cX2_doTwo 49 = .ok (.invokevirtual 54, 3) := by decide +kernel
theorem dX2_doTwo_52 : decode cX2_doTwo 52 = .ok (.aload_n 0, 1) := by decide +kernel
theorem dX2_doTwo_53 : decode cX2_doTwo 53 = .ok (.iload_n 3, 1) := by decide +kernel
theorem dX2_doTwo_54 : decode cX2_doTwo 54 = .ok (.invokevirtual 58, 3) := by decide +kernel
theorem dX2_doTwo_57 : decode cX2_doTwo 57 = .ok (.istore 5, 2) := by decide +kernel
theorem dX2_doTwo_59 : decode cX2_doTwo 59 = .ok (.aload_n 0, 1) := by decide +kernel
theorem dX2_doTwo_60 : decode cX2_doTwo 60 = .ok (.getfield 25, 3) := by decide +kernel
theorem dX2_doTwo_63 : decode cX2_doTwo 63 = .ok (.ifCond .le 4, 3) := by decide +kernel
theorem dX2_doTwo_66 : decode cX2_doTwo 66 = .ok (.return_, 1) := by decide +kernel
theorem dX2_doTwo_67 : decode cX2_doTwo 67 = .ok (.aload_n 0, 1) := by decide +kernel
theorem dX2_doTwo_68 : decode cX2_doTwo 68 = .ok (.iload_n 1, 1) := by decide +kernel
theorem dX2_doTwo_69 : decode cX2_doTwo 69 = .ok (.bipush 63, 2) := by decide +kernel
theorem dX2_doTwo_71 : decode cX2_doTwo 71 = .ok (.iand, 1) := by decide +kernel
theorem dX2_doTwo_72 : decode cX2_doTwo 72 = .ok (.iload_n 3, 1) := by decide +kernel
theorem dX2_doTwo_73 : decode cX2_doTwo 73 = .ok (.invokevirtual 54, 3) := by decide +kernel
theorem dX2_doTwo_76 : decode cX2_doTwo 76 = .ok (.aload_n 0, 1) := by decide +kernel
theorem dX2_doTwo_77 : decode cX2_doTwo 77 = .ok (.iload_n 3, 1) := by decide +kernel
theorem dX2_doTwo_78 : decode cX2_doTwo 78 = .ok (.invokevirtual 58, 3) := by decide +kernel
theorem dX2_doTwo_81 : decode cX2_doTwo 81 = .ok (.istore 6, 2) := by decide +kernel
theorem dX2_doTwo_83 : decode cX2_doTwo 83 = .ok (.aload_n 0, 1) := by decide +kernel
theorem dX2_doTwo_84 : decode cX2_doTwo 84 = .ok (.getfield 25, 3) := by decide +kernel
theorem dX2_doTwo_87 : decode cX2_doTwo 87 = .ok (.ifCond .le 4, 3) := by decide +kernel
theorem dX2_doTwo_90 : decode cX2_doTwo 90 = .ok (.return_, 1) := by decide +kernel
theorem dX2_doTwo_91 : decode cX2_doTwo 91 = .ok (.aload_n 0, 1) := by decide +kernel
theorem dX2_doTwo_92 : decode cX2_doTwo 92 = .ok (.dup, 1) := by decide +kernel
theorem dX2_doTwo_93 : decode cX2_doTwo 93 = .ok (.getfield 39, 3) := by decide +kernel
theorem dX2_doTwo_96 : decode cX2_doTwo 96 = .ok (.iconst 1, 1) := by decide +kernel
theorem dX2_doTwo_97 : decode cX2_doTwo 97 = .ok (.iadd, 1) := by decide +kernel
theorem dX2_doTwo_98 : decode cX2_doTwo 98 = .ok (.putfield 39, 3) := by decide +kernel
theorem dX2_doTwo_101 : decode cX2_doTwo 101 = .ok (.aload_n 0, 1) := by decide +kernel
theorem dX2_doTwo_102 : decode cX2_doTwo 102 = .ok (.iload 4, 2) := by decide +kernel
theorem dX2_doTwo_104 : decode cX2_doTwo 104 = .ok (.iload 5, 2) := by decide +kernel
theorem dX2_doTwo_106 : decode cX2_doTwo 106 = .ok (.iload 6, 2) := by decide +kernel
theorem dX2_doTwo_108 : decode cX2_doTwo 108 = .ok (.iload_n 3, 1) := by decide +kernel
theorem dX2_doTwo_109 : decode cX2_doTwo 109 = .ok (.ifCond .eq 9, 3) := by decide +kernel
theorem dX2_doTwo_112 : decode cX2_doTwo 112 = .ok (.sipush 128, 3) := by decide +kernel
theorem dX2_doTwo_115 : decode cX2_doTwo 115 = .ok (.goto 5, 3) := by decide +kernel
theorem dX2_doTwo_118 : decode cX2_doTwo 118 = .ok (.ldc 62, 2) := by decide +kernel
theorem dX2_doTwo_120 : decode cX2_doTwo 120 = .ok (.invokevirtual 63, 3) := by decide +kernel
theorem dX2_doTwo_123 : decode cX2_doTwo 123 = .ok (.istore 7, 2) := by decide +kernel
theorem dX2_doTwo_125 : decode cX2_doTwo 125 = .ok (.iload 4, 2) := by decide +kernel
theorem dX2_doTwo_127 : decode cX2_doTwo 127 = .ok (.iconst 2, 1) := by decide +kernel
theorem dX2_doTwo_128 : decode cX2_doTwo 128 = .ok (.if_icmp .eq 27, 3) := by decide +kernel
theorem dX2_doTwo_131 : decode cX2_doTwo 131 = .ok (.iload 4, 2) := by decide +kernel
theorem dX2_doTwo_133 : decode cX2_doTwo 133 = .ok (.iconst 3, 1) := by decide +kernel
theorem dX2_doTwo_134 : decode cX2_doTwo 134 = .ok (.if_icmp .eq 21, 3) := by decide +kernel
theorem dX2_doTwo_137 : decode cX2_doTwo 137 = .ok (.aload_n 0, 1) := by decide +kernel
theorem dX2_doTwo_138 : decode cX2_doTwo 138 = .ok (.iload 7, 2) := by decide +kernel
theorem dX2_doTwo_140 : decode cX2_doTwo 140 = .ok (.iload_n 3, 1) := by decide +kernel
theorem dX2_doTwo_141 : decode cX2_doTwo 141 = .ok (.iload 4, 2) := by decide +kernel
theorem dX2_doTwo_143 : decode cX2_doTwo 143 = .ok (.iconst 1, 1) := by decide +kernel
theorem dX2_doTwo_144 : decode cX2_doTwo 144 = .ok (.if_icmp .ne 7, 3) := by decide +kernel
theorem dX2_doTwo_147 : decode cX2_doTwo 147 = .ok (.iconst 1, 1) := by decide +kernel
theorem dX2_doTwo_148 : decode cX2_doTwo 148 = .ok (.goto 4, 3) := by decide +kernel
theorem dX2_doTwo_151 : decode cX2_doTwo 151 = .ok (.iconst 0, 1) := by decide +kernel
theorem dX2_doTwo_152 : decode cX2_doTwo 152 = .ok (.invokevirtual 67, 3) := by decide +kernel
theorem dX2_doTwo_155 : decode cX2_doTwo 155 = .ok (.return_, 1) := by decide +kernel
theorem dX2_two_0 : decode cX2_two 0 = .ok (.iconst 2, 1) := by decide +kernel
theorem dX2_two_1 : decode cX2_two 1 = .ok (.iload 4, 2) := by decide +kernel
theorem dX2_two_3 : decode cX2_two 3 = .ok (.imul, 1) := by decide +kernel
theorem dX2_two_4 : decode cX2_two 4 = .ok (.iconst 1, 1) := by decide +kernel
theorem dX2_two_5 : decode cX2_two 5 = .ok (.isub, 1) := by decide +kernel
theorem dX2_two_6 : decode cX2_two 6 = .ok (.istore 5, 2) := by decide +kernel
theorem dX2_two_8 : decode cX2_two 8 = .ok (.aload_n 0, 1) := by decide +kernel
theorem dX2_two_9 : decode cX2_two 9 = .ok (.getfield 17, 3) := by decide +kernel
theorem dX2_two_12 : decode cX2_two 12 = .ok (.iconst 1, 1) := by decide +kernel
theorem dX2_two_13 : decode cX2_two 13 = .ok (.iand, 1) := by decide +kernel
theorem dX2_two_14 : decode cX2_two 14 = .ok (.ifCond .eq 7, 3) := by decide +kernel
theorem dX2_two_17 : decode cX2_two 17 = .ok (.iconst 1, 1) := by decide +kernel
theorem dX2_two_18 : decode cX2_two 18 = .ok (.goto 4, 3) := by decide +kernel
theorem dX2_two_21 : decode cX2_two 21 = .ok (.iconst 0, 1) := by decide +kernel
theorem dX2_two_22 : decode cX2_two 22 = .ok (.istore 6, 2) := by decide +kernel
theorem dX2_two_24 : decode cX2_two 24 = .ok (.iload_n 1, 1) := by decide +kernel
theorem dX2_two_25 : decode cX2_two 25 = .ok (.iconst 2, 1) := by decide +kernel
theorem dX2_two_26 : decode cX2_two 26 = .ok (.if_icmp .ne 7, 3) := by decide +kernel
theorem dX2_two_29 : decode cX2_two 29 = .ok (.iload_n 2, 1) := by decide +kernel
theorem dX2_two_30 : decode cX2_two 30 = .ok (.goto 4, 3) := by decide +kernel
theorem dX2_two_33 : decode cX2_two 33 = .ok (.iload_n 3, 1) := by decide +kernel
theorem dX2_two_34 : decode cX2_two 34 = .ok (.istore 7, 2) := by decide +kernel
theorem dX2_two_36 : decode cX2_two 36 = .ok (.iload_n 1, 1) := by decide +kernel
theorem dX2_two_37 : decode cX2_two 37 = .ok (.iconst 2, 1) := by decide +kernel
theorem dX2_two_38 : decode cX2_two 38 = .ok (.if_icmp .ne 7, 3) := by decide +kernel
theorem dX2_two_41 : decode cX2_two 41 = .ok (.iload_n 3, 1) := by decide +kernel
theorem dX2_two_42 : decode cX2_two 42 = .ok (.goto 4, 3) := by decide +kernel
theorem dX2_two_45 : decode cX2_two 45 = .ok (.iload_n 2, 1) := by decide +kernel
theorem dX2_two_46 : decode cX2_two 46 = .ok (.istore 8, 2) := by decide +kernel
theorem dX2_two_48 : decode cX2_two 48 = .ok (.iload_n 1, 1) := by decide +kernel
theorem dX2_two_49 : decode cX2_two 49 = .ok (.iconst 1, 1) := by decide +kernel
theorem dX2_two_50 : decode cX2_two 50 = .ok (.if_icmp .ne 7, 3) := by decide +kernel
theorem dX2_two_53 : decode cX2_two 53 = .ok (.iload_n 2, 1) := by decide +kernel
theorem dX2_two_54 : decode cX2_two 54 = .ok (.goto 61, 3) := by decide +kernel
theorem dX2_two_57 : decode cX2_two 57 = .ok (.iload_n 1, 1) := by decide +kernel
theorem dX2_two_58 : decode cX2_two 58 = .ok (.iconst 3, 1) := by decide +kernel
theorem dX2_two_59 : decode cX2_two 59 = .ok (.if_icmp .ne 9, 3) := by decide +kernel
theorem dX2_two_62 : decode cX2_two 62 = .ok (.iload_n 2, 1) := by decide +kernel
theorem dX2_two_63 : decode cX2_two 63 = .ok (.iload_n 3, 1) := by decide +kernel
theorem dX2_two_64 : decode cX2_two 64 = .ok (.iand, 1) := by decide +kernel
theorem dX2_two_65 : decode cX2_two 65 = .ok (.goto 50, 3) := by decide +kernel
theorem dX2_two_68 : decode cX2_two 68 = .ok (.iload_n 1, 1) := by decide +kernel
theorem dX2_two_69 : decode cX2_two 69 = .ok (.iconst 4, 1) := by decide +kernel
theorem dX2_two_70 : decode cX2_two 70 = .ok (.if_icmp .ne 11, 3) := by decide +kernel
theorem dX2_two_73 : decode cX2_two 73 = .ok (.iload_n 3, 1) := by decide +kernel
theorem dX2_two_74 : decode cX2_two 74 = .ok (.iload_n 2, 1) := by decide +kernel
theorem dX2_two_75 : decode cX2_two 75 = .ok (.iconst (-1), 1) := by decide +kernel
theorem dX2_two_76 : decode cX2_two 76 = .ok (.ixor, 1) := by decide +kernel
theorem dX2_two_77 : decode cX2_two 77 = .ok (.iand, 1) := by decide +kernel
theorem dX2_two_78 : decode cX2_two 78 = .ok (.goto 37, 3) := by decide +kernel
theorem dX2_two_81 : decode cX2_two 81 = .ok (.iload_n 1, 1) := by decide +kernel
theorem dX2_two_82 : decode cX2_two 82 = .ok (.iconst 5, 1) := by decide +kernel
theorem dX2_two_83 : decode cX2_two 83 = .ok (.if_icmp .ne 9, 3) := by decide +kernel
theorem dX2_two_86 : decode cX2_two 86 = .ok (.iload_n 2, 1) := by decide +kernel
theorem dX2_two_87 : decode cX2_two 87 = .ok (.iload_n 3, 1) := by decide +kernel
theorem dX2_two_88 : decode cX2_two 88 = .ok (.ior, 1) := by decide +kernel
theorem dX2_two_89 : decode cX2_two 89 = .ok (.goto 26, 3) := by decide +kernel
theorem dX2_two_92 : decode cX2_two 92 = .ok (.iload_n 1, 1) := by decide +kernel
theorem dX2_two_93 : decode cX2_two 93 = .ok (.bipush 6, 2) := by decide +kernel
theorem dX2_two_95 : decode cX2_two 95 = .ok (.if_icmp .ne 12, 3) := by decide +kernel
theorem dX2_two_98 : decode cX2_two 98 = .ok (.iload_n 3, 1) := by decide +kernel
theorem dX2_two_99 : decode cX2_two 99 = .ok (.iload_n 2, 1) := by decide +kernel
theorem dX2_two_100 : decode cX2_two 100 = .ok (.iadd, 1) := by decide +kernel
theorem dX2_two_101 : decode cX2_two 101 = .ok (.iload 5, 2) := by decide +kernel
theorem dX2_two_103 : decode cX2_two 103 = .ok (.iand, 1) := by decide +kernel
theorem dX2_two_104 : decode cX2_two 104 = .ok (.goto 11, 3) := by decide +kernel
theorem dX2_two_107 : decode cX2_two 107 = .ok (.iload 7, 2) := by decide +kernel
theorem dX2_two_109 : decode cX2_two 109 = .ok (.iload 8, 2) := by decide +kernel
theorem dX2_two_111 : decode cX2_two 111 = .ok (.isub, 1) := by decide +kernel
theorem dX2_two_112 : decode cX2_two 112 = .ok (.iload 5, 2) := by decide +kernel
theorem dX2_two_114 : decode cX2_two 114 = .ok (.iand, 1) := by decide +kernel
theorem dX2_two_115 : decode cX2_two 115 = .ok (.istore 9, 2) := by decide +kernel
theorem dX2_two_117 : decode cX2_two 117 = .ok (.iload_n 1, 1) := by decide +kernel
theorem dX2_two_118 : decode cX2_two 118 = .ok (.bipush 6, 2) := by decide +kernel
theorem dX2_two_120 : decode cX2_two 120 = .ok (.if_icmp .ne 55, 3) := by decide +kernel
theorem dX2_two_123 : decode cX2_two 123 = .ok (.aload_n 0, 1) := by decide +kernel
theorem dX2_two_124 : decode cX2_two 124 = .ok (.iload 9, 2) := by decide +kernel
theorem dX2_two_126 : decode cX2_two 126 = .ok (.iload 4, 2) := by decide +kernel
theorem dX2_two_128 : decode cX2_two 128 = .ok (.iload_n 2, 1) := by decide +kernel
theorem dX2_two_129 : decode cX2_two 129 = .ok (.iload 4, 2) := by decide +kernel
theorem dX2_two_131 : decode cX2_two 131 = .ok (.iand, 1) := by decide +kernel
theorem dX2_two_132 : decode cX2_two 132 = .ok (.iload_n 3, 1) := by decide +kernel
theorem dX2_two_133 : decode cX2_two 133 = .ok (.iload 4, 2) := by decide +kernel
theorem dX2_two_135 : decode cX2_two 135 = .ok (.iand, 1) := by decide +kernel
theorem dX2_two_136 : decode cX2_two 136 = .ok (.if_icmp .ne 19, 3) := by decide +kernel
theorem dX2_two_139 : decode cX2_two 139 = .ok (.iload 9, 2) := by decide +kernel
theorem dX2_two_141 : decode cX2_two 141 = .ok (.iload 4, 2) := by decide +kernel
theorem dX2_two_143 : decode cX2_two 143 = .ok (.iand, 1) := by decide +kernel
theorem dX2_two_144 : decode cX2_two 144 = .ok (.iload_n 2, 1) := by decide +kernel
theorem dX2_two_145 : decode cX2_two 145 = .ok (.iload 4, 2) := by decide +kernel
theorem dX2_two_147 : decode cX2_two 147 = .ok (.iand, 1) := by decide +kernel
theorem dX2_two_148 : decode cX2_two 148 = .ok (.if_icmp .eq 7, 3) := by decide +kernel
theorem dX2_two_151 : decode cX2_two 151 = .ok (.iconst 1, 1) := by decide +kernel
theorem dX2_two_152 : decode cX2_two 152 = .ok (.goto 4, 3) := by decide +kernel
theorem dX2_two_155 : decode cX2_two 155 = .ok (.iconst 0, 1) := by decide +kernel
theorem dX2_two_156 : decode cX2_two 156 = .ok (.iload_n 3, 1) := by decide +kernel
theorem dX2_two_157 : decode cX2_two 157 = .ok (.iload_n 2, 1) := by decide +kernel
theorem dX2_two_158 : decode cX2_two 158 = .ok (.iadd, 1) := by decide +kernel
theorem dX2_two_159 : decode cX2_two 159 = .ok (.iload 5, 2) := by decide +kernel
theorem dX2_two_161 : decode cX2_two 161 = .ok (.if_icmp .le 7, 3) := by decide +kernel
theorem dX2_two_164 : decode cX2_two 164 = .ok (.iconst 1, 1) := by decide +kernel
theorem dX2_two_165 : decode cX2_two 165 = .ok (.goto 4, 3) := by decide +kernel
theorem dX2_two_168 : decode cX2_two 168 = .ok (.iconst 0, 1) := by decide +kernel
theorem dX2_two_169 : decode cX2_two 169 = .ok (.invokevirtual 50, 3) := by decide +kernel
theorem dX2_two_172 : decode cX2_two 172 = .ok (.goto 79, 3) := by decide +kernel
theorem dX2_two_175 : decode cX2_two 175 = .ok (.iload_n 1, 1) := by decide +kernel
theorem dX2_two_176 : decode cX2_two 176 = .ok (.iconst 2, 1) := by decide +kernel
theorem dX2_two_177 : decode cX2_two 177 = .ok (.if_icmp .eq 9, 3) := by decide +kernel
theorem dX2_two_180 : decode cX2_two 180 = .ok (.iload_n 1, 1) := by decide +kernel
theorem dX2_two_181 : decode cX2_two 181 = .ok (.bipush 7, 2) := by decide +kernel
theorem dX2_two_183 : decode cX2_two 183 = .ok (.if_icmp .ne 57, 3) := by decide +kernel
theorem dX2_two_186 : decode cX2_two 186 = .ok (.aload_n 0, 1) := by decide +kernel
theorem dX2_two_187 : decode cX2_two 187 = .ok (.iload 9, 2) := by decide +kernel
theorem dX2_two_189 : decode cX2_two 189 = .ok (.iload 4, 2) := by decide +kernel
theorem dX2_two_191 : decode cX2_two 191 = .ok (.iload 7, 2) := by decide +kernel
theorem dX2_two_193 : decode cX2_two 193 = .ok (.iload 4, 2) := by decide +kernel
theorem dX2_two_195 : decode cX2_two 195 = .ok (.iand, 1) := by decide +kernel
theorem dX2_two_196 : decode cX2_two 196 = .ok (.iload 8, 2) := by decide +kernel
theorem dX2_two_198 : decode cX2_two 198 = .ok (.iload 4, 2) := by decide +kernel
theorem dX2_two_200 : decode cX2_two 200 = .ok (.iand, 1) := by decide +kernel
theorem dX2_two_201 : decode cX2_two 201 = .ok (.if_icmp .eq 20, 3) := by decide +kernel
theorem dX2_two_204 : decode cX2_two 204 = .ok (.iload 9, 2) := by decide +kernel
theorem dX2_two_206 : decode cX2_two 206 = .ok (.iload 4, 2) := by decide +kernel
theorem dX2_two_208 : decode cX2_two 208 = .ok (.iand, 1) := by decide +kernel
theorem dX2_two_209 : decode cX2_two 209 = .ok (.iload 8, 2) := by decide +kernel
theorem dX2_two_211 : decode cX2_two 211 = .ok (.iload 4, 2) := by decide +kernel
theorem dX2_two_213 : decode cX2_two 213 = .ok (.iand, 1) := by decide +kernel
theorem dX2_two_214 : decode cX2_two 214 = .ok (.if_icmp .ne 7, 3) := by decide +kernel
theorem dX2_two_217 : decode cX2_two 217 = .ok (.iconst 1, 1) := by decide +kernel
theorem dX2_two_218 : decode cX2_two 218 = .ok (.goto 4, 3) := by decide +kernel
theorem dX2_two_221 : decode cX2_two 221 = .ok (.iconst 0, 1) := by decide +kernel
theorem dX2_two_222 : decode cX2_two 222 = .ok (.iload 7, 2) := by decide +kernel
theorem dX2_two_224 : decode cX2_two 224 = .ok (.iload 8, 2) := by decide +kernel
theorem dX2_two_226 : decode cX2_two 226 = .ok (.if_icmp .ge 7, 3) := by decide +kernel
theorem dX2_two_229 : decode cX2_two 229 = .ok (.iconst 1, 1) := by decide +kernel
theorem dX2_two_230 : decode cX2_two 230 = .ok (.goto 4, 3) := by decide +kernel
theorem dX2_two_233 : decode cX2_two 233 = .ok (.iconst 0, 1) := by decide +kernel
theorem dX2_two_234 : decode cX2_two 234 = .ok (.invokevirtual 50, 3) := by decide +kernel
theorem dX2_two_237 : decode cX2_two 237 = .ok (.goto 14, 3) := by decide +kernel
theorem dX2_two_240 : decode cX2_two 240 = .ok (.aload_n 0, 1) := by decide +kernel
theorem dX2_two_241 : decode cX2_two 241 = .ok (.iload 9, 2) := by decide +kernel
theorem dX2_two_243 : decode cX2_two 243 = .ok (.iload 4, 2) := by decide +kernel
theorem dX2_two_245 : decode cX2_two 245 = .ok (.iconst 0, 1) := by decide +kernel
theorem dX2_two_246 : decode cX2_two 246 = .ok (.iload 6, 2) := by decide +kernel
theorem dX2_two_248 : decode cX2_two 248 = .ok (.invokevirtual 50, 3) := by decide +kernel
theorem dX2_two_251 : decode cX2_two 251 = .ok (.iload 9, 2) := by decide +kernel
theorem dX2_two_253 : decode cX2_two 253 = .ok (.ireturn, 1) := by decide +kernel
theorem dX2_run_0 : decode cX2_run 0 = .ok (.iconst 0, 1) := by decide +kernel
theorem dX2_run_1 : decode cX2_run 1 = .ok (.istore_n 2, 1) := by decide +kernel
theorem dX2_run_2 : decode cX2_run 2 = .ok (.iload_n 2, 1) := by decide +kernel
theorem dX2_run_3 : decode cX2_run 3 = .ok (.iload_n 1, 1) := by decide +kernel
theorem dX2_run_4 : decode cX2_run 4 = .ok (.if_icmp .ge 23, 3) := by decide +kernel
theorem dX2_run_7 : decode cX2_run 7 = .ok (.iload_n 2, 1) := by decide +kernel
theorem dX2_run_8 : decode cX2_run 8 = .ok (.sipush 10000, 3) := by decide +kernel
theorem dX2_run_11 : decode cX2_run 11 = .ok (.if_icmp .ge 16, 3) := by decide +kernel
theorem dX2_run_14 : decode cX2_run 14 = .ok (.aload_n 0, 1) := by decide +kernel
theorem dX2_run_15 : decode cX2_run 15 = .ok (.invokevirtual 108, 3) := by decide +kernel
theorem dX2_run_18 : decode cX2_run 18 = .ok (.ifCond .le 9, 3) := by decide +kernel
theorem dX2_run_21 : decode cX2_run 21 = .ok (.iinc 2 1, 3) := by decide +kernel
theorem dX2_run_24 : decode cX2_run 24 = .ok (.goto (-22), 3) := by decide +kernel
theorem dX2_run_27 : decode cX2_run 27 = .ok (.iload_n 2, 1) := by decide +kernel
theorem dX2_run_28 : decode cX2_run 28 = .ok (.ireturn, 1) := by decide +kernel
end
section
theorem dL_law_0 : decode cL_law 0 = .ok (.new 7, 3) := by decide +kernel
theorem dL_law_3 : decode cL_law 3 = .ok (.dup, 1) := by decide +kernel
theorem dL_law_4 : decode cL_law 4 = .ok (.invokespecial 9, 3) := by decide +kernel
theorem dL_law_7 : decode cL_law 7 = .ok (.astore_n 1, 1) := by decide +kernel
theorem dL_law_8 : decode cL_law 8 = .ok (.new 10, 3) := by decide +kernel
theorem dL_law_11 : decode cL_law 11 = .ok (.dup, 1) := by decide +kernel
theorem dL_law_12 : decode cL_law 12 = .ok (.invokespecial 12, 3) := by decide +kernel
theorem dL_law_15 : decode cL_law 15 = .ok (.astore_n 2, 1) := by decide +kernel
theorem dL_law_16 : decode cL_law 16 = .ok (.iconst 0, 1) := by decide +kernel
theorem dL_law_17 : decode cL_law 17 = .ok (.istore_n 3, 1) := by decide +kernel
theorem dL_law_18 : decode cL_law 18 = .ok (.iload_n 3, 1) := by decide +kernel
theorem dL_law_19 : decode cL_law 19 = .ok (.aload_n 0, 1) := by decide +kernel
theorem dL_law_20 : decode cL_law 20 = .ok (.arraylength, 1) := by decide +kernel
theorem dL_law_21 : decode cL_law 21 = .ok (.iconst 3, 1) := by decide +kernel
theorem dL_law_22 : decode cL_law 22 = .ok (.isub, 1) := by decide +kernel
theorem dL_law_23 : decode cL_law 23 = .ok (.if_icmp .gt 272, 3) := by decide +kernel
theorem dL_law_26 : decode cL_law 26 = .ok (.aload_n 0, 1) := by decide +kernel
theorem dL_law_27 : decode cL_law 27 = .ok (.iload_n 3, 1) := by decide +kernel
theorem dL_law_28 : decode cL_law 28 = .ok (.iaload, 1) := by decide +kernel
theorem dL_law_29 : decode cL_law 29 = .ok (.bipush 15, 2) := by decide +kernel
theorem dL_law_31 : decode cL_law 31 = .ok (.iand, 1) := by decide +kernel
theorem dL_law_32 : decode cL_law 32 = .ok (.tableswitch 257 0 9 #[56, 89, 112, 145, 168, 181, 194, 217, 231, 244], 56) := by decide +kernel
theorem dL_law_88 : decode cL_law 88 = .ok (.aload_n 1, 1) := by decide +kernel
theorem dL_law_89 : decode cL_law 89 = .ok (.aload_n 0, 1) := by decide +kernel
theorem dL_law_90 : decode cL_law 90 = .ok (.iload_n 3, 1) := by decide +kernel
theorem dL_law_91 : decode cL_law 91 = .ok (.iconst 1, 1) := by decide +kernel
theorem dL_law_92 : decode cL_law 92 = .ok (.iadd, 1) := by decide +kernel
theorem dL_law_93 : decode cL_law 93 = .ok (.iaload, 1) := by decide +kernel
theorem dL_law_94 : decode cL_law 94 = .ok (.aload_n 0, 1) := by decide +kernel
theorem dL_law_95 : decode cL_law 95 = .ok (.iload_n 3, 1) := by decide +kernel
theorem dL_law_96 : decode cL_law 96 = .ok (.iconst 2, 1) := by decide +kernel
theorem dL_law_97 : decode cL_law 97 = .ok (.iadd, 1) := by decide +kernel
theorem dL_law_98 : decode cL_law 98 = .ok (.iaload, 1) := by decide +kernel
theorem dL_law_99 : decode cL_law 99 = .ok (.invokevirtual 13, 3) := by decide +kernel
theorem dL_law_102 : decode cL_law 102 = .ok (.aload_n 2, 1) := by decide +kernel
theorem dL_law_103 : decode cL_law 103 = .ok (.aload_n 0, 1) := by decide +kernel
theorem dL_law_104 : decode cL_law 104 = .ok (.iload_n 3, 1) := by decide +kernel
theorem dL_law_105 : decode cL_law 105 = .ok (.iconst 1, 1) := by decide +kernel
theorem dL_law_106 : decode cL_law 106 = .ok (.iadd, 1) := by decide +kernel
theorem dL_law_107 : decode cL_law 107 = .ok (.iaload, 1) := by decide +kernel
theorem dL_law_108 : decode cL_law 108 = .ok (.aload_n 0, 1) := by decide +kernel
theorem dL_law_109 : decode cL_law 109 = .ok (.iload_n 3, 1) := by decide +kernel
theorem dL_law_110 : decode cL_law 110 = .ok (.iconst 2, 1) := by decide +kernel
theorem dL_law_111 : decode cL_law 111 = .ok (.iadd, 1) := by decide +kernel
theorem dL_law_112 : decode cL_law 112 = .ok (.iaload, 1) := by decide +kernel
theorem dL_law_113 : decode cL_law 113 = .ok (.invokevirtual 17, 3) := by decide +kernel
theorem dL_law_116 : decode cL_law 116 = .ok (.if_icmp .eq 173, 3) := by decide +kernel
theorem dL_law_119 : decode cL_law 119 = .ok (.iconst 0, 1) := by decide +kernel
theorem dL_law_120 : decode cL_law 120 = .ok (.ireturn, 1) := by decide +kernel
theorem dL_law_121 : decode cL_law 121 = .ok (.aload_n 1, 1) := by decide +kernel
theorem dL_law_122 : decode cL_law 122 = .ok (.aload_n 0, 1) := by decide +kernel
theorem dL_law_123 : decode cL_law 123 = .ok (.iload_n 3, 1) := by decide +kernel
theorem dL_law_124 : decode cL_law 124 = .ok (.iconst 1, 1) := by decide +kernel
theorem dL_law_125 : decode cL_law 125 = .ok (.iadd, 1) := by decide +kernel
theorem dL_law_126 : decode cL_law 126 = .ok (.iaload, 1) := by decide +kernel
theorem dL_law_127 : decode cL_law 127 = .ok (.invokevirtual 18, 3) := by decide +kernel
theorem dL_law_130 : decode cL_law 130 = .ok (.aload_n 2, 1) := by decide +kernel
theorem dL_law_131 : decode cL_law 131 = .ok (.aload_n 0, 1) := by decide +kernel
theorem dL_law_132 : decode cL_law 132 = .ok (.iload_n 3, 1) := by decide +kernel
theorem dL_law_133 : decode cL_law 133 = .ok (.iconst 1, 1) := by decide +kernel
theorem dL_law_134 : decode cL_law 134 = .ok (.iadd, 1) := by decide +kernel
theorem dL_law_135 : decode cL_law 135 = .ok (.iaload, 1) := by decide +kernel
theorem dL_law_136 : decode cL_law 136 = .ok (.invokevirtual 22, 3) := by decide +kernel
theorem dL_law_139 : decode cL_law 139 = .ok (.if_icmp .eq 150, 3) := by decide +kernel
theorem dL_law_142 : decode cL_law 142 = .ok (.iconst 0, 1) := by decide +kernel
theorem dL_law_143 : decode cL_law 143 = .ok (.ireturn, 1) := by decide +kernel
theorem dL_law_144 : decode cL_law 144 = .ok (.aload_n 1, 1) := by decide +kernel
theorem dL_law_145 : decode cL_law 145 = .ok (.aload_n 0, 1) := by decide +kernel
theorem dL_law_146 : decode cL_law 146 = .ok (.iload_n 3, 1) := by decide +kernel
theorem dL_law_147 : decode cL_law 147 = .ok (.iconst 1, 1) := by decide +kernel
theorem dL_law_148 : decode cL_law 148 = .ok (.iadd, 1) := by decide +kernel
theorem dL_law_149 : decode cL_law 149 = .ok (.iaload, 1) := by decide +kernel
theorem dL_law_150 : decode cL_law 150 = .ok (.aload_n 0, 1) := by decide +kernel
theorem dL_law_151 : decode cL_law 151 = .ok (.iload_n 3, 1) := by decide +kernel
theorem dL_law_152 : decode cL_law 152 = .ok (.iconst 2, 1) := by decide +kernel
theorem dL_law_153 : decode cL_law 153 = .ok (.iadd, 1) := by decide +kernel
theorem dL_law_154 : decode cL_law 154 = .ok (.iaload, 1) := by decide +kernel
theorem dL_law_155 : decode cL_law 155 = .ok (.invokevirtual 23, 3) := by decide +kernel
theorem dL_law_158 : decode cL_law 158 = .ok (.aload_n 2, 1) := by decide +kernel
theorem dL_law_159 : decode cL_law 159 = .ok (.aload_n 0, 1) := by decide +kernel
theorem dL_law_160 : decode cL_law 160 = .ok (.iload_n 3, 1) := by decide +kernel
theorem dL_law_161 : decode cL_law 161 = .ok (.iconst 1, 1) := by decide +kernel
theorem dL_law_162 : decode cL_law 162 = .ok (.iadd, 1) := by decide +kernel
theorem dL_law_163 : decode cL_law 163 = .ok (.iaload, 1) := by decide +kernel
theorem dL_law_164 : decode cL_law 164 = .ok (.aload_n 0, 1) := by decide +kernel
theorem dL_law_165 : decode cL_law 165 = .ok (.iload_n 3, 1) := by decide +kernel
theorem dL_law_166 : decode cL_law 166 = .ok (.iconst 2, 1) := by decide +kernel
theorem dL_law_167 : decode cL_law 167 = .ok (.iadd, 1) := by decide +kernel
theorem dL_law_168 : decode cL_law 168 = .ok (.iaload, 1) := by decide +kernel
theorem dL_law_169 : decode cL_law 169 = .ok (.invokevirtual 26, 3) := by decide +kernel
theorem dL_law_172 : decode cL_law 172 = .ok (.if_icmp .eq 117, 3) := by decide +kernel
theorem dL_law_175 : decode cL_law 175 = .ok (.iconst 0, 1) := by decide +kernel
theorem dL_law_176 : decode cL_law 176 = .ok (.ireturn, 1) := by decide +kernel
theorem dL_law_177 : decode cL_law 177 = .ok (.aload_n 1, 1) := by decide +kernel
theorem dL_law_178 : decode cL_law 178 = .ok (.aload_n 0, 1) := by decide +kernel
theorem dL_law_179 : decode cL_law 179 = .ok (.iload_n 3, 1) := by decide +kernel
theorem dL_law_180 : decode cL_law 180 = .ok (.iconst 1, 1) := by decide +kernel
theorem dL_law_181 : decode cL_law 181 = .ok (.iadd, 1) := by decide +kernel
theorem dL_law_182 : decode cL_law 182 = .ok (.iaload, 1) := by decide +kernel
theorem dL_law_183 : decode cL_law 183 = .ok (.invokevirtual 27, 3) := by decide +kernel
theorem dL_law_186 : decode cL_law 186 = .ok (.aload_n 2, 1) := by decide +kernel
theorem dL_law_187 : decode cL_law 187 = .ok (.aload_n 0, 1) := by decide +kernel
theorem dL_law_188 : decode cL_law 188 = .ok (.iload_n 3, 1) := by decide +kernel
theorem dL_law_189 : decode cL_law 189 = .ok (.iconst 1, 1) := by decide +kernel
theorem dL_law_190 : decode cL_law 190 = .ok (.iadd, 1) := by decide +kernel
theorem dL_law_191 : decode cL_law 191 = .ok (.iaload, 1) := by decide +kernel
theorem dL_law_192 : decode cL_law 192 = .ok (.invokevirtual 30, 3) := by decide +kernel
theorem dL_law_195 : decode cL_law 195 = .ok (.if_icmp .eq 94, 3) := by decide +kernel
theorem dL_law_198 : decode cL_law 198 = .ok (.iconst 0, 1) := by decide +kernel
theorem dL_law_199 : decode cL_law 199 = .ok (.ireturn, 1) := by decide +kernel
theorem dL_law_200 : decode cL_law 200 = .ok (.aload_n 1, 1) := by decide +kernel
theorem dL_law_201 : decode cL_law 201 = .ok (.invokevirtual 31, 3) := by decide +kernel
theorem dL_law_204 : decode cL_law 204 = .ok (.aload_n 2, 1) := by decide +kernel
theorem dL_law_205 : decode cL_law 205 = .ok (.invokevirtual 35, 3) := by decide +kernel
theorem dL_law_208 : decode cL_law 208 = .ok (.if_icmp .eq 81, 3) := by decide +kernel
theorem dL_law_211 : decode cL_law 211 = .ok (.iconst 0, 1) := by decide +kernel
theorem dL_law_212 : decode cL_law 212 = .ok (.ireturn, 1) := by decide +kernel
theorem dL_law_213 : decode cL_law 213 = .ok (.aload_n 1, 1) := by decide +kernel
theorem dL_law_214 : decode cL_law 214 = .ok (.invokevirtual 36, 3) := by decide +kernel
theorem dL_law_217 : decode cL_law 217 = .ok (.aload_n 2, 1) := by decide +kernel
theorem dL_law_218 : decode cL_law 218 = .ok (.invokevirtual 39, 3) := by decide +kernel
theorem dL_law_221 : decode cL_law 221 = .ok (.if_icmp .eq 68, 3) := by decide +kernel
theorem dL_law_224 : decode cL_law 224 = .ok (.iconst 0, 1) := by decide +kernel
theorem dL_law_225 : decode cL_law 225 = .ok (.ireturn, 1) := by decide +kernel
theorem dL_law_226 : decode cL_law 226 = .ok (.aload_n 1, 1) := by decide +kernel
theorem dL_law_227 : decode cL_law 227 = .ok (.aload_n 0, 1) := by decide +kernel
theorem dL_law_228 : decode cL_law 228 = .ok (.iload_n 3, 1) := by decide +kernel
theorem dL_law_229 : decode cL_law 229 = .ok (.iconst 1, 1) := by decide +kernel
theorem dL_law_230 : decode cL_law 230 = .ok (.iadd, 1) := by decide +kernel
theorem dL_law_231 : decode cL_law 231 = .ok (.iaload, 1) := by decide +kernel
theorem dL_law_232 : decode cL_law 232 = .ok (.invokevirtual 40, 3) := by decide +kernel
theorem dL_law_235 : decode cL_law 235 = .ok (.aload_n 2, 1) := by decide +kernel
theorem dL_law_236 : decode cL_law 236 = .ok (.aload_n 0, 1) := by decide +kernel
theorem dL_law_237 : decode cL_law 237 = .ok (.iload_n 3, 1) := by decide +kernel
theorem dL_law_238 : decode cL_law 238 = .ok (.iconst 1, 1) := by decide +kernel
theorem dL_law_239 : decode cL_law 239 = .ok (.iadd, 1) := by decide +kernel
theorem dL_law_240 : decode cL_law 240 = .ok (.iaload, 1) := by decide +kernel
theorem dL_law_241 : decode cL_law 241 = .ok (.invokevirtual 43, 3) := by decide +kernel
theorem dL_law_244 : decode cL_law 244 = .ok (.if_icmp .eq 45, 3) := by decide +kernel
theorem dL_law_247 : decode cL_law 247 = .ok (.iconst 0, 1) := by decide +kernel
theorem dL_law_248 : decode cL_law 248 = .ok (.ireturn, 1) := by decide +kernel
theorem dL_law_249 : decode cL_law 249 = .ok (.aload_n 1, 1) := by decide +kernel
theorem dL_law_250 : decode cL_law 250 = .ok (.invokevirtual 44, 3) := by decide +kernel
theorem dL_law_253 : decode cL_law 253 = .ok (.aload_n 2, 1) := by decide +kernel
theorem dL_law_254 : decode cL_law 254 = .ok (.invokevirtual 48, 3) := by decide +kernel
theorem dL_law_257 : decode cL_law 257 = .ok (.lcmp, 1) := by decide +kernel
theorem dL_law_258 : decode cL_law 258 = .ok (.ifCond .eq 31, 3) := by decide +kernel
theorem dL_law_261 : decode cL_law 261 = .ok (.iconst 0, 1) := by decide +kernel
theorem dL_law_262 : decode cL_law 262 = .ok (.ireturn, 1) := by decide +kernel
theorem dL_law_263 : decode cL_law 263 = .ok (.aload_n 1, 1) := by decide +kernel
theorem dL_law_264 : decode cL_law 264 = .ok (.invokevirtual 49, 3) := by decide +kernel
theorem dL_law_267 : decode cL_law 267 = .ok (.aload_n 2, 1) := by decide +kernel
theorem dL_law_268 : decode cL_law 268 = .ok (.invokevirtual 52, 3) := by decide +kernel
theorem dL_law_271 : decode cL_law 271 = .ok (.if_icmp .eq 18, 3) := by decide +kernel
theorem dL_law_274 : decode cL_law 274 = .ok (.iconst 0, 1) := by decide +kernel
theorem dL_law_275 : decode cL_law 275 = .ok (.ireturn, 1) := by decide +kernel
theorem dL_law_276 : decode cL_law 276 = .ok (.aload_n 1, 1) := by decide +kernel
theorem dL_law_277 : decode cL_law 277 = .ok (.invokevirtual 53, 3) := by decide +kernel
theorem dL_law_280 : decode cL_law 280 = .ok (.aload_n 2, 1) := by decide +kernel
theorem dL_law_281 : decode cL_law 281 = .ok (.invokevirtual 57, 3) := by decide +kernel
theorem dL_law_284 : decode cL_law 284 = .ok (.if_icmp .eq 5, 3) := by decide +kernel
theorem dL_law_287 : decode cL_law 287 = .ok (.iconst 0, 1) := by decide +kernel
theorem dL_law_288 : decode cL_law 288 = .ok (.ireturn, 1) := by decide +kernel
theorem dL_law_289 : decode cL_law 289 = .ok (.iinc 3 3, 3) := by decide +kernel
theorem dL_law_292 : decode cL_law 292 = .ok (.goto (-274), 3) := by decide +kernel
theorem dL_law_295 : decode cL_law 295 = .ok (.iconst 1, 1) := by decide +kernel
theorem dL_law_296 : decode cL_law 296 = .ok (.ireturn, 1) := by decide +kernel
end
section
/-! states, cells, starts and ends; the calls' rows -/
abbrev sW : Type := Int32 × Int32 × Int32 × Int32 × Int32 × Int32
abbrev sA : Type := (Nat → Int32) × (Nat → Int32) × Int32 × Int64 × Int32 × Int32 × sW
abbrev sD : Type := (Nat → Int32) × (Nat → Int32) × Int32 × Int32 × Int64 × Int32 × Int32
abbrev clW (k : Nat) (w : sW) : va_W := [(k, .inr (0, [.int w.1, .int w.2.1, .int w.2.2.1, .int w.2.2.2.1, .int w.2.2.2.2.1, .int w.2.2.2.2.2]))]
abbrev clA (o aw ar ak : Nat) (kI : ClassId) (u : sA) : va_W := [(o, .inr (1, [.ref aw, .ref ar, .ref ak, .int u.2.2.1, .long u.2.2.2.1, .int u.2.2.2.2.1, .int u.2.2.2.2.2.1])), (aw, .inl (kI, 2048, .inl u.1)), (ar, .inl (kI, 8, .inl u.2.1)), (ak, .inr (0, [.int u.2.2.2.2.2.2.1, .int u.2.2.2.2.2.2.2.1, .int u.2.2.2.2.2.2.2.2.1, .int u.2.2.2.2.2.2.2.2.2.1, .int u.2.2.2.2.2.2.2.2.2.2.1, .int u.2.2.2.2.2.2.2.2.2.2.2]))]
abbrev clD (o aw ar : Nat) (kI : ClassId) (u : sD) : va_W := [(o, .inr (2, [.ref aw, .ref ar, .int u.2.2.1, .int u.2.2.2.1, .long u.2.2.2.2.1, .int u.2.2.2.2.2.1, .int u.2.2.2.2.2.2])), (aw, .inl (kI, 2048, .inl u.1)), (ar, .inl (kI, 8, .inl u.2.1))]
abbrev tyI (kI : ClassId) : List (ClassId × FieldType) := [(kI, .int)]
def mcT (j : Nat) : Int32 := match j with
  | 0 => 1
  | 1 => 2
  | 2 => 2
  | 3 => 3
  | 4 => 3
  | 5 => 4
  | 6 => 4
  | _ => 5
def nwA : List Cond := [.methodLinkNest RX1 18 yX0_init "MicroMill", .methodLinkNest RX1 45 yX0_packed "MicroMill", .methodLinkNest RX1 108 yX0_takeWidth "MicroMill", .methodLinkNest RX1 112 yX0_ofTwo "MicroMill", .methodLinkNest RX1 124 yX0_ofShift "MicroMill", .methodLinkNest RX1 127 yX0_ofOne "MicroMill", .methodLinkNest RX1 130 yX0_allows "MicroMill", .methodLinkNest RX1 139 yX0_change "MicroMill"]
theorem nwA_tb : ∀ w ∈ nwA, w.onTables = true := by decide +kernel
theorem nwA_warm {s U : State} (hW : s.WarmedH U.vm) (h : ∀ w ∈ nwA, va_Nw w s) : ∀ w ∈ nwA, va_Nw w U := by
  intro w hw
  have h1 := h w hw
  simp only [nwA, List.mem_cons, List.not_mem_nil, or_false] at hw
  rcases hw with rfl | rfl | rfl | rfl | rfl | rfl | rfl | rfl <;> exact va_Nw.warmM hW h1
def pzA (tb : Nat) (A : Nat → Prop) (U : State) : Prop := va_Z RX1 "MODE_CYCLES" "[I" (.ref tb) A U U.heap ∧ va_T .int tb 8 (fun j => .int (mcT j)) A U U.heap ∧ ∀ w ∈ nwA, va_Nw w U
theorem pzA_calling {tb : Nat} {A : Nat → Prop} {U : State} {g : JFrame} {mk : MethodId} {a : Array Value} (h : pzA tb A U) : pzA tb A (U.calling g mk a) :=
  ⟨va_Z.moved (u := U) (U := U.calling g mk a) (Vm.Alike.refl U.vm) h.1, va_T.moved (u := U) (U := U.calling g mk a) (Vm.Alike.refl U.vm) h.2.1, fun w hw => va_Nw.same (nwA_tb w hw) (u := U) (U := U.calling g mk a) rfl (h.2.2 w hw)⟩
theorem pzA_to {tb : Nat} {A B : Nat → Prop} {s U : State} {H : Heap} {locs : List Loc} (hZ : pzA tb A s) (hS : va_S A s.heap H locs) (hU : U.heap = H) (hW : s.WarmedH U.vm) (hB : ∀ q, B q → A q) : pzA tb B U := by
  subst hU
  exact ⟨(va_Z.moved hW.alike (hZ.1.kept hS.2.1)).narrow hB, (va_T.moved hW.alike (hZ.2.1.kept hS.2.1)).narrow hB, nwA_warm hW hZ.2.2⟩
/-- a method's start over a world, and its end -/
def prG {S : Type} (D : va_G) (kI : ClassId) (cl : S → va_W) (sz : Nat) (u : S) (U : State) : Prop := U.heap.size = sz ∧ va_P D vwCl (cl u) U.heap ∧ va_K D vwCl (tyI kI) U ∧ va_D (fun _ => True) (cl u)
def prA (D : va_G) (kI : ClassId) (tb o aw ar ak sz : Nat) (u : sA) (U : State) : Prop := U.heap.size = sz ∧ va_P D vwCl (clA o aw ar ak kI u) U.heap ∧ va_K D vwCl (tyI kI) U ∧ va_D (fun _ => True) (clA o aw ar ak kI u) ∧ pzA tb (va_A (clA o aw ar ak kI u) sz) U
def prS (sz : Nat) (U : State) : Prop := U.heap.size = sz
def poG {S : Type} (D : va_G) (kI : ClassId) (cl : S → va_W) (A : Nat → Prop) (v : S) (t : State) : Prop := va_P D vwCl (cl v) t.heap ∧ va_K D vwCl (tyI kI) t ∧ va_D A (cl v)
def poS (_ : Unit) (_ : State) : Prop := True
theorem va_freeSelf {A : Nat → Prop} {ws : va_W} {H0 H : Heap} {locs : List Loc} (hD : va_D A ws) (hS : va_S A H0 H locs) (hA : ∀ q, H0.size ≤ q → A q) : ∀ q, va_A ws H.size q → A q := by
  intro q h
  rcases h with ⟨k, e, h⟩ | h
  · exact hD.2 k _ h
  · exact hA q (Nat.le_trans hS.1 h)
theorem preA {D : va_G} {kI : ClassId} {tb o aw ar ak : Nat} {u : sA} {A : Nat → Prop} {s : State} {H : Heap} {locs : List Loc} (hK : va_K D vwCl (tyI kI) s) (hP : va_P D vwCl (clA o aw ar ak kI u) H) (hD : va_D A (clA o aw ar ak kI u)) (hS : va_S A s.heap H locs) (hA : ∀ q, s.heap.size ≤ q → A q) (hZ : pzA tb A s) (As : List Value) : PreV s H RX1 o (va_Pc (.ref o :: As) (prA D kI tb o aw ar ak H.size u)) As :=
  ⟨fun a U g mk q => ⟨q.1, q.2.1, q.2.2.1, va_K.moved (u := U) (U := U.calling g mk a) (Vm.Alike.refl U.vm) q.2.2.2.1, q.2.2.2.2.1, pzA_calling q.2.2.2.2.2⟩,
   va_recv hK hP (q := (RX1, TX1, 7)) (q0 := 0) (ci := 1) rfl rfl,
   fun U hU hW => ⟨rfl, by rw [hU], by rw [hU]; exact hP, va_K.moved hW.alike hK, hD.weaken (fun _ _ _ _ => trivial), pzA_to hZ hS hU hW (va_freeSelf hD hS hA)⟩⟩
theorem preG {S : Type} {D : va_G} {kI : ClassId} {cl : S → va_W} {o : Nat} {C : String} {T : u_T} {N ci : Nat} {fs : List Value} {u : S} {s : State} {H : Heap} (hK : va_K D vwCl (tyI kI) s) (hP : va_P D vwCl (cl u) H) (hD : va_D (fun _ => True) (cl u)) (hc : vwCl[ci]? = some (C, T, N)) (h0 : (cl u)[0]? = some (o, .inr (ci, fs))) (As : List Value) : PreV s H C o (va_Pc (.ref o :: As) (prG D kI cl H.size u)) As :=
  ⟨fun a U g mk q => ⟨q.1, q.2.1, q.2.2.1, va_K.moved (u := U) (U := U.calling g mk a) (Vm.Alike.refl U.vm) q.2.2.2.1, q.2.2.2.2⟩,
   va_recv hK hP (q := (C, T, N)) (q0 := 0) (ci := ci) hc h0,
   fun U hU hW => ⟨rfl, by rw [hU], by rw [hU]; exact hP, va_K.moved hW.alike hK, hD⟩⟩
theorem preSt {s : State} {H : Heap} (As : List Value) : PreS s H (va_Pc As (prS H.size)) As :=
  ⟨fun _ _ _ _ q => q, fun U hU _ => ⟨rfl, by rw [← hU]; rfl⟩⟩
/-- a contract, with room and goal named -/
theorem mOfW {l : Launch} {y : MethodName} {ws ws' : List Cond} {rm : Room} {Pc : Array Value → State → Prop} {Qc : Array Value → State → Outcome → State → Prop} {mc ms : Nat} {free : Addr → Prop} {cc : ByteArray} {maxL : Nat} {ret : Option FieldType}
    (hy : plainName y.cls = true) (hw : ws = Cond.code y cc maxL ret :: ws')
    (body : ∀ p e s m args below meth c s₁ (Q : State → Prop) (R : Room), Q = MQ below Qc args s mc ms free → R = rm → BodyLoose p l y (headSpec ws rm) cc maxL ret e s m args below meth c s₁ → c.maxLocals = maxL → Pc args s →
      W p l e R s m args below meth c s.heap [] 0 0 Q (entryFrame m args maxL)) : Met l y ws rm Pc Qc mc ms free :=
  Met.ofW hy hw (fun p e s m args below meth c s₁ B hml hP => body p e s m args below meth c s₁ _ _ rfl rfl B hml hP)
theorem ob_some {α β : Type} {r : Option α} {k : α → Option β} {t : β} (h : r.bind k = some t) : ∃ x, r = some x ∧ k x = some t := by
  cases r with
  | none => cases h
  | some x => exact ⟨x, rfl, h⟩
theorem oi_some {α : Type} {b : Bool} {a : Option α} {t : α} (h : (if b = true then a else none) = some t) : b = true ∧ a = some t := by
  by_cases hb : b = true
  · rw [if_pos hb] at h; exact ⟨hb, h⟩
  · rw [if_neg hb] at h; cases h
def ixk (i : Int32) (n : Nat) : Bool := !(decide (i < 0) || decide (n ≤ i.toNatClampNeg))
theorem ixk_in {i : Int32} {n : Nat} (h : ixk i n = true) : vp_in i n := by
  intro q
  unfold ixk at h
  rcases q with q | q
  · simp [q] at h
  · simp [q] at h
theorem ixk_of {i : Int32} {n : Nat} (h : vp_in i n) : ixk i n = true := by
  unfold vp_in at h
  unfold ixk
  simp only [Bool.not_eq_true', Bool.or_eq_false_iff, decide_eq_false_iff_not]
  exact ⟨fun q => h (Or.inl q), fun q => h (Or.inr q)⟩
def bok (x : Int32) : Bool := x == 0 || x == 1
theorem bok_or {x : Int32} (h : bok x = true) : x = 0 ∨ x = 1 := by
  unfold bok at h
  simpa using h
theorem bok_n {x : Int32} (h : bok x = true) : narrow .boolean (.int x) = .int x := by
  rcases bok_or h with rfl | rfl <;> rfl
theorem bok_f {x : Int32} (h : bok x = true) : fits .boolean (.int x) = true := by
  rcases bok_or h with rfl | rfl <;> rfl
theorem ne_toInt {x k : Int32} {a : Int} (h : ¬ x = k) (hk : k.toInt = a) : x.toInt ≠ a := fun q => h (Int32.toInt_inj.mp (q.trans hk.symm))
section KC
variable {p : Program} {l : Launch} {e : Env} {R : Room} {s : State} {m : MethodId} {args : Array Value} {below : List Frame} {meth : Method} {c : Code} {H : Heap} {locs : List Loc} {Q : State → Prop}
variable {pc : Nat} {ls : Array Slot} {rest st0 : List Value} {a : Array Value} {A : Nat → Prop} {D : va_G} {kI : ClassId}
/-- a call on the caller's own world -/
theorem kG_i {S : Type} {cl : S → va_W} {u : S} {tg : Int32 × S} (hr : va_Run p l e R s m args below meth c H locs 0 0 0 0 (F0 m pc ls st0) rest (va_Qi (fun (x : Int32) (v : S) => x = tg.1 ∧ v = tg.2) (poG D kI cl (va_A (cl u) H.size)) (va_A (cl u) H.size) a) (va_A (cl u) H.size)) (hD : va_D A (cl u)) (hS : va_S A s.heap H locs) (hA : ∀ q, s.heap.size ≤ q → A q)
    (kk : ∀ (H1 : Heap) (locs1 : List Loc), va_P D vwCl (cl tg.2) H1 → va_D A (cl tg.2) → va_S A s.heap H1 locs1 → W p l e R s m args below meth c H1 locs1 0 0 Q (F0 m (pc + 3) ls (.int tg.1 :: rest))) : W p l e R s m args below meth c H locs 0 0 Q (F0 m pc ls st0) := by
  have hFc := va_freeSelf hD hS hA
  refine va_calli hr hS (fun q _ h => hFc q h) hFc (fun x v t H1 locs1 ht hvm hw hB hz hk hS1 => ?_)
  obtain ⟨rfl, rfl⟩ := hw
  obtain ⟨hP1, hK1, hD1⟩ := hB
  subst ht
  exact kk _ _ hP1 (hD1.weaken (fun _ q _ h => hFc q.1 h)) hS1
theorem kG_v {S : Type} {cl : S → va_W} {u : S} {tg : Unit × S} (hr : va_Run p l e R s m args below meth c H locs 0 0 0 0 (F0 m pc ls st0) rest (va_Qv (fun (v : S) => v = tg.2) (poG D kI cl (va_A (cl u) H.size)) (va_A (cl u) H.size) a) (va_A (cl u) H.size)) (hD : va_D A (cl u)) (hS : va_S A s.heap H locs) (hA : ∀ q, s.heap.size ≤ q → A q)
    (kk : ∀ (H1 : Heap) (locs1 : List Loc), va_P D vwCl (cl tg.2) H1 → va_D A (cl tg.2) → va_S A s.heap H1 locs1 → W p l e R s m args below meth c H1 locs1 0 0 Q (F0 m (pc + 3) ls rest)) : W p l e R s m args below meth c H locs 0 0 Q (F0 m pc ls st0) := by
  have hFc := va_freeSelf hD hS hA
  refine va_callv hr hS (fun q _ h => hFc q h) hFc (fun v t H1 locs1 ht hvm hw hB hz hk hS1 => ?_)
  subst hw
  obtain ⟨hP1, hK1, hD1⟩ := hB
  subst ht
  exact kk _ _ hP1 (hD1.weaken (fun _ q _ h => hFc q.1 h)) hS1
/-- a call of the Work's methods out of MicroMill -/
theorem kW_i {o aw ar ak : Nat} {u : sA} {tg : Int32 × sW} (hr : va_Run p l e R s m args below meth c H locs 0 0 0 0 (F0 m pc ls st0) rest (va_Qi (fun (x : Int32) (v : sW) => x = tg.1 ∧ v = tg.2) (poG D kI (clW ak) (va_A (clW ak u.2.2.2.2.2.2) H.size)) (va_A (clW ak u.2.2.2.2.2.2) H.size) a) (va_A (clW ak u.2.2.2.2.2.2) H.size)) (hP : va_P D vwCl (clA o aw ar ak kI u) H) (hD : va_D A (clA o aw ar ak kI u)) (hS : va_S A s.heap H locs) (hA : ∀ q, s.heap.size ≤ q → A q)
    (kk : ∀ (H1 : Heap) (locs1 : List Loc), va_P D vwCl (clA o aw ar ak kI (u.1, u.2.1, u.2.2.1, u.2.2.2.1, u.2.2.2.2.1, u.2.2.2.2.2.1, tg.2)) H1 → va_D A (clA o aw ar ak kI (u.1, u.2.1, u.2.2.1, u.2.2.2.1, u.2.2.2.2.1, u.2.2.2.2.2.1, tg.2)) → va_S A s.heap H1 locs1 → W p l e R s m args below meth c H1 locs1 0 0 Q (F0 m (pc + 3) ls (.int tg.1 :: rest))) : W p l e R s m args below meth c H locs 0 0 Q (F0 m pc ls st0) := by
  have hFc := va_free (wc := clW ak u.2.2.2.2.2.2) hD hS hA [3] rfl
  refine va_calli hr hS (fun q _ h => hFc q h) hFc (fun x v t H1 locs1 ht hvm hw hB hz hk hS1 => ?_)
  obtain ⟨rfl, rfl⟩ := hw
  obtain ⟨hP1, hK1, hD1⟩ := hB
  subst ht
  obtain ⟨hP2, hD2⟩ := va_join (wr := [(o, .inr (1, [.ref aw, .ref ar, .ref ak, .int u.2.2.1, .long u.2.2.2.1, .int u.2.2.2.2.1, .int u.2.2.2.2.2.1])), (aw, .inl (kI, 2048, .inl u.1)), (ar, .inl (kI, 8, .inl u.2.1))]) (w1 := clW ak tg.2) hP hD [3] [0, 1, 2] rfl rfl (by decide) (by decide) hk hFc hP1 hD1
  exact kk _ _ hP2 hD2 hS1
theorem kW_v {o aw ar ak : Nat} {u : sA} {tg : Unit × sW} (hr : va_Run p l e R s m args below meth c H locs 0 0 0 0 (F0 m pc ls st0) rest (va_Qv (fun (v : sW) => v = tg.2) (poG D kI (clW ak) (va_A (clW ak u.2.2.2.2.2.2) H.size)) (va_A (clW ak u.2.2.2.2.2.2) H.size) a) (va_A (clW ak u.2.2.2.2.2.2) H.size)) (hP : va_P D vwCl (clA o aw ar ak kI u) H) (hD : va_D A (clA o aw ar ak kI u)) (hS : va_S A s.heap H locs) (hA : ∀ q, s.heap.size ≤ q → A q)
    (kk : ∀ (H1 : Heap) (locs1 : List Loc), va_P D vwCl (clA o aw ar ak kI (u.1, u.2.1, u.2.2.1, u.2.2.2.1, u.2.2.2.2.1, u.2.2.2.2.2.1, tg.2)) H1 → va_D A (clA o aw ar ak kI (u.1, u.2.1, u.2.2.1, u.2.2.2.1, u.2.2.2.2.1, u.2.2.2.2.2.1, tg.2)) → va_S A s.heap H1 locs1 → W p l e R s m args below meth c H1 locs1 0 0 Q (F0 m (pc + 3) ls rest)) : W p l e R s m args below meth c H locs 0 0 Q (F0 m pc ls st0) := by
  have hFc := va_free (wc := clW ak u.2.2.2.2.2.2) hD hS hA [3] rfl
  refine va_callv hr hS (fun q _ h => hFc q h) hFc (fun v t H1 locs1 ht hvm hw hB hz hk hS1 => ?_)
  subst hw
  obtain ⟨hP1, hK1, hD1⟩ := hB
  subst ht
  obtain ⟨hP2, hD2⟩ := va_join (wr := [(o, .inr (1, [.ref aw, .ref ar, .ref ak, .int u.2.2.1, .long u.2.2.2.1, .int u.2.2.2.2.1, .int u.2.2.2.2.2.1])), (aw, .inl (kI, 2048, .inl u.1)), (ar, .inl (kI, 8, .inl u.2.1))]) (w1 := clW ak tg.2) hP hD [3] [0, 1, 2] rfl rfl (by decide) (by decide) hk hFc hP1 hD1
  exact kk _ _ hP2 hD2 hS1
/-- a static call that touches nothing -/
theorem kS_i {ws : va_W} {tg : Int32 × Unit} (hr : va_Run p l e R s m args below meth c H locs 0 0 0 0 (F0 m pc ls st0) rest (va_Qi (fun (x : Int32) (v : Unit) => x = tg.1 ∧ v = tg.2) poS (va_A [] H.size) a) (va_A [] H.size)) (hP : va_P D vwCl ws H) (hS : va_S A s.heap H locs) (hA : ∀ q, s.heap.size ≤ q → A q)
    (kk : ∀ (H1 : Heap) (locs1 : List Loc), va_P D vwCl ws H1 → va_S A s.heap H1 locs1 → W p l e R s m args below meth c H1 locs1 0 0 Q (F0 m (pc + 3) ls (.int tg.1 :: rest))) : W p l e R s m args below meth c H locs 0 0 Q (F0 m pc ls st0) := by
  have hFc : ∀ q, va_A [] H.size q → A q := by
    intro q h
    rcases h with ⟨k, e, h⟩ | h
    · simp at h
    · exact hA q (Nat.le_trans hS.1 h)
  refine va_calli hr hS (fun q _ h => hFc q h) hFc (fun x v t H1 locs1 ht hvm hw hB hz hk hS1 => ?_)
  obtain ⟨rfl, -⟩ := hw
  refine kk _ _ (fun k q hq => (hP k q hq).kept (hk q.1 (hP k q hq).lt ?_)) hS1
  intro h
  rcases h with ⟨k, e, h⟩ | h
  · simp at h
  · exact absurd (hP _ q hq).lt (Nat.not_lt.mpr h)
end KC
end
section
def fnW_settled_38 (u : sW) (x2 : Int32) (x3 : Int32) (x4 : Int32) (y0 : Int32) : Option (Int32 × sW) := if bok y0 then (if bok x2 then (if bok x3 then (some (x4, (u.1, y0, x2, x3, u.2.2.2.2.1, u.2.2.2.2.2))) else none) else none) else none
def fnW_settled_24 (u : sW) (x2 : Int32) (x3 : Int32) (x4 : Int32) (y0 : Int32) : Option (Int32 × sW) := if bok y0 then (if x4 = 0 then (fnW_settled_38 (y0, u.2.1, u.2.2.1, u.2.2.2.1, u.2.2.2.2.1, u.2.2.2.2.2) x2 x3 x4 (1 : Int32)) else (fnW_settled_38 (y0, u.2.1, u.2.2.1, u.2.2.2.1, u.2.2.2.2.1, u.2.2.2.2.2) x2 x3 x4 (0 : Int32))) else none
def fnW_settled (u : sW) (a1 : Int32) (a2 : Int32) (a3 : Int32) : Option (Int32 × sW) := if ((a1 &&& u.2.2.2.2.1) &&& u.2.2.2.2.2) = 0 then (fnW_settled_24 u a2 a3 (a1 &&& u.2.2.2.2.1) (0 : Int32)) else (fnW_settled_24 u a2 a3 (a1 &&& u.2.2.2.2.1) (1 : Int32))
set_option maxRecDepth 100000 in
set_option maxHeartbeats 4000000 in
theorem ctW_settled (l : Launch) (D : va_G) (kI : ClassId) (o : Nat) (sz : Nat) (u : sW) (a1 : Int32) (a2 : Int32) (a3 : Int32) (tg : Int32 × sW) (ht : fnW_settled u a1 a2 a3 = some tg) : Met l yX0_settled (Cond.code yX0_settled cX0_settled 5 (some .int) :: wAll) ({ frames := 0, cells := 0, slots := 0, locals := 0 } : Room) (va_Pc [.ref o, .int a1, .int a2, .int a3] (prG D kI (clW o) sz u)) (va_Qi (fun (x : Int32) (v : sW) => x = tg.1 ∧ v = tg.2) (poG D kI (clW o) (va_A (clW o u) sz)) (va_A (clW o u) sz)) 0 0 (va_A (clW o u) sz) := by
  refine mOfW (cc := cX0_settled) (maxL := 5) (ret := (some .int)) (by decide) rfl ?_
  intro p e s m args below meth c s₁ Q R hQ hR B hml hv
  obtain ⟨rfl, hsz, hP, hK, hD0⟩ := hv
  have hx := B.exec
  have hb := B.bytes
  have hr := B.returns
  have hts := atoms_spec (ws := Cond.code yX0_settled cX0_settled 5 (some .int) :: wAll) B.pre
  have hw : ∀ {w : Cond}, w ∈ wAll → w.before _ s = true := fun {w} h => hts w (List.mem_cons_of_mem _ h)
  have hown : s.vm.findClass RX0 = some m.cls := findClass_of_methodNamed B.named
  have hlocks := B.notSynchronized
  have hRf : 0 ≤ R.frames := by rw [hR]; exact Nat.le_refl _
  have hRl : 0 ≤ R.locals := by rw [hR]; exact Nat.le_refl _
  subst hsz
  have hD := hD0.self (sz := s.heap.size)
  generalize hAe : va_A (clW o u) s.heap.size = A at hD  hQ
  have hA : ∀ q : Nat, s.heap.size ≤ q → A q := fun q h => by rw [← hAe]; exact Or.inr h
  have hl := lv_entry ([.ref o, .int a1, .int a2, .int a3]) (n := 5) (Nat.le_of_ble_eq_true rfl)
  rw [lg_entry_eq]
  generalize (lg_sl ([.ref o, .int a1, .int a2, .int a3]) ++ List.replicate (5 - (lg_sl ([.ref o, .int a1, .int a2, .int a3])).length) Slot.unset).toArray = ls at hl ⊢
  have hl : lv_has ls 5 [(0, .ref o), (1, .int a1), (2, .int a2), (3, .int a3)] := hl
  have hin0 : ∀ w ∈ u_ws RX0 TX0 6, w ∈ (Cond.code yX0_settled cX0_settled 5 (some .int) :: wAll) := fun w h => List.mem_cons_of_mem _ (w_flX0 w h)
  have K38 : ∀ (H : Heap) (locs : List Loc) (ls : Array Slot) (u : sW) (x2 : Int32) (x3 : Int32) (x4 : Int32) (y0 : Int32) , va_P D vwCl (clW o u) H → va_D A (clW o u) → va_S A s.heap H locs → lv_has ls 5 [(0, .ref o), (2, .int x2), (3, .int x3), (4, .int x4)] → fnW_settled_38 u x2 x3 x4 y0 = some tg → W p l e R s m ([.ref o, .int a1, .int a2, .int a3] : List Value).toArray below meth c H locs 0 0 Q (F0 m 38 ls [.int y0, .ref o]) := by
    intro H locs ls u x2 x3 x4 y0 hP hD hS hl ht
    unfold fnW_settled_38 at ht
    obtain ⟨b4, ht⟩ := oi_some ht
    refine va_put (D := D) (ci := 0) (v := .int y0) (ty := .boolean) (C := RX0) (T := TX0) (N := 6) hx hb hts hin0 tyX0 tyX0_ok nmX0 hown hK hP hD hS 0 rfl rfl 1 (by decide) (hw w_f_X0_15) (fun _ h9 => h9) rfl (by decide +kernel) (bok_n b4) (bok_f b4) (Nat.le_of_ble_eq_true rfl) dX0_settled_38 (fun H locs hP hD hS => ?_)
    have hP : va_P D vwCl (clW o (u.1, y0, u.2.2.1, u.2.2.2.1, u.2.2.2.2.1, u.2.2.2.2.2)) H := hP
    have hD : va_D A (clW o (u.1, y0, u.2.2.1, u.2.2.2.1, u.2.2.2.2.1, u.2.2.2.2.2)) := hD
    refine lv_aload_n hx hb dX0_settled_41 rfl (lv_at hl 0 rfl) ?_
    refine lv_iload_n hx hb dX0_settled_42 rfl (lv_at hl 1 rfl) ?_
    obtain ⟨b5, ht⟩ := oi_some ht
    refine va_put (D := D) (ci := 0) (v := .int x2) (ty := .boolean) (C := RX0) (T := TX0) (N := 6) hx hb hts hin0 tyX0 tyX0_ok nmX0 hown hK hP hD hS 0 rfl rfl 2 (by decide) (hw w_f_X0_18) (fun _ h9 => h9) rfl (by decide +kernel) (bok_n b5) (bok_f b5) (Nat.le_of_ble_eq_true rfl) dX0_settled_43 (fun H locs hP hD hS => ?_)
    have hP : va_P D vwCl (clW o (u.1, y0, x2, u.2.2.2.1, u.2.2.2.2.1, u.2.2.2.2.2)) H := hP
    have hD : va_D A (clW o (u.1, y0, x2, u.2.2.2.1, u.2.2.2.2.1, u.2.2.2.2.2)) := hD
    refine lv_aload_n hx hb dX0_settled_46 rfl (lv_at hl 0 rfl) ?_
    refine lv_iload_n hx hb dX0_settled_47 rfl (lv_at hl 2 rfl) ?_
    obtain ⟨b6, ht⟩ := oi_some ht
    refine va_put (D := D) (ci := 0) (v := .int x3) (ty := .boolean) (C := RX0) (T := TX0) (N := 6) hx hb hts hin0 tyX0 tyX0_ok nmX0 hown hK hP hD hS 0 rfl rfl 3 (by decide) (hw w_f_X0_21) (fun _ h9 => h9) rfl (by decide +kernel) (bok_n b6) (bok_f b6) (Nat.le_of_ble_eq_true rfl) dX0_settled_48 (fun H locs hP hD hS => ?_)
    have hP : va_P D vwCl (clW o (u.1, y0, x2, x3, u.2.2.2.2.1, u.2.2.2.2.2)) H := hP
    have hD : va_D A (clW o (u.1, y0, x2, x3, u.2.2.2.2.1, u.2.2.2.2.2)) := hD
    refine lv_iload hx hb dX0_settled_51 (lv_at hl 3 rfl) ?_
    have e9 := Option.some.inj ht
    subst hQ
    exact W.iret (v := x4) hx hb hr (fun t ht9 hW => ⟨⟨x4, (u.1, y0, x2, x3, u.2.2.2.2.1, u.2.2.2.2.2), rfl, ⟨congrArg Prod.fst e9, congrArg Prod.snd e9⟩, ⟨by rw [ht9]; exact hP, va_K.moved hW.alike hK, hD⟩⟩, hS.F ht9⟩) hS.2.2 dX0_settled_53
  have K24 : ∀ (H : Heap) (locs : List Loc) (ls : Array Slot) (u : sW) (x2 : Int32) (x3 : Int32) (x4 : Int32) (y0 : Int32) , va_P D vwCl (clW o u) H → va_D A (clW o u) → va_S A s.heap H locs → lv_has ls 5 [(0, .ref o), (2, .int x2), (3, .int x3), (4, .int x4)] → fnW_settled_24 u x2 x3 x4 y0 = some tg → W p l e R s m ([.ref o, .int a1, .int a2, .int a3] : List Value).toArray below meth c H locs 0 0 Q (F0 m 24 ls [.int y0, .ref o]) := by
    intro H locs ls u x2 x3 x4 y0 hP hD hS hl ht
    unfold fnW_settled_24 at ht
    obtain ⟨b2, ht⟩ := oi_some ht
    refine va_put (D := D) (ci := 0) (v := .int y0) (ty := .boolean) (C := RX0) (T := TX0) (N := 6) hx hb hts hin0 tyX0 tyX0_ok nmX0 hown hK hP hD hS 0 rfl rfl 0 (by decide) (hw w_f_X0_9) (fun _ h9 => h9) rfl (by decide +kernel) (bok_n b2) (bok_f b2) (Nat.le_of_ble_eq_true rfl) dX0_settled_24 (fun H locs hP hD hS => ?_)
    have hP : va_P D vwCl (clW o (y0, u.2.1, u.2.2.1, u.2.2.2.1, u.2.2.2.2.1, u.2.2.2.2.2)) H := hP
    have hD : va_D A (clW o (y0, u.2.1, u.2.2.1, u.2.2.2.1, u.2.2.2.2.1, u.2.2.2.2.2)) := hD
    refine lv_aload_n hx hb dX0_settled_27 rfl (lv_at hl 0 rfl) ?_
    refine lv_iload hx hb dX0_settled_28 (lv_at hl 3 rfl) ?_
    refine lv_if_ne (tgt := 37) hx hb dX0_settled_30 (by decide) (fun g3 => ?_) (fun g3 => ?_)
    · have ht := (if_neg g3).symm.trans ht
      refine lv_iconst (v := (0 : Int32)) hx hb dX0_settled_37 (by decide) ?_
      exact K38 _ _ _ (y0, u.2.1, u.2.2.1, u.2.2.2.1, u.2.2.2.2.1, u.2.2.2.2.2) x2 x3 x4 (0 : Int32) hP hD hS (lv_sub hl [0, 1, 2, 3] rfl) ht
    · have ht := (if_pos g3).symm.trans ht
      refine lv_iconst (v := (1 : Int32)) hx hb dX0_settled_33 (by decide) ?_
      refine lv_goto (tgt := 38) hx hb dX0_settled_34 (by decide) ?_
      exact K38 _ _ _ (y0, u.2.1, u.2.2.1, u.2.2.2.1, u.2.2.2.2.1, u.2.2.2.2.2) x2 x3 x4 (1 : Int32) hP hD hS (lv_sub hl [0, 1, 2, 3] rfl) ht
  unfold fnW_settled at ht
  obtain ⟨H, hHe⟩ : ∃ H : Heap, H = s.heap := ⟨_, rfl⟩
  have hP : va_P D vwCl (clW o u) H := by rw [hHe]; exact hP
  have hS : va_S A s.heap H [] := by rw [hHe]; exact va_S.rf
  rw [← hHe]
  refine lv_iload_n hx hb dX0_settled_0 rfl (lv_at hl 1 rfl) ?_
  refine lv_aload_n hx hb dX0_settled_1 rfl (lv_at hl 0 rfl) ?_
  refine va_get (D := D) (ci := 0) (v := .int u.2.2.2.2.1) (C := RX0) (T := TX0) (N := 6) hx hb hts hin0 hown hK hP 0 rfl rfl 4 (by decide) (hw w_f_X0_25) (fun _ h9 => h9) rfl dX0_settled_2 ?_
  refine lv_iand hx hb dX0_settled_5 ?_
  refine lv_istore (lv' := [(4, .int (a1 &&& u.2.2.2.2.1)), (0, .ref o), (1, .int a1), (2, .int a2), (3, .int a3)]) hx hb dX0_settled_6 hl (by decide) rfl (fun ls hl => ?_)
  refine lv_aload_n hx hb dX0_settled_8 rfl (lv_at hl 1 rfl) ?_
  refine lv_iload hx hb dX0_settled_9 (lv_at hl 0 rfl) ?_
  refine lv_aload_n hx hb dX0_settled_11 rfl (lv_at hl 1 rfl) ?_
  refine va_get (D := D) (ci := 0) (v := .int u.2.2.2.2.2) (C := RX0) (T := TX0) (N := 6) hx hb hts hin0 hown hK hP 0 rfl rfl 5 (by decide) (hw w_f_X0_30) (fun _ h9 => h9) rfl dX0_settled_12 ?_
  refine lv_iand hx hb dX0_settled_15 ?_
  refine lv_if_eq (tgt := 23) hx hb dX0_settled_16 (by decide) (fun g1 => ?_) (fun g1 => ?_)
  · have ht := (if_pos g1).symm.trans ht
    refine lv_iconst (v := (0 : Int32)) hx hb dX0_settled_23 (by decide) ?_
    exact K24 _ _ _ u a2 a3 (a1 &&& u.2.2.2.2.1) (0 : Int32) hP hD hS (lv_sub hl [1, 3, 4, 0] rfl) ht
  · have ht := (if_neg g1).symm.trans ht
    refine lv_iconst (v := (1 : Int32)) hx hb dX0_settled_19 (by decide) ?_
    refine lv_goto (tgt := 24) hx hb dX0_settled_20 (by decide) ?_
    exact K24 _ _ _ u a2 a3 (a1 &&& u.2.2.2.2.1) (1 : Int32) hP hD hS (lv_sub hl [1, 3, 4, 0] rfl) ht
def fnW_packed_51 (u : sW) (y0 : Int32) (y1 : Int32) : Option (Int32 × sW) := some ((y1 ||| y0), u)
def fnW_packed_38 (u : sW) (y0 : Int32) (y1 : Int32) : Option (Int32 × sW) := if u.2.2.2.1 = 0 then (fnW_packed_51 u (0 : Int32) (y1 ||| y0)) else (fnW_packed_51 u (1 : Int32) (y1 ||| y0))
def fnW_packed_25 (u : sW) (y0 : Int32) (y1 : Int32) : Option (Int32 × sW) := if u.2.2.1 = 0 then (fnW_packed_38 u (0 : Int32) (y1 ||| y0)) else (fnW_packed_38 u (2 : Int32) (y1 ||| y0))
def fnW_packed_13 (u : sW) (y0 : Int32) : Option (Int32 × sW) := if u.2.1 = 0 then (fnW_packed_25 u (0 : Int32) y0) else (fnW_packed_25 u (4 : Int32) y0)
def fnW_packed (u : sW) : Option (Int32 × sW) := if u.1 = 0 then (fnW_packed_13 u (0 : Int32)) else (fnW_packed_13 u (8 : Int32))
set_option maxRecDepth 100000 in
set_option maxHeartbeats 4000000 in
theorem ctW_packed (l : Launch) (D : va_G) (kI : ClassId) (o : Nat) (sz : Nat) (u : sW) (tg : Int32 × sW) (ht : fnW_packed u  = some tg) : Met l yX0_packed (Cond.code yX0_packed cX0_packed 1 (some .int) :: wAll) ({ frames := 0, cells := 0, slots := 0, locals := 0 } : Room) (va_Pc [.ref o] (prG D kI (clW o) sz u)) (va_Qi (fun (x : Int32) (v : sW) => x = tg.1 ∧ v = tg.2) (poG D kI (clW o) (va_A (clW o u) sz)) (va_A (clW o u) sz)) 0 0 (va_A (clW o u) sz) := by
  refine mOfW (cc := cX0_packed) (maxL := 1) (ret := (some .int)) (by decide) rfl ?_
  intro p e s m args below meth c s₁ Q R hQ hR B hml hv
  obtain ⟨rfl, hsz, hP, hK, hD0⟩ := hv
  have hx := B.exec
  have hb := B.bytes
  have hr := B.returns
  have hts := atoms_spec (ws := Cond.code yX0_packed cX0_packed 1 (some .int) :: wAll) B.pre
  have hw : ∀ {w : Cond}, w ∈ wAll → w.before _ s = true := fun {w} h => hts w (List.mem_cons_of_mem _ h)
  have hown : s.vm.findClass RX0 = some m.cls := findClass_of_methodNamed B.named
  have hlocks := B.notSynchronized
  have hRf : 0 ≤ R.frames := by rw [hR]; exact Nat.le_refl _
  have hRl : 0 ≤ R.locals := by rw [hR]; exact Nat.le_refl _
  subst hsz
  have hD := hD0.self (sz := s.heap.size)
  generalize hAe : va_A (clW o u) s.heap.size = A at hD  hQ
  have hA : ∀ q : Nat, s.heap.size ≤ q → A q := fun q h => by rw [← hAe]; exact Or.inr h
  have hl := lv_entry ([.ref o]) (n := 1) (Nat.le_of_ble_eq_true rfl)
  rw [lg_entry_eq]
  generalize (lg_sl ([.ref o]) ++ List.replicate (1 - (lg_sl ([.ref o])).length) Slot.unset).toArray = ls at hl ⊢
  have hl : lv_has ls 1 [(0, .ref o)] := hl
  have hin0 : ∀ w ∈ u_ws RX0 TX0 6, w ∈ (Cond.code yX0_packed cX0_packed 1 (some .int) :: wAll) := fun w h => List.mem_cons_of_mem _ (w_flX0 w h)
  have K51 : ∀ (H : Heap) (locs : List Loc) (ls : Array Slot) (u : sW) (y0 : Int32) (y1 : Int32) , va_P D vwCl (clW o u) H → va_D A (clW o u) → va_S A s.heap H locs → lv_has ls 1 [] → fnW_packed_51 u y0 y1 = some tg → W p l e R s m ([.ref o] : List Value).toArray below meth c H locs 0 0 Q (F0 m 51 ls [.int y0, .int y1]) := by
    intro H locs ls u y0 y1 hP hD hS hl ht
    unfold fnW_packed_51 at ht
    refine lv_ior hx hb dX0_packed_51 ?_
    have e9 := Option.some.inj ht
    subst hQ
    exact W.iret (v := (y1 ||| y0)) hx hb hr (fun t ht9 hW => ⟨⟨(y1 ||| y0), u, rfl, ⟨congrArg Prod.fst e9, congrArg Prod.snd e9⟩, ⟨by rw [ht9]; exact hP, va_K.moved hW.alike hK, hD⟩⟩, hS.F ht9⟩) hS.2.2 dX0_packed_52
  have K38 : ∀ (H : Heap) (locs : List Loc) (ls : Array Slot) (u : sW) (y0 : Int32) (y1 : Int32) , va_P D vwCl (clW o u) H → va_D A (clW o u) → va_S A s.heap H locs → lv_has ls 1 [(0, .ref o)] → fnW_packed_38 u y0 y1 = some tg → W p l e R s m ([.ref o] : List Value).toArray below meth c H locs 0 0 Q (F0 m 38 ls [.int y0, .int y1]) := by
    intro H locs ls u y0 y1 hP hD hS hl ht
    unfold fnW_packed_38 at ht
    refine lv_ior hx hb dX0_packed_38 ?_
    refine lv_aload_n hx hb dX0_packed_39 rfl (lv_at hl 0 rfl) ?_
    refine va_get (D := D) (ci := 0) (v := .int u.2.2.2.1) (C := RX0) (T := TX0) (N := 6) hx hb hts hin0 hown hK hP 0 rfl rfl 3 (by decide) (hw w_f_X0_21) (fun _ h9 => h9) rfl dX0_packed_40 ?_
    refine lv_if_eq (tgt := 50) hx hb dX0_packed_43 (by decide) (fun g4 => ?_) (fun g4 => ?_)
    · have ht := (if_pos g4).symm.trans ht
      refine lv_iconst (v := (0 : Int32)) hx hb dX0_packed_50 (by decide) ?_
      exact K51 _ _ _ u (0 : Int32) (y1 ||| y0) hP hD hS (lv_sub hl [] rfl) ht
    · have ht := (if_neg g4).symm.trans ht
      refine lv_iconst (v := (1 : Int32)) hx hb dX0_packed_46 (by decide) ?_
      refine lv_goto (tgt := 51) hx hb dX0_packed_47 (by decide) ?_
      exact K51 _ _ _ u (1 : Int32) (y1 ||| y0) hP hD hS (lv_sub hl [] rfl) ht
  have K25 : ∀ (H : Heap) (locs : List Loc) (ls : Array Slot) (u : sW) (y0 : Int32) (y1 : Int32) , va_P D vwCl (clW o u) H → va_D A (clW o u) → va_S A s.heap H locs → lv_has ls 1 [(0, .ref o)] → fnW_packed_25 u y0 y1 = some tg → W p l e R s m ([.ref o] : List Value).toArray below meth c H locs 0 0 Q (F0 m 25 ls [.int y0, .int y1]) := by
    intro H locs ls u y0 y1 hP hD hS hl ht
    unfold fnW_packed_25 at ht
    refine lv_ior hx hb dX0_packed_25 ?_
    refine lv_aload_n hx hb dX0_packed_26 rfl (lv_at hl 0 rfl) ?_
    refine va_get (D := D) (ci := 0) (v := .int u.2.2.1) (C := RX0) (T := TX0) (N := 6) hx hb hts hin0 hown hK hP 0 rfl rfl 2 (by decide) (hw w_f_X0_18) (fun _ h9 => h9) rfl dX0_packed_27 ?_
    refine lv_if_eq (tgt := 37) hx hb dX0_packed_30 (by decide) (fun g3 => ?_) (fun g3 => ?_)
    · have ht := (if_pos g3).symm.trans ht
      refine lv_iconst (v := (0 : Int32)) hx hb dX0_packed_37 (by decide) ?_
      exact K38 _ _ _ u (0 : Int32) (y1 ||| y0) hP hD hS (lv_sub hl [0] rfl) ht
    · have ht := (if_neg g3).symm.trans ht
      refine lv_iconst (v := (2 : Int32)) hx hb dX0_packed_33 (by decide) ?_
      refine lv_goto (tgt := 38) hx hb dX0_packed_34 (by decide) ?_
      exact K38 _ _ _ u (2 : Int32) (y1 ||| y0) hP hD hS (lv_sub hl [0] rfl) ht
  have K13 : ∀ (H : Heap) (locs : List Loc) (ls : Array Slot) (u : sW) (y0 : Int32) , va_P D vwCl (clW o u) H → va_D A (clW o u) → va_S A s.heap H locs → lv_has ls 1 [(0, .ref o)] → fnW_packed_13 u y0 = some tg → W p l e R s m ([.ref o] : List Value).toArray below meth c H locs 0 0 Q (F0 m 13 ls [.int y0]) := by
    intro H locs ls u y0 hP hD hS hl ht
    unfold fnW_packed_13 at ht
    refine lv_aload_n hx hb dX0_packed_13 rfl (lv_at hl 0 rfl) ?_
    refine va_get (D := D) (ci := 0) (v := .int u.2.1) (C := RX0) (T := TX0) (N := 6) hx hb hts hin0 hown hK hP 0 rfl rfl 1 (by decide) (hw w_f_X0_15) (fun _ h9 => h9) rfl dX0_packed_14 ?_
    refine lv_if_eq (tgt := 24) hx hb dX0_packed_17 (by decide) (fun g2 => ?_) (fun g2 => ?_)
    · have ht := (if_pos g2).symm.trans ht
      refine lv_iconst (v := (0 : Int32)) hx hb dX0_packed_24 (by decide) ?_
      exact K25 _ _ _ u (0 : Int32) y0 hP hD hS (lv_sub hl [0] rfl) ht
    · have ht := (if_neg g2).symm.trans ht
      refine lv_iconst (v := (4 : Int32)) hx hb dX0_packed_20 (by decide) ?_
      refine lv_goto (tgt := 25) hx hb dX0_packed_21 (by decide) ?_
      exact K25 _ _ _ u (4 : Int32) y0 hP hD hS (lv_sub hl [0] rfl) ht
  unfold fnW_packed at ht
  obtain ⟨H, hHe⟩ : ∃ H : Heap, H = s.heap := ⟨_, rfl⟩
  have hP : va_P D vwCl (clW o u) H := by rw [hHe]; exact hP
  have hS : va_S A s.heap H [] := by rw [hHe]; exact va_S.rf
  rw [← hHe]
  refine lv_aload_n hx hb dX0_packed_0 rfl (lv_at hl 0 rfl) ?_
  refine va_get (D := D) (ci := 0) (v := .int u.1) (C := RX0) (T := TX0) (N := 6) hx hb hts hin0 hown hK hP 0 rfl rfl 0 (by decide) (hw w_f_X0_9) (fun _ h9 => h9) rfl dX0_packed_1 ?_
  refine lv_if_eq (tgt := 12) hx hb dX0_packed_4 (by decide) (fun g1 => ?_) (fun g1 => ?_)
  · have ht := (if_pos g1).symm.trans ht
    refine lv_iconst (v := (0 : Int32)) hx hb dX0_packed_12 (by decide) ?_
    exact K13 _ _ _ u (0 : Int32) hP hD hS (lv_sub hl [0] rfl) ht
  · have ht := (if_neg g1).symm.trans ht
    refine lv_bipush (v := (8 : Int32)) hx hb dX0_packed_7 (by decide) ?_
    refine lv_goto (tgt := 13) hx hb dX0_packed_9 (by decide) ?_
    exact K13 _ _ _ u (8 : Int32) hP hD hS (lv_sub hl [0] rfl) ht
def fnW_logical (u : sW) (a1 : Int32) : Option (Int32 × sW) := (fnW_settled u a1 (0 : Int32) u.2.2.2.1).bind (fun r1 => some (r1.1, r1.2))
set_option maxRecDepth 100000 in
set_option maxHeartbeats 4000000 in
theorem ctW_logical (l : Launch) (D : va_G) (kI : ClassId) (o : Nat) (sz : Nat) (u : sW) (a1 : Int32) (tg : Int32 × sW) (ht : fnW_logical u a1 = some tg) : Met l yX0_logical (Cond.code yX0_logical cX0_logical 2 (some .int) :: wAll) ({ frames := 1, cells := 0, slots := 0, locals := 24 } : Room) (va_Pc [.ref o, .int a1] (prG D kI (clW o) sz u)) (va_Qi (fun (x : Int32) (v : sW) => x = tg.1 ∧ v = tg.2) (poG D kI (clW o) (va_A (clW o u) sz)) (va_A (clW o u) sz)) 0 0 (va_A (clW o u) sz) := by
  refine mOfW (cc := cX0_logical) (maxL := 2) (ret := (some .int)) (by decide) rfl ?_
  intro p e s m args below meth c s₁ Q R hQ hR B hml hv
  obtain ⟨rfl, hsz, hP, hK, hD0⟩ := hv
  have hx := B.exec
  have hb := B.bytes
  have hr := B.returns
  have hts := atoms_spec (ws := Cond.code yX0_logical cX0_logical 2 (some .int) :: wAll) B.pre
  have hw : ∀ {w : Cond}, w ∈ wAll → w.before _ s = true := fun {w} h => hts w (List.mem_cons_of_mem _ h)
  have hown : s.vm.findClass RX0 = some m.cls := findClass_of_methodNamed B.named
  have hlocks := B.notSynchronized
  have hRf : 1 ≤ R.frames := by rw [hR]; exact Nat.le_refl _
  have hRl : 24 ≤ R.locals := by rw [hR]; exact Nat.le_refl _
  subst hsz
  have hD := hD0.self (sz := s.heap.size)
  generalize hAe : va_A (clW o u) s.heap.size = A at hD  hQ
  have hA : ∀ q : Nat, s.heap.size ≤ q → A q := fun q h => by rw [← hAe]; exact Or.inr h
  have hl := lv_entry ([.ref o, .int a1]) (n := 2) (Nat.le_of_ble_eq_true rfl)
  rw [lg_entry_eq]
  generalize (lg_sl ([.ref o, .int a1]) ++ List.replicate (2 - (lg_sl ([.ref o, .int a1])).length) Slot.unset).toArray = ls at hl ⊢
  have hl : lv_has ls 2 [(0, .ref o), (1, .int a1)] := hl
  have hin0 : ∀ w ∈ u_ws RX0 TX0 6, w ∈ (Cond.code yX0_logical cX0_logical 2 (some .int) :: wAll) := fun w h => List.mem_cons_of_mem _ (w_flX0 w h)
  unfold fnW_logical at ht
  obtain ⟨H, hHe⟩ : ∃ H : Heap, H = s.heap := ⟨_, rfl⟩
  have hP : va_P D vwCl (clW o u) H := by rw [hHe]; exact hP
  have hS : va_S A s.heap H [] := by rw [hHe]; exact va_S.rf
  rw [← hHe]
  refine lv_aload_n hx hb dX0_logical_0 rfl (lv_at hl 0 rfl) ?_
  refine lv_iload_n hx hb dX0_logical_1 rfl (lv_at hl 1 rfl) ?_
  refine lv_iconst (v := (0 : Int32)) hx hb dX0_logical_2 (by decide) ?_
  refine lv_aload_n hx hb dX0_logical_3 rfl (lv_at hl 0 rfl) ?_
  refine va_get (D := D) (ci := 0) (v := .int u.2.2.2.1) (C := RX0) (T := TX0) (N := 6) hx hb hts hin0 hown hK hP 0 rfl rfl 3 (by decide) (hw w_f_X0_21) (fun _ h9 => h9) rfl dX0_logical_4 ?_
  obtain ⟨r1, h2, ht⟩ := ob_some ht
  refine kG_i (cl := clW o) (u := u) (va_runV (As := [.int a1, .int (0 : Int32), .int u.2.2.2.1]) (rest := []) ⟨hx, hb, hml, hown, hts⟩ (ctW_settled l D kI o H.size u a1 (0 : Int32) u.2.2.2.1 r1 h2) (cwV 3 hts (gV w_m_X0_44 w_im_yX0_settled w_sel_yX0_settled w_init_MicroMill_Work w_co_yX0_settled) rfl rfl rfl (by decide +kernel) ⟨Nat.le_trans (Nat.le_of_ble_eq_true rfl) hRf, Nat.le_trans (Nat.le_of_ble_eq_true rfl) hRl⟩) (preG (cl := clW o) (u := u) (N := 6) (ci := 0) hK hP (hD.weaken (fun _ _ _ _ => trivial)) rfl rfl _) rfl rfl hl.1 rfl (lv_room (Nat.le_of_ble_eq_true rfl)) dX0_logical_7 ⟨Nat.zero_le _, Nat.zero_le _⟩) hD hS hA (fun H locs hP hD hS => ?_)
  have e9 := Option.some.inj ht
  subst hQ
  exact W.iret (v := r1.1) hx hb hr (fun t ht9 hW => ⟨⟨r1.1, r1.2, rfl, ⟨congrArg Prod.fst e9, congrArg Prod.snd e9⟩, ⟨by rw [ht9]; exact hP, va_K.moved hW.alike hK, hD⟩⟩, hS.F ht9⟩) hS.2.2 dX0_logical_10
def fnA_shiftOf (a1 : Int32) : Option (Int32 × Unit) := some (((a1 &&& (1 : Int32)) * (8 : Int32)), ())
set_option maxRecDepth 100000 in
set_option maxHeartbeats 4000000 in
theorem ctA_shiftOf (l : Launch) (sz : Nat) (a1 : Int32) (tg : Int32 × Unit) (ht : fnA_shiftOf a1 = some tg) : Met l yX1_shiftOf (Cond.code yX1_shiftOf cX1_shiftOf 1 (some .int) :: wAll) ({ frames := 0, cells := 0, slots := 0, locals := 0 } : Room) (va_Pc [.int a1] (prS sz)) (va_Qi (fun (x : Int32) (v : Unit) => x = tg.1 ∧ v = tg.2) poS (va_A [] sz)) 0 0 (va_A [] sz) := by
  refine mOfW (cc := cX1_shiftOf) (maxL := 1) (ret := (some .int)) (by decide) rfl ?_
  intro p e s m args below meth c s₁ Q R hQ hR B hml hv
  obtain ⟨rfl, hsz⟩ := hv
  have hx := B.exec
  have hb := B.bytes
  have hr := B.returns
  have hts := atoms_spec (ws := Cond.code yX1_shiftOf cX1_shiftOf 1 (some .int) :: wAll) B.pre
  have hw : ∀ {w : Cond}, w ∈ wAll → w.before _ s = true := fun {w} h => hts w (List.mem_cons_of_mem _ h)
  have hown : s.vm.findClass RX1 = some m.cls := findClass_of_methodNamed B.named
  have hlocks := B.notSynchronized
  have hRf : 0 ≤ R.frames := by rw [hR]; exact Nat.le_refl _
  have hRl : 0 ≤ R.locals := by rw [hR]; exact Nat.le_refl _
  unfold prS at hsz
  subst hsz
  generalize hAe : va_A [] s.heap.size = A at hQ
  have hA : ∀ q : Nat, s.heap.size ≤ q → A q := fun q h => by rw [← hAe]; exact Or.inr h
  have hl := lv_entry ([.int a1]) (n := 1) (Nat.le_of_ble_eq_true rfl)
  rw [lg_entry_eq]
  generalize (lg_sl ([.int a1]) ++ List.replicate (1 - (lg_sl ([.int a1])).length) Slot.unset).toArray = ls at hl ⊢
  have hl : lv_has ls 1 [(0, .int a1)] := hl
  unfold fnA_shiftOf at ht
  obtain ⟨H, hHe⟩ : ∃ H : Heap, H = s.heap := ⟨_, rfl⟩
  have hS : va_S A s.heap H [] := by rw [hHe]; exact va_S.rf
  rw [← hHe]
  refine lv_iload_n hx hb dX1_shiftOf_0 rfl (lv_at hl 0 rfl) ?_
  refine lv_iconst (v := (1 : Int32)) hx hb dX1_shiftOf_1 (by decide) ?_
  refine lv_iand hx hb dX1_shiftOf_2 ?_
  refine lv_bipush (v := (8 : Int32)) hx hb dX1_shiftOf_3 (by decide) ?_
  refine lv_imul hx hb dX1_shiftOf_5 ?_
  have e9 := Option.some.inj ht
  subst hQ
  exact W.iret (v := ((a1 &&& (1 : Int32)) * (8 : Int32))) hx hb hr (fun t ht9 hW => ⟨⟨((a1 &&& (1 : Int32)) * (8 : Int32)), (), rfl, ⟨congrArg Prod.fst e9, congrArg Prod.snd e9⟩, trivial⟩, hS.F ht9⟩) hS.2.2 dX1_shiftOf_6
def fnA_readWord (u : sA) (a1 : Int32) : Option (Int32 × sA) := if (a1 &&& (1 : Int32)) = 0 then (if a1 < (4096 : Int32) then (if ixk (a1 >>> ((1 : Int32) &&& 31)) 2048 then (some ((u.1 (a1 >>> ((1 : Int32) &&& 31)).toNatClampNeg), u)) else none) else (some ((-1 : Int32), (u.1, u.2.1, (4 : Int32), u.2.2.2.1, u.2.2.2.2.1, u.2.2.2.2.2.1, u.2.2.2.2.2.2)))) else (some ((-1 : Int32), (u.1, u.2.1, (3 : Int32), u.2.2.2.1, u.2.2.2.2.1, u.2.2.2.2.2.1, u.2.2.2.2.2.2)))
set_option maxRecDepth 100000 in
set_option maxHeartbeats 4000000 in
theorem ctA_readWord (l : Launch) (D : va_G) (kI : ClassId) (tb : Nat) (o aw ar ak : Nat) (sz : Nat) (u : sA) (a1 : Int32) (tg : Int32 × sA) (ht : fnA_readWord u a1 = some tg) : Met l yX1_readWord (Cond.code yX1_readWord cX1_readWord 2 (some .int) :: wAll) ({ frames := 0, cells := 0, slots := 0, locals := 0 } : Room) (va_Pc [.ref o, .int a1] (prA D kI tb o aw ar ak sz u)) (va_Qi (fun (x : Int32) (v : sA) => x = tg.1 ∧ v = tg.2) (poG D kI (clA o aw ar ak kI) (va_A (clA o aw ar ak kI u) sz)) (va_A (clA o aw ar ak kI u) sz)) 0 0 (va_A (clA o aw ar ak kI u) sz) := by
  refine mOfW (cc := cX1_readWord) (maxL := 2) (ret := (some .int)) (by decide) rfl ?_
  intro p e s m args below meth c s₁ Q R hQ hR B hml hv
  obtain ⟨rfl, hsz, hP, hK, hD0, hZ⟩ := hv
  have hx := B.exec
  have hb := B.bytes
  have hr := B.returns
  have hts := atoms_spec (ws := Cond.code yX1_readWord cX1_readWord 2 (some .int) :: wAll) B.pre
  have hw : ∀ {w : Cond}, w ∈ wAll → w.before _ s = true := fun {w} h => hts w (List.mem_cons_of_mem _ h)
  have hown : s.vm.findClass RX1 = some m.cls := findClass_of_methodNamed B.named
  have hlocks := B.notSynchronized
  have hRf : 0 ≤ R.frames := by rw [hR]; exact Nat.le_refl _
  have hRl : 0 ≤ R.locals := by rw [hR]; exact Nat.le_refl _
  subst hsz
  have hD := hD0.self (sz := s.heap.size)
  generalize hAe : va_A (clA o aw ar ak kI u) s.heap.size = A at hD hZ hQ
  have hA : ∀ q : Nat, s.heap.size ≤ q → A q := fun q h => by rw [← hAe]; exact Or.inr h
  have hl := lv_entry ([.ref o, .int a1]) (n := 2) (Nat.le_of_ble_eq_true rfl)
  rw [lg_entry_eq]
  generalize (lg_sl ([.ref o, .int a1]) ++ List.replicate (2 - (lg_sl ([.ref o, .int a1])).length) Slot.unset).toArray = ls at hl ⊢
  have hl : lv_has ls 2 [(0, .ref o), (1, .int a1)] := hl
  have hin0 : ∀ w ∈ u_ws RX1 TX1 7, w ∈ (Cond.code yX1_readWord cX1_readWord 2 (some .int) :: wAll) := fun w h => List.mem_cons_of_mem _ (w_flX1 w h)
  unfold fnA_readWord at ht
  obtain ⟨H, hHe⟩ : ∃ H : Heap, H = s.heap := ⟨_, rfl⟩
  have hP : va_P D vwCl (clA o aw ar ak kI u) H := by rw [hHe]; exact hP
  have hS : va_S A s.heap H [] := by rw [hHe]; exact va_S.rf
  rw [← hHe]
  refine lv_iload_n hx hb dX1_readWord_0 rfl (lv_at hl 1 rfl) ?_
  refine lv_iconst (v := (1 : Int32)) hx hb dX1_readWord_1 (by decide) ?_
  refine lv_iand hx hb dX1_readWord_2 ?_
  refine lv_if_eq (tgt := 13) hx hb dX1_readWord_3 (by decide) (fun g1 => ?_) (fun g1 => ?_)
  · have ht := (if_pos g1).symm.trans ht
    refine lv_iload_n hx hb dX1_readWord_13 rfl (lv_at hl 1 rfl) ?_
    refine lv_sipush (v := (4096 : Int32)) hx hb dX1_readWord_14 (by decide) ?_
    refine lv_icmp_lt (tgt := 27) hx hb dX1_readWord_17 (by decide) (fun g2 => ?_) (fun g2 => ?_)
    · have ht := (if_pos g2).symm.trans ht
      refine lv_aload_n hx hb dX1_readWord_27 rfl (lv_at hl 0 rfl) ?_
      refine va_get (D := D) (ci := 1) (v := .ref aw) (C := RX1) (T := TX1) (N := 7) hx hb hts hin0 hown hK hP 0 rfl rfl 0 (by decide) (hw w_f_X1_9) (fun _ h9 => h9) rfl dX1_readWord_28 ?_
      refine lv_iload_n hx hb dX1_readWord_31 rfl (lv_at hl 1 rfl) ?_
      refine lv_iconst (v := (1 : Int32)) hx hb dX1_readWord_32 (by decide) ?_
      refine lv_ishr hx hb dX1_readWord_33 ?_
      obtain ⟨b3, ht⟩ := oi_some ht
      refine va_iald hx hb hK hP 1 0 rfl rfl (ixk_in b3) dX1_readWord_34 ?_
      have e9 := Option.some.inj ht
      subst hQ
      exact W.iret (v := (u.1 (a1 >>> ((1 : Int32) &&& 31)).toNatClampNeg)) hx hb hr (fun t ht9 hW => ⟨⟨(u.1 (a1 >>> ((1 : Int32) &&& 31)).toNatClampNeg), u, rfl, ⟨congrArg Prod.fst e9, congrArg Prod.snd e9⟩, ⟨by rw [ht9]; exact hP, va_K.moved hW.alike hK, hD⟩⟩, hS.F ht9⟩) hS.2.2 dX1_readWord_35
    · have ht := (if_neg g2).symm.trans ht
      refine lv_aload_n hx hb dX1_readWord_20 rfl (lv_at hl 0 rfl) ?_
      refine lv_iconst (v := (4 : Int32)) hx hb dX1_readWord_21 (by decide) ?_
      refine va_put (D := D) (ci := 1) (v := .int (4 : Int32)) (ty := .int) (C := RX1) (T := TX1) (N := 7) hx hb hts hin0 tyX1 tyX1_ok nmX1 hown hK hP hD hS 0 rfl rfl 3 (by decide) (hw w_f_X1_23) (fun _ h9 => h9) rfl (by decide +kernel) rfl rfl (Nat.le_of_ble_eq_true rfl) dX1_readWord_22 (fun H locs hP hD hS => ?_)
      have hP : va_P D vwCl (clA o aw ar ak kI (u.1, u.2.1, (4 : Int32), u.2.2.2.1, u.2.2.2.2.1, u.2.2.2.2.2.1, u.2.2.2.2.2.2)) H := hP
      have hD : va_D A (clA o aw ar ak kI (u.1, u.2.1, (4 : Int32), u.2.2.2.1, u.2.2.2.2.1, u.2.2.2.2.2.1, u.2.2.2.2.2.2)) := hD
      refine lv_iconst (v := (-1 : Int32)) hx hb dX1_readWord_25 (by decide) ?_
      have e9 := Option.some.inj ht
      subst hQ
      exact W.iret (v := (-1 : Int32)) hx hb hr (fun t ht9 hW => ⟨⟨(-1 : Int32), (u.1, u.2.1, (4 : Int32), u.2.2.2.1, u.2.2.2.2.1, u.2.2.2.2.2.1, u.2.2.2.2.2.2), rfl, ⟨congrArg Prod.fst e9, congrArg Prod.snd e9⟩, ⟨by rw [ht9]; exact hP, va_K.moved hW.alike hK, hD⟩⟩, hS.F ht9⟩) hS.2.2 dX1_readWord_26
  · have ht := (if_neg g1).symm.trans ht
    refine lv_aload_n hx hb dX1_readWord_6 rfl (lv_at hl 0 rfl) ?_
    refine lv_iconst (v := (3 : Int32)) hx hb dX1_readWord_7 (by decide) ?_
    refine va_put (D := D) (ci := 1) (v := .int (3 : Int32)) (ty := .int) (C := RX1) (T := TX1) (N := 7) hx hb hts hin0 tyX1 tyX1_ok nmX1 hown hK hP hD hS 0 rfl rfl 3 (by decide) (hw w_f_X1_23) (fun _ h9 => h9) rfl (by decide +kernel) rfl rfl (Nat.le_of_ble_eq_true rfl) dX1_readWord_8 (fun H locs hP hD hS => ?_)
    have hP : va_P D vwCl (clA o aw ar ak kI (u.1, u.2.1, (3 : Int32), u.2.2.2.1, u.2.2.2.2.1, u.2.2.2.2.2.1, u.2.2.2.2.2.2)) H := hP
    have hD : va_D A (clA o aw ar ak kI (u.1, u.2.1, (3 : Int32), u.2.2.2.1, u.2.2.2.2.1, u.2.2.2.2.2.1, u.2.2.2.2.2.2)) := hD
    refine lv_iconst (v := (-1 : Int32)) hx hb dX1_readWord_11 (by decide) ?_
    have e9 := Option.some.inj ht
    subst hQ
    exact W.iret (v := (-1 : Int32)) hx hb hr (fun t ht9 hW => ⟨⟨(-1 : Int32), (u.1, u.2.1, (3 : Int32), u.2.2.2.1, u.2.2.2.2.1, u.2.2.2.2.2.1, u.2.2.2.2.2.2), rfl, ⟨congrArg Prod.fst e9, congrArg Prod.snd e9⟩, ⟨by rw [ht9]; exact hP, va_K.moved hW.alike hK, hD⟩⟩, hS.F ht9⟩) hS.2.2 dX1_readWord_12
def fnA_readByte (u : sA) (a1 : Int32) : Option (Int32 × sA) := if a1 < (4096 : Int32) then (if ixk (a1 >>> ((1 : Int32) &&& 31)) 2048 then ((fnA_shiftOf a1).bind (fun r3 => some ((((u.1 (a1 >>> ((1 : Int32) &&& 31)).toNatClampNeg) >>> (r3.1 &&& 31)) &&& (255 : Int32)), u))) else none) else (some ((-1 : Int32), (u.1, u.2.1, (4 : Int32), u.2.2.2.1, u.2.2.2.2.1, u.2.2.2.2.2.1, u.2.2.2.2.2.2)))
set_option maxRecDepth 100000 in
set_option maxHeartbeats 4000000 in
theorem ctA_readByte (l : Launch) (D : va_G) (kI : ClassId) (tb : Nat) (o aw ar ak : Nat) (sz : Nat) (u : sA) (a1 : Int32) (tg : Int32 × sA) (ht : fnA_readByte u a1 = some tg) : Met l yX1_readByte (Cond.code yX1_readByte cX1_readByte 2 (some .int) :: wAll) ({ frames := 1, cells := 0, slots := 0, locals := 20 } : Room) (va_Pc [.ref o, .int a1] (prA D kI tb o aw ar ak sz u)) (va_Qi (fun (x : Int32) (v : sA) => x = tg.1 ∧ v = tg.2) (poG D kI (clA o aw ar ak kI) (va_A (clA o aw ar ak kI u) sz)) (va_A (clA o aw ar ak kI u) sz)) 0 0 (va_A (clA o aw ar ak kI u) sz) := by
  refine mOfW (cc := cX1_readByte) (maxL := 2) (ret := (some .int)) (by decide) rfl ?_
  intro p e s m args below meth c s₁ Q R hQ hR B hml hv
  obtain ⟨rfl, hsz, hP, hK, hD0, hZ⟩ := hv
  have hx := B.exec
  have hb := B.bytes
  have hr := B.returns
  have hts := atoms_spec (ws := Cond.code yX1_readByte cX1_readByte 2 (some .int) :: wAll) B.pre
  have hw : ∀ {w : Cond}, w ∈ wAll → w.before _ s = true := fun {w} h => hts w (List.mem_cons_of_mem _ h)
  have hown : s.vm.findClass RX1 = some m.cls := findClass_of_methodNamed B.named
  have hlocks := B.notSynchronized
  have hRf : 1 ≤ R.frames := by rw [hR]; exact Nat.le_refl _
  have hRl : 20 ≤ R.locals := by rw [hR]; exact Nat.le_refl _
  subst hsz
  have hD := hD0.self (sz := s.heap.size)
  generalize hAe : va_A (clA o aw ar ak kI u) s.heap.size = A at hD hZ hQ
  have hA : ∀ q : Nat, s.heap.size ≤ q → A q := fun q h => by rw [← hAe]; exact Or.inr h
  have hl := lv_entry ([.ref o, .int a1]) (n := 2) (Nat.le_of_ble_eq_true rfl)
  rw [lg_entry_eq]
  generalize (lg_sl ([.ref o, .int a1]) ++ List.replicate (2 - (lg_sl ([.ref o, .int a1])).length) Slot.unset).toArray = ls at hl ⊢
  have hl : lv_has ls 2 [(0, .ref o), (1, .int a1)] := hl
  have hin0 : ∀ w ∈ u_ws RX1 TX1 7, w ∈ (Cond.code yX1_readByte cX1_readByte 2 (some .int) :: wAll) := fun w h => List.mem_cons_of_mem _ (w_flX1 w h)
  unfold fnA_readByte at ht
  obtain ⟨H, hHe⟩ : ∃ H : Heap, H = s.heap := ⟨_, rfl⟩
  have hP : va_P D vwCl (clA o aw ar ak kI u) H := by rw [hHe]; exact hP
  have hS : va_S A s.heap H [] := by rw [hHe]; exact va_S.rf
  rw [← hHe]
  refine lv_iload_n hx hb dX1_readByte_0 rfl (lv_at hl 1 rfl) ?_
  refine lv_sipush (v := (4096 : Int32)) hx hb dX1_readByte_1 (by decide) ?_
  refine lv_icmp_lt (tgt := 14) hx hb dX1_readByte_4 (by decide) (fun g1 => ?_) (fun g1 => ?_)
  · have ht := (if_pos g1).symm.trans ht
    refine lv_aload_n hx hb dX1_readByte_14 rfl (lv_at hl 0 rfl) ?_
    refine va_get (D := D) (ci := 1) (v := .ref aw) (C := RX1) (T := TX1) (N := 7) hx hb hts hin0 hown hK hP 0 rfl rfl 0 (by decide) (hw w_f_X1_9) (fun _ h9 => h9) rfl dX1_readByte_15 ?_
    refine lv_iload_n hx hb dX1_readByte_18 rfl (lv_at hl 1 rfl) ?_
    refine lv_iconst (v := (1 : Int32)) hx hb dX1_readByte_19 (by decide) ?_
    refine lv_ishr hx hb dX1_readByte_20 ?_
    obtain ⟨b2, ht⟩ := oi_some ht
    refine va_iald hx hb hK hP 1 0 rfl rfl (ixk_in b2) dX1_readByte_21 ?_
    refine lv_iload_n hx hb dX1_readByte_22 rfl (lv_at hl 1 rfl) ?_
    obtain ⟨r3, h4, ht⟩ := ob_some ht
    refine kS_i (va_runS (As := [.int a1]) (rest := [.int (u.1 (a1 >>> ((1 : Int32) &&& 31)).toNatClampNeg)]) ⟨hx, hb, hml, hown, hts⟩ (ctA_shiftOf l H.size a1 r3 h4) (cwS 1 hts (gS w_m_X1_152 w_sm_yX1_shiftOf w_init_MicroMill w_co_yX1_shiftOf) rfl rfl rfl (by decide +kernel) ⟨Nat.le_trans (Nat.le_of_ble_eq_true rfl) hRf, Nat.le_trans (Nat.le_of_ble_eq_true rfl) hRl⟩) (preSt _) rfl rfl hl.1 rfl (lv_room (Nat.le_of_ble_eq_true rfl)) dX1_readByte_23 ⟨Nat.zero_le _, Nat.zero_le _⟩) hP hS hA (fun H locs hP hS => ?_)
    refine lv_ishr hx hb dX1_readByte_26 ?_
    refine lv_sipush (v := (255 : Int32)) hx hb dX1_readByte_27 (by decide) ?_
    refine lv_iand hx hb dX1_readByte_30 ?_
    have e9 := Option.some.inj ht
    subst hQ
    exact W.iret (v := (((u.1 (a1 >>> ((1 : Int32) &&& 31)).toNatClampNeg) >>> (r3.1 &&& 31)) &&& (255 : Int32))) hx hb hr (fun t ht9 hW => ⟨⟨(((u.1 (a1 >>> ((1 : Int32) &&& 31)).toNatClampNeg) >>> (r3.1 &&& 31)) &&& (255 : Int32)), u, rfl, ⟨congrArg Prod.fst e9, congrArg Prod.snd e9⟩, ⟨by rw [ht9]; exact hP, va_K.moved hW.alike hK, hD⟩⟩, hS.F ht9⟩) hS.2.2 dX1_readByte_31
  · have ht := (if_neg g1).symm.trans ht
    refine lv_aload_n hx hb dX1_readByte_7 rfl (lv_at hl 0 rfl) ?_
    refine lv_iconst (v := (4 : Int32)) hx hb dX1_readByte_8 (by decide) ?_
    refine va_put (D := D) (ci := 1) (v := .int (4 : Int32)) (ty := .int) (C := RX1) (T := TX1) (N := 7) hx hb hts hin0 tyX1 tyX1_ok nmX1 hown hK hP hD hS 0 rfl rfl 3 (by decide) (hw w_f_X1_23) (fun _ h9 => h9) rfl (by decide +kernel) rfl rfl (Nat.le_of_ble_eq_true rfl) dX1_readByte_9 (fun H locs hP hD hS => ?_)
    have hP : va_P D vwCl (clA o aw ar ak kI (u.1, u.2.1, (4 : Int32), u.2.2.2.1, u.2.2.2.2.1, u.2.2.2.2.2.1, u.2.2.2.2.2.2)) H := hP
    have hD : va_D A (clA o aw ar ak kI (u.1, u.2.1, (4 : Int32), u.2.2.2.1, u.2.2.2.2.1, u.2.2.2.2.2.1, u.2.2.2.2.2.2)) := hD
    refine lv_iconst (v := (-1 : Int32)) hx hb dX1_readByte_12 (by decide) ?_
    have e9 := Option.some.inj ht
    subst hQ
    exact W.iret (v := (-1 : Int32)) hx hb hr (fun t ht9 hW => ⟨⟨(-1 : Int32), (u.1, u.2.1, (4 : Int32), u.2.2.2.1, u.2.2.2.2.1, u.2.2.2.2.2.1, u.2.2.2.2.2.2), rfl, ⟨congrArg Prod.fst e9, congrArg Prod.snd e9⟩, ⟨by rw [ht9]; exact hP, va_K.moved hW.alike hK, hD⟩⟩, hS.F ht9⟩) hS.2.2 dX1_readByte_13
def fnA_flags (u : sA) : Option (Int32 × sA) := (fnW_packed u.2.2.2.2.2.2).bind (fun r1 => some (r1.1, (u.1, u.2.1, u.2.2.1, u.2.2.2.1, u.2.2.2.2.1, u.2.2.2.2.2.1, r1.2)))
set_option maxRecDepth 100000 in
set_option maxHeartbeats 4000000 in
theorem ctA_flags (l : Launch) (D : va_G) (kI : ClassId) (tb : Nat) (o aw ar ak : Nat) (sz : Nat) (u : sA) (tg : Int32 × sA) (ht : fnA_flags u  = some tg) : Met l yX1_flags (Cond.code yX1_flags cX1_flags 1 (some .int) :: wAll) ({ frames := 1, cells := 0, slots := 0, locals := 20 } : Room) (va_Pc [.ref o] (prA D kI tb o aw ar ak sz u)) (va_Qi (fun (x : Int32) (v : sA) => x = tg.1 ∧ v = tg.2) (poG D kI (clA o aw ar ak kI) (va_A (clA o aw ar ak kI u) sz)) (va_A (clA o aw ar ak kI u) sz)) 0 0 (va_A (clA o aw ar ak kI u) sz) := by
  refine mOfW (cc := cX1_flags) (maxL := 1) (ret := (some .int)) (by decide) rfl ?_
  intro p e s m args below meth c s₁ Q R hQ hR B hml hv
  obtain ⟨rfl, hsz, hP, hK, hD0, hZ⟩ := hv
  have hx := B.exec
  have hb := B.bytes
  have hr := B.returns
  have hts := atoms_spec (ws := Cond.code yX1_flags cX1_flags 1 (some .int) :: wAll) B.pre
  have hw : ∀ {w : Cond}, w ∈ wAll → w.before _ s = true := fun {w} h => hts w (List.mem_cons_of_mem _ h)
  have hown : s.vm.findClass RX1 = some m.cls := findClass_of_methodNamed B.named
  have hlocks := B.notSynchronized
  have hRf : 1 ≤ R.frames := by rw [hR]; exact Nat.le_refl _
  have hRl : 20 ≤ R.locals := by rw [hR]; exact Nat.le_refl _
  subst hsz
  have hD := hD0.self (sz := s.heap.size)
  generalize hAe : va_A (clA o aw ar ak kI u) s.heap.size = A at hD hZ hQ
  have hA : ∀ q : Nat, s.heap.size ≤ q → A q := fun q h => by rw [← hAe]; exact Or.inr h
  have hl := lv_entry ([.ref o]) (n := 1) (Nat.le_of_ble_eq_true rfl)
  rw [lg_entry_eq]
  generalize (lg_sl ([.ref o]) ++ List.replicate (1 - (lg_sl ([.ref o])).length) Slot.unset).toArray = ls at hl ⊢
  have hl : lv_has ls 1 [(0, .ref o)] := hl
  have hin0 : ∀ w ∈ u_ws RX1 TX1 7, w ∈ (Cond.code yX1_flags cX1_flags 1 (some .int) :: wAll) := fun w h => List.mem_cons_of_mem _ (w_flX1 w h)
  have hn45 : va_Nw (.methodLinkNest RX1 45 yX0_packed "MicroMill") s := hZ.2.2 _ (by decide +kernel)
  unfold fnA_flags at ht
  obtain ⟨H, hHe⟩ : ∃ H : Heap, H = s.heap := ⟨_, rfl⟩
  have hP : va_P D vwCl (clA o aw ar ak kI u) H := by rw [hHe]; exact hP
  have hS : va_S A s.heap H [] := by rw [hHe]; exact va_S.rf
  rw [← hHe]
  refine lv_aload_n hx hb dX1_flags_0 rfl (lv_at hl 0 rfl) ?_
  refine va_get (D := D) (ci := 1) (v := .ref ak) (C := RX1) (T := TX1) (N := 7) hx hb hts hin0 hown hK hP 0 rfl rfl 2 (by decide) (hw w_f_X1_19) (fun _ h9 => h9) rfl dX1_flags_1 ?_
  obtain ⟨r1, h2, ht⟩ := ob_some ht
  refine kW_i (u := u) (va_runVN (As := []) (rest := []) ⟨hx, hb, hml, hown, hts⟩ (ctW_packed l D kI ak H.size u.2.2.2.2.2.2  r1 h2) ⟨va_cnB 0 hts (gC w_co_yX0_packed) rfl rfl rfl hn45 (hw w_init_MicroMill_Work) (by decide +kernel) ⟨Nat.le_trans (Nat.le_of_ble_eq_true rfl) hRf, Nat.le_trans (Nat.le_of_ble_eq_true rfl) hRl⟩, hw w_im_yX0_packed, hw w_sel_yX0_packed⟩ (preG (cl := clW ak) (u := u.2.2.2.2.2.2) (N := 6) (ci := 0) hK (hP.sub (ws' := clW ak u.2.2.2.2.2.2) [3] rfl) ((hD.sub (ws' := clW ak u.2.2.2.2.2.2) [3] (by decide) rfl).weaken (fun _ _ _ _ => trivial)) rfl rfl _) rfl rfl hl.1 rfl (lv_room (Nat.le_of_ble_eq_true rfl)) dX1_flags_4 ⟨Nat.zero_le _, Nat.zero_le _⟩) hP hD hS hA (fun H locs hP hD hS => ?_)
  have hP : va_P D vwCl (clA o aw ar ak kI (u.1, u.2.1, u.2.2.1, u.2.2.2.1, u.2.2.2.2.1, u.2.2.2.2.2.1, r1.2)) H := hP
  have hD : va_D A (clA o aw ar ak kI (u.1, u.2.1, u.2.2.1, u.2.2.2.1, u.2.2.2.2.1, u.2.2.2.2.2.1, r1.2)) := hD
  have e9 := Option.some.inj ht
  subst hQ
  exact W.iret (v := r1.1) hx hb hr (fun t ht9 hW => ⟨⟨r1.1, (u.1, u.2.1, u.2.2.1, u.2.2.2.1, u.2.2.2.2.1, u.2.2.2.2.2.1, r1.2), rfl, ⟨congrArg Prod.fst e9, congrArg Prod.snd e9⟩, ⟨by rw [ht9]; exact hP, va_K.moved hW.alike hK, hD⟩⟩, hS.F ht9⟩) hS.2.2 dX1_flags_7
end
