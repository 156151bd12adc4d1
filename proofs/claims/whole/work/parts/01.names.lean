def RX0 : String := "MicroMill$Work"
def TX0 : u_T := fun k => match k with
  | 0 => ("MicroMill$Work", "n", "Z", false)
  | 1 => ("MicroMill$Work", "z", "Z", false)
  | 2 => ("MicroMill$Work", "v", "Z", false)
  | 3 => ("MicroMill$Work", "c", "Z", false)
  | 4 => ("MicroMill$Work", "bits", "I", false)
  | _ => ("MicroMill$Work", "high", "I", false)
def tyX0 : Nat → FieldType := fun k => match k with
  | 0 => .boolean
  | 1 => .boolean
  | 2 => .boolean
  | 3 => .boolean
  | 4 => .int
  | _ => .int
theorem nmX0 : ∀ a, a < 6 → ∀ b, b < 6 → a ≠ b → (TX0 a).2.1 ≠ (TX0 b).2.1 := by decide +kernel
theorem tyX0_ok : ∀ k, k < 6 → parseFieldDescriptor (TX0 k).2.2.1 = some (tyX0 k) := by decide +kernel
def RX1 : String := "MicroMill"
def TX1 : u_T := fun k => match k with
  | 0 => ("MicroMill", "words", "[I", true)
  | 1 => ("MicroMill", "registers", "[I", true)
  | 2 => ("MicroMill", "work", "LMicroMill$Work;", true)
  | 3 => ("MicroMill", "stopReason", "I", false)
  | 4 => ("MicroMill", "allCycles", "J", false)
  | 5 => ("MicroMill", "spent", "I", false)
  | _ => ("MicroMill", "place", "I", false)
def tyX1 : Nat → FieldType := fun k => match k with
  | 0 => .array .int
  | 1 => .array .int
  | 2 => .object "MicroMill$Work"
  | 3 => .int
  | 4 => .long
  | 5 => .int
  | _ => .int
theorem nmX1 : ∀ a, a < 7 → ∀ b, b < 7 → a ≠ b → (TX1 a).2.1 ≠ (TX1 b).2.1 := by decide +kernel
theorem tyX1_ok : ∀ k, k < 7 → parseFieldDescriptor (TX1 k).2.2.1 = some (tyX1 k) := by decide +kernel
def RX2 : String := "MicroMillModel"
def TX2 : u_T := fun k => match k with
  | 0 => ("MicroMillModel", "words", "[I", true)
  | 1 => ("MicroMillModel", "registers", "[I", true)
  | 2 => ("MicroMillModel", "flags", "I", false)
  | 3 => ("MicroMillModel", "why", "I", false)
  | 4 => ("MicroMillModel", "all", "J", false)
  | 5 => ("MicroMillModel", "took", "I", false)
  | _ => ("MicroMillModel", "place", "I", false)
def tyX2 : Nat → FieldType := fun k => match k with
  | 0 => .array .int
  | 1 => .array .int
  | 2 => .int
  | 3 => .int
  | 4 => .long
  | 5 => .int
  | _ => .int
theorem nmX2 : ∀ a, a < 7 → ∀ b, b < 7 → a ≠ b → (TX2 a).2.1 ≠ (TX2 b).2.1 := by decide +kernel
theorem tyX2_ok : ∀ k, k < 7 → parseFieldDescriptor (TX2 k).2.2.1 = some (tyX2 k) := by decide +kernel
def RL : String := "MicroMillLaw"
abbrev cX1_init : ByteArray := prog_1_method_1_code
def yX1_init : MethodName := ⟨RX1, "<init>", "()V"⟩
abbrev cX0_init : ByteArray := prog_2_method_1_code
def yX0_init : MethodName := ⟨RX0, "<init>", "()V"⟩
abbrev cX1_poke : ByteArray := prog_1_method_2_code
def yX1_poke : MethodName := ⟨RX1, "poke", "(II)Z"⟩
abbrev cX1_isWordAddress : ByteArray := prog_1_method_12_code
def yX1_isWordAddress : MethodName := ⟨RX1, "isWordAddress", "(I)Z"⟩
abbrev cX1_peek : ByteArray := prog_1_method_3_code
def yX1_peek : MethodName := ⟨RX1, "peek", "(I)I"⟩
abbrev cX1_set : ByteArray := prog_1_method_4_code
def yX1_set : MethodName := ⟨RX1, "set", "(II)Z"⟩
abbrev cX1_isRegister : ByteArray := prog_1_method_13_code
def yX1_isRegister : MethodName := ⟨RX1, "isRegister", "(I)Z"⟩
abbrev cX1_register : ByteArray := prog_1_method_5_code
def yX1_register : MethodName := ⟨RX1, "register", "(I)I"⟩
abbrev cX1_flags : ByteArray := prog_1_method_6_code
def yX1_flags : MethodName := ⟨RX1, "flags", "()I"⟩
abbrev cX0_packed : ByteArray := prog_2_method_3_code
def yX0_packed : MethodName := ⟨RX0, "packed", "()I"⟩
abbrev cX1_step : ByteArray := prog_1_method_7_code
def yX1_step : MethodName := ⟨RX1, "step", "()I"⟩
abbrev cX1_doInstruction : ByteArray := prog_1_method_14_code
def yX1_doInstruction : MethodName := ⟨RX1, "doInstruction", "()I"⟩
abbrev cX1_stepUp : ByteArray := prog_1_method_30_code
def yX1_stepUp : MethodName := ⟨RX1, "stepUp", "(II)I"⟩
abbrev cX1_readWord : ByteArray := prog_1_method_32_code
def yX1_readWord : MethodName := ⟨RX1, "readWord", "(I)I"⟩
abbrev cX1_perform : ByteArray := prog_1_method_15_code
def yX1_perform : MethodName := ⟨RX1, "perform", "(I)V"⟩
abbrev cX1_isOfTwoOperands : ByteArray := prog_1_method_16_code
def yX1_isOfTwoOperands : MethodName := ⟨RX1, "isOfTwoOperands", "(I)Z"⟩
abbrev cX1_doTwoOperands : ByteArray := prog_1_method_19_code
def yX1_doTwoOperands : MethodName := ⟨RX1, "doTwoOperands", "(I)V"⟩
abbrev cX1_readOperand : ByteArray := prog_1_method_28_code
def yX1_readOperand : MethodName := ⟨RX1, "readOperand", "(IZ)I"⟩
abbrev cX1_findAddress : ByteArray := prog_1_method_29_code
def yX1_findAddress : MethodName := ⟨RX1, "findAddress", "(III)I"⟩
abbrev cX1_stepDown : ByteArray := prog_1_method_31_code
def yX1_stepDown : MethodName := ⟨RX1, "stepDown", "(II)I"⟩
abbrev cX1_readByte : ByteArray := prog_1_method_33_code
def yX1_readByte : MethodName := ⟨RX1, "readByte", "(I)I"⟩
abbrev cX1_shiftOf : ByteArray := prog_1_method_34_code
def yX1_shiftOf : MethodName := ⟨RX1, "shiftOf", "(I)I"⟩
abbrev cX0_takeWidth : ByteArray := prog_2_method_2_code
def yX0_takeWidth : MethodName := ⟨RX0, "takeWidth", "(Z)V"⟩
abbrev cX0_ofTwo : ByteArray := prog_2_method_6_code
def yX0_ofTwo : MethodName := ⟨RX0, "ofTwo", "(III)I"⟩
abbrev cX0_logical : ByteArray := prog_2_method_9_code
def yX0_logical : MethodName := ⟨RX0, "logical", "(I)I"⟩
abbrev cX0_settled : ByteArray := prog_2_method_14_code
def yX0_settled : MethodName := ⟨RX0, "settled", "(IZZ)I"⟩
abbrev cX0_difference : ByteArray := prog_2_method_11_code
def yX0_difference : MethodName := ⟨RX0, "difference", "(II)I"⟩
abbrev cX0_sum : ByteArray := prog_2_method_10_code
def yX0_sum : MethodName := ⟨RX0, "sum", "(II)I"⟩
abbrev cX1_putSigned : ByteArray := prog_1_method_36_code
def yX1_putSigned : MethodName := ⟨RX1, "putSigned", "(II)V"⟩
abbrev cX1_putResult : ByteArray := prog_1_method_35_code
def yX1_putResult : MethodName := ⟨RX1, "putResult", "(IIZ)V"⟩
abbrev cX1_isOfOneOperand : ByteArray := prog_1_method_17_code
def yX1_isOfOneOperand : MethodName := ⟨RX1, "isOfOneOperand", "(I)Z"⟩
abbrev cX1_doOneOperand : ByteArray := prog_1_method_20_code
def yX1_doOneOperand : MethodName := ⟨RX1, "doOneOperand", "(I)V"⟩
abbrev cX0_ofShift : ByteArray := prog_2_method_8_code
def yX0_ofShift : MethodName := ⟨RX0, "ofShift", "(II)I"⟩
abbrev cX0_shifted : ByteArray := prog_2_method_12_code
def yX0_shifted : MethodName := ⟨RX0, "shifted", "(IZ)I"⟩
abbrev cX0_ofOne : ByteArray := prog_2_method_7_code
def yX0_ofOne : MethodName := ⟨RX0, "ofOne", "(II)I"⟩
abbrev cX0_swapped : ByteArray := prog_2_method_13_code
def yX0_swapped : MethodName := ⟨RX0, "swapped", "(I)I"⟩
abbrev cX1_isBranch : ByteArray := prog_1_method_18_code
def yX1_isBranch : MethodName := ⟨RX1, "isBranch", "(I)Z"⟩
abbrev cX1_doBranch : ByteArray := prog_1_method_21_code
def yX1_doBranch : MethodName := ⟨RX1, "doBranch", "(I)V"⟩
abbrev cX0_allows : ByteArray := prog_2_method_5_code
def yX0_allows : MethodName := ⟨RX0, "allows", "(I)Z"⟩
abbrev cX1_doSubtractAndBranch : ByteArray := prog_1_method_22_code
def yX1_doSubtractAndBranch : MethodName := ⟨RX1, "doSubtractAndBranch", "(I)V"⟩
abbrev cX1_doJump : ByteArray := prog_1_method_23_code
def yX1_doJump : MethodName := ⟨RX1, "doJump", "(I)V"⟩
abbrev cX1_findTarget : ByteArray := prog_1_method_27_code
def yX1_findTarget : MethodName := ⟨RX1, "findTarget", "(I)I"⟩
abbrev cX1_doJumpToSubroutine : ByteArray := prog_1_method_24_code
def yX1_doJumpToSubroutine : MethodName := ⟨RX1, "doJumpToSubroutine", "(I)V"⟩
abbrev cX1_doReturn : ByteArray := prog_1_method_25_code
def yX1_doReturn : MethodName := ⟨RX1, "doReturn", "(I)V"⟩
abbrev cX1_doFlags : ByteArray := prog_1_method_26_code
def yX1_doFlags : MethodName := ⟨RX1, "doFlags", "(I)V"⟩
abbrev cX0_change : ByteArray := prog_2_method_4_code
def yX0_change : MethodName := ⟨RX0, "change", "(IZ)V"⟩
abbrev cX1_run : ByteArray := prog_1_method_8_code
def yX1_run : MethodName := ⟨RX1, "run", "(I)I"⟩
abbrev cX1_cycles : ByteArray := prog_1_method_9_code
def yX1_cycles : MethodName := ⟨RX1, "cycles", "()J"⟩
abbrev cX1_stopped : ByteArray := prog_1_method_10_code
def yX1_stopped : MethodName := ⟨RX1, "stopped", "()I"⟩
abbrev cX1_go : ByteArray := prog_1_method_11_code
def yX1_go : MethodName := ⟨RX1, "go", "()Z"⟩
abbrev cX2_init : ByteArray := prog_4_method_1_code
def yX2_init : MethodName := ⟨RX2, "<init>", "()V"⟩
abbrev cX2_poke : ByteArray := prog_4_method_2_code
def yX2_poke : MethodName := ⟨RX2, "poke", "(II)Z"⟩
abbrev cX2_peek : ByteArray := prog_4_method_3_code
def yX2_peek : MethodName := ⟨RX2, "peek", "(I)I"⟩
abbrev cX2_set : ByteArray := prog_4_method_4_code
def yX2_set : MethodName := ⟨RX2, "set", "(II)Z"⟩
abbrev cX2_register : ByteArray := prog_4_method_5_code
def yX2_register : MethodName := ⟨RX2, "register", "(I)I"⟩
abbrev cX2_flags : ByteArray := prog_4_method_6_code
def yX2_flags : MethodName := ⟨RX2, "flags", "()I"⟩
abbrev cX2_cycles : ByteArray := prog_4_method_7_code
def yX2_cycles : MethodName := ⟨RX2, "cycles", "()J"⟩
abbrev cX2_stopped : ByteArray := prog_4_method_8_code
def yX2_stopped : MethodName := ⟨RX2, "stopped", "()I"⟩
abbrev cX2_go : ByteArray := prog_4_method_9_code
def yX2_go : MethodName := ⟨RX2, "go", "()Z"⟩
abbrev cX2_step : ByteArray := prog_4_method_30_code
def yX2_step : MethodName := ⟨RX2, "step", "()I"⟩
abbrev cX2_following : ByteArray := prog_4_method_13_code
def yX2_following : MethodName := ⟨RX2, "following", "()I"⟩
abbrev cX2_add : ByteArray := prog_4_method_10_code
def yX2_add : MethodName := ⟨RX2, "add", "(II)V"⟩
abbrev cX2_word : ByteArray := prog_4_method_11_code
def yX2_word : MethodName := ⟨RX2, "word", "(I)I"⟩
abbrev cX2_count : ByteArray := prog_4_method_25_code
def yX2_count : MethodName := ⟨RX2, "count", "(I)V"⟩
abbrev cX2_doOther : ByteArray := prog_4_method_29_code
def yX2_doOther : MethodName := ⟨RX2, "doOther", "(I)V"⟩
abbrev cX2_branch : ByteArray := prog_4_method_24_code
def yX2_branch : MethodName := ⟨RX2, "branch", "(I)V"⟩
abbrev cX2_isTrue : ByteArray := prog_4_method_23_code
def yX2_isTrue : MethodName := ⟨RX2, "isTrue", "(I)Z"⟩
abbrev cX2_doOne : ByteArray := prog_4_method_22_code
def yX2_doOne : MethodName := ⟨RX2, "doOne", "(IIZ)V"⟩
abbrev cX2_find : ByteArray := prog_4_method_14_code
def yX2_find : MethodName := ⟨RX2, "find", "(IZ)V"⟩
abbrev cX2_read : ByteArray := prog_4_method_15_code
def yX2_read : MethodName := ⟨RX2, "read", "(Z)I"⟩
abbrev cX2_octet : ByteArray := prog_4_method_12_code
def yX2_octet : MethodName := ⟨RX2, "octet", "(I)I"⟩
abbrev cX2_tell : ByteArray := prog_4_method_17_code
def yX2_tell : MethodName := ⟨RX2, "tell", "(IIZZ)V"⟩
abbrev cX2_one : ByteArray := prog_4_method_19_code
def yX2_one : MethodName := ⟨RX2, "one", "(III)I"⟩
abbrev cX2_moved : ByteArray := prog_4_method_20_code
def yX2_moved : MethodName := ⟨RX2, "moved", "(III)I"⟩
abbrev cX2_put : ByteArray := prog_4_method_16_code
def yX2_put : MethodName := ⟨RX2, "put", "(IZZ)V"⟩
abbrev cX2_jump : ByteArray := prog_4_method_26_code
def yX2_jump : MethodName := ⟨RX2, "jump", "(I)V"⟩
abbrev cX2_back : ByteArray := prog_4_method_27_code
def yX2_back : MethodName := ⟨RX2, "back", "(I)V"⟩
abbrev cX2_flag : ByteArray := prog_4_method_28_code
def yX2_flag : MethodName := ⟨RX2, "flag", "(I)V"⟩
abbrev cX2_doTwo : ByteArray := prog_4_method_21_code
def yX2_doTwo : MethodName := ⟨RX2, "doTwo", "(I)V"⟩
abbrev cX2_two : ByteArray := prog_4_method_18_code
def yX2_two : MethodName := ⟨RX2, "two", "(IIII)I"⟩
abbrev cX2_run : ByteArray := prog_4_method_31_code
def yX2_run : MethodName := ⟨RX2, "run", "(I)I"⟩
abbrev cL_law : ByteArray := code
abbrev vwCl : List vw_C := [(RX0, TX0, 6), (RX1, TX1, 7), (RX2, TX2, 7)]
/-- all words of the tables that stay -/
def wAll : List Cond := lw_tbl.filter goodWord
theorem wAll_tb : ∀ w ∈ wAll, w ∈ lw_tbl := fun _ h => (List.mem_filter.mp h).1
theorem wAll_of {w : Cond} (h : w ∈ tables_1) (hg : goodWord w = true) : w ∈ wAll := List.mem_filter.mpr ⟨List.mem_append_right _ h, hg⟩
theorem wAll_ps {w : Cond} (h : w ∈ k2_sels lw_privs) (hg : goodWord w = true) : w ∈ wAll := List.mem_filter.mpr ⟨List.mem_append_left _ h, hg⟩
theorem gC {x : Cond} {y : MethodName} {b : ByteArray} {L : Nat} {ret : Option FieldType} (h5 : Cond.code y b L ret ∈ wAll) : GoodIn (x :: wAll) (Cond.code y b L ret :: wAll) := by
  intro w hw
  have h : w ∈ wAll := by
    rcases List.mem_cons.mp hw with rfl | h
    · exact h5
    · exact h
  exact ⟨List.mem_cons_of_mem _ h, good_of_word (List.mem_filter.mp h).2⟩
theorem gV {x : Cond} {own C : String} {idx : Nat} {y : MethodName} {b : ByteArray} {L : Nat} {ret : Option FieldType} (h1 : Cond.methodLink own idx y ∈ wAll) (h2 : Cond.instanceMethod y ∈ wAll) (h3 : Cond.selects C y y ∈ wAll) (h4 : Cond.initialized C ∈ wAll) (h5 : Cond.code y b L ret ∈ wAll) : GoodIn (x :: wAll) (wsV own idx C y (Cond.code y b L ret :: wAll)) := by
  intro w hw
  have h : w ∈ wAll := by
    rcases List.mem_append.mp hw with h | h
    · simp only [List.mem_cons, List.not_mem_nil, or_false] at h
      rcases h with rfl | rfl | rfl | rfl
      · exact h1
      · exact h2
      · exact h3
      · exact h4
    · rcases List.mem_cons.mp h with rfl | h
      · exact h5
      · exact h
  exact ⟨List.mem_cons_of_mem _ h, good_of_word (List.mem_filter.mp h).2⟩
theorem gS {x : Cond} {own : String} {idx : Nat} {y : MethodName} {b : ByteArray} {L : Nat} {ret : Option FieldType} (h1 : Cond.methodLink own idx y ∈ wAll) (h2 : Cond.static y ∈ wAll) (h4 : Cond.initialized own ∈ wAll) (h5 : Cond.code y b L ret ∈ wAll) : GoodIn (x :: wAll) (wsS own idx y (Cond.code y b L ret :: wAll)) := by
  intro w hw
  have h : w ∈ wAll := by
    rcases List.mem_append.mp hw with h | h
    · simp only [List.mem_cons, List.not_mem_nil, or_false] at h
      rcases h with rfl | rfl | rfl
      · exact h1
      · exact h2
      · exact h4
    · rcases List.mem_cons.mp h with rfl | h
      · exact h5
      · exact h
  exact ⟨List.mem_cons_of_mem _ h, good_of_word (List.mem_filter.mp h).2⟩
theorem w_init_MicroMillLaw : Cond.initialized RL ∈ wAll := wAll_of (List.mem_of_getElem? (i := 0) (by decide +kernel)) rfl
theorem w_init_MicroMill : Cond.initialized RX1 ∈ wAll := wAll_of (List.mem_of_getElem? (i := 1) (by decide +kernel)) rfl
theorem w_init_MicroMill_Work : Cond.initialized RX0 ∈ wAll := wAll_of (List.mem_of_getElem? (i := 2) (by decide +kernel)) rfl
theorem w_init_MicroMillModel : Cond.initialized RX2 ∈ wAll := wAll_of (List.mem_of_getElem? (i := 3) (by decide +kernel)) rfl
theorem w_init_java_lang_Math : Cond.initialized "java/lang/Math" ∈ wAll := wAll_of (List.mem_of_getElem? (i := 4) (by decide +kernel)) rfl
theorem w_cl_L_7 : Cond.classLink RL 7 RX1 ∈ wAll := wAll_of (List.mem_of_getElem? (i := 5) (by decide +kernel)) rfl
theorem w_inst_X1 : Cond.instantiable RX1 7 ∈ wAll := wAll_of (List.mem_of_getElem? (i := 6) (by decide +kernel)) rfl
theorem w_m_L_9 : Cond.methodLink RL 9 yX1_init ∈ wAll := wAll_of (List.mem_of_getElem? (i := 7) (by decide +kernel)) rfl
theorem w_im_yX1_init : Cond.instanceMethod yX1_init ∈ wAll := wAll_of (List.mem_of_getElem? (i := 8) (by decide +kernel)) rfl
theorem w_co_yX1_init : Cond.code yX1_init cX1_init 1 none ∈ wAll := wAll_of (List.mem_of_getElem? (i := 9) (by rfl)) rfl
theorem w_m_X1_1 : Cond.methodLink RX1 1 objectInit ∈ wAll := wAll_of (List.mem_of_getElem? (i := 10) (by decide +kernel)) rfl
theorem w_im_objectInit : Cond.instanceMethod objectInit ∈ wAll := wAll_of (List.mem_of_getElem? (i := 11) (by decide +kernel)) rfl
theorem w_co_objectInit : Cond.code objectInit ⟨#[0xb1]⟩ 1 none ∈ wAll := wAll_of (List.mem_of_getElem? (i := 12) (by rfl)) rfl
theorem w_cl_X1_16 : Cond.classLink RX1 16 RX0 ∈ wAll := wAll_of (List.mem_of_getElem? (i := 13) (by decide +kernel)) rfl
theorem w_inst_X0 : Cond.instantiable RX0 6 ∈ wAll := wAll_of (List.mem_of_getElem? (i := 14) (by decide +kernel)) rfl
theorem w_im_yX0_init : Cond.instanceMethod yX0_init ∈ wAll := wAll_of (List.mem_of_getElem? (i := 16) (by decide +kernel)) rfl
theorem w_co_yX0_init : Cond.code yX0_init cX0_init 1 none ∈ wAll := wAll_of (List.mem_of_getElem? (i := 17) (by rfl)) rfl
theorem w_m_X0_3 : Cond.methodLink RX0 3 objectInit ∈ wAll := wAll_of (List.mem_of_getElem? (i := 18) (by decide +kernel)) rfl
theorem w_k_X0_24 : Cond.constant RX0 24 (65535) ∈ wAll := wAll_of (List.mem_of_getElem? (i := 19) (by decide +kernel)) rfl
theorem w_k_X0_29 : Cond.constant RX0 29 (32768) ∈ wAll := wAll_of (List.mem_of_getElem? (i := 20) (by decide +kernel)) rfl
theorem w_f_X0_9 : Cond.fieldLink RX0 9 "MicroMill$Work" "n" "Z" ∈ wAll := wAll_of (List.mem_of_getElem? (i := 21) (by decide +kernel)) rfl
theorem w_f_X0_15 : Cond.fieldLink RX0 15 "MicroMill$Work" "z" "Z" ∈ wAll := wAll_of (List.mem_of_getElem? (i := 22) (by decide +kernel)) rfl
theorem w_f_X0_18 : Cond.fieldLink RX0 18 "MicroMill$Work" "v" "Z" ∈ wAll := wAll_of (List.mem_of_getElem? (i := 23) (by decide +kernel)) rfl
theorem w_f_X0_21 : Cond.fieldLink RX0 21 "MicroMill$Work" "c" "Z" ∈ wAll := wAll_of (List.mem_of_getElem? (i := 24) (by decide +kernel)) rfl
theorem w_f_X0_25 : Cond.fieldLink RX0 25 "MicroMill$Work" "bits" "I" ∈ wAll := wAll_of (List.mem_of_getElem? (i := 25) (by decide +kernel)) rfl
theorem w_f_X0_30 : Cond.fieldLink RX0 30 "MicroMill$Work" "high" "I" ∈ wAll := wAll_of (List.mem_of_getElem? (i := 26) (by decide +kernel)) rfl
theorem w_arr_I : Cond.arrayClass .int ∈ wAll := wAll_of (List.mem_of_getElem? (i := 40) (by decide +kernel)) rfl
theorem w_f_X1_9 : Cond.fieldLink RX1 9 "MicroMill" "words" "[I" ∈ wAll := wAll_of (List.mem_of_getElem? (i := 41) (by decide +kernel)) rfl
theorem w_f_X1_13 : Cond.fieldLink RX1 13 "MicroMill" "registers" "[I" ∈ wAll := wAll_of (List.mem_of_getElem? (i := 42) (by decide +kernel)) rfl
theorem w_f_X1_19 : Cond.fieldLink RX1 19 "MicroMill" "work" "LMicroMill$Work;" ∈ wAll := wAll_of (List.mem_of_getElem? (i := 43) (by decide +kernel)) rfl
theorem w_f_X1_23 : Cond.fieldLink RX1 23 "MicroMill" "stopReason" "I" ∈ wAll := wAll_of (List.mem_of_getElem? (i := 44) (by decide +kernel)) rfl
theorem w_f_X1_27 : Cond.fieldLink RX1 27 "MicroMill" "allCycles" "J" ∈ wAll := wAll_of (List.mem_of_getElem? (i := 45) (by decide +kernel)) rfl
theorem w_f_X1_31 : Cond.fieldLink RX1 31 "MicroMill" "spent" "I" ∈ wAll := wAll_of (List.mem_of_getElem? (i := 46) (by decide +kernel)) rfl
theorem w_f_X1_34 : Cond.fieldLink RX1 34 "MicroMill" "place" "I" ∈ wAll := wAll_of (List.mem_of_getElem? (i := 47) (by decide +kernel)) rfl
theorem w_m_L_13 : Cond.methodLink RL 13 yX1_poke ∈ wAll := wAll_of (List.mem_of_getElem? (i := 63) (by decide +kernel)) rfl
theorem w_im_yX1_poke : Cond.instanceMethod yX1_poke ∈ wAll := wAll_of (List.mem_of_getElem? (i := 64) (by decide +kernel)) rfl
theorem w_sel_yX1_poke : Cond.selects RX1 yX1_poke yX1_poke ∈ wAll := wAll_of (List.mem_of_getElem? (i := 65) (by decide +kernel)) rfl
theorem w_co_yX1_poke : Cond.code yX1_poke cX1_poke 3 (some .boolean) ∈ wAll := wAll_of (List.mem_of_getElem? (i := 66) (by rfl)) rfl
theorem w_m_X1_37 : Cond.methodLink RX1 37 yX1_isWordAddress ∈ wAll := wAll_of (List.mem_of_getElem? (i := 67) (by decide +kernel)) rfl
theorem w_sm_yX1_isWordAddress : Cond.static yX1_isWordAddress ∈ wAll := wAll_of (List.mem_of_getElem? (i := 68) (by decide +kernel)) rfl
theorem w_co_yX1_isWordAddress : Cond.code yX1_isWordAddress cX1_isWordAddress 1 (some .boolean) ∈ wAll := wAll_of (List.mem_of_getElem? (i := 69) (by rfl)) rfl
theorem w_k_X1_41 : Cond.constant RX1 41 (65535) ∈ wAll := wAll_of (List.mem_of_getElem? (i := 70) (by decide +kernel)) rfl
theorem w_m_L_18 : Cond.methodLink RL 18 yX1_peek ∈ wAll := wAll_of (List.mem_of_getElem? (i := 71) (by decide +kernel)) rfl
theorem w_im_yX1_peek : Cond.instanceMethod yX1_peek ∈ wAll := wAll_of (List.mem_of_getElem? (i := 72) (by decide +kernel)) rfl
theorem w_sel_yX1_peek : Cond.selects RX1 yX1_peek yX1_peek ∈ wAll := wAll_of (List.mem_of_getElem? (i := 73) (by decide +kernel)) rfl
theorem w_co_yX1_peek : Cond.code yX1_peek cX1_peek 2 (some .int) ∈ wAll := wAll_of (List.mem_of_getElem? (i := 74) (by rfl)) rfl
theorem w_m_L_23 : Cond.methodLink RL 23 yX1_set ∈ wAll := wAll_of (List.mem_of_getElem? (i := 75) (by decide +kernel)) rfl
theorem w_im_yX1_set : Cond.instanceMethod yX1_set ∈ wAll := wAll_of (List.mem_of_getElem? (i := 76) (by decide +kernel)) rfl
theorem w_sel_yX1_set : Cond.selects RX1 yX1_set yX1_set ∈ wAll := wAll_of (List.mem_of_getElem? (i := 77) (by decide +kernel)) rfl
theorem w_co_yX1_set : Cond.code yX1_set cX1_set 3 (some .boolean) ∈ wAll := wAll_of (List.mem_of_getElem? (i := 78) (by rfl)) rfl
theorem w_m_X1_42 : Cond.methodLink RX1 42 yX1_isRegister ∈ wAll := wAll_of (List.mem_of_getElem? (i := 79) (by decide +kernel)) rfl
theorem w_sm_yX1_isRegister : Cond.static yX1_isRegister ∈ wAll := wAll_of (List.mem_of_getElem? (i := 80) (by decide +kernel)) rfl
theorem w_co_yX1_isRegister : Cond.code yX1_isRegister cX1_isRegister 1 (some .boolean) ∈ wAll := wAll_of (List.mem_of_getElem? (i := 81) (by rfl)) rfl
theorem w_m_L_27 : Cond.methodLink RL 27 yX1_register ∈ wAll := wAll_of (List.mem_of_getElem? (i := 82) (by decide +kernel)) rfl
theorem w_im_yX1_register : Cond.instanceMethod yX1_register ∈ wAll := wAll_of (List.mem_of_getElem? (i := 83) (by decide +kernel)) rfl
theorem w_sel_yX1_register : Cond.selects RX1 yX1_register yX1_register ∈ wAll := wAll_of (List.mem_of_getElem? (i := 84) (by decide +kernel)) rfl
theorem w_co_yX1_register : Cond.code yX1_register cX1_register 2 (some .int) ∈ wAll := wAll_of (List.mem_of_getElem? (i := 85) (by rfl)) rfl
theorem w_m_L_31 : Cond.methodLink RL 31 yX1_flags ∈ wAll := wAll_of (List.mem_of_getElem? (i := 86) (by decide +kernel)) rfl
theorem w_im_yX1_flags : Cond.instanceMethod yX1_flags ∈ wAll := wAll_of (List.mem_of_getElem? (i := 87) (by decide +kernel)) rfl
theorem w_sel_yX1_flags : Cond.selects RX1 yX1_flags yX1_flags ∈ wAll := wAll_of (List.mem_of_getElem? (i := 88) (by decide +kernel)) rfl
theorem w_co_yX1_flags : Cond.code yX1_flags cX1_flags 1 (some .int) ∈ wAll := wAll_of (List.mem_of_getElem? (i := 89) (by rfl)) rfl
theorem w_im_yX0_packed : Cond.instanceMethod yX0_packed ∈ wAll := wAll_of (List.mem_of_getElem? (i := 92) (by decide +kernel)) rfl
theorem w_co_yX0_packed : Cond.code yX0_packed cX0_packed 1 (some .int) ∈ wAll := wAll_of (List.mem_of_getElem? (i := 93) (by rfl)) rfl
theorem w_m_L_36 : Cond.methodLink RL 36 yX1_step ∈ wAll := wAll_of (List.mem_of_getElem? (i := 94) (by decide +kernel)) rfl
theorem w_im_yX1_step : Cond.instanceMethod yX1_step ∈ wAll := wAll_of (List.mem_of_getElem? (i := 95) (by decide +kernel)) rfl
theorem w_sel_yX1_step : Cond.selects RX1 yX1_step yX1_step ∈ wAll := wAll_of (List.mem_of_getElem? (i := 96) (by decide +kernel)) rfl
theorem w_co_yX1_step : Cond.code yX1_step cX1_step 1 (some .int) ∈ wAll := wAll_of (List.mem_of_getElem? (i := 97) (by rfl)) rfl
theorem w_m_X1_49 : Cond.methodLink RX1 49 yX1_doInstruction ∈ wAll := wAll_of (List.mem_of_getElem? (i := 98) (by decide +kernel)) rfl
theorem w_im_yX1_doInstruction : Cond.instanceMethod yX1_doInstruction ∈ wAll := wAll_of (List.mem_of_getElem? (i := 100) (by decide +kernel)) rfl
theorem w_co_yX1_doInstruction : Cond.code yX1_doInstruction cX1_doInstruction 2 (some .int) ∈ wAll := wAll_of (List.mem_of_getElem? (i := 101) (by rfl)) rfl
theorem w_m_X1_58 : Cond.methodLink RX1 58 yX1_stepUp ∈ wAll := wAll_of (List.mem_of_getElem? (i := 102) (by decide +kernel)) rfl
theorem w_im_yX1_stepUp : Cond.instanceMethod yX1_stepUp ∈ wAll := wAll_of (List.mem_of_getElem? (i := 104) (by decide +kernel)) rfl
theorem w_co_yX1_stepUp : Cond.code yX1_stepUp cX1_stepUp 4 (some .int) ∈ wAll := wAll_of (List.mem_of_getElem? (i := 105) (by rfl)) rfl
theorem w_m_X1_61 : Cond.methodLink RX1 61 yX1_readWord ∈ wAll := wAll_of (List.mem_of_getElem? (i := 106) (by decide +kernel)) rfl
theorem w_im_yX1_readWord : Cond.instanceMethod yX1_readWord ∈ wAll := wAll_of (List.mem_of_getElem? (i := 108) (by decide +kernel)) rfl
theorem w_co_yX1_readWord : Cond.code yX1_readWord cX1_readWord 2 (some .int) ∈ wAll := wAll_of (List.mem_of_getElem? (i := 109) (by rfl)) rfl
theorem w_m_X1_65 : Cond.methodLink RX1 65 yX1_perform ∈ wAll := wAll_of (List.mem_of_getElem? (i := 110) (by decide +kernel)) rfl
theorem w_im_yX1_perform : Cond.instanceMethod yX1_perform ∈ wAll := wAll_of (List.mem_of_getElem? (i := 112) (by decide +kernel)) rfl
theorem w_co_yX1_perform : Cond.code yX1_perform cX1_perform 2 none ∈ wAll := wAll_of (List.mem_of_getElem? (i := 113) (by rfl)) rfl
theorem w_m_X1_69 : Cond.methodLink RX1 69 yX1_isOfTwoOperands ∈ wAll := wAll_of (List.mem_of_getElem? (i := 114) (by decide +kernel)) rfl
theorem w_sm_yX1_isOfTwoOperands : Cond.static yX1_isOfTwoOperands ∈ wAll := wAll_of (List.mem_of_getElem? (i := 115) (by decide +kernel)) rfl
theorem w_co_yX1_isOfTwoOperands : Cond.code yX1_isOfTwoOperands cX1_isOfTwoOperands 2 (some .boolean) ∈ wAll := wAll_of (List.mem_of_getElem? (i := 116) (by rfl)) rfl
theorem w_m_X1_72 : Cond.methodLink RX1 72 yX1_doTwoOperands ∈ wAll := wAll_of (List.mem_of_getElem? (i := 117) (by decide +kernel)) rfl
theorem w_im_yX1_doTwoOperands : Cond.instanceMethod yX1_doTwoOperands ∈ wAll := wAll_of (List.mem_of_getElem? (i := 119) (by decide +kernel)) rfl
theorem w_co_yX1_doTwoOperands : Cond.code yX1_doTwoOperands cX1_doTwoOperands 8 none ∈ wAll := wAll_of (List.mem_of_getElem? (i := 120) (by rfl)) rfl
theorem w_k_X1_103 : Cond.constant RX1 103 (32768) ∈ wAll := wAll_of (List.mem_of_getElem? (i := 121) (by decide +kernel)) rfl
theorem w_m_X1_104 : Cond.methodLink RX1 104 yX1_readOperand ∈ wAll := wAll_of (List.mem_of_getElem? (i := 122) (by decide +kernel)) rfl
theorem w_im_yX1_readOperand : Cond.instanceMethod yX1_readOperand ∈ wAll := wAll_of (List.mem_of_getElem? (i := 124) (by decide +kernel)) rfl
theorem w_co_yX1_readOperand : Cond.code yX1_readOperand cX1_readOperand 5 (some .int) ∈ wAll := wAll_of (List.mem_of_getElem? (i := 125) (by rfl)) rfl
theorem w_f_X1_143 : Cond.fieldLink RX1 143 "MicroMill" "MODE_CYCLES" "[I" ∈ wAll := wAll_of (List.mem_of_getElem? (i := 126) (by decide +kernel)) rfl
theorem t_ls_MODE : Cond.laysStatic RX1 "MODE_CYCLES" "[I" ∈ tables_1 := List.mem_of_getElem? (i := 127) (by decide +kernel)
theorem w_m_X1_146 : Cond.methodLink RX1 146 yX1_findAddress ∈ wAll := wAll_of (List.mem_of_getElem? (i := 128) (by decide +kernel)) rfl
theorem w_im_yX1_findAddress : Cond.instanceMethod yX1_findAddress ∈ wAll := wAll_of (List.mem_of_getElem? (i := 130) (by decide +kernel)) rfl
theorem w_co_yX1_findAddress : Cond.code yX1_findAddress cX1_findAddress 6 (some .int) ∈ wAll := wAll_of (List.mem_of_getElem? (i := 131) (by rfl)) rfl
theorem w_m_X1_133 : Cond.methodLink RX1 133 yX1_stepDown ∈ wAll := wAll_of (List.mem_of_getElem? (i := 132) (by decide +kernel)) rfl
theorem w_im_yX1_stepDown : Cond.instanceMethod yX1_stepDown ∈ wAll := wAll_of (List.mem_of_getElem? (i := 134) (by decide +kernel)) rfl
theorem w_co_yX1_stepDown : Cond.code yX1_stepDown cX1_stepDown 3 (some .int) ∈ wAll := wAll_of (List.mem_of_getElem? (i := 135) (by rfl)) rfl
theorem w_m_X1_149 : Cond.methodLink RX1 149 yX1_readByte ∈ wAll := wAll_of (List.mem_of_getElem? (i := 136) (by decide +kernel)) rfl
theorem w_im_yX1_readByte : Cond.instanceMethod yX1_readByte ∈ wAll := wAll_of (List.mem_of_getElem? (i := 138) (by decide +kernel)) rfl
theorem w_co_yX1_readByte : Cond.code yX1_readByte cX1_readByte 2 (some .int) ∈ wAll := wAll_of (List.mem_of_getElem? (i := 139) (by rfl)) rfl
theorem w_m_X1_152 : Cond.methodLink RX1 152 yX1_shiftOf ∈ wAll := wAll_of (List.mem_of_getElem? (i := 140) (by decide +kernel)) rfl
theorem w_sm_yX1_shiftOf : Cond.static yX1_shiftOf ∈ wAll := wAll_of (List.mem_of_getElem? (i := 141) (by decide +kernel)) rfl
theorem w_co_yX1_shiftOf : Cond.code yX1_shiftOf cX1_shiftOf 1 (some .int) ∈ wAll := wAll_of (List.mem_of_getElem? (i := 142) (by rfl)) rfl
theorem w_im_yX0_takeWidth : Cond.instanceMethod yX0_takeWidth ∈ wAll := wAll_of (List.mem_of_getElem? (i := 145) (by decide +kernel)) rfl
theorem w_co_yX0_takeWidth : Cond.code yX0_takeWidth cX0_takeWidth 2 none ∈ wAll := wAll_of (List.mem_of_getElem? (i := 146) (by rfl)) rfl
theorem w_im_yX0_ofTwo : Cond.instanceMethod yX0_ofTwo ∈ wAll := wAll_of (List.mem_of_getElem? (i := 149) (by decide +kernel)) rfl
theorem w_co_yX0_ofTwo : Cond.code yX0_ofTwo cX0_ofTwo 4 (some .int) ∈ wAll := wAll_of (List.mem_of_getElem? (i := 150) (by rfl)) rfl
theorem w_m_X0_33 : Cond.methodLink RX0 33 yX0_logical ∈ wAll := wAll_of (List.mem_of_getElem? (i := 151) (by decide +kernel)) rfl
theorem w_im_yX0_logical : Cond.instanceMethod yX0_logical ∈ wAll := wAll_of (List.mem_of_getElem? (i := 153) (by decide +kernel)) rfl
theorem w_co_yX0_logical : Cond.code yX0_logical cX0_logical 2 (some .int) ∈ wAll := wAll_of (List.mem_of_getElem? (i := 154) (by rfl)) rfl
theorem w_m_X0_44 : Cond.methodLink RX0 44 yX0_settled ∈ wAll := wAll_of (List.mem_of_getElem? (i := 155) (by decide +kernel)) rfl
theorem w_im_yX0_settled : Cond.instanceMethod yX0_settled ∈ wAll := wAll_of (List.mem_of_getElem? (i := 157) (by decide +kernel)) rfl
theorem w_co_yX0_settled : Cond.code yX0_settled cX0_settled 5 (some .int) ∈ wAll := wAll_of (List.mem_of_getElem? (i := 158) (by rfl)) rfl
theorem w_m_X0_37 : Cond.methodLink RX0 37 yX0_difference ∈ wAll := wAll_of (List.mem_of_getElem? (i := 159) (by decide +kernel)) rfl
theorem w_im_yX0_difference : Cond.instanceMethod yX0_difference ∈ wAll := wAll_of (List.mem_of_getElem? (i := 161) (by decide +kernel)) rfl
theorem w_co_yX0_difference : Cond.code yX0_difference cX0_difference 5 (some .int) ∈ wAll := wAll_of (List.mem_of_getElem? (i := 162) (by rfl)) rfl
theorem w_m_X0_41 : Cond.methodLink RX0 41 yX0_sum ∈ wAll := wAll_of (List.mem_of_getElem? (i := 163) (by decide +kernel)) rfl
theorem w_im_yX0_sum : Cond.instanceMethod yX0_sum ∈ wAll := wAll_of (List.mem_of_getElem? (i := 165) (by decide +kernel)) rfl
theorem w_co_yX0_sum : Cond.code yX0_sum cX0_sum 5 (some .int) ∈ wAll := wAll_of (List.mem_of_getElem? (i := 166) (by rfl)) rfl
theorem w_m_X1_116 : Cond.methodLink RX1 116 yX1_putSigned ∈ wAll := wAll_of (List.mem_of_getElem? (i := 167) (by decide +kernel)) rfl
theorem w_im_yX1_putSigned : Cond.instanceMethod yX1_putSigned ∈ wAll := wAll_of (List.mem_of_getElem? (i := 169) (by decide +kernel)) rfl
theorem w_co_yX1_putSigned : Cond.code yX1_putSigned cX1_putSigned 3 none ∈ wAll := wAll_of (List.mem_of_getElem? (i := 170) (by rfl)) rfl
theorem w_m_X1_120 : Cond.methodLink RX1 120 yX1_putResult ∈ wAll := wAll_of (List.mem_of_getElem? (i := 171) (by decide +kernel)) rfl
theorem w_im_yX1_putResult : Cond.instanceMethod yX1_putResult ∈ wAll := wAll_of (List.mem_of_getElem? (i := 173) (by decide +kernel)) rfl
theorem w_co_yX1_putResult : Cond.code yX1_putResult cX1_putResult 5 none ∈ wAll := wAll_of (List.mem_of_getElem? (i := 174) (by rfl)) rfl
theorem w_m_X1_75 : Cond.methodLink RX1 75 yX1_isOfOneOperand ∈ wAll := wAll_of (List.mem_of_getElem? (i := 175) (by decide +kernel)) rfl
theorem w_sm_yX1_isOfOneOperand : Cond.static yX1_isOfOneOperand ∈ wAll := wAll_of (List.mem_of_getElem? (i := 176) (by decide +kernel)) rfl
theorem w_co_yX1_isOfOneOperand : Cond.code yX1_isOfOneOperand cX1_isOfOneOperand 2 (some .boolean) ∈ wAll := wAll_of (List.mem_of_getElem? (i := 177) (by rfl)) rfl
theorem w_k_X1_102 : Cond.constant RX1 102 (-32769) ∈ wAll := wAll_of (List.mem_of_getElem? (i := 178) (by decide +kernel)) rfl
theorem w_m_X1_78 : Cond.methodLink RX1 78 yX1_doOneOperand ∈ wAll := wAll_of (List.mem_of_getElem? (i := 179) (by decide +kernel)) rfl
theorem w_im_yX1_doOneOperand : Cond.instanceMethod yX1_doOneOperand ∈ wAll := wAll_of (List.mem_of_getElem? (i := 181) (by decide +kernel)) rfl
theorem w_co_yX1_doOneOperand : Cond.code yX1_doOneOperand cX1_doOneOperand 6 none ∈ wAll := wAll_of (List.mem_of_getElem? (i := 182) (by rfl)) rfl
theorem w_im_yX0_ofShift : Cond.instanceMethod yX0_ofShift ∈ wAll := wAll_of (List.mem_of_getElem? (i := 185) (by decide +kernel)) rfl
theorem w_co_yX0_ofShift : Cond.code yX0_ofShift cX0_ofShift 5 (some .int) ∈ wAll := wAll_of (List.mem_of_getElem? (i := 186) (by rfl)) rfl
theorem w_m_X0_51 : Cond.methodLink RX0 51 yX0_shifted ∈ wAll := wAll_of (List.mem_of_getElem? (i := 187) (by decide +kernel)) rfl
theorem w_im_yX0_shifted : Cond.instanceMethod yX0_shifted ∈ wAll := wAll_of (List.mem_of_getElem? (i := 189) (by decide +kernel)) rfl
theorem w_co_yX0_shifted : Cond.code yX0_shifted cX0_shifted 4 (some .int) ∈ wAll := wAll_of (List.mem_of_getElem? (i := 190) (by rfl)) rfl
theorem w_im_yX0_ofOne : Cond.instanceMethod yX0_ofOne ∈ wAll := wAll_of (List.mem_of_getElem? (i := 193) (by decide +kernel)) rfl
theorem w_co_yX0_ofOne : Cond.code yX0_ofOne cX0_ofOne 3 (some .int) ∈ wAll := wAll_of (List.mem_of_getElem? (i := 194) (by rfl)) rfl
theorem w_m_X0_48 : Cond.methodLink RX0 48 yX0_swapped ∈ wAll := wAll_of (List.mem_of_getElem? (i := 195) (by decide +kernel)) rfl
theorem w_im_yX0_swapped : Cond.instanceMethod yX0_swapped ∈ wAll := wAll_of (List.mem_of_getElem? (i := 197) (by decide +kernel)) rfl
theorem w_co_yX0_swapped : Cond.code yX0_swapped cX0_swapped 3 (some .int) ∈ wAll := wAll_of (List.mem_of_getElem? (i := 198) (by rfl)) rfl
theorem w_m_X1_81 : Cond.methodLink RX1 81 yX1_isBranch ∈ wAll := wAll_of (List.mem_of_getElem? (i := 199) (by decide +kernel)) rfl
theorem w_sm_yX1_isBranch : Cond.static yX1_isBranch ∈ wAll := wAll_of (List.mem_of_getElem? (i := 200) (by decide +kernel)) rfl
theorem w_co_yX1_isBranch : Cond.code yX1_isBranch cX1_isBranch 2 (some .boolean) ∈ wAll := wAll_of (List.mem_of_getElem? (i := 201) (by rfl)) rfl
theorem w_m_X1_84 : Cond.methodLink RX1 84 yX1_doBranch ∈ wAll := wAll_of (List.mem_of_getElem? (i := 202) (by decide +kernel)) rfl
theorem w_im_yX1_doBranch : Cond.instanceMethod yX1_doBranch ∈ wAll := wAll_of (List.mem_of_getElem? (i := 204) (by decide +kernel)) rfl
theorem w_co_yX1_doBranch : Cond.code yX1_doBranch cX1_doBranch 2 none ∈ wAll := wAll_of (List.mem_of_getElem? (i := 205) (by rfl)) rfl
theorem w_im_yX0_allows : Cond.instanceMethod yX0_allows ∈ wAll := wAll_of (List.mem_of_getElem? (i := 208) (by decide +kernel)) rfl
theorem w_co_yX0_allows : Cond.code yX0_allows cX0_allows 2 (some .boolean) ∈ wAll := wAll_of (List.mem_of_getElem? (i := 209) (by rfl)) rfl
theorem w_m_X1_87 : Cond.methodLink RX1 87 yX1_doSubtractAndBranch ∈ wAll := wAll_of (List.mem_of_getElem? (i := 210) (by decide +kernel)) rfl
theorem w_im_yX1_doSubtractAndBranch : Cond.instanceMethod yX1_doSubtractAndBranch ∈ wAll := wAll_of (List.mem_of_getElem? (i := 212) (by decide +kernel)) rfl
theorem w_co_yX1_doSubtractAndBranch : Cond.code yX1_doSubtractAndBranch cX1_doSubtractAndBranch 2 none ∈ wAll := wAll_of (List.mem_of_getElem? (i := 213) (by rfl)) rfl
theorem w_m_X1_90 : Cond.methodLink RX1 90 yX1_doJump ∈ wAll := wAll_of (List.mem_of_getElem? (i := 214) (by decide +kernel)) rfl
theorem w_im_yX1_doJump : Cond.instanceMethod yX1_doJump ∈ wAll := wAll_of (List.mem_of_getElem? (i := 216) (by decide +kernel)) rfl
theorem w_co_yX1_doJump : Cond.code yX1_doJump cX1_doJump 3 none ∈ wAll := wAll_of (List.mem_of_getElem? (i := 217) (by rfl)) rfl
theorem w_m_X1_136 : Cond.methodLink RX1 136 yX1_findTarget ∈ wAll := wAll_of (List.mem_of_getElem? (i := 218) (by decide +kernel)) rfl
theorem w_im_yX1_findTarget : Cond.instanceMethod yX1_findTarget ∈ wAll := wAll_of (List.mem_of_getElem? (i := 220) (by decide +kernel)) rfl
theorem w_co_yX1_findTarget : Cond.code yX1_findTarget cX1_findTarget 3 (some .int) ∈ wAll := wAll_of (List.mem_of_getElem? (i := 221) (by rfl)) rfl
theorem w_m_X1_93 : Cond.methodLink RX1 93 yX1_doJumpToSubroutine ∈ wAll := wAll_of (List.mem_of_getElem? (i := 222) (by decide +kernel)) rfl
theorem w_im_yX1_doJumpToSubroutine : Cond.instanceMethod yX1_doJumpToSubroutine ∈ wAll := wAll_of (List.mem_of_getElem? (i := 224) (by decide +kernel)) rfl
theorem w_co_yX1_doJumpToSubroutine : Cond.code yX1_doJumpToSubroutine cX1_doJumpToSubroutine 5 none ∈ wAll := wAll_of (List.mem_of_getElem? (i := 225) (by rfl)) rfl
theorem w_m_X1_96 : Cond.methodLink RX1 96 yX1_doReturn ∈ wAll := wAll_of (List.mem_of_getElem? (i := 226) (by decide +kernel)) rfl
theorem w_im_yX1_doReturn : Cond.instanceMethod yX1_doReturn ∈ wAll := wAll_of (List.mem_of_getElem? (i := 228) (by decide +kernel)) rfl
theorem w_co_yX1_doReturn : Cond.code yX1_doReturn cX1_doReturn 3 none ∈ wAll := wAll_of (List.mem_of_getElem? (i := 229) (by rfl)) rfl
theorem w_m_X1_99 : Cond.methodLink RX1 99 yX1_doFlags ∈ wAll := wAll_of (List.mem_of_getElem? (i := 230) (by decide +kernel)) rfl
theorem w_im_yX1_doFlags : Cond.instanceMethod yX1_doFlags ∈ wAll := wAll_of (List.mem_of_getElem? (i := 232) (by decide +kernel)) rfl
theorem w_co_yX1_doFlags : Cond.code yX1_doFlags cX1_doFlags 2 none ∈ wAll := wAll_of (List.mem_of_getElem? (i := 233) (by rfl)) rfl
theorem w_im_yX0_change : Cond.instanceMethod yX0_change ∈ wAll := wAll_of (List.mem_of_getElem? (i := 236) (by decide +kernel)) rfl
theorem w_co_yX0_change : Cond.code yX0_change cX0_change 3 none ∈ wAll := wAll_of (List.mem_of_getElem? (i := 237) (by rfl)) rfl
theorem w_m_L_40 : Cond.methodLink RL 40 yX1_run ∈ wAll := wAll_of (List.mem_of_getElem? (i := 238) (by decide +kernel)) rfl
theorem w_im_yX1_run : Cond.instanceMethod yX1_run ∈ wAll := wAll_of (List.mem_of_getElem? (i := 239) (by decide +kernel)) rfl
theorem w_sel_yX1_run : Cond.selects RX1 yX1_run yX1_run ∈ wAll := wAll_of (List.mem_of_getElem? (i := 240) (by decide +kernel)) rfl
theorem w_co_yX1_run : Cond.code yX1_run cX1_run 4 (some .int) ∈ wAll := wAll_of (List.mem_of_getElem? (i := 241) (by rfl)) rfl
theorem w_m_X1_52 : Cond.methodLink RX1 52 Lib.Math.min.name ∈ wAll := wAll_of (List.mem_of_getElem? (i := 242) (by decide +kernel)) rfl
theorem w_sm_Lib_Math_min_name : Cond.static Lib.Math.min.name ∈ wAll := wAll_of (List.mem_of_getElem? (i := 243) (by decide +kernel)) rfl
theorem w_co_min : Cond.code Lib.Math.min.name Lib.Math.min.code 2 (some .int) ∈ wAll := wAll_of (List.mem_of_getElem? (i := 244) (by rfl)) rfl
theorem w_m_L_44 : Cond.methodLink RL 44 yX1_cycles ∈ wAll := wAll_of (List.mem_of_getElem? (i := 245) (by decide +kernel)) rfl
theorem w_im_yX1_cycles : Cond.instanceMethod yX1_cycles ∈ wAll := wAll_of (List.mem_of_getElem? (i := 246) (by decide +kernel)) rfl
theorem w_sel_yX1_cycles : Cond.selects RX1 yX1_cycles yX1_cycles ∈ wAll := wAll_of (List.mem_of_getElem? (i := 247) (by decide +kernel)) rfl
theorem w_co_yX1_cycles : Cond.code yX1_cycles cX1_cycles 1 (some .long) ∈ wAll := wAll_of (List.mem_of_getElem? (i := 248) (by rfl)) rfl
theorem w_m_L_49 : Cond.methodLink RL 49 yX1_stopped ∈ wAll := wAll_of (List.mem_of_getElem? (i := 249) (by decide +kernel)) rfl
theorem w_im_yX1_stopped : Cond.instanceMethod yX1_stopped ∈ wAll := wAll_of (List.mem_of_getElem? (i := 250) (by decide +kernel)) rfl
theorem w_sel_yX1_stopped : Cond.selects RX1 yX1_stopped yX1_stopped ∈ wAll := wAll_of (List.mem_of_getElem? (i := 251) (by decide +kernel)) rfl
theorem w_co_yX1_stopped : Cond.code yX1_stopped cX1_stopped 1 (some .int) ∈ wAll := wAll_of (List.mem_of_getElem? (i := 252) (by rfl)) rfl
theorem w_m_L_53 : Cond.methodLink RL 53 yX1_go ∈ wAll := wAll_of (List.mem_of_getElem? (i := 253) (by decide +kernel)) rfl
theorem w_im_yX1_go : Cond.instanceMethod yX1_go ∈ wAll := wAll_of (List.mem_of_getElem? (i := 254) (by decide +kernel)) rfl
theorem w_sel_yX1_go : Cond.selects RX1 yX1_go yX1_go ∈ wAll := wAll_of (List.mem_of_getElem? (i := 255) (by decide +kernel)) rfl
theorem w_co_yX1_go : Cond.code yX1_go cX1_go 2 (some .boolean) ∈ wAll := wAll_of (List.mem_of_getElem? (i := 256) (by rfl)) rfl
theorem w_cl_L_10 : Cond.classLink RL 10 RX2 ∈ wAll := wAll_of (List.mem_of_getElem? (i := 257) (by decide +kernel)) rfl
theorem w_inst_X2 : Cond.instantiable RX2 7 ∈ wAll := wAll_of (List.mem_of_getElem? (i := 258) (by decide +kernel)) rfl
theorem w_m_L_12 : Cond.methodLink RL 12 yX2_init ∈ wAll := wAll_of (List.mem_of_getElem? (i := 259) (by decide +kernel)) rfl
theorem w_im_yX2_init : Cond.instanceMethod yX2_init ∈ wAll := wAll_of (List.mem_of_getElem? (i := 260) (by decide +kernel)) rfl
theorem w_co_yX2_init : Cond.code yX2_init cX2_init 1 none ∈ wAll := wAll_of (List.mem_of_getElem? (i := 261) (by rfl)) rfl
theorem w_m_X2_1 : Cond.methodLink RX2 1 objectInit ∈ wAll := wAll_of (List.mem_of_getElem? (i := 262) (by decide +kernel)) rfl
theorem w_f_X2_7 : Cond.fieldLink RX2 7 "MicroMillModel" "words" "[I" ∈ wAll := wAll_of (List.mem_of_getElem? (i := 263) (by decide +kernel)) rfl
theorem w_f_X2_13 : Cond.fieldLink RX2 13 "MicroMillModel" "registers" "[I" ∈ wAll := wAll_of (List.mem_of_getElem? (i := 264) (by decide +kernel)) rfl
theorem w_f_X2_17 : Cond.fieldLink RX2 17 "MicroMillModel" "flags" "I" ∈ wAll := wAll_of (List.mem_of_getElem? (i := 265) (by decide +kernel)) rfl
theorem w_f_X2_25 : Cond.fieldLink RX2 25 "MicroMillModel" "why" "I" ∈ wAll := wAll_of (List.mem_of_getElem? (i := 266) (by decide +kernel)) rfl
theorem w_f_X2_21 : Cond.fieldLink RX2 21 "MicroMillModel" "all" "J" ∈ wAll := wAll_of (List.mem_of_getElem? (i := 267) (by decide +kernel)) rfl
theorem w_f_X2_39 : Cond.fieldLink RX2 39 "MicroMillModel" "took" "I" ∈ wAll := wAll_of (List.mem_of_getElem? (i := 268) (by decide +kernel)) rfl
theorem w_f_X2_36 : Cond.fieldLink RX2 36 "MicroMillModel" "place" "I" ∈ wAll := wAll_of (List.mem_of_getElem? (i := 269) (by decide +kernel)) rfl
theorem w_m_L_17 : Cond.methodLink RL 17 yX2_poke ∈ wAll := wAll_of (List.mem_of_getElem? (i := 285) (by decide +kernel)) rfl
theorem w_im_yX2_poke : Cond.instanceMethod yX2_poke ∈ wAll := wAll_of (List.mem_of_getElem? (i := 286) (by decide +kernel)) rfl
theorem w_sel_yX2_poke : Cond.selects RX2 yX2_poke yX2_poke ∈ wAll := wAll_of (List.mem_of_getElem? (i := 287) (by decide +kernel)) rfl
theorem w_co_yX2_poke : Cond.code yX2_poke cX2_poke 3 (some .boolean) ∈ wAll := wAll_of (List.mem_of_getElem? (i := 288) (by rfl)) rfl
theorem w_k_X2_16 : Cond.constant RX2 16 (65535) ∈ wAll := wAll_of (List.mem_of_getElem? (i := 289) (by decide +kernel)) rfl
theorem w_m_L_22 : Cond.methodLink RL 22 yX2_peek ∈ wAll := wAll_of (List.mem_of_getElem? (i := 290) (by decide +kernel)) rfl
theorem w_im_yX2_peek : Cond.instanceMethod yX2_peek ∈ wAll := wAll_of (List.mem_of_getElem? (i := 291) (by decide +kernel)) rfl
theorem w_sel_yX2_peek : Cond.selects RX2 yX2_peek yX2_peek ∈ wAll := wAll_of (List.mem_of_getElem? (i := 292) (by decide +kernel)) rfl
theorem w_co_yX2_peek : Cond.code yX2_peek cX2_peek 2 (some .int) ∈ wAll := wAll_of (List.mem_of_getElem? (i := 293) (by rfl)) rfl
theorem w_m_L_26 : Cond.methodLink RL 26 yX2_set ∈ wAll := wAll_of (List.mem_of_getElem? (i := 294) (by decide +kernel)) rfl
theorem w_im_yX2_set : Cond.instanceMethod yX2_set ∈ wAll := wAll_of (List.mem_of_getElem? (i := 295) (by decide +kernel)) rfl
theorem w_sel_yX2_set : Cond.selects RX2 yX2_set yX2_set ∈ wAll := wAll_of (List.mem_of_getElem? (i := 296) (by decide +kernel)) rfl
theorem w_co_yX2_set : Cond.code yX2_set cX2_set 3 (some .boolean) ∈ wAll := wAll_of (List.mem_of_getElem? (i := 297) (by rfl)) rfl
theorem w_m_L_30 : Cond.methodLink RL 30 yX2_register ∈ wAll := wAll_of (List.mem_of_getElem? (i := 298) (by decide +kernel)) rfl
theorem w_im_yX2_register : Cond.instanceMethod yX2_register ∈ wAll := wAll_of (List.mem_of_getElem? (i := 299) (by decide +kernel)) rfl
theorem w_sel_yX2_register : Cond.selects RX2 yX2_register yX2_register ∈ wAll := wAll_of (List.mem_of_getElem? (i := 300) (by decide +kernel)) rfl
theorem w_co_yX2_register : Cond.code yX2_register cX2_register 2 (some .int) ∈ wAll := wAll_of (List.mem_of_getElem? (i := 301) (by rfl)) rfl
theorem w_m_L_35 : Cond.methodLink RL 35 yX2_flags ∈ wAll := wAll_of (List.mem_of_getElem? (i := 302) (by decide +kernel)) rfl
theorem w_im_yX2_flags : Cond.instanceMethod yX2_flags ∈ wAll := wAll_of (List.mem_of_getElem? (i := 303) (by decide +kernel)) rfl
theorem w_sel_yX2_flags : Cond.selects RX2 yX2_flags yX2_flags ∈ wAll := wAll_of (List.mem_of_getElem? (i := 304) (by decide +kernel)) rfl
theorem w_co_yX2_flags : Cond.code yX2_flags cX2_flags 1 (some .int) ∈ wAll := wAll_of (List.mem_of_getElem? (i := 305) (by rfl)) rfl
theorem w_m_L_48 : Cond.methodLink RL 48 yX2_cycles ∈ wAll := wAll_of (List.mem_of_getElem? (i := 306) (by decide +kernel)) rfl
theorem w_im_yX2_cycles : Cond.instanceMethod yX2_cycles ∈ wAll := wAll_of (List.mem_of_getElem? (i := 307) (by decide +kernel)) rfl
theorem w_sel_yX2_cycles : Cond.selects RX2 yX2_cycles yX2_cycles ∈ wAll := wAll_of (List.mem_of_getElem? (i := 308) (by decide +kernel)) rfl
theorem w_co_yX2_cycles : Cond.code yX2_cycles cX2_cycles 1 (some .long) ∈ wAll := wAll_of (List.mem_of_getElem? (i := 309) (by rfl)) rfl
theorem w_m_L_52 : Cond.methodLink RL 52 yX2_stopped ∈ wAll := wAll_of (List.mem_of_getElem? (i := 310) (by decide +kernel)) rfl
theorem w_im_yX2_stopped : Cond.instanceMethod yX2_stopped ∈ wAll := wAll_of (List.mem_of_getElem? (i := 311) (by decide +kernel)) rfl
theorem w_sel_yX2_stopped : Cond.selects RX2 yX2_stopped yX2_stopped ∈ wAll := wAll_of (List.mem_of_getElem? (i := 312) (by decide +kernel)) rfl
theorem w_co_yX2_stopped : Cond.code yX2_stopped cX2_stopped 1 (some .int) ∈ wAll := wAll_of (List.mem_of_getElem? (i := 313) (by rfl)) rfl
theorem w_m_L_57 : Cond.methodLink RL 57 yX2_go ∈ wAll := wAll_of (List.mem_of_getElem? (i := 314) (by decide +kernel)) rfl
theorem w_im_yX2_go : Cond.instanceMethod yX2_go ∈ wAll := wAll_of (List.mem_of_getElem? (i := 315) (by decide +kernel)) rfl
theorem w_sel_yX2_go : Cond.selects RX2 yX2_go yX2_go ∈ wAll := wAll_of (List.mem_of_getElem? (i := 316) (by decide +kernel)) rfl
theorem w_co_yX2_go : Cond.code yX2_go cX2_go 2 (some .boolean) ∈ wAll := wAll_of (List.mem_of_getElem? (i := 317) (by rfl)) rfl
theorem w_m_L_39 : Cond.methodLink RL 39 yX2_step ∈ wAll := wAll_of (List.mem_of_getElem? (i := 318) (by decide +kernel)) rfl
theorem w_im_yX2_step : Cond.instanceMethod yX2_step ∈ wAll := wAll_of (List.mem_of_getElem? (i := 319) (by decide +kernel)) rfl
theorem w_sel_yX2_step : Cond.selects RX2 yX2_step yX2_step ∈ wAll := wAll_of (List.mem_of_getElem? (i := 320) (by decide +kernel)) rfl
theorem w_co_yX2_step : Cond.code yX2_step cX2_step 3 (some .int) ∈ wAll := wAll_of (List.mem_of_getElem? (i := 321) (by rfl)) rfl
theorem w_m_X2_42 : Cond.methodLink RX2 42 yX2_following ∈ wAll := wAll_of (List.mem_of_getElem? (i := 322) (by decide +kernel)) rfl
theorem w_im_yX2_following : Cond.instanceMethod yX2_following ∈ wAll := wAll_of (List.mem_of_getElem? (i := 324) (by decide +kernel)) rfl
theorem w_co_yX2_following : Cond.code yX2_following cX2_following 2 (some .int) ∈ wAll := wAll_of (List.mem_of_getElem? (i := 325) (by rfl)) rfl
theorem w_m_X2_28 : Cond.methodLink RX2 28 yX2_add ∈ wAll := wAll_of (List.mem_of_getElem? (i := 326) (by decide +kernel)) rfl
theorem w_im_yX2_add : Cond.instanceMethod yX2_add ∈ wAll := wAll_of (List.mem_of_getElem? (i := 328) (by decide +kernel)) rfl
theorem w_co_yX2_add : Cond.code yX2_add cX2_add 3 none ∈ wAll := wAll_of (List.mem_of_getElem? (i := 329) (by rfl)) rfl
theorem w_m_X2_32 : Cond.methodLink RX2 32 yX2_word ∈ wAll := wAll_of (List.mem_of_getElem? (i := 330) (by decide +kernel)) rfl
theorem w_im_yX2_word : Cond.instanceMethod yX2_word ∈ wAll := wAll_of (List.mem_of_getElem? (i := 332) (by decide +kernel)) rfl
theorem w_co_yX2_word : Cond.code yX2_word cX2_word 2 (some .int) ∈ wAll := wAll_of (List.mem_of_getElem? (i := 333) (by rfl)) rfl
theorem w_m_X2_99 : Cond.methodLink RX2 99 yX2_count ∈ wAll := wAll_of (List.mem_of_getElem? (i := 334) (by decide +kernel)) rfl
theorem w_im_yX2_count : Cond.instanceMethod yX2_count ∈ wAll := wAll_of (List.mem_of_getElem? (i := 336) (by decide +kernel)) rfl
theorem w_co_yX2_count : Cond.code yX2_count cX2_count 3 none ∈ wAll := wAll_of (List.mem_of_getElem? (i := 337) (by rfl)) rfl
theorem w_m_X2_102 : Cond.methodLink RX2 102 yX2_doOther ∈ wAll := wAll_of (List.mem_of_getElem? (i := 338) (by decide +kernel)) rfl
theorem w_im_yX2_doOther : Cond.instanceMethod yX2_doOther ∈ wAll := wAll_of (List.mem_of_getElem? (i := 340) (by decide +kernel)) rfl
theorem w_co_yX2_doOther : Cond.code yX2_doOther cX2_doOther 5 none ∈ wAll := wAll_of (List.mem_of_getElem? (i := 341) (by rfl)) rfl
theorem w_m_X2_82 : Cond.methodLink RX2 82 yX2_branch ∈ wAll := wAll_of (List.mem_of_getElem? (i := 342) (by decide +kernel)) rfl
theorem w_im_yX2_branch : Cond.instanceMethod yX2_branch ∈ wAll := wAll_of (List.mem_of_getElem? (i := 344) (by decide +kernel)) rfl
theorem w_co_yX2_branch : Cond.code yX2_branch cX2_branch 3 none ∈ wAll := wAll_of (List.mem_of_getElem? (i := 345) (by rfl)) rfl
theorem w_m_X2_78 : Cond.methodLink RX2 78 yX2_isTrue ∈ wAll := wAll_of (List.mem_of_getElem? (i := 346) (by decide +kernel)) rfl
theorem w_im_yX2_isTrue : Cond.instanceMethod yX2_isTrue ∈ wAll := wAll_of (List.mem_of_getElem? (i := 348) (by decide +kernel)) rfl
theorem w_co_yX2_isTrue : Cond.code yX2_isTrue cX2_isTrue 7 (some .boolean) ∈ wAll := wAll_of (List.mem_of_getElem? (i := 349) (by rfl)) rfl
theorem w_m_X2_86 : Cond.methodLink RX2 86 yX2_doOne ∈ wAll := wAll_of (List.mem_of_getElem? (i := 350) (by decide +kernel)) rfl
theorem w_im_yX2_doOne : Cond.instanceMethod yX2_doOne ∈ wAll := wAll_of (List.mem_of_getElem? (i := 352) (by decide +kernel)) rfl
theorem w_co_yX2_doOne : Cond.code yX2_doOne cX2_doOne 7 none ∈ wAll := wAll_of (List.mem_of_getElem? (i := 353) (by rfl)) rfl
theorem w_m_X2_54 : Cond.methodLink RX2 54 yX2_find ∈ wAll := wAll_of (List.mem_of_getElem? (i := 354) (by decide +kernel)) rfl
theorem w_im_yX2_find : Cond.instanceMethod yX2_find ∈ wAll := wAll_of (List.mem_of_getElem? (i := 356) (by decide +kernel)) rfl
theorem w_co_yX2_find : Cond.code yX2_find cX2_find 8 none ∈ wAll := wAll_of (List.mem_of_getElem? (i := 357) (by rfl)) rfl
theorem w_m_X2_58 : Cond.methodLink RX2 58 yX2_read ∈ wAll := wAll_of (List.mem_of_getElem? (i := 358) (by decide +kernel)) rfl
theorem w_im_yX2_read : Cond.instanceMethod yX2_read ∈ wAll := wAll_of (List.mem_of_getElem? (i := 360) (by decide +kernel)) rfl
theorem w_co_yX2_read : Cond.code yX2_read cX2_read 2 (some .int) ∈ wAll := wAll_of (List.mem_of_getElem? (i := 361) (by rfl)) rfl
theorem w_m_X2_46 : Cond.methodLink RX2 46 yX2_octet ∈ wAll := wAll_of (List.mem_of_getElem? (i := 362) (by decide +kernel)) rfl
theorem w_im_yX2_octet : Cond.instanceMethod yX2_octet ∈ wAll := wAll_of (List.mem_of_getElem? (i := 364) (by decide +kernel)) rfl
theorem w_co_yX2_octet : Cond.code yX2_octet cX2_octet 2 (some .int) ∈ wAll := wAll_of (List.mem_of_getElem? (i := 365) (by rfl)) rfl
theorem w_k_X2_62 : Cond.constant RX2 62 (32768) ∈ wAll := wAll_of (List.mem_of_getElem? (i := 366) (by decide +kernel)) rfl
theorem w_m_X2_50 : Cond.methodLink RX2 50 yX2_tell ∈ wAll := wAll_of (List.mem_of_getElem? (i := 367) (by decide +kernel)) rfl
theorem w_im_yX2_tell : Cond.instanceMethod yX2_tell ∈ wAll := wAll_of (List.mem_of_getElem? (i := 369) (by decide +kernel)) rfl
theorem w_co_yX2_tell : Cond.code yX2_tell cX2_tell 5 none ∈ wAll := wAll_of (List.mem_of_getElem? (i := 370) (by rfl)) rfl
theorem w_m_X2_71 : Cond.methodLink RX2 71 yX2_one ∈ wAll := wAll_of (List.mem_of_getElem? (i := 371) (by decide +kernel)) rfl
theorem w_im_yX2_one : Cond.instanceMethod yX2_one ∈ wAll := wAll_of (List.mem_of_getElem? (i := 373) (by decide +kernel)) rfl
theorem w_co_yX2_one : Cond.code yX2_one cX2_one 10 (some .int) ∈ wAll := wAll_of (List.mem_of_getElem? (i := 374) (by rfl)) rfl
theorem w_m_X2_75 : Cond.methodLink RX2 75 yX2_moved ∈ wAll := wAll_of (List.mem_of_getElem? (i := 375) (by decide +kernel)) rfl
theorem w_im_yX2_moved : Cond.instanceMethod yX2_moved ∈ wAll := wAll_of (List.mem_of_getElem? (i := 377) (by decide +kernel)) rfl
theorem w_co_yX2_moved : Cond.code yX2_moved cX2_moved 8 (some .int) ∈ wAll := wAll_of (List.mem_of_getElem? (i := 378) (by rfl)) rfl
theorem w_m_X2_67 : Cond.methodLink RX2 67 yX2_put ∈ wAll := wAll_of (List.mem_of_getElem? (i := 379) (by decide +kernel)) rfl
theorem w_im_yX2_put : Cond.instanceMethod yX2_put ∈ wAll := wAll_of (List.mem_of_getElem? (i := 381) (by decide +kernel)) rfl
theorem w_co_yX2_put : Cond.code yX2_put cX2_put 5 none ∈ wAll := wAll_of (List.mem_of_getElem? (i := 382) (by rfl)) rfl
theorem w_k_X2_49 : Cond.constant RX2 49 (65280) ∈ wAll := wAll_of (List.mem_of_getElem? (i := 383) (by decide +kernel)) rfl
theorem w_m_X2_90 : Cond.methodLink RX2 90 yX2_jump ∈ wAll := wAll_of (List.mem_of_getElem? (i := 384) (by decide +kernel)) rfl
theorem w_im_yX2_jump : Cond.instanceMethod yX2_jump ∈ wAll := wAll_of (List.mem_of_getElem? (i := 386) (by decide +kernel)) rfl
theorem w_co_yX2_jump : Cond.code yX2_jump cX2_jump 5 none ∈ wAll := wAll_of (List.mem_of_getElem? (i := 387) (by rfl)) rfl
theorem w_m_X2_93 : Cond.methodLink RX2 93 yX2_back ∈ wAll := wAll_of (List.mem_of_getElem? (i := 388) (by decide +kernel)) rfl
theorem w_im_yX2_back : Cond.instanceMethod yX2_back ∈ wAll := wAll_of (List.mem_of_getElem? (i := 390) (by decide +kernel)) rfl
theorem w_co_yX2_back : Cond.code yX2_back cX2_back 5 none ∈ wAll := wAll_of (List.mem_of_getElem? (i := 391) (by rfl)) rfl
theorem w_m_X2_96 : Cond.methodLink RX2 96 yX2_flag ∈ wAll := wAll_of (List.mem_of_getElem? (i := 392) (by decide +kernel)) rfl
theorem w_im_yX2_flag : Cond.instanceMethod yX2_flag ∈ wAll := wAll_of (List.mem_of_getElem? (i := 394) (by decide +kernel)) rfl
theorem w_co_yX2_flag : Cond.code yX2_flag cX2_flag 2 none ∈ wAll := wAll_of (List.mem_of_getElem? (i := 395) (by rfl)) rfl
theorem w_m_X2_105 : Cond.methodLink RX2 105 yX2_doTwo ∈ wAll := wAll_of (List.mem_of_getElem? (i := 396) (by decide +kernel)) rfl
theorem w_im_yX2_doTwo : Cond.instanceMethod yX2_doTwo ∈ wAll := wAll_of (List.mem_of_getElem? (i := 398) (by decide +kernel)) rfl
theorem w_co_yX2_doTwo : Cond.code yX2_doTwo cX2_doTwo 8 none ∈ wAll := wAll_of (List.mem_of_getElem? (i := 399) (by rfl)) rfl
theorem w_m_X2_63 : Cond.methodLink RX2 63 yX2_two ∈ wAll := wAll_of (List.mem_of_getElem? (i := 400) (by decide +kernel)) rfl
theorem w_im_yX2_two : Cond.instanceMethod yX2_two ∈ wAll := wAll_of (List.mem_of_getElem? (i := 402) (by decide +kernel)) rfl
theorem w_co_yX2_two : Cond.code yX2_two cX2_two 10 (some .int) ∈ wAll := wAll_of (List.mem_of_getElem? (i := 403) (by rfl)) rfl
theorem w_m_L_43 : Cond.methodLink RL 43 yX2_run ∈ wAll := wAll_of (List.mem_of_getElem? (i := 404) (by decide +kernel)) rfl
theorem w_im_yX2_run : Cond.instanceMethod yX2_run ∈ wAll := wAll_of (List.mem_of_getElem? (i := 405) (by decide +kernel)) rfl
theorem w_sel_yX2_run : Cond.selects RX2 yX2_run yX2_run ∈ wAll := wAll_of (List.mem_of_getElem? (i := 406) (by decide +kernel)) rfl
theorem w_co_yX2_run : Cond.code yX2_run cX2_run 3 (some .int) ∈ wAll := wAll_of (List.mem_of_getElem? (i := 407) (by rfl)) rfl
theorem w_m_X2_108 : Cond.methodLink RX2 108 yX2_step ∈ wAll := wAll_of (List.mem_of_getElem? (i := 408) (by decide +kernel)) rfl
theorem w_sel_yX0_packed : Cond.selects RX0 yX0_packed yX0_packed ∈ wAll := wAll_ps (List.mem_of_getElem? (i := 0) (by decide +kernel)) rfl
theorem w_sel_yX1_doInstruction : Cond.selects RX1 yX1_doInstruction yX1_doInstruction ∈ wAll := wAll_ps (List.mem_of_getElem? (i := 1) (by decide +kernel)) rfl
theorem w_sel_yX1_stepUp : Cond.selects RX1 yX1_stepUp yX1_stepUp ∈ wAll := wAll_ps (List.mem_of_getElem? (i := 2) (by decide +kernel)) rfl
theorem w_sel_yX1_readWord : Cond.selects RX1 yX1_readWord yX1_readWord ∈ wAll := wAll_ps (List.mem_of_getElem? (i := 3) (by decide +kernel)) rfl
theorem w_sel_yX1_perform : Cond.selects RX1 yX1_perform yX1_perform ∈ wAll := wAll_ps (List.mem_of_getElem? (i := 4) (by decide +kernel)) rfl
theorem w_sel_yX1_doTwoOperands : Cond.selects RX1 yX1_doTwoOperands yX1_doTwoOperands ∈ wAll := wAll_ps (List.mem_of_getElem? (i := 5) (by decide +kernel)) rfl
theorem w_sel_yX1_readOperand : Cond.selects RX1 yX1_readOperand yX1_readOperand ∈ wAll := wAll_ps (List.mem_of_getElem? (i := 6) (by decide +kernel)) rfl
theorem w_sel_yX1_findAddress : Cond.selects RX1 yX1_findAddress yX1_findAddress ∈ wAll := wAll_ps (List.mem_of_getElem? (i := 7) (by decide +kernel)) rfl
theorem w_sel_yX1_stepDown : Cond.selects RX1 yX1_stepDown yX1_stepDown ∈ wAll := wAll_ps (List.mem_of_getElem? (i := 8) (by decide +kernel)) rfl
theorem w_sel_yX1_readByte : Cond.selects RX1 yX1_readByte yX1_readByte ∈ wAll := wAll_ps (List.mem_of_getElem? (i := 9) (by decide +kernel)) rfl
theorem w_sel_yX0_takeWidth : Cond.selects RX0 yX0_takeWidth yX0_takeWidth ∈ wAll := wAll_ps (List.mem_of_getElem? (i := 10) (by decide +kernel)) rfl
theorem w_sel_yX0_ofTwo : Cond.selects RX0 yX0_ofTwo yX0_ofTwo ∈ wAll := wAll_ps (List.mem_of_getElem? (i := 11) (by decide +kernel)) rfl
theorem w_sel_yX0_logical : Cond.selects RX0 yX0_logical yX0_logical ∈ wAll := wAll_ps (List.mem_of_getElem? (i := 12) (by decide +kernel)) rfl
theorem w_sel_yX0_settled : Cond.selects RX0 yX0_settled yX0_settled ∈ wAll := wAll_ps (List.mem_of_getElem? (i := 13) (by decide +kernel)) rfl
theorem w_sel_yX0_difference : Cond.selects RX0 yX0_difference yX0_difference ∈ wAll := wAll_ps (List.mem_of_getElem? (i := 14) (by decide +kernel)) rfl
theorem w_sel_yX0_sum : Cond.selects RX0 yX0_sum yX0_sum ∈ wAll := wAll_ps (List.mem_of_getElem? (i := 15) (by decide +kernel)) rfl
theorem w_sel_yX1_putSigned : Cond.selects RX1 yX1_putSigned yX1_putSigned ∈ wAll := wAll_ps (List.mem_of_getElem? (i := 16) (by decide +kernel)) rfl
theorem w_sel_yX1_putResult : Cond.selects RX1 yX1_putResult yX1_putResult ∈ wAll := wAll_ps (List.mem_of_getElem? (i := 17) (by decide +kernel)) rfl
theorem w_sel_yX1_doOneOperand : Cond.selects RX1 yX1_doOneOperand yX1_doOneOperand ∈ wAll := wAll_ps (List.mem_of_getElem? (i := 18) (by decide +kernel)) rfl
theorem w_sel_yX0_ofShift : Cond.selects RX0 yX0_ofShift yX0_ofShift ∈ wAll := wAll_ps (List.mem_of_getElem? (i := 19) (by decide +kernel)) rfl
theorem w_sel_yX0_shifted : Cond.selects RX0 yX0_shifted yX0_shifted ∈ wAll := wAll_ps (List.mem_of_getElem? (i := 20) (by decide +kernel)) rfl
theorem w_sel_yX0_ofOne : Cond.selects RX0 yX0_ofOne yX0_ofOne ∈ wAll := wAll_ps (List.mem_of_getElem? (i := 21) (by decide +kernel)) rfl
theorem w_sel_yX0_swapped : Cond.selects RX0 yX0_swapped yX0_swapped ∈ wAll := wAll_ps (List.mem_of_getElem? (i := 22) (by decide +kernel)) rfl
theorem w_sel_yX1_doBranch : Cond.selects RX1 yX1_doBranch yX1_doBranch ∈ wAll := wAll_ps (List.mem_of_getElem? (i := 23) (by decide +kernel)) rfl
theorem w_sel_yX0_allows : Cond.selects RX0 yX0_allows yX0_allows ∈ wAll := wAll_ps (List.mem_of_getElem? (i := 24) (by decide +kernel)) rfl
theorem w_sel_yX1_doSubtractAndBranch : Cond.selects RX1 yX1_doSubtractAndBranch yX1_doSubtractAndBranch ∈ wAll := wAll_ps (List.mem_of_getElem? (i := 25) (by decide +kernel)) rfl
theorem w_sel_yX1_doJump : Cond.selects RX1 yX1_doJump yX1_doJump ∈ wAll := wAll_ps (List.mem_of_getElem? (i := 26) (by decide +kernel)) rfl
theorem w_sel_yX1_findTarget : Cond.selects RX1 yX1_findTarget yX1_findTarget ∈ wAll := wAll_ps (List.mem_of_getElem? (i := 27) (by decide +kernel)) rfl
theorem w_sel_yX1_doJumpToSubroutine : Cond.selects RX1 yX1_doJumpToSubroutine yX1_doJumpToSubroutine ∈ wAll := wAll_ps (List.mem_of_getElem? (i := 28) (by decide +kernel)) rfl
theorem w_sel_yX1_doReturn : Cond.selects RX1 yX1_doReturn yX1_doReturn ∈ wAll := wAll_ps (List.mem_of_getElem? (i := 29) (by decide +kernel)) rfl
theorem w_sel_yX1_doFlags : Cond.selects RX1 yX1_doFlags yX1_doFlags ∈ wAll := wAll_ps (List.mem_of_getElem? (i := 30) (by decide +kernel)) rfl
theorem w_sel_yX0_change : Cond.selects RX0 yX0_change yX0_change ∈ wAll := wAll_ps (List.mem_of_getElem? (i := 31) (by decide +kernel)) rfl
theorem w_sel_yX2_following : Cond.selects RX2 yX2_following yX2_following ∈ wAll := wAll_ps (List.mem_of_getElem? (i := 32) (by decide +kernel)) rfl
theorem w_sel_yX2_add : Cond.selects RX2 yX2_add yX2_add ∈ wAll := wAll_ps (List.mem_of_getElem? (i := 33) (by decide +kernel)) rfl
theorem w_sel_yX2_word : Cond.selects RX2 yX2_word yX2_word ∈ wAll := wAll_ps (List.mem_of_getElem? (i := 34) (by decide +kernel)) rfl
theorem w_sel_yX2_count : Cond.selects RX2 yX2_count yX2_count ∈ wAll := wAll_ps (List.mem_of_getElem? (i := 35) (by decide +kernel)) rfl
theorem w_sel_yX2_doOther : Cond.selects RX2 yX2_doOther yX2_doOther ∈ wAll := wAll_ps (List.mem_of_getElem? (i := 36) (by decide +kernel)) rfl
theorem w_sel_yX2_branch : Cond.selects RX2 yX2_branch yX2_branch ∈ wAll := wAll_ps (List.mem_of_getElem? (i := 37) (by decide +kernel)) rfl
theorem w_sel_yX2_isTrue : Cond.selects RX2 yX2_isTrue yX2_isTrue ∈ wAll := wAll_ps (List.mem_of_getElem? (i := 38) (by decide +kernel)) rfl
theorem w_sel_yX2_doOne : Cond.selects RX2 yX2_doOne yX2_doOne ∈ wAll := wAll_ps (List.mem_of_getElem? (i := 39) (by decide +kernel)) rfl
theorem w_sel_yX2_find : Cond.selects RX2 yX2_find yX2_find ∈ wAll := wAll_ps (List.mem_of_getElem? (i := 40) (by decide +kernel)) rfl
theorem w_sel_yX2_read : Cond.selects RX2 yX2_read yX2_read ∈ wAll := wAll_ps (List.mem_of_getElem? (i := 41) (by decide +kernel)) rfl
theorem w_sel_yX2_octet : Cond.selects RX2 yX2_octet yX2_octet ∈ wAll := wAll_ps (List.mem_of_getElem? (i := 42) (by decide +kernel)) rfl
theorem w_sel_yX2_tell : Cond.selects RX2 yX2_tell yX2_tell ∈ wAll := wAll_ps (List.mem_of_getElem? (i := 43) (by decide +kernel)) rfl
theorem w_sel_yX2_one : Cond.selects RX2 yX2_one yX2_one ∈ wAll := wAll_ps (List.mem_of_getElem? (i := 44) (by decide +kernel)) rfl
theorem w_sel_yX2_moved : Cond.selects RX2 yX2_moved yX2_moved ∈ wAll := wAll_ps (List.mem_of_getElem? (i := 45) (by decide +kernel)) rfl
theorem w_sel_yX2_put : Cond.selects RX2 yX2_put yX2_put ∈ wAll := wAll_ps (List.mem_of_getElem? (i := 46) (by decide +kernel)) rfl
theorem w_sel_yX2_jump : Cond.selects RX2 yX2_jump yX2_jump ∈ wAll := wAll_ps (List.mem_of_getElem? (i := 47) (by decide +kernel)) rfl
theorem w_sel_yX2_back : Cond.selects RX2 yX2_back yX2_back ∈ wAll := wAll_ps (List.mem_of_getElem? (i := 48) (by decide +kernel)) rfl
theorem w_sel_yX2_flag : Cond.selects RX2 yX2_flag yX2_flag ∈ wAll := wAll_ps (List.mem_of_getElem? (i := 49) (by decide +kernel)) rfl
theorem w_sel_yX2_doTwo : Cond.selects RX2 yX2_doTwo yX2_doTwo ∈ wAll := wAll_ps (List.mem_of_getElem? (i := 50) (by decide +kernel)) rfl
theorem w_sel_yX2_two : Cond.selects RX2 yX2_two yX2_two ∈ wAll := wAll_ps (List.mem_of_getElem? (i := 51) (by decide +kernel)) rfl
theorem w_flX0 : ∀ w ∈ u_ws RX0 TX0 6, w ∈ wAll := by decide +kernel
theorem w_flX1 : ∀ w ∈ u_ws RX1 TX1 7, w ∈ wAll := by decide +kernel
theorem w_flX2 : ∀ w ∈ u_ws RX2 TX2 7, w ∈ wAll := by decide +kernel
