section
-- ===== PART A: goes FIRST, ahead of the names: the tables' words, and 'selects' of the private methods out of them =====
/-- a private method of a class that the tables say can be made, by its rows of tables_1 -/
def lw_okq (q : MethodName × Nat) : Prop := (q.1.cls ≠ "java/lang/invoke/MethodHandle" ∧ q.1.cls ≠ "java/lang/invoke/VarHandle") ∧ Cond.instantiable q.1.cls q.2 ∈ tables_1 ∧ Cond.privateMethod q.1 ∈ tables_1 ∧ Cond.instanceMethod q.1 ∈ tables_1
theorem lw_p0 : lw_okq (⟨"MicroEight$Keyboard", "reset", "()V"⟩, 2) := ⟨⟨by decide +kernel, by decide +kernel⟩, List.mem_of_getElem? (i := 15) (by decide +kernel), List.mem_of_getElem? (i := 111) (by decide +kernel), List.mem_of_getElem? (i := 112) (by decide +kernel)⟩
theorem lw_p1 : lw_okq (⟨"MicroEight$Printer", "reset", "()V"⟩, 3) := ⟨⟨by decide +kernel, by decide +kernel⟩, List.mem_of_getElem? (i := 31) (by decide +kernel), List.mem_of_getElem? (i := 115) (by decide +kernel), List.mem_of_getElem? (i := 116) (by decide +kernel)⟩
theorem lw_p2 : lw_okq (⟨"MicroEight", "write", "(II)V"⟩, 17) := ⟨⟨by decide +kernel, by decide +kernel⟩, List.mem_of_getElem? (i := 7) (by decide +kernel), List.mem_of_getElem? (i := 126) (by decide +kernel), List.mem_of_getElem? (i := 127) (by decide +kernel)⟩
theorem lw_p3 : lw_okq (⟨"MicroEight", "read", "(I)I"⟩, 17) := ⟨⟨by decide +kernel, by decide +kernel⟩, List.mem_of_getElem? (i := 7) (by decide +kernel), List.mem_of_getElem? (i := 134) (by decide +kernel), List.mem_of_getElem? (i := 135) (by decide +kernel)⟩
theorem lw_p4 : lw_okq (⟨"MicroEight$Keyboard", "press", "(I)V"⟩, 2) := ⟨⟨by decide +kernel, by decide +kernel⟩, List.mem_of_getElem? (i := 15) (by decide +kernel), List.mem_of_getElem? (i := 154) (by decide +kernel), List.mem_of_getElem? (i := 155) (by decide +kernel)⟩
theorem lw_p5 : lw_okq (⟨"MicroEight$Printer", "isFull", "()Z"⟩, 3) := ⟨⟨by decide +kernel, by decide +kernel⟩, List.mem_of_getElem? (i := 31) (by decide +kernel), List.mem_of_getElem? (i := 162) (by decide +kernel), List.mem_of_getElem? (i := 163) (by decide +kernel)⟩
theorem lw_p6 : lw_okq (⟨"MicroEight", "perform", "(I)I"⟩, 17) := ⟨⟨by decide +kernel, by decide +kernel⟩, List.mem_of_getElem? (i := 7) (by decide +kernel), List.mem_of_getElem? (i := 166) (by decide +kernel), List.mem_of_getElem? (i := 167) (by decide +kernel)⟩
theorem lw_p7 : lw_okq (⟨"MicroEight", "begin", "()I"⟩, 17) := ⟨⟨by decide +kernel, by decide +kernel⟩, List.mem_of_getElem? (i := 7) (by decide +kernel), List.mem_of_getElem? (i := 170) (by decide +kernel), List.mem_of_getElem? (i := 171) (by decide +kernel)⟩
theorem lw_p8 : lw_okq (⟨"MicroEight", "advancePc", "()V"⟩, 17) := ⟨⟨by decide +kernel, by decide +kernel⟩, List.mem_of_getElem? (i := 7) (by decide +kernel), List.mem_of_getElem? (i := 174) (by decide +kernel), List.mem_of_getElem? (i := 175) (by decide +kernel)⟩
theorem lw_p9 : lw_okq (⟨"MicroEight", "fetch", "()I"⟩, 17) := ⟨⟨by decide +kernel, by decide +kernel⟩, List.mem_of_getElem? (i := 7) (by decide +kernel), List.mem_of_getElem? (i := 178) (by decide +kernel), List.mem_of_getElem? (i := 179) (by decide +kernel)⟩
theorem lw_p10 : lw_okq (⟨"MicroEight", "findAddress", "()I"⟩, 17) := ⟨⟨by decide +kernel, by decide +kernel⟩, List.mem_of_getElem? (i := 7) (by decide +kernel), List.mem_of_getElem? (i := 182) (by decide +kernel), List.mem_of_getElem? (i := 183) (by decide +kernel)⟩
theorem lw_p11 : lw_okq (⟨"MicroEight", "irHas", "(I)Z"⟩, 17) := ⟨⟨by decide +kernel, by decide +kernel⟩, List.mem_of_getElem? (i := 7) (by decide +kernel), List.mem_of_getElem? (i := 186) (by decide +kernel), List.mem_of_getElem? (i := 187) (by decide +kernel)⟩
theorem lw_p12 : lw_okq (⟨"MicroEight", "firstOfInstruction", "()I"⟩, 17) := ⟨⟨by decide +kernel, by decide +kernel⟩, List.mem_of_getElem? (i := 7) (by decide +kernel), List.mem_of_getElem? (i := 190) (by decide +kernel), List.mem_of_getElem? (i := 191) (by decide +kernel)⟩
theorem lw_p13 : lw_okq (⟨"MicroEight", "readPointer", "()I"⟩, 17) := ⟨⟨by decide +kernel, by decide +kernel⟩, List.mem_of_getElem? (i := 7) (by decide +kernel), List.mem_of_getElem? (i := 194) (by decide +kernel), List.mem_of_getElem? (i := 195) (by decide +kernel)⟩
theorem lw_p14 : lw_okq (⟨"MicroEight", "advancePointer", "()I"⟩, 17) := ⟨⟨by decide +kernel, by decide +kernel⟩, List.mem_of_getElem? (i := 7) (by decide +kernel), List.mem_of_getElem? (i := 198) (by decide +kernel), List.mem_of_getElem? (i := 199) (by decide +kernel)⟩
theorem lw_p15 : lw_okq (⟨"MicroEight", "followPointer", "()I"⟩, 17) := ⟨⟨by decide +kernel, by decide +kernel⟩, List.mem_of_getElem? (i := 7) (by decide +kernel), List.mem_of_getElem? (i := 202) (by decide +kernel), List.mem_of_getElem? (i := 203) (by decide +kernel)⟩
def lw_privs_1 : List (MethodName × Nat) := [(⟨"MicroEight$Keyboard", "reset", "()V"⟩, 2), (⟨"MicroEight$Printer", "reset", "()V"⟩, 3), (⟨"MicroEight", "write", "(II)V"⟩, 17), (⟨"MicroEight", "read", "(I)I"⟩, 17), (⟨"MicroEight$Keyboard", "press", "(I)V"⟩, 2), (⟨"MicroEight$Printer", "isFull", "()Z"⟩, 3), (⟨"MicroEight", "perform", "(I)I"⟩, 17), (⟨"MicroEight", "begin", "()I"⟩, 17), (⟨"MicroEight", "advancePc", "()V"⟩, 17), (⟨"MicroEight", "fetch", "()I"⟩, 17), (⟨"MicroEight", "findAddress", "()I"⟩, 17), (⟨"MicroEight", "irHas", "(I)Z"⟩, 17), (⟨"MicroEight", "firstOfInstruction", "()I"⟩, 17), (⟨"MicroEight", "readPointer", "()I"⟩, 17), (⟨"MicroEight", "advancePointer", "()I"⟩, 17), (⟨"MicroEight", "followPointer", "()I"⟩, 17)]
theorem lw_r1 : ∀ q ∈ lw_privs_1, lw_okq q := List.forall_mem_cons.mpr ⟨lw_p0, List.forall_mem_cons.mpr ⟨lw_p1, List.forall_mem_cons.mpr ⟨lw_p2, List.forall_mem_cons.mpr ⟨lw_p3, List.forall_mem_cons.mpr ⟨lw_p4, List.forall_mem_cons.mpr ⟨lw_p5, List.forall_mem_cons.mpr ⟨lw_p6, List.forall_mem_cons.mpr ⟨lw_p7, List.forall_mem_cons.mpr ⟨lw_p8, List.forall_mem_cons.mpr ⟨lw_p9, List.forall_mem_cons.mpr ⟨lw_p10, List.forall_mem_cons.mpr ⟨lw_p11, List.forall_mem_cons.mpr ⟨lw_p12, List.forall_mem_cons.mpr ⟨lw_p13, List.forall_mem_cons.mpr ⟨lw_p14, List.forall_mem_cons.mpr ⟨lw_p15, fun _ h => absurd h List.not_mem_nil⟩⟩⟩⟩⟩⟩⟩⟩⟩⟩⟩⟩⟩⟩⟩⟩
theorem lw_p16 : lw_okq (⟨"MicroEight", "readOperand", "(I)I"⟩, 17) := ⟨⟨by decide +kernel, by decide +kernel⟩, List.mem_of_getElem? (i := 7) (by decide +kernel), List.mem_of_getElem? (i := 206) (by decide +kernel), List.mem_of_getElem? (i := 207) (by decide +kernel)⟩
theorem lw_p17 : lw_okq (⟨"MicroEight", "readOneMore", "()I"⟩, 17) := ⟨⟨by decide +kernel, by decide +kernel⟩, List.mem_of_getElem? (i := 7) (by decide +kernel), List.mem_of_getElem? (i := 210) (by decide +kernel), List.mem_of_getElem? (i := 211) (by decide +kernel)⟩
theorem lw_p18 : lw_okq (⟨"MicroEight", "takeIntoMb", "(II)I"⟩, 17) := ⟨⟨by decide +kernel, by decide +kernel⟩, List.mem_of_getElem? (i := 7) (by decide +kernel), List.mem_of_getElem? (i := 214) (by decide +kernel), List.mem_of_getElem? (i := 215) (by decide +kernel)⟩
theorem lw_p19 : lw_okq (⟨"MicroEight", "jump", "()I"⟩, 17) := ⟨⟨by decide +kernel, by decide +kernel⟩, List.mem_of_getElem? (i := 7) (by decide +kernel), List.mem_of_getElem? (i := 218) (by decide +kernel), List.mem_of_getElem? (i := 219) (by decide +kernel)⟩
theorem lw_p20 : lw_okq (⟨"MicroEight", "storeAndGoBehind", "()I"⟩, 17) := ⟨⟨by decide +kernel, by decide +kernel⟩, List.mem_of_getElem? (i := 7) (by decide +kernel), List.mem_of_getElem? (i := 222) (by decide +kernel), List.mem_of_getElem? (i := 223) (by decide +kernel)⟩
theorem lw_p21 : lw_okq (⟨"MicroEight", "andOperand", "()I"⟩, 17) := ⟨⟨by decide +kernel, by decide +kernel⟩, List.mem_of_getElem? (i := 7) (by decide +kernel), List.mem_of_getElem? (i := 226) (by decide +kernel), List.mem_of_getElem? (i := 227) (by decide +kernel)⟩
theorem lw_p22 : lw_okq (⟨"MicroEight", "addOperand", "()I"⟩, 17) := ⟨⟨by decide +kernel, by decide +kernel⟩, List.mem_of_getElem? (i := 7) (by decide +kernel), List.mem_of_getElem? (i := 230) (by decide +kernel), List.mem_of_getElem? (i := 231) (by decide +kernel)⟩
theorem lw_p23 : lw_okq (⟨"MicroEight", "addToAc", "(I)V"⟩, 17) := ⟨⟨by decide +kernel, by decide +kernel⟩, List.mem_of_getElem? (i := 7) (by decide +kernel), List.mem_of_getElem? (i := 234) (by decide +kernel), List.mem_of_getElem? (i := 235) (by decide +kernel)⟩
theorem lw_p24 : lw_okq (⟨"MicroEight", "turnLinkOver", "()V"⟩, 17) := ⟨⟨by decide +kernel, by decide +kernel⟩, List.mem_of_getElem? (i := 7) (by decide +kernel), List.mem_of_getElem? (i := 238) (by decide +kernel), List.mem_of_getElem? (i := 239) (by decide +kernel)⟩
theorem lw_p25 : lw_okq (⟨"MicroEight", "storeAndSkipIfZero", "()I"⟩, 17) := ⟨⟨by decide +kernel, by decide +kernel⟩, List.mem_of_getElem? (i := 7) (by decide +kernel), List.mem_of_getElem? (i := 242) (by decide +kernel), List.mem_of_getElem? (i := 243) (by decide +kernel)⟩
theorem lw_p26 : lw_okq (⟨"MicroEight", "storeAndClear", "()I"⟩, 17) := ⟨⟨by decide +kernel, by decide +kernel⟩, List.mem_of_getElem? (i := 7) (by decide +kernel), List.mem_of_getElem? (i := 246) (by decide +kernel), List.mem_of_getElem? (i := 247) (by decide +kernel)⟩
theorem lw_p27 : lw_okq (⟨"MicroEight", "chooseOperateGroup", "()I"⟩, 17) := ⟨⟨by decide +kernel, by decide +kernel⟩, List.mem_of_getElem? (i := 7) (by decide +kernel), List.mem_of_getElem? (i := 250) (by decide +kernel), List.mem_of_getElem? (i := 251) (by decide +kernel)⟩
theorem lw_p28 : lw_okq (⟨"MicroEight", "clear", "()I"⟩, 17) := ⟨⟨by decide +kernel, by decide +kernel⟩, List.mem_of_getElem? (i := 7) (by decide +kernel), List.mem_of_getElem? (i := 254) (by decide +kernel), List.mem_of_getElem? (i := 255) (by decide +kernel)⟩
theorem lw_p29 : lw_okq (⟨"MicroEight", "clearAcIfAsked", "()V"⟩, 17) := ⟨⟨by decide +kernel, by decide +kernel⟩, List.mem_of_getElem? (i := 7) (by decide +kernel), List.mem_of_getElem? (i := 258) (by decide +kernel), List.mem_of_getElem? (i := 259) (by decide +kernel)⟩
theorem lw_p30 : lw_okq (⟨"MicroEight", "complement", "()I"⟩, 17) := ⟨⟨by decide +kernel, by decide +kernel⟩, List.mem_of_getElem? (i := 7) (by decide +kernel), List.mem_of_getElem? (i := 262) (by decide +kernel), List.mem_of_getElem? (i := 263) (by decide +kernel)⟩
theorem lw_p31 : lw_okq (⟨"MicroEight", "increment", "()I"⟩, 17) := ⟨⟨by decide +kernel, by decide +kernel⟩, List.mem_of_getElem? (i := 7) (by decide +kernel), List.mem_of_getElem? (i := 266) (by decide +kernel), List.mem_of_getElem? (i := 267) (by decide +kernel)⟩
def lw_privs_2 : List (MethodName × Nat) := [(⟨"MicroEight", "readOperand", "(I)I"⟩, 17), (⟨"MicroEight", "readOneMore", "()I"⟩, 17), (⟨"MicroEight", "takeIntoMb", "(II)I"⟩, 17), (⟨"MicroEight", "jump", "()I"⟩, 17), (⟨"MicroEight", "storeAndGoBehind", "()I"⟩, 17), (⟨"MicroEight", "andOperand", "()I"⟩, 17), (⟨"MicroEight", "addOperand", "()I"⟩, 17), (⟨"MicroEight", "addToAc", "(I)V"⟩, 17), (⟨"MicroEight", "turnLinkOver", "()V"⟩, 17), (⟨"MicroEight", "storeAndSkipIfZero", "()I"⟩, 17), (⟨"MicroEight", "storeAndClear", "()I"⟩, 17), (⟨"MicroEight", "chooseOperateGroup", "()I"⟩, 17), (⟨"MicroEight", "clear", "()I"⟩, 17), (⟨"MicroEight", "clearAcIfAsked", "()V"⟩, 17), (⟨"MicroEight", "complement", "()I"⟩, 17), (⟨"MicroEight", "increment", "()I"⟩, 17)]
theorem lw_r2 : ∀ q ∈ lw_privs_2, lw_okq q := List.forall_mem_cons.mpr ⟨lw_p16, List.forall_mem_cons.mpr ⟨lw_p17, List.forall_mem_cons.mpr ⟨lw_p18, List.forall_mem_cons.mpr ⟨lw_p19, List.forall_mem_cons.mpr ⟨lw_p20, List.forall_mem_cons.mpr ⟨lw_p21, List.forall_mem_cons.mpr ⟨lw_p22, List.forall_mem_cons.mpr ⟨lw_p23, List.forall_mem_cons.mpr ⟨lw_p24, List.forall_mem_cons.mpr ⟨lw_p25, List.forall_mem_cons.mpr ⟨lw_p26, List.forall_mem_cons.mpr ⟨lw_p27, List.forall_mem_cons.mpr ⟨lw_p28, List.forall_mem_cons.mpr ⟨lw_p29, List.forall_mem_cons.mpr ⟨lw_p30, List.forall_mem_cons.mpr ⟨lw_p31, fun _ h => absurd h List.not_mem_nil⟩⟩⟩⟩⟩⟩⟩⟩⟩⟩⟩⟩⟩⟩⟩⟩
theorem lw_p32 : lw_okq (⟨"MicroEight", "rotateFirst", "()I"⟩, 17) := ⟨⟨by decide +kernel, by decide +kernel⟩, List.mem_of_getElem? (i := 7) (by decide +kernel), List.mem_of_getElem? (i := 270) (by decide +kernel), List.mem_of_getElem? (i := 271) (by decide +kernel)⟩
theorem lw_p33 : lw_okq (⟨"MicroEight", "rotate", "()V"⟩, 17) := ⟨⟨by decide +kernel, by decide +kernel⟩, List.mem_of_getElem? (i := 7) (by decide +kernel), List.mem_of_getElem? (i := 274) (by decide +kernel), List.mem_of_getElem? (i := 275) (by decide +kernel)⟩
theorem lw_p34 : lw_okq (⟨"MicroEight", "rotateLast", "()I"⟩, 17) := ⟨⟨by decide +kernel, by decide +kernel⟩, List.mem_of_getElem? (i := 7) (by decide +kernel), List.mem_of_getElem? (i := 278) (by decide +kernel), List.mem_of_getElem? (i := 279) (by decide +kernel)⟩
theorem lw_p35 : lw_okq (⟨"MicroEight", "test", "()I"⟩, 17) := ⟨⟨by decide +kernel, by decide +kernel⟩, List.mem_of_getElem? (i := 7) (by decide +kernel), List.mem_of_getElem? (i := 282) (by decide +kernel), List.mem_of_getElem? (i := 283) (by decide +kernel)⟩
theorem lw_p36 : lw_okq (⟨"MicroEight", "clearAfterTest", "()I"⟩, 17) := ⟨⟨by decide +kernel, by decide +kernel⟩, List.mem_of_getElem? (i := 7) (by decide +kernel), List.mem_of_getElem? (i := 286) (by decide +kernel), List.mem_of_getElem? (i := 287) (by decide +kernel)⟩
theorem lw_p37 : lw_okq (⟨"MicroEight", "switchesAndHalt", "()I"⟩, 17) := ⟨⟨by decide +kernel, by decide +kernel⟩, List.mem_of_getElem? (i := 7) (by decide +kernel), List.mem_of_getElem? (i := 290) (by decide +kernel), List.mem_of_getElem? (i := 291) (by decide +kernel)⟩
theorem lw_p38 : lw_okq (⟨"MicroEight", "clearBeforeMq", "()I"⟩, 17) := ⟨⟨by decide +kernel, by decide +kernel⟩, List.mem_of_getElem? (i := 7) (by decide +kernel), List.mem_of_getElem? (i := 294) (by decide +kernel), List.mem_of_getElem? (i := 295) (by decide +kernel)⟩
theorem lw_p39 : lw_okq (⟨"MicroEight", "exchangeMq", "()I"⟩, 17) := ⟨⟨by decide +kernel, by decide +kernel⟩, List.mem_of_getElem? (i := 7) (by decide +kernel), List.mem_of_getElem? (i := 298) (by decide +kernel), List.mem_of_getElem? (i := 299) (by decide +kernel)⟩
theorem lw_p40 : lw_okq (⟨"MicroEight", "chooseDevice", "()I"⟩, 17) := ⟨⟨by decide +kernel, by decide +kernel⟩, List.mem_of_getElem? (i := 7) (by decide +kernel), List.mem_of_getElem? (i := 302) (by decide +kernel), List.mem_of_getElem? (i := 303) (by decide +kernel)⟩
theorem lw_p41 : lw_okq (⟨"MicroEight", "turnInterrupts", "()I"⟩, 17) := ⟨⟨by decide +kernel, by decide +kernel⟩, List.mem_of_getElem? (i := 7) (by decide +kernel), List.mem_of_getElem? (i := 306) (by decide +kernel), List.mem_of_getElem? (i := 307) (by decide +kernel)⟩
theorem lw_p42 : lw_okq (⟨"MicroEight", "askKeyboard", "()I"⟩, 17) := ⟨⟨by decide +kernel, by decide +kernel⟩, List.mem_of_getElem? (i := 7) (by decide +kernel), List.mem_of_getElem? (i := 310) (by decide +kernel), List.mem_of_getElem? (i := 311) (by decide +kernel)⟩
theorem lw_p43 : lw_okq (⟨"MicroEight", "readKeyboard", "()I"⟩, 17) := ⟨⟨by decide +kernel, by decide +kernel⟩, List.mem_of_getElem? (i := 7) (by decide +kernel), List.mem_of_getElem? (i := 314) (by decide +kernel), List.mem_of_getElem? (i := 315) (by decide +kernel)⟩
theorem lw_p44 : lw_okq (⟨"MicroEight", "askPrinter", "()I"⟩, 17) := ⟨⟨by decide +kernel, by decide +kernel⟩, List.mem_of_getElem? (i := 7) (by decide +kernel), List.mem_of_getElem? (i := 318) (by decide +kernel), List.mem_of_getElem? (i := 319) (by decide +kernel)⟩
theorem lw_p45 : lw_okq (⟨"MicroEight", "writePrinter", "()I"⟩, 17) := ⟨⟨by decide +kernel, by decide +kernel⟩, List.mem_of_getElem? (i := 7) (by decide +kernel), List.mem_of_getElem? (i := 322) (by decide +kernel), List.mem_of_getElem? (i := 323) (by decide +kernel)⟩
theorem lw_p46 : lw_okq (⟨"MicroEight$Printer", "print", "(I)V"⟩, 3) := ⟨⟨by decide +kernel, by decide +kernel⟩, List.mem_of_getElem? (i := 31) (by decide +kernel), List.mem_of_getElem? (i := 326) (by decide +kernel), List.mem_of_getElem? (i := 327) (by decide +kernel)⟩
theorem lw_p47 : lw_okq (⟨"MicroEight", "interrupt", "()I"⟩, 17) := ⟨⟨by decide +kernel, by decide +kernel⟩, List.mem_of_getElem? (i := 7) (by decide +kernel), List.mem_of_getElem? (i := 331) (by decide +kernel), List.mem_of_getElem? (i := 332) (by decide +kernel)⟩
def lw_privs_3 : List (MethodName × Nat) := [(⟨"MicroEight", "rotateFirst", "()I"⟩, 17), (⟨"MicroEight", "rotate", "()V"⟩, 17), (⟨"MicroEight", "rotateLast", "()I"⟩, 17), (⟨"MicroEight", "test", "()I"⟩, 17), (⟨"MicroEight", "clearAfterTest", "()I"⟩, 17), (⟨"MicroEight", "switchesAndHalt", "()I"⟩, 17), (⟨"MicroEight", "clearBeforeMq", "()I"⟩, 17), (⟨"MicroEight", "exchangeMq", "()I"⟩, 17), (⟨"MicroEight", "chooseDevice", "()I"⟩, 17), (⟨"MicroEight", "turnInterrupts", "()I"⟩, 17), (⟨"MicroEight", "askKeyboard", "()I"⟩, 17), (⟨"MicroEight", "readKeyboard", "()I"⟩, 17), (⟨"MicroEight", "askPrinter", "()I"⟩, 17), (⟨"MicroEight", "writePrinter", "()I"⟩, 17), (⟨"MicroEight$Printer", "print", "(I)V"⟩, 3), (⟨"MicroEight", "interrupt", "()I"⟩, 17)]
theorem lw_r3 : ∀ q ∈ lw_privs_3, lw_okq q := List.forall_mem_cons.mpr ⟨lw_p32, List.forall_mem_cons.mpr ⟨lw_p33, List.forall_mem_cons.mpr ⟨lw_p34, List.forall_mem_cons.mpr ⟨lw_p35, List.forall_mem_cons.mpr ⟨lw_p36, List.forall_mem_cons.mpr ⟨lw_p37, List.forall_mem_cons.mpr ⟨lw_p38, List.forall_mem_cons.mpr ⟨lw_p39, List.forall_mem_cons.mpr ⟨lw_p40, List.forall_mem_cons.mpr ⟨lw_p41, List.forall_mem_cons.mpr ⟨lw_p42, List.forall_mem_cons.mpr ⟨lw_p43, List.forall_mem_cons.mpr ⟨lw_p44, List.forall_mem_cons.mpr ⟨lw_p45, List.forall_mem_cons.mpr ⟨lw_p46, List.forall_mem_cons.mpr ⟨lw_p47, fun _ h => absurd h List.not_mem_nil⟩⟩⟩⟩⟩⟩⟩⟩⟩⟩⟩⟩⟩⟩⟩⟩
theorem lw_p48 : lw_okq (⟨"MicroEight", "conditions", "()I"⟩, 17) := ⟨⟨by decide +kernel, by decide +kernel⟩, List.mem_of_getElem? (i := 7) (by decide +kernel), List.mem_of_getElem? (i := 349) (by decide +kernel), List.mem_of_getElem? (i := 350) (by decide +kernel)⟩
theorem lw_p49 : lw_okq (⟨"MicroEight$Printer", "byteAt", "(I)I"⟩, 3) := ⟨⟨by decide +kernel, by decide +kernel⟩, List.mem_of_getElem? (i := 31) (by decide +kernel), List.mem_of_getElem? (i := 357) (by decide +kernel), List.mem_of_getElem? (i := 358) (by decide +kernel)⟩
theorem lw_p50 : lw_okq (⟨"MicroEightModel", "fetch", "()I"⟩, 21) := ⟨⟨by decide +kernel, by decide +kernel⟩, List.mem_of_getElem? (i := 364) (by decide +kernel), List.mem_of_getElem? (i := 469) (by decide +kernel), List.mem_of_getElem? (i := 470) (by decide +kernel)⟩
theorem lw_p51 : lw_okq (⟨"MicroEightModel", "skip", "(Z)V"⟩, 21) := ⟨⟨by decide +kernel, by decide +kernel⟩, List.mem_of_getElem? (i := 364) (by decide +kernel), List.mem_of_getElem? (i := 473) (by decide +kernel), List.mem_of_getElem? (i := 474) (by decide +kernel)⟩
theorem lw_p52 : lw_okq (⟨"MicroEightModel", "bit", "(I)Z"⟩, 21) := ⟨⟨by decide +kernel, by decide +kernel⟩, List.mem_of_getElem? (i := 364) (by decide +kernel), List.mem_of_getElem? (i := 477) (by decide +kernel), List.mem_of_getElem? (i := 478) (by decide +kernel)⟩
theorem lw_p53 : lw_okq (⟨"MicroEightModel", "memory", "()I"⟩, 21) := ⟨⟨by decide +kernel, by decide +kernel⟩, List.mem_of_getElem? (i := 364) (by decide +kernel), List.mem_of_getElem? (i := 481) (by decide +kernel), List.mem_of_getElem? (i := 482) (by decide +kernel)⟩
theorem lw_p54 : lw_okq (⟨"MicroEightModel", "add", "(I)V"⟩, 21) := ⟨⟨by decide +kernel, by decide +kernel⟩, List.mem_of_getElem? (i := 364) (by decide +kernel), List.mem_of_getElem? (i := 485) (by decide +kernel), List.mem_of_getElem? (i := 486) (by decide +kernel)⟩
theorem lw_p55 : lw_okq (⟨"MicroEightModel", "operate", "()I"⟩, 21) := ⟨⟨by decide +kernel, by decide +kernel⟩, List.mem_of_getElem? (i := 364) (by decide +kernel), List.mem_of_getElem? (i := 489) (by decide +kernel), List.mem_of_getElem? (i := 490) (by decide +kernel)⟩
theorem lw_p56 : lw_okq (⟨"MicroEightModel", "rotate", "()V"⟩, 21) := ⟨⟨by decide +kernel, by decide +kernel⟩, List.mem_of_getElem? (i := 364) (by decide +kernel), List.mem_of_getElem? (i := 493) (by decide +kernel), List.mem_of_getElem? (i := 494) (by decide +kernel)⟩
theorem lw_p57 : lw_okq (⟨"MicroEightModel", "test", "()I"⟩, 21) := ⟨⟨by decide +kernel, by decide +kernel⟩, List.mem_of_getElem? (i := 364) (by decide +kernel), List.mem_of_getElem? (i := 497) (by decide +kernel), List.mem_of_getElem? (i := 498) (by decide +kernel)⟩
theorem lw_p58 : lw_okq (⟨"MicroEightModel", "device", "()I"⟩, 21) := ⟨⟨by decide +kernel, by decide +kernel⟩, List.mem_of_getElem? (i := 364) (by decide +kernel), List.mem_of_getElem? (i := 501) (by decide +kernel), List.mem_of_getElem? (i := 502) (by decide +kernel)⟩
theorem lw_p59 : lw_okq (⟨"MicroEightModel", "flags", "()I"⟩, 21) := ⟨⟨by decide +kernel, by decide +kernel⟩, List.mem_of_getElem? (i := 364) (by decide +kernel), List.mem_of_getElem? (i := 519) (by decide +kernel), List.mem_of_getElem? (i := 520) (by decide +kernel)⟩
def lw_privs_4 : List (MethodName × Nat) := [(⟨"MicroEight", "conditions", "()I"⟩, 17), (⟨"MicroEight$Printer", "byteAt", "(I)I"⟩, 3), (⟨"MicroEightModel", "fetch", "()I"⟩, 21), (⟨"MicroEightModel", "skip", "(Z)V"⟩, 21), (⟨"MicroEightModel", "bit", "(I)Z"⟩, 21), (⟨"MicroEightModel", "memory", "()I"⟩, 21), (⟨"MicroEightModel", "add", "(I)V"⟩, 21), (⟨"MicroEightModel", "operate", "()I"⟩, 21), (⟨"MicroEightModel", "rotate", "()V"⟩, 21), (⟨"MicroEightModel", "test", "()I"⟩, 21), (⟨"MicroEightModel", "device", "()I"⟩, 21), (⟨"MicroEightModel", "flags", "()I"⟩, 21)]
theorem lw_r4 : ∀ q ∈ lw_privs_4, lw_okq q := List.forall_mem_cons.mpr ⟨lw_p48, List.forall_mem_cons.mpr ⟨lw_p49, List.forall_mem_cons.mpr ⟨lw_p50, List.forall_mem_cons.mpr ⟨lw_p51, List.forall_mem_cons.mpr ⟨lw_p52, List.forall_mem_cons.mpr ⟨lw_p53, List.forall_mem_cons.mpr ⟨lw_p54, List.forall_mem_cons.mpr ⟨lw_p55, List.forall_mem_cons.mpr ⟨lw_p56, List.forall_mem_cons.mpr ⟨lw_p57, List.forall_mem_cons.mpr ⟨lw_p58, List.forall_mem_cons.mpr ⟨lw_p59, fun _ h => absurd h List.not_mem_nil⟩⟩⟩⟩⟩⟩⟩⟩⟩⟩⟩⟩
def lw_privs : List (MethodName × Nat) := lw_privs_1 ++ (lw_privs_2 ++ (lw_privs_3 ++ (lw_privs_4)))
def lw_tbl : List Cond := k2_sels lw_privs ++ tables_1
theorem lw_privs_ok : ∀ q ∈ lw_privs, lw_okq q := by
  show ∀ q ∈ lw_privs_1 ++ (lw_privs_2 ++ (lw_privs_3 ++ (lw_privs_4))), lw_okq q
  exact List.forall_mem_append.mpr ⟨lw_r1, List.forall_mem_append.mpr ⟨lw_r2, List.forall_mem_append.mpr ⟨lw_r3, lw_r4⟩⟩⟩
end
section
def RX : String := "MicroEight"
def RK : String := "MicroEight$Keyboard"
def RP : String := "MicroEight$Printer"
def RM : String := "MicroEightModel"
def RL : String := "MicroEightLaw"
def RJ : String := "java/lang/Math"
def TX : u_T := fun k => match k with
  | 0 => ("MicroEight", "core", "[I", true)
  | 1 => ("MicroEight", "keyboard", "LMicroEight$Keyboard;", true)
  | 2 => ("MicroEight", "printer", "LMicroEight$Printer;", true)
  | 3 => ("MicroEight", "pc", "I", false)
  | 4 => ("MicroEight", "ac", "I", false)
  | 5 => ("MicroEight", "link", "I", false)
  | 6 => ("MicroEight", "mq", "I", false)
  | 7 => ("MicroEight", "ma", "I", false)
  | 8 => ("MicroEight", "mb", "I", false)
  | 9 => ("MicroEight", "ir", "I", false)
  | 10 => ("MicroEight", "switchWord", "I", false)
  | 11 => ("MicroEight", "ion", "Z", false)
  | 12 => ("MicroEight", "delay", "Z", false)
  | 13 => ("MicroEight", "halted", "Z", false)
  | 14 => ("MicroEight", "hasMicrocode", "Z", false)
  | 15 => ("MicroEight", "stepNumber", "I", false)
  | _ => ("MicroEight", "microstepsMade", "I", false)
def tyX : Nat → FieldType := fun k => match k with
  | 0 => .array .int
  | 1 => .object "MicroEight$Keyboard"
  | 2 => .object "MicroEight$Printer"
  | 3 => .int
  | 4 => .int
  | 5 => .int
  | 6 => .int
  | 7 => .int
  | 8 => .int
  | 9 => .int
  | 10 => .int
  | 11 => .boolean
  | 12 => .boolean
  | 13 => .boolean
  | 14 => .boolean
  | 15 => .int
  | _ => .int
theorem nmX : ∀ a, a < 17 → ∀ b, b < 17 → a ≠ b → (TX a).2.1 ≠ (TX b).2.1 := by decide +kernel
theorem tyX_ok : ∀ k, k < 17 → parseFieldDescriptor (TX k).2.2.1 = some (tyX k) := by decide +kernel
def TK : u_T := fun k => match k with
  | 0 => ("MicroEight$Keyboard", "flag", "Z", false)
  | _ => ("MicroEight$Keyboard", "buffer", "I", false)
def tyK : Nat → FieldType := fun k => match k with
  | 0 => .boolean
  | _ => .int
theorem nmK : ∀ a, a < 2 → ∀ b, b < 2 → a ≠ b → (TK a).2.1 ≠ (TK b).2.1 := by decide +kernel
theorem tyK_ok : ∀ k, k < 2 → parseFieldDescriptor (TK k).2.2.1 = some (tyK k) := by decide +kernel
def TP : u_T := fun k => match k with
  | 0 => ("MicroEight$Printer", "bytes", "[I", true)
  | 1 => ("MicroEight$Printer", "count", "I", false)
  | _ => ("MicroEight$Printer", "flag", "Z", false)
def tyP : Nat → FieldType := fun k => match k with
  | 0 => .array .int
  | 1 => .int
  | _ => .boolean
theorem nmP : ∀ a, a < 3 → ∀ b, b < 3 → a ≠ b → (TP a).2.1 ≠ (TP b).2.1 := by decide +kernel
theorem tyP_ok : ∀ k, k < 3 → parseFieldDescriptor (TP k).2.2.1 = some (tyP k) := by decide +kernel
def TM : u_T := fun k => match k with
  | 0 => ("MicroEightModel", "core", "[I", false)
  | 1 => ("MicroEightModel", "cap", "I", false)
  | 2 => ("MicroEightModel", "switches", "I", false)
  | 3 => ("MicroEightModel", "ready", "Z", false)
  | 4 => ("MicroEightModel", "at", "I", false)
  | 5 => ("MicroEightModel", "pc", "I", false)
  | 6 => ("MicroEightModel", "ac", "I", false)
  | 7 => ("MicroEightModel", "link", "I", false)
  | 8 => ("MicroEightModel", "mq", "I", false)
  | 9 => ("MicroEightModel", "ma", "I", false)
  | 10 => ("MicroEightModel", "mb", "I", false)
  | 11 => ("MicroEightModel", "ir", "I", false)
  | 12 => ("MicroEightModel", "ion", "Z", false)
  | 13 => ("MicroEightModel", "delay", "Z", false)
  | 14 => ("MicroEightModel", "halted", "Z", false)
  | 15 => ("MicroEightModel", "keyFlag", "Z", false)
  | 16 => ("MicroEightModel", "printFlag", "Z", false)
  | 17 => ("MicroEightModel", "buffer", "I", false)
  | 18 => ("MicroEightModel", "printed", "I", false)
  | 19 => ("MicroEightModel", "print", "[I", false)
  | _ => ("MicroEightModel", "made", "I", false)
def tyM : Nat → FieldType := fun k => match k with
  | 0 => .array .int
  | 1 => .int
  | 2 => .int
  | 3 => .boolean
  | 4 => .int
  | 5 => .int
  | 6 => .int
  | 7 => .int
  | 8 => .int
  | 9 => .int
  | 10 => .int
  | 11 => .int
  | 12 => .boolean
  | 13 => .boolean
  | 14 => .boolean
  | 15 => .boolean
  | 16 => .boolean
  | 17 => .int
  | 18 => .int
  | 19 => .array .int
  | _ => .int
theorem nmM : ∀ a, a < 21 → ∀ b, b < 21 → a ≠ b → (TM a).2.1 ≠ (TM b).2.1 := by decide +kernel
theorem tyM_ok : ∀ k, k < 21 → parseFieldDescriptor (TM k).2.2.1 = some (tyM k) := by decide +kernel
abbrev cX_init : ByteArray := prog_1_method_1_code
def yX_init : MethodName := ⟨RX, "<init>", "(I)V"⟩
abbrev cK_init : ByteArray := prog_2_method_1_code
def yK_init : MethodName := ⟨RK, "<init>", "()V"⟩
abbrev cJ_min : ByteArray := prog_6_method_69_code
def yJ_min : MethodName := ⟨RJ, "min", "(II)I"⟩
abbrev cJ_max : ByteArray := prog_6_method_65_code
def yJ_max : MethodName := ⟨RJ, "max", "(II)I"⟩
abbrev cP_init : ByteArray := prog_3_method_1_code
def yP_init : MethodName := ⟨RP, "<init>", "(I)V"⟩
abbrev cX_init_ : ByteArray := prog_1_method_2_code
def yX_init_ : MethodName := ⟨RX, "init", "()V"⟩
abbrev cK_reset : ByteArray := prog_2_method_2_code
def yK_reset : MethodName := ⟨RK, "reset", "()V"⟩
abbrev cP_reset : ByteArray := prog_3_method_2_code
def yP_reset : MethodName := ⟨RP, "reset", "()V"⟩
abbrev cX_deposit : ByteArray := prog_1_method_3_code
def yX_deposit : MethodName := ⟨RX, "deposit", "(II)Z"⟩
abbrev cX_isAddress : ByteArray := prog_1_method_15_code
def yX_isAddress : MethodName := ⟨RX, "isAddress", "(I)Z"⟩
abbrev cX_write : ByteArray := prog_1_method_17_code
def yX_write : MethodName := ⟨RX, "write", "(II)V"⟩
abbrev cX_examine : ByteArray := prog_1_method_4_code
def yX_examine : MethodName := ⟨RX, "examine", "(I)I"⟩
abbrev cX_read : ByteArray := prog_1_method_16_code
def yX_read : MethodName := ⟨RX, "read", "(I)I"⟩
abbrev cX_load : ByteArray := prog_1_method_5_code
def yX_load : MethodName := ⟨RX, "load", "(IIJ)Z"⟩
abbrev cX_start : ByteArray := prog_1_method_6_code
def yX_start : MethodName := ⟨RX, "start", "(I)Z"⟩
abbrev cX_switches : ByteArray := prog_1_method_7_code
def yX_switches : MethodName := ⟨RX, "switches", "(I)V"⟩
abbrev cX_key : ByteArray := prog_1_method_8_code
def yX_key : MethodName := ⟨RX, "key", "(I)V"⟩
abbrev cK_press : ByteArray := prog_2_method_3_code
def yK_press : MethodName := ⟨RK, "press", "(I)V"⟩
abbrev cX_microStep : ByteArray := prog_1_method_9_code
def yX_microStep : MethodName := ⟨RX, "microStep", "()I"⟩
abbrev cP_isFull : ByteArray := prog_3_method_3_code
def yP_isFull : MethodName := ⟨RP, "isFull", "()Z"⟩
abbrev cX_perform : ByteArray := prog_1_method_19_code
def yX_perform : MethodName := ⟨RX, "perform", "(I)I"⟩
abbrev cX_begin : ByteArray := prog_1_method_20_code
def yX_begin : MethodName := ⟨RX, "begin", "()I"⟩
abbrev cX_advancePc : ByteArray := prog_1_method_21_code
def yX_advancePc : MethodName := ⟨RX, "advancePc", "()V"⟩
abbrev cX_fetch : ByteArray := prog_1_method_22_code
def yX_fetch : MethodName := ⟨RX, "fetch", "()I"⟩
abbrev cX_findAddress : ByteArray := prog_1_method_23_code
def yX_findAddress : MethodName := ⟨RX, "findAddress", "()I"⟩
abbrev cX_irHas : ByteArray := prog_1_method_18_code
def yX_irHas : MethodName := ⟨RX, "irHas", "(I)Z"⟩
abbrev cX_firstOfInstruction : ByteArray := prog_1_method_24_code
def yX_firstOfInstruction : MethodName := ⟨RX, "firstOfInstruction", "()I"⟩
abbrev cX_readPointer : ByteArray := prog_1_method_25_code
def yX_readPointer : MethodName := ⟨RX, "readPointer", "()I"⟩
abbrev cX_advancePointer : ByteArray := prog_1_method_26_code
def yX_advancePointer : MethodName := ⟨RX, "advancePointer", "()I"⟩
abbrev cX_followPointer : ByteArray := prog_1_method_27_code
def yX_followPointer : MethodName := ⟨RX, "followPointer", "()I"⟩
abbrev cX_readOperand : ByteArray := prog_1_method_28_code
def yX_readOperand : MethodName := ⟨RX, "readOperand", "(I)I"⟩
abbrev cX_readOneMore : ByteArray := prog_1_method_29_code
def yX_readOneMore : MethodName := ⟨RX, "readOneMore", "()I"⟩
abbrev cX_takeIntoMb : ByteArray := prog_1_method_30_code
def yX_takeIntoMb : MethodName := ⟨RX, "takeIntoMb", "(II)I"⟩
abbrev cX_jump : ByteArray := prog_1_method_31_code
def yX_jump : MethodName := ⟨RX, "jump", "()I"⟩
abbrev cX_storeAndGoBehind : ByteArray := prog_1_method_32_code
def yX_storeAndGoBehind : MethodName := ⟨RX, "storeAndGoBehind", "()I"⟩
abbrev cX_andOperand : ByteArray := prog_1_method_33_code
def yX_andOperand : MethodName := ⟨RX, "andOperand", "()I"⟩
abbrev cX_addOperand : ByteArray := prog_1_method_34_code
def yX_addOperand : MethodName := ⟨RX, "addOperand", "()I"⟩
abbrev cX_addToAc : ByteArray := prog_1_method_35_code
def yX_addToAc : MethodName := ⟨RX, "addToAc", "(I)V"⟩
abbrev cX_turnLinkOver : ByteArray := prog_1_method_36_code
def yX_turnLinkOver : MethodName := ⟨RX, "turnLinkOver", "()V"⟩
abbrev cX_storeAndSkipIfZero : ByteArray := prog_1_method_37_code
def yX_storeAndSkipIfZero : MethodName := ⟨RX, "storeAndSkipIfZero", "()I"⟩
abbrev cX_storeAndClear : ByteArray := prog_1_method_38_code
def yX_storeAndClear : MethodName := ⟨RX, "storeAndClear", "()I"⟩
abbrev cX_chooseOperateGroup : ByteArray := prog_1_method_39_code
def yX_chooseOperateGroup : MethodName := ⟨RX, "chooseOperateGroup", "()I"⟩
abbrev cX_clear : ByteArray := prog_1_method_41_code
def yX_clear : MethodName := ⟨RX, "clear", "()I"⟩
abbrev cX_clearAcIfAsked : ByteArray := prog_1_method_40_code
def yX_clearAcIfAsked : MethodName := ⟨RX, "clearAcIfAsked", "()V"⟩
abbrev cX_complement : ByteArray := prog_1_method_42_code
def yX_complement : MethodName := ⟨RX, "complement", "()I"⟩
abbrev cX_increment : ByteArray := prog_1_method_43_code
def yX_increment : MethodName := ⟨RX, "increment", "()I"⟩
abbrev cX_rotateFirst : ByteArray := prog_1_method_44_code
def yX_rotateFirst : MethodName := ⟨RX, "rotateFirst", "()I"⟩
abbrev cX_rotate : ByteArray := prog_1_method_46_code
def yX_rotate : MethodName := ⟨RX, "rotate", "()V"⟩
abbrev cX_rotateLast : ByteArray := prog_1_method_45_code
def yX_rotateLast : MethodName := ⟨RX, "rotateLast", "()I"⟩
abbrev cX_test : ByteArray := prog_1_method_47_code
def yX_test : MethodName := ⟨RX, "test", "()I"⟩
abbrev cX_clearAfterTest : ByteArray := prog_1_method_48_code
def yX_clearAfterTest : MethodName := ⟨RX, "clearAfterTest", "()I"⟩
abbrev cX_switchesAndHalt : ByteArray := prog_1_method_49_code
def yX_switchesAndHalt : MethodName := ⟨RX, "switchesAndHalt", "()I"⟩
abbrev cX_clearBeforeMq : ByteArray := prog_1_method_50_code
def yX_clearBeforeMq : MethodName := ⟨RX, "clearBeforeMq", "()I"⟩
abbrev cX_exchangeMq : ByteArray := prog_1_method_51_code
def yX_exchangeMq : MethodName := ⟨RX, "exchangeMq", "()I"⟩
abbrev cX_chooseDevice : ByteArray := prog_1_method_52_code
def yX_chooseDevice : MethodName := ⟨RX, "chooseDevice", "()I"⟩
abbrev cX_turnInterrupts : ByteArray := prog_1_method_53_code
def yX_turnInterrupts : MethodName := ⟨RX, "turnInterrupts", "()I"⟩
abbrev cX_askKeyboard : ByteArray := prog_1_method_54_code
def yX_askKeyboard : MethodName := ⟨RX, "askKeyboard", "()I"⟩
abbrev cX_readKeyboard : ByteArray := prog_1_method_55_code
def yX_readKeyboard : MethodName := ⟨RX, "readKeyboard", "()I"⟩
abbrev cX_askPrinter : ByteArray := prog_1_method_56_code
def yX_askPrinter : MethodName := ⟨RX, "askPrinter", "()I"⟩
abbrev cX_writePrinter : ByteArray := prog_1_method_57_code
def yX_writePrinter : MethodName := ⟨RX, "writePrinter", "()I"⟩
abbrev cP_print : ByteArray := prog_3_method_4_code
def yP_print : MethodName := ⟨RP, "print", "(I)V"⟩
abbrev cX_interrupt : ByteArray := prog_1_method_58_code
def yX_interrupt : MethodName := ⟨RX, "interrupt", "()I"⟩
abbrev cX_step : ByteArray := prog_1_method_10_code
def yX_step : MethodName := ⟨RX, "step", "()I"⟩
abbrev cX_run : ByteArray := prog_1_method_11_code
def yX_run : MethodName := ⟨RX, "run", "(I)I"⟩
abbrev cX_look : ByteArray := prog_1_method_12_code
def yX_look : MethodName := ⟨RX, "look", "(I)I"⟩
abbrev cX_conditions : ByteArray := prog_1_method_14_code
def yX_conditions : MethodName := ⟨RX, "conditions", "()I"⟩
abbrev cX_printed : ByteArray := prog_1_method_13_code
def yX_printed : MethodName := ⟨RX, "printed", "(I)I"⟩
abbrev cP_byteAt : ByteArray := prog_3_method_5_code
def yP_byteAt : MethodName := ⟨RP, "byteAt", "(I)I"⟩
abbrev cL_cell : ByteArray := method_2_code
def yL_cell : MethodName := ⟨RL, "cell", "([II)I"⟩
abbrev cM_init : ByteArray := prog_5_method_1_code
def yM_init : MethodName := ⟨RM, "<init>", "(I)V"⟩
abbrev cM_init_ : ByteArray := prog_5_method_2_code
def yM_init_ : MethodName := ⟨RM, "init", "()V"⟩
abbrev cM_deposit : ByteArray := prog_5_method_4_code
def yM_deposit : MethodName := ⟨RM, "deposit", "(II)Z"⟩
abbrev cM_isAddress : ByteArray := prog_5_method_3_code
def yM_isAddress : MethodName := ⟨RM, "isAddress", "(I)Z"⟩
abbrev cM_examine : ByteArray := prog_5_method_5_code
def yM_examine : MethodName := ⟨RM, "examine", "(I)I"⟩
abbrev cM_load : ByteArray := prog_5_method_6_code
def yM_load : MethodName := ⟨RM, "load", "(IIJ)Z"⟩
abbrev cM_start : ByteArray := prog_5_method_7_code
def yM_start : MethodName := ⟨RM, "start", "(I)Z"⟩
abbrev cM_switches : ByteArray := prog_5_method_8_code
def yM_switches : MethodName := ⟨RM, "switches", "(I)V"⟩
abbrev cM_key : ByteArray := prog_5_method_9_code
def yM_key : MethodName := ⟨RM, "key", "(I)V"⟩
abbrev cM_microStep : ByteArray := prog_5_method_19_code
def yM_microStep : MethodName := ⟨RM, "microStep", "()I"⟩
abbrev cM_fetch : ByteArray := prog_5_method_13_code
def yM_fetch : MethodName := ⟨RM, "fetch", "()I"⟩
abbrev cM_skip : ByteArray := prog_5_method_11_code
def yM_skip : MethodName := ⟨RM, "skip", "(Z)V"⟩
abbrev cM_bit : ByteArray := prog_5_method_10_code
def yM_bit : MethodName := ⟨RM, "bit", "(I)Z"⟩
abbrev cM_memory : ByteArray := prog_5_method_14_code
def yM_memory : MethodName := ⟨RM, "memory", "()I"⟩
abbrev cM_add : ByteArray := prog_5_method_12_code
def yM_add : MethodName := ⟨RM, "add", "(I)V"⟩
abbrev cM_operate : ByteArray := prog_5_method_16_code
def yM_operate : MethodName := ⟨RM, "operate", "()I"⟩
abbrev cM_rotate : ByteArray := prog_5_method_15_code
def yM_rotate : MethodName := ⟨RM, "rotate", "()V"⟩
abbrev cM_test : ByteArray := prog_5_method_17_code
def yM_test : MethodName := ⟨RM, "test", "()I"⟩
abbrev cM_device : ByteArray := prog_5_method_18_code
def yM_device : MethodName := ⟨RM, "device", "()I"⟩
abbrev cM_step : ByteArray := prog_5_method_20_code
def yM_step : MethodName := ⟨RM, "step", "()I"⟩
abbrev cM_run : ByteArray := prog_5_method_21_code
def yM_run : MethodName := ⟨RM, "run", "(I)I"⟩
abbrev cM_look : ByteArray := prog_5_method_23_code
def yM_look : MethodName := ⟨RM, "look", "(I)I"⟩
abbrev cM_flags : ByteArray := prog_5_method_22_code
def yM_flags : MethodName := ⟨RM, "flags", "()I"⟩
abbrev cM_printed : ByteArray := prog_5_method_24_code
def yM_printed : MethodName := ⟨RM, "printed", "(I)I"⟩
abbrev cL_law : ByteArray := code
def yL_law : MethodName := ⟨RL, "law", "([I)Z"⟩
abbrev vwCl : List vw_C := [(RX, TX, 17), (RK, TK, 2), (RP, TP, 3), (RM, TM, 21)]
end
section
theorem dX_init_0 : decode cX_init 0 = .ok (.aload_n 0, 1) := by decide +kernel
theorem dX_init_1 : decode cX_init 1 = .ok (.invokespecial 1, 3) := by decide +kernel
theorem dX_init_4 : decode cX_init 4 = .ok (.aload_n 0, 1) := by decide +kernel
theorem dX_init_5 : decode cX_init 5 = .ok (.sipush 4096, 3) := by decide +kernel
theorem dX_init_8 : decode cX_init 8 = .ok (.newarray .int, 2) := by decide +kernel
theorem dX_init_10 : decode cX_init 10 = .ok (.putfield 9, 3) := by decide +kernel
theorem dX_init_13 : decode cX_init 13 = .ok (.aload_n 0, 1) := by decide +kernel
theorem dX_init_14 : decode cX_init 14 = .ok (.new 13, 3) := by decide +kernel
theorem dX_init_17 : decode cX_init 17 = .ok (.dup, 1) := by decide +kernel
theorem dX_init_18 : decode cX_init 18 = .ok (.invokespecial 15, 3) := by decide +kernel
theorem dX_init_21 : decode cX_init 21 = .ok (.putfield 16, 3) := by decide +kernel
theorem dX_init_24 : decode cX_init 24 = .ok (.aload_n 0, 1) := by decide +kernel
theorem dX_init_25 : decode cX_init 25 = .ok (.new 20, 3) := by decide +kernel
theorem dX_init_28 : decode cX_init 28 = .ok (.dup, 1) := by decide +kernel
theorem dX_init_29 : decode cX_init 29 = .ok (.iconst 0, 1) := by decide +kernel
theorem dX_init_30 : decode cX_init 30 = .ok (.bipush 100, 2) := by decide +kernel
theorem dX_init_32 : decode cX_init 32 = .ok (.iload_n 1, 1) := by decide +kernel
theorem dX_init_33 : decode cX_init 33 = .ok (.invokestatic 22, 3) := by decide +kernel
theorem dX_init_36 : decode cX_init 36 = .ok (.invokestatic 28, 3) := by decide +kernel
theorem dX_init_39 : decode cX_init 39 = .ok (.invokespecial 31, 3) := by decide +kernel
theorem dX_init_42 : decode cX_init 42 = .ok (.putfield 34, 3) := by decide +kernel
theorem dX_init_45 : decode cX_init 45 = .ok (.return_, 1) := by decide +kernel
theorem dX_init__0 : decode cX_init_ 0 = .ok (.aload_n 0, 1) := by decide +kernel
theorem dX_init__1 : decode cX_init_ 1 = .ok (.iconst 1, 1) := by decide +kernel
theorem dX_init__2 : decode cX_init_ 2 = .ok (.putfield 38, 3) := by decide +kernel
theorem dX_init__5 : decode cX_init_ 5 = .ok (.aload_n 0, 1) := by decide +kernel
theorem dX_init__6 : decode cX_init_ 6 = .ok (.iconst 0, 1) := by decide +kernel
theorem dX_init__7 : decode cX_init_ 7 = .ok (.putfield 42, 3) := by decide +kernel
theorem dX_init__10 : decode cX_init_ 10 = .ok (.aload_n 0, 1) := by decide +kernel
theorem dX_init__11 : decode cX_init_ 11 = .ok (.iconst 0, 1) := by decide +kernel
theorem dX_init__12 : decode cX_init_ 12 = .ok (.putfield 46, 3) := by decide +kernel
theorem dX_init__15 : decode cX_init_ 15 = .ok (.aload_n 0, 1) := by decide +kernel
theorem dX_init__16 : decode cX_init_ 16 = .ok (.iconst 0, 1) := by decide +kernel
theorem dX_init__17 : decode cX_init_ 17 = .ok (.putfield 49, 3) := by decide +kernel
theorem dX_init__20 : decode cX_init_ 20 = .ok (.aload_n 0, 1) := by decide +kernel
theorem dX_init__21 : decode cX_init_ 21 = .ok (.iconst 0, 1) := by decide +kernel
theorem dX_init__22 : decode cX_init_ 22 = .ok (.putfield 52, 3) := by decide +kernel
theorem dX_init__25 : decode cX_init_ 25 = .ok (.aload_n 0, 1) := by decide +kernel
theorem dX_init__26 : decode cX_init_ 26 = .ok (.iconst 0, 1) := by decide +kernel
theorem dX_init__27 : decode cX_init_ 27 = .ok (.putfield 55, 3) := by decide +kernel
theorem dX_init__30 : decode cX_init_ 30 = .ok (.aload_n 0, 1) := by decide +kernel
theorem dX_init__31 : decode cX_init_ 31 = .ok (.iconst 0, 1) := by decide +kernel
theorem dX_init__32 : decode cX_init_ 32 = .ok (.putfield 58, 3) := by decide +kernel
theorem dX_init__35 : decode cX_init_ 35 = .ok (.aload_n 0, 1) := by decide +kernel
theorem dX_init__36 : decode cX_init_ 36 = .ok (.iconst 0, 1) := by decide +kernel
theorem dX_init__37 : decode cX_init_ 37 = .ok (.putfield 61, 3) := by decide +kernel
theorem dX_init__40 : decode cX_init_ 40 = .ok (.aload_n 0, 1) := by decide +kernel
theorem dX_init__41 : decode cX_init_ 41 = .ok (.iconst 0, 1) := by decide +kernel
theorem dX_init__42 : decode cX_init_ 42 = .ok (.putfield 64, 3) := by decide +kernel
theorem dX_init__45 : decode cX_init_ 45 = .ok (.aload_n 0, 1) := by decide +kernel
theorem dX_init__46 : decode cX_init_ 46 = .ok (.iconst 0, 1) := by decide +kernel
theorem dX_init__47 : decode cX_init_ 47 = .ok (.putfield 67, 3) := by decide +kernel
theorem dX_init__50 : decode cX_init_ 50 = .ok (.aload_n 0, 1) := by decide +kernel
theorem dX_init__51 : decode cX_init_ 51 = .ok (.iconst 0, 1) := by decide +kernel
theorem dX_init__52 : decode cX_init_ 52 = .ok (.putfield 70, 3) := by decide +kernel
theorem dX_init__55 : decode cX_init_ 55 = .ok (.aload_n 0, 1) := by decide +kernel
theorem dX_init__56 : decode cX_init_ 56 = .ok (.iconst 0, 1) := by decide +kernel
theorem dX_init__57 : decode cX_init_ 57 = .ok (.putfield 73, 3) := by decide +kernel
theorem dX_init__60 : decode cX_init_ 60 = .ok (.aload_n 0, 1) := by decide +kernel
theorem dX_init__61 : decode cX_init_ 61 = .ok (.iconst 0, 1) := by decide +kernel
theorem dX_init__62 : decode cX_init_ 62 = .ok (.putfield 76, 3) := by decide +kernel
theorem dX_init__65 : decode cX_init_ 65 = .ok (.aload_n 0, 1) := by decide +kernel
theorem dX_init__66 : decode cX_init_ 66 = .ok (.getfield 16, 3) := by decide +kernel
theorem dX_init__69 : decode cX_init_ 69 = .ok (.invokevirtual 79, 3) := by decide +kernel
theorem dX_init__72 : decode cX_init_ 72 = .ok (.aload_n 0, 1) := by decide +kernel
theorem dX_init__73 : decode cX_init_ 73 = .ok (.getfield 34, 3) := by decide +kernel
theorem dX_init__76 : decode cX_init_ 76 = .ok (.invokevirtual 82, 3) := by decide +kernel
theorem dX_init__79 : decode cX_init_ 79 = .ok (.return_, 1) := by decide +kernel
theorem dX_deposit_0 : decode cX_deposit 0 = .ok (.iload_n 1, 1) := by decide +kernel
theorem dX_deposit_1 : decode cX_deposit 1 = .ok (.invokestatic 83, 3) := by decide +kernel
theorem dX_deposit_4 : decode cX_deposit 4 = .ok (.ifCond .ne 5, 3) := by decide +kernel
theorem dX_deposit_7 : decode cX_deposit 7 = .ok (.iconst 0, 1) := by decide +kernel
theorem dX_deposit_8 : decode cX_deposit 8 = .ok (.ireturn, 1) := by decide +kernel
theorem dX_deposit_9 : decode cX_deposit 9 = .ok (.aload_n 0, 1) := by decide +kernel
theorem dX_deposit_10 : decode cX_deposit 10 = .ok (.iload_n 1, 1) := by decide +kernel
theorem dX_deposit_11 : decode cX_deposit 11 = .ok (.iload_n 2, 1) := by decide +kernel
theorem dX_deposit_12 : decode cX_deposit 12 = .ok (.invokevirtual 87, 3) := by decide +kernel
theorem dX_deposit_15 : decode cX_deposit 15 = .ok (.iconst 1, 1) := by decide +kernel
theorem dX_deposit_16 : decode cX_deposit 16 = .ok (.ireturn, 1) := by decide +kernel
theorem dX_examine_0 : decode cX_examine 0 = .ok (.iload_n 1, 1) := by decide +kernel
theorem dX_examine_1 : decode cX_examine 1 = .ok (.invokestatic 83, 3) := by decide +kernel
theorem dX_examine_4 : decode cX_examine 4 = .ok (.ifCond .eq 11, 3) := by decide +kernel
theorem dX_examine_7 : decode cX_examine 7 = .ok (.aload_n 0, 1) := by decide +kernel
theorem dX_examine_8 : decode cX_examine 8 = .ok (.iload_n 1, 1) := by decide +kernel
theorem dX_examine_9 : decode cX_examine 9 = .ok (.invokevirtual 91, 3) := by decide +kernel
theorem dX_examine_12 : decode cX_examine 12 = .ok (.goto 4, 3) := by decide +kernel
theorem dX_examine_15 : decode cX_examine 15 = .ok (.iconst (-1), 1) := by decide +kernel
theorem dX_examine_16 : decode cX_examine 16 = .ok (.ireturn, 1) := by decide +kernel
theorem dX_load_0 : decode cX_load 0 = .ok (.iload_n 2, 1) := by decide +kernel
theorem dX_load_1 : decode cX_load 1 = .ok (.iconst 1, 1) := by decide +kernel
theorem dX_load_2 : decode cX_load 2 = .ok (.if_icmp .lt 15, 3) := by decide +kernel
theorem dX_load_5 : decode cX_load 5 = .ok (.iload_n 2, 1) := by decide +kernel
theorem dX_load_6 : decode cX_load 6 = .ok (.iconst 5, 1) := by decide +kernel
theorem dX_load_7 : decode cX_load 7 = .ok (.if_icmp .gt 10, 3) := by decide +kernel
theorem dX_load_10 : decode cX_load 10 = .ok (.iload_n 1, 1) := by decide +kernel
theorem dX_load_11 : decode cX_load 11 = .ok (.invokestatic 83, 3) := by decide +kernel
theorem dX_load_14 : decode cX_load 14 = .ok (.ifCond .ne 5, 3) := by decide +kernel
theorem dX_load_17 : decode cX_load 17 = .ok (.iconst 0, 1) := by decide +kernel
theorem dX_load_18 : decode cX_load 18 = .ok (.ireturn, 1) := by decide +kernel
theorem dX_load_19 : decode cX_load 19 = .ok (.iconst 0, 1) := by decide +kernel
theorem dX_load_20 : decode cX_load 20 = .ok (.istore 5, 2) := by decide +kernel
theorem dX_load_22 : decode cX_load 22 = .ok (.iload 5, 2) := by decide +kernel
theorem dX_load_24 : decode cX_load 24 = .ok (.iload_n 2, 1) := by decide +kernel
theorem dX_load_25 : decode cX_load 25 = .ok (.if_icmp .ge 29, 3) := by decide +kernel
theorem dX_load_28 : decode cX_load 28 = .ok (.aload_n 0, 1) := by decide +kernel
theorem dX_load_29 : decode cX_load 29 = .ok (.iload_n 1, 1) := by decide +kernel
theorem dX_load_30 : decode cX_load 30 = .ok (.iload 5, 2) := by decide +kernel
theorem dX_load_32 : decode cX_load 32 = .ok (.iadd, 1) := by decide +kernel
theorem dX_load_33 : decode cX_load 33 = .ok (.lload_n 3, 1) := by decide +kernel
theorem dX_load_34 : decode cX_load 34 = .ok (.bipush 12, 2) := by decide +kernel
theorem dX_load_36 : decode cX_load 36 = .ok (.iload_n 2, 1) := by decide +kernel
theorem dX_load_37 : decode cX_load 37 = .ok (.iconst 1, 1) := by decide +kernel
theorem dX_load_38 : decode cX_load 38 = .ok (.isub, 1) := by decide +kernel
theorem dX_load_39 : decode cX_load 39 = .ok (.iload 5, 2) := by decide +kernel
theorem dX_load_41 : decode cX_load 41 = .ok (.isub, 1) := by decide +kernel
theorem dX_load_42 : decode cX_load 42 = .ok (.imul, 1) := by decide +kernel
theorem dX_load_43 : decode cX_load 43 = .ok (.lushr, 1) := by decide +kernel
theorem dX_load_44 : decode cX_load 44 = .ok (.l2i, 1) := by decide +kernel
theorem dX_load_45 : decode cX_load 45 = .ok (.invokevirtual 87, 3) := by decide +kernel
theorem dX_load_48 : decode cX_load 48 = .ok (.iinc 5 1, 3) := by decide +kernel
theorem dX_load_51 : decode cX_load 51 = .ok (.goto (-29), 3) := by decide +kernel
theorem dX_load_54 : decode cX_load 54 = .ok (.iconst 1, 1) := by decide +kernel
theorem dX_load_55 : decode cX_load 55 = .ok (.ireturn, 1) := by decide +kernel
theorem dX_start_0 : decode cX_start 0 = .ok (.aload_n 0, 1) := by decide +kernel
theorem dX_start_1 : decode cX_start 1 = .ok (.getfield 38, 3) := by decide +kernel
theorem dX_start_4 : decode cX_start 4 = .ok (.ifCond .eq 10, 3) := by decide +kernel
theorem dX_start_7 : decode cX_start 7 = .ok (.aload_n 0, 1) := by decide +kernel
theorem dX_start_8 : decode cX_start 8 = .ok (.getfield 73, 3) := by decide +kernel
theorem dX_start_11 : decode cX_start 11 = .ok (.ifCond .eq 5, 3) := by decide +kernel
theorem dX_start_14 : decode cX_start 14 = .ok (.iconst 0, 1) := by decide +kernel
theorem dX_start_15 : decode cX_start 15 = .ok (.ireturn, 1) := by decide +kernel
theorem dX_start_16 : decode cX_start 16 = .ok (.aload_n 0, 1) := by decide +kernel
theorem dX_start_17 : decode cX_start 17 = .ok (.iload_n 1, 1) := by decide +kernel
theorem dX_start_18 : decode cX_start 18 = .ok (.sipush 4095, 3) := by decide +kernel
theorem dX_start_21 : decode cX_start 21 = .ok (.iand, 1) := by decide +kernel
theorem dX_start_22 : decode cX_start 22 = .ok (.putfield 42, 3) := by decide +kernel
theorem dX_start_25 : decode cX_start 25 = .ok (.aload_n 0, 1) := by decide +kernel
theorem dX_start_26 : decode cX_start 26 = .ok (.iconst 0, 1) := by decide +kernel
theorem dX_start_27 : decode cX_start 27 = .ok (.putfield 70, 3) := by decide +kernel
theorem dX_start_30 : decode cX_start 30 = .ok (.iconst 1, 1) := by decide +kernel
theorem dX_start_31 : decode cX_start 31 = .ok (.ireturn, 1) := by decide +kernel
theorem dX_switches_0 : decode cX_switches 0 = .ok (.aload_n 0, 1) := by decide +kernel
theorem dX_switches_1 : decode cX_switches 1 = .ok (.iload_n 1, 1) := by decide +kernel
theorem dX_switches_2 : decode cX_switches 2 = .ok (.sipush 4095, 3) := by decide +kernel
theorem dX_switches_5 : decode cX_switches 5 = .ok (.iand, 1) := by decide +kernel
theorem dX_switches_6 : decode cX_switches 6 = .ok (.putfield 95, 3) := by decide +kernel
theorem dX_switches_9 : decode cX_switches 9 = .ok (.return_, 1) := by decide +kernel
theorem dX_key_0 : decode cX_key 0 = .ok (.aload_n 0, 1) := by decide +kernel
theorem dX_key_1 : decode cX_key 1 = .ok (.getfield 16, 3) := by decide +kernel
theorem dX_key_4 : decode cX_key 4 = .ok (.iload_n 1, 1) := by decide +kernel
theorem dX_key_5 : decode cX_key 5 = .ok (.invokevirtual 98, 3) := by decide +kernel
theorem dX_key_8 : decode cX_key 8 = .ok (.return_, 1) := by decide +kernel
theorem dX_microStep_0 : decode cX_microStep 0 = .ok (.aload_n 0, 1) := by decide +kernel
theorem dX_microStep_1 : decode cX_microStep 1 = .ok (.getfield 38, 3) := by decide +kernel
theorem dX_microStep_4 : decode cX_microStep 4 = .ok (.ifCond .ne 5, 3) := by decide +kernel
theorem dX_microStep_7 : decode cX_microStep 7 = .ok (.iconst 3, 1) := by decide +kernel
theorem dX_microStep_8 : decode cX_microStep 8 = .ok (.ireturn, 1) := by decide +kernel
theorem dX_microStep_9 : decode cX_microStep 9 = .ok (.aload_n 0, 1) := by decide +kernel
theorem dX_microStep_10 : decode cX_microStep 10 = .ok (.getfield 73, 3) := by decide +kernel
theorem dX_microStep_13 : decode cX_microStep 13 = .ok (.ifCond .ne 12, 3) := by decide +kernel
theorem dX_microStep_16 : decode cX_microStep 16 = .ok (.aload_n 0, 1) := by decide +kernel
theorem dX_microStep_17 : decode cX_microStep 17 = .ok (.getfield 70, 3) := by decide +kernel
theorem dX_microStep_20 : decode cX_microStep 20 = .ok (.ifCond .eq 5, 3) := by decide +kernel
theorem dX_microStep_23 : decode cX_microStep 23 = .ok (.iconst 2, 1) := by decide +kernel
theorem dX_microStep_24 : decode cX_microStep 24 = .ok (.ireturn, 1) := by decide +kernel
theorem dX_microStep_25 : decode cX_microStep 25 = .ok (.aload_n 0, 1) := by decide +kernel
theorem dX_microStep_26 : decode cX_microStep 26 = .ok (.getfield 73, 3) := by decide +kernel
theorem dX_microStep_29 : decode cX_microStep 29 = .ok (.bipush 37, 2) := by decide +kernel
theorem dX_microStep_31 : decode cX_microStep 31 = .ok (.if_icmp .ne 15, 3) := by decide +kernel
theorem dX_microStep_34 : decode cX_microStep 34 = .ok (.aload_n 0, 1) := by decide +kernel
theorem dX_microStep_35 : decode cX_microStep 35 = .ok (.getfield 34, 3) := by decide +kernel
theorem dX_microStep_38 : decode cX_microStep 38 = .ok (.invokevirtual 101, 3) := by decide +kernel
theorem dX_microStep_41 : decode cX_microStep 41 = .ok (.ifCond .eq 5, 3) := by decide +kernel
theorem dX_microStep_44 : decode cX_microStep 44 = .ok (.iconst 4, 1) := by decide +kernel
theorem dX_microStep_45 : decode cX_microStep 45 = .ok (.ireturn, 1) := by decide +kernel
theorem dX_microStep_46 : decode cX_microStep 46 = .ok (.aload_n 0, 1) := by decide +kernel
theorem dX_microStep_47 : decode cX_microStep 47 = .ok (.aload_n 0, 1) := by decide +kernel
theorem dX_microStep_48 : decode cX_microStep 48 = .ok (.aload_n 0, 1) := by decide +kernel
theorem dX_microStep_49 : decode cX_microStep 49 = .ok (.getfield 73, 3) := by decide +kernel
theorem dX_microStep_52 : decode cX_microStep 52 = .ok (.invokevirtual 105, 3) := by decide +kernel
theorem dX_microStep_55 : decode cX_microStep 55 = .ok (.putfield 73, 3) := by decide +kernel
theorem dX_microStep_58 : decode cX_microStep 58 = .ok (.aload_n 0, 1) := by decide +kernel
theorem dX_microStep_59 : decode cX_microStep 59 = .ok (.dup, 1) := by decide +kernel
theorem dX_microStep_60 : decode cX_microStep 60 = .ok (.getfield 76, 3) := by decide +kernel
theorem dX_microStep_63 : decode cX_microStep 63 = .ok (.iconst 1, 1) := by decide +kernel
theorem dX_microStep_64 : decode cX_microStep 64 = .ok (.iadd, 1) := by decide +kernel
theorem dX_microStep_65 : decode cX_microStep 65 = .ok (.putfield 76, 3) := by decide +kernel
theorem dX_microStep_68 : decode cX_microStep 68 = .ok (.aload_n 0, 1) := by decide +kernel
theorem dX_microStep_69 : decode cX_microStep 69 = .ok (.getfield 73, 3) := by decide +kernel
theorem dX_microStep_72 : decode cX_microStep 72 = .ok (.ifCond .ne 7, 3) := by decide +kernel
theorem dX_microStep_75 : decode cX_microStep 75 = .ok (.iconst 1, 1) := by decide +kernel
theorem dX_microStep_76 : decode cX_microStep 76 = .ok (.goto 4, 3) := by decide +kernel
theorem dX_microStep_79 : decode cX_microStep 79 = .ok (.iconst 0, 1) := by decide +kernel
theorem dX_microStep_80 : decode cX_microStep 80 = .ok (.ireturn, 1) := by decide +kernel
theorem dX_step_0 : decode cX_step 0 = .ok (.aload_n 0, 1) := by decide +kernel
theorem dX_step_1 : decode cX_step 1 = .ok (.invokevirtual 108, 3) := by decide +kernel
theorem dX_step_4 : decode cX_step 4 = .ok (.istore_n 1, 1) := by decide +kernel
theorem dX_step_5 : decode cX_step 5 = .ok (.iconst 1, 1) := by decide +kernel
theorem dX_step_6 : decode cX_step 6 = .ok (.istore_n 2, 1) := by decide +kernel
theorem dX_step_7 : decode cX_step 7 = .ok (.iload_n 2, 1) := by decide +kernel
theorem dX_step_8 : decode cX_step 8 = .ok (.bipush 64, 2) := by decide +kernel
theorem dX_step_10 : decode cX_step 10 = .ok (.if_icmp .ge 18, 3) := by decide +kernel
theorem dX_step_13 : decode cX_step 13 = .ok (.iload_n 1, 1) := by decide +kernel
theorem dX_step_14 : decode cX_step 14 = .ok (.ifCond .ne 14, 3) := by decide +kernel
theorem dX_step_17 : decode cX_step 17 = .ok (.aload_n 0, 1) := by decide +kernel
theorem dX_step_18 : decode cX_step 18 = .ok (.invokevirtual 108, 3) := by decide +kernel
theorem dX_step_21 : decode cX_step 21 = .ok (.istore_n 1, 1) := by decide +kernel
theorem dX_step_22 : decode cX_step 22 = .ok (.iinc 2 1, 3) := by decide +kernel
theorem dX_step_25 : decode cX_step 25 = .ok (.goto (-18), 3) := by decide +kernel
theorem dX_step_28 : decode cX_step 28 = .ok (.iload_n 1, 1) := by decide +kernel
theorem dX_step_29 : decode cX_step 29 = .ok (.iconst 1, 1) := by decide +kernel
theorem dX_step_30 : decode cX_step 30 = .ok (.if_icmp .ne 7, 3) := by decide +kernel
theorem dX_step_33 : decode cX_step 33 = .ok (.iconst 0, 1) := by decide +kernel
theorem dX_step_34 : decode cX_step 34 = .ok (.goto 4, 3) := by decide +kernel
theorem dX_step_37 : decode cX_step 37 = .ok (.iload_n 1, 1) := by decide +kernel
theorem dX_step_38 : decode cX_step 38 = .ok (.ireturn, 1) := by decide +kernel
theorem dX_run_0 : decode cX_run 0 = .ok (.iload_n 1, 1) := by decide +kernel
theorem dX_run_1 : decode cX_run 1 = .ok (.ifCond .lt 10, 3) := by decide +kernel
theorem dX_run_4 : decode cX_run 4 = .ok (.iload_n 1, 1) := by decide +kernel
theorem dX_run_5 : decode cX_run 5 = .ok (.sipush 500, 3) := by decide +kernel
theorem dX_run_8 : decode cX_run 8 = .ok (.if_icmp .le 5, 3) := by decide +kernel
theorem dX_run_11 : decode cX_run 11 = .ok (.iconst (-1), 1) := by decide +kernel
theorem dX_run_12 : decode cX_run 12 = .ok (.ireturn, 1) := by decide +kernel
theorem dX_run_13 : decode cX_run 13 = .ok (.iconst 0, 1) := by decide +kernel
theorem dX_run_14 : decode cX_run 14 = .ok (.istore_n 2, 1) := by decide +kernel
theorem dX_run_15 : decode cX_run 15 = .ok (.iload_n 2, 1) := by decide +kernel
theorem dX_run_16 : decode cX_run 16 = .ok (.iload_n 1, 1) := by decide +kernel
theorem dX_run_17 : decode cX_run 17 = .ok (.if_icmp .ge 16, 3) := by decide +kernel
theorem dX_run_20 : decode cX_run 20 = .ok (.aload_n 0, 1) := by decide +kernel
theorem dX_run_21 : decode cX_run 21 = .ok (.invokevirtual 112, 3) := by decide +kernel
theorem dX_run_24 : decode cX_run 24 = .ok (.ifCond .ne 9, 3) := by decide +kernel
theorem dX_run_27 : decode cX_run 27 = .ok (.iinc 2 1, 3) := by decide +kernel
theorem dX_run_30 : decode cX_run 30 = .ok (.goto (-15), 3) := by decide +kernel
theorem dX_run_33 : decode cX_run 33 = .ok (.iload_n 2, 1) := by decide +kernel
theorem dX_run_34 : decode cX_run 34 = .ok (.ireturn, 1) := by decide +kernel
theorem dX_look_0 : decode cX_look 0 = .ok (.iload_n 1, 1) := by decide +kernel
theorem dX_look_1 : decode cX_look 1 = .ok (.tableswitch 117 0 10 #[59, 64, 69, 74, 79, 84, 89, 94, 99, 104, 112], 59) := by decide +kernel
theorem dX_look_60 : decode cX_look 60 = .ok (.aload_n 0, 1) := by decide +kernel
theorem dX_look_61 : decode cX_look 61 = .ok (.getfield 42, 3) := by decide +kernel
theorem dX_look_64 : decode cX_look 64 = .ok (.ireturn, 1) := by decide +kernel
theorem dX_look_65 : decode cX_look 65 = .ok (.aload_n 0, 1) := by decide +kernel
theorem dX_look_66 : decode cX_look 66 = .ok (.getfield 46, 3) := by decide +kernel
theorem dX_look_69 : decode cX_look 69 = .ok (.ireturn, 1) := by decide +kernel
theorem dX_look_70 : decode cX_look 70 = .ok (.aload_n 0, 1) := by decide +kernel
theorem dX_look_71 : decode cX_look 71 = .ok (.getfield 49, 3) := by decide +kernel
theorem dX_look_74 : decode cX_look 74 = .ok (.ireturn, 1) := by decide +kernel
theorem dX_look_75 : decode cX_look 75 = .ok (.aload_n 0, 1) := by decide +kernel
theorem dX_look_76 : decode cX_look 76 = .ok (.getfield 52, 3) := by decide +kernel
theorem dX_look_79 : decode cX_look 79 = .ok (.ireturn, 1) := by decide +kernel
theorem dX_look_80 : decode cX_look 80 = .ok (.aload_n 0, 1) := by decide +kernel
theorem dX_look_81 : decode cX_look 81 = .ok (.getfield 55, 3) := by decide +kernel
theorem dX_look_84 : decode cX_look 84 = .ok (.ireturn, 1) := by decide +kernel
theorem dX_look_85 : decode cX_look 85 = .ok (.aload_n 0, 1) := by decide +kernel
theorem dX_look_86 : decode cX_look 86 = .ok (.getfield 58, 3) := by decide +kernel
theorem dX_look_89 : decode cX_look 89 = .ok (.ireturn, 1) := by decide +kernel
theorem dX_look_90 : decode cX_look 90 = .ok (.aload_n 0, 1) := by decide +kernel
theorem dX_look_91 : decode cX_look 91 = .ok (.getfield 61, 3) := by decide +kernel
theorem dX_look_94 : decode cX_look 94 = .ok (.ireturn, 1) := by decide +kernel
theorem dX_look_95 : decode cX_look 95 = .ok (.aload_n 0, 1) := by decide +kernel
theorem dX_look_96 : decode cX_look 96 = .ok (.getfield 73, 3) := by decide +kernel
theorem dX_look_99 : decode cX_look 99 = .ok (.ireturn, 1) := by decide +kernel
theorem dX_look_100 : decode cX_look 100 = .ok (.aload_n 0, 1) := by decide +kernel
theorem dX_look_101 : decode cX_look 101 = .ok (.invokevirtual 115, 3) := by decide +kernel
theorem dX_look_104 : decode cX_look 104 = .ok (.ireturn, 1) := by decide +kernel
theorem dX_look_105 : decode cX_look 105 = .ok (.aload_n 0, 1) := by decide +kernel
theorem dX_look_106 : decode cX_look 106 = .ok (.getfield 16, 3) := by decide +kernel
theorem dX_look_109 : decode cX_look 109 = .ok (.getfield 118, 3) := by decide +kernel
theorem dX_look_112 : decode cX_look 112 = .ok (.ireturn, 1) := by decide +kernel
theorem dX_look_113 : decode cX_look 113 = .ok (.aload_n 0, 1) := by decide +kernel
theorem dX_look_114 : decode cX_look 114 = .ok (.getfield 76, 3) := by decide +kernel
theorem dX_look_117 : decode cX_look 117 = .ok (.ireturn, 1) := by decide +kernel
theorem dX_look_118 : decode cX_look 118 = .ok (.iconst (-1), 1) := by decide +kernel
theorem dX_look_119 : decode cX_look 119 = .ok (.ireturn, 1) := by decide +kernel
theorem dX_printed_0 : decode cX_printed 0 = .ok (.iload_n 1, 1) := by decide +kernel
theorem dX_printed_1 : decode cX_printed 1 = .ok (.iconst (-1), 1) := by decide +kernel
theorem dX_printed_2 : decode cX_printed 2 = .ok (.if_icmp .ne 13, 3) := by decide +kernel
theorem dX_printed_5 : decode cX_printed 5 = .ok (.aload_n 0, 1) := by decide +kernel
theorem dX_printed_6 : decode cX_printed 6 = .ok (.getfield 34, 3) := by decide +kernel
theorem dX_printed_9 : decode cX_printed 9 = .ok (.getfield 121, 3) := by decide +kernel
theorem dX_printed_12 : decode cX_printed 12 = .ok (.goto 11, 3) := by decide +kernel
theorem dX_printed_15 : decode cX_printed 15 = .ok (.aload_n 0, 1) := by decide +kernel
theorem dX_printed_16 : decode cX_printed 16 = .ok (.getfield 34, 3) := by decide +kernel
theorem dX_printed_19 : decode cX_printed 19 = .ok (.iload_n 1, 1) := by decide +kernel
theorem dX_printed_20 : decode cX_printed 20 = .ok (.invokevirtual 124, 3) := by decide +kernel
theorem dX_printed_23 : decode cX_printed 23 = .ok (.ireturn, 1) := by decide +kernel
theorem dX_conditions_0 : decode cX_conditions 0 = .ok (.aload_n 0, 1) := by decide +kernel
theorem dX_conditions_1 : decode cX_conditions 1 = .ok (.getfield 64, 3) := by decide +kernel
theorem dX_conditions_4 : decode cX_conditions 4 = .ok (.ifCond .eq 7, 3) := by decide +kernel
theorem dX_conditions_7 : decode cX_conditions 7 = .ok (.iconst 1, 1) := by decide +kernel
theorem dX_conditions_8 : decode cX_conditions 8 = .ok (.goto 4, 3) := by decide +kernel
theorem dX_conditions_11 : decode cX_conditions 11 = .ok (.iconst 0, 1) := by decide +kernel
theorem dX_conditions_12 : decode cX_conditions 12 = .ok (.aload_n 0, 1) := by decide +kernel
theorem dX_conditions_13 : decode cX_conditions 13 = .ok (.getfield 67, 3) := by decide +kernel
theorem dX_conditions_16 : decode cX_conditions 16 = .ok (.ifCond .eq 7, 3) := by decide +kernel
theorem dX_conditions_19 : decode cX_conditions 19 = .ok (.iconst 2, 1) := by decide +kernel
theorem dX_conditions_20 : decode cX_conditions 20 = .ok (.goto 4, 3) := by decide +kernel
theorem dX_conditions_23 : decode cX_conditions 23 = .ok (.iconst 0, 1) := by decide +kernel
theorem dX_conditions_24 : decode cX_conditions 24 = .ok (.iadd, 1) := by decide +kernel
theorem dX_conditions_25 : decode cX_conditions 25 = .ok (.aload_n 0, 1) := by decide +kernel
theorem dX_conditions_26 : decode cX_conditions 26 = .ok (.getfield 70, 3) := by decide +kernel
theorem dX_conditions_29 : decode cX_conditions 29 = .ok (.ifCond .eq 7, 3) := by decide +kernel
theorem dX_conditions_32 : decode cX_conditions 32 = .ok (.iconst 4, 1) := by decide +kernel
theorem dX_conditions_33 : decode cX_conditions 33 = .ok (.goto 4, 3) := by decide +kernel
theorem dX_conditions_36 : decode cX_conditions 36 = .ok (.iconst 0, 1) := by decide +kernel
theorem dX_conditions_37 : decode cX_conditions 37 = .ok (.iadd, 1) := by decide +kernel
theorem dX_conditions_38 : decode cX_conditions 38 = .ok (.aload_n 0, 1) := by decide +kernel
theorem dX_conditions_39 : decode cX_conditions 39 = .ok (.getfield 16, 3) := by decide +kernel
theorem dX_conditions_42 : decode cX_conditions 42 = .ok (.getfield 127, 3) := by decide +kernel
theorem dX_conditions_45 : decode cX_conditions 45 = .ok (.ifCond .eq 8, 3) := by decide +kernel
theorem dX_conditions_48 : decode cX_conditions 48 = .ok (.bipush 8, 2) := by decide +kernel
theorem dX_conditions_50 : decode cX_conditions 50 = .ok (.goto 4, 3) := by decide +kernel
theorem dX_conditions_53 : decode cX_conditions 53 = .ok (.iconst 0, 1) := by decide +kernel
theorem dX_conditions_54 : decode cX_conditions 54 = .ok (.iadd, 1) := by decide +kernel
theorem dX_conditions_55 : decode cX_conditions 55 = .ok (.aload_n 0, 1) := by decide +kernel
theorem dX_conditions_56 : decode cX_conditions 56 = .ok (.getfield 34, 3) := by decide +kernel
theorem dX_conditions_59 : decode cX_conditions 59 = .ok (.getfield 130, 3) := by decide +kernel
theorem dX_conditions_62 : decode cX_conditions 62 = .ok (.ifCond .eq 8, 3) := by decide +kernel
theorem dX_conditions_65 : decode cX_conditions 65 = .ok (.bipush 16, 2) := by decide +kernel
theorem dX_conditions_67 : decode cX_conditions 67 = .ok (.goto 4, 3) := by decide +kernel
theorem dX_conditions_70 : decode cX_conditions 70 = .ok (.iconst 0, 1) := by decide +kernel
theorem dX_conditions_71 : decode cX_conditions 71 = .ok (.iadd, 1) := by decide +kernel
theorem dX_conditions_72 : decode cX_conditions 72 = .ok (.ireturn, 1) := by decide +kernel
theorem dX_isAddress_0 : decode cX_isAddress 0 = .ok (.iload_n 0, 1) := by decide +kernel
theorem dX_isAddress_1 : decode cX_isAddress 1 = .ok (.ifCond .lt 14, 3) := by decide +kernel
theorem dX_isAddress_4 : decode cX_isAddress 4 = .ok (.iload_n 0, 1) := by decide +kernel
theorem dX_isAddress_5 : decode cX_isAddress 5 = .ok (.sipush 4096, 3) := by decide +kernel
theorem dX_isAddress_8 : decode cX_isAddress 8 = .ok (.if_icmp .ge 7, 3) := by decide +kernel
theorem dX_isAddress_11 : decode cX_isAddress 11 = .ok (.iconst 1, 1) := by decide +kernel
theorem dX_isAddress_12 : decode cX_isAddress 12 = .ok (.goto 4, 3) := by decide +kernel
theorem dX_isAddress_15 : decode cX_isAddress 15 = .ok (.iconst 0, 1) := by decide +kernel
theorem dX_isAddress_16 : decode cX_isAddress 16 = .ok (.ireturn, 1) := by decide +kernel
theorem dX_read_0 : decode cX_read 0 = .ok (.aload_n 0, 1) := by decide +kernel
theorem dX_read_1 : decode cX_read 1 = .ok (.getfield 9, 3) := by decide +kernel
theorem dX_read_4 : decode cX_read 4 = .ok (.iload_n 1, 1) := by decide +kernel
theorem dX_read_5 : decode cX_read 5 = .ok (.sipush 4095, 3) := by decide +kernel
theorem dX_read_8 : decode cX_read 8 = .ok (.iand, 1) := by decide +kernel
theorem dX_read_9 : decode cX_read 9 = .ok (.iaload, 1) := by decide +kernel
theorem dX_read_10 : decode cX_read 10 = .ok (.ireturn, 1) := by decide +kernel
theorem dX_write_0 : decode cX_write 0 = .ok (.aload_n 0, 1) := by decide +kernel
theorem dX_write_1 : decode cX_write 1 = .ok (.getfield 9, 3) := by decide +kernel
theorem dX_write_4 : decode cX_write 4 = .ok (.iload_n 1, 1) := by decide +kernel
theorem dX_write_5 : decode cX_write 5 = .ok (.sipush 4095, 3) := by decide +kernel
theorem dX_write_8 : decode cX_write 8 = .ok (.iand, 1) := by decide +kernel
theorem dX_write_9 : decode cX_write 9 = .ok (.iload_n 2, 1) := by decide +kernel
theorem dX_write_10 : decode cX_write 10 = .ok (.sipush 4095, 3) := by decide +kernel
theorem dX_write_13 : decode cX_write 13 = .ok (.iand, 1) := by decide +kernel
theorem dX_write_14 : decode cX_write 14 = .ok (.iastore, 1) := by decide +kernel
theorem dX_write_15 : decode cX_write 15 = .ok (.return_, 1) := by decide +kernel
theorem dX_irHas_0 : decode cX_irHas 0 = .ok (.aload_n 0, 1) := by decide +kernel
theorem dX_irHas_1 : decode cX_irHas 1 = .ok (.getfield 61, 3) := by decide +kernel
theorem dX_irHas_4 : decode cX_irHas 4 = .ok (.iload_n 1, 1) := by decide +kernel
theorem dX_irHas_5 : decode cX_irHas 5 = .ok (.iand, 1) := by decide +kernel
theorem dX_irHas_6 : decode cX_irHas 6 = .ok (.ifCond .eq 7, 3) := by decide +kernel
theorem dX_irHas_9 : decode cX_irHas 9 = .ok (.iconst 1, 1) := by decide +kernel
theorem dX_irHas_10 : decode cX_irHas 10 = .ok (.goto 4, 3) := by decide +kernel
theorem dX_irHas_13 : decode cX_irHas 13 = .ok (.iconst 0, 1) := by decide +kernel
theorem dX_irHas_14 : decode cX_irHas 14 = .ok (.ireturn, 1) := by decide +kernel
theorem dX_perform_0 : decode cX_perform 0 = .ok (.iload_n 1, 1) := by decide +kernel
theorem dX_perform_1 : decode cX_perform 1 = .ok (.tableswitch 379 0 41 #[183, 188, 193, 198, 203, 208, 379, 379, 213, 220, 227, 232, 243, 254, 379, 259, 264, 269, 274, 279, 284, 289, 294, 299, 304, 309, 314, 319, 324, 379, 329, 334, 339, 344, 349, 354, 359, 364, 379, 379, 369, 374], 183) := by decide +kernel
theorem dX_perform_184 : decode cX_perform 184 = .ok (.aload_n 0, 1) := by decide +kernel
theorem dX_perform_185 : decode cX_perform 185 = .ok (.invokevirtual 131, 3) := by decide +kernel
theorem dX_perform_188 : decode cX_perform 188 = .ok (.ireturn, 1) := by decide +kernel
theorem dX_perform_189 : decode cX_perform 189 = .ok (.aload_n 0, 1) := by decide +kernel
theorem dX_perform_190 : decode cX_perform 190 = .ok (.invokevirtual 134, 3) := by decide +kernel
theorem dX_perform_193 : decode cX_perform 193 = .ok (.ireturn, 1) := by decide +kernel
theorem dX_perform_194 : decode cX_perform 194 = .ok (.aload_n 0, 1) := by decide +kernel
theorem dX_perform_195 : decode cX_perform 195 = .ok (.invokevirtual 137, 3) := by decide +kernel
theorem dX_perform_198 : decode cX_perform 198 = .ok (.ireturn, 1) := by decide +kernel
theorem dX_perform_199 : decode cX_perform 199 = .ok (.aload_n 0, 1) := by decide +kernel
theorem dX_perform_200 : decode cX_perform 200 = .ok (.invokevirtual 140, 3) := by decide +kernel
theorem dX_perform_203 : decode cX_perform 203 = .ok (.ireturn, 1) := by decide +kernel
theorem dX_perform_204 : decode cX_perform 204 = .ok (.aload_n 0, 1) := by decide +kernel
theorem dX_perform_205 : decode cX_perform 205 = .ok (.invokevirtual 143, 3) := by decide +kernel
theorem dX_perform_208 : decode cX_perform 208 = .ok (.ireturn, 1) := by decide +kernel
theorem dX_perform_209 : decode cX_perform 209 = .ok (.aload_n 0, 1) := by decide +kernel
theorem dX_perform_210 : decode cX_perform 210 = .ok (.invokevirtual 146, 3) := by decide +kernel
theorem dX_perform_213 : decode cX_perform 213 = .ok (.ireturn, 1) := by decide +kernel
theorem dX_perform_214 : decode cX_perform 214 = .ok (.aload_n 0, 1) := by decide +kernel
theorem dX_perform_215 : decode cX_perform 215 = .ok (.bipush 16, 2) := by decide +kernel
theorem dX_perform_217 : decode cX_perform 217 = .ok (.invokevirtual 149, 3) := by decide +kernel
theorem dX_perform_220 : decode cX_perform 220 = .ok (.ireturn, 1) := by decide +kernel
theorem dX_perform_221 : decode cX_perform 221 = .ok (.aload_n 0, 1) := by decide +kernel
theorem dX_perform_222 : decode cX_perform 222 = .ok (.bipush 17, 2) := by decide +kernel
theorem dX_perform_224 : decode cX_perform 224 = .ok (.invokevirtual 149, 3) := by decide +kernel
theorem dX_perform_227 : decode cX_perform 227 = .ok (.ireturn, 1) := by decide +kernel
theorem dX_perform_228 : decode cX_perform 228 = .ok (.aload_n 0, 1) := by decide +kernel
theorem dX_perform_229 : decode cX_perform 229 = .ok (.invokevirtual 152, 3) := by decide +kernel
theorem dX_perform_232 : decode cX_perform 232 = .ok (.ireturn, 1) := by decide +kernel
theorem dX_perform_233 : decode cX_perform 233 = .ok (.aload_n 0, 1) := by decide +kernel
theorem dX_perform_234 : decode cX_perform 234 = .ok (.aload_n 0, 1) := by decide +kernel
theorem dX_perform_235 : decode cX_perform 235 = .ok (.getfield 46, 3) := by decide +kernel
theorem dX_perform_238 : decode cX_perform 238 = .ok (.bipush 19, 2) := by decide +kernel
theorem dX_perform_240 : decode cX_perform 240 = .ok (.invokevirtual 155, 3) := by decide +kernel
theorem dX_perform_243 : decode cX_perform 243 = .ok (.ireturn, 1) := by decide +kernel
theorem dX_perform_244 : decode cX_perform 244 = .ok (.aload_n 0, 1) := by decide +kernel
theorem dX_perform_245 : decode cX_perform 245 = .ok (.aload_n 0, 1) := by decide +kernel
theorem dX_perform_246 : decode cX_perform 246 = .ok (.getfield 42, 3) := by decide +kernel
theorem dX_perform_249 : decode cX_perform 249 = .ok (.bipush 15, 2) := by decide +kernel
theorem dX_perform_251 : decode cX_perform 251 = .ok (.invokevirtual 155, 3) := by decide +kernel
theorem dX_perform_254 : decode cX_perform 254 = .ok (.ireturn, 1) := by decide +kernel
theorem dX_perform_255 : decode cX_perform 255 = .ok (.aload_n 0, 1) := by decide +kernel
theorem dX_perform_256 : decode cX_perform 256 = .ok (.invokevirtual 158, 3) := by decide +kernel
theorem dX_perform_259 : decode cX_perform 259 = .ok (.ireturn, 1) := by decide +kernel
theorem dX_perform_260 : decode cX_perform 260 = .ok (.aload_n 0, 1) := by decide +kernel
theorem dX_perform_261 : decode cX_perform 261 = .ok (.invokevirtual 161, 3) := by decide +kernel
theorem dX_perform_264 : decode cX_perform 264 = .ok (.ireturn, 1) := by decide +kernel
theorem dX_perform_265 : decode cX_perform 265 = .ok (.aload_n 0, 1) := by decide +kernel
theorem dX_perform_266 : decode cX_perform 266 = .ok (.invokevirtual 164, 3) := by decide +kernel
theorem dX_perform_269 : decode cX_perform 269 = .ok (.ireturn, 1) := by decide +kernel
theorem dX_perform_270 : decode cX_perform 270 = .ok (.aload_n 0, 1) := by decide +kernel
theorem dX_perform_271 : decode cX_perform 271 = .ok (.invokevirtual 167, 3) := by decide +kernel
theorem dX_perform_274 : decode cX_perform 274 = .ok (.ireturn, 1) := by decide +kernel
theorem dX_perform_275 : decode cX_perform 275 = .ok (.aload_n 0, 1) := by decide +kernel
theorem dX_perform_276 : decode cX_perform 276 = .ok (.invokevirtual 170, 3) := by decide +kernel
theorem dX_perform_279 : decode cX_perform 279 = .ok (.ireturn, 1) := by decide +kernel
theorem dX_perform_280 : decode cX_perform 280 = .ok (.aload_n 0, 1) := by decide +kernel
theorem dX_perform_281 : decode cX_perform 281 = .ok (.invokevirtual 173, 3) := by decide +kernel
theorem dX_perform_284 : decode cX_perform 284 = .ok (.ireturn, 1) := by decide +kernel
theorem dX_perform_285 : decode cX_perform 285 = .ok (.aload_n 0, 1) := by decide +kernel
theorem dX_perform_286 : decode cX_perform 286 = .ok (.invokevirtual 176, 3) := by decide +kernel
theorem dX_perform_289 : decode cX_perform 289 = .ok (.ireturn, 1) := by decide +kernel
theorem dX_perform_290 : decode cX_perform 290 = .ok (.aload_n 0, 1) := by decide +kernel
theorem dX_perform_291 : decode cX_perform 291 = .ok (.invokevirtual 179, 3) := by decide +kernel
theorem dX_perform_294 : decode cX_perform 294 = .ok (.ireturn, 1) := by decide +kernel
theorem dX_perform_295 : decode cX_perform 295 = .ok (.aload_n 0, 1) := by decide +kernel
theorem dX_perform_296 : decode cX_perform 296 = .ok (.invokevirtual 182, 3) := by decide +kernel
theorem dX_perform_299 : decode cX_perform 299 = .ok (.ireturn, 1) := by decide +kernel
theorem dX_perform_300 : decode cX_perform 300 = .ok (.aload_n 0, 1) := by decide +kernel
theorem dX_perform_301 : decode cX_perform 301 = .ok (.invokevirtual 185, 3) := by decide +kernel
theorem dX_perform_304 : decode cX_perform 304 = .ok (.ireturn, 1) := by decide +kernel
theorem dX_perform_305 : decode cX_perform 305 = .ok (.aload_n 0, 1) := by decide +kernel
theorem dX_perform_306 : decode cX_perform 306 = .ok (.invokevirtual 188, 3) := by decide +kernel
theorem dX_perform_309 : decode cX_perform 309 = .ok (.ireturn, 1) := by decide +kernel
theorem dX_perform_310 : decode cX_perform 310 = .ok (.aload_n 0, 1) := by decide +kernel
theorem dX_perform_311 : decode cX_perform 311 = .ok (.invokevirtual 191, 3) := by decide +kernel
theorem dX_perform_314 : decode cX_perform 314 = .ok (.ireturn, 1) := by decide +kernel
theorem dX_perform_315 : decode cX_perform 315 = .ok (.aload_n 0, 1) := by decide +kernel
theorem dX_perform_316 : decode cX_perform 316 = .ok (.invokevirtual 194, 3) := by decide +kernel
theorem dX_perform_319 : decode cX_perform 319 = .ok (.ireturn, 1) := by decide +kernel
theorem dX_perform_320 : decode cX_perform 320 = .ok (.aload_n 0, 1) := by decide +kernel
theorem dX_perform_321 : decode cX_perform 321 = .ok (.invokevirtual 197, 3) := by decide +kernel
theorem dX_perform_324 : decode cX_perform 324 = .ok (.ireturn, 1) := by decide +kernel
theorem dX_perform_325 : decode cX_perform 325 = .ok (.aload_n 0, 1) := by decide +kernel
theorem dX_perform_326 : decode cX_perform 326 = .ok (.invokevirtual 200, 3) := by decide +kernel
theorem dX_perform_329 : decode cX_perform 329 = .ok (.ireturn, 1) := by decide +kernel
theorem dX_perform_330 : decode cX_perform 330 = .ok (.aload_n 0, 1) := by decide +kernel
theorem dX_perform_331 : decode cX_perform 331 = .ok (.invokevirtual 203, 3) := by decide +kernel
theorem dX_perform_334 : decode cX_perform 334 = .ok (.ireturn, 1) := by decide +kernel
theorem dX_perform_335 : decode cX_perform 335 = .ok (.aload_n 0, 1) := by decide +kernel
theorem dX_perform_336 : decode cX_perform 336 = .ok (.invokevirtual 206, 3) := by decide +kernel
theorem dX_perform_339 : decode cX_perform 339 = .ok (.ireturn, 1) := by decide +kernel
theorem dX_perform_340 : decode cX_perform 340 = .ok (.aload_n 0, 1) := by decide +kernel
theorem dX_perform_341 : decode cX_perform 341 = .ok (.invokevirtual 209, 3) := by decide +kernel
theorem dX_perform_344 : decode cX_perform 344 = .ok (.ireturn, 1) := by decide +kernel
theorem dX_perform_345 : decode cX_perform 345 = .ok (.aload_n 0, 1) := by decide +kernel
theorem dX_perform_346 : decode cX_perform 346 = .ok (.invokevirtual 212, 3) := by decide +kernel
theorem dX_perform_349 : decode cX_perform 349 = .ok (.ireturn, 1) := by decide +kernel
theorem dX_perform_350 : decode cX_perform 350 = .ok (.aload_n 0, 1) := by decide +kernel
theorem dX_perform_351 : decode cX_perform 351 = .ok (.invokevirtual 215, 3) := by decide +kernel
theorem dX_perform_354 : decode cX_perform 354 = .ok (.ireturn, 1) := by decide +kernel
theorem dX_perform_355 : decode cX_perform 355 = .ok (.aload_n 0, 1) := by decide +kernel
theorem dX_perform_356 : decode cX_perform 356 = .ok (.invokevirtual 218, 3) := by decide +kernel
theorem dX_perform_359 : decode cX_perform 359 = .ok (.ireturn, 1) := by decide +kernel
theorem dX_perform_360 : decode cX_perform 360 = .ok (.aload_n 0, 1) := by decide +kernel
theorem dX_perform_361 : decode cX_perform 361 = .ok (.invokevirtual 221, 3) := by decide +kernel
theorem dX_perform_364 : decode cX_perform 364 = .ok (.ireturn, 1) := by decide +kernel
theorem dX_perform_365 : decode cX_perform 365 = .ok (.aload_n 0, 1) := by decide +kernel
theorem dX_perform_366 : decode cX_perform 366 = .ok (.invokevirtual 224, 3) := by decide +kernel
theorem dX_perform_369 : decode cX_perform 369 = .ok (.ireturn, 1) := by decide +kernel
theorem dX_perform_370 : decode cX_perform 370 = .ok (.aload_n 0, 1) := by decide +kernel
theorem dX_perform_371 : decode cX_perform 371 = .ok (.invokevirtual 227, 3) := by decide +kernel
theorem dX_perform_374 : decode cX_perform 374 = .ok (.ireturn, 1) := by decide +kernel
theorem dX_perform_375 : decode cX_perform 375 = .ok (.aload_n 0, 1) := by decide +kernel
theorem dX_perform_376 : decode cX_perform 376 = .ok (.invokevirtual 161, 3) := by decide +kernel
theorem dX_perform_379 : decode cX_perform 379 = .ok (.ireturn, 1) := by decide +kernel
theorem dX_perform_380 : decode cX_perform 380 = .ok (.iconst 0, 1) := by decide +kernel
theorem dX_perform_381 : decode cX_perform 381 = .ok (.ireturn, 1) := by decide +kernel
theorem dX_begin_0 : decode cX_begin 0 = .ok (.aload_n 0, 1) := by decide +kernel
theorem dX_begin_1 : decode cX_begin 1 = .ok (.getfield 64, 3) := by decide +kernel
theorem dX_begin_4 : decode cX_begin 4 = .ok (.ifCond .eq 33, 3) := by decide +kernel
theorem dX_begin_7 : decode cX_begin 7 = .ok (.aload_n 0, 1) := by decide +kernel
theorem dX_begin_8 : decode cX_begin 8 = .ok (.getfield 67, 3) := by decide +kernel
theorem dX_begin_11 : decode cX_begin 11 = .ok (.ifCond .ne 26, 3) := by decide +kernel
theorem dX_begin_14 : decode cX_begin 14 = .ok (.aload_n 0, 1) := by decide +kernel
theorem dX_begin_15 : decode cX_begin 15 = .ok (.getfield 16, 3) := by decide +kernel
theorem dX_begin_18 : decode cX_begin 18 = .ok (.getfield 127, 3) := by decide +kernel
theorem dX_begin_21 : decode cX_begin 21 = .ok (.ifCond .ne 13, 3) := by decide +kernel
theorem dX_begin_24 : decode cX_begin 24 = .ok (.aload_n 0, 1) := by decide +kernel
theorem dX_begin_25 : decode cX_begin 25 = .ok (.getfield 34, 3) := by decide +kernel
theorem dX_begin_28 : decode cX_begin 28 = .ok (.getfield 130, 3) := by decide +kernel
theorem dX_begin_31 : decode cX_begin 31 = .ok (.ifCond .eq 6, 3) := by decide +kernel
theorem dX_begin_34 : decode cX_begin 34 = .ok (.bipush 40, 2) := by decide +kernel
theorem dX_begin_36 : decode cX_begin 36 = .ok (.ireturn, 1) := by decide +kernel
theorem dX_begin_37 : decode cX_begin 37 = .ok (.aload_n 0, 1) := by decide +kernel
theorem dX_begin_38 : decode cX_begin 38 = .ok (.iconst 0, 1) := by decide +kernel
theorem dX_begin_39 : decode cX_begin 39 = .ok (.putfield 67, 3) := by decide +kernel
theorem dX_begin_42 : decode cX_begin 42 = .ok (.aload_n 0, 1) := by decide +kernel
theorem dX_begin_43 : decode cX_begin 43 = .ok (.aload_n 0, 1) := by decide +kernel
theorem dX_begin_44 : decode cX_begin 44 = .ok (.getfield 42, 3) := by decide +kernel
theorem dX_begin_47 : decode cX_begin 47 = .ok (.putfield 55, 3) := by decide +kernel
theorem dX_begin_50 : decode cX_begin 50 = .ok (.aload_n 0, 1) := by decide +kernel
theorem dX_begin_51 : decode cX_begin 51 = .ok (.invokevirtual 230, 3) := by decide +kernel
theorem dX_begin_54 : decode cX_begin 54 = .ok (.iconst 1, 1) := by decide +kernel
theorem dX_begin_55 : decode cX_begin 55 = .ok (.ireturn, 1) := by decide +kernel
theorem dX_advancePc_0 : decode cX_advancePc 0 = .ok (.aload_n 0, 1) := by decide +kernel
theorem dX_advancePc_1 : decode cX_advancePc 1 = .ok (.aload_n 0, 1) := by decide +kernel
theorem dX_advancePc_2 : decode cX_advancePc 2 = .ok (.getfield 42, 3) := by decide +kernel
theorem dX_advancePc_5 : decode cX_advancePc 5 = .ok (.iconst 1, 1) := by decide +kernel
theorem dX_advancePc_6 : decode cX_advancePc 6 = .ok (.iadd, 1) := by decide +kernel
theorem dX_advancePc_7 : decode cX_advancePc 7 = .ok (.sipush 4095, 3) := by decide +kernel
theorem dX_advancePc_10 : decode cX_advancePc 10 = .ok (.iand, 1) := by decide +kernel
theorem dX_advancePc_11 : decode cX_advancePc 11 = .ok (.putfield 42, 3) := by decide +kernel
theorem dX_advancePc_14 : decode cX_advancePc 14 = .ok (.return_, 1) := by decide +kernel
theorem dX_fetch_0 : decode cX_fetch 0 = .ok (.aload_n 0, 1) := by decide +kernel
theorem dX_fetch_1 : decode cX_fetch 1 = .ok (.aload_n 0, 1) := by decide +kernel
theorem dX_fetch_2 : decode cX_fetch 2 = .ok (.aload_n 0, 1) := by decide +kernel
theorem dX_fetch_3 : decode cX_fetch 3 = .ok (.getfield 55, 3) := by decide +kernel
theorem dX_fetch_6 : decode cX_fetch 6 = .ok (.invokevirtual 91, 3) := by decide +kernel
theorem dX_fetch_9 : decode cX_fetch 9 = .ok (.putfield 58, 3) := by decide +kernel
theorem dX_fetch_12 : decode cX_fetch 12 = .ok (.aload_n 0, 1) := by decide +kernel
theorem dX_fetch_13 : decode cX_fetch 13 = .ok (.aload_n 0, 1) := by decide +kernel
theorem dX_fetch_14 : decode cX_fetch 14 = .ok (.getfield 58, 3) := by decide +kernel
theorem dX_fetch_17 : decode cX_fetch 17 = .ok (.putfield 61, 3) := by decide +kernel
theorem dX_fetch_20 : decode cX_fetch 20 = .ok (.aload_n 0, 1) := by decide +kernel
theorem dX_fetch_21 : decode cX_fetch 21 = .ok (.getfield 61, 3) := by decide +kernel
theorem dX_fetch_24 : decode cX_fetch 24 = .ok (.sipush 3584, 3) := by decide +kernel
theorem dX_fetch_27 : decode cX_fetch 27 = .ok (.if_icmp .lt 6, 3) := by decide +kernel
theorem dX_fetch_30 : decode cX_fetch 30 = .ok (.bipush 20, 2) := by decide +kernel
theorem dX_fetch_32 : decode cX_fetch 32 = .ok (.ireturn, 1) := by decide +kernel
theorem dX_fetch_33 : decode cX_fetch 33 = .ok (.aload_n 0, 1) := by decide +kernel
theorem dX_fetch_34 : decode cX_fetch 34 = .ok (.getfield 61, 3) := by decide +kernel
theorem dX_fetch_37 : decode cX_fetch 37 = .ok (.sipush 3072, 3) := by decide +kernel
theorem dX_fetch_40 : decode cX_fetch 40 = .ok (.if_icmp .lt 8, 3) := by decide +kernel
theorem dX_fetch_43 : decode cX_fetch 43 = .ok (.bipush 32, 2) := by decide +kernel
theorem dX_fetch_45 : decode cX_fetch 45 = .ok (.goto 4, 3) := by decide +kernel
theorem dX_fetch_48 : decode cX_fetch 48 = .ok (.iconst 2, 1) := by decide +kernel
theorem dX_fetch_49 : decode cX_fetch 49 = .ok (.ireturn, 1) := by decide +kernel
theorem dX_findAddress_0 : decode cX_findAddress 0 = .ok (.aload_n 0, 1) := by decide +kernel
theorem dX_findAddress_1 : decode cX_findAddress 1 = .ok (.sipush 128, 3) := by decide +kernel
theorem dX_findAddress_4 : decode cX_findAddress 4 = .ok (.invokevirtual 233, 3) := by decide +kernel
theorem dX_findAddress_7 : decode cX_findAddress 7 = .ok (.ifCond .eq 14, 3) := by decide +kernel
theorem dX_findAddress_10 : decode cX_findAddress 10 = .ok (.aload_n 0, 1) := by decide +kernel
theorem dX_findAddress_11 : decode cX_findAddress 11 = .ok (.getfield 55, 3) := by decide +kernel
theorem dX_findAddress_14 : decode cX_findAddress 14 = .ok (.sipush 3968, 3) := by decide +kernel
theorem dX_findAddress_17 : decode cX_findAddress 17 = .ok (.iand, 1) := by decide +kernel
theorem dX_findAddress_18 : decode cX_findAddress 18 = .ok (.goto 4, 3) := by decide +kernel
theorem dX_findAddress_21 : decode cX_findAddress 21 = .ok (.iconst 0, 1) := by decide +kernel
theorem dX_findAddress_22 : decode cX_findAddress 22 = .ok (.istore_n 1, 1) := by decide +kernel
theorem dX_findAddress_23 : decode cX_findAddress 23 = .ok (.aload_n 0, 1) := by decide +kernel
theorem dX_findAddress_24 : decode cX_findAddress 24 = .ok (.iload_n 1, 1) := by decide +kernel
theorem dX_findAddress_25 : decode cX_findAddress 25 = .ok (.aload_n 0, 1) := by decide +kernel
theorem dX_findAddress_26 : decode cX_findAddress 26 = .ok (.getfield 61, 3) := by decide +kernel
theorem dX_findAddress_29 : decode cX_findAddress 29 = .ok (.bipush 127, 2) := by decide +kernel
theorem dX_findAddress_31 : decode cX_findAddress 31 = .ok (.iand, 1) := by decide +kernel
theorem dX_findAddress_32 : decode cX_findAddress 32 = .ok (.iadd, 1) := by decide +kernel
theorem dX_findAddress_33 : decode cX_findAddress 33 = .ok (.putfield 55, 3) := by decide +kernel
theorem dX_findAddress_36 : decode cX_findAddress 36 = .ok (.aload_n 0, 1) := by decide +kernel
theorem dX_findAddress_37 : decode cX_findAddress 37 = .ok (.sipush 256, 3) := by decide +kernel
theorem dX_findAddress_40 : decode cX_findAddress 40 = .ok (.invokevirtual 233, 3) := by decide +kernel
theorem dX_findAddress_43 : decode cX_findAddress 43 = .ok (.ifCond .eq 7, 3) := by decide +kernel
theorem dX_findAddress_46 : decode cX_findAddress 46 = .ok (.iconst 3, 1) := by decide +kernel
theorem dX_findAddress_47 : decode cX_findAddress 47 = .ok (.goto 7, 3) := by decide +kernel
theorem dX_findAddress_50 : decode cX_findAddress 50 = .ok (.aload_n 0, 1) := by decide +kernel
theorem dX_findAddress_51 : decode cX_findAddress 51 = .ok (.invokevirtual 236, 3) := by decide +kernel
theorem dX_findAddress_54 : decode cX_findAddress 54 = .ok (.ireturn, 1) := by decide +kernel
theorem dX_firstOfInstruction_0 : decode cX_firstOfInstruction 0 = .ok (.bipush 8, 2) := by decide +kernel
theorem dX_firstOfInstruction_2 : decode cX_firstOfInstruction 2 = .ok (.aload_n 0, 1) := by decide +kernel
theorem dX_firstOfInstruction_3 : decode cX_firstOfInstruction 3 = .ok (.getfield 61, 3) := by decide +kernel
theorem dX_firstOfInstruction_6 : decode cX_firstOfInstruction 6 = .ok (.sipush 512, 3) := by decide +kernel
theorem dX_firstOfInstruction_9 : decode cX_firstOfInstruction 9 = .ok (.idiv, 1) := by decide +kernel
theorem dX_firstOfInstruction_10 : decode cX_firstOfInstruction 10 = .ok (.iadd, 1) := by decide +kernel
theorem dX_firstOfInstruction_11 : decode cX_firstOfInstruction 11 = .ok (.ireturn, 1) := by decide +kernel
theorem dX_readPointer_0 : decode cX_readPointer 0 = .ok (.aload_n 0, 1) := by decide +kernel
theorem dX_readPointer_1 : decode cX_readPointer 1 = .ok (.aload_n 0, 1) := by decide +kernel
theorem dX_readPointer_2 : decode cX_readPointer 2 = .ok (.aload_n 0, 1) := by decide +kernel
theorem dX_readPointer_3 : decode cX_readPointer 3 = .ok (.getfield 55, 3) := by decide +kernel
theorem dX_readPointer_6 : decode cX_readPointer 6 = .ok (.invokevirtual 91, 3) := by decide +kernel
theorem dX_readPointer_9 : decode cX_readPointer 9 = .ok (.putfield 58, 3) := by decide +kernel
theorem dX_readPointer_12 : decode cX_readPointer 12 = .ok (.aload_n 0, 1) := by decide +kernel
theorem dX_readPointer_13 : decode cX_readPointer 13 = .ok (.getfield 55, 3) := by decide +kernel
theorem dX_readPointer_16 : decode cX_readPointer 16 = .ok (.bipush 8, 2) := by decide +kernel
theorem dX_readPointer_18 : decode cX_readPointer 18 = .ok (.if_icmp .lt 16, 3) := by decide +kernel
theorem dX_readPointer_21 : decode cX_readPointer 21 = .ok (.aload_n 0, 1) := by decide +kernel
theorem dX_readPointer_22 : decode cX_readPointer 22 = .ok (.getfield 55, 3) := by decide +kernel
theorem dX_readPointer_25 : decode cX_readPointer 25 = .ok (.bipush 15, 2) := by decide +kernel
theorem dX_readPointer_27 : decode cX_readPointer 27 = .ok (.if_icmp .gt 7, 3) := by decide +kernel
theorem dX_readPointer_30 : decode cX_readPointer 30 = .ok (.iconst 4, 1) := by decide +kernel
theorem dX_readPointer_31 : decode cX_readPointer 31 = .ok (.goto 4, 3) := by decide +kernel
theorem dX_readPointer_34 : decode cX_readPointer 34 = .ok (.iconst 5, 1) := by decide +kernel
theorem dX_readPointer_35 : decode cX_readPointer 35 = .ok (.ireturn, 1) := by decide +kernel
theorem dX_advancePointer_0 : decode cX_advancePointer 0 = .ok (.aload_n 0, 1) := by decide +kernel
theorem dX_advancePointer_1 : decode cX_advancePointer 1 = .ok (.aload_n 0, 1) := by decide +kernel
theorem dX_advancePointer_2 : decode cX_advancePointer 2 = .ok (.getfield 58, 3) := by decide +kernel
theorem dX_advancePointer_5 : decode cX_advancePointer 5 = .ok (.iconst 1, 1) := by decide +kernel
theorem dX_advancePointer_6 : decode cX_advancePointer 6 = .ok (.iadd, 1) := by decide +kernel
theorem dX_advancePointer_7 : decode cX_advancePointer 7 = .ok (.sipush 4095, 3) := by decide +kernel
theorem dX_advancePointer_10 : decode cX_advancePointer 10 = .ok (.iand, 1) := by decide +kernel
theorem dX_advancePointer_11 : decode cX_advancePointer 11 = .ok (.putfield 58, 3) := by decide +kernel
theorem dX_advancePointer_14 : decode cX_advancePointer 14 = .ok (.aload_n 0, 1) := by decide +kernel
theorem dX_advancePointer_15 : decode cX_advancePointer 15 = .ok (.aload_n 0, 1) := by decide +kernel
theorem dX_advancePointer_16 : decode cX_advancePointer 16 = .ok (.getfield 55, 3) := by decide +kernel
theorem dX_advancePointer_19 : decode cX_advancePointer 19 = .ok (.aload_n 0, 1) := by decide +kernel
theorem dX_advancePointer_20 : decode cX_advancePointer 20 = .ok (.getfield 58, 3) := by decide +kernel
theorem dX_advancePointer_23 : decode cX_advancePointer 23 = .ok (.invokevirtual 87, 3) := by decide +kernel
theorem dX_advancePointer_26 : decode cX_advancePointer 26 = .ok (.iconst 5, 1) := by decide +kernel
theorem dX_advancePointer_27 : decode cX_advancePointer 27 = .ok (.ireturn, 1) := by decide +kernel
theorem dX_followPointer_0 : decode cX_followPointer 0 = .ok (.aload_n 0, 1) := by decide +kernel
theorem dX_followPointer_1 : decode cX_followPointer 1 = .ok (.aload_n 0, 1) := by decide +kernel
theorem dX_followPointer_2 : decode cX_followPointer 2 = .ok (.getfield 58, 3) := by decide +kernel
theorem dX_followPointer_5 : decode cX_followPointer 5 = .ok (.putfield 55, 3) := by decide +kernel
theorem dX_followPointer_8 : decode cX_followPointer 8 = .ok (.aload_n 0, 1) := by decide +kernel
theorem dX_followPointer_9 : decode cX_followPointer 9 = .ok (.invokevirtual 236, 3) := by decide +kernel
theorem dX_followPointer_12 : decode cX_followPointer 12 = .ok (.ireturn, 1) := by decide +kernel
theorem dX_readOperand_0 : decode cX_readOperand 0 = .ok (.aload_n 0, 1) := by decide +kernel
theorem dX_readOperand_1 : decode cX_readOperand 1 = .ok (.aload_n 0, 1) := by decide +kernel
theorem dX_readOperand_2 : decode cX_readOperand 2 = .ok (.aload_n 0, 1) := by decide +kernel
theorem dX_readOperand_3 : decode cX_readOperand 3 = .ok (.getfield 55, 3) := by decide +kernel
theorem dX_readOperand_6 : decode cX_readOperand 6 = .ok (.invokevirtual 91, 3) := by decide +kernel
theorem dX_readOperand_9 : decode cX_readOperand 9 = .ok (.putfield 58, 3) := by decide +kernel
theorem dX_readOperand_12 : decode cX_readOperand 12 = .ok (.iload_n 1, 1) := by decide +kernel
theorem dX_readOperand_13 : decode cX_readOperand 13 = .ok (.ireturn, 1) := by decide +kernel
theorem dX_readOneMore_0 : decode cX_readOneMore 0 = .ok (.aload_n 0, 1) := by decide +kernel
theorem dX_readOneMore_1 : decode cX_readOneMore 1 = .ok (.aload_n 0, 1) := by decide +kernel
theorem dX_readOneMore_2 : decode cX_readOneMore 2 = .ok (.aload_n 0, 1) := by decide +kernel
theorem dX_readOneMore_3 : decode cX_readOneMore 3 = .ok (.getfield 55, 3) := by decide +kernel
theorem dX_readOneMore_6 : decode cX_readOneMore 6 = .ok (.invokevirtual 91, 3) := by decide +kernel
theorem dX_readOneMore_9 : decode cX_readOneMore 9 = .ok (.iconst 1, 1) := by decide +kernel
theorem dX_readOneMore_10 : decode cX_readOneMore 10 = .ok (.iadd, 1) := by decide +kernel
theorem dX_readOneMore_11 : decode cX_readOneMore 11 = .ok (.sipush 4095, 3) := by decide +kernel
theorem dX_readOneMore_14 : decode cX_readOneMore 14 = .ok (.iand, 1) := by decide +kernel
theorem dX_readOneMore_15 : decode cX_readOneMore 15 = .ok (.putfield 58, 3) := by decide +kernel
theorem dX_readOneMore_18 : decode cX_readOneMore 18 = .ok (.bipush 18, 2) := by decide +kernel
theorem dX_readOneMore_20 : decode cX_readOneMore 20 = .ok (.ireturn, 1) := by decide +kernel
theorem dX_takeIntoMb_0 : decode cX_takeIntoMb 0 = .ok (.aload_n 0, 1) := by decide +kernel
theorem dX_takeIntoMb_1 : decode cX_takeIntoMb 1 = .ok (.iload_n 1, 1) := by decide +kernel
theorem dX_takeIntoMb_2 : decode cX_takeIntoMb 2 = .ok (.putfield 58, 3) := by decide +kernel
theorem dX_takeIntoMb_5 : decode cX_takeIntoMb 5 = .ok (.iload_n 2, 1) := by decide +kernel
theorem dX_takeIntoMb_6 : decode cX_takeIntoMb 6 = .ok (.ireturn, 1) := by decide +kernel
theorem dX_jump_0 : decode cX_jump 0 = .ok (.aload_n 0, 1) := by decide +kernel
theorem dX_jump_1 : decode cX_jump 1 = .ok (.aload_n 0, 1) := by decide +kernel
theorem dX_jump_2 : decode cX_jump 2 = .ok (.getfield 55, 3) := by decide +kernel
theorem dX_jump_5 : decode cX_jump 5 = .ok (.putfield 42, 3) := by decide +kernel
theorem dX_jump_8 : decode cX_jump 8 = .ok (.iconst 0, 1) := by decide +kernel
theorem dX_jump_9 : decode cX_jump 9 = .ok (.ireturn, 1) := by decide +kernel
theorem dX_storeAndGoBehind_0 : decode cX_storeAndGoBehind 0 = .ok (.aload_n 0, 1) := by decide +kernel
theorem dX_storeAndGoBehind_1 : decode cX_storeAndGoBehind 1 = .ok (.aload_n 0, 1) := by decide +kernel
theorem dX_storeAndGoBehind_2 : decode cX_storeAndGoBehind 2 = .ok (.getfield 55, 3) := by decide +kernel
theorem dX_storeAndGoBehind_5 : decode cX_storeAndGoBehind 5 = .ok (.aload_n 0, 1) := by decide +kernel
theorem dX_storeAndGoBehind_6 : decode cX_storeAndGoBehind 6 = .ok (.getfield 58, 3) := by decide +kernel
theorem dX_storeAndGoBehind_9 : decode cX_storeAndGoBehind 9 = .ok (.invokevirtual 87, 3) := by decide +kernel
theorem dX_storeAndGoBehind_12 : decode cX_storeAndGoBehind 12 = .ok (.aload_n 0, 1) := by decide +kernel
theorem dX_storeAndGoBehind_13 : decode cX_storeAndGoBehind 13 = .ok (.aload_n 0, 1) := by decide +kernel
theorem dX_storeAndGoBehind_14 : decode cX_storeAndGoBehind 14 = .ok (.getfield 55, 3) := by decide +kernel
theorem dX_storeAndGoBehind_17 : decode cX_storeAndGoBehind 17 = .ok (.iconst 1, 1) := by decide +kernel
theorem dX_storeAndGoBehind_18 : decode cX_storeAndGoBehind 18 = .ok (.iadd, 1) := by decide +kernel
theorem dX_storeAndGoBehind_19 : decode cX_storeAndGoBehind 19 = .ok (.sipush 4095, 3) := by decide +kernel
theorem dX_storeAndGoBehind_22 : decode cX_storeAndGoBehind 22 = .ok (.iand, 1) := by decide +kernel
theorem dX_storeAndGoBehind_23 : decode cX_storeAndGoBehind 23 = .ok (.putfield 42, 3) := by decide +kernel
theorem dX_storeAndGoBehind_26 : decode cX_storeAndGoBehind 26 = .ok (.iconst 0, 1) := by decide +kernel
theorem dX_storeAndGoBehind_27 : decode cX_storeAndGoBehind 27 = .ok (.ireturn, 1) := by decide +kernel
theorem dX_andOperand_0 : decode cX_andOperand 0 = .ok (.aload_n 0, 1) := by decide +kernel
theorem dX_andOperand_1 : decode cX_andOperand 1 = .ok (.dup, 1) := by decide +kernel
theorem dX_andOperand_2 : decode cX_andOperand 2 = .ok (.getfield 46, 3) := by decide +kernel
theorem dX_andOperand_5 : decode cX_andOperand 5 = .ok (.aload_n 0, 1) := by decide +kernel
theorem dX_andOperand_6 : decode cX_andOperand 6 = .ok (.getfield 58, 3) := by decide +kernel
theorem dX_andOperand_9 : decode cX_andOperand 9 = .ok (.iand, 1) := by decide +kernel
theorem dX_andOperand_10 : decode cX_andOperand 10 = .ok (.putfield 46, 3) := by decide +kernel
theorem dX_andOperand_13 : decode cX_andOperand 13 = .ok (.iconst 0, 1) := by decide +kernel
theorem dX_andOperand_14 : decode cX_andOperand 14 = .ok (.ireturn, 1) := by decide +kernel
theorem dX_addOperand_0 : decode cX_addOperand 0 = .ok (.aload_n 0, 1) := by decide +kernel
theorem dX_addOperand_1 : decode cX_addOperand 1 = .ok (.aload_n 0, 1) := by decide +kernel
theorem dX_addOperand_2 : decode cX_addOperand 2 = .ok (.getfield 58, 3) := by decide +kernel
theorem dX_addOperand_5 : decode cX_addOperand 5 = .ok (.invokevirtual 239, 3) := by decide +kernel
theorem dX_addOperand_8 : decode cX_addOperand 8 = .ok (.iconst 0, 1) := by decide +kernel
theorem dX_addOperand_9 : decode cX_addOperand 9 = .ok (.ireturn, 1) := by decide +kernel
theorem dX_addToAc_0 : decode cX_addToAc 0 = .ok (.aload_n 0, 1) := by decide +kernel
theorem dX_addToAc_1 : decode cX_addToAc 1 = .ok (.getfield 46, 3) := by decide +kernel
theorem dX_addToAc_4 : decode cX_addToAc 4 = .ok (.iload_n 1, 1) := by decide +kernel
theorem dX_addToAc_5 : decode cX_addToAc 5 = .ok (.iadd, 1) := by decide +kernel
theorem dX_addToAc_6 : decode cX_addToAc 6 = .ok (.istore_n 2, 1) := by decide +kernel
theorem dX_addToAc_7 : decode cX_addToAc 7 = .ok (.iload_n 2, 1) := by decide +kernel
theorem dX_addToAc_8 : decode cX_addToAc 8 = .ok (.sipush 4095, 3) := by decide +kernel
theorem dX_addToAc_11 : decode cX_addToAc 11 = .ok (.if_icmp .le 7, 3) := by decide +kernel
theorem dX_addToAc_14 : decode cX_addToAc 14 = .ok (.aload_n 0, 1) := by decide +kernel
theorem dX_addToAc_15 : decode cX_addToAc 15 = .ok (.invokevirtual 242, 3) := by decide +kernel
theorem dX_addToAc_18 : decode cX_addToAc 18 = .ok (.aload_n 0, 1) := by decide +kernel
theorem dX_addToAc_19 : decode cX_addToAc 19 = .ok (.iload_n 2, 1) := by decide +kernel
theorem dX_addToAc_20 : decode cX_addToAc 20 = .ok (.sipush 4095, 3) := by decide +kernel
theorem dX_addToAc_23 : decode cX_addToAc 23 = .ok (.iand, 1) := by decide +kernel
theorem dX_addToAc_24 : decode cX_addToAc 24 = .ok (.putfield 46, 3) := by decide +kernel
theorem dX_addToAc_27 : decode cX_addToAc 27 = .ok (.return_, 1) := by decide +kernel
theorem dX_turnLinkOver_0 : decode cX_turnLinkOver 0 = .ok (.aload_n 0, 1) := by decide +kernel
theorem dX_turnLinkOver_1 : decode cX_turnLinkOver 1 = .ok (.iconst 1, 1) := by decide +kernel
theorem dX_turnLinkOver_2 : decode cX_turnLinkOver 2 = .ok (.aload_n 0, 1) := by decide +kernel
theorem dX_turnLinkOver_3 : decode cX_turnLinkOver 3 = .ok (.getfield 49, 3) := by decide +kernel
theorem dX_turnLinkOver_6 : decode cX_turnLinkOver 6 = .ok (.isub, 1) := by decide +kernel
theorem dX_turnLinkOver_7 : decode cX_turnLinkOver 7 = .ok (.putfield 49, 3) := by decide +kernel
theorem dX_turnLinkOver_10 : decode cX_turnLinkOver 10 = .ok (.return_, 1) := by decide +kernel
theorem dX_storeAndSkipIfZero_0 : decode cX_storeAndSkipIfZero 0 = .ok (.aload_n 0, 1) := by decide +kernel
theorem dX_storeAndSkipIfZero_1 : decode cX_storeAndSkipIfZero 1 = .ok (.aload_n 0, 1) := by decide +kernel
theorem dX_storeAndSkipIfZero_2 : decode cX_storeAndSkipIfZero 2 = .ok (.getfield 55, 3) := by decide +kernel
theorem dX_storeAndSkipIfZero_5 : decode cX_storeAndSkipIfZero 5 = .ok (.aload_n 0, 1) := by decide +kernel
theorem dX_storeAndSkipIfZero_6 : decode cX_storeAndSkipIfZero 6 = .ok (.getfield 58, 3) := by decide +kernel
theorem dX_storeAndSkipIfZero_9 : decode cX_storeAndSkipIfZero 9 = .ok (.invokevirtual 87, 3) := by decide +kernel
theorem dX_storeAndSkipIfZero_12 : decode cX_storeAndSkipIfZero 12 = .ok (.aload_n 0, 1) := by decide +kernel
theorem dX_storeAndSkipIfZero_13 : decode cX_storeAndSkipIfZero 13 = .ok (.getfield 58, 3) := by decide +kernel
theorem dX_storeAndSkipIfZero_16 : decode cX_storeAndSkipIfZero 16 = .ok (.ifCond .ne 7, 3) := by decide +kernel
theorem dX_storeAndSkipIfZero_19 : decode cX_storeAndSkipIfZero 19 = .ok (.aload_n 0, 1) := by decide +kernel
theorem dX_storeAndSkipIfZero_20 : decode cX_storeAndSkipIfZero 20 = .ok (.invokevirtual 230, 3) := by decide +kernel
theorem dX_storeAndSkipIfZero_23 : decode cX_storeAndSkipIfZero 23 = .ok (.iconst 0, 1) := by decide +kernel
theorem dX_storeAndSkipIfZero_24 : decode cX_storeAndSkipIfZero 24 = .ok (.ireturn, 1) := by decide +kernel
theorem dX_storeAndClear_0 : decode cX_storeAndClear 0 = .ok (.aload_n 0, 1) := by decide +kernel
theorem dX_storeAndClear_1 : decode cX_storeAndClear 1 = .ok (.aload_n 0, 1) := by decide +kernel
theorem dX_storeAndClear_2 : decode cX_storeAndClear 2 = .ok (.getfield 55, 3) := by decide +kernel
theorem dX_storeAndClear_5 : decode cX_storeAndClear 5 = .ok (.aload_n 0, 1) := by decide +kernel
theorem dX_storeAndClear_6 : decode cX_storeAndClear 6 = .ok (.getfield 58, 3) := by decide +kernel
theorem dX_storeAndClear_9 : decode cX_storeAndClear 9 = .ok (.invokevirtual 87, 3) := by decide +kernel
theorem dX_storeAndClear_12 : decode cX_storeAndClear 12 = .ok (.aload_n 0, 1) := by decide +kernel
theorem dX_storeAndClear_13 : decode cX_storeAndClear 13 = .ok (.iconst 0, 1) := by decide +kernel
theorem dX_storeAndClear_14 : decode cX_storeAndClear 14 = .ok (.putfield 46, 3) := by decide +kernel
theorem dX_storeAndClear_17 : decode cX_storeAndClear 17 = .ok (.iconst 0, 1) := by decide +kernel
theorem dX_storeAndClear_18 : decode cX_storeAndClear 18 = .ok (.ireturn, 1) := by decide +kernel
theorem dX_chooseOperateGroup_0 : decode cX_chooseOperateGroup 0 = .ok (.aload_n 0, 1) := by decide +kernel
theorem dX_chooseOperateGroup_1 : decode cX_chooseOperateGroup 1 = .ok (.sipush 256, 3) := by decide +kernel
theorem dX_chooseOperateGroup_4 : decode cX_chooseOperateGroup 4 = .ok (.invokevirtual 233, 3) := by decide +kernel
theorem dX_chooseOperateGroup_7 : decode cX_chooseOperateGroup 7 = .ok (.ifCond .ne 6, 3) := by decide +kernel
theorem dX_chooseOperateGroup_10 : decode cX_chooseOperateGroup 10 = .ok (.bipush 21, 2) := by decide +kernel
theorem dX_chooseOperateGroup_12 : decode cX_chooseOperateGroup 12 = .ok (.ireturn, 1) := by decide +kernel
theorem dX_chooseOperateGroup_13 : decode cX_chooseOperateGroup 13 = .ok (.aload_n 0, 1) := by decide +kernel
theorem dX_chooseOperateGroup_14 : decode cX_chooseOperateGroup 14 = .ok (.iconst 1, 1) := by decide +kernel
theorem dX_chooseOperateGroup_15 : decode cX_chooseOperateGroup 15 = .ok (.invokevirtual 233, 3) := by decide +kernel
theorem dX_chooseOperateGroup_18 : decode cX_chooseOperateGroup 18 = .ok (.ifCond .eq 8, 3) := by decide +kernel
theorem dX_chooseOperateGroup_21 : decode cX_chooseOperateGroup 21 = .ok (.bipush 30, 2) := by decide +kernel
theorem dX_chooseOperateGroup_23 : decode cX_chooseOperateGroup 23 = .ok (.goto 5, 3) := by decide +kernel
theorem dX_chooseOperateGroup_26 : decode cX_chooseOperateGroup 26 = .ok (.bipush 26, 2) := by decide +kernel
theorem dX_chooseOperateGroup_28 : decode cX_chooseOperateGroup 28 = .ok (.ireturn, 1) := by decide +kernel
theorem dX_clearAcIfAsked_0 : decode cX_clearAcIfAsked 0 = .ok (.aload_n 0, 1) := by decide +kernel
theorem dX_clearAcIfAsked_1 : decode cX_clearAcIfAsked 1 = .ok (.sipush 128, 3) := by decide +kernel
theorem dX_clearAcIfAsked_4 : decode cX_clearAcIfAsked 4 = .ok (.invokevirtual 233, 3) := by decide +kernel
theorem dX_clearAcIfAsked_7 : decode cX_clearAcIfAsked 7 = .ok (.ifCond .eq 8, 3) := by decide +kernel
theorem dX_clearAcIfAsked_10 : decode cX_clearAcIfAsked 10 = .ok (.aload_n 0, 1) := by decide +kernel
theorem dX_clearAcIfAsked_11 : decode cX_clearAcIfAsked 11 = .ok (.iconst 0, 1) := by decide +kernel
theorem dX_clearAcIfAsked_12 : decode cX_clearAcIfAsked 12 = .ok (.putfield 46, 3) := by decide +kernel
theorem dX_clearAcIfAsked_15 : decode cX_clearAcIfAsked 15 = .ok (.return_, 1) := by decide +kernel
theorem dX_clear_0 : decode cX_clear 0 = .ok (.aload_n 0, 1) := by decide +kernel
theorem dX_clear_1 : decode cX_clear 1 = .ok (.invokevirtual 245, 3) := by decide +kernel
theorem dX_clear_4 : decode cX_clear 4 = .ok (.aload_n 0, 1) := by decide +kernel
theorem dX_clear_5 : decode cX_clear 5 = .ok (.bipush 64, 2) := by decide +kernel
theorem dX_clear_7 : decode cX_clear 7 = .ok (.invokevirtual 233, 3) := by decide +kernel
theorem dX_clear_10 : decode cX_clear 10 = .ok (.ifCond .eq 8, 3) := by decide +kernel
theorem dX_clear_13 : decode cX_clear 13 = .ok (.aload_n 0, 1) := by decide +kernel
theorem dX_clear_14 : decode cX_clear 14 = .ok (.iconst 0, 1) := by decide +kernel
theorem dX_clear_15 : decode cX_clear 15 = .ok (.putfield 49, 3) := by decide +kernel
theorem dX_clear_18 : decode cX_clear 18 = .ok (.bipush 22, 2) := by decide +kernel
theorem dX_clear_20 : decode cX_clear 20 = .ok (.ireturn, 1) := by decide +kernel
theorem dX_complement_0 : decode cX_complement 0 = .ok (.aload_n 0, 1) := by decide +kernel
theorem dX_complement_1 : decode cX_complement 1 = .ok (.bipush 32, 2) := by decide +kernel
theorem dX_complement_3 : decode cX_complement 3 = .ok (.invokevirtual 233, 3) := by decide +kernel
theorem dX_complement_6 : decode cX_complement 6 = .ok (.ifCond .eq 15, 3) := by decide +kernel
theorem dX_complement_9 : decode cX_complement 9 = .ok (.aload_n 0, 1) := by decide +kernel
theorem dX_complement_10 : decode cX_complement 10 = .ok (.sipush 4095, 3) := by decide +kernel
theorem dX_complement_13 : decode cX_complement 13 = .ok (.aload_n 0, 1) := by decide +kernel
theorem dX_complement_14 : decode cX_complement 14 = .ok (.getfield 46, 3) := by decide +kernel
theorem dX_complement_17 : decode cX_complement 17 = .ok (.isub, 1) := by decide +kernel
theorem dX_complement_18 : decode cX_complement 18 = .ok (.putfield 46, 3) := by decide +kernel
theorem dX_complement_21 : decode cX_complement 21 = .ok (.aload_n 0, 1) := by decide +kernel
theorem dX_complement_22 : decode cX_complement 22 = .ok (.bipush 16, 2) := by decide +kernel
theorem dX_complement_24 : decode cX_complement 24 = .ok (.invokevirtual 233, 3) := by decide +kernel
theorem dX_complement_27 : decode cX_complement 27 = .ok (.ifCond .eq 7, 3) := by decide +kernel
theorem dX_complement_30 : decode cX_complement 30 = .ok (.aload_n 0, 1) := by decide +kernel
theorem dX_complement_31 : decode cX_complement 31 = .ok (.invokevirtual 242, 3) := by decide +kernel
theorem dX_complement_34 : decode cX_complement 34 = .ok (.bipush 23, 2) := by decide +kernel
theorem dX_complement_36 : decode cX_complement 36 = .ok (.ireturn, 1) := by decide +kernel
theorem dX_increment_0 : decode cX_increment 0 = .ok (.aload_n 0, 1) := by decide +kernel
theorem dX_increment_1 : decode cX_increment 1 = .ok (.iconst 1, 1) := by decide +kernel
theorem dX_increment_2 : decode cX_increment 2 = .ok (.invokevirtual 233, 3) := by decide +kernel
theorem dX_increment_5 : decode cX_increment 5 = .ok (.ifCond .eq 8, 3) := by decide +kernel
theorem dX_increment_8 : decode cX_increment 8 = .ok (.aload_n 0, 1) := by decide +kernel
theorem dX_increment_9 : decode cX_increment 9 = .ok (.iconst 1, 1) := by decide +kernel
theorem dX_increment_10 : decode cX_increment 10 = .ok (.invokevirtual 239, 3) := by decide +kernel
theorem dX_increment_13 : decode cX_increment 13 = .ok (.aload_n 0, 1) := by decide +kernel
theorem dX_increment_14 : decode cX_increment 14 = .ok (.bipush 12, 2) := by decide +kernel
theorem dX_increment_16 : decode cX_increment 16 = .ok (.invokevirtual 233, 3) := by decide +kernel
theorem dX_increment_19 : decode cX_increment 19 = .ok (.ifCond .eq 8, 3) := by decide +kernel
theorem dX_increment_22 : decode cX_increment 22 = .ok (.bipush 24, 2) := by decide +kernel
theorem dX_increment_24 : decode cX_increment 24 = .ok (.goto 4, 3) := by decide +kernel
theorem dX_increment_27 : decode cX_increment 27 = .ok (.iconst 0, 1) := by decide +kernel
theorem dX_increment_28 : decode cX_increment 28 = .ok (.ireturn, 1) := by decide +kernel
theorem dX_rotateFirst_0 : decode cX_rotateFirst 0 = .ok (.aload_n 0, 1) := by decide +kernel
theorem dX_rotateFirst_1 : decode cX_rotateFirst 1 = .ok (.invokevirtual 248, 3) := by decide +kernel
theorem dX_rotateFirst_4 : decode cX_rotateFirst 4 = .ok (.aload_n 0, 1) := by decide +kernel
theorem dX_rotateFirst_5 : decode cX_rotateFirst 5 = .ok (.iconst 2, 1) := by decide +kernel
theorem dX_rotateFirst_6 : decode cX_rotateFirst 6 = .ok (.invokevirtual 233, 3) := by decide +kernel
theorem dX_rotateFirst_9 : decode cX_rotateFirst 9 = .ok (.ifCond .eq 8, 3) := by decide +kernel
theorem dX_rotateFirst_12 : decode cX_rotateFirst 12 = .ok (.bipush 25, 2) := by decide +kernel
theorem dX_rotateFirst_14 : decode cX_rotateFirst 14 = .ok (.goto 4, 3) := by decide +kernel
theorem dX_rotateFirst_17 : decode cX_rotateFirst 17 = .ok (.iconst 0, 1) := by decide +kernel
theorem dX_rotateFirst_18 : decode cX_rotateFirst 18 = .ok (.ireturn, 1) := by decide +kernel
theorem dX_rotateLast_0 : decode cX_rotateLast 0 = .ok (.aload_n 0, 1) := by decide +kernel
theorem dX_rotateLast_1 : decode cX_rotateLast 1 = .ok (.invokevirtual 248, 3) := by decide +kernel
theorem dX_rotateLast_4 : decode cX_rotateLast 4 = .ok (.iconst 0, 1) := by decide +kernel
theorem dX_rotateLast_5 : decode cX_rotateLast 5 = .ok (.ireturn, 1) := by decide +kernel
theorem dX_rotate_0 : decode cX_rotate 0 = .ok (.aload_n 0, 1) := by decide +kernel
theorem dX_rotate_1 : decode cX_rotate 1 = .ok (.getfield 49, 3) := by decide +kernel
theorem dX_rotate_4 : decode cX_rotate 4 = .ok (.bipush 12, 2) := by decide +kernel
theorem dX_rotate_6 : decode cX_rotate 6 = .ok (.ishl, 1) := by decide +kernel
theorem dX_rotate_7 : decode cX_rotate 7 = .ok (.aload_n 0, 1) := by decide +kernel
theorem dX_rotate_8 : decode cX_rotate 8 = .ok (.getfield 46, 3) := by decide +kernel
theorem dX_rotate_11 : decode cX_rotate 11 = .ok (.ior, 1) := by decide +kernel
theorem dX_rotate_12 : decode cX_rotate 12 = .ok (.istore_n 1, 1) := by decide +kernel
theorem dX_rotate_13 : decode cX_rotate 13 = .ok (.aload_n 0, 1) := by decide +kernel
theorem dX_rotate_14 : decode cX_rotate 14 = .ok (.bipush 8, 2) := by decide +kernel
theorem dX_rotate_16 : decode cX_rotate 16 = .ok (.invokevirtual 233, 3) := by decide +kernel
theorem dX_rotate_19 : decode cX_rotate 19 = .ok (.ifCond .eq 14, 3) := by decide +kernel
theorem dX_rotate_22 : decode cX_rotate 22 = .ok (.iload_n 1, 1) := by decide +kernel
theorem dX_rotate_23 : decode cX_rotate 23 = .ok (.iconst 1, 1) := by decide +kernel
theorem dX_rotate_24 : decode cX_rotate 24 = .ok (.ishr, 1) := by decide +kernel
theorem dX_rotate_25 : decode cX_rotate 25 = .ok (.iload_n 1, 1) := by decide +kernel
theorem dX_rotate_26 : decode cX_rotate 26 = .ok (.iconst 1, 1) := by decide +kernel
theorem dX_rotate_27 : decode cX_rotate 27 = .ok (.iand, 1) := by decide +kernel
theorem dX_rotate_28 : decode cX_rotate 28 = .ok (.bipush 12, 2) := by decide +kernel
theorem dX_rotate_30 : decode cX_rotate 30 = .ok (.ishl, 1) := by decide +kernel
theorem dX_rotate_31 : decode cX_rotate 31 = .ok (.ior, 1) := by decide +kernel
theorem dX_rotate_32 : decode cX_rotate 32 = .ok (.istore_n 1, 1) := by decide +kernel
theorem dX_rotate_33 : decode cX_rotate 33 = .ok (.aload_n 0, 1) := by decide +kernel
theorem dX_rotate_34 : decode cX_rotate 34 = .ok (.iconst 4, 1) := by decide +kernel
theorem dX_rotate_35 : decode cX_rotate 35 = .ok (.invokevirtual 233, 3) := by decide +kernel
theorem dX_rotate_38 : decode cX_rotate 38 = .ok (.ifCond .eq 16, 3) := by decide +kernel
theorem dX_rotate_41 : decode cX_rotate 41 = .ok (.iload_n 1, 1) := by decide +kernel
theorem dX_rotate_42 : decode cX_rotate 42 = .ok (.iconst 1, 1) := by decide +kernel
theorem dX_rotate_43 : decode cX_rotate 43 = .ok (.ishl, 1) := by decide +kernel
theorem dX_rotate_44 : decode cX_rotate 44 = .ok (.iload_n 1, 1) := by decide +kernel
theorem dX_rotate_45 : decode cX_rotate 45 = .ok (.bipush 12, 2) := by decide +kernel
theorem dX_rotate_47 : decode cX_rotate 47 = .ok (.ishr, 1) := by decide +kernel
theorem dX_rotate_48 : decode cX_rotate 48 = .ok (.ior, 1) := by decide +kernel
theorem dX_rotate_49 : decode cX_rotate 49 = .ok (.sipush 8191, 3) := by decide +kernel
theorem dX_rotate_52 : decode cX_rotate 52 = .ok (.iand, 1) := by decide +kernel
theorem dX_rotate_53 : decode cX_rotate 53 = .ok (.istore_n 1, 1) := by decide +kernel
theorem dX_rotate_54 : decode cX_rotate 54 = .ok (.aload_n 0, 1) := by decide +kernel
theorem dX_rotate_55 : decode cX_rotate 55 = .ok (.iload_n 1, 1) := by decide +kernel
theorem dX_rotate_56 : decode cX_rotate 56 = .ok (.bipush 12, 2) := by decide +kernel
theorem dX_rotate_58 : decode cX_rotate 58 = .ok (.ishr, 1) := by decide +kernel
theorem dX_rotate_59 : decode cX_rotate 59 = .ok (.putfield 49, 3) := by decide +kernel
theorem dX_rotate_62 : decode cX_rotate 62 = .ok (.aload_n 0, 1) := by decide +kernel
theorem dX_rotate_63 : decode cX_rotate 63 = .ok (.iload_n 1, 1) := by decide +kernel
theorem dX_rotate_64 : decode cX_rotate 64 = .ok (.sipush 4095, 3) := by decide +kernel
theorem dX_rotate_67 : decode cX_rotate 67 = .ok (.iand, 1) := by decide +kernel
theorem dX_rotate_68 : decode cX_rotate 68 = .ok (.putfield 46, 3) := by decide +kernel
theorem dX_rotate_71 : decode cX_rotate 71 = .ok (.return_, 1) := by decide +kernel
theorem dX_test_0 : decode cX_test 0 = .ok (.aload_n 0, 1) := by decide +kernel
theorem dX_test_1 : decode cX_test 1 = .ok (.bipush 64, 2) := by decide +kernel
theorem dX_test_3 : decode cX_test 3 = .ok (.invokevirtual 233, 3) := by decide +kernel
theorem dX_test_6 : decode cX_test 6 = .ok (.ifCond .eq 13, 3) := by decide +kernel
theorem dX_test_9 : decode cX_test 9 = .ok (.aload_n 0, 1) := by decide +kernel
theorem dX_test_10 : decode cX_test 10 = .ok (.getfield 46, 3) := by decide +kernel
theorem dX_test_13 : decode cX_test 13 = .ok (.sipush 2048, 3) := by decide +kernel
theorem dX_test_16 : decode cX_test 16 = .ok (.if_icmp .ge 36, 3) := by decide +kernel
theorem dX_test_19 : decode cX_test 19 = .ok (.aload_n 0, 1) := by decide +kernel
theorem dX_test_20 : decode cX_test 20 = .ok (.bipush 32, 2) := by decide +kernel
theorem dX_test_22 : decode cX_test 22 = .ok (.invokevirtual 233, 3) := by decide +kernel
theorem dX_test_25 : decode cX_test 25 = .ok (.ifCond .eq 10, 3) := by decide +kernel
theorem dX_test_28 : decode cX_test 28 = .ok (.aload_n 0, 1) := by decide +kernel
theorem dX_test_29 : decode cX_test 29 = .ok (.getfield 46, 3) := by decide +kernel
theorem dX_test_32 : decode cX_test 32 = .ok (.ifCond .eq 20, 3) := by decide +kernel
theorem dX_test_35 : decode cX_test 35 = .ok (.aload_n 0, 1) := by decide +kernel
theorem dX_test_36 : decode cX_test 36 = .ok (.bipush 16, 2) := by decide +kernel
theorem dX_test_38 : decode cX_test 38 = .ok (.invokevirtual 233, 3) := by decide +kernel
theorem dX_test_41 : decode cX_test 41 = .ok (.ifCond .eq 15, 3) := by decide +kernel
theorem dX_test_44 : decode cX_test 44 = .ok (.aload_n 0, 1) := by decide +kernel
theorem dX_test_45 : decode cX_test 45 = .ok (.getfield 49, 3) := by decide +kernel
theorem dX_test_48 : decode cX_test 48 = .ok (.iconst 1, 1) := by decide +kernel
theorem dX_test_49 : decode cX_test 49 = .ok (.if_icmp .ne 7, 3) := by decide +kernel
theorem dX_test_52 : decode cX_test 52 = .ok (.iconst 1, 1) := by decide +kernel
theorem dX_test_53 : decode cX_test 53 = .ok (.goto 4, 3) := by decide +kernel
theorem dX_test_56 : decode cX_test 56 = .ok (.iconst 0, 1) := by decide +kernel
theorem dX_test_57 : decode cX_test 57 = .ok (.istore_n 1, 1) := by decide +kernel
theorem dX_test_58 : decode cX_test 58 = .ok (.iload_n 1, 1) := by decide +kernel
theorem dX_test_59 : decode cX_test 59 = .ok (.aload_n 0, 1) := by decide +kernel
theorem dX_test_60 : decode cX_test 60 = .ok (.bipush 8, 2) := by decide +kernel
theorem dX_test_62 : decode cX_test 62 = .ok (.invokevirtual 233, 3) := by decide +kernel
theorem dX_test_65 : decode cX_test 65 = .ok (.if_icmp .eq 7, 3) := by decide +kernel
theorem dX_test_68 : decode cX_test 68 = .ok (.aload_n 0, 1) := by decide +kernel
theorem dX_test_69 : decode cX_test 69 = .ok (.invokevirtual 230, 3) := by decide +kernel
theorem dX_test_72 : decode cX_test 72 = .ok (.bipush 27, 2) := by decide +kernel
theorem dX_test_74 : decode cX_test 74 = .ok (.ireturn, 1) := by decide +kernel
theorem dX_clearAfterTest_0 : decode cX_clearAfterTest 0 = .ok (.aload_n 0, 1) := by decide +kernel
theorem dX_clearAfterTest_1 : decode cX_clearAfterTest 1 = .ok (.invokevirtual 245, 3) := by decide +kernel
theorem dX_clearAfterTest_4 : decode cX_clearAfterTest 4 = .ok (.aload_n 0, 1) := by decide +kernel
theorem dX_clearAfterTest_5 : decode cX_clearAfterTest 5 = .ok (.bipush 6, 2) := by decide +kernel
theorem dX_clearAfterTest_7 : decode cX_clearAfterTest 7 = .ok (.invokevirtual 233, 3) := by decide +kernel
theorem dX_clearAfterTest_10 : decode cX_clearAfterTest 10 = .ok (.ifCond .eq 8, 3) := by decide +kernel
theorem dX_clearAfterTest_13 : decode cX_clearAfterTest 13 = .ok (.bipush 28, 2) := by decide +kernel
theorem dX_clearAfterTest_15 : decode cX_clearAfterTest 15 = .ok (.goto 4, 3) := by decide +kernel
theorem dX_clearAfterTest_18 : decode cX_clearAfterTest 18 = .ok (.iconst 0, 1) := by decide +kernel
theorem dX_clearAfterTest_19 : decode cX_clearAfterTest 19 = .ok (.ireturn, 1) := by decide +kernel
theorem dX_switchesAndHalt_0 : decode cX_switchesAndHalt 0 = .ok (.aload_n 0, 1) := by decide +kernel
theorem dX_switchesAndHalt_1 : decode cX_switchesAndHalt 1 = .ok (.iconst 4, 1) := by decide +kernel
theorem dX_switchesAndHalt_2 : decode cX_switchesAndHalt 2 = .ok (.invokevirtual 233, 3) := by decide +kernel
theorem dX_switchesAndHalt_5 : decode cX_switchesAndHalt 5 = .ok (.ifCond .eq 16, 3) := by decide +kernel
theorem dX_switchesAndHalt_8 : decode cX_switchesAndHalt 8 = .ok (.aload_n 0, 1) := by decide +kernel
theorem dX_switchesAndHalt_9 : decode cX_switchesAndHalt 9 = .ok (.dup, 1) := by decide +kernel
theorem dX_switchesAndHalt_10 : decode cX_switchesAndHalt 10 = .ok (.getfield 46, 3) := by decide +kernel
theorem dX_switchesAndHalt_13 : decode cX_switchesAndHalt 13 = .ok (.aload_n 0, 1) := by decide +kernel
theorem dX_switchesAndHalt_14 : decode cX_switchesAndHalt 14 = .ok (.getfield 95, 3) := by decide +kernel
theorem dX_switchesAndHalt_17 : decode cX_switchesAndHalt 17 = .ok (.ior, 1) := by decide +kernel
theorem dX_switchesAndHalt_18 : decode cX_switchesAndHalt 18 = .ok (.putfield 46, 3) := by decide +kernel
theorem dX_switchesAndHalt_21 : decode cX_switchesAndHalt 21 = .ok (.aload_n 0, 1) := by decide +kernel
theorem dX_switchesAndHalt_22 : decode cX_switchesAndHalt 22 = .ok (.iconst 2, 1) := by decide +kernel
theorem dX_switchesAndHalt_23 : decode cX_switchesAndHalt 23 = .ok (.invokevirtual 233, 3) := by decide +kernel
theorem dX_switchesAndHalt_26 : decode cX_switchesAndHalt 26 = .ok (.ifCond .eq 8, 3) := by decide +kernel
theorem dX_switchesAndHalt_29 : decode cX_switchesAndHalt 29 = .ok (.aload_n 0, 1) := by decide +kernel
theorem dX_switchesAndHalt_30 : decode cX_switchesAndHalt 30 = .ok (.iconst 1, 1) := by decide +kernel
theorem dX_switchesAndHalt_31 : decode cX_switchesAndHalt 31 = .ok (.putfield 70, 3) := by decide +kernel
theorem dX_switchesAndHalt_34 : decode cX_switchesAndHalt 34 = .ok (.iconst 0, 1) := by decide +kernel
theorem dX_switchesAndHalt_35 : decode cX_switchesAndHalt 35 = .ok (.ireturn, 1) := by decide +kernel
theorem dX_clearBeforeMq_0 : decode cX_clearBeforeMq 0 = .ok (.aload_n 0, 1) := by decide +kernel
theorem dX_clearBeforeMq_1 : decode cX_clearBeforeMq 1 = .ok (.invokevirtual 245, 3) := by decide +kernel
theorem dX_clearBeforeMq_4 : decode cX_clearBeforeMq 4 = .ok (.bipush 31, 2) := by decide +kernel
theorem dX_clearBeforeMq_6 : decode cX_clearBeforeMq 6 = .ok (.ireturn, 1) := by decide +kernel
theorem dX_exchangeMq_0 : decode cX_exchangeMq 0 = .ok (.aload_n 0, 1) := by decide +kernel
theorem dX_exchangeMq_1 : decode cX_exchangeMq 1 = .ok (.getfield 52, 3) := by decide +kernel
theorem dX_exchangeMq_4 : decode cX_exchangeMq 4 = .ok (.istore_n 1, 1) := by decide +kernel
theorem dX_exchangeMq_5 : decode cX_exchangeMq 5 = .ok (.aload_n 0, 1) := by decide +kernel
theorem dX_exchangeMq_6 : decode cX_exchangeMq 6 = .ok (.getfield 46, 3) := by decide +kernel
theorem dX_exchangeMq_9 : decode cX_exchangeMq 9 = .ok (.istore_n 2, 1) := by decide +kernel
theorem dX_exchangeMq_10 : decode cX_exchangeMq 10 = .ok (.aload_n 0, 1) := by decide +kernel
theorem dX_exchangeMq_11 : decode cX_exchangeMq 11 = .ok (.bipush 16, 2) := by decide +kernel
theorem dX_exchangeMq_13 : decode cX_exchangeMq 13 = .ok (.invokevirtual 233, 3) := by decide +kernel
theorem dX_exchangeMq_16 : decode cX_exchangeMq 16 = .ok (.ifCond .eq 13, 3) := by decide +kernel
theorem dX_exchangeMq_19 : decode cX_exchangeMq 19 = .ok (.aload_n 0, 1) := by decide +kernel
theorem dX_exchangeMq_20 : decode cX_exchangeMq 20 = .ok (.aload_n 0, 1) := by decide +kernel
theorem dX_exchangeMq_21 : decode cX_exchangeMq 21 = .ok (.getfield 46, 3) := by decide +kernel
theorem dX_exchangeMq_24 : decode cX_exchangeMq 24 = .ok (.putfield 52, 3) := by decide +kernel
theorem dX_exchangeMq_27 : decode cX_exchangeMq 27 = .ok (.iconst 0, 1) := by decide +kernel
theorem dX_exchangeMq_28 : decode cX_exchangeMq 28 = .ok (.istore_n 2, 1) := by decide +kernel
theorem dX_exchangeMq_29 : decode cX_exchangeMq 29 = .ok (.aload_n 0, 1) := by decide +kernel
theorem dX_exchangeMq_30 : decode cX_exchangeMq 30 = .ok (.aload_n 0, 1) := by decide +kernel
theorem dX_exchangeMq_31 : decode cX_exchangeMq 31 = .ok (.bipush 64, 2) := by decide +kernel
theorem dX_exchangeMq_33 : decode cX_exchangeMq 33 = .ok (.invokevirtual 233, 3) := by decide +kernel
theorem dX_exchangeMq_36 : decode cX_exchangeMq 36 = .ok (.ifCond .eq 9, 3) := by decide +kernel
theorem dX_exchangeMq_39 : decode cX_exchangeMq 39 = .ok (.iload_n 2, 1) := by decide +kernel
theorem dX_exchangeMq_40 : decode cX_exchangeMq 40 = .ok (.iload_n 1, 1) := by decide +kernel
theorem dX_exchangeMq_41 : decode cX_exchangeMq 41 = .ok (.ior, 1) := by decide +kernel
theorem dX_exchangeMq_42 : decode cX_exchangeMq 42 = .ok (.goto 4, 3) := by decide +kernel
theorem dX_exchangeMq_45 : decode cX_exchangeMq 45 = .ok (.iload_n 2, 1) := by decide +kernel
theorem dX_exchangeMq_46 : decode cX_exchangeMq 46 = .ok (.putfield 46, 3) := by decide +kernel
theorem dX_exchangeMq_49 : decode cX_exchangeMq 49 = .ok (.iconst 0, 1) := by decide +kernel
theorem dX_exchangeMq_50 : decode cX_exchangeMq 50 = .ok (.ireturn, 1) := by decide +kernel
theorem dX_chooseDevice_0 : decode cX_chooseDevice 0 = .ok (.aload_n 0, 1) := by decide +kernel
theorem dX_chooseDevice_1 : decode cX_chooseDevice 1 = .ok (.getfield 61, 3) := by decide +kernel
theorem dX_chooseDevice_4 : decode cX_chooseDevice 4 = .ok (.bipush 8, 2) := by decide +kernel
theorem dX_chooseDevice_6 : decode cX_chooseDevice 6 = .ok (.idiv, 1) := by decide +kernel
theorem dX_chooseDevice_7 : decode cX_chooseDevice 7 = .ok (.bipush 63, 2) := by decide +kernel
theorem dX_chooseDevice_9 : decode cX_chooseDevice 9 = .ok (.iand, 1) := by decide +kernel
theorem dX_chooseDevice_10 : decode cX_chooseDevice 10 = .ok (.tableswitch 43 0 4 #[34, 43, 43, 37, 40], 34) := by decide +kernel
theorem dX_chooseDevice_44 : decode cX_chooseDevice 44 = .ok (.bipush 33, 2) := by decide +kernel
theorem dX_chooseDevice_46 : decode cX_chooseDevice 46 = .ok (.ireturn, 1) := by decide +kernel
theorem dX_chooseDevice_47 : decode cX_chooseDevice 47 = .ok (.bipush 34, 2) := by decide +kernel
theorem dX_chooseDevice_49 : decode cX_chooseDevice 49 = .ok (.ireturn, 1) := by decide +kernel
theorem dX_chooseDevice_50 : decode cX_chooseDevice 50 = .ok (.bipush 36, 2) := by decide +kernel
theorem dX_chooseDevice_52 : decode cX_chooseDevice 52 = .ok (.ireturn, 1) := by decide +kernel
theorem dX_chooseDevice_53 : decode cX_chooseDevice 53 = .ok (.iconst 0, 1) := by decide +kernel
theorem dX_chooseDevice_54 : decode cX_chooseDevice 54 = .ok (.ireturn, 1) := by decide +kernel
theorem dX_turnInterrupts_0 : decode cX_turnInterrupts 0 = .ok (.aload_n 0, 1) := by decide +kernel
theorem dX_turnInterrupts_1 : decode cX_turnInterrupts 1 = .ok (.iconst 1, 1) := by decide +kernel
theorem dX_turnInterrupts_2 : decode cX_turnInterrupts 2 = .ok (.invokevirtual 233, 3) := by decide +kernel
theorem dX_turnInterrupts_5 : decode cX_turnInterrupts 5 = .ok (.ifCond .eq 13, 3) := by decide +kernel
theorem dX_turnInterrupts_8 : decode cX_turnInterrupts 8 = .ok (.aload_n 0, 1) := by decide +kernel
theorem dX_turnInterrupts_9 : decode cX_turnInterrupts 9 = .ok (.iconst 1, 1) := by decide +kernel
theorem dX_turnInterrupts_10 : decode cX_turnInterrupts 10 = .ok (.putfield 64, 3) := by decide +kernel
theorem dX_turnInterrupts_13 : decode cX_turnInterrupts 13 = .ok (.aload_n 0, 1) := by decide +kernel
theorem dX_turnInterrupts_14 : decode cX_turnInterrupts 14 = .ok (.iconst 1, 1) := by decide +kernel
theorem dX_turnInterrupts_15 : decode cX_turnInterrupts 15 = .ok (.putfield 67, 3) := by decide +kernel
theorem dX_turnInterrupts_18 : decode cX_turnInterrupts 18 = .ok (.aload_n 0, 1) := by decide +kernel
theorem dX_turnInterrupts_19 : decode cX_turnInterrupts 19 = .ok (.iconst 2, 1) := by decide +kernel
theorem dX_turnInterrupts_20 : decode cX_turnInterrupts 20 = .ok (.invokevirtual 233, 3) := by decide +kernel
theorem dX_turnInterrupts_23 : decode cX_turnInterrupts 23 = .ok (.ifCond .eq 8, 3) := by decide +kernel
theorem dX_turnInterrupts_26 : decode cX_turnInterrupts 26 = .ok (.aload_n 0, 1) := by decide +kernel
theorem dX_turnInterrupts_27 : decode cX_turnInterrupts 27 = .ok (.iconst 0, 1) := by decide +kernel
theorem dX_turnInterrupts_28 : decode cX_turnInterrupts 28 = .ok (.putfield 64, 3) := by decide +kernel
theorem dX_turnInterrupts_31 : decode cX_turnInterrupts 31 = .ok (.iconst 0, 1) := by decide +kernel
theorem dX_turnInterrupts_32 : decode cX_turnInterrupts 32 = .ok (.ireturn, 1) := by decide +kernel
theorem dX_askKeyboard_0 : decode cX_askKeyboard 0 = .ok (.aload_n 0, 1) := by decide +kernel
theorem dX_askKeyboard_1 : decode cX_askKeyboard 1 = .ok (.iconst 1, 1) := by decide +kernel
theorem dX_askKeyboard_2 : decode cX_askKeyboard 2 = .ok (.invokevirtual 233, 3) := by decide +kernel
theorem dX_askKeyboard_5 : decode cX_askKeyboard 5 = .ok (.ifCond .eq 17, 3) := by decide +kernel
theorem dX_askKeyboard_8 : decode cX_askKeyboard 8 = .ok (.aload_n 0, 1) := by decide +kernel
theorem dX_askKeyboard_9 : decode cX_askKeyboard 9 = .ok (.getfield 16, 3) := by decide +kernel
theorem dX_askKeyboard_12 : decode cX_askKeyboard 12 = .ok (.getfield 127, 3) := by decide +kernel
theorem dX_askKeyboard_15 : decode cX_askKeyboard 15 = .ok (.ifCond .eq 7, 3) := by decide +kernel
theorem dX_askKeyboard_18 : decode cX_askKeyboard 18 = .ok (.aload_n 0, 1) := by decide +kernel
theorem dX_askKeyboard_19 : decode cX_askKeyboard 19 = .ok (.invokevirtual 230, 3) := by decide +kernel
theorem dX_askKeyboard_22 : decode cX_askKeyboard 22 = .ok (.aload_n 0, 1) := by decide +kernel
theorem dX_askKeyboard_23 : decode cX_askKeyboard 23 = .ok (.iconst 2, 1) := by decide +kernel
theorem dX_askKeyboard_24 : decode cX_askKeyboard 24 = .ok (.invokevirtual 233, 3) := by decide +kernel
theorem dX_askKeyboard_27 : decode cX_askKeyboard 27 = .ok (.ifCond .eq 16, 3) := by decide +kernel
theorem dX_askKeyboard_30 : decode cX_askKeyboard 30 = .ok (.aload_n 0, 1) := by decide +kernel
theorem dX_askKeyboard_31 : decode cX_askKeyboard 31 = .ok (.getfield 16, 3) := by decide +kernel
theorem dX_askKeyboard_34 : decode cX_askKeyboard 34 = .ok (.iconst 0, 1) := by decide +kernel
theorem dX_askKeyboard_35 : decode cX_askKeyboard 35 = .ok (.putfield 127, 3) := by decide +kernel
theorem dX_askKeyboard_38 : decode cX_askKeyboard 38 = .ok (.aload_n 0, 1) := by decide +kernel
theorem dX_askKeyboard_39 : decode cX_askKeyboard 39 = .ok (.iconst 0, 1) := by decide +kernel
theorem dX_askKeyboard_40 : decode cX_askKeyboard 40 = .ok (.putfield 46, 3) := by decide +kernel
theorem dX_askKeyboard_43 : decode cX_askKeyboard 43 = .ok (.aload_n 0, 1) := by decide +kernel
theorem dX_askKeyboard_44 : decode cX_askKeyboard 44 = .ok (.iconst 4, 1) := by decide +kernel
theorem dX_askKeyboard_45 : decode cX_askKeyboard 45 = .ok (.invokevirtual 233, 3) := by decide +kernel
theorem dX_askKeyboard_48 : decode cX_askKeyboard 48 = .ok (.ifCond .eq 8, 3) := by decide +kernel
theorem dX_askKeyboard_51 : decode cX_askKeyboard 51 = .ok (.bipush 35, 2) := by decide +kernel
theorem dX_askKeyboard_53 : decode cX_askKeyboard 53 = .ok (.goto 4, 3) := by decide +kernel
theorem dX_askKeyboard_56 : decode cX_askKeyboard 56 = .ok (.iconst 0, 1) := by decide +kernel
theorem dX_askKeyboard_57 : decode cX_askKeyboard 57 = .ok (.ireturn, 1) := by decide +kernel
theorem dX_readKeyboard_0 : decode cX_readKeyboard 0 = .ok (.aload_n 0, 1) := by decide +kernel
theorem dX_readKeyboard_1 : decode cX_readKeyboard 1 = .ok (.dup, 1) := by decide +kernel
theorem dX_readKeyboard_2 : decode cX_readKeyboard 2 = .ok (.getfield 46, 3) := by decide +kernel
theorem dX_readKeyboard_5 : decode cX_readKeyboard 5 = .ok (.aload_n 0, 1) := by decide +kernel
theorem dX_readKeyboard_6 : decode cX_readKeyboard 6 = .ok (.getfield 16, 3) := by decide +kernel
theorem dX_readKeyboard_9 : decode cX_readKeyboard 9 = .ok (.getfield 118, 3) := by decide +kernel
theorem dX_readKeyboard_12 : decode cX_readKeyboard 12 = .ok (.ior, 1) := by decide +kernel
theorem dX_readKeyboard_13 : decode cX_readKeyboard 13 = .ok (.putfield 46, 3) := by decide +kernel
theorem dX_readKeyboard_16 : decode cX_readKeyboard 16 = .ok (.iconst 0, 1) := by decide +kernel
theorem dX_readKeyboard_17 : decode cX_readKeyboard 17 = .ok (.ireturn, 1) := by decide +kernel
theorem dX_askPrinter_0 : decode cX_askPrinter 0 = .ok (.aload_n 0, 1) := by decide +kernel
theorem dX_askPrinter_1 : decode cX_askPrinter 1 = .ok (.iconst 1, 1) := by decide +kernel
theorem dX_askPrinter_2 : decode cX_askPrinter 2 = .ok (.invokevirtual 233, 3) := by decide +kernel
theorem dX_askPrinter_5 : decode cX_askPrinter 5 = .ok (.ifCond .eq 17, 3) := by decide +kernel
theorem dX_askPrinter_8 : decode cX_askPrinter 8 = .ok (.aload_n 0, 1) := by decide +kernel
theorem dX_askPrinter_9 : decode cX_askPrinter 9 = .ok (.getfield 34, 3) := by decide +kernel
theorem dX_askPrinter_12 : decode cX_askPrinter 12 = .ok (.getfield 130, 3) := by decide +kernel
theorem dX_askPrinter_15 : decode cX_askPrinter 15 = .ok (.ifCond .eq 7, 3) := by decide +kernel
theorem dX_askPrinter_18 : decode cX_askPrinter 18 = .ok (.aload_n 0, 1) := by decide +kernel
theorem dX_askPrinter_19 : decode cX_askPrinter 19 = .ok (.invokevirtual 230, 3) := by decide +kernel
theorem dX_askPrinter_22 : decode cX_askPrinter 22 = .ok (.aload_n 0, 1) := by decide +kernel
theorem dX_askPrinter_23 : decode cX_askPrinter 23 = .ok (.iconst 2, 1) := by decide +kernel
theorem dX_askPrinter_24 : decode cX_askPrinter 24 = .ok (.invokevirtual 233, 3) := by decide +kernel
theorem dX_askPrinter_27 : decode cX_askPrinter 27 = .ok (.ifCond .eq 11, 3) := by decide +kernel
theorem dX_askPrinter_30 : decode cX_askPrinter 30 = .ok (.aload_n 0, 1) := by decide +kernel
theorem dX_askPrinter_31 : decode cX_askPrinter 31 = .ok (.getfield 34, 3) := by decide +kernel
theorem dX_askPrinter_34 : decode cX_askPrinter 34 = .ok (.iconst 0, 1) := by decide +kernel
theorem dX_askPrinter_35 : decode cX_askPrinter 35 = .ok (.putfield 130, 3) := by decide +kernel
theorem dX_askPrinter_38 : decode cX_askPrinter 38 = .ok (.aload_n 0, 1) := by decide +kernel
theorem dX_askPrinter_39 : decode cX_askPrinter 39 = .ok (.iconst 4, 1) := by decide +kernel
theorem dX_askPrinter_40 : decode cX_askPrinter 40 = .ok (.invokevirtual 233, 3) := by decide +kernel
theorem dX_askPrinter_43 : decode cX_askPrinter 43 = .ok (.ifCond .eq 8, 3) := by decide +kernel
theorem dX_askPrinter_46 : decode cX_askPrinter 46 = .ok (.bipush 37, 2) := by decide +kernel
theorem dX_askPrinter_48 : decode cX_askPrinter 48 = .ok (.goto 4, 3) := by decide +kernel
theorem dX_askPrinter_51 : decode cX_askPrinter 51 = .ok (.iconst 0, 1) := by decide +kernel
theorem dX_askPrinter_52 : decode cX_askPrinter 52 = .ok (.ireturn, 1) := by decide +kernel
theorem dX_writePrinter_0 : decode cX_writePrinter 0 = .ok (.aload_n 0, 1) := by decide +kernel
theorem dX_writePrinter_1 : decode cX_writePrinter 1 = .ok (.getfield 34, 3) := by decide +kernel
theorem dX_writePrinter_4 : decode cX_writePrinter 4 = .ok (.aload_n 0, 1) := by decide +kernel
theorem dX_writePrinter_5 : decode cX_writePrinter 5 = .ok (.getfield 46, 3) := by decide +kernel
theorem dX_writePrinter_8 : decode cX_writePrinter 8 = .ok (.invokevirtual 251, 3) := by decide +kernel
theorem dX_writePrinter_11 : decode cX_writePrinter 11 = .ok (.iconst 0, 1) := by decide +kernel
theorem dX_writePrinter_12 : decode cX_writePrinter 12 = .ok (.ireturn, 1) := by decide +kernel
theorem dX_interrupt_0 : decode cX_interrupt 0 = .ok (.aload_n 0, 1) := by decide +kernel
theorem dX_interrupt_1 : decode cX_interrupt 1 = .ok (.aload_n 0, 1) := by decide +kernel
theorem dX_interrupt_2 : decode cX_interrupt 2 = .ok (.getfield 42, 3) := by decide +kernel
theorem dX_interrupt_5 : decode cX_interrupt 5 = .ok (.putfield 58, 3) := by decide +kernel
theorem dX_interrupt_8 : decode cX_interrupt 8 = .ok (.aload_n 0, 1) := by decide +kernel
theorem dX_interrupt_9 : decode cX_interrupt 9 = .ok (.iconst 0, 1) := by decide +kernel
theorem dX_interrupt_10 : decode cX_interrupt 10 = .ok (.putfield 55, 3) := by decide +kernel
theorem dX_interrupt_13 : decode cX_interrupt 13 = .ok (.aload_n 0, 1) := by decide +kernel
theorem dX_interrupt_14 : decode cX_interrupt 14 = .ok (.iconst 0, 1) := by decide +kernel
theorem dX_interrupt_15 : decode cX_interrupt 15 = .ok (.putfield 64, 3) := by decide +kernel
theorem dX_interrupt_18 : decode cX_interrupt 18 = .ok (.bipush 41, 2) := by decide +kernel
theorem dX_interrupt_20 : decode cX_interrupt 20 = .ok (.ireturn, 1) := by decide +kernel
theorem dK_init_0 : decode cK_init 0 = .ok (.aload_n 0, 1) := by decide +kernel
theorem dK_init_1 : decode cK_init 1 = .ok (.invokespecial 1, 3) := by decide +kernel
theorem dK_init_4 : decode cK_init 4 = .ok (.return_, 1) := by decide +kernel
theorem dK_reset_0 : decode cK_reset 0 = .ok (.aload_n 0, 1) := by decide +kernel
theorem dK_reset_1 : decode cK_reset 1 = .ok (.iconst 0, 1) := by decide +kernel
theorem dK_reset_2 : decode cK_reset 2 = .ok (.putfield 7, 3) := by decide +kernel
theorem dK_reset_5 : decode cK_reset 5 = .ok (.aload_n 0, 1) := by decide +kernel
theorem dK_reset_6 : decode cK_reset 6 = .ok (.iconst 0, 1) := by decide +kernel
theorem dK_reset_7 : decode cK_reset 7 = .ok (.putfield 13, 3) := by decide +kernel
theorem dK_reset_10 : decode cK_reset 10 = .ok (.return_, 1) := by decide +kernel
theorem dK_press_0 : decode cK_press 0 = .ok (.aload_n 0, 1) := by decide +kernel
theorem dK_press_1 : decode cK_press 1 = .ok (.iload_n 1, 1) := by decide +kernel
theorem dK_press_2 : decode cK_press 2 = .ok (.sipush 255, 3) := by decide +kernel
theorem dK_press_5 : decode cK_press 5 = .ok (.iand, 1) := by decide +kernel
theorem dK_press_6 : decode cK_press 6 = .ok (.putfield 13, 3) := by decide +kernel
theorem dK_press_9 : decode cK_press 9 = .ok (.aload_n 0, 1) := by decide +kernel
theorem dK_press_10 : decode cK_press 10 = .ok (.iconst 1, 1) := by decide +kernel
theorem dK_press_11 : decode cK_press 11 = .ok (.putfield 7, 3) := by decide +kernel
theorem dK_press_14 : decode cK_press 14 = .ok (.return_, 1) := by decide +kernel
theorem dP_init_0 : decode cP_init 0 = .ok (.aload_n 0, 1) := by decide +kernel
theorem dP_init_1 : decode cP_init 1 = .ok (.invokespecial 3, 3) := by decide +kernel
theorem dP_init_4 : decode cP_init 4 = .ok (.aload_n 0, 1) := by decide +kernel
theorem dP_init_5 : decode cP_init 5 = .ok (.iload_n 1, 1) := by decide +kernel
theorem dP_init_6 : decode cP_init 6 = .ok (.newarray .int, 2) := by decide +kernel
theorem dP_init_8 : decode cP_init 8 = .ok (.putfield 9, 3) := by decide +kernel
theorem dP_init_11 : decode cP_init 11 = .ok (.return_, 1) := by decide +kernel
theorem dP_reset_0 : decode cP_reset 0 = .ok (.aload_n 0, 1) := by decide +kernel
theorem dP_reset_1 : decode cP_reset 1 = .ok (.iconst 0, 1) := by decide +kernel
theorem dP_reset_2 : decode cP_reset 2 = .ok (.putfield 15, 3) := by decide +kernel
theorem dP_reset_5 : decode cP_reset 5 = .ok (.aload_n 0, 1) := by decide +kernel
theorem dP_reset_6 : decode cP_reset 6 = .ok (.iconst 0, 1) := by decide +kernel
theorem dP_reset_7 : decode cP_reset 7 = .ok (.putfield 19, 3) := by decide +kernel
theorem dP_reset_10 : decode cP_reset 10 = .ok (.return_, 1) := by decide +kernel
theorem dP_isFull_0 : decode cP_isFull 0 = .ok (.aload_n 0, 1) := by decide +kernel
theorem dP_isFull_1 : decode cP_isFull 1 = .ok (.getfield 15, 3) := by decide +kernel
theorem dP_isFull_4 : decode cP_isFull 4 = .ok (.aload_n 0, 1) := by decide +kernel
theorem dP_isFull_5 : decode cP_isFull 5 = .ok (.getfield 9, 3) := by decide +kernel
theorem dP_isFull_8 : decode cP_isFull 8 = .ok (.arraylength, 1) := by decide +kernel
theorem dP_isFull_9 : decode cP_isFull 9 = .ok (.if_icmp .lt 7, 3) := by decide +kernel
theorem dP_isFull_12 : decode cP_isFull 12 = .ok (.iconst 1, 1) := by decide +kernel
theorem dP_isFull_13 : decode cP_isFull 13 = .ok (.goto 4, 3) := by decide +kernel
theorem dP_isFull_16 : decode cP_isFull 16 = .ok (.iconst 0, 1) := by decide +kernel
theorem dP_isFull_17 : decode cP_isFull 17 = .ok (.ireturn, 1) := by decide +kernel
theorem dP_print_0 : decode cP_print 0 = .ok (.aload_n 0, 1) := by decide +kernel
theorem dP_print_1 : decode cP_print 1 = .ok (.invokevirtual 23, 3) := by decide +kernel
theorem dP_print_4 : decode cP_print 4 = .ok (.ifCond .eq 4, 3) := by decide +kernel
theorem dP_print_7 : decode cP_print 7 = .ok (.return_, 1) := by decide +kernel
theorem dP_print_8 : decode cP_print 8 = .ok (.aload_n 0, 1) := by decide +kernel
theorem dP_print_9 : decode cP_print 9 = .ok (.getfield 9, 3) := by decide +kernel
theorem dP_print_12 : decode cP_print 12 = .ok (.aload_n 0, 1) := by decide +kernel
theorem dP_print_13 : decode cP_print 13 = .ok (.getfield 15, 3) := by decide +kernel
theorem dP_print_16 : decode cP_print 16 = .ok (.iload_n 1, 1) := by decide +kernel
theorem dP_print_17 : decode cP_print 17 = .ok (.sipush 255, 3) := by decide +kernel
theorem dP_print_20 : decode cP_print 20 = .ok (.iand, 1) := by decide +kernel
theorem dP_print_21 : decode cP_print 21 = .ok (.iastore, 1) := by decide +kernel
theorem dP_print_22 : decode cP_print 22 = .ok (.aload_n 0, 1) := by decide +kernel
theorem dP_print_23 : decode cP_print 23 = .ok (.dup, 1) := by decide +kernel
theorem dP_print_24 : decode cP_print 24 = .ok (.getfield 15, 3) := by decide +kernel
theorem dP_print_27 : decode cP_print 27 = .ok (.iconst 1, 1) := by decide +kernel
theorem dP_print_28 : decode cP_print 28 = .ok (.iadd, 1) := by decide +kernel
theorem dP_print_29 : decode cP_print 29 = .ok (.putfield 15, 3) := by decide +kernel
theorem dP_print_32 : decode cP_print 32 = .ok (.aload_n 0, 1) := by decide +kernel
theorem dP_print_33 : decode cP_print 33 = .ok (.iconst 1, 1) := by decide +kernel
theorem dP_print_34 : decode cP_print 34 = .ok (.putfield 19, 3) := by decide +kernel
theorem dP_print_37 : decode cP_print 37 = .ok (.return_, 1) := by decide +kernel
theorem dP_byteAt_0 : decode cP_byteAt 0 = .ok (.iload_n 1, 1) := by decide +kernel
theorem dP_byteAt_1 : decode cP_byteAt 1 = .ok (.ifCond .lt 20, 3) := by decide +kernel
theorem dP_byteAt_4 : decode cP_byteAt 4 = .ok (.iload_n 1, 1) := by decide +kernel
theorem dP_byteAt_5 : decode cP_byteAt 5 = .ok (.aload_n 0, 1) := by decide +kernel
theorem dP_byteAt_6 : decode cP_byteAt 6 = .ok (.getfield 15, 3) := by decide +kernel
theorem dP_byteAt_9 : decode cP_byteAt 9 = .ok (.if_icmp .ge 12, 3) := by decide +kernel
theorem dP_byteAt_12 : decode cP_byteAt 12 = .ok (.aload_n 0, 1) := by decide +kernel
theorem dP_byteAt_13 : decode cP_byteAt 13 = .ok (.getfield 9, 3) := by decide +kernel
theorem dP_byteAt_16 : decode cP_byteAt 16 = .ok (.iload_n 1, 1) := by decide +kernel
theorem dP_byteAt_17 : decode cP_byteAt 17 = .ok (.iaload, 1) := by decide +kernel
theorem dP_byteAt_18 : decode cP_byteAt 18 = .ok (.goto 4, 3) := by decide +kernel
theorem dP_byteAt_21 : decode cP_byteAt 21 = .ok (.iconst (-1), 1) := by decide +kernel
theorem dP_byteAt_22 : decode cP_byteAt 22 = .ok (.ireturn, 1) := by decide +kernel
end
section
theorem dM_init_0 : decode cM_init 0 = .ok (.aload_n 0, 1) := by decide +kernel
theorem dM_init_1 : decode cM_init 1 = .ok (.invokespecial 1, 3) := by decide +kernel
theorem dM_init_4 : decode cM_init 4 = .ok (.aload_n 0, 1) := by decide +kernel
theorem dM_init_5 : decode cM_init 5 = .ok (.sipush 4096, 3) := by decide +kernel
theorem dM_init_8 : decode cM_init 8 = .ok (.newarray .int, 2) := by decide +kernel
theorem dM_init_10 : decode cM_init 10 = .ok (.putfield 7, 3) := by decide +kernel
theorem dM_init_13 : decode cM_init 13 = .ok (.aload_n 0, 1) := by decide +kernel
theorem dM_init_14 : decode cM_init 14 = .ok (.bipush 100, 2) := by decide +kernel
theorem dM_init_16 : decode cM_init 16 = .ok (.newarray .int, 2) := by decide +kernel
theorem dM_init_18 : decode cM_init 18 = .ok (.putfield 13, 3) := by decide +kernel
theorem dM_init_21 : decode cM_init 21 = .ok (.aload_n 0, 1) := by decide +kernel
theorem dM_init_22 : decode cM_init 22 = .ok (.iload_n 1, 1) := by decide +kernel
theorem dM_init_23 : decode cM_init 23 = .ok (.ifCond .ge 7, 3) := by decide +kernel
theorem dM_init_26 : decode cM_init 26 = .ok (.iconst 0, 1) := by decide +kernel
theorem dM_init_27 : decode cM_init 27 = .ok (.goto 15, 3) := by decide +kernel
theorem dM_init_30 : decode cM_init 30 = .ok (.iload_n 1, 1) := by decide +kernel
theorem dM_init_31 : decode cM_init 31 = .ok (.bipush 100, 2) := by decide +kernel
theorem dM_init_33 : decode cM_init 33 = .ok (.if_icmp .le 8, 3) := by decide +kernel
theorem dM_init_36 : decode cM_init 36 = .ok (.bipush 100, 2) := by decide +kernel
theorem dM_init_38 : decode cM_init 38 = .ok (.goto 4, 3) := by decide +kernel
theorem dM_init_41 : decode cM_init 41 = .ok (.iload_n 1, 1) := by decide +kernel
theorem dM_init_42 : decode cM_init 42 = .ok (.putfield 16, 3) := by decide +kernel
theorem dM_init_45 : decode cM_init 45 = .ok (.return_, 1) := by decide +kernel
theorem dM_init__0 : decode cM_init_ 0 = .ok (.aload_n 0, 1) := by decide +kernel
theorem dM_init__1 : decode cM_init_ 1 = .ok (.iconst 1, 1) := by decide +kernel
theorem dM_init__2 : decode cM_init_ 2 = .ok (.putfield 20, 3) := by decide +kernel
theorem dM_init__5 : decode cM_init_ 5 = .ok (.aload_n 0, 1) := by decide +kernel
theorem dM_init__6 : decode cM_init_ 6 = .ok (.iconst 0, 1) := by decide +kernel
theorem dM_init__7 : decode cM_init_ 7 = .ok (.putfield 24, 3) := by decide +kernel
theorem dM_init__10 : decode cM_init_ 10 = .ok (.aload_n 0, 1) := by decide +kernel
theorem dM_init__11 : decode cM_init_ 11 = .ok (.iconst 0, 1) := by decide +kernel
theorem dM_init__12 : decode cM_init_ 12 = .ok (.putfield 27, 3) := by decide +kernel
theorem dM_init__15 : decode cM_init_ 15 = .ok (.aload_n 0, 1) := by decide +kernel
theorem dM_init__16 : decode cM_init_ 16 = .ok (.iconst 0, 1) := by decide +kernel
theorem dM_init__17 : decode cM_init_ 17 = .ok (.putfield 30, 3) := by decide +kernel
theorem dM_init__20 : decode cM_init_ 20 = .ok (.aload_n 0, 1) := by decide +kernel
theorem dM_init__21 : decode cM_init_ 21 = .ok (.iconst 0, 1) := by decide +kernel
theorem dM_init__22 : decode cM_init_ 22 = .ok (.putfield 33, 3) := by decide +kernel
theorem dM_init__25 : decode cM_init_ 25 = .ok (.aload_n 0, 1) := by decide +kernel
theorem dM_init__26 : decode cM_init_ 26 = .ok (.iconst 0, 1) := by decide +kernel
theorem dM_init__27 : decode cM_init_ 27 = .ok (.putfield 36, 3) := by decide +kernel
theorem dM_init__30 : decode cM_init_ 30 = .ok (.aload_n 0, 1) := by decide +kernel
theorem dM_init__31 : decode cM_init_ 31 = .ok (.iconst 0, 1) := by decide +kernel
theorem dM_init__32 : decode cM_init_ 32 = .ok (.putfield 39, 3) := by decide +kernel
theorem dM_init__35 : decode cM_init_ 35 = .ok (.aload_n 0, 1) := by decide +kernel
theorem dM_init__36 : decode cM_init_ 36 = .ok (.iconst 0, 1) := by decide +kernel
theorem dM_init__37 : decode cM_init_ 37 = .ok (.putfield 42, 3) := by decide +kernel
theorem dM_init__40 : decode cM_init_ 40 = .ok (.aload_n 0, 1) := by decide +kernel
theorem dM_init__41 : decode cM_init_ 41 = .ok (.iconst 0, 1) := by decide +kernel
theorem dM_init__42 : decode cM_init_ 42 = .ok (.putfield 45, 3) := by decide +kernel
theorem dM_init__45 : decode cM_init_ 45 = .ok (.aload_n 0, 1) := by decide +kernel
theorem dM_init__46 : decode cM_init_ 46 = .ok (.iconst 0, 1) := by decide +kernel
theorem dM_init__47 : decode cM_init_ 47 = .ok (.putfield 48, 3) := by decide +kernel
theorem dM_init__50 : decode cM_init_ 50 = .ok (.aload_n 0, 1) := by decide +kernel
theorem dM_init__51 : decode cM_init_ 51 = .ok (.iconst 0, 1) := by decide +kernel
theorem dM_init__52 : decode cM_init_ 52 = .ok (.putfield 51, 3) := by decide +kernel
theorem dM_init__55 : decode cM_init_ 55 = .ok (.aload_n 0, 1) := by decide +kernel
theorem dM_init__56 : decode cM_init_ 56 = .ok (.iconst 0, 1) := by decide +kernel
theorem dM_init__57 : decode cM_init_ 57 = .ok (.putfield 54, 3) := by decide +kernel
theorem dM_init__60 : decode cM_init_ 60 = .ok (.aload_n 0, 1) := by decide +kernel
theorem dM_init__61 : decode cM_init_ 61 = .ok (.iconst 0, 1) := by decide +kernel
theorem dM_init__62 : decode cM_init_ 62 = .ok (.putfield 57, 3) := by decide +kernel
theorem dM_init__65 : decode cM_init_ 65 = .ok (.aload_n 0, 1) := by decide +kernel
theorem dM_init__66 : decode cM_init_ 66 = .ok (.iconst 0, 1) := by decide +kernel
theorem dM_init__67 : decode cM_init_ 67 = .ok (.putfield 60, 3) := by decide +kernel
theorem dM_init__70 : decode cM_init_ 70 = .ok (.aload_n 0, 1) := by decide +kernel
theorem dM_init__71 : decode cM_init_ 71 = .ok (.iconst 0, 1) := by decide +kernel
theorem dM_init__72 : decode cM_init_ 72 = .ok (.putfield 63, 3) := by decide +kernel
theorem dM_init__75 : decode cM_init_ 75 = .ok (.aload_n 0, 1) := by decide +kernel
theorem dM_init__76 : decode cM_init_ 76 = .ok (.iconst 0, 1) := by decide +kernel
theorem dM_init__77 : decode cM_init_ 77 = .ok (.putfield 66, 3) := by decide +kernel
theorem dM_init__80 : decode cM_init_ 80 = .ok (.aload_n 0, 1) := by decide +kernel
theorem dM_init__81 : decode cM_init_ 81 = .ok (.iconst 0, 1) := by decide +kernel
theorem dM_init__82 : decode cM_init_ 82 = .ok (.putfield 69, 3) := by decide +kernel
theorem dM_init__85 : decode cM_init_ 85 = .ok (.return_, 1) := by decide +kernel
theorem dM_isAddress_0 : decode cM_isAddress 0 = .ok (.iload_n 0, 1) := by decide +kernel
theorem dM_isAddress_1 : decode cM_isAddress 1 = .ok (.ifCond .lt 14, 3) := by decide +kernel
theorem dM_isAddress_4 : decode cM_isAddress 4 = .ok (.iload_n 0, 1) := by decide +kernel
theorem dM_isAddress_5 : decode cM_isAddress 5 = .ok (.sipush 4096, 3) := by decide +kernel
theorem dM_isAddress_8 : decode cM_isAddress 8 = .ok (.if_icmp .ge 7, 3) := by decide +kernel
theorem dM_isAddress_11 : decode cM_isAddress 11 = .ok (.iconst 1, 1) := by decide +kernel
theorem dM_isAddress_12 : decode cM_isAddress 12 = .ok (.goto 4, 3) := by decide +kernel
theorem dM_isAddress_15 : decode cM_isAddress 15 = .ok (.iconst 0, 1) := by decide +kernel
theorem dM_isAddress_16 : decode cM_isAddress 16 = .ok (.ireturn, 1) := by decide +kernel
theorem dM_deposit_0 : decode cM_deposit 0 = .ok (.iload_n 1, 1) := by decide +kernel
theorem dM_deposit_1 : decode cM_deposit 1 = .ok (.invokestatic 72, 3) := by decide +kernel
theorem dM_deposit_4 : decode cM_deposit 4 = .ok (.ifCond .ne 5, 3) := by decide +kernel
theorem dM_deposit_7 : decode cM_deposit 7 = .ok (.iconst 0, 1) := by decide +kernel
theorem dM_deposit_8 : decode cM_deposit 8 = .ok (.ireturn, 1) := by decide +kernel
theorem dM_deposit_9 : decode cM_deposit 9 = .ok (.aload_n 0, 1) := by decide +kernel
theorem dM_deposit_10 : decode cM_deposit 10 = .ok (.getfield 7, 3) := by decide +kernel
theorem dM_deposit_13 : decode cM_deposit 13 = .ok (.iload_n 1, 1) := by decide +kernel
theorem dM_deposit_14 : decode cM_deposit 14 = .ok (.iload_n 2, 1) := by decide +kernel
theorem dM_deposit_15 : decode cM_deposit 15 = .ok (.sipush 4095, 3) := by decide +kernel
theorem dM_deposit_18 : decode cM_deposit 18 = .ok (.iand, 1) := by decide +kernel
theorem dM_deposit_19 : decode cM_deposit 19 = .ok (.iastore, 1) := by decide +kernel
theorem dM_deposit_20 : decode cM_deposit 20 = .ok (.iconst 1, 1) := by decide +kernel
theorem dM_deposit_21 : decode cM_deposit 21 = .ok (.ireturn, 1) := by decide +kernel
theorem dM_examine_0 : decode cM_examine 0 = .ok (.iload_n 1, 1) := by decide +kernel
theorem dM_examine_1 : decode cM_examine 1 = .ok (.invokestatic 72, 3) := by decide +kernel
theorem dM_examine_4 : decode cM_examine 4 = .ok (.ifCond .eq 12, 3) := by decide +kernel
theorem dM_examine_7 : decode cM_examine 7 = .ok (.aload_n 0, 1) := by decide +kernel
theorem dM_examine_8 : decode cM_examine 8 = .ok (.getfield 7, 3) := by decide +kernel
theorem dM_examine_11 : decode cM_examine 11 = .ok (.iload_n 1, 1) := by decide +kernel
theorem dM_examine_12 : decode cM_examine 12 = .ok (.iaload, 1) := by decide +kernel
theorem dM_examine_13 : decode cM_examine 13 = .ok (.goto 4, 3) := by decide +kernel
theorem dM_examine_16 : decode cM_examine 16 = .ok (.iconst (-1), 1) := by decide +kernel
theorem dM_examine_17 : decode cM_examine 17 = .ok (.ireturn, 1) := by decide +kernel
theorem dM_load_0 : decode cM_load 0 = .ok (.iload_n 1, 1) := by decide +kernel
theorem dM_load_1 : decode cM_load 1 = .ok (.invokestatic 72, 3) := by decide +kernel
theorem dM_load_4 : decode cM_load 4 = .ok (.ifCond .eq 13, 3) := by decide +kernel
theorem dM_load_7 : decode cM_load 7 = .ok (.iload_n 2, 1) := by decide +kernel
theorem dM_load_8 : decode cM_load 8 = .ok (.iconst 1, 1) := by decide +kernel
theorem dM_load_9 : decode cM_load 9 = .ok (.if_icmp .lt 8, 3) := by decide +kernel
theorem dM_load_12 : decode cM_load 12 = .ok (.iload_n 2, 1) := by decide +kernel
theorem dM_load_13 : decode cM_load 13 = .ok (.iconst 5, 1) := by decide +kernel
theorem dM_load_14 : decode cM_load 14 = .ok (.if_icmp .le 5, 3) := by decide +kernel
theorem dM_load_17 : decode cM_load 17 = .ok (.iconst 0, 1) := by decide +kernel
theorem dM_load_18 : decode cM_load 18 = .ok (.ireturn, 1) := by decide +kernel
theorem dM_load_19 : decode cM_load 19 = .ok (.iconst 0, 1) := by decide +kernel
theorem dM_load_20 : decode cM_load 20 = .ok (.istore 5, 2) := by decide +kernel
theorem dM_load_22 : decode cM_load 22 = .ok (.iload 5, 2) := by decide +kernel
theorem dM_load_24 : decode cM_load 24 = .ok (.iload_n 2, 1) := by decide +kernel
theorem dM_load_25 : decode cM_load 25 = .ok (.if_icmp .ge 38, 3) := by decide +kernel
theorem dM_load_28 : decode cM_load 28 = .ok (.aload_n 0, 1) := by decide +kernel
theorem dM_load_29 : decode cM_load 29 = .ok (.getfield 7, 3) := by decide +kernel
theorem dM_load_32 : decode cM_load 32 = .ok (.iload_n 1, 1) := by decide +kernel
theorem dM_load_33 : decode cM_load 33 = .ok (.iload 5, 2) := by decide +kernel
theorem dM_load_35 : decode cM_load 35 = .ok (.iadd, 1) := by decide +kernel
theorem dM_load_36 : decode cM_load 36 = .ok (.sipush 4095, 3) := by decide +kernel
theorem dM_load_39 : decode cM_load 39 = .ok (.iand, 1) := by decide +kernel
theorem dM_load_40 : decode cM_load 40 = .ok (.lload_n 3, 1) := by decide +kernel
theorem dM_load_41 : decode cM_load 41 = .ok (.bipush 12, 2) := by decide +kernel
theorem dM_load_43 : decode cM_load 43 = .ok (.iload_n 2, 1) := by decide +kernel
theorem dM_load_44 : decode cM_load 44 = .ok (.iconst 1, 1) := by decide +kernel
theorem dM_load_45 : decode cM_load 45 = .ok (.isub, 1) := by decide +kernel
theorem dM_load_46 : decode cM_load 46 = .ok (.iload 5, 2) := by decide +kernel
theorem dM_load_48 : decode cM_load 48 = .ok (.isub, 1) := by decide +kernel
theorem dM_load_49 : decode cM_load 49 = .ok (.imul, 1) := by decide +kernel
theorem dM_load_50 : decode cM_load 50 = .ok (.lshr, 1) := by decide +kernel
theorem dM_load_51 : decode cM_load 51 = .ok (.l2i, 1) := by decide +kernel
theorem dM_load_52 : decode cM_load 52 = .ok (.sipush 4095, 3) := by decide +kernel
theorem dM_load_55 : decode cM_load 55 = .ok (.iand, 1) := by decide +kernel
theorem dM_load_56 : decode cM_load 56 = .ok (.iastore, 1) := by decide +kernel
theorem dM_load_57 : decode cM_load 57 = .ok (.iinc 5 1, 3) := by decide +kernel
theorem dM_load_60 : decode cM_load 60 = .ok (.goto (-38), 3) := by decide +kernel
theorem dM_load_63 : decode cM_load 63 = .ok (.iconst 1, 1) := by decide +kernel
theorem dM_load_64 : decode cM_load 64 = .ok (.ireturn, 1) := by decide +kernel
theorem dM_start_0 : decode cM_start 0 = .ok (.aload_n 0, 1) := by decide +kernel
theorem dM_start_1 : decode cM_start 1 = .ok (.getfield 20, 3) := by decide +kernel
theorem dM_start_4 : decode cM_start 4 = .ok (.ifCond .eq 10, 3) := by decide +kernel
theorem dM_start_7 : decode cM_start 7 = .ok (.aload_n 0, 1) := by decide +kernel
theorem dM_start_8 : decode cM_start 8 = .ok (.getfield 24, 3) := by decide +kernel
theorem dM_start_11 : decode cM_start 11 = .ok (.ifCond .eq 5, 3) := by decide +kernel
theorem dM_start_14 : decode cM_start 14 = .ok (.iconst 0, 1) := by decide +kernel
theorem dM_start_15 : decode cM_start 15 = .ok (.ireturn, 1) := by decide +kernel
theorem dM_start_16 : decode cM_start 16 = .ok (.aload_n 0, 1) := by decide +kernel
theorem dM_start_17 : decode cM_start 17 = .ok (.iload_n 1, 1) := by decide +kernel
theorem dM_start_18 : decode cM_start 18 = .ok (.sipush 4095, 3) := by decide +kernel
theorem dM_start_21 : decode cM_start 21 = .ok (.iand, 1) := by decide +kernel
theorem dM_start_22 : decode cM_start 22 = .ok (.putfield 27, 3) := by decide +kernel
theorem dM_start_25 : decode cM_start 25 = .ok (.aload_n 0, 1) := by decide +kernel
theorem dM_start_26 : decode cM_start 26 = .ok (.iconst 0, 1) := by decide +kernel
theorem dM_start_27 : decode cM_start 27 = .ok (.putfield 54, 3) := by decide +kernel
theorem dM_start_30 : decode cM_start 30 = .ok (.iconst 1, 1) := by decide +kernel
theorem dM_start_31 : decode cM_start 31 = .ok (.ireturn, 1) := by decide +kernel
theorem dM_switches_0 : decode cM_switches 0 = .ok (.aload_n 0, 1) := by decide +kernel
theorem dM_switches_1 : decode cM_switches 1 = .ok (.iload_n 1, 1) := by decide +kernel
theorem dM_switches_2 : decode cM_switches 2 = .ok (.sipush 4095, 3) := by decide +kernel
theorem dM_switches_5 : decode cM_switches 5 = .ok (.iand, 1) := by decide +kernel
theorem dM_switches_6 : decode cM_switches 6 = .ok (.putfield 76, 3) := by decide +kernel
theorem dM_switches_9 : decode cM_switches 9 = .ok (.return_, 1) := by decide +kernel
theorem dM_key_0 : decode cM_key 0 = .ok (.aload_n 0, 1) := by decide +kernel
theorem dM_key_1 : decode cM_key 1 = .ok (.iload_n 1, 1) := by decide +kernel
theorem dM_key_2 : decode cM_key 2 = .ok (.sipush 255, 3) := by decide +kernel
theorem dM_key_5 : decode cM_key 5 = .ok (.iand, 1) := by decide +kernel
theorem dM_key_6 : decode cM_key 6 = .ok (.putfield 63, 3) := by decide +kernel
theorem dM_key_9 : decode cM_key 9 = .ok (.aload_n 0, 1) := by decide +kernel
theorem dM_key_10 : decode cM_key 10 = .ok (.iconst 1, 1) := by decide +kernel
theorem dM_key_11 : decode cM_key 11 = .ok (.putfield 57, 3) := by decide +kernel
theorem dM_key_14 : decode cM_key 14 = .ok (.return_, 1) := by decide +kernel
theorem dM_bit_0 : decode cM_bit 0 = .ok (.aload_n 0, 1) := by decide +kernel
theorem dM_bit_1 : decode cM_bit 1 = .ok (.getfield 45, 3) := by decide +kernel
theorem dM_bit_4 : decode cM_bit 4 = .ok (.iload_n 1, 1) := by decide +kernel
theorem dM_bit_5 : decode cM_bit 5 = .ok (.iand, 1) := by decide +kernel
theorem dM_bit_6 : decode cM_bit 6 = .ok (.ifCond .eq 7, 3) := by decide +kernel
theorem dM_bit_9 : decode cM_bit 9 = .ok (.iconst 1, 1) := by decide +kernel
theorem dM_bit_10 : decode cM_bit 10 = .ok (.goto 4, 3) := by decide +kernel
theorem dM_bit_13 : decode cM_bit 13 = .ok (.iconst 0, 1) := by decide +kernel
theorem dM_bit_14 : decode cM_bit 14 = .ok (.ireturn, 1) := by decide +kernel
theorem dM_skip_0 : decode cM_skip 0 = .ok (.aload_n 0, 1) := by decide +kernel
theorem dM_skip_1 : decode cM_skip 1 = .ok (.iload_n 1, 1) := by decide +kernel
theorem dM_skip_2 : decode cM_skip 2 = .ok (.ifCond .eq 16, 3) := by decide +kernel
theorem dM_skip_5 : decode cM_skip 5 = .ok (.aload_n 0, 1) := by decide +kernel
theorem dM_skip_6 : decode cM_skip 6 = .ok (.getfield 27, 3) := by decide +kernel
theorem dM_skip_9 : decode cM_skip 9 = .ok (.iconst 1, 1) := by decide +kernel
theorem dM_skip_10 : decode cM_skip 10 = .ok (.iadd, 1) := by decide +kernel
theorem dM_skip_11 : decode cM_skip 11 = .ok (.sipush 4095, 3) := by decide +kernel
theorem dM_skip_14 : decode cM_skip 14 = .ok (.iand, 1) := by decide +kernel
theorem dM_skip_15 : decode cM_skip 15 = .ok (.goto 7, 3) := by decide +kernel
theorem dM_skip_18 : decode cM_skip 18 = .ok (.aload_n 0, 1) := by decide +kernel
theorem dM_skip_19 : decode cM_skip 19 = .ok (.getfield 27, 3) := by decide +kernel
theorem dM_skip_22 : decode cM_skip 22 = .ok (.putfield 27, 3) := by decide +kernel
theorem dM_skip_25 : decode cM_skip 25 = .ok (.return_, 1) := by decide +kernel
theorem dM_add_0 : decode cM_add 0 = .ok (.aload_n 0, 1) := by decide +kernel
theorem dM_add_1 : decode cM_add 1 = .ok (.getfield 30, 3) := by decide +kernel
theorem dM_add_4 : decode cM_add 4 = .ok (.iload_n 1, 1) := by decide +kernel
theorem dM_add_5 : decode cM_add 5 = .ok (.iadd, 1) := by decide +kernel
theorem dM_add_6 : decode cM_add 6 = .ok (.istore_n 2, 1) := by decide +kernel
theorem dM_add_7 : decode cM_add 7 = .ok (.aload_n 0, 1) := by decide +kernel
theorem dM_add_8 : decode cM_add 8 = .ok (.iload_n 2, 1) := by decide +kernel
theorem dM_add_9 : decode cM_add 9 = .ok (.sipush 4095, 3) := by decide +kernel
theorem dM_add_12 : decode cM_add 12 = .ok (.if_icmp .le 12, 3) := by decide +kernel
theorem dM_add_15 : decode cM_add 15 = .ok (.iconst 1, 1) := by decide +kernel
theorem dM_add_16 : decode cM_add 16 = .ok (.aload_n 0, 1) := by decide +kernel
theorem dM_add_17 : decode cM_add 17 = .ok (.getfield 33, 3) := by decide +kernel
theorem dM_add_20 : decode cM_add 20 = .ok (.isub, 1) := by decide +kernel
theorem dM_add_21 : decode cM_add 21 = .ok (.goto 7, 3) := by decide +kernel
theorem dM_add_24 : decode cM_add 24 = .ok (.aload_n 0, 1) := by decide +kernel
theorem dM_add_25 : decode cM_add 25 = .ok (.getfield 33, 3) := by decide +kernel
theorem dM_add_28 : decode cM_add 28 = .ok (.putfield 33, 3) := by decide +kernel
theorem dM_add_31 : decode cM_add 31 = .ok (.aload_n 0, 1) := by decide +kernel
theorem dM_add_32 : decode cM_add 32 = .ok (.iload_n 2, 1) := by decide +kernel
theorem dM_add_33 : decode cM_add 33 = .ok (.sipush 4095, 3) := by decide +kernel
theorem dM_add_36 : decode cM_add 36 = .ok (.iand, 1) := by decide +kernel
theorem dM_add_37 : decode cM_add 37 = .ok (.putfield 30, 3) := by decide +kernel
theorem dM_add_40 : decode cM_add 40 = .ok (.return_, 1) := by decide +kernel
theorem dM_fetch_0 : decode cM_fetch 0 = .ok (.aload_n 0, 1) := by decide +kernel
theorem dM_fetch_1 : decode cM_fetch 1 = .ok (.getfield 24, 3) := by decide +kernel
theorem dM_fetch_4 : decode cM_fetch 4 = .ok (.tableswitch 266 0 4 #[36, 87, 140, 200, 237], 36) := by decide +kernel
theorem dM_fetch_40 : decode cM_fetch 40 = .ok (.aload_n 0, 1) := by decide +kernel
theorem dM_fetch_41 : decode cM_fetch 41 = .ok (.getfield 48, 3) := by decide +kernel
theorem dM_fetch_44 : decode cM_fetch 44 = .ok (.ifCond .eq 27, 3) := by decide +kernel
theorem dM_fetch_47 : decode cM_fetch 47 = .ok (.aload_n 0, 1) := by decide +kernel
theorem dM_fetch_48 : decode cM_fetch 48 = .ok (.getfield 51, 3) := by decide +kernel
theorem dM_fetch_51 : decode cM_fetch 51 = .ok (.ifCond .ne 20, 3) := by decide +kernel
theorem dM_fetch_54 : decode cM_fetch 54 = .ok (.aload_n 0, 1) := by decide +kernel
theorem dM_fetch_55 : decode cM_fetch 55 = .ok (.getfield 57, 3) := by decide +kernel
theorem dM_fetch_58 : decode cM_fetch 58 = .ok (.ifCond .ne 10, 3) := by decide +kernel
theorem dM_fetch_61 : decode cM_fetch 61 = .ok (.aload_n 0, 1) := by decide +kernel
theorem dM_fetch_62 : decode cM_fetch 62 = .ok (.getfield 60, 3) := by decide +kernel
theorem dM_fetch_65 : decode cM_fetch 65 = .ok (.ifCond .eq 6, 3) := by decide +kernel
theorem dM_fetch_68 : decode cM_fetch 68 = .ok (.bipush 40, 2) := by decide +kernel
theorem dM_fetch_70 : decode cM_fetch 70 = .ok (.ireturn, 1) := by decide +kernel
theorem dM_fetch_71 : decode cM_fetch 71 = .ok (.aload_n 0, 1) := by decide +kernel
theorem dM_fetch_72 : decode cM_fetch 72 = .ok (.iconst 0, 1) := by decide +kernel
theorem dM_fetch_73 : decode cM_fetch 73 = .ok (.putfield 51, 3) := by decide +kernel
theorem dM_fetch_76 : decode cM_fetch 76 = .ok (.aload_n 0, 1) := by decide +kernel
theorem dM_fetch_77 : decode cM_fetch 77 = .ok (.aload_n 0, 1) := by decide +kernel
theorem dM_fetch_78 : decode cM_fetch 78 = .ok (.getfield 27, 3) := by decide +kernel
theorem dM_fetch_81 : decode cM_fetch 81 = .ok (.putfield 39, 3) := by decide +kernel
theorem dM_fetch_84 : decode cM_fetch 84 = .ok (.aload_n 0, 1) := by decide +kernel
theorem dM_fetch_85 : decode cM_fetch 85 = .ok (.iconst 1, 1) := by decide +kernel
theorem dM_fetch_86 : decode cM_fetch 86 = .ok (.invokevirtual 79, 3) := by decide +kernel
theorem dM_fetch_89 : decode cM_fetch 89 = .ok (.iconst 1, 1) := by decide +kernel
theorem dM_fetch_90 : decode cM_fetch 90 = .ok (.ireturn, 1) := by decide +kernel
theorem dM_fetch_91 : decode cM_fetch 91 = .ok (.aload_n 0, 1) := by decide +kernel
theorem dM_fetch_92 : decode cM_fetch 92 = .ok (.aload_n 0, 1) := by decide +kernel
theorem dM_fetch_93 : decode cM_fetch 93 = .ok (.getfield 7, 3) := by decide +kernel
theorem dM_fetch_96 : decode cM_fetch 96 = .ok (.aload_n 0, 1) := by decide +kernel
theorem dM_fetch_97 : decode cM_fetch 97 = .ok (.getfield 39, 3) := by decide +kernel
theorem dM_fetch_100 : decode cM_fetch 100 = .ok (.iaload, 1) := by decide +kernel
theorem dM_fetch_101 : decode cM_fetch 101 = .ok (.putfield 42, 3) := by decide +kernel
theorem dM_fetch_104 : decode cM_fetch 104 = .ok (.aload_n 0, 1) := by decide +kernel
theorem dM_fetch_105 : decode cM_fetch 105 = .ok (.aload_n 0, 1) := by decide +kernel
theorem dM_fetch_106 : decode cM_fetch 106 = .ok (.getfield 42, 3) := by decide +kernel
theorem dM_fetch_109 : decode cM_fetch 109 = .ok (.putfield 45, 3) := by decide +kernel
theorem dM_fetch_112 : decode cM_fetch 112 = .ok (.aload_n 0, 1) := by decide +kernel
theorem dM_fetch_113 : decode cM_fetch 113 = .ok (.getfield 45, 3) := by decide +kernel
theorem dM_fetch_116 : decode cM_fetch 116 = .ok (.sipush 3584, 3) := by decide +kernel
theorem dM_fetch_119 : decode cM_fetch 119 = .ok (.if_icmp .lt 8, 3) := by decide +kernel
theorem dM_fetch_122 : decode cM_fetch 122 = .ok (.bipush 20, 2) := by decide +kernel
theorem dM_fetch_124 : decode cM_fetch 124 = .ok (.goto 19, 3) := by decide +kernel
theorem dM_fetch_127 : decode cM_fetch 127 = .ok (.aload_n 0, 1) := by decide +kernel
theorem dM_fetch_128 : decode cM_fetch 128 = .ok (.getfield 45, 3) := by decide +kernel
theorem dM_fetch_131 : decode cM_fetch 131 = .ok (.sipush 3072, 3) := by decide +kernel
theorem dM_fetch_134 : decode cM_fetch 134 = .ok (.if_icmp .lt 8, 3) := by decide +kernel
theorem dM_fetch_137 : decode cM_fetch 137 = .ok (.bipush 32, 2) := by decide +kernel
theorem dM_fetch_139 : decode cM_fetch 139 = .ok (.goto 4, 3) := by decide +kernel
theorem dM_fetch_142 : decode cM_fetch 142 = .ok (.iconst 2, 1) := by decide +kernel
theorem dM_fetch_143 : decode cM_fetch 143 = .ok (.ireturn, 1) := by decide +kernel
theorem dM_fetch_144 : decode cM_fetch 144 = .ok (.aload_n 0, 1) := by decide +kernel
theorem dM_fetch_145 : decode cM_fetch 145 = .ok (.aload_n 0, 1) := by decide +kernel
theorem dM_fetch_146 : decode cM_fetch 146 = .ok (.getfield 45, 3) := by decide +kernel
theorem dM_fetch_149 : decode cM_fetch 149 = .ok (.bipush 127, 2) := by decide +kernel
theorem dM_fetch_151 : decode cM_fetch 151 = .ok (.iand, 1) := by decide +kernel
theorem dM_fetch_152 : decode cM_fetch 152 = .ok (.aload_n 0, 1) := by decide +kernel
theorem dM_fetch_153 : decode cM_fetch 153 = .ok (.sipush 128, 3) := by decide +kernel
theorem dM_fetch_156 : decode cM_fetch 156 = .ok (.invokevirtual 83, 3) := by decide +kernel
theorem dM_fetch_159 : decode cM_fetch 159 = .ok (.ifCond .eq 14, 3) := by decide +kernel
theorem dM_fetch_162 : decode cM_fetch 162 = .ok (.aload_n 0, 1) := by decide +kernel
theorem dM_fetch_163 : decode cM_fetch 163 = .ok (.getfield 39, 3) := by decide +kernel
theorem dM_fetch_166 : decode cM_fetch 166 = .ok (.sipush 3968, 3) := by decide +kernel
theorem dM_fetch_169 : decode cM_fetch 169 = .ok (.iand, 1) := by decide +kernel
theorem dM_fetch_170 : decode cM_fetch 170 = .ok (.goto 4, 3) := by decide +kernel
theorem dM_fetch_173 : decode cM_fetch 173 = .ok (.iconst 0, 1) := by decide +kernel
theorem dM_fetch_174 : decode cM_fetch 174 = .ok (.iadd, 1) := by decide +kernel
theorem dM_fetch_175 : decode cM_fetch 175 = .ok (.putfield 39, 3) := by decide +kernel
theorem dM_fetch_178 : decode cM_fetch 178 = .ok (.aload_n 0, 1) := by decide +kernel
theorem dM_fetch_179 : decode cM_fetch 179 = .ok (.sipush 256, 3) := by decide +kernel
theorem dM_fetch_182 : decode cM_fetch 182 = .ok (.invokevirtual 83, 3) := by decide +kernel
theorem dM_fetch_185 : decode cM_fetch 185 = .ok (.ifCond .eq 7, 3) := by decide +kernel
theorem dM_fetch_188 : decode cM_fetch 188 = .ok (.iconst 3, 1) := by decide +kernel
theorem dM_fetch_189 : decode cM_fetch 189 = .ok (.goto 14, 3) := by decide +kernel
theorem dM_fetch_192 : decode cM_fetch 192 = .ok (.bipush 8, 2) := by decide +kernel
theorem dM_fetch_194 : decode cM_fetch 194 = .ok (.aload_n 0, 1) := by decide +kernel
theorem dM_fetch_195 : decode cM_fetch 195 = .ok (.getfield 45, 3) := by decide +kernel
theorem dM_fetch_198 : decode cM_fetch 198 = .ok (.sipush 512, 3) := by decide +kernel
theorem dM_fetch_201 : decode cM_fetch 201 = .ok (.idiv, 1) := by decide +kernel
theorem dM_fetch_202 : decode cM_fetch 202 = .ok (.iadd, 1) := by decide +kernel
theorem dM_fetch_203 : decode cM_fetch 203 = .ok (.ireturn, 1) := by decide +kernel
theorem dM_fetch_204 : decode cM_fetch 204 = .ok (.aload_n 0, 1) := by decide +kernel
theorem dM_fetch_205 : decode cM_fetch 205 = .ok (.aload_n 0, 1) := by decide +kernel
theorem dM_fetch_206 : decode cM_fetch 206 = .ok (.getfield 7, 3) := by decide +kernel
theorem dM_fetch_209 : decode cM_fetch 209 = .ok (.aload_n 0, 1) := by decide +kernel
theorem dM_fetch_210 : decode cM_fetch 210 = .ok (.getfield 39, 3) := by decide +kernel
theorem dM_fetch_213 : decode cM_fetch 213 = .ok (.iaload, 1) := by decide +kernel
theorem dM_fetch_214 : decode cM_fetch 214 = .ok (.putfield 42, 3) := by decide +kernel
theorem dM_fetch_217 : decode cM_fetch 217 = .ok (.aload_n 0, 1) := by decide +kernel
theorem dM_fetch_218 : decode cM_fetch 218 = .ok (.getfield 39, 3) := by decide +kernel
theorem dM_fetch_221 : decode cM_fetch 221 = .ok (.bipush 8, 2) := by decide +kernel
theorem dM_fetch_223 : decode cM_fetch 223 = .ok (.if_icmp .lt 16, 3) := by decide +kernel
theorem dM_fetch_226 : decode cM_fetch 226 = .ok (.aload_n 0, 1) := by decide +kernel
theorem dM_fetch_227 : decode cM_fetch 227 = .ok (.getfield 39, 3) := by decide +kernel
theorem dM_fetch_230 : decode cM_fetch 230 = .ok (.bipush 15, 2) := by decide +kernel
theorem dM_fetch_232 : decode cM_fetch 232 = .ok (.if_icmp .gt 7, 3) := by decide +kernel
theorem dM_fetch_235 : decode cM_fetch 235 = .ok (.iconst 4, 1) := by decide +kernel
theorem dM_fetch_236 : decode cM_fetch 236 = .ok (.goto 4, 3) := by decide +kernel
theorem dM_fetch_239 : decode cM_fetch 239 = .ok (.iconst 5, 1) := by decide +kernel
theorem dM_fetch_240 : decode cM_fetch 240 = .ok (.ireturn, 1) := by decide +kernel
theorem dM_fetch_241 : decode cM_fetch 241 = .ok (.aload_n 0, 1) := by decide +kernel
theorem dM_fetch_242 : decode cM_fetch 242 = .ok (.aload_n 0, 1) := by decide +kernel
theorem dM_fetch_243 : decode cM_fetch 243 = .ok (.getfield 42, 3) := by decide +kernel
theorem dM_fetch_246 : decode cM_fetch 246 = .ok (.iconst 1, 1) := by decide +kernel
theorem dM_fetch_247 : decode cM_fetch 247 = .ok (.iadd, 1) := by decide +kernel
theorem dM_fetch_248 : decode cM_fetch 248 = .ok (.sipush 4095, 3) := by decide +kernel
theorem dM_fetch_251 : decode cM_fetch 251 = .ok (.iand, 1) := by decide +kernel
theorem dM_fetch_252 : decode cM_fetch 252 = .ok (.putfield 42, 3) := by decide +kernel
theorem dM_fetch_255 : decode cM_fetch 255 = .ok (.aload_n 0, 1) := by decide +kernel
theorem dM_fetch_256 : decode cM_fetch 256 = .ok (.getfield 7, 3) := by decide +kernel
theorem dM_fetch_259 : decode cM_fetch 259 = .ok (.aload_n 0, 1) := by decide +kernel
theorem dM_fetch_260 : decode cM_fetch 260 = .ok (.getfield 39, 3) := by decide +kernel
theorem dM_fetch_263 : decode cM_fetch 263 = .ok (.aload_n 0, 1) := by decide +kernel
theorem dM_fetch_264 : decode cM_fetch 264 = .ok (.getfield 42, 3) := by decide +kernel
theorem dM_fetch_267 : decode cM_fetch 267 = .ok (.iastore, 1) := by decide +kernel
theorem dM_fetch_268 : decode cM_fetch 268 = .ok (.iconst 5, 1) := by decide +kernel
theorem dM_fetch_269 : decode cM_fetch 269 = .ok (.ireturn, 1) := by decide +kernel
theorem dM_fetch_270 : decode cM_fetch 270 = .ok (.aload_n 0, 1) := by decide +kernel
theorem dM_fetch_271 : decode cM_fetch 271 = .ok (.aload_n 0, 1) := by decide +kernel
theorem dM_fetch_272 : decode cM_fetch 272 = .ok (.getfield 42, 3) := by decide +kernel
theorem dM_fetch_275 : decode cM_fetch 275 = .ok (.putfield 39, 3) := by decide +kernel
theorem dM_fetch_278 : decode cM_fetch 278 = .ok (.bipush 8, 2) := by decide +kernel
theorem dM_fetch_280 : decode cM_fetch 280 = .ok (.aload_n 0, 1) := by decide +kernel
theorem dM_fetch_281 : decode cM_fetch 281 = .ok (.getfield 45, 3) := by decide +kernel
theorem dM_fetch_284 : decode cM_fetch 284 = .ok (.sipush 512, 3) := by decide +kernel
theorem dM_fetch_287 : decode cM_fetch 287 = .ok (.idiv, 1) := by decide +kernel
theorem dM_fetch_288 : decode cM_fetch 288 = .ok (.iadd, 1) := by decide +kernel
theorem dM_fetch_289 : decode cM_fetch 289 = .ok (.ireturn, 1) := by decide +kernel
theorem dM_memory_0 : decode cM_memory 0 = .ok (.aload_n 0, 1) := by decide +kernel
theorem dM_memory_1 : decode cM_memory 1 = .ok (.getfield 24, 3) := by decide +kernel
theorem dM_memory_4 : decode cM_memory 4 = .ok (.tableswitch 156 8 17 #[56, 56, 77, 99, 110, 121, 156, 156, 131, 146], 56) := by decide +kernel
theorem dM_memory_60 : decode cM_memory 60 = .ok (.aload_n 0, 1) := by decide +kernel
theorem dM_memory_61 : decode cM_memory 61 = .ok (.aload_n 0, 1) := by decide +kernel
theorem dM_memory_62 : decode cM_memory 62 = .ok (.getfield 7, 3) := by decide +kernel
theorem dM_memory_65 : decode cM_memory 65 = .ok (.aload_n 0, 1) := by decide +kernel
theorem dM_memory_66 : decode cM_memory 66 = .ok (.getfield 39, 3) := by decide +kernel
theorem dM_memory_69 : decode cM_memory 69 = .ok (.iaload, 1) := by decide +kernel
theorem dM_memory_70 : decode cM_memory 70 = .ok (.putfield 42, 3) := by decide +kernel
theorem dM_memory_73 : decode cM_memory 73 = .ok (.aload_n 0, 1) := by decide +kernel
theorem dM_memory_74 : decode cM_memory 74 = .ok (.getfield 24, 3) := by decide +kernel
theorem dM_memory_77 : decode cM_memory 77 = .ok (.bipush 8, 2) := by decide +kernel
theorem dM_memory_79 : decode cM_memory 79 = .ok (.iadd, 1) := by decide +kernel
theorem dM_memory_80 : decode cM_memory 80 = .ok (.ireturn, 1) := by decide +kernel
theorem dM_memory_81 : decode cM_memory 81 = .ok (.aload_n 0, 1) := by decide +kernel
theorem dM_memory_82 : decode cM_memory 82 = .ok (.aload_n 0, 1) := by decide +kernel
theorem dM_memory_83 : decode cM_memory 83 = .ok (.getfield 7, 3) := by decide +kernel
theorem dM_memory_86 : decode cM_memory 86 = .ok (.aload_n 0, 1) := by decide +kernel
theorem dM_memory_87 : decode cM_memory 87 = .ok (.getfield 39, 3) := by decide +kernel
theorem dM_memory_90 : decode cM_memory 90 = .ok (.iaload, 1) := by decide +kernel
theorem dM_memory_91 : decode cM_memory 91 = .ok (.iconst 1, 1) := by decide +kernel
theorem dM_memory_92 : decode cM_memory 92 = .ok (.iadd, 1) := by decide +kernel
theorem dM_memory_93 : decode cM_memory 93 = .ok (.sipush 4095, 3) := by decide +kernel
theorem dM_memory_96 : decode cM_memory 96 = .ok (.iand, 1) := by decide +kernel
theorem dM_memory_97 : decode cM_memory 97 = .ok (.putfield 42, 3) := by decide +kernel
theorem dM_memory_100 : decode cM_memory 100 = .ok (.bipush 18, 2) := by decide +kernel
theorem dM_memory_102 : decode cM_memory 102 = .ok (.ireturn, 1) := by decide +kernel
theorem dM_memory_103 : decode cM_memory 103 = .ok (.aload_n 0, 1) := by decide +kernel
theorem dM_memory_104 : decode cM_memory 104 = .ok (.aload_n 0, 1) := by decide +kernel
theorem dM_memory_105 : decode cM_memory 105 = .ok (.getfield 30, 3) := by decide +kernel
theorem dM_memory_108 : decode cM_memory 108 = .ok (.putfield 42, 3) := by decide +kernel
theorem dM_memory_111 : decode cM_memory 111 = .ok (.bipush 19, 2) := by decide +kernel
theorem dM_memory_113 : decode cM_memory 113 = .ok (.ireturn, 1) := by decide +kernel
theorem dM_memory_114 : decode cM_memory 114 = .ok (.aload_n 0, 1) := by decide +kernel
theorem dM_memory_115 : decode cM_memory 115 = .ok (.aload_n 0, 1) := by decide +kernel
theorem dM_memory_116 : decode cM_memory 116 = .ok (.getfield 27, 3) := by decide +kernel
theorem dM_memory_119 : decode cM_memory 119 = .ok (.putfield 42, 3) := by decide +kernel
theorem dM_memory_122 : decode cM_memory 122 = .ok (.bipush 15, 2) := by decide +kernel
theorem dM_memory_124 : decode cM_memory 124 = .ok (.ireturn, 1) := by decide +kernel
theorem dM_memory_125 : decode cM_memory 125 = .ok (.aload_n 0, 1) := by decide +kernel
theorem dM_memory_126 : decode cM_memory 126 = .ok (.aload_n 0, 1) := by decide +kernel
theorem dM_memory_127 : decode cM_memory 127 = .ok (.getfield 39, 3) := by decide +kernel
theorem dM_memory_130 : decode cM_memory 130 = .ok (.putfield 27, 3) := by decide +kernel
theorem dM_memory_133 : decode cM_memory 133 = .ok (.iconst 0, 1) := by decide +kernel
theorem dM_memory_134 : decode cM_memory 134 = .ok (.ireturn, 1) := by decide +kernel
theorem dM_memory_135 : decode cM_memory 135 = .ok (.aload_n 0, 1) := by decide +kernel
theorem dM_memory_136 : decode cM_memory 136 = .ok (.aload_n 0, 1) := by decide +kernel
theorem dM_memory_137 : decode cM_memory 137 = .ok (.getfield 30, 3) := by decide +kernel
theorem dM_memory_140 : decode cM_memory 140 = .ok (.aload_n 0, 1) := by decide +kernel
theorem dM_memory_141 : decode cM_memory 141 = .ok (.getfield 42, 3) := by decide +kernel
theorem dM_memory_144 : decode cM_memory 144 = .ok (.iand, 1) := by decide +kernel
theorem dM_memory_145 : decode cM_memory 145 = .ok (.putfield 30, 3) := by decide +kernel
theorem dM_memory_148 : decode cM_memory 148 = .ok (.iconst 0, 1) := by decide +kernel
theorem dM_memory_149 : decode cM_memory 149 = .ok (.ireturn, 1) := by decide +kernel
theorem dM_memory_150 : decode cM_memory 150 = .ok (.aload_n 0, 1) := by decide +kernel
theorem dM_memory_151 : decode cM_memory 151 = .ok (.aload_n 0, 1) := by decide +kernel
theorem dM_memory_152 : decode cM_memory 152 = .ok (.getfield 42, 3) := by decide +kernel
theorem dM_memory_155 : decode cM_memory 155 = .ok (.invokevirtual 86, 3) := by decide +kernel
theorem dM_memory_158 : decode cM_memory 158 = .ok (.iconst 0, 1) := by decide +kernel
theorem dM_memory_159 : decode cM_memory 159 = .ok (.ireturn, 1) := by decide +kernel
theorem dM_memory_160 : decode cM_memory 160 = .ok (.aload_n 0, 1) := by decide +kernel
theorem dM_memory_161 : decode cM_memory 161 = .ok (.getfield 7, 3) := by decide +kernel
theorem dM_memory_164 : decode cM_memory 164 = .ok (.aload_n 0, 1) := by decide +kernel
theorem dM_memory_165 : decode cM_memory 165 = .ok (.getfield 39, 3) := by decide +kernel
theorem dM_memory_168 : decode cM_memory 168 = .ok (.aload_n 0, 1) := by decide +kernel
theorem dM_memory_169 : decode cM_memory 169 = .ok (.getfield 42, 3) := by decide +kernel
theorem dM_memory_172 : decode cM_memory 172 = .ok (.iastore, 1) := by decide +kernel
theorem dM_memory_173 : decode cM_memory 173 = .ok (.aload_n 0, 1) := by decide +kernel
theorem dM_memory_174 : decode cM_memory 174 = .ok (.aload_n 0, 1) := by decide +kernel
theorem dM_memory_175 : decode cM_memory 175 = .ok (.getfield 24, 3) := by decide +kernel
theorem dM_memory_178 : decode cM_memory 178 = .ok (.bipush 18, 2) := by decide +kernel
theorem dM_memory_180 : decode cM_memory 180 = .ok (.if_icmp .ne 14, 3) := by decide +kernel
theorem dM_memory_183 : decode cM_memory 183 = .ok (.aload_n 0, 1) := by decide +kernel
theorem dM_memory_184 : decode cM_memory 184 = .ok (.getfield 42, 3) := by decide +kernel
theorem dM_memory_187 : decode cM_memory 187 = .ok (.ifCond .ne 7, 3) := by decide +kernel
theorem dM_memory_190 : decode cM_memory 190 = .ok (.iconst 1, 1) := by decide +kernel
theorem dM_memory_191 : decode cM_memory 191 = .ok (.goto 4, 3) := by decide +kernel
theorem dM_memory_194 : decode cM_memory 194 = .ok (.iconst 0, 1) := by decide +kernel
theorem dM_memory_195 : decode cM_memory 195 = .ok (.invokevirtual 79, 3) := by decide +kernel
theorem dM_memory_198 : decode cM_memory 198 = .ok (.aload_n 0, 1) := by decide +kernel
theorem dM_memory_199 : decode cM_memory 199 = .ok (.aload_n 0, 1) := by decide +kernel
theorem dM_memory_200 : decode cM_memory 200 = .ok (.getfield 24, 3) := by decide +kernel
theorem dM_memory_203 : decode cM_memory 203 = .ok (.bipush 19, 2) := by decide +kernel
theorem dM_memory_205 : decode cM_memory 205 = .ok (.if_icmp .ne 7, 3) := by decide +kernel
theorem dM_memory_208 : decode cM_memory 208 = .ok (.iconst 0, 1) := by decide +kernel
theorem dM_memory_209 : decode cM_memory 209 = .ok (.goto 7, 3) := by decide +kernel
theorem dM_memory_212 : decode cM_memory 212 = .ok (.aload_n 0, 1) := by decide +kernel
theorem dM_memory_213 : decode cM_memory 213 = .ok (.getfield 30, 3) := by decide +kernel
theorem dM_memory_216 : decode cM_memory 216 = .ok (.putfield 30, 3) := by decide +kernel
theorem dM_memory_219 : decode cM_memory 219 = .ok (.aload_n 0, 1) := by decide +kernel
theorem dM_memory_220 : decode cM_memory 220 = .ok (.aload_n 0, 1) := by decide +kernel
theorem dM_memory_221 : decode cM_memory 221 = .ok (.getfield 24, 3) := by decide +kernel
theorem dM_memory_224 : decode cM_memory 224 = .ok (.bipush 15, 2) := by decide +kernel
theorem dM_memory_226 : decode cM_memory 226 = .ok (.if_icmp .ne 16, 3) := by decide +kernel
theorem dM_memory_229 : decode cM_memory 229 = .ok (.aload_n 0, 1) := by decide +kernel
theorem dM_memory_230 : decode cM_memory 230 = .ok (.getfield 39, 3) := by decide +kernel
theorem dM_memory_233 : decode cM_memory 233 = .ok (.iconst 1, 1) := by decide +kernel
theorem dM_memory_234 : decode cM_memory 234 = .ok (.iadd, 1) := by decide +kernel
theorem dM_memory_235 : decode cM_memory 235 = .ok (.sipush 4095, 3) := by decide +kernel
theorem dM_memory_238 : decode cM_memory 238 = .ok (.iand, 1) := by decide +kernel
theorem dM_memory_239 : decode cM_memory 239 = .ok (.goto 7, 3) := by decide +kernel
theorem dM_memory_242 : decode cM_memory 242 = .ok (.aload_n 0, 1) := by decide +kernel
theorem dM_memory_243 : decode cM_memory 243 = .ok (.getfield 27, 3) := by decide +kernel
theorem dM_memory_246 : decode cM_memory 246 = .ok (.putfield 27, 3) := by decide +kernel
theorem dM_memory_249 : decode cM_memory 249 = .ok (.iconst 0, 1) := by decide +kernel
theorem dM_memory_250 : decode cM_memory 250 = .ok (.ireturn, 1) := by decide +kernel
theorem dM_rotate_0 : decode cM_rotate 0 = .ok (.aload_n 0, 1) := by decide +kernel
theorem dM_rotate_1 : decode cM_rotate 1 = .ok (.getfield 33, 3) := by decide +kernel
theorem dM_rotate_4 : decode cM_rotate 4 = .ok (.bipush 12, 2) := by decide +kernel
theorem dM_rotate_6 : decode cM_rotate 6 = .ok (.ishl, 1) := by decide +kernel
theorem dM_rotate_7 : decode cM_rotate 7 = .ok (.aload_n 0, 1) := by decide +kernel
theorem dM_rotate_8 : decode cM_rotate 8 = .ok (.getfield 30, 3) := by decide +kernel
theorem dM_rotate_11 : decode cM_rotate 11 = .ok (.ior, 1) := by decide +kernel
theorem dM_rotate_12 : decode cM_rotate 12 = .ok (.istore_n 1, 1) := by decide +kernel
theorem dM_rotate_13 : decode cM_rotate 13 = .ok (.aload_n 0, 1) := by decide +kernel
theorem dM_rotate_14 : decode cM_rotate 14 = .ok (.bipush 8, 2) := by decide +kernel
theorem dM_rotate_16 : decode cM_rotate 16 = .ok (.invokevirtual 83, 3) := by decide +kernel
theorem dM_rotate_19 : decode cM_rotate 19 = .ok (.ifCond .eq 14, 3) := by decide +kernel
theorem dM_rotate_22 : decode cM_rotate 22 = .ok (.iload_n 1, 1) := by decide +kernel
theorem dM_rotate_23 : decode cM_rotate 23 = .ok (.iconst 1, 1) := by decide +kernel
theorem dM_rotate_24 : decode cM_rotate 24 = .ok (.ishr, 1) := by decide +kernel
theorem dM_rotate_25 : decode cM_rotate 25 = .ok (.iload_n 1, 1) := by decide +kernel
theorem dM_rotate_26 : decode cM_rotate 26 = .ok (.iconst 1, 1) := by decide +kernel
theorem dM_rotate_27 : decode cM_rotate 27 = .ok (.iand, 1) := by decide +kernel
theorem dM_rotate_28 : decode cM_rotate 28 = .ok (.bipush 12, 2) := by decide +kernel
theorem dM_rotate_30 : decode cM_rotate 30 = .ok (.ishl, 1) := by decide +kernel
theorem dM_rotate_31 : decode cM_rotate 31 = .ok (.ior, 1) := by decide +kernel
theorem dM_rotate_32 : decode cM_rotate 32 = .ok (.istore_n 1, 1) := by decide +kernel
theorem dM_rotate_33 : decode cM_rotate 33 = .ok (.aload_n 0, 1) := by decide +kernel
theorem dM_rotate_34 : decode cM_rotate 34 = .ok (.iconst 4, 1) := by decide +kernel
theorem dM_rotate_35 : decode cM_rotate 35 = .ok (.invokevirtual 83, 3) := by decide +kernel
theorem dM_rotate_38 : decode cM_rotate 38 = .ok (.ifCond .eq 16, 3) := by decide +kernel
theorem dM_rotate_41 : decode cM_rotate 41 = .ok (.iload_n 1, 1) := by decide +kernel
theorem dM_rotate_42 : decode cM_rotate 42 = .ok (.iconst 1, 1) := by decide +kernel
theorem dM_rotate_43 : decode cM_rotate 43 = .ok (.ishl, 1) := by decide +kernel
theorem dM_rotate_44 : decode cM_rotate 44 = .ok (.sipush 8191, 3) := by decide +kernel
theorem dM_rotate_47 : decode cM_rotate 47 = .ok (.iand, 1) := by decide +kernel
theorem dM_rotate_48 : decode cM_rotate 48 = .ok (.iload_n 1, 1) := by decide +kernel
theorem dM_rotate_49 : decode cM_rotate 49 = .ok (.bipush 12, 2) := by decide +kernel
theorem dM_rotate_51 : decode cM_rotate 51 = .ok (.ishr, 1) := by decide +kernel
theorem dM_rotate_52 : decode cM_rotate 52 = .ok (.ior, 1) := by decide +kernel
theorem dM_rotate_53 : decode cM_rotate 53 = .ok (.istore_n 1, 1) := by decide +kernel
theorem dM_rotate_54 : decode cM_rotate 54 = .ok (.aload_n 0, 1) := by decide +kernel
theorem dM_rotate_55 : decode cM_rotate 55 = .ok (.iload_n 1, 1) := by decide +kernel
theorem dM_rotate_56 : decode cM_rotate 56 = .ok (.bipush 12, 2) := by decide +kernel
theorem dM_rotate_58 : decode cM_rotate 58 = .ok (.ishr, 1) := by decide +kernel
theorem dM_rotate_59 : decode cM_rotate 59 = .ok (.putfield 33, 3) := by decide +kernel
theorem dM_rotate_62 : decode cM_rotate 62 = .ok (.aload_n 0, 1) := by decide +kernel
theorem dM_rotate_63 : decode cM_rotate 63 = .ok (.iload_n 1, 1) := by decide +kernel
theorem dM_rotate_64 : decode cM_rotate 64 = .ok (.sipush 4095, 3) := by decide +kernel
theorem dM_rotate_67 : decode cM_rotate 67 = .ok (.iand, 1) := by decide +kernel
theorem dM_rotate_68 : decode cM_rotate 68 = .ok (.putfield 30, 3) := by decide +kernel
theorem dM_rotate_71 : decode cM_rotate 71 = .ok (.return_, 1) := by decide +kernel
theorem dM_operate_0 : decode cM_operate 0 = .ok (.aload_n 0, 1) := by decide +kernel
theorem dM_operate_1 : decode cM_operate 1 = .ok (.getfield 24, 3) := by decide +kernel
theorem dM_operate_4 : decode cM_operate 4 = .ok (.tableswitch 195 20 23 #[32, 63, 109, 166], 32) := by decide +kernel
theorem dM_operate_36 : decode cM_operate 36 = .ok (.aload_n 0, 1) := by decide +kernel
theorem dM_operate_37 : decode cM_operate 37 = .ok (.sipush 256, 3) := by decide +kernel
theorem dM_operate_40 : decode cM_operate 40 = .ok (.invokevirtual 83, 3) := by decide +kernel
theorem dM_operate_43 : decode cM_operate 43 = .ok (.ifCond .ne 8, 3) := by decide +kernel
theorem dM_operate_46 : decode cM_operate 46 = .ok (.bipush 21, 2) := by decide +kernel
theorem dM_operate_48 : decode cM_operate 48 = .ok (.goto 18, 3) := by decide +kernel
theorem dM_operate_51 : decode cM_operate 51 = .ok (.aload_n 0, 1) := by decide +kernel
theorem dM_operate_52 : decode cM_operate 52 = .ok (.iconst 1, 1) := by decide +kernel
theorem dM_operate_53 : decode cM_operate 53 = .ok (.invokevirtual 83, 3) := by decide +kernel
theorem dM_operate_56 : decode cM_operate 56 = .ok (.ifCond .ne 8, 3) := by decide +kernel
theorem dM_operate_59 : decode cM_operate 59 = .ok (.bipush 26, 2) := by decide +kernel
theorem dM_operate_61 : decode cM_operate 61 = .ok (.goto 5, 3) := by decide +kernel
theorem dM_operate_64 : decode cM_operate 64 = .ok (.bipush 30, 2) := by decide +kernel
theorem dM_operate_66 : decode cM_operate 66 = .ok (.ireturn, 1) := by decide +kernel
theorem dM_operate_67 : decode cM_operate 67 = .ok (.aload_n 0, 1) := by decide +kernel
theorem dM_operate_68 : decode cM_operate 68 = .ok (.aload_n 0, 1) := by decide +kernel
theorem dM_operate_69 : decode cM_operate 69 = .ok (.sipush 128, 3) := by decide +kernel
theorem dM_operate_72 : decode cM_operate 72 = .ok (.invokevirtual 83, 3) := by decide +kernel
theorem dM_operate_75 : decode cM_operate 75 = .ok (.ifCond .eq 7, 3) := by decide +kernel
theorem dM_operate_78 : decode cM_operate 78 = .ok (.iconst 0, 1) := by decide +kernel
theorem dM_operate_79 : decode cM_operate 79 = .ok (.goto 7, 3) := by decide +kernel
theorem dM_operate_82 : decode cM_operate 82 = .ok (.aload_n 0, 1) := by decide +kernel
theorem dM_operate_83 : decode cM_operate 83 = .ok (.getfield 30, 3) := by decide +kernel
theorem dM_operate_86 : decode cM_operate 86 = .ok (.putfield 30, 3) := by decide +kernel
theorem dM_operate_89 : decode cM_operate 89 = .ok (.aload_n 0, 1) := by decide +kernel
theorem dM_operate_90 : decode cM_operate 90 = .ok (.aload_n 0, 1) := by decide +kernel
theorem dM_operate_91 : decode cM_operate 91 = .ok (.bipush 64, 2) := by decide +kernel
theorem dM_operate_93 : decode cM_operate 93 = .ok (.invokevirtual 83, 3) := by decide +kernel
theorem dM_operate_96 : decode cM_operate 96 = .ok (.ifCond .eq 7, 3) := by decide +kernel
theorem dM_operate_99 : decode cM_operate 99 = .ok (.iconst 0, 1) := by decide +kernel
theorem dM_operate_100 : decode cM_operate 100 = .ok (.goto 7, 3) := by decide +kernel
theorem dM_operate_103 : decode cM_operate 103 = .ok (.aload_n 0, 1) := by decide +kernel
theorem dM_operate_104 : decode cM_operate 104 = .ok (.getfield 33, 3) := by decide +kernel
theorem dM_operate_107 : decode cM_operate 107 = .ok (.putfield 33, 3) := by decide +kernel
theorem dM_operate_110 : decode cM_operate 110 = .ok (.bipush 22, 2) := by decide +kernel
theorem dM_operate_112 : decode cM_operate 112 = .ok (.ireturn, 1) := by decide +kernel
theorem dM_operate_113 : decode cM_operate 113 = .ok (.aload_n 0, 1) := by decide +kernel
theorem dM_operate_114 : decode cM_operate 114 = .ok (.aload_n 0, 1) := by decide +kernel
theorem dM_operate_115 : decode cM_operate 115 = .ok (.bipush 32, 2) := by decide +kernel
theorem dM_operate_117 : decode cM_operate 117 = .ok (.invokevirtual 83, 3) := by decide +kernel
theorem dM_operate_120 : decode cM_operate 120 = .ok (.ifCond .eq 14, 3) := by decide +kernel
theorem dM_operate_123 : decode cM_operate 123 = .ok (.sipush 4095, 3) := by decide +kernel
theorem dM_operate_126 : decode cM_operate 126 = .ok (.aload_n 0, 1) := by decide +kernel
theorem dM_operate_127 : decode cM_operate 127 = .ok (.getfield 30, 3) := by decide +kernel
theorem dM_operate_130 : decode cM_operate 130 = .ok (.isub, 1) := by decide +kernel
theorem dM_operate_131 : decode cM_operate 131 = .ok (.goto 7, 3) := by decide +kernel
theorem dM_operate_134 : decode cM_operate 134 = .ok (.aload_n 0, 1) := by decide +kernel
theorem dM_operate_135 : decode cM_operate 135 = .ok (.getfield 30, 3) := by decide +kernel
theorem dM_operate_138 : decode cM_operate 138 = .ok (.putfield 30, 3) := by decide +kernel
theorem dM_operate_141 : decode cM_operate 141 = .ok (.aload_n 0, 1) := by decide +kernel
theorem dM_operate_142 : decode cM_operate 142 = .ok (.aload_n 0, 1) := by decide +kernel
theorem dM_operate_143 : decode cM_operate 143 = .ok (.bipush 16, 2) := by decide +kernel
theorem dM_operate_145 : decode cM_operate 145 = .ok (.invokevirtual 83, 3) := by decide +kernel
theorem dM_operate_148 : decode cM_operate 148 = .ok (.ifCond .eq 12, 3) := by decide +kernel
theorem dM_operate_151 : decode cM_operate 151 = .ok (.iconst 1, 1) := by decide +kernel
theorem dM_operate_152 : decode cM_operate 152 = .ok (.aload_n 0, 1) := by decide +kernel
theorem dM_operate_153 : decode cM_operate 153 = .ok (.getfield 33, 3) := by decide +kernel
theorem dM_operate_156 : decode cM_operate 156 = .ok (.isub, 1) := by decide +kernel
theorem dM_operate_157 : decode cM_operate 157 = .ok (.goto 7, 3) := by decide +kernel
theorem dM_operate_160 : decode cM_operate 160 = .ok (.aload_n 0, 1) := by decide +kernel
theorem dM_operate_161 : decode cM_operate 161 = .ok (.getfield 33, 3) := by decide +kernel
theorem dM_operate_164 : decode cM_operate 164 = .ok (.putfield 33, 3) := by decide +kernel
theorem dM_operate_167 : decode cM_operate 167 = .ok (.bipush 23, 2) := by decide +kernel
theorem dM_operate_169 : decode cM_operate 169 = .ok (.ireturn, 1) := by decide +kernel
theorem dM_operate_170 : decode cM_operate 170 = .ok (.aload_n 0, 1) := by decide +kernel
theorem dM_operate_171 : decode cM_operate 171 = .ok (.iconst 1, 1) := by decide +kernel
theorem dM_operate_172 : decode cM_operate 172 = .ok (.invokevirtual 83, 3) := by decide +kernel
theorem dM_operate_175 : decode cM_operate 175 = .ok (.ifCond .eq 8, 3) := by decide +kernel
theorem dM_operate_178 : decode cM_operate 178 = .ok (.aload_n 0, 1) := by decide +kernel
theorem dM_operate_179 : decode cM_operate 179 = .ok (.iconst 1, 1) := by decide +kernel
theorem dM_operate_180 : decode cM_operate 180 = .ok (.invokevirtual 86, 3) := by decide +kernel
theorem dM_operate_183 : decode cM_operate 183 = .ok (.aload_n 0, 1) := by decide +kernel
theorem dM_operate_184 : decode cM_operate 184 = .ok (.bipush 12, 2) := by decide +kernel
theorem dM_operate_186 : decode cM_operate 186 = .ok (.invokevirtual 83, 3) := by decide +kernel
theorem dM_operate_189 : decode cM_operate 189 = .ok (.ifCond .eq 8, 3) := by decide +kernel
theorem dM_operate_192 : decode cM_operate 192 = .ok (.bipush 24, 2) := by decide +kernel
theorem dM_operate_194 : decode cM_operate 194 = .ok (.goto 4, 3) := by decide +kernel
theorem dM_operate_197 : decode cM_operate 197 = .ok (.iconst 0, 1) := by decide +kernel
theorem dM_operate_198 : decode cM_operate 198 = .ok (.ireturn, 1) := by decide +kernel
theorem dM_operate_199 : decode cM_operate 199 = .ok (.aload_n 0, 1) := by decide +kernel
theorem dM_operate_200 : decode cM_operate 200 = .ok (.invokevirtual 90, 3) := by decide +kernel
theorem dM_operate_203 : decode cM_operate 203 = .ok (.aload_n 0, 1) := by decide +kernel
theorem dM_operate_204 : decode cM_operate 204 = .ok (.getfield 24, 3) := by decide +kernel
theorem dM_operate_207 : decode cM_operate 207 = .ok (.bipush 24, 2) := by decide +kernel
theorem dM_operate_209 : decode cM_operate 209 = .ok (.if_icmp .ne 16, 3) := by decide +kernel
theorem dM_operate_212 : decode cM_operate 212 = .ok (.aload_n 0, 1) := by decide +kernel
theorem dM_operate_213 : decode cM_operate 213 = .ok (.iconst 2, 1) := by decide +kernel
theorem dM_operate_214 : decode cM_operate 214 = .ok (.invokevirtual 83, 3) := by decide +kernel
theorem dM_operate_217 : decode cM_operate 217 = .ok (.ifCond .eq 8, 3) := by decide +kernel
theorem dM_operate_220 : decode cM_operate 220 = .ok (.bipush 25, 2) := by decide +kernel
theorem dM_operate_222 : decode cM_operate 222 = .ok (.goto 4, 3) := by decide +kernel
theorem dM_operate_225 : decode cM_operate 225 = .ok (.iconst 0, 1) := by decide +kernel
theorem dM_operate_226 : decode cM_operate 226 = .ok (.ireturn, 1) := by decide +kernel
theorem dM_test_0 : decode cM_test 0 = .ok (.aload_n 0, 1) := by decide +kernel
theorem dM_test_1 : decode cM_test 1 = .ok (.getfield 24, 3) := by decide +kernel
theorem dM_test_4 : decode cM_test 4 = .ok (.tableswitch 233 26 30 #[36, 116, 154, 233, 208], 36) := by decide +kernel
theorem dM_test_40 : decode cM_test 40 = .ok (.aload_n 0, 1) := by decide +kernel
theorem dM_test_41 : decode cM_test 41 = .ok (.bipush 64, 2) := by decide +kernel
theorem dM_test_43 : decode cM_test 43 = .ok (.invokevirtual 83, 3) := by decide +kernel
theorem dM_test_46 : decode cM_test 46 = .ok (.ifCond .eq 13, 3) := by decide +kernel
theorem dM_test_49 : decode cM_test 49 = .ok (.aload_n 0, 1) := by decide +kernel
theorem dM_test_50 : decode cM_test 50 = .ok (.getfield 30, 3) := by decide +kernel
theorem dM_test_53 : decode cM_test 53 = .ok (.sipush 2048, 3) := by decide +kernel
theorem dM_test_56 : decode cM_test 56 = .ok (.if_icmp .ge 36, 3) := by decide +kernel
theorem dM_test_59 : decode cM_test 59 = .ok (.aload_n 0, 1) := by decide +kernel
theorem dM_test_60 : decode cM_test 60 = .ok (.bipush 32, 2) := by decide +kernel
theorem dM_test_62 : decode cM_test 62 = .ok (.invokevirtual 83, 3) := by decide +kernel
theorem dM_test_65 : decode cM_test 65 = .ok (.ifCond .eq 10, 3) := by decide +kernel
theorem dM_test_68 : decode cM_test 68 = .ok (.aload_n 0, 1) := by decide +kernel
theorem dM_test_69 : decode cM_test 69 = .ok (.getfield 30, 3) := by decide +kernel
theorem dM_test_72 : decode cM_test 72 = .ok (.ifCond .eq 20, 3) := by decide +kernel
theorem dM_test_75 : decode cM_test 75 = .ok (.aload_n 0, 1) := by decide +kernel
theorem dM_test_76 : decode cM_test 76 = .ok (.bipush 16, 2) := by decide +kernel
theorem dM_test_78 : decode cM_test 78 = .ok (.invokevirtual 83, 3) := by decide +kernel
theorem dM_test_81 : decode cM_test 81 = .ok (.ifCond .eq 15, 3) := by decide +kernel
theorem dM_test_84 : decode cM_test 84 = .ok (.aload_n 0, 1) := by decide +kernel
theorem dM_test_85 : decode cM_test 85 = .ok (.getfield 33, 3) := by decide +kernel
theorem dM_test_88 : decode cM_test 88 = .ok (.iconst 1, 1) := by decide +kernel
theorem dM_test_89 : decode cM_test 89 = .ok (.if_icmp .ne 7, 3) := by decide +kernel
theorem dM_test_92 : decode cM_test 92 = .ok (.iconst 1, 1) := by decide +kernel
theorem dM_test_93 : decode cM_test 93 = .ok (.goto 4, 3) := by decide +kernel
theorem dM_test_96 : decode cM_test 96 = .ok (.iconst 0, 1) := by decide +kernel
theorem dM_test_97 : decode cM_test 97 = .ok (.istore_n 1, 1) := by decide +kernel
theorem dM_test_98 : decode cM_test 98 = .ok (.aload_n 0, 1) := by decide +kernel
theorem dM_test_99 : decode cM_test 99 = .ok (.iload_n 1, 1) := by decide +kernel
theorem dM_test_100 : decode cM_test 100 = .ok (.aload_n 0, 1) := by decide +kernel
theorem dM_test_101 : decode cM_test 101 = .ok (.bipush 8, 2) := by decide +kernel
theorem dM_test_103 : decode cM_test 103 = .ok (.invokevirtual 83, 3) := by decide +kernel
theorem dM_test_106 : decode cM_test 106 = .ok (.if_icmp .eq 7, 3) := by decide +kernel
theorem dM_test_109 : decode cM_test 109 = .ok (.iconst 1, 1) := by decide +kernel
theorem dM_test_110 : decode cM_test 110 = .ok (.goto 4, 3) := by decide +kernel
theorem dM_test_113 : decode cM_test 113 = .ok (.iconst 0, 1) := by decide +kernel
theorem dM_test_114 : decode cM_test 114 = .ok (.invokevirtual 79, 3) := by decide +kernel
theorem dM_test_117 : decode cM_test 117 = .ok (.bipush 27, 2) := by decide +kernel
theorem dM_test_119 : decode cM_test 119 = .ok (.ireturn, 1) := by decide +kernel
theorem dM_test_120 : decode cM_test 120 = .ok (.aload_n 0, 1) := by decide +kernel
theorem dM_test_121 : decode cM_test 121 = .ok (.aload_n 0, 1) := by decide +kernel
theorem dM_test_122 : decode cM_test 122 = .ok (.sipush 128, 3) := by decide +kernel
theorem dM_test_125 : decode cM_test 125 = .ok (.invokevirtual 83, 3) := by decide +kernel
theorem dM_test_128 : decode cM_test 128 = .ok (.ifCond .eq 7, 3) := by decide +kernel
theorem dM_test_131 : decode cM_test 131 = .ok (.iconst 0, 1) := by decide +kernel
theorem dM_test_132 : decode cM_test 132 = .ok (.goto 7, 3) := by decide +kernel
theorem dM_test_135 : decode cM_test 135 = .ok (.aload_n 0, 1) := by decide +kernel
theorem dM_test_136 : decode cM_test 136 = .ok (.getfield 30, 3) := by decide +kernel
theorem dM_test_139 : decode cM_test 139 = .ok (.putfield 30, 3) := by decide +kernel
theorem dM_test_142 : decode cM_test 142 = .ok (.aload_n 0, 1) := by decide +kernel
theorem dM_test_143 : decode cM_test 143 = .ok (.bipush 6, 2) := by decide +kernel
theorem dM_test_145 : decode cM_test 145 = .ok (.invokevirtual 83, 3) := by decide +kernel
theorem dM_test_148 : decode cM_test 148 = .ok (.ifCond .eq 8, 3) := by decide +kernel
theorem dM_test_151 : decode cM_test 151 = .ok (.bipush 28, 2) := by decide +kernel
theorem dM_test_153 : decode cM_test 153 = .ok (.goto 4, 3) := by decide +kernel
theorem dM_test_156 : decode cM_test 156 = .ok (.iconst 0, 1) := by decide +kernel
theorem dM_test_157 : decode cM_test 157 = .ok (.ireturn, 1) := by decide +kernel
theorem dM_test_158 : decode cM_test 158 = .ok (.aload_n 0, 1) := by decide +kernel
theorem dM_test_159 : decode cM_test 159 = .ok (.aload_n 0, 1) := by decide +kernel
theorem dM_test_160 : decode cM_test 160 = .ok (.iconst 4, 1) := by decide +kernel
theorem dM_test_161 : decode cM_test 161 = .ok (.invokevirtual 83, 3) := by decide +kernel
theorem dM_test_164 : decode cM_test 164 = .ok (.ifCond .eq 15, 3) := by decide +kernel
theorem dM_test_167 : decode cM_test 167 = .ok (.aload_n 0, 1) := by decide +kernel
theorem dM_test_168 : decode cM_test 168 = .ok (.getfield 30, 3) := by decide +kernel
theorem dM_test_171 : decode cM_test 171 = .ok (.aload_n 0, 1) := by decide +kernel
theorem dM_test_172 : decode cM_test 172 = .ok (.getfield 76, 3) := by decide +kernel
theorem dM_test_175 : decode cM_test 175 = .ok (.ior, 1) := by decide +kernel
theorem dM_test_176 : decode cM_test 176 = .ok (.goto 7, 3) := by decide +kernel
theorem dM_test_179 : decode cM_test 179 = .ok (.aload_n 0, 1) := by decide +kernel
theorem dM_test_180 : decode cM_test 180 = .ok (.getfield 30, 3) := by decide +kernel
theorem dM_test_183 : decode cM_test 183 = .ok (.putfield 30, 3) := by decide +kernel
theorem dM_test_186 : decode cM_test 186 = .ok (.aload_n 0, 1) := by decide +kernel
theorem dM_test_187 : decode cM_test 187 = .ok (.aload_n 0, 1) := by decide +kernel
theorem dM_test_188 : decode cM_test 188 = .ok (.getfield 54, 3) := by decide +kernel
theorem dM_test_191 : decode cM_test 191 = .ok (.ifCond .ne 11, 3) := by decide +kernel
theorem dM_test_194 : decode cM_test 194 = .ok (.aload_n 0, 1) := by decide +kernel
theorem dM_test_195 : decode cM_test 195 = .ok (.iconst 2, 1) := by decide +kernel
theorem dM_test_196 : decode cM_test 196 = .ok (.invokevirtual 83, 3) := by decide +kernel
theorem dM_test_199 : decode cM_test 199 = .ok (.ifCond .eq 7, 3) := by decide +kernel
theorem dM_test_202 : decode cM_test 202 = .ok (.iconst 1, 1) := by decide +kernel
theorem dM_test_203 : decode cM_test 203 = .ok (.goto 4, 3) := by decide +kernel
theorem dM_test_206 : decode cM_test 206 = .ok (.iconst 0, 1) := by decide +kernel
theorem dM_test_207 : decode cM_test 207 = .ok (.putfield 54, 3) := by decide +kernel
theorem dM_test_210 : decode cM_test 210 = .ok (.iconst 0, 1) := by decide +kernel
theorem dM_test_211 : decode cM_test 211 = .ok (.ireturn, 1) := by decide +kernel
theorem dM_test_212 : decode cM_test 212 = .ok (.aload_n 0, 1) := by decide +kernel
theorem dM_test_213 : decode cM_test 213 = .ok (.aload_n 0, 1) := by decide +kernel
theorem dM_test_214 : decode cM_test 214 = .ok (.sipush 128, 3) := by decide +kernel
theorem dM_test_217 : decode cM_test 217 = .ok (.invokevirtual 83, 3) := by decide +kernel
theorem dM_test_220 : decode cM_test 220 = .ok (.ifCond .eq 7, 3) := by decide +kernel
theorem dM_test_223 : decode cM_test 223 = .ok (.iconst 0, 1) := by decide +kernel
theorem dM_test_224 : decode cM_test 224 = .ok (.goto 7, 3) := by decide +kernel
theorem dM_test_227 : decode cM_test 227 = .ok (.aload_n 0, 1) := by decide +kernel
theorem dM_test_228 : decode cM_test 228 = .ok (.getfield 30, 3) := by decide +kernel
theorem dM_test_231 : decode cM_test 231 = .ok (.putfield 30, 3) := by decide +kernel
theorem dM_test_234 : decode cM_test 234 = .ok (.bipush 31, 2) := by decide +kernel
theorem dM_test_236 : decode cM_test 236 = .ok (.ireturn, 1) := by decide +kernel
theorem dM_test_237 : decode cM_test 237 = .ok (.aload_n 0, 1) := by decide +kernel
theorem dM_test_238 : decode cM_test 238 = .ok (.getfield 36, 3) := by decide +kernel
theorem dM_test_241 : decode cM_test 241 = .ok (.istore_n 2, 1) := by decide +kernel
theorem dM_test_242 : decode cM_test 242 = .ok (.aload_n 0, 1) := by decide +kernel
theorem dM_test_243 : decode cM_test 243 = .ok (.aload_n 0, 1) := by decide +kernel
theorem dM_test_244 : decode cM_test 244 = .ok (.bipush 16, 2) := by decide +kernel
theorem dM_test_246 : decode cM_test 246 = .ok (.invokevirtual 83, 3) := by decide +kernel
theorem dM_test_249 : decode cM_test 249 = .ok (.ifCond .eq 10, 3) := by decide +kernel
theorem dM_test_252 : decode cM_test 252 = .ok (.aload_n 0, 1) := by decide +kernel
theorem dM_test_253 : decode cM_test 253 = .ok (.getfield 30, 3) := by decide +kernel
theorem dM_test_256 : decode cM_test 256 = .ok (.goto 7, 3) := by decide +kernel
theorem dM_test_259 : decode cM_test 259 = .ok (.aload_n 0, 1) := by decide +kernel
theorem dM_test_260 : decode cM_test 260 = .ok (.getfield 36, 3) := by decide +kernel
theorem dM_test_263 : decode cM_test 263 = .ok (.putfield 36, 3) := by decide +kernel
theorem dM_test_266 : decode cM_test 266 = .ok (.aload_n 0, 1) := by decide +kernel
theorem dM_test_267 : decode cM_test 267 = .ok (.aload_n 0, 1) := by decide +kernel
theorem dM_test_268 : decode cM_test 268 = .ok (.bipush 16, 2) := by decide +kernel
theorem dM_test_270 : decode cM_test 270 = .ok (.invokevirtual 83, 3) := by decide +kernel
theorem dM_test_273 : decode cM_test 273 = .ok (.ifCond .eq 20, 3) := by decide +kernel
theorem dM_test_276 : decode cM_test 276 = .ok (.aload_n 0, 1) := by decide +kernel
theorem dM_test_277 : decode cM_test 277 = .ok (.bipush 64, 2) := by decide +kernel
theorem dM_test_279 : decode cM_test 279 = .ok (.invokevirtual 83, 3) := by decide +kernel
theorem dM_test_282 : decode cM_test 282 = .ok (.ifCond .eq 7, 3) := by decide +kernel
theorem dM_test_285 : decode cM_test 285 = .ok (.iload_n 2, 1) := by decide +kernel
theorem dM_test_286 : decode cM_test 286 = .ok (.goto 29, 3) := by decide +kernel
theorem dM_test_289 : decode cM_test 289 = .ok (.iconst 0, 1) := by decide +kernel
theorem dM_test_290 : decode cM_test 290 = .ok (.goto 25, 3) := by decide +kernel
theorem dM_test_293 : decode cM_test 293 = .ok (.aload_n 0, 1) := by decide +kernel
theorem dM_test_294 : decode cM_test 294 = .ok (.bipush 64, 2) := by decide +kernel
theorem dM_test_296 : decode cM_test 296 = .ok (.invokevirtual 83, 3) := by decide +kernel
theorem dM_test_299 : decode cM_test 299 = .ok (.ifCond .eq 12, 3) := by decide +kernel
theorem dM_test_302 : decode cM_test 302 = .ok (.aload_n 0, 1) := by decide +kernel
theorem dM_test_303 : decode cM_test 303 = .ok (.getfield 30, 3) := by decide +kernel
theorem dM_test_306 : decode cM_test 306 = .ok (.iload_n 2, 1) := by decide +kernel
theorem dM_test_307 : decode cM_test 307 = .ok (.ior, 1) := by decide +kernel
theorem dM_test_308 : decode cM_test 308 = .ok (.goto 7, 3) := by decide +kernel
theorem dM_test_311 : decode cM_test 311 = .ok (.aload_n 0, 1) := by decide +kernel
theorem dM_test_312 : decode cM_test 312 = .ok (.getfield 30, 3) := by decide +kernel
theorem dM_test_315 : decode cM_test 315 = .ok (.putfield 30, 3) := by decide +kernel
theorem dM_test_318 : decode cM_test 318 = .ok (.iconst 0, 1) := by decide +kernel
theorem dM_test_319 : decode cM_test 319 = .ok (.ireturn, 1) := by decide +kernel
theorem dM_device_0 : decode cM_device 0 = .ok (.aload_n 0, 1) := by decide +kernel
theorem dM_device_1 : decode cM_device 1 = .ok (.getfield 24, 3) := by decide +kernel
theorem dM_device_4 : decode cM_device 4 = .ok (.tableswitch 342 32 40 #[52, 94, 152, 209, 224, 287, 342, 342, 321], 52) := by decide +kernel
theorem dM_device_56 : decode cM_device 56 = .ok (.aload_n 0, 1) := by decide +kernel
theorem dM_device_57 : decode cM_device 57 = .ok (.getfield 45, 3) := by decide +kernel
theorem dM_device_60 : decode cM_device 60 = .ok (.bipush 8, 2) := by decide +kernel
theorem dM_device_62 : decode cM_device 62 = .ok (.idiv, 1) := by decide +kernel
theorem dM_device_63 : decode cM_device 63 = .ok (.bipush 63, 2) := by decide +kernel
theorem dM_device_65 : decode cM_device 65 = .ok (.iand, 1) := by decide +kernel
theorem dM_device_66 : decode cM_device 66 = .ok (.istore_n 1, 1) := by decide +kernel
theorem dM_device_67 : decode cM_device 67 = .ok (.iload_n 1, 1) := by decide +kernel
theorem dM_device_68 : decode cM_device 68 = .ok (.ifCond .ne 8, 3) := by decide +kernel
theorem dM_device_71 : decode cM_device 71 = .ok (.bipush 33, 2) := by decide +kernel
theorem dM_device_73 : decode cM_device 73 = .ok (.goto 24, 3) := by decide +kernel
theorem dM_device_76 : decode cM_device 76 = .ok (.iload_n 1, 1) := by decide +kernel
theorem dM_device_77 : decode cM_device 77 = .ok (.iconst 3, 1) := by decide +kernel
theorem dM_device_78 : decode cM_device 78 = .ok (.if_icmp .ne 8, 3) := by decide +kernel
theorem dM_device_81 : decode cM_device 81 = .ok (.bipush 34, 2) := by decide +kernel
theorem dM_device_83 : decode cM_device 83 = .ok (.goto 14, 3) := by decide +kernel
theorem dM_device_86 : decode cM_device 86 = .ok (.iload_n 1, 1) := by decide +kernel
theorem dM_device_87 : decode cM_device 87 = .ok (.iconst 4, 1) := by decide +kernel
theorem dM_device_88 : decode cM_device 88 = .ok (.if_icmp .ne 8, 3) := by decide +kernel
theorem dM_device_91 : decode cM_device 91 = .ok (.bipush 36, 2) := by decide +kernel
theorem dM_device_93 : decode cM_device 93 = .ok (.goto 4, 3) := by decide +kernel
theorem dM_device_96 : decode cM_device 96 = .ok (.iconst 0, 1) := by decide +kernel
theorem dM_device_97 : decode cM_device 97 = .ok (.ireturn, 1) := by decide +kernel
theorem dM_device_98 : decode cM_device 98 = .ok (.aload_n 0, 1) := by decide +kernel
theorem dM_device_99 : decode cM_device 99 = .ok (.aload_n 0, 1) := by decide +kernel
theorem dM_device_100 : decode cM_device 100 = .ok (.getfield 48, 3) := by decide +kernel
theorem dM_device_103 : decode cM_device 103 = .ok (.ifCond .ne 11, 3) := by decide +kernel
theorem dM_device_106 : decode cM_device 106 = .ok (.aload_n 0, 1) := by decide +kernel
theorem dM_device_107 : decode cM_device 107 = .ok (.iconst 1, 1) := by decide +kernel
theorem dM_device_108 : decode cM_device 108 = .ok (.invokevirtual 83, 3) := by decide +kernel
theorem dM_device_111 : decode cM_device 111 = .ok (.ifCond .eq 15, 3) := by decide +kernel
theorem dM_device_114 : decode cM_device 114 = .ok (.aload_n 0, 1) := by decide +kernel
theorem dM_device_115 : decode cM_device 115 = .ok (.iconst 2, 1) := by decide +kernel
theorem dM_device_116 : decode cM_device 116 = .ok (.invokevirtual 83, 3) := by decide +kernel
theorem dM_device_119 : decode cM_device 119 = .ok (.ifCond .ne 7, 3) := by decide +kernel
theorem dM_device_122 : decode cM_device 122 = .ok (.iconst 1, 1) := by decide +kernel
theorem dM_device_123 : decode cM_device 123 = .ok (.goto 4, 3) := by decide +kernel
theorem dM_device_126 : decode cM_device 126 = .ok (.iconst 0, 1) := by decide +kernel
theorem dM_device_127 : decode cM_device 127 = .ok (.putfield 48, 3) := by decide +kernel
theorem dM_device_130 : decode cM_device 130 = .ok (.aload_n 0, 1) := by decide +kernel
theorem dM_device_131 : decode cM_device 131 = .ok (.aload_n 0, 1) := by decide +kernel
theorem dM_device_132 : decode cM_device 132 = .ok (.getfield 51, 3) := by decide +kernel
theorem dM_device_135 : decode cM_device 135 = .ok (.ifCond .ne 11, 3) := by decide +kernel
theorem dM_device_138 : decode cM_device 138 = .ok (.aload_n 0, 1) := by decide +kernel
theorem dM_device_139 : decode cM_device 139 = .ok (.iconst 1, 1) := by decide +kernel
theorem dM_device_140 : decode cM_device 140 = .ok (.invokevirtual 83, 3) := by decide +kernel
theorem dM_device_143 : decode cM_device 143 = .ok (.ifCond .eq 7, 3) := by decide +kernel
theorem dM_device_146 : decode cM_device 146 = .ok (.iconst 1, 1) := by decide +kernel
theorem dM_device_147 : decode cM_device 147 = .ok (.goto 4, 3) := by decide +kernel
theorem dM_device_150 : decode cM_device 150 = .ok (.iconst 0, 1) := by decide +kernel
theorem dM_device_151 : decode cM_device 151 = .ok (.putfield 51, 3) := by decide +kernel
theorem dM_device_154 : decode cM_device 154 = .ok (.iconst 0, 1) := by decide +kernel
theorem dM_device_155 : decode cM_device 155 = .ok (.ireturn, 1) := by decide +kernel
theorem dM_device_156 : decode cM_device 156 = .ok (.aload_n 0, 1) := by decide +kernel
theorem dM_device_157 : decode cM_device 157 = .ok (.aload_n 0, 1) := by decide +kernel
theorem dM_device_158 : decode cM_device 158 = .ok (.iconst 1, 1) := by decide +kernel
theorem dM_device_159 : decode cM_device 159 = .ok (.invokevirtual 83, 3) := by decide +kernel
theorem dM_device_162 : decode cM_device 162 = .ok (.ifCond .eq 14, 3) := by decide +kernel
theorem dM_device_165 : decode cM_device 165 = .ok (.aload_n 0, 1) := by decide +kernel
theorem dM_device_166 : decode cM_device 166 = .ok (.getfield 57, 3) := by decide +kernel
theorem dM_device_169 : decode cM_device 169 = .ok (.ifCond .eq 7, 3) := by decide +kernel
theorem dM_device_172 : decode cM_device 172 = .ok (.iconst 1, 1) := by decide +kernel
theorem dM_device_173 : decode cM_device 173 = .ok (.goto 4, 3) := by decide +kernel
theorem dM_device_176 : decode cM_device 176 = .ok (.iconst 0, 1) := by decide +kernel
theorem dM_device_177 : decode cM_device 177 = .ok (.invokevirtual 79, 3) := by decide +kernel
theorem dM_device_180 : decode cM_device 180 = .ok (.aload_n 0, 1) := by decide +kernel
theorem dM_device_181 : decode cM_device 181 = .ok (.iconst 2, 1) := by decide +kernel
theorem dM_device_182 : decode cM_device 182 = .ok (.invokevirtual 83, 3) := by decide +kernel
theorem dM_device_185 : decode cM_device 185 = .ok (.ifCond .eq 13, 3) := by decide +kernel
theorem dM_device_188 : decode cM_device 188 = .ok (.aload_n 0, 1) := by decide +kernel
theorem dM_device_189 : decode cM_device 189 = .ok (.iconst 0, 1) := by decide +kernel
theorem dM_device_190 : decode cM_device 190 = .ok (.putfield 57, 3) := by decide +kernel
theorem dM_device_193 : decode cM_device 193 = .ok (.aload_n 0, 1) := by decide +kernel
theorem dM_device_194 : decode cM_device 194 = .ok (.iconst 0, 1) := by decide +kernel
theorem dM_device_195 : decode cM_device 195 = .ok (.putfield 30, 3) := by decide +kernel
theorem dM_device_198 : decode cM_device 198 = .ok (.aload_n 0, 1) := by decide +kernel
theorem dM_device_199 : decode cM_device 199 = .ok (.iconst 4, 1) := by decide +kernel
theorem dM_device_200 : decode cM_device 200 = .ok (.invokevirtual 83, 3) := by decide +kernel
theorem dM_device_203 : decode cM_device 203 = .ok (.ifCond .eq 8, 3) := by decide +kernel
theorem dM_device_206 : decode cM_device 206 = .ok (.bipush 35, 2) := by decide +kernel
theorem dM_device_208 : decode cM_device 208 = .ok (.goto 4, 3) := by decide +kernel
theorem dM_device_211 : decode cM_device 211 = .ok (.iconst 0, 1) := by decide +kernel
theorem dM_device_212 : decode cM_device 212 = .ok (.ireturn, 1) := by decide +kernel
theorem dM_device_213 : decode cM_device 213 = .ok (.aload_n 0, 1) := by decide +kernel
theorem dM_device_214 : decode cM_device 214 = .ok (.aload_n 0, 1) := by decide +kernel
theorem dM_device_215 : decode cM_device 215 = .ok (.getfield 30, 3) := by decide +kernel
theorem dM_device_218 : decode cM_device 218 = .ok (.aload_n 0, 1) := by decide +kernel
theorem dM_device_219 : decode cM_device 219 = .ok (.getfield 63, 3) := by decide +kernel
theorem dM_device_222 : decode cM_device 222 = .ok (.ior, 1) := by decide +kernel
theorem dM_device_223 : decode cM_device 223 = .ok (.putfield 30, 3) := by decide +kernel
theorem dM_device_226 : decode cM_device 226 = .ok (.iconst 0, 1) := by decide +kernel
theorem dM_device_227 : decode cM_device 227 = .ok (.ireturn, 1) := by decide +kernel
theorem dM_device_228 : decode cM_device 228 = .ok (.aload_n 0, 1) := by decide +kernel
theorem dM_device_229 : decode cM_device 229 = .ok (.aload_n 0, 1) := by decide +kernel
theorem dM_device_230 : decode cM_device 230 = .ok (.iconst 1, 1) := by decide +kernel
theorem dM_device_231 : decode cM_device 231 = .ok (.invokevirtual 83, 3) := by decide +kernel
theorem dM_device_234 : decode cM_device 234 = .ok (.ifCond .eq 14, 3) := by decide +kernel
theorem dM_device_237 : decode cM_device 237 = .ok (.aload_n 0, 1) := by decide +kernel
theorem dM_device_238 : decode cM_device 238 = .ok (.getfield 60, 3) := by decide +kernel
theorem dM_device_241 : decode cM_device 241 = .ok (.ifCond .eq 7, 3) := by decide +kernel
theorem dM_device_244 : decode cM_device 244 = .ok (.iconst 1, 1) := by decide +kernel
theorem dM_device_245 : decode cM_device 245 = .ok (.goto 4, 3) := by decide +kernel
theorem dM_device_248 : decode cM_device 248 = .ok (.iconst 0, 1) := by decide +kernel
theorem dM_device_249 : decode cM_device 249 = .ok (.invokevirtual 79, 3) := by decide +kernel
theorem dM_device_252 : decode cM_device 252 = .ok (.aload_n 0, 1) := by decide +kernel
theorem dM_device_253 : decode cM_device 253 = .ok (.aload_n 0, 1) := by decide +kernel
theorem dM_device_254 : decode cM_device 254 = .ok (.getfield 60, 3) := by decide +kernel
theorem dM_device_257 : decode cM_device 257 = .ok (.ifCond .eq 15, 3) := by decide +kernel
theorem dM_device_260 : decode cM_device 260 = .ok (.aload_n 0, 1) := by decide +kernel
theorem dM_device_261 : decode cM_device 261 = .ok (.iconst 2, 1) := by decide +kernel
theorem dM_device_262 : decode cM_device 262 = .ok (.invokevirtual 83, 3) := by decide +kernel
theorem dM_device_265 : decode cM_device 265 = .ok (.ifCond .ne 7, 3) := by decide +kernel
theorem dM_device_268 : decode cM_device 268 = .ok (.iconst 1, 1) := by decide +kernel
theorem dM_device_269 : decode cM_device 269 = .ok (.goto 4, 3) := by decide +kernel
theorem dM_device_272 : decode cM_device 272 = .ok (.iconst 0, 1) := by decide +kernel
theorem dM_device_273 : decode cM_device 273 = .ok (.putfield 60, 3) := by decide +kernel
theorem dM_device_276 : decode cM_device 276 = .ok (.aload_n 0, 1) := by decide +kernel
theorem dM_device_277 : decode cM_device 277 = .ok (.iconst 4, 1) := by decide +kernel
theorem dM_device_278 : decode cM_device 278 = .ok (.invokevirtual 83, 3) := by decide +kernel
theorem dM_device_281 : decode cM_device 281 = .ok (.ifCond .eq 8, 3) := by decide +kernel
theorem dM_device_284 : decode cM_device 284 = .ok (.bipush 37, 2) := by decide +kernel
theorem dM_device_286 : decode cM_device 286 = .ok (.goto 4, 3) := by decide +kernel
theorem dM_device_289 : decode cM_device 289 = .ok (.iconst 0, 1) := by decide +kernel
theorem dM_device_290 : decode cM_device 290 = .ok (.ireturn, 1) := by decide +kernel
theorem dM_device_291 : decode cM_device 291 = .ok (.aload_n 0, 1) := by decide +kernel
theorem dM_device_292 : decode cM_device 292 = .ok (.getfield 13, 3) := by decide +kernel
theorem dM_device_295 : decode cM_device 295 = .ok (.aload_n 0, 1) := by decide +kernel
theorem dM_device_296 : decode cM_device 296 = .ok (.getfield 66, 3) := by decide +kernel
theorem dM_device_299 : decode cM_device 299 = .ok (.aload_n 0, 1) := by decide +kernel
theorem dM_device_300 : decode cM_device 300 = .ok (.getfield 30, 3) := by decide +kernel
theorem dM_device_303 : decode cM_device 303 = .ok (.sipush 255, 3) := by decide +kernel
theorem dM_device_306 : decode cM_device 306 = .ok (.iand, 1) := by decide +kernel
theorem dM_device_307 : decode cM_device 307 = .ok (.iastore, 1) := by decide +kernel
theorem dM_device_308 : decode cM_device 308 = .ok (.aload_n 0, 1) := by decide +kernel
theorem dM_device_309 : decode cM_device 309 = .ok (.dup, 1) := by decide +kernel
theorem dM_device_310 : decode cM_device 310 = .ok (.getfield 66, 3) := by decide +kernel
theorem dM_device_313 : decode cM_device 313 = .ok (.iconst 1, 1) := by decide +kernel
theorem dM_device_314 : decode cM_device 314 = .ok (.iadd, 1) := by decide +kernel
theorem dM_device_315 : decode cM_device 315 = .ok (.putfield 66, 3) := by decide +kernel
theorem dM_device_318 : decode cM_device 318 = .ok (.aload_n 0, 1) := by decide +kernel
theorem dM_device_319 : decode cM_device 319 = .ok (.iconst 1, 1) := by decide +kernel
theorem dM_device_320 : decode cM_device 320 = .ok (.putfield 60, 3) := by decide +kernel
theorem dM_device_323 : decode cM_device 323 = .ok (.iconst 0, 1) := by decide +kernel
theorem dM_device_324 : decode cM_device 324 = .ok (.ireturn, 1) := by decide +kernel
theorem dM_device_325 : decode cM_device 325 = .ok (.aload_n 0, 1) := by decide +kernel
theorem dM_device_326 : decode cM_device 326 = .ok (.aload_n 0, 1) := by decide +kernel
theorem dM_device_327 : decode cM_device 327 = .ok (.getfield 27, 3) := by decide +kernel
theorem dM_device_330 : decode cM_device 330 = .ok (.putfield 42, 3) := by decide +kernel
theorem dM_device_333 : decode cM_device 333 = .ok (.aload_n 0, 1) := by decide +kernel
theorem dM_device_334 : decode cM_device 334 = .ok (.iconst 0, 1) := by decide +kernel
theorem dM_device_335 : decode cM_device 335 = .ok (.putfield 39, 3) := by decide +kernel
theorem dM_device_338 : decode cM_device 338 = .ok (.aload_n 0, 1) := by decide +kernel
theorem dM_device_339 : decode cM_device 339 = .ok (.iconst 0, 1) := by decide +kernel
theorem dM_device_340 : decode cM_device 340 = .ok (.putfield 48, 3) := by decide +kernel
theorem dM_device_343 : decode cM_device 343 = .ok (.bipush 41, 2) := by decide +kernel
theorem dM_device_345 : decode cM_device 345 = .ok (.ireturn, 1) := by decide +kernel
theorem dM_device_346 : decode cM_device 346 = .ok (.aload_n 0, 1) := by decide +kernel
theorem dM_device_347 : decode cM_device 347 = .ok (.getfield 7, 3) := by decide +kernel
theorem dM_device_350 : decode cM_device 350 = .ok (.aload_n 0, 1) := by decide +kernel
theorem dM_device_351 : decode cM_device 351 = .ok (.getfield 39, 3) := by decide +kernel
theorem dM_device_354 : decode cM_device 354 = .ok (.aload_n 0, 1) := by decide +kernel
theorem dM_device_355 : decode cM_device 355 = .ok (.getfield 42, 3) := by decide +kernel
theorem dM_device_358 : decode cM_device 358 = .ok (.iastore, 1) := by decide +kernel
theorem dM_device_359 : decode cM_device 359 = .ok (.aload_n 0, 1) := by decide +kernel
theorem dM_device_360 : decode cM_device 360 = .ok (.aload_n 0, 1) := by decide +kernel
theorem dM_device_361 : decode cM_device 361 = .ok (.getfield 39, 3) := by decide +kernel
theorem dM_device_364 : decode cM_device 364 = .ok (.iconst 1, 1) := by decide +kernel
theorem dM_device_365 : decode cM_device 365 = .ok (.iadd, 1) := by decide +kernel
theorem dM_device_366 : decode cM_device 366 = .ok (.sipush 4095, 3) := by decide +kernel
theorem dM_device_369 : decode cM_device 369 = .ok (.iand, 1) := by decide +kernel
theorem dM_device_370 : decode cM_device 370 = .ok (.putfield 27, 3) := by decide +kernel
theorem dM_device_373 : decode cM_device 373 = .ok (.iconst 0, 1) := by decide +kernel
theorem dM_device_374 : decode cM_device 374 = .ok (.ireturn, 1) := by decide +kernel
theorem dM_microStep_0 : decode cM_microStep 0 = .ok (.aload_n 0, 1) := by decide +kernel
theorem dM_microStep_1 : decode cM_microStep 1 = .ok (.getfield 20, 3) := by decide +kernel
theorem dM_microStep_4 : decode cM_microStep 4 = .ok (.ifCond .ne 5, 3) := by decide +kernel
theorem dM_microStep_7 : decode cM_microStep 7 = .ok (.iconst 3, 1) := by decide +kernel
theorem dM_microStep_8 : decode cM_microStep 8 = .ok (.ireturn, 1) := by decide +kernel
theorem dM_microStep_9 : decode cM_microStep 9 = .ok (.aload_n 0, 1) := by decide +kernel
theorem dM_microStep_10 : decode cM_microStep 10 = .ok (.getfield 24, 3) := by decide +kernel
theorem dM_microStep_13 : decode cM_microStep 13 = .ok (.ifCond .ne 12, 3) := by decide +kernel
theorem dM_microStep_16 : decode cM_microStep 16 = .ok (.aload_n 0, 1) := by decide +kernel
theorem dM_microStep_17 : decode cM_microStep 17 = .ok (.getfield 54, 3) := by decide +kernel
theorem dM_microStep_20 : decode cM_microStep 20 = .ok (.ifCond .eq 5, 3) := by decide +kernel
theorem dM_microStep_23 : decode cM_microStep 23 = .ok (.iconst 2, 1) := by decide +kernel
theorem dM_microStep_24 : decode cM_microStep 24 = .ok (.ireturn, 1) := by decide +kernel
theorem dM_microStep_25 : decode cM_microStep 25 = .ok (.aload_n 0, 1) := by decide +kernel
theorem dM_microStep_26 : decode cM_microStep 26 = .ok (.getfield 24, 3) := by decide +kernel
theorem dM_microStep_29 : decode cM_microStep 29 = .ok (.bipush 37, 2) := by decide +kernel
theorem dM_microStep_31 : decode cM_microStep 31 = .ok (.if_icmp .ne 16, 3) := by decide +kernel
theorem dM_microStep_34 : decode cM_microStep 34 = .ok (.aload_n 0, 1) := by decide +kernel
theorem dM_microStep_35 : decode cM_microStep 35 = .ok (.getfield 66, 3) := by decide +kernel
theorem dM_microStep_38 : decode cM_microStep 38 = .ok (.aload_n 0, 1) := by decide +kernel
theorem dM_microStep_39 : decode cM_microStep 39 = .ok (.getfield 16, 3) := by decide +kernel
theorem dM_microStep_42 : decode cM_microStep 42 = .ok (.if_icmp .ne 5, 3) := by decide +kernel
theorem dM_microStep_45 : decode cM_microStep 45 = .ok (.iconst 4, 1) := by decide +kernel
theorem dM_microStep_46 : decode cM_microStep 46 = .ok (.ireturn, 1) := by decide +kernel
theorem dM_microStep_47 : decode cM_microStep 47 = .ok (.aload_n 0, 1) := by decide +kernel
theorem dM_microStep_48 : decode cM_microStep 48 = .ok (.aload_n 0, 1) := by decide +kernel
theorem dM_microStep_49 : decode cM_microStep 49 = .ok (.getfield 24, 3) := by decide +kernel
theorem dM_microStep_52 : decode cM_microStep 52 = .ok (.bipush 8, 2) := by decide +kernel
theorem dM_microStep_54 : decode cM_microStep 54 = .ok (.if_icmp .ge 10, 3) := by decide +kernel
theorem dM_microStep_57 : decode cM_microStep 57 = .ok (.aload_n 0, 1) := by decide +kernel
theorem dM_microStep_58 : decode cM_microStep 58 = .ok (.invokevirtual 93, 3) := by decide +kernel
theorem dM_microStep_61 : decode cM_microStep 61 = .ok (.goto 55, 3) := by decide +kernel
theorem dM_microStep_64 : decode cM_microStep 64 = .ok (.aload_n 0, 1) := by decide +kernel
theorem dM_microStep_65 : decode cM_microStep 65 = .ok (.getfield 24, 3) := by decide +kernel
theorem dM_microStep_68 : decode cM_microStep 68 = .ok (.bipush 20, 2) := by decide +kernel
theorem dM_microStep_70 : decode cM_microStep 70 = .ok (.if_icmp .ge 10, 3) := by decide +kernel
theorem dM_microStep_73 : decode cM_microStep 73 = .ok (.aload_n 0, 1) := by decide +kernel
theorem dM_microStep_74 : decode cM_microStep 74 = .ok (.invokevirtual 97, 3) := by decide +kernel
theorem dM_microStep_77 : decode cM_microStep 77 = .ok (.goto 39, 3) := by decide +kernel
theorem dM_microStep_80 : decode cM_microStep 80 = .ok (.aload_n 0, 1) := by decide +kernel
theorem dM_microStep_81 : decode cM_microStep 81 = .ok (.getfield 24, 3) := by decide +kernel
theorem dM_microStep_84 : decode cM_microStep 84 = .ok (.bipush 26, 2) := by decide +kernel
theorem dM_microStep_86 : decode cM_microStep 86 = .ok (.if_icmp .ge 10, 3) := by decide +kernel
theorem dM_microStep_89 : decode cM_microStep 89 = .ok (.aload_n 0, 1) := by decide +kernel
theorem dM_microStep_90 : decode cM_microStep 90 = .ok (.invokevirtual 100, 3) := by decide +kernel
theorem dM_microStep_93 : decode cM_microStep 93 = .ok (.goto 23, 3) := by decide +kernel
theorem dM_microStep_96 : decode cM_microStep 96 = .ok (.aload_n 0, 1) := by decide +kernel
theorem dM_microStep_97 : decode cM_microStep 97 = .ok (.getfield 24, 3) := by decide +kernel
theorem dM_microStep_100 : decode cM_microStep 100 = .ok (.bipush 32, 2) := by decide +kernel
theorem dM_microStep_102 : decode cM_microStep 102 = .ok (.if_icmp .ge 10, 3) := by decide +kernel
theorem dM_microStep_105 : decode cM_microStep 105 = .ok (.aload_n 0, 1) := by decide +kernel
theorem dM_microStep_106 : decode cM_microStep 106 = .ok (.invokevirtual 103, 3) := by decide +kernel
theorem dM_microStep_109 : decode cM_microStep 109 = .ok (.goto 7, 3) := by decide +kernel
theorem dM_microStep_112 : decode cM_microStep 112 = .ok (.aload_n 0, 1) := by decide +kernel
theorem dM_microStep_113 : decode cM_microStep 113 = .ok (.invokevirtual 106, 3) := by decide +kernel
theorem dM_microStep_116 : decode cM_microStep 116 = .ok (.putfield 24, 3) := by decide +kernel
theorem dM_microStep_119 : decode cM_microStep 119 = .ok (.aload_n 0, 1) := by decide +kernel
theorem dM_microStep_120 : decode cM_microStep 120 = .ok (.dup, 1) := by decide +kernel
theorem dM_microStep_121 : decode cM_microStep 121 = .ok (.getfield 69, 3) := by decide +kernel
theorem dM_microStep_124 : decode cM_microStep 124 = .ok (.iconst 1, 1) := by decide +kernel
theorem dM_microStep_125 : decode cM_microStep 125 = .ok (.iadd, 1) := by decide +kernel
theorem dM_microStep_126 : decode cM_microStep 126 = .ok (.putfield 69, 3) := by decide +kernel
theorem dM_microStep_129 : decode cM_microStep 129 = .ok (.aload_n 0, 1) := by decide +kernel
theorem dM_microStep_130 : decode cM_microStep 130 = .ok (.getfield 24, 3) := by decide +kernel
theorem dM_microStep_133 : decode cM_microStep 133 = .ok (.ifCond .ne 7, 3) := by decide +kernel
theorem dM_microStep_136 : decode cM_microStep 136 = .ok (.iconst 1, 1) := by decide +kernel
theorem dM_microStep_137 : decode cM_microStep 137 = .ok (.goto 4, 3) := by decide +kernel
theorem dM_microStep_140 : decode cM_microStep 140 = .ok (.iconst 0, 1) := by decide +kernel
theorem dM_microStep_141 : decode cM_microStep 141 = .ok (.ireturn, 1) := by decide +kernel
theorem dM_step_0 : decode cM_step 0 = .ok (.iconst 0, 1) := by decide +kernel
theorem dM_step_1 : decode cM_step 1 = .ok (.istore_n 1, 1) := by decide +kernel
theorem dM_step_2 : decode cM_step 2 = .ok (.iload_n 1, 1) := by decide +kernel
theorem dM_step_3 : decode cM_step 3 = .ok (.bipush 20, 2) := by decide +kernel
theorem dM_step_5 : decode cM_step 5 = .ok (.if_icmp .ge 29, 3) := by decide +kernel
theorem dM_step_8 : decode cM_step 8 = .ok (.aload_n 0, 1) := by decide +kernel
theorem dM_step_9 : decode cM_step 9 = .ok (.invokevirtual 109, 3) := by decide +kernel
theorem dM_step_12 : decode cM_step 12 = .ok (.istore_n 2, 1) := by decide +kernel
theorem dM_step_13 : decode cM_step 13 = .ok (.iload_n 2, 1) := by decide +kernel
theorem dM_step_14 : decode cM_step 14 = .ok (.ifCond .eq 14, 3) := by decide +kernel
theorem dM_step_17 : decode cM_step 17 = .ok (.iload_n 2, 1) := by decide +kernel
theorem dM_step_18 : decode cM_step 18 = .ok (.iconst 1, 1) := by decide +kernel
theorem dM_step_19 : decode cM_step 19 = .ok (.if_icmp .ne 7, 3) := by decide +kernel
theorem dM_step_22 : decode cM_step 22 = .ok (.iconst 0, 1) := by decide +kernel
theorem dM_step_23 : decode cM_step 23 = .ok (.goto 4, 3) := by decide +kernel
theorem dM_step_26 : decode cM_step 26 = .ok (.iload_n 2, 1) := by decide +kernel
theorem dM_step_27 : decode cM_step 27 = .ok (.ireturn, 1) := by decide +kernel
theorem dM_step_28 : decode cM_step 28 = .ok (.iinc 1 1, 3) := by decide +kernel
theorem dM_step_31 : decode cM_step 31 = .ok (.goto (-29), 3) := by decide +kernel
theorem dM_step_34 : decode cM_step 34 = .ok (.iconst 0, 1) := by decide +kernel
theorem dM_step_35 : decode cM_step 35 = .ok (.ireturn, 1) := by decide +kernel
theorem dM_run_0 : decode cM_run 0 = .ok (.iload_n 1, 1) := by decide +kernel
theorem dM_run_1 : decode cM_run 1 = .ok (.ifCond .lt 10, 3) := by decide +kernel
theorem dM_run_4 : decode cM_run 4 = .ok (.iload_n 1, 1) := by decide +kernel
theorem dM_run_5 : decode cM_run 5 = .ok (.sipush 500, 3) := by decide +kernel
theorem dM_run_8 : decode cM_run 8 = .ok (.if_icmp .le 5, 3) := by decide +kernel
theorem dM_run_11 : decode cM_run 11 = .ok (.iconst (-1), 1) := by decide +kernel
theorem dM_run_12 : decode cM_run 12 = .ok (.ireturn, 1) := by decide +kernel
theorem dM_run_13 : decode cM_run 13 = .ok (.iconst 0, 1) := by decide +kernel
theorem dM_run_14 : decode cM_run 14 = .ok (.istore_n 2, 1) := by decide +kernel
theorem dM_run_15 : decode cM_run 15 = .ok (.iconst 0, 1) := by decide +kernel
theorem dM_run_16 : decode cM_run 16 = .ok (.istore_n 3, 1) := by decide +kernel
theorem dM_run_17 : decode cM_run 17 = .ok (.iload_n 3, 1) := by decide +kernel
theorem dM_run_18 : decode cM_run 18 = .ok (.iload_n 1, 1) := by decide +kernel
theorem dM_run_19 : decode cM_run 19 = .ok (.if_icmp .ge 21, 3) := by decide +kernel
theorem dM_run_22 : decode cM_run 22 = .ok (.aload_n 0, 1) := by decide +kernel
theorem dM_run_23 : decode cM_run 23 = .ok (.invokevirtual 112, 3) := by decide +kernel
theorem dM_run_26 : decode cM_run 26 = .ok (.ifCond .eq 5, 3) := by decide +kernel
theorem dM_run_29 : decode cM_run 29 = .ok (.iload_n 2, 1) := by decide +kernel
theorem dM_run_30 : decode cM_run 30 = .ok (.ireturn, 1) := by decide +kernel
theorem dM_run_31 : decode cM_run 31 = .ok (.iinc 2 1, 3) := by decide +kernel
theorem dM_run_34 : decode cM_run 34 = .ok (.iinc 3 1, 3) := by decide +kernel
theorem dM_run_37 : decode cM_run 37 = .ok (.goto (-20), 3) := by decide +kernel
theorem dM_run_40 : decode cM_run 40 = .ok (.iload_n 2, 1) := by decide +kernel
theorem dM_run_41 : decode cM_run 41 = .ok (.ireturn, 1) := by decide +kernel
theorem dM_flags_0 : decode cM_flags 0 = .ok (.aload_n 0, 1) := by decide +kernel
theorem dM_flags_1 : decode cM_flags 1 = .ok (.getfield 48, 3) := by decide +kernel
theorem dM_flags_4 : decode cM_flags 4 = .ok (.ifCond .eq 7, 3) := by decide +kernel
theorem dM_flags_7 : decode cM_flags 7 = .ok (.iconst 1, 1) := by decide +kernel
theorem dM_flags_8 : decode cM_flags 8 = .ok (.goto 4, 3) := by decide +kernel
theorem dM_flags_11 : decode cM_flags 11 = .ok (.iconst 0, 1) := by decide +kernel
theorem dM_flags_12 : decode cM_flags 12 = .ok (.aload_n 0, 1) := by decide +kernel
theorem dM_flags_13 : decode cM_flags 13 = .ok (.getfield 51, 3) := by decide +kernel
theorem dM_flags_16 : decode cM_flags 16 = .ok (.ifCond .eq 7, 3) := by decide +kernel
theorem dM_flags_19 : decode cM_flags 19 = .ok (.iconst 2, 1) := by decide +kernel
theorem dM_flags_20 : decode cM_flags 20 = .ok (.goto 4, 3) := by decide +kernel
theorem dM_flags_23 : decode cM_flags 23 = .ok (.iconst 0, 1) := by decide +kernel
theorem dM_flags_24 : decode cM_flags 24 = .ok (.iadd, 1) := by decide +kernel
theorem dM_flags_25 : decode cM_flags 25 = .ok (.aload_n 0, 1) := by decide +kernel
theorem dM_flags_26 : decode cM_flags 26 = .ok (.getfield 54, 3) := by decide +kernel
theorem dM_flags_29 : decode cM_flags 29 = .ok (.ifCond .eq 7, 3) := by decide +kernel
theorem dM_flags_32 : decode cM_flags 32 = .ok (.iconst 4, 1) := by decide +kernel
theorem dM_flags_33 : decode cM_flags 33 = .ok (.goto 4, 3) := by decide +kernel
theorem dM_flags_36 : decode cM_flags 36 = .ok (.iconst 0, 1) := by decide +kernel
theorem dM_flags_37 : decode cM_flags 37 = .ok (.iadd, 1) := by decide +kernel
theorem dM_flags_38 : decode cM_flags 38 = .ok (.aload_n 0, 1) := by decide +kernel
theorem dM_flags_39 : decode cM_flags 39 = .ok (.getfield 57, 3) := by decide +kernel
theorem dM_flags_42 : decode cM_flags 42 = .ok (.ifCond .eq 8, 3) := by decide +kernel
theorem dM_flags_45 : decode cM_flags 45 = .ok (.bipush 8, 2) := by decide +kernel
theorem dM_flags_47 : decode cM_flags 47 = .ok (.goto 4, 3) := by decide +kernel
theorem dM_flags_50 : decode cM_flags 50 = .ok (.iconst 0, 1) := by decide +kernel
theorem dM_flags_51 : decode cM_flags 51 = .ok (.iadd, 1) := by decide +kernel
theorem dM_flags_52 : decode cM_flags 52 = .ok (.aload_n 0, 1) := by decide +kernel
theorem dM_flags_53 : decode cM_flags 53 = .ok (.getfield 60, 3) := by decide +kernel
theorem dM_flags_56 : decode cM_flags 56 = .ok (.ifCond .eq 8, 3) := by decide +kernel
theorem dM_flags_59 : decode cM_flags 59 = .ok (.bipush 16, 2) := by decide +kernel
theorem dM_flags_61 : decode cM_flags 61 = .ok (.goto 4, 3) := by decide +kernel
theorem dM_flags_64 : decode cM_flags 64 = .ok (.iconst 0, 1) := by decide +kernel
theorem dM_flags_65 : decode cM_flags 65 = .ok (.iadd, 1) := by decide +kernel
theorem dM_flags_66 : decode cM_flags 66 = .ok (.ireturn, 1) := by decide +kernel
theorem dM_look_0 : decode cM_look 0 = .ok (.iload_n 1, 1) := by decide +kernel
theorem dM_look_1 : decode cM_look 1 = .ok (.tableswitch 114 0 10 #[59, 64, 69, 74, 79, 84, 89, 94, 99, 104, 109], 59) := by decide +kernel
theorem dM_look_60 : decode cM_look 60 = .ok (.aload_n 0, 1) := by decide +kernel
theorem dM_look_61 : decode cM_look 61 = .ok (.getfield 27, 3) := by decide +kernel
theorem dM_look_64 : decode cM_look 64 = .ok (.ireturn, 1) := by decide +kernel
theorem dM_look_65 : decode cM_look 65 = .ok (.aload_n 0, 1) := by decide +kernel
theorem dM_look_66 : decode cM_look 66 = .ok (.getfield 30, 3) := by decide +kernel
theorem dM_look_69 : decode cM_look 69 = .ok (.ireturn, 1) := by decide +kernel
theorem dM_look_70 : decode cM_look 70 = .ok (.aload_n 0, 1) := by decide +kernel
theorem dM_look_71 : decode cM_look 71 = .ok (.getfield 33, 3) := by decide +kernel
theorem dM_look_74 : decode cM_look 74 = .ok (.ireturn, 1) := by decide +kernel
theorem dM_look_75 : decode cM_look 75 = .ok (.aload_n 0, 1) := by decide +kernel
theorem dM_look_76 : decode cM_look 76 = .ok (.getfield 36, 3) := by decide +kernel
theorem dM_look_79 : decode cM_look 79 = .ok (.ireturn, 1) := by decide +kernel
theorem dM_look_80 : decode cM_look 80 = .ok (.aload_n 0, 1) := by decide +kernel
theorem dM_look_81 : decode cM_look 81 = .ok (.getfield 39, 3) := by decide +kernel
theorem dM_look_84 : decode cM_look 84 = .ok (.ireturn, 1) := by decide +kernel
theorem dM_look_85 : decode cM_look 85 = .ok (.aload_n 0, 1) := by decide +kernel
theorem dM_look_86 : decode cM_look 86 = .ok (.getfield 42, 3) := by decide +kernel
theorem dM_look_89 : decode cM_look 89 = .ok (.ireturn, 1) := by decide +kernel
theorem dM_look_90 : decode cM_look 90 = .ok (.aload_n 0, 1) := by decide +kernel
theorem dM_look_91 : decode cM_look 91 = .ok (.getfield 45, 3) := by decide +kernel
theorem dM_look_94 : decode cM_look 94 = .ok (.ireturn, 1) := by decide +kernel
theorem dM_look_95 : decode cM_look 95 = .ok (.aload_n 0, 1) := by decide +kernel
theorem dM_look_96 : decode cM_look 96 = .ok (.getfield 24, 3) := by decide +kernel
theorem dM_look_99 : decode cM_look 99 = .ok (.ireturn, 1) := by decide +kernel
theorem dM_look_100 : decode cM_look 100 = .ok (.aload_n 0, 1) := by decide +kernel
theorem dM_look_101 : decode cM_look 101 = .ok (.invokevirtual 115, 3) := by decide +kernel
theorem dM_look_104 : decode cM_look 104 = .ok (.ireturn, 1) := by decide +kernel
theorem dM_look_105 : decode cM_look 105 = .ok (.aload_n 0, 1) := by decide +kernel
theorem dM_look_106 : decode cM_look 106 = .ok (.getfield 63, 3) := by decide +kernel
theorem dM_look_109 : decode cM_look 109 = .ok (.ireturn, 1) := by decide +kernel
theorem dM_look_110 : decode cM_look 110 = .ok (.aload_n 0, 1) := by decide +kernel
theorem dM_look_111 : decode cM_look 111 = .ok (.getfield 69, 3) := by decide +kernel
theorem dM_look_114 : decode cM_look 114 = .ok (.ireturn, 1) := by decide +kernel
theorem dM_look_115 : decode cM_look 115 = .ok (.iconst (-1), 1) := by decide +kernel
theorem dM_look_116 : decode cM_look 116 = .ok (.ireturn, 1) := by decide +kernel
theorem dM_printed_0 : decode cM_printed 0 = .ok (.iload_n 1, 1) := by decide +kernel
theorem dM_printed_1 : decode cM_printed 1 = .ok (.iconst (-1), 1) := by decide +kernel
theorem dM_printed_2 : decode cM_printed 2 = .ok (.if_icmp .ne 10, 3) := by decide +kernel
theorem dM_printed_5 : decode cM_printed 5 = .ok (.aload_n 0, 1) := by decide +kernel
theorem dM_printed_6 : decode cM_printed 6 = .ok (.getfield 66, 3) := by decide +kernel
theorem dM_printed_9 : decode cM_printed 9 = .ok (.goto 25, 3) := by decide +kernel
theorem dM_printed_12 : decode cM_printed 12 = .ok (.iload_n 1, 1) := by decide +kernel
theorem dM_printed_13 : decode cM_printed 13 = .ok (.ifCond .lt 11, 3) := by decide +kernel
theorem dM_printed_16 : decode cM_printed 16 = .ok (.iload_n 1, 1) := by decide +kernel
theorem dM_printed_17 : decode cM_printed 17 = .ok (.aload_n 0, 1) := by decide +kernel
theorem dM_printed_18 : decode cM_printed 18 = .ok (.getfield 66, 3) := by decide +kernel
theorem dM_printed_21 : decode cM_printed 21 = .ok (.if_icmp .lt 7, 3) := by decide +kernel
theorem dM_printed_24 : decode cM_printed 24 = .ok (.iconst (-1), 1) := by decide +kernel
theorem dM_printed_25 : decode cM_printed 25 = .ok (.goto 9, 3) := by decide +kernel
theorem dM_printed_28 : decode cM_printed 28 = .ok (.aload_n 0, 1) := by decide +kernel
theorem dM_printed_29 : decode cM_printed 29 = .ok (.getfield 13, 3) := by decide +kernel
theorem dM_printed_32 : decode cM_printed 32 = .ok (.iload_n 1, 1) := by decide +kernel
theorem dM_printed_33 : decode cM_printed 33 = .ok (.iaload, 1) := by decide +kernel
theorem dM_printed_34 : decode cM_printed 34 = .ok (.ireturn, 1) := by decide +kernel
theorem dL_cell_0 : decode cL_cell 0 = .ok (.iload_n 1, 1) := by decide +kernel
theorem dL_cell_1 : decode cL_cell 1 = .ok (.aload_n 0, 1) := by decide +kernel
theorem dL_cell_2 : decode cL_cell 2 = .ok (.arraylength, 1) := by decide +kernel
theorem dL_cell_3 : decode cL_cell 3 = .ok (.if_icmp .ge 9, 3) := by decide +kernel
theorem dL_cell_6 : decode cL_cell 6 = .ok (.aload_n 0, 1) := by decide +kernel
theorem dL_cell_7 : decode cL_cell 7 = .ok (.iload_n 1, 1) := by decide +kernel
theorem dL_cell_8 : decode cL_cell 8 = .ok (.iaload, 1) := by decide +kernel
theorem dL_cell_9 : decode cL_cell 9 = .ok (.goto 4, 3) := by decide +kernel
theorem dL_cell_12 : decode cL_cell 12 = .ok (.iconst 0, 1) := by decide +kernel
theorem dL_cell_13 : decode cL_cell 13 = .ok (.ireturn, 1) := by decide +kernel
theorem dL_law_0 : decode cL_law 0 = .ok (.new 7, 3) := by decide +kernel
theorem dL_law_3 : decode cL_law 3 = .ok (.dup, 1) := by decide +kernel
theorem dL_law_4 : decode cL_law 4 = .ok (.aload_n 0, 1) := by decide +kernel
theorem dL_law_5 : decode cL_law 5 = .ok (.iconst 0, 1) := by decide +kernel
theorem dL_law_6 : decode cL_law 6 = .ok (.invokestatic 9, 3) := by decide +kernel
theorem dL_law_9 : decode cL_law 9 = .ok (.invokespecial 15, 3) := by decide +kernel
theorem dL_law_12 : decode cL_law 12 = .ok (.astore_n 1, 1) := by decide +kernel
theorem dL_law_13 : decode cL_law 13 = .ok (.new 18, 3) := by decide +kernel
theorem dL_law_16 : decode cL_law 16 = .ok (.dup, 1) := by decide +kernel
theorem dL_law_17 : decode cL_law 17 = .ok (.aload_n 0, 1) := by decide +kernel
theorem dL_law_18 : decode cL_law 18 = .ok (.iconst 0, 1) := by decide +kernel
theorem dL_law_19 : decode cL_law 19 = .ok (.invokestatic 9, 3) := by decide +kernel
theorem dL_law_22 : decode cL_law 22 = .ok (.invokespecial 20, 3) := by decide +kernel
theorem dL_law_25 : decode cL_law 25 = .ok (.astore_n 2, 1) := by decide +kernel
theorem dL_law_26 : decode cL_law 26 = .ok (.iconst 1, 1) := by decide +kernel
theorem dL_law_27 : decode cL_law 27 = .ok (.istore_n 3, 1) := by decide +kernel
theorem dL_law_28 : decode cL_law 28 = .ok (.iload_n 3, 1) := by decide +kernel
theorem dL_law_29 : decode cL_law 29 = .ok (.aload_n 0, 1) := by decide +kernel
theorem dL_law_30 : decode cL_law 30 = .ok (.arraylength, 1) := by decide +kernel
theorem dL_law_31 : decode cL_law 31 = .ok (.iconst 5, 1) := by decide +kernel
theorem dL_law_32 : decode cL_law 32 = .ok (.isub, 1) := by decide +kernel
theorem dL_law_33 : decode cL_law 33 = .ok (.if_icmp .gt 377, 3) := by decide +kernel
theorem dL_law_36 : decode cL_law 36 = .ok (.aload_n 0, 1) := by decide +kernel
theorem dL_law_37 : decode cL_law 37 = .ok (.iload_n 3, 1) := by decide +kernel
theorem dL_law_38 : decode cL_law 38 = .ok (.iaload, 1) := by decide +kernel
theorem dL_law_39 : decode cL_law 39 = .ok (.bipush 15, 2) := by decide +kernel
theorem dL_law_41 : decode cL_law 41 = .ok (.iand, 1) := by decide +kernel
theorem dL_law_42 : decode cL_law 42 = .ok (.tableswitch 362 0 11 #[62, 73, 106, 129, 202, 225, 246, 267, 280, 293, 316, 339], 62) := by decide +kernel
theorem dL_law_104 : decode cL_law 104 = .ok (.aload_n 1, 1) := by decide +kernel
theorem dL_law_105 : decode cL_law 105 = .ok (.invokevirtual 21, 3) := by decide +kernel
theorem dL_law_108 : decode cL_law 108 = .ok (.aload_n 2, 1) := by decide +kernel
theorem dL_law_109 : decode cL_law 109 = .ok (.invokevirtual 24, 3) := by decide +kernel
theorem dL_law_112 : decode cL_law 112 = .ok (.goto 292, 3) := by decide +kernel
theorem dL_law_115 : decode cL_law 115 = .ok (.aload_n 1, 1) := by decide +kernel
theorem dL_law_116 : decode cL_law 116 = .ok (.aload_n 0, 1) := by decide +kernel
theorem dL_law_117 : decode cL_law 117 = .ok (.iload_n 3, 1) := by decide +kernel
theorem dL_law_118 : decode cL_law 118 = .ok (.iconst 1, 1) := by decide +kernel
theorem dL_law_119 : decode cL_law 119 = .ok (.iadd, 1) := by decide +kernel
theorem dL_law_120 : decode cL_law 120 = .ok (.iaload, 1) := by decide +kernel
theorem dL_law_121 : decode cL_law 121 = .ok (.aload_n 0, 1) := by decide +kernel
theorem dL_law_122 : decode cL_law 122 = .ok (.iload_n 3, 1) := by decide +kernel
theorem dL_law_123 : decode cL_law 123 = .ok (.iconst 2, 1) := by decide +kernel
theorem dL_law_124 : decode cL_law 124 = .ok (.iadd, 1) := by decide +kernel
theorem dL_law_125 : decode cL_law 125 = .ok (.iaload, 1) := by decide +kernel
theorem dL_law_126 : decode cL_law 126 = .ok (.invokevirtual 25, 3) := by decide +kernel
theorem dL_law_129 : decode cL_law 129 = .ok (.aload_n 2, 1) := by decide +kernel
theorem dL_law_130 : decode cL_law 130 = .ok (.aload_n 0, 1) := by decide +kernel
theorem dL_law_131 : decode cL_law 131 = .ok (.iload_n 3, 1) := by decide +kernel
theorem dL_law_132 : decode cL_law 132 = .ok (.iconst 1, 1) := by decide +kernel
theorem dL_law_133 : decode cL_law 133 = .ok (.iadd, 1) := by decide +kernel
theorem dL_law_134 : decode cL_law 134 = .ok (.iaload, 1) := by decide +kernel
theorem dL_law_135 : decode cL_law 135 = .ok (.aload_n 0, 1) := by decide +kernel
theorem dL_law_136 : decode cL_law 136 = .ok (.iload_n 3, 1) := by decide +kernel
theorem dL_law_137 : decode cL_law 137 = .ok (.iconst 2, 1) := by decide +kernel
theorem dL_law_138 : decode cL_law 138 = .ok (.iadd, 1) := by decide +kernel
theorem dL_law_139 : decode cL_law 139 = .ok (.iaload, 1) := by decide +kernel
theorem dL_law_140 : decode cL_law 140 = .ok (.invokevirtual 29, 3) := by decide +kernel
theorem dL_law_143 : decode cL_law 143 = .ok (.if_icmp .eq 261, 3) := by decide +kernel
theorem dL_law_146 : decode cL_law 146 = .ok (.iconst 0, 1) := by decide +kernel
theorem dL_law_147 : decode cL_law 147 = .ok (.ireturn, 1) := by decide +kernel
theorem dL_law_148 : decode cL_law 148 = .ok (.aload_n 1, 1) := by decide +kernel
theorem dL_law_149 : decode cL_law 149 = .ok (.aload_n 0, 1) := by decide +kernel
theorem dL_law_150 : decode cL_law 150 = .ok (.iload_n 3, 1) := by decide +kernel
theorem dL_law_151 : decode cL_law 151 = .ok (.iconst 1, 1) := by decide +kernel
theorem dL_law_152 : decode cL_law 152 = .ok (.iadd, 1) := by decide +kernel
theorem dL_law_153 : decode cL_law 153 = .ok (.iaload, 1) := by decide +kernel
theorem dL_law_154 : decode cL_law 154 = .ok (.invokevirtual 30, 3) := by decide +kernel
theorem dL_law_157 : decode cL_law 157 = .ok (.aload_n 2, 1) := by decide +kernel
theorem dL_law_158 : decode cL_law 158 = .ok (.aload_n 0, 1) := by decide +kernel
theorem dL_law_159 : decode cL_law 159 = .ok (.iload_n 3, 1) := by decide +kernel
theorem dL_law_160 : decode cL_law 160 = .ok (.iconst 1, 1) := by decide +kernel
theorem dL_law_161 : decode cL_law 161 = .ok (.iadd, 1) := by decide +kernel
theorem dL_law_162 : decode cL_law 162 = .ok (.iaload, 1) := by decide +kernel
theorem dL_law_163 : decode cL_law 163 = .ok (.invokevirtual 34, 3) := by decide +kernel
theorem dL_law_166 : decode cL_law 166 = .ok (.if_icmp .eq 238, 3) := by decide +kernel
theorem dL_law_169 : decode cL_law 169 = .ok (.iconst 0, 1) := by decide +kernel
theorem dL_law_170 : decode cL_law 170 = .ok (.ireturn, 1) := by decide +kernel
theorem dL_law_171 : decode cL_law 171 = .ok (.aload_n 1, 1) := by decide +kernel
theorem dL_law_172 : decode cL_law 172 = .ok (.aload_n 0, 1) := by decide +kernel
theorem dL_law_173 : decode cL_law 173 = .ok (.iload_n 3, 1) := by decide +kernel
theorem dL_law_174 : decode cL_law 174 = .ok (.iconst 1, 1) := by decide +kernel
theorem dL_law_175 : decode cL_law 175 = .ok (.iadd, 1) := by decide +kernel
theorem dL_law_176 : decode cL_law 176 = .ok (.iaload, 1) := by decide +kernel
theorem dL_law_177 : decode cL_law 177 = .ok (.aload_n 0, 1) := by decide +kernel
theorem dL_law_178 : decode cL_law 178 = .ok (.iload_n 3, 1) := by decide +kernel
theorem dL_law_179 : decode cL_law 179 = .ok (.iconst 2, 1) := by decide +kernel
theorem dL_law_180 : decode cL_law 180 = .ok (.iadd, 1) := by decide +kernel
theorem dL_law_181 : decode cL_law 181 = .ok (.iaload, 1) := by decide +kernel
theorem dL_law_182 : decode cL_law 182 = .ok (.aload_n 0, 1) := by decide +kernel
theorem dL_law_183 : decode cL_law 183 = .ok (.iload_n 3, 1) := by decide +kernel
theorem dL_law_184 : decode cL_law 184 = .ok (.iconst 3, 1) := by decide +kernel
theorem dL_law_185 : decode cL_law 185 = .ok (.iadd, 1) := by decide +kernel
theorem dL_law_186 : decode cL_law 186 = .ok (.iaload, 1) := by decide +kernel
theorem dL_law_187 : decode cL_law 187 = .ok (.i2l, 1) := by decide +kernel
theorem dL_law_188 : decode cL_law 188 = .ok (.bipush 32, 2) := by decide +kernel
theorem dL_law_190 : decode cL_law 190 = .ok (.lshl, 1) := by decide +kernel
theorem dL_law_191 : decode cL_law 191 = .ok (.aload_n 0, 1) := by decide +kernel
theorem dL_law_192 : decode cL_law 192 = .ok (.iload_n 3, 1) := by decide +kernel
theorem dL_law_193 : decode cL_law 193 = .ok (.iconst 4, 1) := by decide +kernel
theorem dL_law_194 : decode cL_law 194 = .ok (.iadd, 1) := by decide +kernel
theorem dL_law_195 : decode cL_law 195 = .ok (.iaload, 1) := by decide +kernel
theorem dL_law_196 : decode cL_law 196 = .ok (.i2l, 1) := by decide +kernel
theorem dL_law_197 : decode cL_law 197 = .ok (.ldc2_w 35, 3) := by decide +kernel
theorem dL_law_200 : decode cL_law 200 = .ok (.land, 1) := by decide +kernel
theorem dL_law_201 : decode cL_law 201 = .ok (.lor, 1) := by decide +kernel
theorem dL_law_202 : decode cL_law 202 = .ok (.invokevirtual 37, 3) := by decide +kernel
theorem dL_law_205 : decode cL_law 205 = .ok (.aload_n 2, 1) := by decide +kernel
theorem dL_law_206 : decode cL_law 206 = .ok (.aload_n 0, 1) := by decide +kernel
theorem dL_law_207 : decode cL_law 207 = .ok (.iload_n 3, 1) := by decide +kernel
theorem dL_law_208 : decode cL_law 208 = .ok (.iconst 1, 1) := by decide +kernel
theorem dL_law_209 : decode cL_law 209 = .ok (.iadd, 1) := by decide +kernel
theorem dL_law_210 : decode cL_law 210 = .ok (.iaload, 1) := by decide +kernel
theorem dL_law_211 : decode cL_law 211 = .ok (.aload_n 0, 1) := by decide +kernel
theorem dL_law_212 : decode cL_law 212 = .ok (.iload_n 3, 1) := by decide +kernel
theorem dL_law_213 : decode cL_law 213 = .ok (.iconst 2, 1) := by decide +kernel
theorem dL_law_214 : decode cL_law 214 = .ok (.iadd, 1) := by decide +kernel
theorem dL_law_215 : decode cL_law 215 = .ok (.iaload, 1) := by decide +kernel
theorem dL_law_216 : decode cL_law 216 = .ok (.aload_n 0, 1) := by decide +kernel
theorem dL_law_217 : decode cL_law 217 = .ok (.iload_n 3, 1) := by decide +kernel
theorem dL_law_218 : decode cL_law 218 = .ok (.iconst 3, 1) := by decide +kernel
theorem dL_law_219 : decode cL_law 219 = .ok (.iadd, 1) := by decide +kernel
theorem dL_law_220 : decode cL_law 220 = .ok (.iaload, 1) := by decide +kernel
theorem dL_law_221 : decode cL_law 221 = .ok (.i2l, 1) := by decide +kernel
theorem dL_law_222 : decode cL_law 222 = .ok (.bipush 32, 2) := by decide +kernel
theorem dL_law_224 : decode cL_law 224 = .ok (.lshl, 1) := by decide +kernel
theorem dL_law_225 : decode cL_law 225 = .ok (.aload_n 0, 1) := by decide +kernel
theorem dL_law_226 : decode cL_law 226 = .ok (.iload_n 3, 1) := by decide +kernel
theorem dL_law_227 : decode cL_law 227 = .ok (.iconst 4, 1) := by decide +kernel
theorem dL_law_228 : decode cL_law 228 = .ok (.iadd, 1) := by decide +kernel
theorem dL_law_229 : decode cL_law 229 = .ok (.iaload, 1) := by decide +kernel
theorem dL_law_230 : decode cL_law 230 = .ok (.i2l, 1) := by decide +kernel
theorem dL_law_231 : decode cL_law 231 = .ok (.ldc2_w 35, 3) := by decide +kernel
theorem dL_law_234 : decode cL_law 234 = .ok (.land, 1) := by decide +kernel
theorem dL_law_235 : decode cL_law 235 = .ok (.lor, 1) := by decide +kernel
theorem dL_law_236 : decode cL_law 236 = .ok (.invokevirtual 41, 3) := by decide +kernel
theorem dL_law_239 : decode cL_law 239 = .ok (.if_icmp .eq 165, 3) := by decide +kernel
theorem dL_law_242 : decode cL_law 242 = .ok (.iconst 0, 1) := by decide +kernel
theorem dL_law_243 : decode cL_law 243 = .ok (.ireturn, 1) := by decide +kernel
theorem dL_law_244 : decode cL_law 244 = .ok (.aload_n 1, 1) := by decide +kernel
theorem dL_law_245 : decode cL_law 245 = .ok (.aload_n 0, 1) := by decide +kernel
theorem dL_law_246 : decode cL_law 246 = .ok (.iload_n 3, 1) := by decide +kernel
theorem dL_law_247 : decode cL_law 247 = .ok (.iconst 1, 1) := by decide +kernel
theorem dL_law_248 : decode cL_law 248 = .ok (.iadd, 1) := by decide +kernel
theorem dL_law_249 : decode cL_law 249 = .ok (.iaload, 1) := by decide +kernel
theorem dL_law_250 : decode cL_law 250 = .ok (.invokevirtual 42, 3) := by decide +kernel
theorem dL_law_253 : decode cL_law 253 = .ok (.aload_n 2, 1) := by decide +kernel
theorem dL_law_254 : decode cL_law 254 = .ok (.aload_n 0, 1) := by decide +kernel
theorem dL_law_255 : decode cL_law 255 = .ok (.iload_n 3, 1) := by decide +kernel
theorem dL_law_256 : decode cL_law 256 = .ok (.iconst 1, 1) := by decide +kernel
theorem dL_law_257 : decode cL_law 257 = .ok (.iadd, 1) := by decide +kernel
theorem dL_law_258 : decode cL_law 258 = .ok (.iaload, 1) := by decide +kernel
theorem dL_law_259 : decode cL_law 259 = .ok (.invokevirtual 46, 3) := by decide +kernel
theorem dL_law_262 : decode cL_law 262 = .ok (.if_icmp .eq 142, 3) := by decide +kernel
theorem dL_law_265 : decode cL_law 265 = .ok (.iconst 0, 1) := by decide +kernel
theorem dL_law_266 : decode cL_law 266 = .ok (.ireturn, 1) := by decide +kernel
theorem dL_law_267 : decode cL_law 267 = .ok (.aload_n 1, 1) := by decide +kernel
theorem dL_law_268 : decode cL_law 268 = .ok (.aload_n 0, 1) := by decide +kernel
theorem dL_law_269 : decode cL_law 269 = .ok (.iload_n 3, 1) := by decide +kernel
theorem dL_law_270 : decode cL_law 270 = .ok (.iconst 1, 1) := by decide +kernel
theorem dL_law_271 : decode cL_law 271 = .ok (.iadd, 1) := by decide +kernel
theorem dL_law_272 : decode cL_law 272 = .ok (.iaload, 1) := by decide +kernel
theorem dL_law_273 : decode cL_law 273 = .ok (.invokevirtual 47, 3) := by decide +kernel
theorem dL_law_276 : decode cL_law 276 = .ok (.aload_n 2, 1) := by decide +kernel
theorem dL_law_277 : decode cL_law 277 = .ok (.aload_n 0, 1) := by decide +kernel
theorem dL_law_278 : decode cL_law 278 = .ok (.iload_n 3, 1) := by decide +kernel
theorem dL_law_279 : decode cL_law 279 = .ok (.iconst 1, 1) := by decide +kernel
theorem dL_law_280 : decode cL_law 280 = .ok (.iadd, 1) := by decide +kernel
theorem dL_law_281 : decode cL_law 281 = .ok (.iaload, 1) := by decide +kernel
theorem dL_law_282 : decode cL_law 282 = .ok (.invokevirtual 50, 3) := by decide +kernel
theorem dL_law_285 : decode cL_law 285 = .ok (.goto 119, 3) := by decide +kernel
theorem dL_law_288 : decode cL_law 288 = .ok (.aload_n 1, 1) := by decide +kernel
theorem dL_law_289 : decode cL_law 289 = .ok (.aload_n 0, 1) := by decide +kernel
theorem dL_law_290 : decode cL_law 290 = .ok (.iload_n 3, 1) := by decide +kernel
theorem dL_law_291 : decode cL_law 291 = .ok (.iconst 1, 1) := by decide +kernel
theorem dL_law_292 : decode cL_law 292 = .ok (.iadd, 1) := by decide +kernel
theorem dL_law_293 : decode cL_law 293 = .ok (.iaload, 1) := by decide +kernel
theorem dL_law_294 : decode cL_law 294 = .ok (.invokevirtual 51, 3) := by decide +kernel
theorem dL_law_297 : decode cL_law 297 = .ok (.aload_n 2, 1) := by decide +kernel
theorem dL_law_298 : decode cL_law 298 = .ok (.aload_n 0, 1) := by decide +kernel
theorem dL_law_299 : decode cL_law 299 = .ok (.iload_n 3, 1) := by decide +kernel
theorem dL_law_300 : decode cL_law 300 = .ok (.iconst 1, 1) := by decide +kernel
theorem dL_law_301 : decode cL_law 301 = .ok (.iadd, 1) := by decide +kernel
theorem dL_law_302 : decode cL_law 302 = .ok (.iaload, 1) := by decide +kernel
theorem dL_law_303 : decode cL_law 303 = .ok (.invokevirtual 54, 3) := by decide +kernel
theorem dL_law_306 : decode cL_law 306 = .ok (.goto 98, 3) := by decide +kernel
theorem dL_law_309 : decode cL_law 309 = .ok (.aload_n 1, 1) := by decide +kernel
theorem dL_law_310 : decode cL_law 310 = .ok (.invokevirtual 55, 3) := by decide +kernel
theorem dL_law_313 : decode cL_law 313 = .ok (.aload_n 2, 1) := by decide +kernel
theorem dL_law_314 : decode cL_law 314 = .ok (.invokevirtual 59, 3) := by decide +kernel
theorem dL_law_317 : decode cL_law 317 = .ok (.if_icmp .eq 87, 3) := by decide +kernel
theorem dL_law_320 : decode cL_law 320 = .ok (.iconst 0, 1) := by decide +kernel
theorem dL_law_321 : decode cL_law 321 = .ok (.ireturn, 1) := by decide +kernel
theorem dL_law_322 : decode cL_law 322 = .ok (.aload_n 1, 1) := by decide +kernel
theorem dL_law_323 : decode cL_law 323 = .ok (.invokevirtual 60, 3) := by decide +kernel
theorem dL_law_326 : decode cL_law 326 = .ok (.aload_n 2, 1) := by decide +kernel
theorem dL_law_327 : decode cL_law 327 = .ok (.invokevirtual 63, 3) := by decide +kernel
theorem dL_law_330 : decode cL_law 330 = .ok (.if_icmp .eq 74, 3) := by decide +kernel
theorem dL_law_333 : decode cL_law 333 = .ok (.iconst 0, 1) := by decide +kernel
theorem dL_law_334 : decode cL_law 334 = .ok (.ireturn, 1) := by decide +kernel
theorem dL_law_335 : decode cL_law 335 = .ok (.aload_n 1, 1) := by decide +kernel
theorem dL_law_336 : decode cL_law 336 = .ok (.aload_n 0, 1) := by decide +kernel
theorem dL_law_337 : decode cL_law 337 = .ok (.iload_n 3, 1) := by decide +kernel
theorem dL_law_338 : decode cL_law 338 = .ok (.iconst 1, 1) := by decide +kernel
theorem dL_law_339 : decode cL_law 339 = .ok (.iadd, 1) := by decide +kernel
theorem dL_law_340 : decode cL_law 340 = .ok (.iaload, 1) := by decide +kernel
theorem dL_law_341 : decode cL_law 341 = .ok (.invokevirtual 64, 3) := by decide +kernel
theorem dL_law_344 : decode cL_law 344 = .ok (.aload_n 2, 1) := by decide +kernel
theorem dL_law_345 : decode cL_law 345 = .ok (.aload_n 0, 1) := by decide +kernel
theorem dL_law_346 : decode cL_law 346 = .ok (.iload_n 3, 1) := by decide +kernel
theorem dL_law_347 : decode cL_law 347 = .ok (.iconst 1, 1) := by decide +kernel
theorem dL_law_348 : decode cL_law 348 = .ok (.iadd, 1) := by decide +kernel
theorem dL_law_349 : decode cL_law 349 = .ok (.iaload, 1) := by decide +kernel
theorem dL_law_350 : decode cL_law 350 = .ok (.invokevirtual 67, 3) := by decide +kernel
theorem dL_law_353 : decode cL_law 353 = .ok (.if_icmp .eq 51, 3) := by decide +kernel
theorem dL_law_356 : decode cL_law 356 = .ok (.iconst 0, 1) := by decide +kernel
theorem dL_law_357 : decode cL_law 357 = .ok (.ireturn, 1) := by decide +kernel
theorem dL_law_358 : decode cL_law 358 = .ok (.aload_n 1, 1) := by decide +kernel
theorem dL_law_359 : decode cL_law 359 = .ok (.aload_n 0, 1) := by decide +kernel
theorem dL_law_360 : decode cL_law 360 = .ok (.iload_n 3, 1) := by decide +kernel
theorem dL_law_361 : decode cL_law 361 = .ok (.iconst 1, 1) := by decide +kernel
theorem dL_law_362 : decode cL_law 362 = .ok (.iadd, 1) := by decide +kernel
theorem dL_law_363 : decode cL_law 363 = .ok (.iaload, 1) := by decide +kernel
theorem dL_law_364 : decode cL_law 364 = .ok (.invokevirtual 68, 3) := by decide +kernel
theorem dL_law_367 : decode cL_law 367 = .ok (.aload_n 2, 1) := by decide +kernel
theorem dL_law_368 : decode cL_law 368 = .ok (.aload_n 0, 1) := by decide +kernel
theorem dL_law_369 : decode cL_law 369 = .ok (.iload_n 3, 1) := by decide +kernel
theorem dL_law_370 : decode cL_law 370 = .ok (.iconst 1, 1) := by decide +kernel
theorem dL_law_371 : decode cL_law 371 = .ok (.iadd, 1) := by decide +kernel
theorem dL_law_372 : decode cL_law 372 = .ok (.iaload, 1) := by decide +kernel
theorem dL_law_373 : decode cL_law 373 = .ok (.invokevirtual 71, 3) := by decide +kernel
theorem dL_law_376 : decode cL_law 376 = .ok (.if_icmp .eq 28, 3) := by decide +kernel
theorem dL_law_379 : decode cL_law 379 = .ok (.iconst 0, 1) := by decide +kernel
theorem dL_law_380 : decode cL_law 380 = .ok (.ireturn, 1) := by decide +kernel
theorem dL_law_381 : decode cL_law 381 = .ok (.aload_n 1, 1) := by decide +kernel
theorem dL_law_382 : decode cL_law 382 = .ok (.aload_n 0, 1) := by decide +kernel
theorem dL_law_383 : decode cL_law 383 = .ok (.iload_n 3, 1) := by decide +kernel
theorem dL_law_384 : decode cL_law 384 = .ok (.iconst 1, 1) := by decide +kernel
theorem dL_law_385 : decode cL_law 385 = .ok (.iadd, 1) := by decide +kernel
theorem dL_law_386 : decode cL_law 386 = .ok (.iaload, 1) := by decide +kernel
theorem dL_law_387 : decode cL_law 387 = .ok (.invokevirtual 72, 3) := by decide +kernel
theorem dL_law_390 : decode cL_law 390 = .ok (.aload_n 2, 1) := by decide +kernel
theorem dL_law_391 : decode cL_law 391 = .ok (.aload_n 0, 1) := by decide +kernel
theorem dL_law_392 : decode cL_law 392 = .ok (.iload_n 3, 1) := by decide +kernel
theorem dL_law_393 : decode cL_law 393 = .ok (.iconst 1, 1) := by decide +kernel
theorem dL_law_394 : decode cL_law 394 = .ok (.iadd, 1) := by decide +kernel
theorem dL_law_395 : decode cL_law 395 = .ok (.iaload, 1) := by decide +kernel
theorem dL_law_396 : decode cL_law 396 = .ok (.invokevirtual 75, 3) := by decide +kernel
theorem dL_law_399 : decode cL_law 399 = .ok (.if_icmp .eq 5, 3) := by decide +kernel
theorem dL_law_402 : decode cL_law 402 = .ok (.iconst 0, 1) := by decide +kernel
theorem dL_law_403 : decode cL_law 403 = .ok (.ireturn, 1) := by decide +kernel
theorem dL_law_404 : decode cL_law 404 = .ok (.iinc 3 5, 3) := by decide +kernel
theorem dL_law_407 : decode cL_law 407 = .ok (.goto (-379), 3) := by decide +kernel
theorem dL_law_410 : decode cL_law 410 = .ok (.iconst 1, 1) := by decide +kernel
theorem dL_law_411 : decode cL_law 411 = .ok (.ireturn, 1) := by decide +kernel
end
section
def wsA : List Cond := lw_tbl.filter goodWord
theorem wsA_good : ∀ w ∈ wsA, goodWord w = true := fun w h => (List.mem_filter.mp h).2
theorem wl_0 {i : Nat} {w : Cond} (h : (k2_sels lw_privs)[i]? = some w) : w ∈ lw_tbl := List.mem_append_left _ (List.mem_of_getElem? h)
theorem wl_1 {i : Nat} {w : Cond} (h : tables_1_1[i]? = some w) : w ∈ lw_tbl := List.mem_append_right _ (List.mem_append_left _ (List.mem_of_getElem? h))
theorem wl_2 {i : Nat} {w : Cond} (h : tables_1_2[i]? = some w) : w ∈ lw_tbl := List.mem_append_right _ (List.mem_append_right _ (List.mem_append_left _ (List.mem_of_getElem? h)))
theorem wl_3 {i : Nat} {w : Cond} (h : tables_1_3[i]? = some w) : w ∈ lw_tbl := List.mem_append_right _ (List.mem_append_right _ (List.mem_append_right _ (List.mem_of_getElem? h)))
theorem wm_0 {i : Nat} {w : Cond} (h : (k2_sels lw_privs)[i]? = some w) (g : goodWord w = true) : w ∈ wsA := List.mem_filter.mpr ⟨wl_0 h, g⟩
theorem wm_1 {i : Nat} {w : Cond} (h : tables_1_1[i]? = some w) (g : goodWord w = true) : w ∈ wsA := List.mem_filter.mpr ⟨wl_1 h, g⟩
theorem wm_2 {i : Nat} {w : Cond} (h : tables_1_2[i]? = some w) (g : goodWord w = true) : w ∈ wsA := List.mem_filter.mpr ⟨wl_2 h, g⟩
theorem wm_3 {i : Nat} {w : Cond} (h : tables_1_3[i]? = some w) (g : goodWord w = true) : w ∈ wsA := List.mem_filter.mpr ⟨wl_3 h, g⟩
set_option maxRecDepth 20000 in
theorem inAX : ∀ w ∈ u_ws RX TX 17, w ∈ wsA := by
  intro w hw
  obtain ⟨k, hk, rfl⟩ := List.mem_map.mp hw
  have hk : k < 17 := List.mem_range.mp hk
  have hk : k = 0 ∨ k = 1 ∨ k = 2 ∨ k = 3 ∨ k = 4 ∨ k = 5 ∨ k = 6 ∨ k = 7 ∨ k = 8 ∨ k = 9 ∨ k = 10 ∨ k = 11 ∨ k = 12 ∨ k = 13 ∨ k = 14 ∨ k = 15 ∨ k = 16 := by omega
  rcases hk with rfl | rfl | rfl | rfl | rfl | rfl | rfl | rfl | rfl | rfl | rfl | rfl | rfl | rfl | rfl | rfl | rfl
  · exact wm_1 (i := 71) rfl rfl
  · exact wm_1 (i := 73) rfl rfl
  · exact wm_1 (i := 75) rfl rfl
  · exact wm_1 (i := 77) rfl rfl
  · exact wm_1 (i := 79) rfl rfl
  · exact wm_1 (i := 81) rfl rfl
  · exact wm_1 (i := 83) rfl rfl
  · exact wm_1 (i := 85) rfl rfl
  · exact wm_1 (i := 87) rfl rfl
  · exact wm_1 (i := 89) rfl rfl
  · exact wm_1 (i := 91) rfl rfl
  · exact wm_1 (i := 93) rfl rfl
  · exact wm_1 (i := 95) rfl rfl
  · exact wm_1 (i := 97) rfl rfl
  · exact wm_1 (i := 99) rfl rfl
  · exact wm_1 (i := 101) rfl rfl
  · exact wm_1 (i := 103) rfl rfl
set_option maxRecDepth 20000 in
theorem inAK : ∀ w ∈ u_ws RK TK 2, w ∈ wsA := by
  intro w hw
  obtain ⟨k, hk, rfl⟩ := List.mem_map.mp hw
  have hk : k < 2 := List.mem_range.mp hk
  have hk : k = 0 ∨ k = 1 := by omega
  rcases hk with rfl | rfl
  · exact wm_1 (i := 24) rfl rfl
  · exact wm_1 (i := 26) rfl rfl
set_option maxRecDepth 20000 in
theorem inAP : ∀ w ∈ u_ws RP TP 3, w ∈ wsA := by
  intro w hw
  obtain ⟨k, hk, rfl⟩ := List.mem_map.mp hw
  have hk : k < 3 := List.mem_range.mp hk
  have hk : k = 0 ∨ k = 1 ∨ k = 2 := by omega
  rcases hk with rfl | rfl | rfl
  · exact wm_1 (i := 47) rfl rfl
  · exact wm_1 (i := 49) rfl rfl
  · exact wm_1 (i := 51) rfl rfl
set_option maxRecDepth 20000 in
theorem inAM : ∀ w ∈ u_ws RM TM 21, w ∈ wsA := by
  intro w hw
  obtain ⟨k, hk, rfl⟩ := List.mem_map.mp hw
  have hk : k < 21 := List.mem_range.mp hk
  have hk : k = 0 ∨ k = 1 ∨ k = 2 ∨ k = 3 ∨ k = 4 ∨ k = 5 ∨ k = 6 ∨ k = 7 ∨ k = 8 ∨ k = 9 ∨ k = 10 ∨ k = 11 ∨ k = 12 ∨ k = 13 ∨ k = 14 ∨ k = 15 ∨ k = 16 ∨ k = 17 ∨ k = 18 ∨ k = 19 ∨ k = 20 := by omega
  rcases hk with rfl | rfl | rfl | rfl | rfl | rfl | rfl | rfl | rfl | rfl | rfl | rfl | rfl | rfl | rfl | rfl | rfl | rfl | rfl | rfl | rfl
  · exact wm_2 (i := 150) rfl rfl
  · exact wm_2 (i := 152) rfl rfl
  · exact wm_2 (i := 154) rfl rfl
  · exact wm_2 (i := 156) rfl rfl
  · exact wm_2 (i := 158) rfl rfl
  · exact wm_2 (i := 160) rfl rfl
  · exact wm_2 (i := 162) rfl rfl
  · exact wm_2 (i := 164) rfl rfl
  · exact wm_2 (i := 166) rfl rfl
  · exact wm_2 (i := 168) rfl rfl
  · exact wm_2 (i := 170) rfl rfl
  · exact wm_2 (i := 172) rfl rfl
  · exact wm_2 (i := 174) rfl rfl
  · exact wm_2 (i := 176) rfl rfl
  · exact wm_2 (i := 178) rfl rfl
  · exact wm_2 (i := 180) rfl rfl
  · exact wm_2 (i := 182) rfl rfl
  · exact wm_2 (i := 184) rfl rfl
  · exact wm_2 (i := 186) rfl rfl
  · exact wm_2 (i := 188) rfl rfl
  · exact wm_2 (i := 190) rfl rfl
set_option maxRecDepth 20000 in
theorem fl_K_K_flag : Cond.fieldLink RK 7 "MicroEight$Keyboard" "flag" "Z" ∈ wsA := (wm_1 (i := 20) rfl rfl)
set_option maxRecDepth 20000 in
theorem fl_K_K_buffer : Cond.fieldLink RK 13 "MicroEight$Keyboard" "buffer" "I" ∈ wsA := (wm_1 (i := 22) rfl rfl)
set_option maxRecDepth 20000 in
theorem fl_M_M_core : Cond.fieldLink RM 7 "MicroEightModel" "core" "[I" ∈ wsA := (wm_2 (i := 129) rfl rfl)
set_option maxRecDepth 20000 in
theorem fl_M_M_print : Cond.fieldLink RM 13 "MicroEightModel" "print" "[I" ∈ wsA := (wm_2 (i := 148) rfl rfl)
set_option maxRecDepth 20000 in
theorem fl_M_M_cap : Cond.fieldLink RM 16 "MicroEightModel" "cap" "I" ∈ wsA := (wm_2 (i := 130) rfl rfl)
set_option maxRecDepth 20000 in
theorem fl_M_M_ready : Cond.fieldLink RM 20 "MicroEightModel" "ready" "Z" ∈ wsA := (wm_2 (i := 132) rfl rfl)
set_option maxRecDepth 20000 in
theorem fl_M_M_at : Cond.fieldLink RM 24 "MicroEightModel" "at" "I" ∈ wsA := (wm_2 (i := 133) rfl rfl)
set_option maxRecDepth 20000 in
theorem fl_M_M_pc : Cond.fieldLink RM 27 "MicroEightModel" "pc" "I" ∈ wsA := (wm_2 (i := 134) rfl rfl)
set_option maxRecDepth 20000 in
theorem fl_M_M_ac : Cond.fieldLink RM 30 "MicroEightModel" "ac" "I" ∈ wsA := (wm_2 (i := 135) rfl rfl)
set_option maxRecDepth 20000 in
theorem fl_M_M_link : Cond.fieldLink RM 33 "MicroEightModel" "link" "I" ∈ wsA := (wm_2 (i := 136) rfl rfl)
set_option maxRecDepth 20000 in
theorem fl_M_M_mq : Cond.fieldLink RM 36 "MicroEightModel" "mq" "I" ∈ wsA := (wm_2 (i := 137) rfl rfl)
set_option maxRecDepth 20000 in
theorem fl_M_M_ma : Cond.fieldLink RM 39 "MicroEightModel" "ma" "I" ∈ wsA := (wm_2 (i := 138) rfl rfl)
set_option maxRecDepth 20000 in
theorem fl_M_M_mb : Cond.fieldLink RM 42 "MicroEightModel" "mb" "I" ∈ wsA := (wm_2 (i := 139) rfl rfl)
set_option maxRecDepth 20000 in
theorem fl_M_M_ir : Cond.fieldLink RM 45 "MicroEightModel" "ir" "I" ∈ wsA := (wm_2 (i := 140) rfl rfl)
set_option maxRecDepth 20000 in
theorem fl_M_M_ion : Cond.fieldLink RM 48 "MicroEightModel" "ion" "Z" ∈ wsA := (wm_2 (i := 141) rfl rfl)
set_option maxRecDepth 20000 in
theorem fl_M_M_delay : Cond.fieldLink RM 51 "MicroEightModel" "delay" "Z" ∈ wsA := (wm_2 (i := 142) rfl rfl)
set_option maxRecDepth 20000 in
theorem fl_M_M_halted : Cond.fieldLink RM 54 "MicroEightModel" "halted" "Z" ∈ wsA := (wm_2 (i := 143) rfl rfl)
set_option maxRecDepth 20000 in
theorem fl_M_M_keyFlag : Cond.fieldLink RM 57 "MicroEightModel" "keyFlag" "Z" ∈ wsA := (wm_2 (i := 144) rfl rfl)
set_option maxRecDepth 20000 in
theorem fl_M_M_printFlag : Cond.fieldLink RM 60 "MicroEightModel" "printFlag" "Z" ∈ wsA := (wm_2 (i := 145) rfl rfl)
set_option maxRecDepth 20000 in
theorem fl_M_M_buffer : Cond.fieldLink RM 63 "MicroEightModel" "buffer" "I" ∈ wsA := (wm_2 (i := 146) rfl rfl)
set_option maxRecDepth 20000 in
theorem fl_M_M_printed : Cond.fieldLink RM 66 "MicroEightModel" "printed" "I" ∈ wsA := (wm_2 (i := 147) rfl rfl)
set_option maxRecDepth 20000 in
theorem fl_M_M_made : Cond.fieldLink RM 69 "MicroEightModel" "made" "I" ∈ wsA := (wm_2 (i := 149) rfl rfl)
set_option maxRecDepth 20000 in
theorem fl_M_M_switches : Cond.fieldLink RM 76 "MicroEightModel" "switches" "I" ∈ wsA := (wm_2 (i := 131) rfl rfl)
set_option maxRecDepth 20000 in
theorem fl_P_P_bytes : Cond.fieldLink RP 9 "MicroEight$Printer" "bytes" "[I" ∈ wsA := (wm_1 (i := 42) rfl rfl)
set_option maxRecDepth 20000 in
theorem fl_P_P_count : Cond.fieldLink RP 15 "MicroEight$Printer" "count" "I" ∈ wsA := (wm_1 (i := 43) rfl rfl)
set_option maxRecDepth 20000 in
theorem fl_P_P_flag : Cond.fieldLink RP 19 "MicroEight$Printer" "flag" "Z" ∈ wsA := (wm_1 (i := 45) rfl rfl)
set_option maxRecDepth 20000 in
theorem fl_X_X_core : Cond.fieldLink RX 9 "MicroEight" "core" "[I" ∈ wsA := (wm_1 (i := 54) rfl rfl)
set_option maxRecDepth 20000 in
theorem fl_X_X_keyboard : Cond.fieldLink RX 16 "MicroEight" "keyboard" "LMicroEight$Keyboard;" ∈ wsA := (wm_1 (i := 55) rfl rfl)
set_option maxRecDepth 20000 in
theorem fl_X_X_printer : Cond.fieldLink RX 34 "MicroEight" "printer" "LMicroEight$Printer;" ∈ wsA := (wm_1 (i := 56) rfl rfl)
set_option maxRecDepth 20000 in
theorem fl_X_X_hasMicrocode : Cond.fieldLink RX 38 "MicroEight" "hasMicrocode" "Z" ∈ wsA := (wm_1 (i := 68) rfl rfl)
set_option maxRecDepth 20000 in
theorem fl_X_X_pc : Cond.fieldLink RX 42 "MicroEight" "pc" "I" ∈ wsA := (wm_1 (i := 57) rfl rfl)
set_option maxRecDepth 20000 in
theorem fl_X_X_ac : Cond.fieldLink RX 46 "MicroEight" "ac" "I" ∈ wsA := (wm_1 (i := 58) rfl rfl)
set_option maxRecDepth 20000 in
theorem fl_X_X_link : Cond.fieldLink RX 49 "MicroEight" "link" "I" ∈ wsA := (wm_1 (i := 59) rfl rfl)
set_option maxRecDepth 20000 in
theorem fl_X_X_mq : Cond.fieldLink RX 52 "MicroEight" "mq" "I" ∈ wsA := (wm_1 (i := 60) rfl rfl)
set_option maxRecDepth 20000 in
theorem fl_X_X_ma : Cond.fieldLink RX 55 "MicroEight" "ma" "I" ∈ wsA := (wm_1 (i := 61) rfl rfl)
set_option maxRecDepth 20000 in
theorem fl_X_X_mb : Cond.fieldLink RX 58 "MicroEight" "mb" "I" ∈ wsA := (wm_1 (i := 62) rfl rfl)
set_option maxRecDepth 20000 in
theorem fl_X_X_ir : Cond.fieldLink RX 61 "MicroEight" "ir" "I" ∈ wsA := (wm_1 (i := 63) rfl rfl)
set_option maxRecDepth 20000 in
theorem fl_X_X_ion : Cond.fieldLink RX 64 "MicroEight" "ion" "Z" ∈ wsA := (wm_1 (i := 65) rfl rfl)
set_option maxRecDepth 20000 in
theorem fl_X_X_delay : Cond.fieldLink RX 67 "MicroEight" "delay" "Z" ∈ wsA := (wm_1 (i := 66) rfl rfl)
set_option maxRecDepth 20000 in
theorem fl_X_X_halted : Cond.fieldLink RX 70 "MicroEight" "halted" "Z" ∈ wsA := (wm_1 (i := 67) rfl rfl)
set_option maxRecDepth 20000 in
theorem fl_X_X_stepNumber : Cond.fieldLink RX 73 "MicroEight" "stepNumber" "I" ∈ wsA := (wm_1 (i := 69) rfl rfl)
set_option maxRecDepth 20000 in
theorem fl_X_X_microstepsMade : Cond.fieldLink RX 76 "MicroEight" "microstepsMade" "I" ∈ wsA := (wm_1 (i := 70) rfl rfl)
set_option maxRecDepth 20000 in
theorem fl_X_X_switchWord : Cond.fieldLink RX 95 "MicroEight" "switchWord" "I" ∈ wsA := (wm_1 (i := 64) rfl rfl)
def nw (U : State) : Prop := va_Nw (.fieldLinkNest RX 118 "MicroEight$Keyboard" "buffer" "I" "MicroEight") U ∧ va_Nw (.fieldLinkNest RX 121 "MicroEight$Printer" "count" "I" "MicroEight") U ∧ va_Nw (.fieldLinkNest RX 127 "MicroEight$Keyboard" "flag" "Z" "MicroEight") U ∧ va_Nw (.fieldLinkNest RX 130 "MicroEight$Printer" "flag" "Z" "MicroEight") U ∧ va_Nw (.methodLinkNest RX 15 yK_init "MicroEight") U ∧ va_Nw (.methodLinkNest RX 31 yP_init "MicroEight") U ∧ va_Nw (.methodLinkNest RX 79 yK_reset "MicroEight") U ∧ va_Nw (.methodLinkNest RX 82 yP_reset "MicroEight") U ∧ va_Nw (.methodLinkNest RX 98 yK_press "MicroEight") U ∧ va_Nw (.methodLinkNest RX 101 yP_isFull "MicroEight") U ∧ va_Nw (.methodLinkNest RX 124 yP_byteAt "MicroEight") U ∧ va_Nw (.methodLinkNest RX 251 yP_print "MicroEight") U
theorem nw_same {u U : State} (h : u.vm = U.vm) (hN : nw u) : nw U := by
  obtain ⟨h0, h1, h2, h3, h4, h5, h6, h7, h8, h9, h10, h11⟩ := hN
  exact ⟨va_Nw.same rfl h h0, va_Nw.same rfl h h1, va_Nw.same rfl h h2, va_Nw.same rfl h h3, va_Nw.same rfl h h4, va_Nw.same rfl h h5, va_Nw.same rfl h h6, va_Nw.same rfl h h7, va_Nw.same rfl h h8, va_Nw.same rfl h h9, va_Nw.same rfl h h10, va_Nw.same rfl h h11⟩
theorem nw_warm {s U : State} (h : s.WarmedH U.vm) (hN : nw s) : nw U := by
  obtain ⟨h0, h1, h2, h3, h4, h5, h6, h7, h8, h9, h10, h11⟩ := hN
  exact ⟨va_Nw.warmF h h0, va_Nw.warmF h h1, va_Nw.warmF h h2, va_Nw.warmF h h3, va_Nw.warmM h h4, va_Nw.warmM h h5, va_Nw.warmM h h6, va_Nw.warmM h h7, va_Nw.warmM h h8, va_Nw.warmM h h9, va_Nw.warmM h h10, va_Nw.warmM h h11⟩
theorem nw_X_K_buffer {s : State} (hN : nw s) : va_Nw (.fieldLinkNest RX 118 "MicroEight$Keyboard" "buffer" "I" "MicroEight") s := hN.1
theorem nw_X_P_count {s : State} (hN : nw s) : va_Nw (.fieldLinkNest RX 121 "MicroEight$Printer" "count" "I" "MicroEight") s := hN.2.1
theorem nw_X_K_flag {s : State} (hN : nw s) : va_Nw (.fieldLinkNest RX 127 "MicroEight$Keyboard" "flag" "Z" "MicroEight") s := hN.2.2.1
theorem nw_X_P_flag {s : State} (hN : nw s) : va_Nw (.fieldLinkNest RX 130 "MicroEight$Printer" "flag" "Z" "MicroEight") s := hN.2.2.2.1
theorem nw_X_15 {s : State} (hN : nw s) : va_Nw (.methodLinkNest RX 15 yK_init "MicroEight") s := hN.2.2.2.2.1
theorem nw_X_31 {s : State} (hN : nw s) : va_Nw (.methodLinkNest RX 31 yP_init "MicroEight") s := hN.2.2.2.2.2.1
theorem nw_X_79 {s : State} (hN : nw s) : va_Nw (.methodLinkNest RX 79 yK_reset "MicroEight") s := hN.2.2.2.2.2.2.1
theorem nw_X_82 {s : State} (hN : nw s) : va_Nw (.methodLinkNest RX 82 yP_reset "MicroEight") s := hN.2.2.2.2.2.2.2.1
theorem nw_X_98 {s : State} (hN : nw s) : va_Nw (.methodLinkNest RX 98 yK_press "MicroEight") s := hN.2.2.2.2.2.2.2.2.1
theorem nw_X_101 {s : State} (hN : nw s) : va_Nw (.methodLinkNest RX 101 yP_isFull "MicroEight") s := hN.2.2.2.2.2.2.2.2.2.1
theorem nw_X_124 {s : State} (hN : nw s) : va_Nw (.methodLinkNest RX 124 yP_byteAt "MicroEight") s := hN.2.2.2.2.2.2.2.2.2.2.1
theorem nw_X_251 {s : State} (hN : nw s) : va_Nw (.methodLinkNest RX 251 yP_print "MicroEight") s := hN.2.2.2.2.2.2.2.2.2.2.2
set_option maxRecDepth 20000 in
theorem nw_of {args : Array Value} {s : State} (hts : ∀ w ∈ lw_tbl, w.before args s = true) : nw s := ⟨va_Nw.of rfl (hts _ (wl_1 (i := 23) rfl)), va_Nw.of rfl (hts _ (wl_1 (i := 44) rfl)), va_Nw.of rfl (hts _ (wl_1 (i := 21) rfl)), va_Nw.of rfl (hts _ (wl_1 (i := 46) rfl)), va_Nw.of rfl (hts _ (wl_1 (i := 16) rfl)), va_Nw.of rfl (hts _ (wl_1 (i := 38) rfl)), va_Nw.of rfl (hts _ (wl_1 (i := 110) rfl)), va_Nw.of rfl (hts _ (wl_1 (i := 114) rfl)), va_Nw.of rfl (hts _ (wl_1 (i := 153) rfl)), va_Nw.of rfl (hts _ (wl_1 (i := 161) rfl)), va_Nw.of rfl (hts _ (wl_2 (i := 116) rfl)), va_Nw.of rfl (hts _ (wl_2 (i := 85) rfl))⟩
end
section
-- a state of the machine: the class and the reference hold the same one
abbrev St : Type := Int32 × Int32 × Int32 × Int32 × Int32 × Int32 × Int32 × Int32 × Int32 × Int32 × Int32 × Int32 × Int32 × Int32 × Int32 × Int32 × Int32 × Int32 × (Nat → Int32) × (Nat → Int32)
abbrev AX : Type := Nat × Nat × Nat × Nat × Nat × ClassId × ClassId × Nat
abbrev AR : Type := Nat × Nat × Nat × ClassId × ClassId × Nat
def wx (a : AX) (u : St) : va_W := match u with
  | (pc, ac, lk, mq, ma, mb, ir, sw, io, dl, ha, rd, sn, md, kf, kb, cn, pf, co, ou) => [(a.1, .inr (0, [.ref a.2.1, .ref a.2.2.1, .ref a.2.2.2.1, .int pc, .int ac, .int lk, .int mq, .int ma, .int mb, .int ir, .int sw, .int io, .int dl, .int ha, .int rd, .int sn, .int md])), (a.2.1, .inl (a.2.2.2.2.2.1, 4096, .inl co)), (a.2.2.1, .inr (1, [.int kf, .int kb])), (a.2.2.2.1, .inr (2, [.ref a.2.2.2.2.1, .int cn, .int pf])), (a.2.2.2.2.1, .inl (a.2.2.2.2.2.2.1, a.2.2.2.2.2.2.2, .inl ou))]
def wr (a : AR) (u : St) : va_W := match u with
  | (pc, ac, lk, mq, ma, mb, ir, sw, io, dl, ha, rd, sn, md, kf, kb, cn, pf, co, ou) => [(a.1, .inr (3, [.ref a.2.1, .int (nI a.2.2.2.2.2), .int sw, .int rd, .int sn, .int pc, .int ac, .int lk, .int mq, .int ma, .int mb, .int ir, .int io, .int dl, .int ha, .int kf, .int pf, .int kb, .int cn, .ref a.2.2.1, .int md])), (a.2.1, .inl (a.2.2.2.1, 4096, .inl co)), (a.2.2.1, .inl (a.2.2.2.2.1, 100, .inl ou))]
def tx (a : AX) : List (ClassId × FieldType) := [(a.2.2.2.2.2.1, .int), (a.2.2.2.2.2.2.1, .int)]
def tr (a : AR) : List (ClassId × FieldType) := [(a.2.2.2.1, .int), (a.2.2.2.2.1, .int)]
def rmD (d : Nat) : Room := { frames := d, cells := 0, slots := 0, locals := 40 * d }

def PW (D : va_G) (w : St → va_W) (ty : List (ClassId × FieldType)) (sz : Nat) (u : St) : State → Prop := fun U => U.heap.size = sz ∧ va_P D vwCl (w u) U.heap ∧ va_K D vwCl ty U ∧ va_D (fun _ => True) (w u) ∧ nw U
def BW (D : va_G) (w : St → va_W) (ty : List (ClassId × FieldType)) (A : Nat → Prop) (u : St) (t : State) : Prop := va_P D vwCl (w u) t.heap ∧ va_K D vwCl ty t ∧ va_D A (w u)
def MI (l : Launch) (D : va_G) (w : St → va_W) (ty : List (ClassId × FieldType)) (sz : Nat) (y : MethodName) (cc : ByteArray) (mL : Nat) (rt : Option FieldType) (d : Nat) (av : List Value) (u : St) (post : Int32 → St → Prop) : Prop :=
  Met l y (.code y cc mL rt :: wsA) (rmD d) (va_Pc av (PW D w ty sz u)) (va_Qi post (BW D w ty (va_A (w u) sz)) (va_A (w u) sz)) 0 0 (va_A (w u) sz)
def MV (l : Launch) (D : va_G) (w : St → va_W) (ty : List (ClassId × FieldType)) (sz : Nat) (y : MethodName) (cc : ByteArray) (mL : Nat) (d : Nat) (av : List Value) (u : St) (post : St → Prop) : Prop :=
  Met l y (.code y cc mL none :: wsA) (rmD d) (va_Pc av (PW D w ty sz u)) (va_Qv post (BW D w ty (va_A (w u) sz)) (va_A (w u) sz)) 0 0 (va_A (w u) sz)
theorem en_i {l : Launch} {D : va_G} {w : St → va_W} {ty : List (ClassId × FieldType)} {sz : Nat} {y : MethodName} {cc : ByteArray} {mL : Nat} {rt : Option FieldType} {d : Nat} {av : List Value} {u : St} {post : Int32 → St → Prop} (own : String) (ho : y.cls = own) (hy : plainName y.cls = true) (hn : (lg_sl av).length ≤ mL)
    (body : ∀ (p : Program) (e : Env) (s : State) (m : MethodId) (below : List Frame) (meth : Method) (c : Code) (A : Nat → Prop) (ls : Array Slot), CallFix p m c cc mL s av.toArray wsA own → meth.sig.returnType = rt → meth.locks = false → (∀ q, s.heap.size ≤ q → A q) → nw s → va_K D vwCl ty s → va_P D vwCl (w u) s.heap → va_D A (w u) → va_S A s.heap s.heap [] → lv_has ls mL (lv_args 0 av) →
      W p l e (rmD d) s m av.toArray below meth c s.heap [] 0 0 (MQ below (va_Qi post (BW D w ty A) A) av.toArray s 0 0 A) (F0 m 0 ls [])) : MI l D w ty sz y cc mL rt d av u post := by
  unfold MI
  refine Met.ofW (cc := cc) (maxL := mL) (ret := rt) hy rfl ?_
  intro p e s m args below meth c s₁ B hml hv
  obtain ⟨rfl, hsz, hP, hK, hD0, hN⟩ := hv
  have hts := atoms_spec (ws := .code y cc mL rt :: wsA) B.pre
  have hown : s.vm.findClass own = some m.cls := ho ▸ findClass_of_methodNamed B.named
  subst hsz
  have hD := hD0.self (sz := s.heap.size)
  rw [lg_entry_eq]
  exact body p e s m below meth c (va_A (w u) s.heap.size) _ ⟨B.exec, B.bytes, hml, hown, fun w h => hts w (List.mem_cons_of_mem _ h)⟩ B.returns B.notSynchronized (fun q h => Or.inr h) hN hK hP hD va_S.rf (lv_entry av hn)
theorem en_v {l : Launch} {D : va_G} {w : St → va_W} {ty : List (ClassId × FieldType)} {sz : Nat} {y : MethodName} {cc : ByteArray} {mL : Nat} {d : Nat} {av : List Value} {u : St} {post : St → Prop} (own : String) (ho : y.cls = own) (hy : plainName y.cls = true) (hn : (lg_sl av).length ≤ mL)
    (body : ∀ (p : Program) (e : Env) (s : State) (m : MethodId) (below : List Frame) (meth : Method) (c : Code) (A : Nat → Prop) (ls : Array Slot), CallFix p m c cc mL s av.toArray wsA own → meth.sig.returnType = none → meth.locks = false → (∀ q, s.heap.size ≤ q → A q) → nw s → va_K D vwCl ty s → va_P D vwCl (w u) s.heap → va_D A (w u) → va_S A s.heap s.heap [] → lv_has ls mL (lv_args 0 av) →
      W p l e (rmD d) s m av.toArray below meth c s.heap [] 0 0 (MQ below (va_Qv post (BW D w ty A) A) av.toArray s 0 0 A) (F0 m 0 ls [])) : MV l D w ty sz y cc mL d av u post := by
  unfold MV
  refine Met.ofW (cc := cc) (maxL := mL) (ret := none) hy rfl ?_
  intro p e s m args below meth c s₁ B hml hv
  obtain ⟨rfl, hsz, hP, hK, hD0, hN⟩ := hv
  have hts := atoms_spec (ws := .code y cc mL none :: wsA) B.pre
  have hown : s.vm.findClass own = some m.cls := ho ▸ findClass_of_methodNamed B.named
  subst hsz
  have hD := hD0.self (sz := s.heap.size)
  rw [lg_entry_eq]
  exact body p e s m below meth c (va_A (w u) s.heap.size) _ ⟨B.exec, B.bytes, hml, hown, fun w h => hts w (List.mem_cons_of_mem _ h)⟩ B.returns B.notSynchronized (fun q h => Or.inr h) hN hK hP hD va_S.rf (lv_entry av hn)
section RowsShort
variable {p : Program} {l : Launch} {e : Env} {R : Room} {s : State} {m : MethodId} {args : Array Value} {below : List Frame} {meth : Method} {c : Code} {H : Heap} {locs : List Loc} {cells slots : Nat} {Q : State → Prop}
variable {cc : ByteArray} {i nL : Nat} {ls : Array Slot} {rest : List Value} {D : va_G} {A : Nat → Prop} {H0 : Heap} {own : String}
variable {w : St → va_W} {ty : List (ClassId × FieldType)} {u : St}
theorem rt_i {post : Int32 → St → Prop} {r : Int32} (S : CallFix p m c cc nL s args wsA own) (hr : meth.sig.returnType = some .int) (hk : meth.locks = false) (hK : va_K D vwCl ty s) (hP : va_P D vwCl (w u) H) (hD : va_D A (w u)) (hS : va_S A s.heap H locs) (hp : post r u) (hdg : decode cc i = .ok (.ireturn, 1)) : W p l e R s m args below meth c H locs 0 0 (MQ below (va_Qi post (BW D w ty A) A) args s 0 0 A) (F0 m i ls [.int r]) :=
  W.iret S.1 S.2.1 hr (fun t ht hW => ⟨⟨r, u, rfl, hp, by rw [ht]; exact hP, va_K.moved hW.alike hK, hD⟩, hS.F ht⟩) hS.2.2 hdg hk
theorem rt_z {post : Int32 → St → Prop} {r : Int32} (S : CallFix p m c cc nL s args wsA own) (hr : meth.sig.returnType = some .boolean) (hk : meth.locks = false) (hK : va_K D vwCl ty s) (hP : va_P D vwCl (w u) H) (hD : va_D A (w u)) (hS : va_S A s.heap H locs) (hn : narrow .boolean (.int r) = .int r) (hp : post r u) (hdg : decode cc i = .ok (.ireturn, 1)) : W p l e R s m args below meth c H locs 0 0 (MQ below (va_Qi post (BW D w ty A) A) args s 0 0 A) (F0 m i ls [.int r]) :=
  W.zret S.1 S.2.1 hr hn (fun t ht hW => ⟨⟨r, u, rfl, hp, by rw [ht]; exact hP, va_K.moved hW.alike hK, hD⟩, hS.F ht⟩) hS.2.2 hdg hk
theorem rt_v {post : St → Prop} (S : CallFix p m c cc nL s args wsA own) (hr : meth.sig.returnType = none) (hk : meth.locks = false) (hK : va_K D vwCl ty s) (hP : va_P D vwCl (w u) H) (hD : va_D A (w u)) (hS : va_S A s.heap H locs) (hp : post u) (hdg : decode cc i = .ok (.return_, 1)) : W p l e R s m args below meth c H locs 0 0 (MQ below (va_Qv post (BW D w ty A) A) args s 0 0 A) (F0 m i ls []) :=
  W.vret S.1 S.2.1 hr (fun t ht hW => ⟨⟨u, rfl, hp, by rw [ht]; exact hP, va_K.moved hW.alike hK, hD⟩, hS.F ht⟩) hS.2.2 hdg hk
theorem fr_w (hD : va_D A (w u)) (hS : va_S A H0 H locs) (hA : ∀ q, H0.size ≤ q → A q) : ∀ q, va_A (w u) H.size q → A q := fun q h => by
  rcases h with ⟨k, e, h⟩ | h
  · exact hD.2 k (q, e) h
  · exact hA q (Nat.le_trans hS.1 h)
theorem bl_w {av : List Value} {sz : Nat} : FrameBlind (va_Pc av (PW D w ty sz u)) := fun a U g mk q => by
  obtain ⟨q0, q1, qP, qK, qD, qN⟩ := q
  exact ⟨q0, q1, qP, va_K.moved (u := U) (U := U.calling g mk a) (Vm.Alike.refl U.vm) qK, qD, nw_same rfl qN⟩
theorem pr_w {av : List Value} (hN : nw s) (hK : va_K D vwCl ty s) (hP : va_P D vwCl (w u) H) (hD : va_D A (w u)) : ∀ U : State, U.heap = H → s.WarmedH U.vm → va_Pc av (PW D w ty H.size u) av.toArray U := fun U hU hW =>
  ⟨rfl, by rw [hU], by rw [hU]; exact hP, va_K.moved hW.alike hK, hD.weaken (fun _ _ _ _ => trivial), nw_warm hW hN⟩
theorem wg_c {y : MethodName} {mL : Nat} {rt : Option FieldType} (h : Cond.code y cc mL rt ∈ wsA) : GoodIn wsA (.code y cc mL rt :: wsA) := fun w hw => by
  rcases List.mem_cons.mp hw with rfl | hw
  · exact ⟨h, Or.inl rfl⟩
  · exact ⟨hw, good_of_word (wsA_good w hw)⟩
end RowsShort
/-- what a call by invokevirtual asks of the tables: once for each entry of a pool -/
def LkV (own : String) (idx : Nat) (y : MethodName) (cc : ByteArray) (mL : Nat) (rt : Option FieldType) (n : Nat) : Prop := (Cond.code y cc mL rt ∈ wsA ∧ Cond.methodLink own idx y ∈ wsA ∧ Cond.instanceMethod y ∈ wsA ∧ Cond.selects y.cls y y ∈ wsA ∧ Cond.initialized y.cls ∈ wsA) ∧ y.cls ≠ "java/lang/invoke/MethodHandle" ∧ y.cls ≠ "java/lang/invoke/VarHandle" ∧ (parseMethodDescriptor y.desc).map (fun d => d.parameters.length) = some n
def LkS (own : String) (idx : Nat) (y : MethodName) (cc : ByteArray) (mL : Nat) (rt : Option FieldType) (n : Nat) : Prop := (Cond.code y cc mL rt ∈ wsA ∧ Cond.methodLink own idx y ∈ wsA ∧ Cond.static y ∈ wsA ∧ Cond.initialized y.cls ∈ wsA) ∧ y.cls ≠ "java/lang/invoke/MethodHandle" ∧ y.cls ≠ "java/lang/invoke/VarHandle" ∧ (parseMethodDescriptor y.desc).map (fun d => d.parameters.length) = some n
def LkN (y : MethodName) (cc : ByteArray) (mL : Nat) (rt : Option FieldType) (n : Nat) : Prop := (Cond.code y cc mL rt ∈ wsA ∧ Cond.instanceMethod y ∈ wsA ∧ Cond.selects y.cls y y ∈ wsA ∧ Cond.initialized y.cls ∈ wsA) ∧ y.cls ≠ "java/lang/invoke/MethodHandle" ∧ y.cls ≠ "java/lang/invoke/VarHandle" ∧ (parseMethodDescriptor y.desc).map (fun d => d.parameters.length) = some n
section Calls
variable {p : Program} {l : Launch} {e : Env} {R : Room} {s : State} {m : MethodId} {args : Array Value} {below : List Frame} {meth : Method} {c : Code} {H : Heap} {locs : List Loc} {cells slots : Nat} {Q : State → Prop}
variable {cc : ByteArray} {i nL : Nat} {ls : Array Slot} {rest : List Value} {D : va_G} {A : Nat → Prop} {H0 : Heap} {own : String}
variable {w : St → va_W} {ty : List (ClassId × FieldType)} {u : St} {y : MethodName} {ccy : ByteArray} {mL d n idx b : Nat} {rt : Option FieldType} {As st0 : List Value}
theorem cl_i {post : Int32 → St → Prop} (S : CallFix p m c cc nL s args wsA own) (hN : nw s) (hK : va_K D vwCl ty s) (hP : va_P D vwCl (w u) H) (hD : va_D A (w u)) (hS : va_S A H0 H locs) (hA : ∀ q, H0.size ≤ q → A q) (hz : ls.size = nL)
    (hM : MI l D w ty H.size y ccy mL rt d (.ref b :: As) u post) (hL : LkV own idx y ccy mL rt n) (hb : ∃ cell : Cell, H[b]? = some cell ∧ cell.vm.isStatics = false ∧ s.vm.findClass y.cls = some cell.cls)
    (hR : d + 1 ≤ R.frames ∧ 8 + (mL + 11) + 40 * d ≤ R.locals) (hn : As.length = n) (hst : st0 = As.reverse ++ .ref b :: rest) (hW : (rest.map fun v => v.category).sum ≤ 8) (hcs : cells ≤ R.cells ∧ slots ≤ R.slots) (hdg : decode cc i = .ok (.invokevirtual idx, 3))
    (kk : ∀ (r : Int32) (u1 : St) (H1 : Heap) (locs1 : List Loc), post r u1 → va_P D vwCl (w u1) H1 → va_D A (w u1) → va_S A H0 H1 locs1 → W p l e R s m args below meth c H1 locs1 cells slots Q (F0 m (i + 3) ls (.int r :: rest))) : W p l e R s m args below meth c H locs cells slots Q (F0 m i ls st0) := by
  obtain ⟨⟨c1, c2, c3, c4, c5⟩, e1, e2, e3⟩ := hL
  have hts := S.2.2.2.2
  have hF := fr_w hD hS hA
  refine va_calli (va_runV (As := As) (rest := rest) S hM ⟨callB_of n hts (wg_c c1) rfl rfl rfl (hts _ c5) (hts _ c2) ⟨e1, e2, e3⟩ hR, hts _ c3, hts _ c4⟩ ⟨bl_w, hb, pr_w hN hK hP hD⟩ rfl hn hz hst (lv_room hW) hdg hcs) hS (fun q _ h => hF q h) hF (fun r u1 t H1 locs1 ht hvm hw hB hz1 hk1 hS1 => ?_)
  obtain ⟨hP1, hK1, hD1⟩ := hB
  rw [ht] at hP1
  exact kk r u1 H1 locs1 hw hP1 (hD1.weaken (fun _ q _ h => hF q.1 h)) hS1
theorem cl_v {post : St → Prop} (S : CallFix p m c cc nL s args wsA own) (hN : nw s) (hK : va_K D vwCl ty s) (hP : va_P D vwCl (w u) H) (hD : va_D A (w u)) (hS : va_S A H0 H locs) (hA : ∀ q, H0.size ≤ q → A q) (hz : ls.size = nL)
    (hM : MV l D w ty H.size y ccy mL d (.ref b :: As) u post) (hL : LkV own idx y ccy mL none n) (hb : ∃ cell : Cell, H[b]? = some cell ∧ cell.vm.isStatics = false ∧ s.vm.findClass y.cls = some cell.cls)
    (hR : d + 1 ≤ R.frames ∧ 8 + (mL + 11) + 40 * d ≤ R.locals) (hn : As.length = n) (hst : st0 = As.reverse ++ .ref b :: rest) (hW : (rest.map fun v => v.category).sum ≤ 8) (hcs : cells ≤ R.cells ∧ slots ≤ R.slots) (hdg : decode cc i = .ok (.invokevirtual idx, 3))
    (kk : ∀ (u1 : St) (H1 : Heap) (locs1 : List Loc), post u1 → va_P D vwCl (w u1) H1 → va_D A (w u1) → va_S A H0 H1 locs1 → W p l e R s m args below meth c H1 locs1 cells slots Q (F0 m (i + 3) ls rest)) : W p l e R s m args below meth c H locs cells slots Q (F0 m i ls st0) := by
  obtain ⟨⟨c1, c2, c3, c4, c5⟩, e1, e2, e3⟩ := hL
  have hts := S.2.2.2.2
  have hF := fr_w hD hS hA
  refine va_callv (va_runV (As := As) (rest := rest) S hM ⟨callB_of n hts (wg_c c1) rfl rfl rfl (hts _ c5) (hts _ c2) ⟨e1, e2, e3⟩ hR, hts _ c3, hts _ c4⟩ ⟨bl_w, hb, pr_w hN hK hP hD⟩ rfl hn hz hst (lv_room hW) hdg hcs) hS (fun q _ h => hF q h) hF (fun u1 t H1 locs1 ht hvm hw hB hz1 hk1 hS1 => ?_)
  obtain ⟨hP1, hK1, hD1⟩ := hB
  rw [ht] at hP1
  exact kk u1 H1 locs1 hw hP1 (hD1.weaken (fun _ q _ h => hF q.1 h)) hS1
theorem cl_iS {post : Int32 → St → Prop} (S : CallFix p m c cc nL s args wsA own) (hN : nw s) (hK : va_K D vwCl ty s) (hP : va_P D vwCl (w u) H) (hD : va_D A (w u)) (hS : va_S A H0 H locs) (hA : ∀ q, H0.size ≤ q → A q) (hz : ls.size = nL)
    (hM : MI l D w ty H.size y ccy mL rt d As u post) (hL : LkS own idx y ccy mL rt n)
    (hR : d + 1 ≤ R.frames ∧ 8 + (mL + 11) + 40 * d ≤ R.locals) (hn : As.length = n) (hst : st0 = As.reverse ++ rest) (hW : (rest.map fun v => v.category).sum ≤ 8) (hcs : cells ≤ R.cells ∧ slots ≤ R.slots) (hdg : decode cc i = .ok (.invokestatic idx, 3))
    (kk : ∀ (r : Int32) (u1 : St) (H1 : Heap) (locs1 : List Loc), post r u1 → va_P D vwCl (w u1) H1 → va_D A (w u1) → va_S A H0 H1 locs1 → W p l e R s m args below meth c H1 locs1 cells slots Q (F0 m (i + 3) ls (.int r :: rest))) : W p l e R s m args below meth c H locs cells slots Q (F0 m i ls st0) := by
  obtain ⟨⟨c1, c2, c3, c5⟩, e1, e2, e3⟩ := hL
  have hts := S.2.2.2.2
  have hF := fr_w hD hS hA
  refine va_calli (va_runS (As := As) (rest := rest) S hM ⟨callB_of n hts (wg_c c1) rfl rfl rfl (hts _ c5) (hts _ c2) ⟨e1, e2, e3⟩ hR, hts _ c3⟩ ⟨bl_w, pr_w hN hK hP hD⟩ rfl hn hz hst (lv_room hW) hdg hcs) hS (fun q _ h => hF q h) hF (fun r u1 t H1 locs1 ht hvm hw hB hz1 hk1 hS1 => ?_)
  obtain ⟨hP1, hK1, hD1⟩ := hB
  rw [ht] at hP1
  exact kk r u1 H1 locs1 hw hP1 (hD1.weaken (fun _ q _ h => hF q.1 h)) hS1
theorem cl_iN {post : Int32 → St → Prop} {host : String} (S : CallFix p m c cc nL s args wsA own) (hN : nw s) (hK : va_K D vwCl ty s) (hP : va_P D vwCl (w u) H) (hD : va_D A (w u)) (hS : va_S A H0 H locs) (hA : ∀ q, H0.size ≤ q → A q) (hz : ls.size = nL)
    (hM : MI l D w ty H.size y ccy mL rt d (.ref b :: As) u post) (hL : LkN y ccy mL rt n) (hl : va_Nw (.methodLinkNest own idx y host) s) (hb : ∃ cell : Cell, H[b]? = some cell ∧ cell.vm.isStatics = false ∧ s.vm.findClass y.cls = some cell.cls)
    (hR : d + 1 ≤ R.frames ∧ 8 + (mL + 11) + 40 * d ≤ R.locals) (hn : As.length = n) (hst : st0 = As.reverse ++ .ref b :: rest) (hW : (rest.map fun v => v.category).sum ≤ 8) (hcs : cells ≤ R.cells ∧ slots ≤ R.slots) (hdg : decode cc i = .ok (.invokevirtual idx, 3))
    (kk : ∀ (r : Int32) (u1 : St) (H1 : Heap) (locs1 : List Loc), post r u1 → va_P D vwCl (w u1) H1 → va_D A (w u1) → va_S A H0 H1 locs1 → W p l e R s m args below meth c H1 locs1 cells slots Q (F0 m (i + 3) ls (.int r :: rest))) : W p l e R s m args below meth c H locs cells slots Q (F0 m i ls st0) := by
  obtain ⟨⟨c1, c3, c4, c5⟩, e1, e2, e3⟩ := hL
  have hts := S.2.2.2.2
  have hF := fr_w hD hS hA
  refine va_calli (va_runVN (As := As) (rest := rest) S hM ⟨va_cnB n hts (wg_c c1) rfl rfl rfl hl (hts _ c5) ⟨e1, e2, e3⟩ hR, hts _ c3, hts _ c4⟩ ⟨bl_w, hb, pr_w hN hK hP hD⟩ rfl hn hz hst (lv_room hW) hdg hcs) hS (fun q _ h => hF q h) hF (fun r u1 t H1 locs1 ht hvm hw hB hz1 hk1 hS1 => ?_)
  obtain ⟨hP1, hK1, hD1⟩ := hB
  rw [ht] at hP1
  exact kk r u1 H1 locs1 hw hP1 (hD1.weaken (fun _ q _ h => hF q.1 h)) hS1
theorem cl_vN {post : St → Prop} {host : String} (S : CallFix p m c cc nL s args wsA own) (hN : nw s) (hK : va_K D vwCl ty s) (hP : va_P D vwCl (w u) H) (hD : va_D A (w u)) (hS : va_S A H0 H locs) (hA : ∀ q, H0.size ≤ q → A q) (hz : ls.size = nL)
    (hM : MV l D w ty H.size y ccy mL d (.ref b :: As) u post) (hL : LkN y ccy mL none n) (hl : va_Nw (.methodLinkNest own idx y host) s) (hb : ∃ cell : Cell, H[b]? = some cell ∧ cell.vm.isStatics = false ∧ s.vm.findClass y.cls = some cell.cls)
    (hR : d + 1 ≤ R.frames ∧ 8 + (mL + 11) + 40 * d ≤ R.locals) (hn : As.length = n) (hst : st0 = As.reverse ++ .ref b :: rest) (hW : (rest.map fun v => v.category).sum ≤ 8) (hcs : cells ≤ R.cells ∧ slots ≤ R.slots) (hdg : decode cc i = .ok (.invokevirtual idx, 3))
    (kk : ∀ (u1 : St) (H1 : Heap) (locs1 : List Loc), post u1 → va_P D vwCl (w u1) H1 → va_D A (w u1) → va_S A H0 H1 locs1 → W p l e R s m args below meth c H1 locs1 cells slots Q (F0 m (i + 3) ls rest)) : W p l e R s m args below meth c H locs cells slots Q (F0 m i ls st0) := by
  obtain ⟨⟨c1, c3, c4, c5⟩, e1, e2, e3⟩ := hL
  have hts := S.2.2.2.2
  have hF := fr_w hD hS hA
  refine va_callv (va_runVN (As := As) (rest := rest) S hM ⟨va_cnB n hts (wg_c c1) rfl rfl rfl hl (hts _ c5) ⟨e1, e2, e3⟩ hR, hts _ c3, hts _ c4⟩ ⟨bl_w, hb, pr_w hN hK hP hD⟩ rfl hn hz hst (lv_room hW) hdg hcs) hS (fun q _ h => hF q h) hF (fun u1 t H1 locs1 ht hvm hw hB hz1 hk1 hS1 => ?_)
  obtain ⟨hP1, hK1, hD1⟩ := hB
  rw [ht] at hP1
  exact kk u1 H1 locs1 hw hP1 (hD1.weaken (fun _ q _ h => hF q.1 h)) hS1
end Calls
set_option maxRecDepth 20000 in
theorem k_L_9 : LkS RL 9 yL_cell cL_cell 2 (some .int) 2 := ⟨⟨(wm_2 (i := 122) rfl rfl), (wm_2 (i := 120) rfl rfl), (wm_2 (i := 121) rfl rfl), (wm_1 (i := 0) rfl rfl)⟩, by decide, by decide, by decide +kernel⟩
set_option maxRecDepth 20000 in
theorem k_L_21 : LkV RL 21 yX_init_ cX_init_ 1 none 0 := ⟨⟨(wm_1 (i := 109) rfl rfl), (wm_1 (i := 106) rfl rfl), (wm_1 (i := 107) rfl rfl), (wm_1 (i := 108) rfl rfl), (wm_1 (i := 1) rfl rfl)⟩, by decide, by decide, by decide +kernel⟩
set_option maxRecDepth 20000 in
theorem k_L_24 : LkV RL 24 yM_init_ cM_init_ 1 none 0 := ⟨⟨(wm_2 (i := 196) rfl rfl), (wm_2 (i := 193) rfl rfl), (wm_2 (i := 194) rfl rfl), (wm_2 (i := 195) rfl rfl), (wm_1 (i := 5) rfl rfl)⟩, by decide, by decide, by decide +kernel⟩
set_option maxRecDepth 20000 in
theorem k_L_25 : LkV RL 25 yX_deposit cX_deposit 3 (some .boolean) 2 := ⟨⟨(wm_1 (i := 121) rfl rfl), (wm_1 (i := 118) rfl rfl), (wm_1 (i := 119) rfl rfl), (wm_1 (i := 120) rfl rfl), (wm_1 (i := 1) rfl rfl)⟩, by decide, by decide, by decide +kernel⟩
set_option maxRecDepth 20000 in
theorem k_L_29 : LkV RL 29 yM_deposit cM_deposit 3 (some .boolean) 2 := ⟨⟨(wm_2 (i := 200) rfl rfl), (wm_2 (i := 197) rfl rfl), (wm_2 (i := 198) rfl rfl), (wm_2 (i := 199) rfl rfl), (wm_1 (i := 5) rfl rfl)⟩, by decide, by decide, by decide +kernel⟩
set_option maxRecDepth 20000 in
theorem k_L_30 : LkV RL 30 yX_examine cX_examine 2 (some .int) 1 := ⟨⟨(wm_1 (i := 132) rfl rfl), (wm_1 (i := 129) rfl rfl), (wm_1 (i := 130) rfl rfl), (wm_1 (i := 131) rfl rfl), (wm_1 (i := 1) rfl rfl)⟩, by decide, by decide, by decide +kernel⟩
set_option maxRecDepth 20000 in
theorem k_L_34 : LkV RL 34 yM_examine cM_examine 2 (some .int) 1 := ⟨⟨(wm_2 (i := 207) rfl rfl), (wm_2 (i := 204) rfl rfl), (wm_2 (i := 205) rfl rfl), (wm_2 (i := 206) rfl rfl), (wm_1 (i := 5) rfl rfl)⟩, by decide, by decide, by decide +kernel⟩
set_option maxRecDepth 20000 in
theorem k_L_37 : LkV RL 37 yX_load cX_load 6 (some .boolean) 3 := ⟨⟨(wm_1 (i := 140) rfl rfl), (wm_1 (i := 137) rfl rfl), (wm_1 (i := 138) rfl rfl), (wm_1 (i := 139) rfl rfl), (wm_1 (i := 1) rfl rfl)⟩, by decide, by decide, by decide +kernel⟩
set_option maxRecDepth 20000 in
theorem k_L_41 : LkV RL 41 yM_load cM_load 6 (some .boolean) 3 := ⟨⟨(wm_2 (i := 211) rfl rfl), (wm_2 (i := 208) rfl rfl), (wm_2 (i := 209) rfl rfl), (wm_2 (i := 210) rfl rfl), (wm_1 (i := 5) rfl rfl)⟩, by decide, by decide, by decide +kernel⟩
set_option maxRecDepth 20000 in
theorem k_L_42 : LkV RL 42 yX_start cX_start 2 (some .boolean) 1 := ⟨⟨(wm_1 (i := 144) rfl rfl), (wm_1 (i := 141) rfl rfl), (wm_1 (i := 142) rfl rfl), (wm_1 (i := 143) rfl rfl), (wm_1 (i := 1) rfl rfl)⟩, by decide, by decide, by decide +kernel⟩
set_option maxRecDepth 20000 in
theorem k_L_46 : LkV RL 46 yM_start cM_start 2 (some .boolean) 1 := ⟨⟨(wm_2 (i := 215) rfl rfl), (wm_2 (i := 212) rfl rfl), (wm_2 (i := 213) rfl rfl), (wm_2 (i := 214) rfl rfl), (wm_1 (i := 5) rfl rfl)⟩, by decide, by decide, by decide +kernel⟩
set_option maxRecDepth 20000 in
theorem k_L_47 : LkV RL 47 yX_switches cX_switches 2 none 1 := ⟨⟨(wm_1 (i := 148) rfl rfl), (wm_1 (i := 145) rfl rfl), (wm_1 (i := 146) rfl rfl), (wm_1 (i := 147) rfl rfl), (wm_1 (i := 1) rfl rfl)⟩, by decide, by decide, by decide +kernel⟩
set_option maxRecDepth 20000 in
theorem k_L_50 : LkV RL 50 yM_switches cM_switches 2 none 1 := ⟨⟨(wm_2 (i := 219) rfl rfl), (wm_2 (i := 216) rfl rfl), (wm_2 (i := 217) rfl rfl), (wm_2 (i := 218) rfl rfl), (wm_1 (i := 5) rfl rfl)⟩, by decide, by decide, by decide +kernel⟩
set_option maxRecDepth 20000 in
theorem k_L_51 : LkV RL 51 yX_key cX_key 2 none 1 := ⟨⟨(wm_1 (i := 152) rfl rfl), (wm_1 (i := 149) rfl rfl), (wm_1 (i := 150) rfl rfl), (wm_1 (i := 151) rfl rfl), (wm_1 (i := 1) rfl rfl)⟩, by decide, by decide, by decide +kernel⟩
set_option maxRecDepth 20000 in
theorem k_L_54 : LkV RL 54 yM_key cM_key 2 none 1 := ⟨⟨(wm_2 (i := 223) rfl rfl), (wm_2 (i := 220) rfl rfl), (wm_2 (i := 221) rfl rfl), (wm_2 (i := 222) rfl rfl), (wm_1 (i := 5) rfl rfl)⟩, by decide, by decide, by decide +kernel⟩
set_option maxRecDepth 20000 in
theorem k_L_55 : LkV RL 55 yX_microStep cX_microStep 1 (some .int) 0 := ⟨⟨(wm_1 (i := 160) rfl rfl), (wm_1 (i := 157) rfl rfl), (wm_1 (i := 158) rfl rfl), (wm_1 (i := 159) rfl rfl), (wm_1 (i := 1) rfl rfl)⟩, by decide, by decide, by decide +kernel⟩
set_option maxRecDepth 20000 in
theorem k_L_59 : LkV RL 59 yM_microStep cM_microStep 1 (some .int) 0 := ⟨⟨(wm_2 (i := 227) rfl rfl), (wm_2 (i := 224) rfl rfl), (wm_2 (i := 225) rfl rfl), (wm_2 (i := 226) rfl rfl), (wm_1 (i := 5) rfl rfl)⟩, by decide, by decide, by decide +kernel⟩
set_option maxRecDepth 20000 in
theorem k_L_60 : LkV RL 60 yX_step cX_step 3 (some .int) 0 := ⟨⟨(wm_2 (i := 97) rfl rfl), (wm_2 (i := 94) rfl rfl), (wm_2 (i := 95) rfl rfl), (wm_2 (i := 96) rfl rfl), (wm_1 (i := 1) rfl rfl)⟩, by decide, by decide, by decide +kernel⟩
set_option maxRecDepth 20000 in
theorem k_L_63 : LkV RL 63 yM_step cM_step 3 (some .int) 0 := ⟨⟨(wm_3 (i := 27) rfl rfl), (wm_3 (i := 24) rfl rfl), (wm_3 (i := 25) rfl rfl), (wm_3 (i := 26) rfl rfl), (wm_1 (i := 5) rfl rfl)⟩, by decide, by decide, by decide +kernel⟩
set_option maxRecDepth 20000 in
theorem k_L_64 : LkV RL 64 yX_run cX_run 3 (some .int) 1 := ⟨⟨(wm_2 (i := 102) rfl rfl), (wm_2 (i := 99) rfl rfl), (wm_2 (i := 100) rfl rfl), (wm_2 (i := 101) rfl rfl), (wm_1 (i := 1) rfl rfl)⟩, by decide, by decide, by decide +kernel⟩
set_option maxRecDepth 20000 in
theorem k_L_67 : LkV RL 67 yM_run cM_run 4 (some .int) 1 := ⟨⟨(wm_3 (i := 32) rfl rfl), (wm_3 (i := 29) rfl rfl), (wm_3 (i := 30) rfl rfl), (wm_3 (i := 31) rfl rfl), (wm_1 (i := 5) rfl rfl)⟩, by decide, by decide, by decide +kernel⟩
set_option maxRecDepth 20000 in
theorem k_L_68 : LkV RL 68 yX_look cX_look 2 (some .int) 1 := ⟨⟨(wm_2 (i := 107) rfl rfl), (wm_2 (i := 104) rfl rfl), (wm_2 (i := 105) rfl rfl), (wm_2 (i := 106) rfl rfl), (wm_1 (i := 1) rfl rfl)⟩, by decide, by decide, by decide +kernel⟩
set_option maxRecDepth 20000 in
theorem k_L_71 : LkV RL 71 yM_look cM_look 2 (some .int) 1 := ⟨⟨(wm_3 (i := 37) rfl rfl), (wm_3 (i := 34) rfl rfl), (wm_3 (i := 35) rfl rfl), (wm_3 (i := 36) rfl rfl), (wm_1 (i := 5) rfl rfl)⟩, by decide, by decide, by decide +kernel⟩
set_option maxRecDepth 20000 in
theorem k_L_72 : LkV RL 72 yX_printed cX_printed 2 (some .int) 1 := ⟨⟨(wm_2 (i := 115) rfl rfl), (wm_2 (i := 112) rfl rfl), (wm_2 (i := 113) rfl rfl), (wm_2 (i := 114) rfl rfl), (wm_1 (i := 1) rfl rfl)⟩, by decide, by decide, by decide +kernel⟩
set_option maxRecDepth 20000 in
theorem k_L_75 : LkV RL 75 yM_printed cM_printed 2 (some .int) 1 := ⟨⟨(wm_3 (i := 45) rfl rfl), (wm_3 (i := 42) rfl rfl), (wm_3 (i := 43) rfl rfl), (wm_3 (i := 44) rfl rfl), (wm_1 (i := 5) rfl rfl)⟩, by decide, by decide, by decide +kernel⟩
set_option maxRecDepth 20000 in
theorem k_M_72 : LkS RM 72 yM_isAddress cM_isAddress 1 (some .boolean) 1 := ⟨⟨(wm_2 (i := 203) rfl rfl), (wm_2 (i := 201) rfl rfl), (wm_2 (i := 202) rfl rfl), (wm_1 (i := 5) rfl rfl)⟩, by decide, by decide, by decide +kernel⟩
set_option maxRecDepth 20000 in
theorem k_M_79 : LkV RM 79 yM_skip cM_skip 2 none 1 := ⟨⟨(wm_2 (i := 235) rfl rfl), (wm_2 (i := 232) rfl rfl), (wm_2 (i := 234) rfl rfl), (wm_0 (i := 51) rfl rfl), (wm_1 (i := 5) rfl rfl)⟩, by decide, by decide, by decide +kernel⟩
set_option maxRecDepth 20000 in
theorem k_M_83 : LkV RM 83 yM_bit cM_bit 2 (some .boolean) 1 := ⟨⟨(wm_2 (i := 239) rfl rfl), (wm_2 (i := 236) rfl rfl), (wm_2 (i := 238) rfl rfl), (wm_0 (i := 52) rfl rfl), (wm_1 (i := 5) rfl rfl)⟩, by decide, by decide, by decide +kernel⟩
set_option maxRecDepth 20000 in
theorem k_M_86 : LkV RM 86 yM_add cM_add 3 none 1 := ⟨⟨(wm_3 (i := 7) rfl rfl), (wm_3 (i := 4) rfl rfl), (wm_3 (i := 6) rfl rfl), (wm_0 (i := 54) rfl rfl), (wm_1 (i := 5) rfl rfl)⟩, by decide, by decide, by decide +kernel⟩
set_option maxRecDepth 20000 in
theorem k_M_90 : LkV RM 90 yM_rotate cM_rotate 2 none 0 := ⟨⟨(wm_3 (i := 15) rfl rfl), (wm_3 (i := 12) rfl rfl), (wm_3 (i := 14) rfl rfl), (wm_0 (i := 56) rfl rfl), (wm_1 (i := 5) rfl rfl)⟩, by decide, by decide, by decide +kernel⟩
set_option maxRecDepth 20000 in
theorem k_M_93 : LkV RM 93 yM_fetch cM_fetch 1 (some .int) 0 := ⟨⟨(wm_2 (i := 231) rfl rfl), (wm_2 (i := 228) rfl rfl), (wm_2 (i := 230) rfl rfl), (wm_0 (i := 50) rfl rfl), (wm_1 (i := 5) rfl rfl)⟩, by decide, by decide, by decide +kernel⟩
set_option maxRecDepth 20000 in
theorem k_M_97 : LkV RM 97 yM_memory cM_memory 1 (some .int) 0 := ⟨⟨(wm_3 (i := 3) rfl rfl), (wm_3 (i := 0) rfl rfl), (wm_3 (i := 2) rfl rfl), (wm_0 (i := 53) rfl rfl), (wm_1 (i := 5) rfl rfl)⟩, by decide, by decide, by decide +kernel⟩
set_option maxRecDepth 20000 in
theorem k_M_100 : LkV RM 100 yM_operate cM_operate 1 (some .int) 0 := ⟨⟨(wm_3 (i := 11) rfl rfl), (wm_3 (i := 8) rfl rfl), (wm_3 (i := 10) rfl rfl), (wm_0 (i := 55) rfl rfl), (wm_1 (i := 5) rfl rfl)⟩, by decide, by decide, by decide +kernel⟩
set_option maxRecDepth 20000 in
theorem k_M_103 : LkV RM 103 yM_test cM_test 3 (some .int) 0 := ⟨⟨(wm_3 (i := 19) rfl rfl), (wm_3 (i := 16) rfl rfl), (wm_3 (i := 18) rfl rfl), (wm_0 (i := 57) rfl rfl), (wm_1 (i := 5) rfl rfl)⟩, by decide, by decide, by decide +kernel⟩
set_option maxRecDepth 20000 in
theorem k_M_106 : LkV RM 106 yM_device cM_device 2 (some .int) 0 := ⟨⟨(wm_3 (i := 23) rfl rfl), (wm_3 (i := 20) rfl rfl), (wm_3 (i := 22) rfl rfl), (wm_0 (i := 58) rfl rfl), (wm_1 (i := 5) rfl rfl)⟩, by decide, by decide, by decide +kernel⟩
set_option maxRecDepth 20000 in
theorem k_M_109 : LkV RM 109 yM_microStep cM_microStep 1 (some .int) 0 := ⟨⟨(wm_2 (i := 227) rfl rfl), (wm_3 (i := 28) rfl rfl), (wm_2 (i := 225) rfl rfl), (wm_2 (i := 226) rfl rfl), (wm_1 (i := 5) rfl rfl)⟩, by decide, by decide, by decide +kernel⟩
set_option maxRecDepth 20000 in
theorem k_M_112 : LkV RM 112 yM_step cM_step 3 (some .int) 0 := ⟨⟨(wm_3 (i := 27) rfl rfl), (wm_3 (i := 33) rfl rfl), (wm_3 (i := 25) rfl rfl), (wm_3 (i := 26) rfl rfl), (wm_1 (i := 5) rfl rfl)⟩, by decide, by decide, by decide +kernel⟩
set_option maxRecDepth 20000 in
theorem k_M_115 : LkV RM 115 yM_flags cM_flags 1 (some .int) 0 := ⟨⟨(wm_3 (i := 41) rfl rfl), (wm_3 (i := 38) rfl rfl), (wm_3 (i := 40) rfl rfl), (wm_0 (i := 59) rfl rfl), (wm_1 (i := 5) rfl rfl)⟩, by decide, by decide, by decide +kernel⟩
set_option maxRecDepth 20000 in
theorem k_P_23 : LkV RP 23 yP_isFull cP_isFull 1 (some .boolean) 0 := ⟨⟨(wm_1 (i := 164) rfl rfl), (wm_2 (i := 89) rfl rfl), (wm_1 (i := 163) rfl rfl), (wm_0 (i := 5) rfl rfl), (wm_1 (i := 3) rfl rfl)⟩, by decide, by decide, by decide +kernel⟩
set_option maxRecDepth 20000 in
theorem k_X_83 : LkS RX 83 yX_isAddress cX_isAddress 1 (some .boolean) 1 := ⟨⟨(wm_1 (i := 124) rfl rfl), (wm_1 (i := 122) rfl rfl), (wm_1 (i := 123) rfl rfl), (wm_1 (i := 1) rfl rfl)⟩, by decide, by decide, by decide +kernel⟩
set_option maxRecDepth 20000 in
theorem k_X_87 : LkV RX 87 yX_write cX_write 3 none 2 := ⟨⟨(wm_1 (i := 128) rfl rfl), (wm_1 (i := 125) rfl rfl), (wm_1 (i := 127) rfl rfl), (wm_0 (i := 2) rfl rfl), (wm_1 (i := 1) rfl rfl)⟩, by decide, by decide, by decide +kernel⟩
set_option maxRecDepth 20000 in
theorem k_X_91 : LkV RX 91 yX_read cX_read 2 (some .int) 1 := ⟨⟨(wm_1 (i := 136) rfl rfl), (wm_1 (i := 133) rfl rfl), (wm_1 (i := 135) rfl rfl), (wm_0 (i := 3) rfl rfl), (wm_1 (i := 1) rfl rfl)⟩, by decide, by decide, by decide +kernel⟩
set_option maxRecDepth 20000 in
theorem k_X_105 : LkV RX 105 yX_perform cX_perform 2 (some .int) 1 := ⟨⟨(wm_1 (i := 168) rfl rfl), (wm_1 (i := 165) rfl rfl), (wm_1 (i := 167) rfl rfl), (wm_0 (i := 6) rfl rfl), (wm_1 (i := 1) rfl rfl)⟩, by decide, by decide, by decide +kernel⟩
set_option maxRecDepth 20000 in
theorem k_X_108 : LkV RX 108 yX_microStep cX_microStep 1 (some .int) 0 := ⟨⟨(wm_1 (i := 160) rfl rfl), (wm_2 (i := 98) rfl rfl), (wm_1 (i := 158) rfl rfl), (wm_1 (i := 159) rfl rfl), (wm_1 (i := 1) rfl rfl)⟩, by decide, by decide, by decide +kernel⟩
set_option maxRecDepth 20000 in
theorem k_X_112 : LkV RX 112 yX_step cX_step 3 (some .int) 0 := ⟨⟨(wm_2 (i := 97) rfl rfl), (wm_2 (i := 103) rfl rfl), (wm_2 (i := 95) rfl rfl), (wm_2 (i := 96) rfl rfl), (wm_1 (i := 1) rfl rfl)⟩, by decide, by decide, by decide +kernel⟩
set_option maxRecDepth 20000 in
theorem k_X_115 : LkV RX 115 yX_conditions cX_conditions 1 (some .int) 0 := ⟨⟨(wm_2 (i := 111) rfl rfl), (wm_2 (i := 108) rfl rfl), (wm_2 (i := 110) rfl rfl), (wm_0 (i := 48) rfl rfl), (wm_1 (i := 1) rfl rfl)⟩, by decide, by decide, by decide +kernel⟩
set_option maxRecDepth 20000 in
theorem k_X_131 : LkV RX 131 yX_begin cX_begin 1 (some .int) 0 := ⟨⟨(wm_1 (i := 172) rfl rfl), (wm_1 (i := 169) rfl rfl), (wm_1 (i := 171) rfl rfl), (wm_0 (i := 7) rfl rfl), (wm_1 (i := 1) rfl rfl)⟩, by decide, by decide, by decide +kernel⟩
set_option maxRecDepth 20000 in
theorem k_X_134 : LkV RX 134 yX_fetch cX_fetch 1 (some .int) 0 := ⟨⟨(wm_1 (i := 180) rfl rfl), (wm_1 (i := 177) rfl rfl), (wm_1 (i := 179) rfl rfl), (wm_0 (i := 9) rfl rfl), (wm_1 (i := 1) rfl rfl)⟩, by decide, by decide, by decide +kernel⟩
set_option maxRecDepth 20000 in
theorem k_X_137 : LkV RX 137 yX_findAddress cX_findAddress 2 (some .int) 0 := ⟨⟨(wm_1 (i := 184) rfl rfl), (wm_1 (i := 181) rfl rfl), (wm_1 (i := 183) rfl rfl), (wm_0 (i := 10) rfl rfl), (wm_1 (i := 1) rfl rfl)⟩, by decide, by decide, by decide +kernel⟩
set_option maxRecDepth 20000 in
theorem k_X_140 : LkV RX 140 yX_readPointer cX_readPointer 1 (some .int) 0 := ⟨⟨(wm_1 (i := 196) rfl rfl), (wm_1 (i := 193) rfl rfl), (wm_1 (i := 195) rfl rfl), (wm_0 (i := 13) rfl rfl), (wm_1 (i := 1) rfl rfl)⟩, by decide, by decide, by decide +kernel⟩
set_option maxRecDepth 20000 in
theorem k_X_143 : LkV RX 143 yX_advancePointer cX_advancePointer 1 (some .int) 0 := ⟨⟨(wm_1 (i := 200) rfl rfl), (wm_1 (i := 197) rfl rfl), (wm_1 (i := 199) rfl rfl), (wm_0 (i := 14) rfl rfl), (wm_1 (i := 1) rfl rfl)⟩, by decide, by decide, by decide +kernel⟩
set_option maxRecDepth 20000 in
theorem k_X_146 : LkV RX 146 yX_followPointer cX_followPointer 1 (some .int) 0 := ⟨⟨(wm_1 (i := 204) rfl rfl), (wm_1 (i := 201) rfl rfl), (wm_1 (i := 203) rfl rfl), (wm_0 (i := 15) rfl rfl), (wm_1 (i := 1) rfl rfl)⟩, by decide, by decide, by decide +kernel⟩
set_option maxRecDepth 20000 in
theorem k_X_149 : LkV RX 149 yX_readOperand cX_readOperand 2 (some .int) 1 := ⟨⟨(wm_1 (i := 208) rfl rfl), (wm_1 (i := 205) rfl rfl), (wm_1 (i := 207) rfl rfl), (wm_0 (i := 16) rfl rfl), (wm_1 (i := 1) rfl rfl)⟩, by decide, by decide, by decide +kernel⟩
set_option maxRecDepth 20000 in
theorem k_X_152 : LkV RX 152 yX_readOneMore cX_readOneMore 1 (some .int) 0 := ⟨⟨(wm_1 (i := 212) rfl rfl), (wm_1 (i := 209) rfl rfl), (wm_1 (i := 211) rfl rfl), (wm_0 (i := 17) rfl rfl), (wm_1 (i := 1) rfl rfl)⟩, by decide, by decide, by decide +kernel⟩
set_option maxRecDepth 20000 in
theorem k_X_155 : LkV RX 155 yX_takeIntoMb cX_takeIntoMb 3 (some .int) 2 := ⟨⟨(wm_1 (i := 216) rfl rfl), (wm_1 (i := 213) rfl rfl), (wm_1 (i := 215) rfl rfl), (wm_0 (i := 18) rfl rfl), (wm_1 (i := 1) rfl rfl)⟩, by decide, by decide, by decide +kernel⟩
set_option maxRecDepth 20000 in
theorem k_X_158 : LkV RX 158 yX_jump cX_jump 1 (some .int) 0 := ⟨⟨(wm_1 (i := 220) rfl rfl), (wm_1 (i := 217) rfl rfl), (wm_1 (i := 219) rfl rfl), (wm_0 (i := 19) rfl rfl), (wm_1 (i := 1) rfl rfl)⟩, by decide, by decide, by decide +kernel⟩
set_option maxRecDepth 20000 in
theorem k_X_161 : LkV RX 161 yX_storeAndGoBehind cX_storeAndGoBehind 1 (some .int) 0 := ⟨⟨(wm_1 (i := 224) rfl rfl), (wm_1 (i := 221) rfl rfl), (wm_1 (i := 223) rfl rfl), (wm_0 (i := 20) rfl rfl), (wm_1 (i := 1) rfl rfl)⟩, by decide, by decide, by decide +kernel⟩
set_option maxRecDepth 20000 in
theorem k_X_164 : LkV RX 164 yX_andOperand cX_andOperand 1 (some .int) 0 := ⟨⟨(wm_1 (i := 228) rfl rfl), (wm_1 (i := 225) rfl rfl), (wm_1 (i := 227) rfl rfl), (wm_0 (i := 21) rfl rfl), (wm_1 (i := 1) rfl rfl)⟩, by decide, by decide, by decide +kernel⟩
set_option maxRecDepth 20000 in
theorem k_X_167 : LkV RX 167 yX_addOperand cX_addOperand 1 (some .int) 0 := ⟨⟨(wm_1 (i := 232) rfl rfl), (wm_1 (i := 229) rfl rfl), (wm_1 (i := 231) rfl rfl), (wm_0 (i := 22) rfl rfl), (wm_1 (i := 1) rfl rfl)⟩, by decide, by decide, by decide +kernel⟩
set_option maxRecDepth 20000 in
theorem k_X_170 : LkV RX 170 yX_storeAndSkipIfZero cX_storeAndSkipIfZero 1 (some .int) 0 := ⟨⟨(wm_2 (i := 4) rfl rfl), (wm_2 (i := 1) rfl rfl), (wm_2 (i := 3) rfl rfl), (wm_0 (i := 25) rfl rfl), (wm_1 (i := 1) rfl rfl)⟩, by decide, by decide, by decide +kernel⟩
set_option maxRecDepth 20000 in
theorem k_X_173 : LkV RX 173 yX_storeAndClear cX_storeAndClear 1 (some .int) 0 := ⟨⟨(wm_2 (i := 8) rfl rfl), (wm_2 (i := 5) rfl rfl), (wm_2 (i := 7) rfl rfl), (wm_0 (i := 26) rfl rfl), (wm_1 (i := 1) rfl rfl)⟩, by decide, by decide, by decide +kernel⟩
set_option maxRecDepth 20000 in
theorem k_X_176 : LkV RX 176 yX_chooseOperateGroup cX_chooseOperateGroup 1 (some .int) 0 := ⟨⟨(wm_2 (i := 12) rfl rfl), (wm_2 (i := 9) rfl rfl), (wm_2 (i := 11) rfl rfl), (wm_0 (i := 27) rfl rfl), (wm_1 (i := 1) rfl rfl)⟩, by decide, by decide, by decide +kernel⟩
set_option maxRecDepth 20000 in
theorem k_X_179 : LkV RX 179 yX_clear cX_clear 1 (some .int) 0 := ⟨⟨(wm_2 (i := 16) rfl rfl), (wm_2 (i := 13) rfl rfl), (wm_2 (i := 15) rfl rfl), (wm_0 (i := 28) rfl rfl), (wm_1 (i := 1) rfl rfl)⟩, by decide, by decide, by decide +kernel⟩
set_option maxRecDepth 20000 in
theorem k_X_182 : LkV RX 182 yX_complement cX_complement 1 (some .int) 0 := ⟨⟨(wm_2 (i := 24) rfl rfl), (wm_2 (i := 21) rfl rfl), (wm_2 (i := 23) rfl rfl), (wm_0 (i := 30) rfl rfl), (wm_1 (i := 1) rfl rfl)⟩, by decide, by decide, by decide +kernel⟩
set_option maxRecDepth 20000 in
theorem k_X_185 : LkV RX 185 yX_increment cX_increment 1 (some .int) 0 := ⟨⟨(wm_2 (i := 28) rfl rfl), (wm_2 (i := 25) rfl rfl), (wm_2 (i := 27) rfl rfl), (wm_0 (i := 31) rfl rfl), (wm_1 (i := 1) rfl rfl)⟩, by decide, by decide, by decide +kernel⟩
set_option maxRecDepth 20000 in
theorem k_X_188 : LkV RX 188 yX_rotateFirst cX_rotateFirst 1 (some .int) 0 := ⟨⟨(wm_2 (i := 32) rfl rfl), (wm_2 (i := 29) rfl rfl), (wm_2 (i := 31) rfl rfl), (wm_0 (i := 32) rfl rfl), (wm_1 (i := 1) rfl rfl)⟩, by decide, by decide, by decide +kernel⟩
set_option maxRecDepth 20000 in
theorem k_X_191 : LkV RX 191 yX_rotateLast cX_rotateLast 1 (some .int) 0 := ⟨⟨(wm_2 (i := 40) rfl rfl), (wm_2 (i := 37) rfl rfl), (wm_2 (i := 39) rfl rfl), (wm_0 (i := 34) rfl rfl), (wm_1 (i := 1) rfl rfl)⟩, by decide, by decide, by decide +kernel⟩
set_option maxRecDepth 20000 in
theorem k_X_194 : LkV RX 194 yX_test cX_test 2 (some .int) 0 := ⟨⟨(wm_2 (i := 44) rfl rfl), (wm_2 (i := 41) rfl rfl), (wm_2 (i := 43) rfl rfl), (wm_0 (i := 35) rfl rfl), (wm_1 (i := 1) rfl rfl)⟩, by decide, by decide, by decide +kernel⟩
set_option maxRecDepth 20000 in
theorem k_X_197 : LkV RX 197 yX_clearAfterTest cX_clearAfterTest 1 (some .int) 0 := ⟨⟨(wm_2 (i := 48) rfl rfl), (wm_2 (i := 45) rfl rfl), (wm_2 (i := 47) rfl rfl), (wm_0 (i := 36) rfl rfl), (wm_1 (i := 1) rfl rfl)⟩, by decide, by decide, by decide +kernel⟩
set_option maxRecDepth 20000 in
theorem k_X_200 : LkV RX 200 yX_switchesAndHalt cX_switchesAndHalt 1 (some .int) 0 := ⟨⟨(wm_2 (i := 52) rfl rfl), (wm_2 (i := 49) rfl rfl), (wm_2 (i := 51) rfl rfl), (wm_0 (i := 37) rfl rfl), (wm_1 (i := 1) rfl rfl)⟩, by decide, by decide, by decide +kernel⟩
set_option maxRecDepth 20000 in
theorem k_X_203 : LkV RX 203 yX_clearBeforeMq cX_clearBeforeMq 1 (some .int) 0 := ⟨⟨(wm_2 (i := 56) rfl rfl), (wm_2 (i := 53) rfl rfl), (wm_2 (i := 55) rfl rfl), (wm_0 (i := 38) rfl rfl), (wm_1 (i := 1) rfl rfl)⟩, by decide, by decide, by decide +kernel⟩
set_option maxRecDepth 20000 in
theorem k_X_206 : LkV RX 206 yX_exchangeMq cX_exchangeMq 3 (some .int) 0 := ⟨⟨(wm_2 (i := 60) rfl rfl), (wm_2 (i := 57) rfl rfl), (wm_2 (i := 59) rfl rfl), (wm_0 (i := 39) rfl rfl), (wm_1 (i := 1) rfl rfl)⟩, by decide, by decide, by decide +kernel⟩
set_option maxRecDepth 20000 in
theorem k_X_209 : LkV RX 209 yX_chooseDevice cX_chooseDevice 1 (some .int) 0 := ⟨⟨(wm_2 (i := 64) rfl rfl), (wm_2 (i := 61) rfl rfl), (wm_2 (i := 63) rfl rfl), (wm_0 (i := 40) rfl rfl), (wm_1 (i := 1) rfl rfl)⟩, by decide, by decide, by decide +kernel⟩
set_option maxRecDepth 20000 in
theorem k_X_212 : LkV RX 212 yX_turnInterrupts cX_turnInterrupts 1 (some .int) 0 := ⟨⟨(wm_2 (i := 68) rfl rfl), (wm_2 (i := 65) rfl rfl), (wm_2 (i := 67) rfl rfl), (wm_0 (i := 41) rfl rfl), (wm_1 (i := 1) rfl rfl)⟩, by decide, by decide, by decide +kernel⟩
set_option maxRecDepth 20000 in
theorem k_X_215 : LkV RX 215 yX_askKeyboard cX_askKeyboard 1 (some .int) 0 := ⟨⟨(wm_2 (i := 72) rfl rfl), (wm_2 (i := 69) rfl rfl), (wm_2 (i := 71) rfl rfl), (wm_0 (i := 42) rfl rfl), (wm_1 (i := 1) rfl rfl)⟩, by decide, by decide, by decide +kernel⟩
set_option maxRecDepth 20000 in
theorem k_X_218 : LkV RX 218 yX_readKeyboard cX_readKeyboard 1 (some .int) 0 := ⟨⟨(wm_2 (i := 76) rfl rfl), (wm_2 (i := 73) rfl rfl), (wm_2 (i := 75) rfl rfl), (wm_0 (i := 43) rfl rfl), (wm_1 (i := 1) rfl rfl)⟩, by decide, by decide, by decide +kernel⟩
set_option maxRecDepth 20000 in
theorem k_X_221 : LkV RX 221 yX_askPrinter cX_askPrinter 1 (some .int) 0 := ⟨⟨(wm_2 (i := 80) rfl rfl), (wm_2 (i := 77) rfl rfl), (wm_2 (i := 79) rfl rfl), (wm_0 (i := 44) rfl rfl), (wm_1 (i := 1) rfl rfl)⟩, by decide, by decide, by decide +kernel⟩
set_option maxRecDepth 20000 in
theorem k_X_224 : LkV RX 224 yX_writePrinter cX_writePrinter 1 (some .int) 0 := ⟨⟨(wm_2 (i := 84) rfl rfl), (wm_2 (i := 81) rfl rfl), (wm_2 (i := 83) rfl rfl), (wm_0 (i := 45) rfl rfl), (wm_1 (i := 1) rfl rfl)⟩, by decide, by decide, by decide +kernel⟩
set_option maxRecDepth 20000 in
theorem k_X_227 : LkV RX 227 yX_interrupt cX_interrupt 1 (some .int) 0 := ⟨⟨(wm_2 (i := 93) rfl rfl), (wm_2 (i := 90) rfl rfl), (wm_2 (i := 92) rfl rfl), (wm_0 (i := 47) rfl rfl), (wm_1 (i := 1) rfl rfl)⟩, by decide, by decide, by decide +kernel⟩
set_option maxRecDepth 20000 in
theorem k_X_230 : LkV RX 230 yX_advancePc cX_advancePc 1 none 0 := ⟨⟨(wm_1 (i := 176) rfl rfl), (wm_1 (i := 173) rfl rfl), (wm_1 (i := 175) rfl rfl), (wm_0 (i := 8) rfl rfl), (wm_1 (i := 1) rfl rfl)⟩, by decide, by decide, by decide +kernel⟩
set_option maxRecDepth 20000 in
theorem k_X_233 : LkV RX 233 yX_irHas cX_irHas 2 (some .boolean) 1 := ⟨⟨(wm_1 (i := 188) rfl rfl), (wm_1 (i := 185) rfl rfl), (wm_1 (i := 187) rfl rfl), (wm_0 (i := 11) rfl rfl), (wm_1 (i := 1) rfl rfl)⟩, by decide, by decide, by decide +kernel⟩
set_option maxRecDepth 20000 in
theorem k_X_236 : LkV RX 236 yX_firstOfInstruction cX_firstOfInstruction 1 (some .int) 0 := ⟨⟨(wm_1 (i := 192) rfl rfl), (wm_1 (i := 189) rfl rfl), (wm_1 (i := 191) rfl rfl), (wm_0 (i := 12) rfl rfl), (wm_1 (i := 1) rfl rfl)⟩, by decide, by decide, by decide +kernel⟩
set_option maxRecDepth 20000 in
theorem k_X_239 : LkV RX 239 yX_addToAc cX_addToAc 3 none 1 := ⟨⟨(wm_1 (i := 236) rfl rfl), (wm_1 (i := 233) rfl rfl), (wm_1 (i := 235) rfl rfl), (wm_0 (i := 23) rfl rfl), (wm_1 (i := 1) rfl rfl)⟩, by decide, by decide, by decide +kernel⟩
set_option maxRecDepth 20000 in
theorem k_X_242 : LkV RX 242 yX_turnLinkOver cX_turnLinkOver 1 none 0 := ⟨⟨(wm_2 (i := 0) rfl rfl), (wm_1 (i := 237) rfl rfl), (wm_1 (i := 239) rfl rfl), (wm_0 (i := 24) rfl rfl), (wm_1 (i := 1) rfl rfl)⟩, by decide, by decide, by decide +kernel⟩
set_option maxRecDepth 20000 in
theorem k_X_245 : LkV RX 245 yX_clearAcIfAsked cX_clearAcIfAsked 1 none 0 := ⟨⟨(wm_2 (i := 20) rfl rfl), (wm_2 (i := 17) rfl rfl), (wm_2 (i := 19) rfl rfl), (wm_0 (i := 29) rfl rfl), (wm_1 (i := 1) rfl rfl)⟩, by decide, by decide, by decide +kernel⟩
set_option maxRecDepth 20000 in
theorem k_X_248 : LkV RX 248 yX_rotate cX_rotate 2 none 0 := ⟨⟨(wm_2 (i := 36) rfl rfl), (wm_2 (i := 33) rfl rfl), (wm_2 (i := 35) rfl rfl), (wm_0 (i := 33) rfl rfl), (wm_1 (i := 1) rfl rfl)⟩, by decide, by decide, by decide +kernel⟩
set_option maxRecDepth 20000 in
theorem k_X_79 : LkN yK_reset cK_reset 1 none 0 := ⟨⟨(wm_1 (i := 113) rfl rfl), (wm_1 (i := 112) rfl rfl), (wm_0 (i := 0) rfl rfl), (wm_1 (i := 2) rfl rfl)⟩, by decide, by decide, by decide +kernel⟩
set_option maxRecDepth 20000 in
theorem k_X_82 : LkN yP_reset cP_reset 1 none 0 := ⟨⟨(wm_1 (i := 117) rfl rfl), (wm_1 (i := 116) rfl rfl), (wm_0 (i := 1) rfl rfl), (wm_1 (i := 3) rfl rfl)⟩, by decide, by decide, by decide +kernel⟩
set_option maxRecDepth 20000 in
theorem k_X_98 : LkN yK_press cK_press 2 none 1 := ⟨⟨(wm_1 (i := 156) rfl rfl), (wm_1 (i := 155) rfl rfl), (wm_0 (i := 4) rfl rfl), (wm_1 (i := 2) rfl rfl)⟩, by decide, by decide, by decide +kernel⟩
set_option maxRecDepth 20000 in
theorem k_X_101 : LkN yP_isFull cP_isFull 1 (some .boolean) 0 := ⟨⟨(wm_1 (i := 164) rfl rfl), (wm_1 (i := 163) rfl rfl), (wm_0 (i := 5) rfl rfl), (wm_1 (i := 3) rfl rfl)⟩, by decide, by decide, by decide +kernel⟩
set_option maxRecDepth 20000 in
theorem k_X_124 : LkN yP_byteAt cP_byteAt 2 (some .int) 1 := ⟨⟨(wm_2 (i := 119) rfl rfl), (wm_2 (i := 118) rfl rfl), (wm_0 (i := 49) rfl rfl), (wm_1 (i := 3) rfl rfl)⟩, by decide, by decide, by decide +kernel⟩
set_option maxRecDepth 20000 in
theorem k_X_251 : LkN yP_print cP_print 2 none 1 := ⟨⟨(wm_2 (i := 88) rfl rfl), (wm_2 (i := 87) rfl rfl), (wm_0 (i := 46) rfl rfl), (wm_1 (i := 3) rfl rfl)⟩, by decide, by decide, by decide +kernel⟩
theorem dl_ {A : Nat → Prop} {w1 w2 : va_W} (h : va_D A (w1 ++ w2)) : va_D A w1 := by
  have g : ∀ (i : Nat) (q : Nat × va_E), w1[i]? = some q → (w1 ++ w2)[i]? = some q := fun i q hi => by
    rw [List.getElem?_append_left (List.getElem?_eq_some_iff.mp hi).1]; exact hi
  exact ⟨fun i j p q hi hj e => h.1 i j p q (g i p hi) (g j q hj) e, fun k q hk => h.2 k q (g k q hk)⟩
theorem dr_g {w1 w2 : va_W} (i : Nat) (q : Nat × va_E) (hi : w2[i]? = some q) : (w1 ++ w2)[w1.length + i]? = some q := by
  rw [List.getElem?_append_right (Nat.le_add_right _ _), Nat.add_sub_cancel_left]; exact hi
theorem dr_ {A : Nat → Prop} {w1 w2 : va_W} (h : va_D A (w1 ++ w2)) : va_D A w2 :=
  ⟨fun i j p q hi hj e => by have := h.1 _ _ p q (dr_g i p hi) (dr_g j q hj) e; omega, fun k q hk => h.2 _ q (dr_g k q hk)⟩
theorem dx_ {A : Nat → Prop} {w1 w2 : va_W} (h : va_D A (w1 ++ w2)) (i j : Nat) (p q : Nat × va_E) (hi : w1[i]? = some p) (hj : w2[j]? = some q) : p.1 ≠ q.1 := fun e => by
  have hlt := (List.getElem?_eq_some_iff.mp hi).1
  have h1 : (w1 ++ w2)[i]? = some p := by rw [List.getElem?_append_left hlt]; exact hi
  have := h.1 _ _ p q h1 (dr_g j q hj) e
  omega
theorem ds_ {A : Nat → Prop} {w1 w2 : va_W} (h : va_D A (w1 ++ w2)) : va_D A (w2 ++ w1) := va_D.app (dr_ h) (dl_ h) (fun i j p q hi hj e => dx_ h j i q p hj hi e.symm)
theorem k2_ {A : Nat → Prop} {D : va_G} {w1 w2 w3 : va_W} {H H1 : Heap} (hD : va_D A (w1 ++ w2)) (hP2 : va_P D vwCl w2 H) (hk : ∀ q : Nat, q < H.size → ¬ va_A w1 H.size q → H1[q]? = H[q]?) (hD1 : va_D (va_A w1 H.size) w3) (hF : ∀ q, va_A w1 H.size q → A q) : va_P D vwCl w2 H1 ∧ va_D A (w3 ++ w2) := by
  refine ⟨hP2.kept (fun k q hq => hk q.1 (hP2 k q hq).lt (fun z => ?_)), va_D.app (hD1.weaken (fun _ q _ h => hF q.1 h)) (dr_ hD) (fun i j x y hx hy e => ?_)⟩
  · rcases z with ⟨k1, e, z⟩ | z
    · exact dx_ hD k1 k (q.1, e) q z hq rfl
    · have := (hP2 k q hq).lt; omega
  · rcases hD1.2 i x hx with ⟨k1, e1, z⟩ | z
    · exact dx_ hD k1 j (x.1, e1) y z hy e
    · have := (hP2 j y hy).lt; omega
section Calls2
variable {p : Program} {l : Launch} {e : Env} {R : Room} {s : State} {m : MethodId} {args : Array Value} {below : List Frame} {meth : Method} {c : Code} {H : Heap} {locs : List Loc} {cells slots : Nat} {Q : State → Prop}
variable {cc : ByteArray} {i nL : Nat} {ls : Array Slot} {rest : List Value} {D : va_G} {A : Nat → Prop} {H0 : Heap} {own : String}
variable {w : St → va_W} {ty : List (ClassId × FieldType)} {u : St} {y : MethodName} {ccy : ByteArray} {mL d n idx b : Nat} {rt : Option FieldType} {As st0 : List Value} {w2 : va_W}
theorem cl2_i {post : Int32 → St → Prop} (S : CallFix p m c cc nL s args wsA own) (hN : nw s) (hK : va_K D vwCl ty s) (hP : va_P D vwCl (w u) H) (hP2 : va_P D vwCl w2 H) (hD : va_D A (w u ++ w2)) (hS : va_S A H0 H locs) (hA : ∀ q, H0.size ≤ q → A q) (hz : ls.size = nL)
    (hM : MI l D w ty H.size y ccy mL rt d (.ref b :: As) u post) (hL : LkV own idx y ccy mL rt n) (hb : ∃ cell : Cell, H[b]? = some cell ∧ cell.vm.isStatics = false ∧ s.vm.findClass y.cls = some cell.cls)
    (hR : d + 1 ≤ R.frames ∧ 8 + (mL + 11) + 40 * d ≤ R.locals) (hn : As.length = n) (hst : st0 = As.reverse ++ .ref b :: rest) (hW : (rest.map fun v => v.category).sum ≤ 8) (hcs : cells ≤ R.cells ∧ slots ≤ R.slots) (hdg : decode cc i = .ok (.invokevirtual idx, 3))
    (kk : ∀ (r : Int32) (u1 : St) (H1 : Heap) (locs1 : List Loc), post r u1 → va_P D vwCl (w u1) H1 → va_P D vwCl w2 H1 → va_D A (w u1 ++ w2) → va_S A H0 H1 locs1 → W p l e R s m args below meth c H1 locs1 cells slots Q (F0 m (i + 3) ls (.int r :: rest))) : W p l e R s m args below meth c H locs cells slots Q (F0 m i ls st0) := by
  obtain ⟨⟨c1, c2, c3, c4, c5⟩, e1, e2, e3⟩ := hL
  have hts := S.2.2.2.2
  have hF := fr_w (dl_ hD) hS hA
  refine va_calli (va_runV (As := As) (rest := rest) S hM ⟨callB_of n hts (wg_c c1) rfl rfl rfl (hts _ c5) (hts _ c2) ⟨e1, e2, e3⟩ hR, hts _ c3, hts _ c4⟩ ⟨bl_w, hb, pr_w hN hK hP (dl_ hD)⟩ rfl hn hz hst (lv_room hW) hdg hcs) hS (fun q _ h => hF q h) hF (fun r u1 t H1 locs1 ht hvm hw hB hz1 hk1 hS1 => ?_)
  obtain ⟨hP1, hK1, hD1⟩ := hB
  rw [ht] at hP1
  obtain ⟨z1, z2⟩ := k2_ hD hP2 hk1 hD1 hF
  exact kk r u1 H1 locs1 hw hP1 z1 z2 hS1
theorem cl2_v {post : St → Prop} (S : CallFix p m c cc nL s args wsA own) (hN : nw s) (hK : va_K D vwCl ty s) (hP : va_P D vwCl (w u) H) (hP2 : va_P D vwCl w2 H) (hD : va_D A (w u ++ w2)) (hS : va_S A H0 H locs) (hA : ∀ q, H0.size ≤ q → A q) (hz : ls.size = nL)
    (hM : MV l D w ty H.size y ccy mL d (.ref b :: As) u post) (hL : LkV own idx y ccy mL none n) (hb : ∃ cell : Cell, H[b]? = some cell ∧ cell.vm.isStatics = false ∧ s.vm.findClass y.cls = some cell.cls)
    (hR : d + 1 ≤ R.frames ∧ 8 + (mL + 11) + 40 * d ≤ R.locals) (hn : As.length = n) (hst : st0 = As.reverse ++ .ref b :: rest) (hW : (rest.map fun v => v.category).sum ≤ 8) (hcs : cells ≤ R.cells ∧ slots ≤ R.slots) (hdg : decode cc i = .ok (.invokevirtual idx, 3))
    (kk : ∀ (u1 : St) (H1 : Heap) (locs1 : List Loc), post u1 → va_P D vwCl (w u1) H1 → va_P D vwCl w2 H1 → va_D A (w u1 ++ w2) → va_S A H0 H1 locs1 → W p l e R s m args below meth c H1 locs1 cells slots Q (F0 m (i + 3) ls rest)) : W p l e R s m args below meth c H locs cells slots Q (F0 m i ls st0) := by
  obtain ⟨⟨c1, c2, c3, c4, c5⟩, e1, e2, e3⟩ := hL
  have hts := S.2.2.2.2
  have hF := fr_w (dl_ hD) hS hA
  refine va_callv (va_runV (As := As) (rest := rest) S hM ⟨callB_of n hts (wg_c c1) rfl rfl rfl (hts _ c5) (hts _ c2) ⟨e1, e2, e3⟩ hR, hts _ c3, hts _ c4⟩ ⟨bl_w, hb, pr_w hN hK hP (dl_ hD)⟩ rfl hn hz hst (lv_room hW) hdg hcs) hS (fun q _ h => hF q h) hF (fun u1 t H1 locs1 ht hvm hw hB hz1 hk1 hS1 => ?_)
  obtain ⟨hP1, hK1, hD1⟩ := hB
  rw [ht] at hP1
  obtain ⟨z1, z2⟩ := k2_ hD hP2 hk1 hD1 hF
  exact kk u1 H1 locs1 hw hP1 z1 z2 hS1
end Calls2
end
section
section FieldRows
variable {p : Program} {l : Launch} {e : Env} {R : Room} {s : State} {m : MethodId} {args : Array Value} {below : List Frame} {meth : Method} {c : Code} {H : Heap} {locs : List Loc} {cells slots : Nat} {Q : State → Prop}
variable {cc : ByteArray} {i nL : Nat} {ls : Array Slot} {rest : List Value} {D : va_G} {A : Nat → Prop} {H0 : Heap} {own : String}
variable {pc ac lk mq ma mb ir sw io dl ha rd sn md kf kb cn pf : Int32} {co ou : Nat → Int32}
theorem g_X_X_core {a : AX} (S : CallFix p m c cc nL s args wsA RX) (hK : va_K D vwCl (tx a) s) (hP : va_P D vwCl (wx a (pc, ac, lk, mq, ma, mb, ir, sw, io, dl, ha, rd, sn, md, kf, kb, cn, pf, co, ou)) H) (hdg : decode cc i = .ok (.getfield 9, 3)) (kk : W p l e R s m args below meth c H locs cells slots Q (F0 m (i + 3) ls (.ref a.2.1 :: rest))) : W p l e R s m args below meth c H locs cells slots Q (F0 m i ls (.ref a.1 :: rest)) :=
  va_get (D := D) (ci := 0) (v := .ref a.2.1) (C := RX) (T := TX) (N := 17) S.1 S.2.1 S.2.2.2.2 inAX S.2.2.2.1 hK hP 0 rfl rfl 0 (by decide) (S.2.2.2.2 _ fl_X_X_core) (fun _ h9 => h9) rfl hdg kk
theorem g_X_X_keyboard {a : AX} (S : CallFix p m c cc nL s args wsA RX) (hK : va_K D vwCl (tx a) s) (hP : va_P D vwCl (wx a (pc, ac, lk, mq, ma, mb, ir, sw, io, dl, ha, rd, sn, md, kf, kb, cn, pf, co, ou)) H) (hdg : decode cc i = .ok (.getfield 16, 3)) (kk : W p l e R s m args below meth c H locs cells slots Q (F0 m (i + 3) ls (.ref a.2.2.1 :: rest))) : W p l e R s m args below meth c H locs cells slots Q (F0 m i ls (.ref a.1 :: rest)) :=
  va_get (D := D) (ci := 0) (v := .ref a.2.2.1) (C := RX) (T := TX) (N := 17) S.1 S.2.1 S.2.2.2.2 inAX S.2.2.2.1 hK hP 0 rfl rfl 1 (by decide) (S.2.2.2.2 _ fl_X_X_keyboard) (fun _ h9 => h9) rfl hdg kk
theorem g_X_X_printer {a : AX} (S : CallFix p m c cc nL s args wsA RX) (hK : va_K D vwCl (tx a) s) (hP : va_P D vwCl (wx a (pc, ac, lk, mq, ma, mb, ir, sw, io, dl, ha, rd, sn, md, kf, kb, cn, pf, co, ou)) H) (hdg : decode cc i = .ok (.getfield 34, 3)) (kk : W p l e R s m args below meth c H locs cells slots Q (F0 m (i + 3) ls (.ref a.2.2.2.1 :: rest))) : W p l e R s m args below meth c H locs cells slots Q (F0 m i ls (.ref a.1 :: rest)) :=
  va_get (D := D) (ci := 0) (v := .ref a.2.2.2.1) (C := RX) (T := TX) (N := 17) S.1 S.2.1 S.2.2.2.2 inAX S.2.2.2.1 hK hP 0 rfl rfl 2 (by decide) (S.2.2.2.2 _ fl_X_X_printer) (fun _ h9 => h9) rfl hdg kk
theorem g_X_X_pc {a : AX} (S : CallFix p m c cc nL s args wsA RX) (hK : va_K D vwCl (tx a) s) (hP : va_P D vwCl (wx a (pc, ac, lk, mq, ma, mb, ir, sw, io, dl, ha, rd, sn, md, kf, kb, cn, pf, co, ou)) H) (hdg : decode cc i = .ok (.getfield 42, 3)) (kk : W p l e R s m args below meth c H locs cells slots Q (F0 m (i + 3) ls (.int pc :: rest))) : W p l e R s m args below meth c H locs cells slots Q (F0 m i ls (.ref a.1 :: rest)) :=
  va_get (D := D) (ci := 0) (v := .int pc) (C := RX) (T := TX) (N := 17) S.1 S.2.1 S.2.2.2.2 inAX S.2.2.2.1 hK hP 0 rfl rfl 3 (by decide) (S.2.2.2.2 _ fl_X_X_pc) (fun _ h9 => h9) rfl hdg kk
theorem p_X_X_pc {a : AX} {v : Int32} (S : CallFix p m c cc nL s args wsA RX) (hK : va_K D vwCl (tx a) s) (hP : va_P D vwCl (wx a (pc, ac, lk, mq, ma, mb, ir, sw, io, dl, ha, rd, sn, md, kf, kb, cn, pf, co, ou)) H) (hD : va_D A (wx a (pc, ac, lk, mq, ma, mb, ir, sw, io, dl, ha, rd, sn, md, kf, kb, cn, pf, co, ou))) (hS : va_S A H0 H locs) (hdg : decode cc i = .ok (.putfield 42, 3)) (kk : ∀ (H1 : Heap) (locs1 : List Loc), va_P D vwCl (wx a (v, ac, lk, mq, ma, mb, ir, sw, io, dl, ha, rd, sn, md, kf, kb, cn, pf, co, ou)) H1 → va_D A (wx a (v, ac, lk, mq, ma, mb, ir, sw, io, dl, ha, rd, sn, md, kf, kb, cn, pf, co, ou)) → va_S A H0 H1 locs1 → W p l e R s m args below meth c H1 locs1 cells slots Q (F0 m (i + 3) ls rest)) : W p l e R s m args below meth c H locs cells slots Q (F0 m i ls (.int v :: .ref a.1 :: rest)) :=
  va_put (D := D) (ci := 0) (v := .int v) (ty := .int) (C := RX) (T := TX) (N := 17) S.1 S.2.1 S.2.2.2.2 inAX tyX tyX_ok nmX S.2.2.2.1 hK hP hD hS 0 rfl rfl 3 (by decide) (S.2.2.2.2 _ fl_X_X_pc) (fun _ h9 => h9) rfl (by decide +kernel) rfl rfl (Nat.le_of_ble_eq_true rfl) hdg kk
theorem g_X_X_ac {a : AX} (S : CallFix p m c cc nL s args wsA RX) (hK : va_K D vwCl (tx a) s) (hP : va_P D vwCl (wx a (pc, ac, lk, mq, ma, mb, ir, sw, io, dl, ha, rd, sn, md, kf, kb, cn, pf, co, ou)) H) (hdg : decode cc i = .ok (.getfield 46, 3)) (kk : W p l e R s m args below meth c H locs cells slots Q (F0 m (i + 3) ls (.int ac :: rest))) : W p l e R s m args below meth c H locs cells slots Q (F0 m i ls (.ref a.1 :: rest)) :=
  va_get (D := D) (ci := 0) (v := .int ac) (C := RX) (T := TX) (N := 17) S.1 S.2.1 S.2.2.2.2 inAX S.2.2.2.1 hK hP 0 rfl rfl 4 (by decide) (S.2.2.2.2 _ fl_X_X_ac) (fun _ h9 => h9) rfl hdg kk
theorem p_X_X_ac {a : AX} {v : Int32} (S : CallFix p m c cc nL s args wsA RX) (hK : va_K D vwCl (tx a) s) (hP : va_P D vwCl (wx a (pc, ac, lk, mq, ma, mb, ir, sw, io, dl, ha, rd, sn, md, kf, kb, cn, pf, co, ou)) H) (hD : va_D A (wx a (pc, ac, lk, mq, ma, mb, ir, sw, io, dl, ha, rd, sn, md, kf, kb, cn, pf, co, ou))) (hS : va_S A H0 H locs) (hdg : decode cc i = .ok (.putfield 46, 3)) (kk : ∀ (H1 : Heap) (locs1 : List Loc), va_P D vwCl (wx a (pc, v, lk, mq, ma, mb, ir, sw, io, dl, ha, rd, sn, md, kf, kb, cn, pf, co, ou)) H1 → va_D A (wx a (pc, v, lk, mq, ma, mb, ir, sw, io, dl, ha, rd, sn, md, kf, kb, cn, pf, co, ou)) → va_S A H0 H1 locs1 → W p l e R s m args below meth c H1 locs1 cells slots Q (F0 m (i + 3) ls rest)) : W p l e R s m args below meth c H locs cells slots Q (F0 m i ls (.int v :: .ref a.1 :: rest)) :=
  va_put (D := D) (ci := 0) (v := .int v) (ty := .int) (C := RX) (T := TX) (N := 17) S.1 S.2.1 S.2.2.2.2 inAX tyX tyX_ok nmX S.2.2.2.1 hK hP hD hS 0 rfl rfl 4 (by decide) (S.2.2.2.2 _ fl_X_X_ac) (fun _ h9 => h9) rfl (by decide +kernel) rfl rfl (Nat.le_of_ble_eq_true rfl) hdg kk
theorem g_X_X_link {a : AX} (S : CallFix p m c cc nL s args wsA RX) (hK : va_K D vwCl (tx a) s) (hP : va_P D vwCl (wx a (pc, ac, lk, mq, ma, mb, ir, sw, io, dl, ha, rd, sn, md, kf, kb, cn, pf, co, ou)) H) (hdg : decode cc i = .ok (.getfield 49, 3)) (kk : W p l e R s m args below meth c H locs cells slots Q (F0 m (i + 3) ls (.int lk :: rest))) : W p l e R s m args below meth c H locs cells slots Q (F0 m i ls (.ref a.1 :: rest)) :=
  va_get (D := D) (ci := 0) (v := .int lk) (C := RX) (T := TX) (N := 17) S.1 S.2.1 S.2.2.2.2 inAX S.2.2.2.1 hK hP 0 rfl rfl 5 (by decide) (S.2.2.2.2 _ fl_X_X_link) (fun _ h9 => h9) rfl hdg kk
theorem p_X_X_link {a : AX} {v : Int32} (S : CallFix p m c cc nL s args wsA RX) (hK : va_K D vwCl (tx a) s) (hP : va_P D vwCl (wx a (pc, ac, lk, mq, ma, mb, ir, sw, io, dl, ha, rd, sn, md, kf, kb, cn, pf, co, ou)) H) (hD : va_D A (wx a (pc, ac, lk, mq, ma, mb, ir, sw, io, dl, ha, rd, sn, md, kf, kb, cn, pf, co, ou))) (hS : va_S A H0 H locs) (hdg : decode cc i = .ok (.putfield 49, 3)) (kk : ∀ (H1 : Heap) (locs1 : List Loc), va_P D vwCl (wx a (pc, ac, v, mq, ma, mb, ir, sw, io, dl, ha, rd, sn, md, kf, kb, cn, pf, co, ou)) H1 → va_D A (wx a (pc, ac, v, mq, ma, mb, ir, sw, io, dl, ha, rd, sn, md, kf, kb, cn, pf, co, ou)) → va_S A H0 H1 locs1 → W p l e R s m args below meth c H1 locs1 cells slots Q (F0 m (i + 3) ls rest)) : W p l e R s m args below meth c H locs cells slots Q (F0 m i ls (.int v :: .ref a.1 :: rest)) :=
  va_put (D := D) (ci := 0) (v := .int v) (ty := .int) (C := RX) (T := TX) (N := 17) S.1 S.2.1 S.2.2.2.2 inAX tyX tyX_ok nmX S.2.2.2.1 hK hP hD hS 0 rfl rfl 5 (by decide) (S.2.2.2.2 _ fl_X_X_link) (fun _ h9 => h9) rfl (by decide +kernel) rfl rfl (Nat.le_of_ble_eq_true rfl) hdg kk
theorem g_X_X_mq {a : AX} (S : CallFix p m c cc nL s args wsA RX) (hK : va_K D vwCl (tx a) s) (hP : va_P D vwCl (wx a (pc, ac, lk, mq, ma, mb, ir, sw, io, dl, ha, rd, sn, md, kf, kb, cn, pf, co, ou)) H) (hdg : decode cc i = .ok (.getfield 52, 3)) (kk : W p l e R s m args below meth c H locs cells slots Q (F0 m (i + 3) ls (.int mq :: rest))) : W p l e R s m args below meth c H locs cells slots Q (F0 m i ls (.ref a.1 :: rest)) :=
  va_get (D := D) (ci := 0) (v := .int mq) (C := RX) (T := TX) (N := 17) S.1 S.2.1 S.2.2.2.2 inAX S.2.2.2.1 hK hP 0 rfl rfl 6 (by decide) (S.2.2.2.2 _ fl_X_X_mq) (fun _ h9 => h9) rfl hdg kk
theorem p_X_X_mq {a : AX} {v : Int32} (S : CallFix p m c cc nL s args wsA RX) (hK : va_K D vwCl (tx a) s) (hP : va_P D vwCl (wx a (pc, ac, lk, mq, ma, mb, ir, sw, io, dl, ha, rd, sn, md, kf, kb, cn, pf, co, ou)) H) (hD : va_D A (wx a (pc, ac, lk, mq, ma, mb, ir, sw, io, dl, ha, rd, sn, md, kf, kb, cn, pf, co, ou))) (hS : va_S A H0 H locs) (hdg : decode cc i = .ok (.putfield 52, 3)) (kk : ∀ (H1 : Heap) (locs1 : List Loc), va_P D vwCl (wx a (pc, ac, lk, v, ma, mb, ir, sw, io, dl, ha, rd, sn, md, kf, kb, cn, pf, co, ou)) H1 → va_D A (wx a (pc, ac, lk, v, ma, mb, ir, sw, io, dl, ha, rd, sn, md, kf, kb, cn, pf, co, ou)) → va_S A H0 H1 locs1 → W p l e R s m args below meth c H1 locs1 cells slots Q (F0 m (i + 3) ls rest)) : W p l e R s m args below meth c H locs cells slots Q (F0 m i ls (.int v :: .ref a.1 :: rest)) :=
  va_put (D := D) (ci := 0) (v := .int v) (ty := .int) (C := RX) (T := TX) (N := 17) S.1 S.2.1 S.2.2.2.2 inAX tyX tyX_ok nmX S.2.2.2.1 hK hP hD hS 0 rfl rfl 6 (by decide) (S.2.2.2.2 _ fl_X_X_mq) (fun _ h9 => h9) rfl (by decide +kernel) rfl rfl (Nat.le_of_ble_eq_true rfl) hdg kk
theorem g_X_X_ma {a : AX} (S : CallFix p m c cc nL s args wsA RX) (hK : va_K D vwCl (tx a) s) (hP : va_P D vwCl (wx a (pc, ac, lk, mq, ma, mb, ir, sw, io, dl, ha, rd, sn, md, kf, kb, cn, pf, co, ou)) H) (hdg : decode cc i = .ok (.getfield 55, 3)) (kk : W p l e R s m args below meth c H locs cells slots Q (F0 m (i + 3) ls (.int ma :: rest))) : W p l e R s m args below meth c H locs cells slots Q (F0 m i ls (.ref a.1 :: rest)) :=
  va_get (D := D) (ci := 0) (v := .int ma) (C := RX) (T := TX) (N := 17) S.1 S.2.1 S.2.2.2.2 inAX S.2.2.2.1 hK hP 0 rfl rfl 7 (by decide) (S.2.2.2.2 _ fl_X_X_ma) (fun _ h9 => h9) rfl hdg kk
theorem p_X_X_ma {a : AX} {v : Int32} (S : CallFix p m c cc nL s args wsA RX) (hK : va_K D vwCl (tx a) s) (hP : va_P D vwCl (wx a (pc, ac, lk, mq, ma, mb, ir, sw, io, dl, ha, rd, sn, md, kf, kb, cn, pf, co, ou)) H) (hD : va_D A (wx a (pc, ac, lk, mq, ma, mb, ir, sw, io, dl, ha, rd, sn, md, kf, kb, cn, pf, co, ou))) (hS : va_S A H0 H locs) (hdg : decode cc i = .ok (.putfield 55, 3)) (kk : ∀ (H1 : Heap) (locs1 : List Loc), va_P D vwCl (wx a (pc, ac, lk, mq, v, mb, ir, sw, io, dl, ha, rd, sn, md, kf, kb, cn, pf, co, ou)) H1 → va_D A (wx a (pc, ac, lk, mq, v, mb, ir, sw, io, dl, ha, rd, sn, md, kf, kb, cn, pf, co, ou)) → va_S A H0 H1 locs1 → W p l e R s m args below meth c H1 locs1 cells slots Q (F0 m (i + 3) ls rest)) : W p l e R s m args below meth c H locs cells slots Q (F0 m i ls (.int v :: .ref a.1 :: rest)) :=
  va_put (D := D) (ci := 0) (v := .int v) (ty := .int) (C := RX) (T := TX) (N := 17) S.1 S.2.1 S.2.2.2.2 inAX tyX tyX_ok nmX S.2.2.2.1 hK hP hD hS 0 rfl rfl 7 (by decide) (S.2.2.2.2 _ fl_X_X_ma) (fun _ h9 => h9) rfl (by decide +kernel) rfl rfl (Nat.le_of_ble_eq_true rfl) hdg kk
theorem g_X_X_mb {a : AX} (S : CallFix p m c cc nL s args wsA RX) (hK : va_K D vwCl (tx a) s) (hP : va_P D vwCl (wx a (pc, ac, lk, mq, ma, mb, ir, sw, io, dl, ha, rd, sn, md, kf, kb, cn, pf, co, ou)) H) (hdg : decode cc i = .ok (.getfield 58, 3)) (kk : W p l e R s m args below meth c H locs cells slots Q (F0 m (i + 3) ls (.int mb :: rest))) : W p l e R s m args below meth c H locs cells slots Q (F0 m i ls (.ref a.1 :: rest)) :=
  va_get (D := D) (ci := 0) (v := .int mb) (C := RX) (T := TX) (N := 17) S.1 S.2.1 S.2.2.2.2 inAX S.2.2.2.1 hK hP 0 rfl rfl 8 (by decide) (S.2.2.2.2 _ fl_X_X_mb) (fun _ h9 => h9) rfl hdg kk
theorem p_X_X_mb {a : AX} {v : Int32} (S : CallFix p m c cc nL s args wsA RX) (hK : va_K D vwCl (tx a) s) (hP : va_P D vwCl (wx a (pc, ac, lk, mq, ma, mb, ir, sw, io, dl, ha, rd, sn, md, kf, kb, cn, pf, co, ou)) H) (hD : va_D A (wx a (pc, ac, lk, mq, ma, mb, ir, sw, io, dl, ha, rd, sn, md, kf, kb, cn, pf, co, ou))) (hS : va_S A H0 H locs) (hdg : decode cc i = .ok (.putfield 58, 3)) (kk : ∀ (H1 : Heap) (locs1 : List Loc), va_P D vwCl (wx a (pc, ac, lk, mq, ma, v, ir, sw, io, dl, ha, rd, sn, md, kf, kb, cn, pf, co, ou)) H1 → va_D A (wx a (pc, ac, lk, mq, ma, v, ir, sw, io, dl, ha, rd, sn, md, kf, kb, cn, pf, co, ou)) → va_S A H0 H1 locs1 → W p l e R s m args below meth c H1 locs1 cells slots Q (F0 m (i + 3) ls rest)) : W p l e R s m args below meth c H locs cells slots Q (F0 m i ls (.int v :: .ref a.1 :: rest)) :=
  va_put (D := D) (ci := 0) (v := .int v) (ty := .int) (C := RX) (T := TX) (N := 17) S.1 S.2.1 S.2.2.2.2 inAX tyX tyX_ok nmX S.2.2.2.1 hK hP hD hS 0 rfl rfl 8 (by decide) (S.2.2.2.2 _ fl_X_X_mb) (fun _ h9 => h9) rfl (by decide +kernel) rfl rfl (Nat.le_of_ble_eq_true rfl) hdg kk
theorem g_X_X_ir {a : AX} (S : CallFix p m c cc nL s args wsA RX) (hK : va_K D vwCl (tx a) s) (hP : va_P D vwCl (wx a (pc, ac, lk, mq, ma, mb, ir, sw, io, dl, ha, rd, sn, md, kf, kb, cn, pf, co, ou)) H) (hdg : decode cc i = .ok (.getfield 61, 3)) (kk : W p l e R s m args below meth c H locs cells slots Q (F0 m (i + 3) ls (.int ir :: rest))) : W p l e R s m args below meth c H locs cells slots Q (F0 m i ls (.ref a.1 :: rest)) :=
  va_get (D := D) (ci := 0) (v := .int ir) (C := RX) (T := TX) (N := 17) S.1 S.2.1 S.2.2.2.2 inAX S.2.2.2.1 hK hP 0 rfl rfl 9 (by decide) (S.2.2.2.2 _ fl_X_X_ir) (fun _ h9 => h9) rfl hdg kk
theorem p_X_X_ir {a : AX} {v : Int32} (S : CallFix p m c cc nL s args wsA RX) (hK : va_K D vwCl (tx a) s) (hP : va_P D vwCl (wx a (pc, ac, lk, mq, ma, mb, ir, sw, io, dl, ha, rd, sn, md, kf, kb, cn, pf, co, ou)) H) (hD : va_D A (wx a (pc, ac, lk, mq, ma, mb, ir, sw, io, dl, ha, rd, sn, md, kf, kb, cn, pf, co, ou))) (hS : va_S A H0 H locs) (hdg : decode cc i = .ok (.putfield 61, 3)) (kk : ∀ (H1 : Heap) (locs1 : List Loc), va_P D vwCl (wx a (pc, ac, lk, mq, ma, mb, v, sw, io, dl, ha, rd, sn, md, kf, kb, cn, pf, co, ou)) H1 → va_D A (wx a (pc, ac, lk, mq, ma, mb, v, sw, io, dl, ha, rd, sn, md, kf, kb, cn, pf, co, ou)) → va_S A H0 H1 locs1 → W p l e R s m args below meth c H1 locs1 cells slots Q (F0 m (i + 3) ls rest)) : W p l e R s m args below meth c H locs cells slots Q (F0 m i ls (.int v :: .ref a.1 :: rest)) :=
  va_put (D := D) (ci := 0) (v := .int v) (ty := .int) (C := RX) (T := TX) (N := 17) S.1 S.2.1 S.2.2.2.2 inAX tyX tyX_ok nmX S.2.2.2.1 hK hP hD hS 0 rfl rfl 9 (by decide) (S.2.2.2.2 _ fl_X_X_ir) (fun _ h9 => h9) rfl (by decide +kernel) rfl rfl (Nat.le_of_ble_eq_true rfl) hdg kk
theorem g_X_X_switchWord {a : AX} (S : CallFix p m c cc nL s args wsA RX) (hK : va_K D vwCl (tx a) s) (hP : va_P D vwCl (wx a (pc, ac, lk, mq, ma, mb, ir, sw, io, dl, ha, rd, sn, md, kf, kb, cn, pf, co, ou)) H) (hdg : decode cc i = .ok (.getfield 95, 3)) (kk : W p l e R s m args below meth c H locs cells slots Q (F0 m (i + 3) ls (.int sw :: rest))) : W p l e R s m args below meth c H locs cells slots Q (F0 m i ls (.ref a.1 :: rest)) :=
  va_get (D := D) (ci := 0) (v := .int sw) (C := RX) (T := TX) (N := 17) S.1 S.2.1 S.2.2.2.2 inAX S.2.2.2.1 hK hP 0 rfl rfl 10 (by decide) (S.2.2.2.2 _ fl_X_X_switchWord) (fun _ h9 => h9) rfl hdg kk
theorem p_X_X_switchWord {a : AX} {v : Int32} (S : CallFix p m c cc nL s args wsA RX) (hK : va_K D vwCl (tx a) s) (hP : va_P D vwCl (wx a (pc, ac, lk, mq, ma, mb, ir, sw, io, dl, ha, rd, sn, md, kf, kb, cn, pf, co, ou)) H) (hD : va_D A (wx a (pc, ac, lk, mq, ma, mb, ir, sw, io, dl, ha, rd, sn, md, kf, kb, cn, pf, co, ou))) (hS : va_S A H0 H locs) (hdg : decode cc i = .ok (.putfield 95, 3)) (kk : ∀ (H1 : Heap) (locs1 : List Loc), va_P D vwCl (wx a (pc, ac, lk, mq, ma, mb, ir, v, io, dl, ha, rd, sn, md, kf, kb, cn, pf, co, ou)) H1 → va_D A (wx a (pc, ac, lk, mq, ma, mb, ir, v, io, dl, ha, rd, sn, md, kf, kb, cn, pf, co, ou)) → va_S A H0 H1 locs1 → W p l e R s m args below meth c H1 locs1 cells slots Q (F0 m (i + 3) ls rest)) : W p l e R s m args below meth c H locs cells slots Q (F0 m i ls (.int v :: .ref a.1 :: rest)) :=
  va_put (D := D) (ci := 0) (v := .int v) (ty := .int) (C := RX) (T := TX) (N := 17) S.1 S.2.1 S.2.2.2.2 inAX tyX tyX_ok nmX S.2.2.2.1 hK hP hD hS 0 rfl rfl 10 (by decide) (S.2.2.2.2 _ fl_X_X_switchWord) (fun _ h9 => h9) rfl (by decide +kernel) rfl rfl (Nat.le_of_ble_eq_true rfl) hdg kk
theorem g_X_X_ion {a : AX} (S : CallFix p m c cc nL s args wsA RX) (hK : va_K D vwCl (tx a) s) (hP : va_P D vwCl (wx a (pc, ac, lk, mq, ma, mb, ir, sw, io, dl, ha, rd, sn, md, kf, kb, cn, pf, co, ou)) H) (hdg : decode cc i = .ok (.getfield 64, 3)) (kk : W p l e R s m args below meth c H locs cells slots Q (F0 m (i + 3) ls (.int io :: rest))) : W p l e R s m args below meth c H locs cells slots Q (F0 m i ls (.ref a.1 :: rest)) :=
  va_get (D := D) (ci := 0) (v := .int io) (C := RX) (T := TX) (N := 17) S.1 S.2.1 S.2.2.2.2 inAX S.2.2.2.1 hK hP 0 rfl rfl 11 (by decide) (S.2.2.2.2 _ fl_X_X_ion) (fun _ h9 => h9) rfl hdg kk
theorem p_X_X_ion {a : AX} {v : Int32} (S : CallFix p m c cc nL s args wsA RX) (hK : va_K D vwCl (tx a) s) (hP : va_P D vwCl (wx a (pc, ac, lk, mq, ma, mb, ir, sw, io, dl, ha, rd, sn, md, kf, kb, cn, pf, co, ou)) H) (hD : va_D A (wx a (pc, ac, lk, mq, ma, mb, ir, sw, io, dl, ha, rd, sn, md, kf, kb, cn, pf, co, ou))) (hS : va_S A H0 H locs) (hn : narrow .boolean (.int v) = .int v) (hf : fits .boolean (.int v) = true) (hdg : decode cc i = .ok (.putfield 64, 3)) (kk : ∀ (H1 : Heap) (locs1 : List Loc), va_P D vwCl (wx a (pc, ac, lk, mq, ma, mb, ir, sw, v, dl, ha, rd, sn, md, kf, kb, cn, pf, co, ou)) H1 → va_D A (wx a (pc, ac, lk, mq, ma, mb, ir, sw, v, dl, ha, rd, sn, md, kf, kb, cn, pf, co, ou)) → va_S A H0 H1 locs1 → W p l e R s m args below meth c H1 locs1 cells slots Q (F0 m (i + 3) ls rest)) : W p l e R s m args below meth c H locs cells slots Q (F0 m i ls (.int v :: .ref a.1 :: rest)) :=
  va_put (D := D) (ci := 0) (v := .int v) (ty := .boolean) (C := RX) (T := TX) (N := 17) S.1 S.2.1 S.2.2.2.2 inAX tyX tyX_ok nmX S.2.2.2.1 hK hP hD hS 0 rfl rfl 11 (by decide) (S.2.2.2.2 _ fl_X_X_ion) (fun _ h9 => h9) rfl (by decide +kernel) hn hf (Nat.le_of_ble_eq_true rfl) hdg kk
theorem g_X_X_delay {a : AX} (S : CallFix p m c cc nL s args wsA RX) (hK : va_K D vwCl (tx a) s) (hP : va_P D vwCl (wx a (pc, ac, lk, mq, ma, mb, ir, sw, io, dl, ha, rd, sn, md, kf, kb, cn, pf, co, ou)) H) (hdg : decode cc i = .ok (.getfield 67, 3)) (kk : W p l e R s m args below meth c H locs cells slots Q (F0 m (i + 3) ls (.int dl :: rest))) : W p l e R s m args below meth c H locs cells slots Q (F0 m i ls (.ref a.1 :: rest)) :=
  va_get (D := D) (ci := 0) (v := .int dl) (C := RX) (T := TX) (N := 17) S.1 S.2.1 S.2.2.2.2 inAX S.2.2.2.1 hK hP 0 rfl rfl 12 (by decide) (S.2.2.2.2 _ fl_X_X_delay) (fun _ h9 => h9) rfl hdg kk
theorem p_X_X_delay {a : AX} {v : Int32} (S : CallFix p m c cc nL s args wsA RX) (hK : va_K D vwCl (tx a) s) (hP : va_P D vwCl (wx a (pc, ac, lk, mq, ma, mb, ir, sw, io, dl, ha, rd, sn, md, kf, kb, cn, pf, co, ou)) H) (hD : va_D A (wx a (pc, ac, lk, mq, ma, mb, ir, sw, io, dl, ha, rd, sn, md, kf, kb, cn, pf, co, ou))) (hS : va_S A H0 H locs) (hn : narrow .boolean (.int v) = .int v) (hf : fits .boolean (.int v) = true) (hdg : decode cc i = .ok (.putfield 67, 3)) (kk : ∀ (H1 : Heap) (locs1 : List Loc), va_P D vwCl (wx a (pc, ac, lk, mq, ma, mb, ir, sw, io, v, ha, rd, sn, md, kf, kb, cn, pf, co, ou)) H1 → va_D A (wx a (pc, ac, lk, mq, ma, mb, ir, sw, io, v, ha, rd, sn, md, kf, kb, cn, pf, co, ou)) → va_S A H0 H1 locs1 → W p l e R s m args below meth c H1 locs1 cells slots Q (F0 m (i + 3) ls rest)) : W p l e R s m args below meth c H locs cells slots Q (F0 m i ls (.int v :: .ref a.1 :: rest)) :=
  va_put (D := D) (ci := 0) (v := .int v) (ty := .boolean) (C := RX) (T := TX) (N := 17) S.1 S.2.1 S.2.2.2.2 inAX tyX tyX_ok nmX S.2.2.2.1 hK hP hD hS 0 rfl rfl 12 (by decide) (S.2.2.2.2 _ fl_X_X_delay) (fun _ h9 => h9) rfl (by decide +kernel) hn hf (Nat.le_of_ble_eq_true rfl) hdg kk
theorem g_X_X_halted {a : AX} (S : CallFix p m c cc nL s args wsA RX) (hK : va_K D vwCl (tx a) s) (hP : va_P D vwCl (wx a (pc, ac, lk, mq, ma, mb, ir, sw, io, dl, ha, rd, sn, md, kf, kb, cn, pf, co, ou)) H) (hdg : decode cc i = .ok (.getfield 70, 3)) (kk : W p l e R s m args below meth c H locs cells slots Q (F0 m (i + 3) ls (.int ha :: rest))) : W p l e R s m args below meth c H locs cells slots Q (F0 m i ls (.ref a.1 :: rest)) :=
  va_get (D := D) (ci := 0) (v := .int ha) (C := RX) (T := TX) (N := 17) S.1 S.2.1 S.2.2.2.2 inAX S.2.2.2.1 hK hP 0 rfl rfl 13 (by decide) (S.2.2.2.2 _ fl_X_X_halted) (fun _ h9 => h9) rfl hdg kk
theorem p_X_X_halted {a : AX} {v : Int32} (S : CallFix p m c cc nL s args wsA RX) (hK : va_K D vwCl (tx a) s) (hP : va_P D vwCl (wx a (pc, ac, lk, mq, ma, mb, ir, sw, io, dl, ha, rd, sn, md, kf, kb, cn, pf, co, ou)) H) (hD : va_D A (wx a (pc, ac, lk, mq, ma, mb, ir, sw, io, dl, ha, rd, sn, md, kf, kb, cn, pf, co, ou))) (hS : va_S A H0 H locs) (hn : narrow .boolean (.int v) = .int v) (hf : fits .boolean (.int v) = true) (hdg : decode cc i = .ok (.putfield 70, 3)) (kk : ∀ (H1 : Heap) (locs1 : List Loc), va_P D vwCl (wx a (pc, ac, lk, mq, ma, mb, ir, sw, io, dl, v, rd, sn, md, kf, kb, cn, pf, co, ou)) H1 → va_D A (wx a (pc, ac, lk, mq, ma, mb, ir, sw, io, dl, v, rd, sn, md, kf, kb, cn, pf, co, ou)) → va_S A H0 H1 locs1 → W p l e R s m args below meth c H1 locs1 cells slots Q (F0 m (i + 3) ls rest)) : W p l e R s m args below meth c H locs cells slots Q (F0 m i ls (.int v :: .ref a.1 :: rest)) :=
  va_put (D := D) (ci := 0) (v := .int v) (ty := .boolean) (C := RX) (T := TX) (N := 17) S.1 S.2.1 S.2.2.2.2 inAX tyX tyX_ok nmX S.2.2.2.1 hK hP hD hS 0 rfl rfl 13 (by decide) (S.2.2.2.2 _ fl_X_X_halted) (fun _ h9 => h9) rfl (by decide +kernel) hn hf (Nat.le_of_ble_eq_true rfl) hdg kk
theorem g_X_X_hasMicrocode {a : AX} (S : CallFix p m c cc nL s args wsA RX) (hK : va_K D vwCl (tx a) s) (hP : va_P D vwCl (wx a (pc, ac, lk, mq, ma, mb, ir, sw, io, dl, ha, rd, sn, md, kf, kb, cn, pf, co, ou)) H) (hdg : decode cc i = .ok (.getfield 38, 3)) (kk : W p l e R s m args below meth c H locs cells slots Q (F0 m (i + 3) ls (.int rd :: rest))) : W p l e R s m args below meth c H locs cells slots Q (F0 m i ls (.ref a.1 :: rest)) :=
  va_get (D := D) (ci := 0) (v := .int rd) (C := RX) (T := TX) (N := 17) S.1 S.2.1 S.2.2.2.2 inAX S.2.2.2.1 hK hP 0 rfl rfl 14 (by decide) (S.2.2.2.2 _ fl_X_X_hasMicrocode) (fun _ h9 => h9) rfl hdg kk
theorem p_X_X_hasMicrocode {a : AX} {v : Int32} (S : CallFix p m c cc nL s args wsA RX) (hK : va_K D vwCl (tx a) s) (hP : va_P D vwCl (wx a (pc, ac, lk, mq, ma, mb, ir, sw, io, dl, ha, rd, sn, md, kf, kb, cn, pf, co, ou)) H) (hD : va_D A (wx a (pc, ac, lk, mq, ma, mb, ir, sw, io, dl, ha, rd, sn, md, kf, kb, cn, pf, co, ou))) (hS : va_S A H0 H locs) (hn : narrow .boolean (.int v) = .int v) (hf : fits .boolean (.int v) = true) (hdg : decode cc i = .ok (.putfield 38, 3)) (kk : ∀ (H1 : Heap) (locs1 : List Loc), va_P D vwCl (wx a (pc, ac, lk, mq, ma, mb, ir, sw, io, dl, ha, v, sn, md, kf, kb, cn, pf, co, ou)) H1 → va_D A (wx a (pc, ac, lk, mq, ma, mb, ir, sw, io, dl, ha, v, sn, md, kf, kb, cn, pf, co, ou)) → va_S A H0 H1 locs1 → W p l e R s m args below meth c H1 locs1 cells slots Q (F0 m (i + 3) ls rest)) : W p l e R s m args below meth c H locs cells slots Q (F0 m i ls (.int v :: .ref a.1 :: rest)) :=
  va_put (D := D) (ci := 0) (v := .int v) (ty := .boolean) (C := RX) (T := TX) (N := 17) S.1 S.2.1 S.2.2.2.2 inAX tyX tyX_ok nmX S.2.2.2.1 hK hP hD hS 0 rfl rfl 14 (by decide) (S.2.2.2.2 _ fl_X_X_hasMicrocode) (fun _ h9 => h9) rfl (by decide +kernel) hn hf (Nat.le_of_ble_eq_true rfl) hdg kk
theorem g_X_X_stepNumber {a : AX} (S : CallFix p m c cc nL s args wsA RX) (hK : va_K D vwCl (tx a) s) (hP : va_P D vwCl (wx a (pc, ac, lk, mq, ma, mb, ir, sw, io, dl, ha, rd, sn, md, kf, kb, cn, pf, co, ou)) H) (hdg : decode cc i = .ok (.getfield 73, 3)) (kk : W p l e R s m args below meth c H locs cells slots Q (F0 m (i + 3) ls (.int sn :: rest))) : W p l e R s m args below meth c H locs cells slots Q (F0 m i ls (.ref a.1 :: rest)) :=
  va_get (D := D) (ci := 0) (v := .int sn) (C := RX) (T := TX) (N := 17) S.1 S.2.1 S.2.2.2.2 inAX S.2.2.2.1 hK hP 0 rfl rfl 15 (by decide) (S.2.2.2.2 _ fl_X_X_stepNumber) (fun _ h9 => h9) rfl hdg kk
theorem p_X_X_stepNumber {a : AX} {v : Int32} (S : CallFix p m c cc nL s args wsA RX) (hK : va_K D vwCl (tx a) s) (hP : va_P D vwCl (wx a (pc, ac, lk, mq, ma, mb, ir, sw, io, dl, ha, rd, sn, md, kf, kb, cn, pf, co, ou)) H) (hD : va_D A (wx a (pc, ac, lk, mq, ma, mb, ir, sw, io, dl, ha, rd, sn, md, kf, kb, cn, pf, co, ou))) (hS : va_S A H0 H locs) (hdg : decode cc i = .ok (.putfield 73, 3)) (kk : ∀ (H1 : Heap) (locs1 : List Loc), va_P D vwCl (wx a (pc, ac, lk, mq, ma, mb, ir, sw, io, dl, ha, rd, v, md, kf, kb, cn, pf, co, ou)) H1 → va_D A (wx a (pc, ac, lk, mq, ma, mb, ir, sw, io, dl, ha, rd, v, md, kf, kb, cn, pf, co, ou)) → va_S A H0 H1 locs1 → W p l e R s m args below meth c H1 locs1 cells slots Q (F0 m (i + 3) ls rest)) : W p l e R s m args below meth c H locs cells slots Q (F0 m i ls (.int v :: .ref a.1 :: rest)) :=
  va_put (D := D) (ci := 0) (v := .int v) (ty := .int) (C := RX) (T := TX) (N := 17) S.1 S.2.1 S.2.2.2.2 inAX tyX tyX_ok nmX S.2.2.2.1 hK hP hD hS 0 rfl rfl 15 (by decide) (S.2.2.2.2 _ fl_X_X_stepNumber) (fun _ h9 => h9) rfl (by decide +kernel) rfl rfl (Nat.le_of_ble_eq_true rfl) hdg kk
theorem g_X_X_microstepsMade {a : AX} (S : CallFix p m c cc nL s args wsA RX) (hK : va_K D vwCl (tx a) s) (hP : va_P D vwCl (wx a (pc, ac, lk, mq, ma, mb, ir, sw, io, dl, ha, rd, sn, md, kf, kb, cn, pf, co, ou)) H) (hdg : decode cc i = .ok (.getfield 76, 3)) (kk : W p l e R s m args below meth c H locs cells slots Q (F0 m (i + 3) ls (.int md :: rest))) : W p l e R s m args below meth c H locs cells slots Q (F0 m i ls (.ref a.1 :: rest)) :=
  va_get (D := D) (ci := 0) (v := .int md) (C := RX) (T := TX) (N := 17) S.1 S.2.1 S.2.2.2.2 inAX S.2.2.2.1 hK hP 0 rfl rfl 16 (by decide) (S.2.2.2.2 _ fl_X_X_microstepsMade) (fun _ h9 => h9) rfl hdg kk
theorem p_X_X_microstepsMade {a : AX} {v : Int32} (S : CallFix p m c cc nL s args wsA RX) (hK : va_K D vwCl (tx a) s) (hP : va_P D vwCl (wx a (pc, ac, lk, mq, ma, mb, ir, sw, io, dl, ha, rd, sn, md, kf, kb, cn, pf, co, ou)) H) (hD : va_D A (wx a (pc, ac, lk, mq, ma, mb, ir, sw, io, dl, ha, rd, sn, md, kf, kb, cn, pf, co, ou))) (hS : va_S A H0 H locs) (hdg : decode cc i = .ok (.putfield 76, 3)) (kk : ∀ (H1 : Heap) (locs1 : List Loc), va_P D vwCl (wx a (pc, ac, lk, mq, ma, mb, ir, sw, io, dl, ha, rd, sn, v, kf, kb, cn, pf, co, ou)) H1 → va_D A (wx a (pc, ac, lk, mq, ma, mb, ir, sw, io, dl, ha, rd, sn, v, kf, kb, cn, pf, co, ou)) → va_S A H0 H1 locs1 → W p l e R s m args below meth c H1 locs1 cells slots Q (F0 m (i + 3) ls rest)) : W p l e R s m args below meth c H locs cells slots Q (F0 m i ls (.int v :: .ref a.1 :: rest)) :=
  va_put (D := D) (ci := 0) (v := .int v) (ty := .int) (C := RX) (T := TX) (N := 17) S.1 S.2.1 S.2.2.2.2 inAX tyX tyX_ok nmX S.2.2.2.1 hK hP hD hS 0 rfl rfl 16 (by decide) (S.2.2.2.2 _ fl_X_X_microstepsMade) (fun _ h9 => h9) rfl (by decide +kernel) rfl rfl (Nat.le_of_ble_eq_true rfl) hdg kk
theorem g_K_K_flag {a : AX} (S : CallFix p m c cc nL s args wsA RK) (hK : va_K D vwCl (tx a) s) (hP : va_P D vwCl (wx a (pc, ac, lk, mq, ma, mb, ir, sw, io, dl, ha, rd, sn, md, kf, kb, cn, pf, co, ou)) H) (hdg : decode cc i = .ok (.getfield 7, 3)) (kk : W p l e R s m args below meth c H locs cells slots Q (F0 m (i + 3) ls (.int kf :: rest))) : W p l e R s m args below meth c H locs cells slots Q (F0 m i ls (.ref a.2.2.1 :: rest)) :=
  va_get (D := D) (ci := 1) (v := .int kf) (C := RK) (T := TK) (N := 2) S.1 S.2.1 S.2.2.2.2 inAK S.2.2.2.1 hK hP 2 rfl rfl 0 (by decide) (S.2.2.2.2 _ fl_K_K_flag) (fun _ h9 => h9) rfl hdg kk
theorem p_K_K_flag {a : AX} {v : Int32} (S : CallFix p m c cc nL s args wsA RK) (hK : va_K D vwCl (tx a) s) (hP : va_P D vwCl (wx a (pc, ac, lk, mq, ma, mb, ir, sw, io, dl, ha, rd, sn, md, kf, kb, cn, pf, co, ou)) H) (hD : va_D A (wx a (pc, ac, lk, mq, ma, mb, ir, sw, io, dl, ha, rd, sn, md, kf, kb, cn, pf, co, ou))) (hS : va_S A H0 H locs) (hn : narrow .boolean (.int v) = .int v) (hf : fits .boolean (.int v) = true) (hdg : decode cc i = .ok (.putfield 7, 3)) (kk : ∀ (H1 : Heap) (locs1 : List Loc), va_P D vwCl (wx a (pc, ac, lk, mq, ma, mb, ir, sw, io, dl, ha, rd, sn, md, v, kb, cn, pf, co, ou)) H1 → va_D A (wx a (pc, ac, lk, mq, ma, mb, ir, sw, io, dl, ha, rd, sn, md, v, kb, cn, pf, co, ou)) → va_S A H0 H1 locs1 → W p l e R s m args below meth c H1 locs1 cells slots Q (F0 m (i + 3) ls rest)) : W p l e R s m args below meth c H locs cells slots Q (F0 m i ls (.int v :: .ref a.2.2.1 :: rest)) :=
  va_put (D := D) (ci := 1) (v := .int v) (ty := .boolean) (C := RK) (T := TK) (N := 2) S.1 S.2.1 S.2.2.2.2 inAK tyK tyK_ok nmK S.2.2.2.1 hK hP hD hS 2 rfl rfl 0 (by decide) (S.2.2.2.2 _ fl_K_K_flag) (fun _ h9 => h9) rfl (by decide +kernel) hn hf (Nat.le_of_ble_eq_true rfl) hdg kk
theorem g_X_K_flag {a : AX} (S : CallFix p m c cc nL s args wsA RX) (hN : nw s) (hK : va_K D vwCl (tx a) s) (hP : va_P D vwCl (wx a (pc, ac, lk, mq, ma, mb, ir, sw, io, dl, ha, rd, sn, md, kf, kb, cn, pf, co, ou)) H) (hdg : decode cc i = .ok (.getfield 127, 3)) (kk : W p l e R s m args below meth c H locs cells slots Q (F0 m (i + 3) ls (.int kf :: rest))) : W p l e R s m args below meth c H locs cells slots Q (F0 m i ls (.ref a.2.2.1 :: rest)) :=
  va_getN (D := D) (ci := 1) (v := .int kf) (C := RK) (T := TK) (N := 2) S.1 S.2.1 S.2.2.2.2 inAK S.2.2.2.1 hK hP 2 rfl rfl 0 (by decide) (va_Nw.use rfl (nw_X_K_flag hN)) (fun _ h9 => h9) rfl hdg kk
theorem p_X_K_flag {a : AX} {v : Int32} (S : CallFix p m c cc nL s args wsA RX) (hN : nw s) (hK : va_K D vwCl (tx a) s) (hP : va_P D vwCl (wx a (pc, ac, lk, mq, ma, mb, ir, sw, io, dl, ha, rd, sn, md, kf, kb, cn, pf, co, ou)) H) (hD : va_D A (wx a (pc, ac, lk, mq, ma, mb, ir, sw, io, dl, ha, rd, sn, md, kf, kb, cn, pf, co, ou))) (hS : va_S A H0 H locs) (hn : narrow .boolean (.int v) = .int v) (hf : fits .boolean (.int v) = true) (hdg : decode cc i = .ok (.putfield 127, 3)) (kk : ∀ (H1 : Heap) (locs1 : List Loc), va_P D vwCl (wx a (pc, ac, lk, mq, ma, mb, ir, sw, io, dl, ha, rd, sn, md, v, kb, cn, pf, co, ou)) H1 → va_D A (wx a (pc, ac, lk, mq, ma, mb, ir, sw, io, dl, ha, rd, sn, md, v, kb, cn, pf, co, ou)) → va_S A H0 H1 locs1 → W p l e R s m args below meth c H1 locs1 cells slots Q (F0 m (i + 3) ls rest)) : W p l e R s m args below meth c H locs cells slots Q (F0 m i ls (.int v :: .ref a.2.2.1 :: rest)) :=
  va_putN (D := D) (ci := 1) (v := .int v) (ty := .boolean) (C := RK) (T := TK) (N := 2) S.1 S.2.1 S.2.2.2.2 inAK tyK tyK_ok nmK S.2.2.2.1 hK hP hD hS 2 rfl rfl 0 (by decide) (va_Nw.use rfl (nw_X_K_flag hN)) (fun _ h9 => h9) rfl (by decide +kernel) hn hf (Nat.le_of_ble_eq_true rfl) hdg kk
theorem g_K_K_buffer {a : AX} (S : CallFix p m c cc nL s args wsA RK) (hK : va_K D vwCl (tx a) s) (hP : va_P D vwCl (wx a (pc, ac, lk, mq, ma, mb, ir, sw, io, dl, ha, rd, sn, md, kf, kb, cn, pf, co, ou)) H) (hdg : decode cc i = .ok (.getfield 13, 3)) (kk : W p l e R s m args below meth c H locs cells slots Q (F0 m (i + 3) ls (.int kb :: rest))) : W p l e R s m args below meth c H locs cells slots Q (F0 m i ls (.ref a.2.2.1 :: rest)) :=
  va_get (D := D) (ci := 1) (v := .int kb) (C := RK) (T := TK) (N := 2) S.1 S.2.1 S.2.2.2.2 inAK S.2.2.2.1 hK hP 2 rfl rfl 1 (by decide) (S.2.2.2.2 _ fl_K_K_buffer) (fun _ h9 => h9) rfl hdg kk
theorem p_K_K_buffer {a : AX} {v : Int32} (S : CallFix p m c cc nL s args wsA RK) (hK : va_K D vwCl (tx a) s) (hP : va_P D vwCl (wx a (pc, ac, lk, mq, ma, mb, ir, sw, io, dl, ha, rd, sn, md, kf, kb, cn, pf, co, ou)) H) (hD : va_D A (wx a (pc, ac, lk, mq, ma, mb, ir, sw, io, dl, ha, rd, sn, md, kf, kb, cn, pf, co, ou))) (hS : va_S A H0 H locs) (hdg : decode cc i = .ok (.putfield 13, 3)) (kk : ∀ (H1 : Heap) (locs1 : List Loc), va_P D vwCl (wx a (pc, ac, lk, mq, ma, mb, ir, sw, io, dl, ha, rd, sn, md, kf, v, cn, pf, co, ou)) H1 → va_D A (wx a (pc, ac, lk, mq, ma, mb, ir, sw, io, dl, ha, rd, sn, md, kf, v, cn, pf, co, ou)) → va_S A H0 H1 locs1 → W p l e R s m args below meth c H1 locs1 cells slots Q (F0 m (i + 3) ls rest)) : W p l e R s m args below meth c H locs cells slots Q (F0 m i ls (.int v :: .ref a.2.2.1 :: rest)) :=
  va_put (D := D) (ci := 1) (v := .int v) (ty := .int) (C := RK) (T := TK) (N := 2) S.1 S.2.1 S.2.2.2.2 inAK tyK tyK_ok nmK S.2.2.2.1 hK hP hD hS 2 rfl rfl 1 (by decide) (S.2.2.2.2 _ fl_K_K_buffer) (fun _ h9 => h9) rfl (by decide +kernel) rfl rfl (Nat.le_of_ble_eq_true rfl) hdg kk
theorem g_X_K_buffer {a : AX} (S : CallFix p m c cc nL s args wsA RX) (hN : nw s) (hK : va_K D vwCl (tx a) s) (hP : va_P D vwCl (wx a (pc, ac, lk, mq, ma, mb, ir, sw, io, dl, ha, rd, sn, md, kf, kb, cn, pf, co, ou)) H) (hdg : decode cc i = .ok (.getfield 118, 3)) (kk : W p l e R s m args below meth c H locs cells slots Q (F0 m (i + 3) ls (.int kb :: rest))) : W p l e R s m args below meth c H locs cells slots Q (F0 m i ls (.ref a.2.2.1 :: rest)) :=
  va_getN (D := D) (ci := 1) (v := .int kb) (C := RK) (T := TK) (N := 2) S.1 S.2.1 S.2.2.2.2 inAK S.2.2.2.1 hK hP 2 rfl rfl 1 (by decide) (va_Nw.use rfl (nw_X_K_buffer hN)) (fun _ h9 => h9) rfl hdg kk
theorem p_X_K_buffer {a : AX} {v : Int32} (S : CallFix p m c cc nL s args wsA RX) (hN : nw s) (hK : va_K D vwCl (tx a) s) (hP : va_P D vwCl (wx a (pc, ac, lk, mq, ma, mb, ir, sw, io, dl, ha, rd, sn, md, kf, kb, cn, pf, co, ou)) H) (hD : va_D A (wx a (pc, ac, lk, mq, ma, mb, ir, sw, io, dl, ha, rd, sn, md, kf, kb, cn, pf, co, ou))) (hS : va_S A H0 H locs) (hdg : decode cc i = .ok (.putfield 118, 3)) (kk : ∀ (H1 : Heap) (locs1 : List Loc), va_P D vwCl (wx a (pc, ac, lk, mq, ma, mb, ir, sw, io, dl, ha, rd, sn, md, kf, v, cn, pf, co, ou)) H1 → va_D A (wx a (pc, ac, lk, mq, ma, mb, ir, sw, io, dl, ha, rd, sn, md, kf, v, cn, pf, co, ou)) → va_S A H0 H1 locs1 → W p l e R s m args below meth c H1 locs1 cells slots Q (F0 m (i + 3) ls rest)) : W p l e R s m args below meth c H locs cells slots Q (F0 m i ls (.int v :: .ref a.2.2.1 :: rest)) :=
  va_putN (D := D) (ci := 1) (v := .int v) (ty := .int) (C := RK) (T := TK) (N := 2) S.1 S.2.1 S.2.2.2.2 inAK tyK tyK_ok nmK S.2.2.2.1 hK hP hD hS 2 rfl rfl 1 (by decide) (va_Nw.use rfl (nw_X_K_buffer hN)) (fun _ h9 => h9) rfl (by decide +kernel) rfl rfl (Nat.le_of_ble_eq_true rfl) hdg kk
theorem g_P_P_bytes {a : AX} (S : CallFix p m c cc nL s args wsA RP) (hK : va_K D vwCl (tx a) s) (hP : va_P D vwCl (wx a (pc, ac, lk, mq, ma, mb, ir, sw, io, dl, ha, rd, sn, md, kf, kb, cn, pf, co, ou)) H) (hdg : decode cc i = .ok (.getfield 9, 3)) (kk : W p l e R s m args below meth c H locs cells slots Q (F0 m (i + 3) ls (.ref a.2.2.2.2.1 :: rest))) : W p l e R s m args below meth c H locs cells slots Q (F0 m i ls (.ref a.2.2.2.1 :: rest)) :=
  va_get (D := D) (ci := 2) (v := .ref a.2.2.2.2.1) (C := RP) (T := TP) (N := 3) S.1 S.2.1 S.2.2.2.2 inAP S.2.2.2.1 hK hP 3 rfl rfl 0 (by decide) (S.2.2.2.2 _ fl_P_P_bytes) (fun _ h9 => h9) rfl hdg kk
theorem g_P_P_count {a : AX} (S : CallFix p m c cc nL s args wsA RP) (hK : va_K D vwCl (tx a) s) (hP : va_P D vwCl (wx a (pc, ac, lk, mq, ma, mb, ir, sw, io, dl, ha, rd, sn, md, kf, kb, cn, pf, co, ou)) H) (hdg : decode cc i = .ok (.getfield 15, 3)) (kk : W p l e R s m args below meth c H locs cells slots Q (F0 m (i + 3) ls (.int cn :: rest))) : W p l e R s m args below meth c H locs cells slots Q (F0 m i ls (.ref a.2.2.2.1 :: rest)) :=
  va_get (D := D) (ci := 2) (v := .int cn) (C := RP) (T := TP) (N := 3) S.1 S.2.1 S.2.2.2.2 inAP S.2.2.2.1 hK hP 3 rfl rfl 1 (by decide) (S.2.2.2.2 _ fl_P_P_count) (fun _ h9 => h9) rfl hdg kk
theorem p_P_P_count {a : AX} {v : Int32} (S : CallFix p m c cc nL s args wsA RP) (hK : va_K D vwCl (tx a) s) (hP : va_P D vwCl (wx a (pc, ac, lk, mq, ma, mb, ir, sw, io, dl, ha, rd, sn, md, kf, kb, cn, pf, co, ou)) H) (hD : va_D A (wx a (pc, ac, lk, mq, ma, mb, ir, sw, io, dl, ha, rd, sn, md, kf, kb, cn, pf, co, ou))) (hS : va_S A H0 H locs) (hdg : decode cc i = .ok (.putfield 15, 3)) (kk : ∀ (H1 : Heap) (locs1 : List Loc), va_P D vwCl (wx a (pc, ac, lk, mq, ma, mb, ir, sw, io, dl, ha, rd, sn, md, kf, kb, v, pf, co, ou)) H1 → va_D A (wx a (pc, ac, lk, mq, ma, mb, ir, sw, io, dl, ha, rd, sn, md, kf, kb, v, pf, co, ou)) → va_S A H0 H1 locs1 → W p l e R s m args below meth c H1 locs1 cells slots Q (F0 m (i + 3) ls rest)) : W p l e R s m args below meth c H locs cells slots Q (F0 m i ls (.int v :: .ref a.2.2.2.1 :: rest)) :=
  va_put (D := D) (ci := 2) (v := .int v) (ty := .int) (C := RP) (T := TP) (N := 3) S.1 S.2.1 S.2.2.2.2 inAP tyP tyP_ok nmP S.2.2.2.1 hK hP hD hS 3 rfl rfl 1 (by decide) (S.2.2.2.2 _ fl_P_P_count) (fun _ h9 => h9) rfl (by decide +kernel) rfl rfl (Nat.le_of_ble_eq_true rfl) hdg kk
theorem g_X_P_count {a : AX} (S : CallFix p m c cc nL s args wsA RX) (hN : nw s) (hK : va_K D vwCl (tx a) s) (hP : va_P D vwCl (wx a (pc, ac, lk, mq, ma, mb, ir, sw, io, dl, ha, rd, sn, md, kf, kb, cn, pf, co, ou)) H) (hdg : decode cc i = .ok (.getfield 121, 3)) (kk : W p l e R s m args below meth c H locs cells slots Q (F0 m (i + 3) ls (.int cn :: rest))) : W p l e R s m args below meth c H locs cells slots Q (F0 m i ls (.ref a.2.2.2.1 :: rest)) :=
  va_getN (D := D) (ci := 2) (v := .int cn) (C := RP) (T := TP) (N := 3) S.1 S.2.1 S.2.2.2.2 inAP S.2.2.2.1 hK hP 3 rfl rfl 1 (by decide) (va_Nw.use rfl (nw_X_P_count hN)) (fun _ h9 => h9) rfl hdg kk
theorem p_X_P_count {a : AX} {v : Int32} (S : CallFix p m c cc nL s args wsA RX) (hN : nw s) (hK : va_K D vwCl (tx a) s) (hP : va_P D vwCl (wx a (pc, ac, lk, mq, ma, mb, ir, sw, io, dl, ha, rd, sn, md, kf, kb, cn, pf, co, ou)) H) (hD : va_D A (wx a (pc, ac, lk, mq, ma, mb, ir, sw, io, dl, ha, rd, sn, md, kf, kb, cn, pf, co, ou))) (hS : va_S A H0 H locs) (hdg : decode cc i = .ok (.putfield 121, 3)) (kk : ∀ (H1 : Heap) (locs1 : List Loc), va_P D vwCl (wx a (pc, ac, lk, mq, ma, mb, ir, sw, io, dl, ha, rd, sn, md, kf, kb, v, pf, co, ou)) H1 → va_D A (wx a (pc, ac, lk, mq, ma, mb, ir, sw, io, dl, ha, rd, sn, md, kf, kb, v, pf, co, ou)) → va_S A H0 H1 locs1 → W p l e R s m args below meth c H1 locs1 cells slots Q (F0 m (i + 3) ls rest)) : W p l e R s m args below meth c H locs cells slots Q (F0 m i ls (.int v :: .ref a.2.2.2.1 :: rest)) :=
  va_putN (D := D) (ci := 2) (v := .int v) (ty := .int) (C := RP) (T := TP) (N := 3) S.1 S.2.1 S.2.2.2.2 inAP tyP tyP_ok nmP S.2.2.2.1 hK hP hD hS 3 rfl rfl 1 (by decide) (va_Nw.use rfl (nw_X_P_count hN)) (fun _ h9 => h9) rfl (by decide +kernel) rfl rfl (Nat.le_of_ble_eq_true rfl) hdg kk
theorem g_P_P_flag {a : AX} (S : CallFix p m c cc nL s args wsA RP) (hK : va_K D vwCl (tx a) s) (hP : va_P D vwCl (wx a (pc, ac, lk, mq, ma, mb, ir, sw, io, dl, ha, rd, sn, md, kf, kb, cn, pf, co, ou)) H) (hdg : decode cc i = .ok (.getfield 19, 3)) (kk : W p l e R s m args below meth c H locs cells slots Q (F0 m (i + 3) ls (.int pf :: rest))) : W p l e R s m args below meth c H locs cells slots Q (F0 m i ls (.ref a.2.2.2.1 :: rest)) :=
  va_get (D := D) (ci := 2) (v := .int pf) (C := RP) (T := TP) (N := 3) S.1 S.2.1 S.2.2.2.2 inAP S.2.2.2.1 hK hP 3 rfl rfl 2 (by decide) (S.2.2.2.2 _ fl_P_P_flag) (fun _ h9 => h9) rfl hdg kk
theorem p_P_P_flag {a : AX} {v : Int32} (S : CallFix p m c cc nL s args wsA RP) (hK : va_K D vwCl (tx a) s) (hP : va_P D vwCl (wx a (pc, ac, lk, mq, ma, mb, ir, sw, io, dl, ha, rd, sn, md, kf, kb, cn, pf, co, ou)) H) (hD : va_D A (wx a (pc, ac, lk, mq, ma, mb, ir, sw, io, dl, ha, rd, sn, md, kf, kb, cn, pf, co, ou))) (hS : va_S A H0 H locs) (hn : narrow .boolean (.int v) = .int v) (hf : fits .boolean (.int v) = true) (hdg : decode cc i = .ok (.putfield 19, 3)) (kk : ∀ (H1 : Heap) (locs1 : List Loc), va_P D vwCl (wx a (pc, ac, lk, mq, ma, mb, ir, sw, io, dl, ha, rd, sn, md, kf, kb, cn, v, co, ou)) H1 → va_D A (wx a (pc, ac, lk, mq, ma, mb, ir, sw, io, dl, ha, rd, sn, md, kf, kb, cn, v, co, ou)) → va_S A H0 H1 locs1 → W p l e R s m args below meth c H1 locs1 cells slots Q (F0 m (i + 3) ls rest)) : W p l e R s m args below meth c H locs cells slots Q (F0 m i ls (.int v :: .ref a.2.2.2.1 :: rest)) :=
  va_put (D := D) (ci := 2) (v := .int v) (ty := .boolean) (C := RP) (T := TP) (N := 3) S.1 S.2.1 S.2.2.2.2 inAP tyP tyP_ok nmP S.2.2.2.1 hK hP hD hS 3 rfl rfl 2 (by decide) (S.2.2.2.2 _ fl_P_P_flag) (fun _ h9 => h9) rfl (by decide +kernel) hn hf (Nat.le_of_ble_eq_true rfl) hdg kk
theorem g_X_P_flag {a : AX} (S : CallFix p m c cc nL s args wsA RX) (hN : nw s) (hK : va_K D vwCl (tx a) s) (hP : va_P D vwCl (wx a (pc, ac, lk, mq, ma, mb, ir, sw, io, dl, ha, rd, sn, md, kf, kb, cn, pf, co, ou)) H) (hdg : decode cc i = .ok (.getfield 130, 3)) (kk : W p l e R s m args below meth c H locs cells slots Q (F0 m (i + 3) ls (.int pf :: rest))) : W p l e R s m args below meth c H locs cells slots Q (F0 m i ls (.ref a.2.2.2.1 :: rest)) :=
  va_getN (D := D) (ci := 2) (v := .int pf) (C := RP) (T := TP) (N := 3) S.1 S.2.1 S.2.2.2.2 inAP S.2.2.2.1 hK hP 3 rfl rfl 2 (by decide) (va_Nw.use rfl (nw_X_P_flag hN)) (fun _ h9 => h9) rfl hdg kk
theorem p_X_P_flag {a : AX} {v : Int32} (S : CallFix p m c cc nL s args wsA RX) (hN : nw s) (hK : va_K D vwCl (tx a) s) (hP : va_P D vwCl (wx a (pc, ac, lk, mq, ma, mb, ir, sw, io, dl, ha, rd, sn, md, kf, kb, cn, pf, co, ou)) H) (hD : va_D A (wx a (pc, ac, lk, mq, ma, mb, ir, sw, io, dl, ha, rd, sn, md, kf, kb, cn, pf, co, ou))) (hS : va_S A H0 H locs) (hn : narrow .boolean (.int v) = .int v) (hf : fits .boolean (.int v) = true) (hdg : decode cc i = .ok (.putfield 130, 3)) (kk : ∀ (H1 : Heap) (locs1 : List Loc), va_P D vwCl (wx a (pc, ac, lk, mq, ma, mb, ir, sw, io, dl, ha, rd, sn, md, kf, kb, cn, v, co, ou)) H1 → va_D A (wx a (pc, ac, lk, mq, ma, mb, ir, sw, io, dl, ha, rd, sn, md, kf, kb, cn, v, co, ou)) → va_S A H0 H1 locs1 → W p l e R s m args below meth c H1 locs1 cells slots Q (F0 m (i + 3) ls rest)) : W p l e R s m args below meth c H locs cells slots Q (F0 m i ls (.int v :: .ref a.2.2.2.1 :: rest)) :=
  va_putN (D := D) (ci := 2) (v := .int v) (ty := .boolean) (C := RP) (T := TP) (N := 3) S.1 S.2.1 S.2.2.2.2 inAP tyP tyP_ok nmP S.2.2.2.1 hK hP hD hS 3 rfl rfl 2 (by decide) (va_Nw.use rfl (nw_X_P_flag hN)) (fun _ h9 => h9) rfl (by decide +kernel) hn hf (Nat.le_of_ble_eq_true rfl) hdg kk
theorem g_M_M_core {a : AR} (S : CallFix p m c cc nL s args wsA RM) (hK : va_K D vwCl (tr a) s) (hP : va_P D vwCl (wr a (pc, ac, lk, mq, ma, mb, ir, sw, io, dl, ha, rd, sn, md, kf, kb, cn, pf, co, ou)) H) (hdg : decode cc i = .ok (.getfield 7, 3)) (kk : W p l e R s m args below meth c H locs cells slots Q (F0 m (i + 3) ls (.ref a.2.1 :: rest))) : W p l e R s m args below meth c H locs cells slots Q (F0 m i ls (.ref a.1 :: rest)) :=
  va_get (D := D) (ci := 3) (v := .ref a.2.1) (C := RM) (T := TM) (N := 21) S.1 S.2.1 S.2.2.2.2 inAM S.2.2.2.1 hK hP 0 rfl rfl 0 (by decide) (S.2.2.2.2 _ fl_M_M_core) (fun _ h9 => h9) rfl hdg kk
theorem g_M_M_cap {a : AR} (S : CallFix p m c cc nL s args wsA RM) (hK : va_K D vwCl (tr a) s) (hP : va_P D vwCl (wr a (pc, ac, lk, mq, ma, mb, ir, sw, io, dl, ha, rd, sn, md, kf, kb, cn, pf, co, ou)) H) (hdg : decode cc i = .ok (.getfield 16, 3)) (kk : W p l e R s m args below meth c H locs cells slots Q (F0 m (i + 3) ls (.int (nI a.2.2.2.2.2) :: rest))) : W p l e R s m args below meth c H locs cells slots Q (F0 m i ls (.ref a.1 :: rest)) :=
  va_get (D := D) (ci := 3) (v := .int (nI a.2.2.2.2.2)) (C := RM) (T := TM) (N := 21) S.1 S.2.1 S.2.2.2.2 inAM S.2.2.2.1 hK hP 0 rfl rfl 1 (by decide) (S.2.2.2.2 _ fl_M_M_cap) (fun _ h9 => h9) rfl hdg kk
theorem g_M_M_switches {a : AR} (S : CallFix p m c cc nL s args wsA RM) (hK : va_K D vwCl (tr a) s) (hP : va_P D vwCl (wr a (pc, ac, lk, mq, ma, mb, ir, sw, io, dl, ha, rd, sn, md, kf, kb, cn, pf, co, ou)) H) (hdg : decode cc i = .ok (.getfield 76, 3)) (kk : W p l e R s m args below meth c H locs cells slots Q (F0 m (i + 3) ls (.int sw :: rest))) : W p l e R s m args below meth c H locs cells slots Q (F0 m i ls (.ref a.1 :: rest)) :=
  va_get (D := D) (ci := 3) (v := .int sw) (C := RM) (T := TM) (N := 21) S.1 S.2.1 S.2.2.2.2 inAM S.2.2.2.1 hK hP 0 rfl rfl 2 (by decide) (S.2.2.2.2 _ fl_M_M_switches) (fun _ h9 => h9) rfl hdg kk
theorem p_M_M_switches {a : AR} {v : Int32} (S : CallFix p m c cc nL s args wsA RM) (hK : va_K D vwCl (tr a) s) (hP : va_P D vwCl (wr a (pc, ac, lk, mq, ma, mb, ir, sw, io, dl, ha, rd, sn, md, kf, kb, cn, pf, co, ou)) H) (hD : va_D A (wr a (pc, ac, lk, mq, ma, mb, ir, sw, io, dl, ha, rd, sn, md, kf, kb, cn, pf, co, ou))) (hS : va_S A H0 H locs) (hdg : decode cc i = .ok (.putfield 76, 3)) (kk : ∀ (H1 : Heap) (locs1 : List Loc), va_P D vwCl (wr a (pc, ac, lk, mq, ma, mb, ir, v, io, dl, ha, rd, sn, md, kf, kb, cn, pf, co, ou)) H1 → va_D A (wr a (pc, ac, lk, mq, ma, mb, ir, v, io, dl, ha, rd, sn, md, kf, kb, cn, pf, co, ou)) → va_S A H0 H1 locs1 → W p l e R s m args below meth c H1 locs1 cells slots Q (F0 m (i + 3) ls rest)) : W p l e R s m args below meth c H locs cells slots Q (F0 m i ls (.int v :: .ref a.1 :: rest)) :=
  va_put (D := D) (ci := 3) (v := .int v) (ty := .int) (C := RM) (T := TM) (N := 21) S.1 S.2.1 S.2.2.2.2 inAM tyM tyM_ok nmM S.2.2.2.1 hK hP hD hS 0 rfl rfl 2 (by decide) (S.2.2.2.2 _ fl_M_M_switches) (fun _ h9 => h9) rfl (by decide +kernel) rfl rfl (Nat.le_of_ble_eq_true rfl) hdg kk
theorem g_M_M_ready {a : AR} (S : CallFix p m c cc nL s args wsA RM) (hK : va_K D vwCl (tr a) s) (hP : va_P D vwCl (wr a (pc, ac, lk, mq, ma, mb, ir, sw, io, dl, ha, rd, sn, md, kf, kb, cn, pf, co, ou)) H) (hdg : decode cc i = .ok (.getfield 20, 3)) (kk : W p l e R s m args below meth c H locs cells slots Q (F0 m (i + 3) ls (.int rd :: rest))) : W p l e R s m args below meth c H locs cells slots Q (F0 m i ls (.ref a.1 :: rest)) :=
  va_get (D := D) (ci := 3) (v := .int rd) (C := RM) (T := TM) (N := 21) S.1 S.2.1 S.2.2.2.2 inAM S.2.2.2.1 hK hP 0 rfl rfl 3 (by decide) (S.2.2.2.2 _ fl_M_M_ready) (fun _ h9 => h9) rfl hdg kk
theorem p_M_M_ready {a : AR} {v : Int32} (S : CallFix p m c cc nL s args wsA RM) (hK : va_K D vwCl (tr a) s) (hP : va_P D vwCl (wr a (pc, ac, lk, mq, ma, mb, ir, sw, io, dl, ha, rd, sn, md, kf, kb, cn, pf, co, ou)) H) (hD : va_D A (wr a (pc, ac, lk, mq, ma, mb, ir, sw, io, dl, ha, rd, sn, md, kf, kb, cn, pf, co, ou))) (hS : va_S A H0 H locs) (hn : narrow .boolean (.int v) = .int v) (hf : fits .boolean (.int v) = true) (hdg : decode cc i = .ok (.putfield 20, 3)) (kk : ∀ (H1 : Heap) (locs1 : List Loc), va_P D vwCl (wr a (pc, ac, lk, mq, ma, mb, ir, sw, io, dl, ha, v, sn, md, kf, kb, cn, pf, co, ou)) H1 → va_D A (wr a (pc, ac, lk, mq, ma, mb, ir, sw, io, dl, ha, v, sn, md, kf, kb, cn, pf, co, ou)) → va_S A H0 H1 locs1 → W p l e R s m args below meth c H1 locs1 cells slots Q (F0 m (i + 3) ls rest)) : W p l e R s m args below meth c H locs cells slots Q (F0 m i ls (.int v :: .ref a.1 :: rest)) :=
  va_put (D := D) (ci := 3) (v := .int v) (ty := .boolean) (C := RM) (T := TM) (N := 21) S.1 S.2.1 S.2.2.2.2 inAM tyM tyM_ok nmM S.2.2.2.1 hK hP hD hS 0 rfl rfl 3 (by decide) (S.2.2.2.2 _ fl_M_M_ready) (fun _ h9 => h9) rfl (by decide +kernel) hn hf (Nat.le_of_ble_eq_true rfl) hdg kk
theorem g_M_M_at {a : AR} (S : CallFix p m c cc nL s args wsA RM) (hK : va_K D vwCl (tr a) s) (hP : va_P D vwCl (wr a (pc, ac, lk, mq, ma, mb, ir, sw, io, dl, ha, rd, sn, md, kf, kb, cn, pf, co, ou)) H) (hdg : decode cc i = .ok (.getfield 24, 3)) (kk : W p l e R s m args below meth c H locs cells slots Q (F0 m (i + 3) ls (.int sn :: rest))) : W p l e R s m args below meth c H locs cells slots Q (F0 m i ls (.ref a.1 :: rest)) :=
  va_get (D := D) (ci := 3) (v := .int sn) (C := RM) (T := TM) (N := 21) S.1 S.2.1 S.2.2.2.2 inAM S.2.2.2.1 hK hP 0 rfl rfl 4 (by decide) (S.2.2.2.2 _ fl_M_M_at) (fun _ h9 => h9) rfl hdg kk
theorem p_M_M_at {a : AR} {v : Int32} (S : CallFix p m c cc nL s args wsA RM) (hK : va_K D vwCl (tr a) s) (hP : va_P D vwCl (wr a (pc, ac, lk, mq, ma, mb, ir, sw, io, dl, ha, rd, sn, md, kf, kb, cn, pf, co, ou)) H) (hD : va_D A (wr a (pc, ac, lk, mq, ma, mb, ir, sw, io, dl, ha, rd, sn, md, kf, kb, cn, pf, co, ou))) (hS : va_S A H0 H locs) (hdg : decode cc i = .ok (.putfield 24, 3)) (kk : ∀ (H1 : Heap) (locs1 : List Loc), va_P D vwCl (wr a (pc, ac, lk, mq, ma, mb, ir, sw, io, dl, ha, rd, v, md, kf, kb, cn, pf, co, ou)) H1 → va_D A (wr a (pc, ac, lk, mq, ma, mb, ir, sw, io, dl, ha, rd, v, md, kf, kb, cn, pf, co, ou)) → va_S A H0 H1 locs1 → W p l e R s m args below meth c H1 locs1 cells slots Q (F0 m (i + 3) ls rest)) : W p l e R s m args below meth c H locs cells slots Q (F0 m i ls (.int v :: .ref a.1 :: rest)) :=
  va_put (D := D) (ci := 3) (v := .int v) (ty := .int) (C := RM) (T := TM) (N := 21) S.1 S.2.1 S.2.2.2.2 inAM tyM tyM_ok nmM S.2.2.2.1 hK hP hD hS 0 rfl rfl 4 (by decide) (S.2.2.2.2 _ fl_M_M_at) (fun _ h9 => h9) rfl (by decide +kernel) rfl rfl (Nat.le_of_ble_eq_true rfl) hdg kk
theorem g_M_M_pc {a : AR} (S : CallFix p m c cc nL s args wsA RM) (hK : va_K D vwCl (tr a) s) (hP : va_P D vwCl (wr a (pc, ac, lk, mq, ma, mb, ir, sw, io, dl, ha, rd, sn, md, kf, kb, cn, pf, co, ou)) H) (hdg : decode cc i = .ok (.getfield 27, 3)) (kk : W p l e R s m args below meth c H locs cells slots Q (F0 m (i + 3) ls (.int pc :: rest))) : W p l e R s m args below meth c H locs cells slots Q (F0 m i ls (.ref a.1 :: rest)) :=
  va_get (D := D) (ci := 3) (v := .int pc) (C := RM) (T := TM) (N := 21) S.1 S.2.1 S.2.2.2.2 inAM S.2.2.2.1 hK hP 0 rfl rfl 5 (by decide) (S.2.2.2.2 _ fl_M_M_pc) (fun _ h9 => h9) rfl hdg kk
theorem p_M_M_pc {a : AR} {v : Int32} (S : CallFix p m c cc nL s args wsA RM) (hK : va_K D vwCl (tr a) s) (hP : va_P D vwCl (wr a (pc, ac, lk, mq, ma, mb, ir, sw, io, dl, ha, rd, sn, md, kf, kb, cn, pf, co, ou)) H) (hD : va_D A (wr a (pc, ac, lk, mq, ma, mb, ir, sw, io, dl, ha, rd, sn, md, kf, kb, cn, pf, co, ou))) (hS : va_S A H0 H locs) (hdg : decode cc i = .ok (.putfield 27, 3)) (kk : ∀ (H1 : Heap) (locs1 : List Loc), va_P D vwCl (wr a (v, ac, lk, mq, ma, mb, ir, sw, io, dl, ha, rd, sn, md, kf, kb, cn, pf, co, ou)) H1 → va_D A (wr a (v, ac, lk, mq, ma, mb, ir, sw, io, dl, ha, rd, sn, md, kf, kb, cn, pf, co, ou)) → va_S A H0 H1 locs1 → W p l e R s m args below meth c H1 locs1 cells slots Q (F0 m (i + 3) ls rest)) : W p l e R s m args below meth c H locs cells slots Q (F0 m i ls (.int v :: .ref a.1 :: rest)) :=
  va_put (D := D) (ci := 3) (v := .int v) (ty := .int) (C := RM) (T := TM) (N := 21) S.1 S.2.1 S.2.2.2.2 inAM tyM tyM_ok nmM S.2.2.2.1 hK hP hD hS 0 rfl rfl 5 (by decide) (S.2.2.2.2 _ fl_M_M_pc) (fun _ h9 => h9) rfl (by decide +kernel) rfl rfl (Nat.le_of_ble_eq_true rfl) hdg kk
theorem g_M_M_ac {a : AR} (S : CallFix p m c cc nL s args wsA RM) (hK : va_K D vwCl (tr a) s) (hP : va_P D vwCl (wr a (pc, ac, lk, mq, ma, mb, ir, sw, io, dl, ha, rd, sn, md, kf, kb, cn, pf, co, ou)) H) (hdg : decode cc i = .ok (.getfield 30, 3)) (kk : W p l e R s m args below meth c H locs cells slots Q (F0 m (i + 3) ls (.int ac :: rest))) : W p l e R s m args below meth c H locs cells slots Q (F0 m i ls (.ref a.1 :: rest)) :=
  va_get (D := D) (ci := 3) (v := .int ac) (C := RM) (T := TM) (N := 21) S.1 S.2.1 S.2.2.2.2 inAM S.2.2.2.1 hK hP 0 rfl rfl 6 (by decide) (S.2.2.2.2 _ fl_M_M_ac) (fun _ h9 => h9) rfl hdg kk
theorem p_M_M_ac {a : AR} {v : Int32} (S : CallFix p m c cc nL s args wsA RM) (hK : va_K D vwCl (tr a) s) (hP : va_P D vwCl (wr a (pc, ac, lk, mq, ma, mb, ir, sw, io, dl, ha, rd, sn, md, kf, kb, cn, pf, co, ou)) H) (hD : va_D A (wr a (pc, ac, lk, mq, ma, mb, ir, sw, io, dl, ha, rd, sn, md, kf, kb, cn, pf, co, ou))) (hS : va_S A H0 H locs) (hdg : decode cc i = .ok (.putfield 30, 3)) (kk : ∀ (H1 : Heap) (locs1 : List Loc), va_P D vwCl (wr a (pc, v, lk, mq, ma, mb, ir, sw, io, dl, ha, rd, sn, md, kf, kb, cn, pf, co, ou)) H1 → va_D A (wr a (pc, v, lk, mq, ma, mb, ir, sw, io, dl, ha, rd, sn, md, kf, kb, cn, pf, co, ou)) → va_S A H0 H1 locs1 → W p l e R s m args below meth c H1 locs1 cells slots Q (F0 m (i + 3) ls rest)) : W p l e R s m args below meth c H locs cells slots Q (F0 m i ls (.int v :: .ref a.1 :: rest)) :=
  va_put (D := D) (ci := 3) (v := .int v) (ty := .int) (C := RM) (T := TM) (N := 21) S.1 S.2.1 S.2.2.2.2 inAM tyM tyM_ok nmM S.2.2.2.1 hK hP hD hS 0 rfl rfl 6 (by decide) (S.2.2.2.2 _ fl_M_M_ac) (fun _ h9 => h9) rfl (by decide +kernel) rfl rfl (Nat.le_of_ble_eq_true rfl) hdg kk
theorem g_M_M_link {a : AR} (S : CallFix p m c cc nL s args wsA RM) (hK : va_K D vwCl (tr a) s) (hP : va_P D vwCl (wr a (pc, ac, lk, mq, ma, mb, ir, sw, io, dl, ha, rd, sn, md, kf, kb, cn, pf, co, ou)) H) (hdg : decode cc i = .ok (.getfield 33, 3)) (kk : W p l e R s m args below meth c H locs cells slots Q (F0 m (i + 3) ls (.int lk :: rest))) : W p l e R s m args below meth c H locs cells slots Q (F0 m i ls (.ref a.1 :: rest)) :=
  va_get (D := D) (ci := 3) (v := .int lk) (C := RM) (T := TM) (N := 21) S.1 S.2.1 S.2.2.2.2 inAM S.2.2.2.1 hK hP 0 rfl rfl 7 (by decide) (S.2.2.2.2 _ fl_M_M_link) (fun _ h9 => h9) rfl hdg kk
theorem p_M_M_link {a : AR} {v : Int32} (S : CallFix p m c cc nL s args wsA RM) (hK : va_K D vwCl (tr a) s) (hP : va_P D vwCl (wr a (pc, ac, lk, mq, ma, mb, ir, sw, io, dl, ha, rd, sn, md, kf, kb, cn, pf, co, ou)) H) (hD : va_D A (wr a (pc, ac, lk, mq, ma, mb, ir, sw, io, dl, ha, rd, sn, md, kf, kb, cn, pf, co, ou))) (hS : va_S A H0 H locs) (hdg : decode cc i = .ok (.putfield 33, 3)) (kk : ∀ (H1 : Heap) (locs1 : List Loc), va_P D vwCl (wr a (pc, ac, v, mq, ma, mb, ir, sw, io, dl, ha, rd, sn, md, kf, kb, cn, pf, co, ou)) H1 → va_D A (wr a (pc, ac, v, mq, ma, mb, ir, sw, io, dl, ha, rd, sn, md, kf, kb, cn, pf, co, ou)) → va_S A H0 H1 locs1 → W p l e R s m args below meth c H1 locs1 cells slots Q (F0 m (i + 3) ls rest)) : W p l e R s m args below meth c H locs cells slots Q (F0 m i ls (.int v :: .ref a.1 :: rest)) :=
  va_put (D := D) (ci := 3) (v := .int v) (ty := .int) (C := RM) (T := TM) (N := 21) S.1 S.2.1 S.2.2.2.2 inAM tyM tyM_ok nmM S.2.2.2.1 hK hP hD hS 0 rfl rfl 7 (by decide) (S.2.2.2.2 _ fl_M_M_link) (fun _ h9 => h9) rfl (by decide +kernel) rfl rfl (Nat.le_of_ble_eq_true rfl) hdg kk
theorem g_M_M_mq {a : AR} (S : CallFix p m c cc nL s args wsA RM) (hK : va_K D vwCl (tr a) s) (hP : va_P D vwCl (wr a (pc, ac, lk, mq, ma, mb, ir, sw, io, dl, ha, rd, sn, md, kf, kb, cn, pf, co, ou)) H) (hdg : decode cc i = .ok (.getfield 36, 3)) (kk : W p l e R s m args below meth c H locs cells slots Q (F0 m (i + 3) ls (.int mq :: rest))) : W p l e R s m args below meth c H locs cells slots Q (F0 m i ls (.ref a.1 :: rest)) :=
  va_get (D := D) (ci := 3) (v := .int mq) (C := RM) (T := TM) (N := 21) S.1 S.2.1 S.2.2.2.2 inAM S.2.2.2.1 hK hP 0 rfl rfl 8 (by decide) (S.2.2.2.2 _ fl_M_M_mq) (fun _ h9 => h9) rfl hdg kk
theorem p_M_M_mq {a : AR} {v : Int32} (S : CallFix p m c cc nL s args wsA RM) (hK : va_K D vwCl (tr a) s) (hP : va_P D vwCl (wr a (pc, ac, lk, mq, ma, mb, ir, sw, io, dl, ha, rd, sn, md, kf, kb, cn, pf, co, ou)) H) (hD : va_D A (wr a (pc, ac, lk, mq, ma, mb, ir, sw, io, dl, ha, rd, sn, md, kf, kb, cn, pf, co, ou))) (hS : va_S A H0 H locs) (hdg : decode cc i = .ok (.putfield 36, 3)) (kk : ∀ (H1 : Heap) (locs1 : List Loc), va_P D vwCl (wr a (pc, ac, lk, v, ma, mb, ir, sw, io, dl, ha, rd, sn, md, kf, kb, cn, pf, co, ou)) H1 → va_D A (wr a (pc, ac, lk, v, ma, mb, ir, sw, io, dl, ha, rd, sn, md, kf, kb, cn, pf, co, ou)) → va_S A H0 H1 locs1 → W p l e R s m args below meth c H1 locs1 cells slots Q (F0 m (i + 3) ls rest)) : W p l e R s m args below meth c H locs cells slots Q (F0 m i ls (.int v :: .ref a.1 :: rest)) :=
  va_put (D := D) (ci := 3) (v := .int v) (ty := .int) (C := RM) (T := TM) (N := 21) S.1 S.2.1 S.2.2.2.2 inAM tyM tyM_ok nmM S.2.2.2.1 hK hP hD hS 0 rfl rfl 8 (by decide) (S.2.2.2.2 _ fl_M_M_mq) (fun _ h9 => h9) rfl (by decide +kernel) rfl rfl (Nat.le_of_ble_eq_true rfl) hdg kk
theorem g_M_M_ma {a : AR} (S : CallFix p m c cc nL s args wsA RM) (hK : va_K D vwCl (tr a) s) (hP : va_P D vwCl (wr a (pc, ac, lk, mq, ma, mb, ir, sw, io, dl, ha, rd, sn, md, kf, kb, cn, pf, co, ou)) H) (hdg : decode cc i = .ok (.getfield 39, 3)) (kk : W p l e R s m args below meth c H locs cells slots Q (F0 m (i + 3) ls (.int ma :: rest))) : W p l e R s m args below meth c H locs cells slots Q (F0 m i ls (.ref a.1 :: rest)) :=
  va_get (D := D) (ci := 3) (v := .int ma) (C := RM) (T := TM) (N := 21) S.1 S.2.1 S.2.2.2.2 inAM S.2.2.2.1 hK hP 0 rfl rfl 9 (by decide) (S.2.2.2.2 _ fl_M_M_ma) (fun _ h9 => h9) rfl hdg kk
theorem p_M_M_ma {a : AR} {v : Int32} (S : CallFix p m c cc nL s args wsA RM) (hK : va_K D vwCl (tr a) s) (hP : va_P D vwCl (wr a (pc, ac, lk, mq, ma, mb, ir, sw, io, dl, ha, rd, sn, md, kf, kb, cn, pf, co, ou)) H) (hD : va_D A (wr a (pc, ac, lk, mq, ma, mb, ir, sw, io, dl, ha, rd, sn, md, kf, kb, cn, pf, co, ou))) (hS : va_S A H0 H locs) (hdg : decode cc i = .ok (.putfield 39, 3)) (kk : ∀ (H1 : Heap) (locs1 : List Loc), va_P D vwCl (wr a (pc, ac, lk, mq, v, mb, ir, sw, io, dl, ha, rd, sn, md, kf, kb, cn, pf, co, ou)) H1 → va_D A (wr a (pc, ac, lk, mq, v, mb, ir, sw, io, dl, ha, rd, sn, md, kf, kb, cn, pf, co, ou)) → va_S A H0 H1 locs1 → W p l e R s m args below meth c H1 locs1 cells slots Q (F0 m (i + 3) ls rest)) : W p l e R s m args below meth c H locs cells slots Q (F0 m i ls (.int v :: .ref a.1 :: rest)) :=
  va_put (D := D) (ci := 3) (v := .int v) (ty := .int) (C := RM) (T := TM) (N := 21) S.1 S.2.1 S.2.2.2.2 inAM tyM tyM_ok nmM S.2.2.2.1 hK hP hD hS 0 rfl rfl 9 (by decide) (S.2.2.2.2 _ fl_M_M_ma) (fun _ h9 => h9) rfl (by decide +kernel) rfl rfl (Nat.le_of_ble_eq_true rfl) hdg kk
theorem g_M_M_mb {a : AR} (S : CallFix p m c cc nL s args wsA RM) (hK : va_K D vwCl (tr a) s) (hP : va_P D vwCl (wr a (pc, ac, lk, mq, ma, mb, ir, sw, io, dl, ha, rd, sn, md, kf, kb, cn, pf, co, ou)) H) (hdg : decode cc i = .ok (.getfield 42, 3)) (kk : W p l e R s m args below meth c H locs cells slots Q (F0 m (i + 3) ls (.int mb :: rest))) : W p l e R s m args below meth c H locs cells slots Q (F0 m i ls (.ref a.1 :: rest)) :=
  va_get (D := D) (ci := 3) (v := .int mb) (C := RM) (T := TM) (N := 21) S.1 S.2.1 S.2.2.2.2 inAM S.2.2.2.1 hK hP 0 rfl rfl 10 (by decide) (S.2.2.2.2 _ fl_M_M_mb) (fun _ h9 => h9) rfl hdg kk
theorem p_M_M_mb {a : AR} {v : Int32} (S : CallFix p m c cc nL s args wsA RM) (hK : va_K D vwCl (tr a) s) (hP : va_P D vwCl (wr a (pc, ac, lk, mq, ma, mb, ir, sw, io, dl, ha, rd, sn, md, kf, kb, cn, pf, co, ou)) H) (hD : va_D A (wr a (pc, ac, lk, mq, ma, mb, ir, sw, io, dl, ha, rd, sn, md, kf, kb, cn, pf, co, ou))) (hS : va_S A H0 H locs) (hdg : decode cc i = .ok (.putfield 42, 3)) (kk : ∀ (H1 : Heap) (locs1 : List Loc), va_P D vwCl (wr a (pc, ac, lk, mq, ma, v, ir, sw, io, dl, ha, rd, sn, md, kf, kb, cn, pf, co, ou)) H1 → va_D A (wr a (pc, ac, lk, mq, ma, v, ir, sw, io, dl, ha, rd, sn, md, kf, kb, cn, pf, co, ou)) → va_S A H0 H1 locs1 → W p l e R s m args below meth c H1 locs1 cells slots Q (F0 m (i + 3) ls rest)) : W p l e R s m args below meth c H locs cells slots Q (F0 m i ls (.int v :: .ref a.1 :: rest)) :=
  va_put (D := D) (ci := 3) (v := .int v) (ty := .int) (C := RM) (T := TM) (N := 21) S.1 S.2.1 S.2.2.2.2 inAM tyM tyM_ok nmM S.2.2.2.1 hK hP hD hS 0 rfl rfl 10 (by decide) (S.2.2.2.2 _ fl_M_M_mb) (fun _ h9 => h9) rfl (by decide +kernel) rfl rfl (Nat.le_of_ble_eq_true rfl) hdg kk
theorem g_M_M_ir {a : AR} (S : CallFix p m c cc nL s args wsA RM) (hK : va_K D vwCl (tr a) s) (hP : va_P D vwCl (wr a (pc, ac, lk, mq, ma, mb, ir, sw, io, dl, ha, rd, sn, md, kf, kb, cn, pf, co, ou)) H) (hdg : decode cc i = .ok (.getfield 45, 3)) (kk : W p l e R s m args below meth c H locs cells slots Q (F0 m (i + 3) ls (.int ir :: rest))) : W p l e R s m args below meth c H locs cells slots Q (F0 m i ls (.ref a.1 :: rest)) :=
  va_get (D := D) (ci := 3) (v := .int ir) (C := RM) (T := TM) (N := 21) S.1 S.2.1 S.2.2.2.2 inAM S.2.2.2.1 hK hP 0 rfl rfl 11 (by decide) (S.2.2.2.2 _ fl_M_M_ir) (fun _ h9 => h9) rfl hdg kk
theorem p_M_M_ir {a : AR} {v : Int32} (S : CallFix p m c cc nL s args wsA RM) (hK : va_K D vwCl (tr a) s) (hP : va_P D vwCl (wr a (pc, ac, lk, mq, ma, mb, ir, sw, io, dl, ha, rd, sn, md, kf, kb, cn, pf, co, ou)) H) (hD : va_D A (wr a (pc, ac, lk, mq, ma, mb, ir, sw, io, dl, ha, rd, sn, md, kf, kb, cn, pf, co, ou))) (hS : va_S A H0 H locs) (hdg : decode cc i = .ok (.putfield 45, 3)) (kk : ∀ (H1 : Heap) (locs1 : List Loc), va_P D vwCl (wr a (pc, ac, lk, mq, ma, mb, v, sw, io, dl, ha, rd, sn, md, kf, kb, cn, pf, co, ou)) H1 → va_D A (wr a (pc, ac, lk, mq, ma, mb, v, sw, io, dl, ha, rd, sn, md, kf, kb, cn, pf, co, ou)) → va_S A H0 H1 locs1 → W p l e R s m args below meth c H1 locs1 cells slots Q (F0 m (i + 3) ls rest)) : W p l e R s m args below meth c H locs cells slots Q (F0 m i ls (.int v :: .ref a.1 :: rest)) :=
  va_put (D := D) (ci := 3) (v := .int v) (ty := .int) (C := RM) (T := TM) (N := 21) S.1 S.2.1 S.2.2.2.2 inAM tyM tyM_ok nmM S.2.2.2.1 hK hP hD hS 0 rfl rfl 11 (by decide) (S.2.2.2.2 _ fl_M_M_ir) (fun _ h9 => h9) rfl (by decide +kernel) rfl rfl (Nat.le_of_ble_eq_true rfl) hdg kk
theorem g_M_M_ion {a : AR} (S : CallFix p m c cc nL s args wsA RM) (hK : va_K D vwCl (tr a) s) (hP : va_P D vwCl (wr a (pc, ac, lk, mq, ma, mb, ir, sw, io, dl, ha, rd, sn, md, kf, kb, cn, pf, co, ou)) H) (hdg : decode cc i = .ok (.getfield 48, 3)) (kk : W p l e R s m args below meth c H locs cells slots Q (F0 m (i + 3) ls (.int io :: rest))) : W p l e R s m args below meth c H locs cells slots Q (F0 m i ls (.ref a.1 :: rest)) :=
  va_get (D := D) (ci := 3) (v := .int io) (C := RM) (T := TM) (N := 21) S.1 S.2.1 S.2.2.2.2 inAM S.2.2.2.1 hK hP 0 rfl rfl 12 (by decide) (S.2.2.2.2 _ fl_M_M_ion) (fun _ h9 => h9) rfl hdg kk
theorem p_M_M_ion {a : AR} {v : Int32} (S : CallFix p m c cc nL s args wsA RM) (hK : va_K D vwCl (tr a) s) (hP : va_P D vwCl (wr a (pc, ac, lk, mq, ma, mb, ir, sw, io, dl, ha, rd, sn, md, kf, kb, cn, pf, co, ou)) H) (hD : va_D A (wr a (pc, ac, lk, mq, ma, mb, ir, sw, io, dl, ha, rd, sn, md, kf, kb, cn, pf, co, ou))) (hS : va_S A H0 H locs) (hn : narrow .boolean (.int v) = .int v) (hf : fits .boolean (.int v) = true) (hdg : decode cc i = .ok (.putfield 48, 3)) (kk : ∀ (H1 : Heap) (locs1 : List Loc), va_P D vwCl (wr a (pc, ac, lk, mq, ma, mb, ir, sw, v, dl, ha, rd, sn, md, kf, kb, cn, pf, co, ou)) H1 → va_D A (wr a (pc, ac, lk, mq, ma, mb, ir, sw, v, dl, ha, rd, sn, md, kf, kb, cn, pf, co, ou)) → va_S A H0 H1 locs1 → W p l e R s m args below meth c H1 locs1 cells slots Q (F0 m (i + 3) ls rest)) : W p l e R s m args below meth c H locs cells slots Q (F0 m i ls (.int v :: .ref a.1 :: rest)) :=
  va_put (D := D) (ci := 3) (v := .int v) (ty := .boolean) (C := RM) (T := TM) (N := 21) S.1 S.2.1 S.2.2.2.2 inAM tyM tyM_ok nmM S.2.2.2.1 hK hP hD hS 0 rfl rfl 12 (by decide) (S.2.2.2.2 _ fl_M_M_ion) (fun _ h9 => h9) rfl (by decide +kernel) hn hf (Nat.le_of_ble_eq_true rfl) hdg kk
theorem g_M_M_delay {a : AR} (S : CallFix p m c cc nL s args wsA RM) (hK : va_K D vwCl (tr a) s) (hP : va_P D vwCl (wr a (pc, ac, lk, mq, ma, mb, ir, sw, io, dl, ha, rd, sn, md, kf, kb, cn, pf, co, ou)) H) (hdg : decode cc i = .ok (.getfield 51, 3)) (kk : W p l e R s m args below meth c H locs cells slots Q (F0 m (i + 3) ls (.int dl :: rest))) : W p l e R s m args below meth c H locs cells slots Q (F0 m i ls (.ref a.1 :: rest)) :=
  va_get (D := D) (ci := 3) (v := .int dl) (C := RM) (T := TM) (N := 21) S.1 S.2.1 S.2.2.2.2 inAM S.2.2.2.1 hK hP 0 rfl rfl 13 (by decide) (S.2.2.2.2 _ fl_M_M_delay) (fun _ h9 => h9) rfl hdg kk
theorem p_M_M_delay {a : AR} {v : Int32} (S : CallFix p m c cc nL s args wsA RM) (hK : va_K D vwCl (tr a) s) (hP : va_P D vwCl (wr a (pc, ac, lk, mq, ma, mb, ir, sw, io, dl, ha, rd, sn, md, kf, kb, cn, pf, co, ou)) H) (hD : va_D A (wr a (pc, ac, lk, mq, ma, mb, ir, sw, io, dl, ha, rd, sn, md, kf, kb, cn, pf, co, ou))) (hS : va_S A H0 H locs) (hn : narrow .boolean (.int v) = .int v) (hf : fits .boolean (.int v) = true) (hdg : decode cc i = .ok (.putfield 51, 3)) (kk : ∀ (H1 : Heap) (locs1 : List Loc), va_P D vwCl (wr a (pc, ac, lk, mq, ma, mb, ir, sw, io, v, ha, rd, sn, md, kf, kb, cn, pf, co, ou)) H1 → va_D A (wr a (pc, ac, lk, mq, ma, mb, ir, sw, io, v, ha, rd, sn, md, kf, kb, cn, pf, co, ou)) → va_S A H0 H1 locs1 → W p l e R s m args below meth c H1 locs1 cells slots Q (F0 m (i + 3) ls rest)) : W p l e R s m args below meth c H locs cells slots Q (F0 m i ls (.int v :: .ref a.1 :: rest)) :=
  va_put (D := D) (ci := 3) (v := .int v) (ty := .boolean) (C := RM) (T := TM) (N := 21) S.1 S.2.1 S.2.2.2.2 inAM tyM tyM_ok nmM S.2.2.2.1 hK hP hD hS 0 rfl rfl 13 (by decide) (S.2.2.2.2 _ fl_M_M_delay) (fun _ h9 => h9) rfl (by decide +kernel) hn hf (Nat.le_of_ble_eq_true rfl) hdg kk
theorem g_M_M_halted {a : AR} (S : CallFix p m c cc nL s args wsA RM) (hK : va_K D vwCl (tr a) s) (hP : va_P D vwCl (wr a (pc, ac, lk, mq, ma, mb, ir, sw, io, dl, ha, rd, sn, md, kf, kb, cn, pf, co, ou)) H) (hdg : decode cc i = .ok (.getfield 54, 3)) (kk : W p l e R s m args below meth c H locs cells slots Q (F0 m (i + 3) ls (.int ha :: rest))) : W p l e R s m args below meth c H locs cells slots Q (F0 m i ls (.ref a.1 :: rest)) :=
  va_get (D := D) (ci := 3) (v := .int ha) (C := RM) (T := TM) (N := 21) S.1 S.2.1 S.2.2.2.2 inAM S.2.2.2.1 hK hP 0 rfl rfl 14 (by decide) (S.2.2.2.2 _ fl_M_M_halted) (fun _ h9 => h9) rfl hdg kk
theorem p_M_M_halted {a : AR} {v : Int32} (S : CallFix p m c cc nL s args wsA RM) (hK : va_K D vwCl (tr a) s) (hP : va_P D vwCl (wr a (pc, ac, lk, mq, ma, mb, ir, sw, io, dl, ha, rd, sn, md, kf, kb, cn, pf, co, ou)) H) (hD : va_D A (wr a (pc, ac, lk, mq, ma, mb, ir, sw, io, dl, ha, rd, sn, md, kf, kb, cn, pf, co, ou))) (hS : va_S A H0 H locs) (hn : narrow .boolean (.int v) = .int v) (hf : fits .boolean (.int v) = true) (hdg : decode cc i = .ok (.putfield 54, 3)) (kk : ∀ (H1 : Heap) (locs1 : List Loc), va_P D vwCl (wr a (pc, ac, lk, mq, ma, mb, ir, sw, io, dl, v, rd, sn, md, kf, kb, cn, pf, co, ou)) H1 → va_D A (wr a (pc, ac, lk, mq, ma, mb, ir, sw, io, dl, v, rd, sn, md, kf, kb, cn, pf, co, ou)) → va_S A H0 H1 locs1 → W p l e R s m args below meth c H1 locs1 cells slots Q (F0 m (i + 3) ls rest)) : W p l e R s m args below meth c H locs cells slots Q (F0 m i ls (.int v :: .ref a.1 :: rest)) :=
  va_put (D := D) (ci := 3) (v := .int v) (ty := .boolean) (C := RM) (T := TM) (N := 21) S.1 S.2.1 S.2.2.2.2 inAM tyM tyM_ok nmM S.2.2.2.1 hK hP hD hS 0 rfl rfl 14 (by decide) (S.2.2.2.2 _ fl_M_M_halted) (fun _ h9 => h9) rfl (by decide +kernel) hn hf (Nat.le_of_ble_eq_true rfl) hdg kk
theorem g_M_M_keyFlag {a : AR} (S : CallFix p m c cc nL s args wsA RM) (hK : va_K D vwCl (tr a) s) (hP : va_P D vwCl (wr a (pc, ac, lk, mq, ma, mb, ir, sw, io, dl, ha, rd, sn, md, kf, kb, cn, pf, co, ou)) H) (hdg : decode cc i = .ok (.getfield 57, 3)) (kk : W p l e R s m args below meth c H locs cells slots Q (F0 m (i + 3) ls (.int kf :: rest))) : W p l e R s m args below meth c H locs cells slots Q (F0 m i ls (.ref a.1 :: rest)) :=
  va_get (D := D) (ci := 3) (v := .int kf) (C := RM) (T := TM) (N := 21) S.1 S.2.1 S.2.2.2.2 inAM S.2.2.2.1 hK hP 0 rfl rfl 15 (by decide) (S.2.2.2.2 _ fl_M_M_keyFlag) (fun _ h9 => h9) rfl hdg kk
theorem p_M_M_keyFlag {a : AR} {v : Int32} (S : CallFix p m c cc nL s args wsA RM) (hK : va_K D vwCl (tr a) s) (hP : va_P D vwCl (wr a (pc, ac, lk, mq, ma, mb, ir, sw, io, dl, ha, rd, sn, md, kf, kb, cn, pf, co, ou)) H) (hD : va_D A (wr a (pc, ac, lk, mq, ma, mb, ir, sw, io, dl, ha, rd, sn, md, kf, kb, cn, pf, co, ou))) (hS : va_S A H0 H locs) (hn : narrow .boolean (.int v) = .int v) (hf : fits .boolean (.int v) = true) (hdg : decode cc i = .ok (.putfield 57, 3)) (kk : ∀ (H1 : Heap) (locs1 : List Loc), va_P D vwCl (wr a (pc, ac, lk, mq, ma, mb, ir, sw, io, dl, ha, rd, sn, md, v, kb, cn, pf, co, ou)) H1 → va_D A (wr a (pc, ac, lk, mq, ma, mb, ir, sw, io, dl, ha, rd, sn, md, v, kb, cn, pf, co, ou)) → va_S A H0 H1 locs1 → W p l e R s m args below meth c H1 locs1 cells slots Q (F0 m (i + 3) ls rest)) : W p l e R s m args below meth c H locs cells slots Q (F0 m i ls (.int v :: .ref a.1 :: rest)) :=
  va_put (D := D) (ci := 3) (v := .int v) (ty := .boolean) (C := RM) (T := TM) (N := 21) S.1 S.2.1 S.2.2.2.2 inAM tyM tyM_ok nmM S.2.2.2.1 hK hP hD hS 0 rfl rfl 15 (by decide) (S.2.2.2.2 _ fl_M_M_keyFlag) (fun _ h9 => h9) rfl (by decide +kernel) hn hf (Nat.le_of_ble_eq_true rfl) hdg kk
theorem g_M_M_printFlag {a : AR} (S : CallFix p m c cc nL s args wsA RM) (hK : va_K D vwCl (tr a) s) (hP : va_P D vwCl (wr a (pc, ac, lk, mq, ma, mb, ir, sw, io, dl, ha, rd, sn, md, kf, kb, cn, pf, co, ou)) H) (hdg : decode cc i = .ok (.getfield 60, 3)) (kk : W p l e R s m args below meth c H locs cells slots Q (F0 m (i + 3) ls (.int pf :: rest))) : W p l e R s m args below meth c H locs cells slots Q (F0 m i ls (.ref a.1 :: rest)) :=
  va_get (D := D) (ci := 3) (v := .int pf) (C := RM) (T := TM) (N := 21) S.1 S.2.1 S.2.2.2.2 inAM S.2.2.2.1 hK hP 0 rfl rfl 16 (by decide) (S.2.2.2.2 _ fl_M_M_printFlag) (fun _ h9 => h9) rfl hdg kk
theorem p_M_M_printFlag {a : AR} {v : Int32} (S : CallFix p m c cc nL s args wsA RM) (hK : va_K D vwCl (tr a) s) (hP : va_P D vwCl (wr a (pc, ac, lk, mq, ma, mb, ir, sw, io, dl, ha, rd, sn, md, kf, kb, cn, pf, co, ou)) H) (hD : va_D A (wr a (pc, ac, lk, mq, ma, mb, ir, sw, io, dl, ha, rd, sn, md, kf, kb, cn, pf, co, ou))) (hS : va_S A H0 H locs) (hn : narrow .boolean (.int v) = .int v) (hf : fits .boolean (.int v) = true) (hdg : decode cc i = .ok (.putfield 60, 3)) (kk : ∀ (H1 : Heap) (locs1 : List Loc), va_P D vwCl (wr a (pc, ac, lk, mq, ma, mb, ir, sw, io, dl, ha, rd, sn, md, kf, kb, cn, v, co, ou)) H1 → va_D A (wr a (pc, ac, lk, mq, ma, mb, ir, sw, io, dl, ha, rd, sn, md, kf, kb, cn, v, co, ou)) → va_S A H0 H1 locs1 → W p l e R s m args below meth c H1 locs1 cells slots Q (F0 m (i + 3) ls rest)) : W p l e R s m args below meth c H locs cells slots Q (F0 m i ls (.int v :: .ref a.1 :: rest)) :=
  va_put (D := D) (ci := 3) (v := .int v) (ty := .boolean) (C := RM) (T := TM) (N := 21) S.1 S.2.1 S.2.2.2.2 inAM tyM tyM_ok nmM S.2.2.2.1 hK hP hD hS 0 rfl rfl 16 (by decide) (S.2.2.2.2 _ fl_M_M_printFlag) (fun _ h9 => h9) rfl (by decide +kernel) hn hf (Nat.le_of_ble_eq_true rfl) hdg kk
theorem g_M_M_buffer {a : AR} (S : CallFix p m c cc nL s args wsA RM) (hK : va_K D vwCl (tr a) s) (hP : va_P D vwCl (wr a (pc, ac, lk, mq, ma, mb, ir, sw, io, dl, ha, rd, sn, md, kf, kb, cn, pf, co, ou)) H) (hdg : decode cc i = .ok (.getfield 63, 3)) (kk : W p l e R s m args below meth c H locs cells slots Q (F0 m (i + 3) ls (.int kb :: rest))) : W p l e R s m args below meth c H locs cells slots Q (F0 m i ls (.ref a.1 :: rest)) :=
  va_get (D := D) (ci := 3) (v := .int kb) (C := RM) (T := TM) (N := 21) S.1 S.2.1 S.2.2.2.2 inAM S.2.2.2.1 hK hP 0 rfl rfl 17 (by decide) (S.2.2.2.2 _ fl_M_M_buffer) (fun _ h9 => h9) rfl hdg kk
theorem p_M_M_buffer {a : AR} {v : Int32} (S : CallFix p m c cc nL s args wsA RM) (hK : va_K D vwCl (tr a) s) (hP : va_P D vwCl (wr a (pc, ac, lk, mq, ma, mb, ir, sw, io, dl, ha, rd, sn, md, kf, kb, cn, pf, co, ou)) H) (hD : va_D A (wr a (pc, ac, lk, mq, ma, mb, ir, sw, io, dl, ha, rd, sn, md, kf, kb, cn, pf, co, ou))) (hS : va_S A H0 H locs) (hdg : decode cc i = .ok (.putfield 63, 3)) (kk : ∀ (H1 : Heap) (locs1 : List Loc), va_P D vwCl (wr a (pc, ac, lk, mq, ma, mb, ir, sw, io, dl, ha, rd, sn, md, kf, v, cn, pf, co, ou)) H1 → va_D A (wr a (pc, ac, lk, mq, ma, mb, ir, sw, io, dl, ha, rd, sn, md, kf, v, cn, pf, co, ou)) → va_S A H0 H1 locs1 → W p l e R s m args below meth c H1 locs1 cells slots Q (F0 m (i + 3) ls rest)) : W p l e R s m args below meth c H locs cells slots Q (F0 m i ls (.int v :: .ref a.1 :: rest)) :=
  va_put (D := D) (ci := 3) (v := .int v) (ty := .int) (C := RM) (T := TM) (N := 21) S.1 S.2.1 S.2.2.2.2 inAM tyM tyM_ok nmM S.2.2.2.1 hK hP hD hS 0 rfl rfl 17 (by decide) (S.2.2.2.2 _ fl_M_M_buffer) (fun _ h9 => h9) rfl (by decide +kernel) rfl rfl (Nat.le_of_ble_eq_true rfl) hdg kk
theorem g_M_M_printed {a : AR} (S : CallFix p m c cc nL s args wsA RM) (hK : va_K D vwCl (tr a) s) (hP : va_P D vwCl (wr a (pc, ac, lk, mq, ma, mb, ir, sw, io, dl, ha, rd, sn, md, kf, kb, cn, pf, co, ou)) H) (hdg : decode cc i = .ok (.getfield 66, 3)) (kk : W p l e R s m args below meth c H locs cells slots Q (F0 m (i + 3) ls (.int cn :: rest))) : W p l e R s m args below meth c H locs cells slots Q (F0 m i ls (.ref a.1 :: rest)) :=
  va_get (D := D) (ci := 3) (v := .int cn) (C := RM) (T := TM) (N := 21) S.1 S.2.1 S.2.2.2.2 inAM S.2.2.2.1 hK hP 0 rfl rfl 18 (by decide) (S.2.2.2.2 _ fl_M_M_printed) (fun _ h9 => h9) rfl hdg kk
theorem p_M_M_printed {a : AR} {v : Int32} (S : CallFix p m c cc nL s args wsA RM) (hK : va_K D vwCl (tr a) s) (hP : va_P D vwCl (wr a (pc, ac, lk, mq, ma, mb, ir, sw, io, dl, ha, rd, sn, md, kf, kb, cn, pf, co, ou)) H) (hD : va_D A (wr a (pc, ac, lk, mq, ma, mb, ir, sw, io, dl, ha, rd, sn, md, kf, kb, cn, pf, co, ou))) (hS : va_S A H0 H locs) (hdg : decode cc i = .ok (.putfield 66, 3)) (kk : ∀ (H1 : Heap) (locs1 : List Loc), va_P D vwCl (wr a (pc, ac, lk, mq, ma, mb, ir, sw, io, dl, ha, rd, sn, md, kf, kb, v, pf, co, ou)) H1 → va_D A (wr a (pc, ac, lk, mq, ma, mb, ir, sw, io, dl, ha, rd, sn, md, kf, kb, v, pf, co, ou)) → va_S A H0 H1 locs1 → W p l e R s m args below meth c H1 locs1 cells slots Q (F0 m (i + 3) ls rest)) : W p l e R s m args below meth c H locs cells slots Q (F0 m i ls (.int v :: .ref a.1 :: rest)) :=
  va_put (D := D) (ci := 3) (v := .int v) (ty := .int) (C := RM) (T := TM) (N := 21) S.1 S.2.1 S.2.2.2.2 inAM tyM tyM_ok nmM S.2.2.2.1 hK hP hD hS 0 rfl rfl 18 (by decide) (S.2.2.2.2 _ fl_M_M_printed) (fun _ h9 => h9) rfl (by decide +kernel) rfl rfl (Nat.le_of_ble_eq_true rfl) hdg kk
theorem g_M_M_print {a : AR} (S : CallFix p m c cc nL s args wsA RM) (hK : va_K D vwCl (tr a) s) (hP : va_P D vwCl (wr a (pc, ac, lk, mq, ma, mb, ir, sw, io, dl, ha, rd, sn, md, kf, kb, cn, pf, co, ou)) H) (hdg : decode cc i = .ok (.getfield 13, 3)) (kk : W p l e R s m args below meth c H locs cells slots Q (F0 m (i + 3) ls (.ref a.2.2.1 :: rest))) : W p l e R s m args below meth c H locs cells slots Q (F0 m i ls (.ref a.1 :: rest)) :=
  va_get (D := D) (ci := 3) (v := .ref a.2.2.1) (C := RM) (T := TM) (N := 21) S.1 S.2.1 S.2.2.2.2 inAM S.2.2.2.1 hK hP 0 rfl rfl 19 (by decide) (S.2.2.2.2 _ fl_M_M_print) (fun _ h9 => h9) rfl hdg kk
theorem g_M_M_made {a : AR} (S : CallFix p m c cc nL s args wsA RM) (hK : va_K D vwCl (tr a) s) (hP : va_P D vwCl (wr a (pc, ac, lk, mq, ma, mb, ir, sw, io, dl, ha, rd, sn, md, kf, kb, cn, pf, co, ou)) H) (hdg : decode cc i = .ok (.getfield 69, 3)) (kk : W p l e R s m args below meth c H locs cells slots Q (F0 m (i + 3) ls (.int md :: rest))) : W p l e R s m args below meth c H locs cells slots Q (F0 m i ls (.ref a.1 :: rest)) :=
  va_get (D := D) (ci := 3) (v := .int md) (C := RM) (T := TM) (N := 21) S.1 S.2.1 S.2.2.2.2 inAM S.2.2.2.1 hK hP 0 rfl rfl 20 (by decide) (S.2.2.2.2 _ fl_M_M_made) (fun _ h9 => h9) rfl hdg kk
theorem p_M_M_made {a : AR} {v : Int32} (S : CallFix p m c cc nL s args wsA RM) (hK : va_K D vwCl (tr a) s) (hP : va_P D vwCl (wr a (pc, ac, lk, mq, ma, mb, ir, sw, io, dl, ha, rd, sn, md, kf, kb, cn, pf, co, ou)) H) (hD : va_D A (wr a (pc, ac, lk, mq, ma, mb, ir, sw, io, dl, ha, rd, sn, md, kf, kb, cn, pf, co, ou))) (hS : va_S A H0 H locs) (hdg : decode cc i = .ok (.putfield 69, 3)) (kk : ∀ (H1 : Heap) (locs1 : List Loc), va_P D vwCl (wr a (pc, ac, lk, mq, ma, mb, ir, sw, io, dl, ha, rd, sn, v, kf, kb, cn, pf, co, ou)) H1 → va_D A (wr a (pc, ac, lk, mq, ma, mb, ir, sw, io, dl, ha, rd, sn, v, kf, kb, cn, pf, co, ou)) → va_S A H0 H1 locs1 → W p l e R s m args below meth c H1 locs1 cells slots Q (F0 m (i + 3) ls rest)) : W p l e R s m args below meth c H locs cells slots Q (F0 m i ls (.int v :: .ref a.1 :: rest)) :=
  va_put (D := D) (ci := 3) (v := .int v) (ty := .int) (C := RM) (T := TM) (N := 21) S.1 S.2.1 S.2.2.2.2 inAM tyM tyM_ok nmM S.2.2.2.1 hK hP hD hS 0 rfl rfl 20 (by decide) (S.2.2.2.2 _ fl_M_M_made) (fun _ h9 => h9) rfl (by decide +kernel) rfl rfl (Nat.le_of_ble_eq_true rfl) hdg kk
theorem ld_xco {a : AX} {x : Int32} (S : CallFix p m c cc nL s args wsA own) (hK : va_K D vwCl (tx a) s) (hP : va_P D vwCl (wx a (pc, ac, lk, mq, ma, mb, ir, sw, io, dl, ha, rd, sn, md, kf, kb, cn, pf, co, ou)) H) (hin : vp_in x 4096) (hdg : decode cc i = .ok (.iaload, 1)) (kk : W p l e R s m args below meth c H locs cells slots Q (F0 m (i + 1) ls (.int (co x.toNatClampNeg) :: rest))) : W p l e R s m args below meth c H locs cells slots Q (F0 m i ls (.int x :: .ref a.2.1 :: rest)) :=
  va_iald (D := D) (f := co) S.1 S.2.1 hK hP 1 0 rfl rfl hin hdg kk
theorem st_xco {a : AX} {x v : Int32} (S : CallFix p m c cc nL s args wsA own) (hK : va_K D vwCl (tx a) s) (hP : va_P D vwCl (wx a (pc, ac, lk, mq, ma, mb, ir, sw, io, dl, ha, rd, sn, md, kf, kb, cn, pf, co, ou)) H) (hD : va_D A (wx a (pc, ac, lk, mq, ma, mb, ir, sw, io, dl, ha, rd, sn, md, kf, kb, cn, pf, co, ou))) (hS : va_S A H0 H locs) (hin : vp_in x 4096) (hdg : decode cc i = .ok (.iastore, 1)) (kk : ∀ (H1 : Heap) (locs1 : List Loc), va_P D vwCl (wx a (pc, ac, lk, mq, ma, mb, ir, sw, io, dl, ha, rd, sn, md, kf, kb, cn, pf, (upd co x.toNatClampNeg v), ou)) H1 → va_D A (wx a (pc, ac, lk, mq, ma, mb, ir, sw, io, dl, ha, rd, sn, md, kf, kb, cn, pf, (upd co x.toNatClampNeg v), ou)) → va_S A H0 H1 locs1 → W p l e R s m args below meth c H1 locs1 cells slots Q (F0 m (i + 1) ls rest)) : W p l e R s m args below meth c H locs cells slots Q (F0 m i ls (.int v :: .int x :: .ref a.2.1 :: rest)) :=
  va_iast (D := D) (f := co) S.1 S.2.1 hK hP hD hS 1 0 rfl rfl hin hdg kk
theorem ln_xco {a : AX} (S : CallFix p m c cc nL s args wsA own) (hK : va_K D vwCl (tx a) s) (hP : va_P D vwCl (wx a (pc, ac, lk, mq, ma, mb, ir, sw, io, dl, ha, rd, sn, md, kf, kb, cn, pf, co, ou)) H) (hdg : decode cc i = .ok (.arraylength, 1)) (kk : W p l e R s m args below meth c H locs cells slots Q (F0 m (i + 1) ls (.int (nI 4096) :: rest))) : W p l e R s m args below meth c H locs cells slots Q (F0 m i ls (.ref a.2.1 :: rest)) :=
  va_alen (D := D) S.1 S.2.1 hK hP 1 0 rfl rfl rfl hdg kk
theorem ld_xou {a : AX} {x : Int32} (S : CallFix p m c cc nL s args wsA own) (hK : va_K D vwCl (tx a) s) (hP : va_P D vwCl (wx a (pc, ac, lk, mq, ma, mb, ir, sw, io, dl, ha, rd, sn, md, kf, kb, cn, pf, co, ou)) H) (hin : vp_in x a.2.2.2.2.2.2.2) (hdg : decode cc i = .ok (.iaload, 1)) (kk : W p l e R s m args below meth c H locs cells slots Q (F0 m (i + 1) ls (.int (ou x.toNatClampNeg) :: rest))) : W p l e R s m args below meth c H locs cells slots Q (F0 m i ls (.int x :: .ref a.2.2.2.2.1 :: rest)) :=
  va_iald (D := D) (f := ou) S.1 S.2.1 hK hP 4 1 rfl rfl hin hdg kk
theorem st_xou {a : AX} {x v : Int32} (S : CallFix p m c cc nL s args wsA own) (hK : va_K D vwCl (tx a) s) (hP : va_P D vwCl (wx a (pc, ac, lk, mq, ma, mb, ir, sw, io, dl, ha, rd, sn, md, kf, kb, cn, pf, co, ou)) H) (hD : va_D A (wx a (pc, ac, lk, mq, ma, mb, ir, sw, io, dl, ha, rd, sn, md, kf, kb, cn, pf, co, ou))) (hS : va_S A H0 H locs) (hin : vp_in x a.2.2.2.2.2.2.2) (hdg : decode cc i = .ok (.iastore, 1)) (kk : ∀ (H1 : Heap) (locs1 : List Loc), va_P D vwCl (wx a (pc, ac, lk, mq, ma, mb, ir, sw, io, dl, ha, rd, sn, md, kf, kb, cn, pf, co, (upd ou x.toNatClampNeg v))) H1 → va_D A (wx a (pc, ac, lk, mq, ma, mb, ir, sw, io, dl, ha, rd, sn, md, kf, kb, cn, pf, co, (upd ou x.toNatClampNeg v))) → va_S A H0 H1 locs1 → W p l e R s m args below meth c H1 locs1 cells slots Q (F0 m (i + 1) ls rest)) : W p l e R s m args below meth c H locs cells slots Q (F0 m i ls (.int v :: .int x :: .ref a.2.2.2.2.1 :: rest)) :=
  va_iast (D := D) (f := ou) S.1 S.2.1 hK hP hD hS 4 1 rfl rfl hin hdg kk
theorem ln_xou {a : AX} (S : CallFix p m c cc nL s args wsA own) (hK : va_K D vwCl (tx a) s) (hP : va_P D vwCl (wx a (pc, ac, lk, mq, ma, mb, ir, sw, io, dl, ha, rd, sn, md, kf, kb, cn, pf, co, ou)) H) (hdg : decode cc i = .ok (.arraylength, 1)) (kk : W p l e R s m args below meth c H locs cells slots Q (F0 m (i + 1) ls (.int (nI a.2.2.2.2.2.2.2) :: rest))) : W p l e R s m args below meth c H locs cells slots Q (F0 m i ls (.ref a.2.2.2.2.1 :: rest)) :=
  va_alen (D := D) S.1 S.2.1 hK hP 4 1 rfl rfl rfl hdg kk
theorem ld_rco {a : AR} {x : Int32} (S : CallFix p m c cc nL s args wsA own) (hK : va_K D vwCl (tr a) s) (hP : va_P D vwCl (wr a (pc, ac, lk, mq, ma, mb, ir, sw, io, dl, ha, rd, sn, md, kf, kb, cn, pf, co, ou)) H) (hin : vp_in x 4096) (hdg : decode cc i = .ok (.iaload, 1)) (kk : W p l e R s m args below meth c H locs cells slots Q (F0 m (i + 1) ls (.int (co x.toNatClampNeg) :: rest))) : W p l e R s m args below meth c H locs cells slots Q (F0 m i ls (.int x :: .ref a.2.1 :: rest)) :=
  va_iald (D := D) (f := co) S.1 S.2.1 hK hP 1 0 rfl rfl hin hdg kk
theorem st_rco {a : AR} {x v : Int32} (S : CallFix p m c cc nL s args wsA own) (hK : va_K D vwCl (tr a) s) (hP : va_P D vwCl (wr a (pc, ac, lk, mq, ma, mb, ir, sw, io, dl, ha, rd, sn, md, kf, kb, cn, pf, co, ou)) H) (hD : va_D A (wr a (pc, ac, lk, mq, ma, mb, ir, sw, io, dl, ha, rd, sn, md, kf, kb, cn, pf, co, ou))) (hS : va_S A H0 H locs) (hin : vp_in x 4096) (hdg : decode cc i = .ok (.iastore, 1)) (kk : ∀ (H1 : Heap) (locs1 : List Loc), va_P D vwCl (wr a (pc, ac, lk, mq, ma, mb, ir, sw, io, dl, ha, rd, sn, md, kf, kb, cn, pf, (upd co x.toNatClampNeg v), ou)) H1 → va_D A (wr a (pc, ac, lk, mq, ma, mb, ir, sw, io, dl, ha, rd, sn, md, kf, kb, cn, pf, (upd co x.toNatClampNeg v), ou)) → va_S A H0 H1 locs1 → W p l e R s m args below meth c H1 locs1 cells slots Q (F0 m (i + 1) ls rest)) : W p l e R s m args below meth c H locs cells slots Q (F0 m i ls (.int v :: .int x :: .ref a.2.1 :: rest)) :=
  va_iast (D := D) (f := co) S.1 S.2.1 hK hP hD hS 1 0 rfl rfl hin hdg kk
theorem ln_rco {a : AR} (S : CallFix p m c cc nL s args wsA own) (hK : va_K D vwCl (tr a) s) (hP : va_P D vwCl (wr a (pc, ac, lk, mq, ma, mb, ir, sw, io, dl, ha, rd, sn, md, kf, kb, cn, pf, co, ou)) H) (hdg : decode cc i = .ok (.arraylength, 1)) (kk : W p l e R s m args below meth c H locs cells slots Q (F0 m (i + 1) ls (.int (nI 4096) :: rest))) : W p l e R s m args below meth c H locs cells slots Q (F0 m i ls (.ref a.2.1 :: rest)) :=
  va_alen (D := D) S.1 S.2.1 hK hP 1 0 rfl rfl rfl hdg kk
theorem ld_rou {a : AR} {x : Int32} (S : CallFix p m c cc nL s args wsA own) (hK : va_K D vwCl (tr a) s) (hP : va_P D vwCl (wr a (pc, ac, lk, mq, ma, mb, ir, sw, io, dl, ha, rd, sn, md, kf, kb, cn, pf, co, ou)) H) (hin : vp_in x 100) (hdg : decode cc i = .ok (.iaload, 1)) (kk : W p l e R s m args below meth c H locs cells slots Q (F0 m (i + 1) ls (.int (ou x.toNatClampNeg) :: rest))) : W p l e R s m args below meth c H locs cells slots Q (F0 m i ls (.int x :: .ref a.2.2.1 :: rest)) :=
  va_iald (D := D) (f := ou) S.1 S.2.1 hK hP 2 1 rfl rfl hin hdg kk
theorem st_rou {a : AR} {x v : Int32} (S : CallFix p m c cc nL s args wsA own) (hK : va_K D vwCl (tr a) s) (hP : va_P D vwCl (wr a (pc, ac, lk, mq, ma, mb, ir, sw, io, dl, ha, rd, sn, md, kf, kb, cn, pf, co, ou)) H) (hD : va_D A (wr a (pc, ac, lk, mq, ma, mb, ir, sw, io, dl, ha, rd, sn, md, kf, kb, cn, pf, co, ou))) (hS : va_S A H0 H locs) (hin : vp_in x 100) (hdg : decode cc i = .ok (.iastore, 1)) (kk : ∀ (H1 : Heap) (locs1 : List Loc), va_P D vwCl (wr a (pc, ac, lk, mq, ma, mb, ir, sw, io, dl, ha, rd, sn, md, kf, kb, cn, pf, co, (upd ou x.toNatClampNeg v))) H1 → va_D A (wr a (pc, ac, lk, mq, ma, mb, ir, sw, io, dl, ha, rd, sn, md, kf, kb, cn, pf, co, (upd ou x.toNatClampNeg v))) → va_S A H0 H1 locs1 → W p l e R s m args below meth c H1 locs1 cells slots Q (F0 m (i + 1) ls rest)) : W p l e R s m args below meth c H locs cells slots Q (F0 m i ls (.int v :: .int x :: .ref a.2.2.1 :: rest)) :=
  va_iast (D := D) (f := ou) S.1 S.2.1 hK hP hD hS 2 1 rfl rfl hin hdg kk
theorem ln_rou {a : AR} (S : CallFix p m c cc nL s args wsA own) (hK : va_K D vwCl (tr a) s) (hP : va_P D vwCl (wr a (pc, ac, lk, mq, ma, mb, ir, sw, io, dl, ha, rd, sn, md, kf, kb, cn, pf, co, ou)) H) (hdg : decode cc i = .ok (.arraylength, 1)) (kk : W p l e R s m args below meth c H locs cells slots Q (F0 m (i + 1) ls (.int (nI 100) :: rest))) : W p l e R s m args below meth c H locs cells slots Q (F0 m i ls (.ref a.2.2.1 :: rest)) :=
  va_alen (D := D) S.1 S.2.1 hK hP 2 1 rfl rfl rfl hdg kk
theorem rc_X {a : AX} {u : St} (hK : va_K D vwCl (tx a) s) (hP : va_P D vwCl (wx a u) H) : ∃ cell : Cell, H[a.1]? = some cell ∧ cell.vm.isStatics = false ∧ s.vm.findClass RX = some cell.cls := by
  obtain ⟨pc, ac, lk, mq, ma, mb, ir, sw, io, dl, ha, rd, sn, md, kf, kb, cn, pf, co, ou⟩ := u
  exact va_recv (q0 := 0) (ci := 0) (q := (RX, TX, 17)) hK hP rfl rfl
theorem rc_K {a : AX} {u : St} (hK : va_K D vwCl (tx a) s) (hP : va_P D vwCl (wx a u) H) : ∃ cell : Cell, H[a.2.2.1]? = some cell ∧ cell.vm.isStatics = false ∧ s.vm.findClass RK = some cell.cls := by
  obtain ⟨pc, ac, lk, mq, ma, mb, ir, sw, io, dl, ha, rd, sn, md, kf, kb, cn, pf, co, ou⟩ := u
  exact va_recv (q0 := 2) (ci := 1) (q := (RK, TK, 2)) hK hP rfl rfl
theorem rc_P {a : AX} {u : St} (hK : va_K D vwCl (tx a) s) (hP : va_P D vwCl (wx a u) H) : ∃ cell : Cell, H[a.2.2.2.1]? = some cell ∧ cell.vm.isStatics = false ∧ s.vm.findClass RP = some cell.cls := by
  obtain ⟨pc, ac, lk, mq, ma, mb, ir, sw, io, dl, ha, rd, sn, md, kf, kb, cn, pf, co, ou⟩ := u
  exact va_recv (q0 := 3) (ci := 2) (q := (RP, TP, 3)) hK hP rfl rfl
theorem rc_M {a : AR} {u : St} (hK : va_K D vwCl (tr a) s) (hP : va_P D vwCl (wr a u) H) : ∃ cell : Cell, H[a.1]? = some cell ∧ cell.vm.isStatics = false ∧ s.vm.findClass RM = some cell.cls := by
  obtain ⟨pc, ac, lk, mq, ma, mb, ir, sw, io, dl, ha, rd, sn, md, kf, kb, cn, pf, co, ou⟩ := u
  exact va_recv (q0 := 0) (ci := 3) (q := (RM, TM, 21)) hK hP rfl rfl
end FieldRows
end
section
theorem in_4096 (x : Int32) : vp_in (x &&& 4095) 4096 := pk_andIn x 12 (by decide +kernel) (by decide)
theorem in_w {x : Int32} (h : x &&& 4095 = x) : vp_in x 4096 := by
  have := in_4096 x
  rwa [h] at this
theorem an_an (x : Int32) : (x &&& 4095) &&& 4095 = x &&& 4095 := by
  rw [Int32.and_assoc]
  rfl
theorem nI_4096 : nI 4096 = 4096 := by decide +kernel
theorem ad_j {x : Int32} (h0 : ¬ x < 0) (h1 : ¬ 4096 ≤ x) : ∃ j : Nat, j < 4096 ∧ x = nI j := by
  rcases pk_ix x (n := 4096) (by decide) with h | h | h
  · exact absurd h h0
  · exact absurd (nI_4096 ▸ h) h1
  · exact h
theorem ad_w {x : Int32} (h0 : ¬ x < 0) (h1 : ¬ 4096 ≤ x) : x &&& 4095 = x := by
  obtain ⟨j, hj, rfl⟩ := ad_j h0 h1
  rw [pk_andN (by omega) 12 (by decide +kernel)]
  rw [Nat.mod_eq_of_lt (by simpa using hj)]
theorem in_a {x : Int32} (h0 : ¬ x < 0) (h1 : ¬ 4096 ≤ x) : vp_in x 4096 := in_w (ad_w h0 h1)
theorem cn_in {x : Int32} {n : Nat} (hn : n ≤ 100) (h : ∃ k : Nat, k ≤ n ∧ x = nI k) (hl : x < nI n) : vp_in x n := by
  obtain ⟨k, hk, rfl⟩ := h
  exact vp_in_nI ((nI_ltI (by omega) (by omega)).mp hl) (by omega)
theorem by_in {x y : Int32} {n : Nat} (hn : n ≤ 100) (h : ∃ k : Nat, k ≤ n ∧ y = nI k) (h0 : ¬ x < 0) (h1 : ¬ y ≤ x) : vp_in x n := by
  obtain ⟨k, hk, rfl⟩ := h
  obtain ⟨j, hj, rfl⟩ := nI_of h0
  have : ¬ k ≤ j := fun q => h1 ((nI_leI (by omega) hj).mpr q)
  exact vp_in_nI (by omega) (by omega)
theorem in_up {x : Int32} {n m : Nat} (h : vp_in x n) (hm : n ≤ m) : vp_in x m := fun q => h (by
  rcases q with q | q
  · exact Or.inl q
  · exact Or.inr (by omega))
section Dm
variable {p : Program} {l : Launch} {e : Env} {R : Room} {s : State} {m : MethodId} {args : Array Value} {below : List Frame} {meth : Method} {c : Code} {H : Heap} {locs : List Loc} {cells slots : Nat} {Q : State → Prop}
variable {cc : ByteArray} {i : Nat} {ls : Array Slot} {rest : List Value}
theorem dm_eq (hx : p.tables.exec = Jvm.exec) (hb : c.code = cc) {x a b : Int32} {off off2 : Int} {tgt g j : Nat} (d1 : decode cc i = .ok (.ifCond .eq off, 3)) (h1 : (i : Int) + off = (tgt : Int))
    (ka : W p l e R s m args below meth c H locs cells slots Q (F0 m g ls (.int a :: rest)) → W p l e R s m args below meth c H locs cells slots Q (F0 m (i + 3) ls rest)) (d2 : decode cc g = .ok (.goto off2, 3)) (h2 : (g : Int) + off2 = (j : Int))
    (kb : W p l e R s m args below meth c H locs cells slots Q (F0 m j ls (.int b :: rest)) → W p l e R s m args below meth c H locs cells slots Q (F0 m tgt ls rest))
    (k : W p l e R s m args below meth c H locs cells slots Q (F0 m j ls (.int (if x = 0 then b else a) :: rest))) : W p l e R s m args below meth c H locs cells slots Q (F0 m i ls (.int x :: rest)) := by
  refine lv_if_eq hx hb d1 h1 (fun q => kb ?_) (fun q => ka (lv_goto hx hb d2 h2 ?_))
  · rw [if_pos q] at k; exact k
  · rw [if_neg q] at k; exact k
end Dm
theorem cn_lt {cn : Int32} {n : Nat} (hn : n ≤ 100) (h : ∃ k : Nat, k ≤ n ∧ cn = nI k) (hne : ¬ cn = nI n) : cn < nI n := by
  obtain ⟨k, hk, rfl⟩ := h
  have : k ≠ n := fun q => hne (by rw [q])
  exact (nI_ltI (by omega) (by omega)).mpr (by omega)
theorem cn_ge {cn : Int32} {n : Nat} (h : cn = nI n) : ¬ cn < nI n := by
  rw [h]
  exact Int32.lt_irrefl
def r1_ (ir g : Int32) : Int32 := if ir &&& 8 = 0 then g else ((g >>> ((1 : Int32) &&& 31)) ||| ((g &&& 1) <<< ((12 : Int32) &&& 31)))
def r2_ (ir g : Int32) : Int32 := if ir &&& 4 = 0 then g else (((g <<< ((1 : Int32) &&& 31)) ||| (g >>> ((12 : Int32) &&& 31))) &&& 8191)
def rg_ (lk ac ir : Int32) : Int32 := r2_ ir (r1_ ir ((lk <<< ((12 : Int32) &&& 31)) ||| ac))

def mu0 : St → Int32 × St := fun (pc, ac, lk, mq, ma, mb, ir, sw, io, dl, ha, rd, sn, md, kf, kb, cn, pf, co, ou) =>
  if io = 0 ∨ ¬ dl = 0 ∨ (kf = 0 ∧ pf = 0) then (1, (((pc + 1) &&& 4095), ac, lk, mq, pc, mb, ir, sw, io, 0, ha, rd, sn, md, kf, kb, cn, pf, co, ou)) else (40, (pc, ac, lk, mq, ma, mb, ir, sw, io, dl, ha, rd, sn, md, kf, kb, cn, pf, co, ou))
def mu1 : St → Int32 × St := fun (pc, ac, lk, mq, ma, mb, ir, sw, io, dl, ha, rd, sn, md, kf, kb, cn, pf, co, ou) =>
  (if (co (ma &&& 4095).toNatClampNeg) < 3584 then (if (co (ma &&& 4095).toNatClampNeg) < 3072 then 2 else 32) else 20, (pc, ac, lk, mq, ma, (co (ma &&& 4095).toNatClampNeg), (co (ma &&& 4095).toNatClampNeg), sw, io, dl, ha, rd, sn, md, kf, kb, cn, pf, co, ou))
def mu2 : St → Int32 × St := fun (pc, ac, lk, mq, ma, mb, ir, sw, io, dl, ha, rd, sn, md, kf, kb, cn, pf, co, ou) =>
  ((if ir &&& 256 = 0 then 8 + ir / 512 else 3), (pc, ac, lk, mq, ((if ir &&& 128 = 0 then 0 else (ma &&& 3968)) + (ir &&& 127)), mb, ir, sw, io, dl, ha, rd, sn, md, kf, kb, cn, pf, co, ou))
def mu3 : St → Int32 × St := fun (pc, ac, lk, mq, ma, mb, ir, sw, io, dl, ha, rd, sn, md, kf, kb, cn, pf, co, ou) =>
  (if ma < 8 ∨ 15 < ma then 5 else 4, (pc, ac, lk, mq, ma, (co (ma &&& 4095).toNatClampNeg), ir, sw, io, dl, ha, rd, sn, md, kf, kb, cn, pf, co, ou))
def mu4 : St → Int32 × St := fun (pc, ac, lk, mq, ma, mb, ir, sw, io, dl, ha, rd, sn, md, kf, kb, cn, pf, co, ou) =>
  (5, (pc, ac, lk, mq, ma, ((mb + 1) &&& 4095), ir, sw, io, dl, ha, rd, sn, md, kf, kb, cn, pf, (upd co (ma &&& 4095).toNatClampNeg (((mb + 1) &&& 4095) &&& 4095)), ou))
def mu5 : St → Int32 × St := fun (pc, ac, lk, mq, ma, mb, ir, sw, io, dl, ha, rd, sn, md, kf, kb, cn, pf, co, ou) =>
  (8 + ir / 512, (pc, ac, lk, mq, mb, mb, ir, sw, io, dl, ha, rd, sn, md, kf, kb, cn, pf, co, ou))
def mu8 : St → Int32 × St := fun (pc, ac, lk, mq, ma, mb, ir, sw, io, dl, ha, rd, sn, md, kf, kb, cn, pf, co, ou) =>
  (16, (pc, ac, lk, mq, ma, (co (ma &&& 4095).toNatClampNeg), ir, sw, io, dl, ha, rd, sn, md, kf, kb, cn, pf, co, ou))
def mu9 : St → Int32 × St := fun (pc, ac, lk, mq, ma, mb, ir, sw, io, dl, ha, rd, sn, md, kf, kb, cn, pf, co, ou) =>
  (17, (pc, ac, lk, mq, ma, (co (ma &&& 4095).toNatClampNeg), ir, sw, io, dl, ha, rd, sn, md, kf, kb, cn, pf, co, ou))
def mu10 : St → Int32 × St := fun (pc, ac, lk, mq, ma, mb, ir, sw, io, dl, ha, rd, sn, md, kf, kb, cn, pf, co, ou) =>
  (18, (pc, ac, lk, mq, ma, (((co (ma &&& 4095).toNatClampNeg) + 1) &&& 4095), ir, sw, io, dl, ha, rd, sn, md, kf, kb, cn, pf, co, ou))
def mu11 : St → Int32 × St := fun (pc, ac, lk, mq, ma, mb, ir, sw, io, dl, ha, rd, sn, md, kf, kb, cn, pf, co, ou) =>
  (19, (pc, ac, lk, mq, ma, ac, ir, sw, io, dl, ha, rd, sn, md, kf, kb, cn, pf, co, ou))
def mu12 : St → Int32 × St := fun (pc, ac, lk, mq, ma, mb, ir, sw, io, dl, ha, rd, sn, md, kf, kb, cn, pf, co, ou) =>
  (15, (pc, ac, lk, mq, ma, pc, ir, sw, io, dl, ha, rd, sn, md, kf, kb, cn, pf, co, ou))
def mu13 : St → Int32 × St := fun (pc, ac, lk, mq, ma, mb, ir, sw, io, dl, ha, rd, sn, md, kf, kb, cn, pf, co, ou) =>
  (0, (ma, ac, lk, mq, ma, mb, ir, sw, io, dl, ha, rd, sn, md, kf, kb, cn, pf, co, ou))
def mu15 : St → Int32 × St := fun (pc, ac, lk, mq, ma, mb, ir, sw, io, dl, ha, rd, sn, md, kf, kb, cn, pf, co, ou) =>
  (0, (((ma + 1) &&& 4095), ac, lk, mq, ma, mb, ir, sw, io, dl, ha, rd, sn, md, kf, kb, cn, pf, (upd co (ma &&& 4095).toNatClampNeg (mb &&& 4095)), ou))
def mu16 : St → Int32 × St := fun (pc, ac, lk, mq, ma, mb, ir, sw, io, dl, ha, rd, sn, md, kf, kb, cn, pf, co, ou) =>
  (0, (pc, (ac &&& mb), lk, mq, ma, mb, ir, sw, io, dl, ha, rd, sn, md, kf, kb, cn, pf, co, ou))
def mu17 : St → Int32 × St := fun (pc, ac, lk, mq, ma, mb, ir, sw, io, dl, ha, rd, sn, md, kf, kb, cn, pf, co, ou) =>
  (0, (pc, ((ac + mb) &&& 4095), (if ac + mb ≤ 4095 then lk else 1 - lk), mq, ma, mb, ir, sw, io, dl, ha, rd, sn, md, kf, kb, cn, pf, co, ou))
def mu18 : St → Int32 × St := fun (pc, ac, lk, mq, ma, mb, ir, sw, io, dl, ha, rd, sn, md, kf, kb, cn, pf, co, ou) =>
  (0, ((if mb = 0 then ((pc + 1) &&& 4095) else pc), ac, lk, mq, ma, mb, ir, sw, io, dl, ha, rd, sn, md, kf, kb, cn, pf, (upd co (ma &&& 4095).toNatClampNeg (mb &&& 4095)), ou))
def mu19 : St → Int32 × St := fun (pc, ac, lk, mq, ma, mb, ir, sw, io, dl, ha, rd, sn, md, kf, kb, cn, pf, co, ou) =>
  (0, (pc, 0, lk, mq, ma, mb, ir, sw, io, dl, ha, rd, sn, md, kf, kb, cn, pf, (upd co (ma &&& 4095).toNatClampNeg (mb &&& 4095)), ou))
def mu20 : St → Int32 × St := fun (pc, ac, lk, mq, ma, mb, ir, sw, io, dl, ha, rd, sn, md, kf, kb, cn, pf, co, ou) =>
  ((if ir &&& 256 = 0 then 21 else (if ir &&& 1 = 0 then 26 else 30)), (pc, ac, lk, mq, ma, mb, ir, sw, io, dl, ha, rd, sn, md, kf, kb, cn, pf, co, ou))
def mu21 : St → Int32 × St := fun (pc, ac, lk, mq, ma, mb, ir, sw, io, dl, ha, rd, sn, md, kf, kb, cn, pf, co, ou) =>
  (22, (pc, (if ir &&& 128 = 0 then ac else 0), (if ir &&& 64 = 0 then lk else 0), mq, ma, mb, ir, sw, io, dl, ha, rd, sn, md, kf, kb, cn, pf, co, ou))
def mu22 : St → Int32 × St := fun (pc, ac, lk, mq, ma, mb, ir, sw, io, dl, ha, rd, sn, md, kf, kb, cn, pf, co, ou) =>
  (23, (pc, (if ir &&& 32 = 0 then ac else (4095 - ac)), (if ir &&& 16 = 0 then lk else (1 - lk)), mq, ma, mb, ir, sw, io, dl, ha, rd, sn, md, kf, kb, cn, pf, co, ou))
def mu23 : St → Int32 × St := fun (pc, ac, lk, mq, ma, mb, ir, sw, io, dl, ha, rd, sn, md, kf, kb, cn, pf, co, ou) =>
  ((if ir &&& 12 = 0 then 0 else 24), if ir &&& 1 = 0 then (pc, ac, lk, mq, ma, mb, ir, sw, io, dl, ha, rd, sn, md, kf, kb, cn, pf, co, ou) else (pc, ((ac + 1) &&& 4095), (if ac + 1 ≤ 4095 then lk else 1 - lk), mq, ma, mb, ir, sw, io, dl, ha, rd, sn, md, kf, kb, cn, pf, co, ou))
def mu24 : St → Int32 × St := fun (pc, ac, lk, mq, ma, mb, ir, sw, io, dl, ha, rd, sn, md, kf, kb, cn, pf, co, ou) =>
  ((if ir &&& 2 = 0 then 0 else 25), (pc, (rg_ lk ac ir &&& 4095), (rg_ lk ac ir >>> ((12 : Int32) &&& 31)), mq, ma, mb, ir, sw, io, dl, ha, rd, sn, md, kf, kb, cn, pf, co, ou))
def mu25 : St → Int32 × St := fun (pc, ac, lk, mq, ma, mb, ir, sw, io, dl, ha, rd, sn, md, kf, kb, cn, pf, co, ou) =>
  (0, (pc, (rg_ lk ac ir &&& 4095), (rg_ lk ac ir >>> ((12 : Int32) &&& 31)), mq, ma, mb, ir, sw, io, dl, ha, rd, sn, md, kf, kb, cn, pf, co, ou))
def mu26 : St → Int32 × St := fun (pc, ac, lk, mq, ma, mb, ir, sw, io, dl, ha, rd, sn, md, kf, kb, cn, pf, co, ou) =>
  (27, ((if ((¬ ir &&& 64 = 0 ∧ ¬ ac < 2048) ∨ (¬ ir &&& 32 = 0 ∧ ac = 0) ∨ (¬ ir &&& 16 = 0 ∧ lk = 1)) ↔ ¬ ir &&& 8 = 0 then pc else ((pc + 1) &&& 4095)), ac, lk, mq, ma, mb, ir, sw, io, dl, ha, rd, sn, md, kf, kb, cn, pf, co, ou))
def mu27 : St → Int32 × St := fun (pc, ac, lk, mq, ma, mb, ir, sw, io, dl, ha, rd, sn, md, kf, kb, cn, pf, co, ou) =>
  ((if ir &&& 6 = 0 then 0 else 28), (pc, (if ir &&& 128 = 0 then ac else 0), lk, mq, ma, mb, ir, sw, io, dl, ha, rd, sn, md, kf, kb, cn, pf, co, ou))
def mu28 : St → Int32 × St := fun (pc, ac, lk, mq, ma, mb, ir, sw, io, dl, ha, rd, sn, md, kf, kb, cn, pf, co, ou) =>
  (0, (pc, (if ir &&& 4 = 0 then ac else (ac ||| sw)), lk, mq, ma, mb, ir, sw, io, dl, (if ir &&& 2 = 0 then ha else 1), rd, sn, md, kf, kb, cn, pf, co, ou))
def mu30 : St → Int32 × St := fun (pc, ac, lk, mq, ma, mb, ir, sw, io, dl, ha, rd, sn, md, kf, kb, cn, pf, co, ou) =>
  (31, (pc, (if ir &&& 128 = 0 then ac else 0), lk, mq, ma, mb, ir, sw, io, dl, ha, rd, sn, md, kf, kb, cn, pf, co, ou))
def mu31 : St → Int32 × St := fun (pc, ac, lk, mq, ma, mb, ir, sw, io, dl, ha, rd, sn, md, kf, kb, cn, pf, co, ou) =>
  (0, (pc, (if ir &&& 64 = 0 then (if ir &&& 16 = 0 then ac else 0) else ((if ir &&& 16 = 0 then ac else 0) ||| mq)), lk, (if ir &&& 16 = 0 then mq else ac), ma, mb, ir, sw, io, dl, ha, rd, sn, md, kf, kb, cn, pf, co, ou))
def mu32 : St → Int32 × St := fun (pc, ac, lk, mq, ma, mb, ir, sw, io, dl, ha, rd, sn, md, kf, kb, cn, pf, co, ou) =>
  (if (ir / 8) &&& 63 = 0 then 33 else if (ir / 8) &&& 63 = 3 then 34 else if (ir / 8) &&& 63 = 4 then 36 else 0, (pc, ac, lk, mq, ma, mb, ir, sw, io, dl, ha, rd, sn, md, kf, kb, cn, pf, co, ou))
def mu33 : St → Int32 × St := fun (pc, ac, lk, mq, ma, mb, ir, sw, io, dl, ha, rd, sn, md, kf, kb, cn, pf, co, ou) =>
  (0, (pc, ac, lk, mq, ma, mb, ir, sw, (if ir &&& 2 = 0 then (if ir &&& 1 = 0 then io else 1) else 0), (if ir &&& 1 = 0 then dl else 1), ha, rd, sn, md, kf, kb, cn, pf, co, ou))
def mu34 : St → Int32 × St := fun (pc, ac, lk, mq, ma, mb, ir, sw, io, dl, ha, rd, sn, md, kf, kb, cn, pf, co, ou) =>
  ((if ir &&& 4 = 0 then 0 else 35), ((if ir &&& 1 = 0 ∨ kf = 0 then pc else ((pc + 1) &&& 4095)), (if ir &&& 2 = 0 then ac else 0), lk, mq, ma, mb, ir, sw, io, dl, ha, rd, sn, md, (if ir &&& 2 = 0 then kf else 0), kb, cn, pf, co, ou))
def mu35 : St → Int32 × St := fun (pc, ac, lk, mq, ma, mb, ir, sw, io, dl, ha, rd, sn, md, kf, kb, cn, pf, co, ou) =>
  (0, (pc, (ac ||| kb), lk, mq, ma, mb, ir, sw, io, dl, ha, rd, sn, md, kf, kb, cn, pf, co, ou))
def mu36 : St → Int32 × St := fun (pc, ac, lk, mq, ma, mb, ir, sw, io, dl, ha, rd, sn, md, kf, kb, cn, pf, co, ou) =>
  ((if ir &&& 4 = 0 then 0 else 37), ((if ir &&& 1 = 0 ∨ pf = 0 then pc else ((pc + 1) &&& 4095)), ac, lk, mq, ma, mb, ir, sw, io, dl, ha, rd, sn, md, kf, kb, cn, (if ir &&& 2 = 0 then pf else 0), co, ou))
def mu37 : St → Int32 × St := fun (pc, ac, lk, mq, ma, mb, ir, sw, io, dl, ha, rd, sn, md, kf, kb, cn, pf, co, ou) =>
  (0, (pc, ac, lk, mq, ma, mb, ir, sw, io, dl, ha, rd, sn, md, kf, kb, (cn + 1), 1, co, (upd ou cn.toNatClampNeg (ac &&& 255))))
def mu40 : St → Int32 × St := fun (pc, ac, lk, mq, ma, mb, ir, sw, io, dl, ha, rd, sn, md, kf, kb, cn, pf, co, ou) =>
  (41, (pc, ac, lk, mq, 0, pc, ir, sw, 0, dl, ha, rd, sn, md, kf, kb, cn, pf, co, ou))
def mu41 : St → Int32 × St := fun (pc, ac, lk, mq, ma, mb, ir, sw, io, dl, ha, rd, sn, md, kf, kb, cn, pf, co, ou) =>
  (0, (((ma + 1) &&& 4095), ac, lk, mq, ma, mb, ir, sw, io, dl, ha, rd, sn, md, kf, kb, cn, pf, (upd co (ma &&& 4095).toNatClampNeg (mb &&& 4095)), ou))
/-- one microstep by its number: the next number, and the state -/
def mu (n : Int32) (u : St) : Int32 × St :=
  if n = 0 then mu0 u else if n = 1 then mu1 u else if n = 2 then mu2 u else if n = 3 then mu3 u else if n = 4 then mu4 u else if n = 5 then mu5 u else if n = 8 then mu8 u else if n = 9 then mu9 u else if n = 10 then mu10 u else if n = 11 then mu11 u else if n = 12 then mu12 u else if n = 13 then mu13 u else if n = 15 then mu15 u else if n = 16 then mu16 u else if n = 17 then mu17 u else if n = 18 then mu18 u else if n = 19 then mu19 u else if n = 20 then mu20 u else if n = 21 then mu21 u else if n = 22 then mu22 u else if n = 23 then mu23 u else if n = 24 then mu24 u else if n = 25 then mu25 u else if n = 26 then mu26 u else if n = 27 then mu27 u else if n = 28 then mu28 u else if n = 30 then mu30 u else if n = 31 then mu31 u else if n = 32 then mu32 u else if n = 33 then mu33 u else if n = 34 then mu34 u else if n = 35 then mu35 u else if n = 36 then mu36 u else if n = 37 then mu37 u else if n = 40 then mu40 u else if n = 41 then mu41 u else (0, u)
theorem mu_0 (u : St) : mu 0 u = mu0 u := rfl
theorem mu_1 (u : St) : mu 1 u = mu1 u := rfl
theorem mu_2 (u : St) : mu 2 u = mu2 u := rfl
theorem mu_3 (u : St) : mu 3 u = mu3 u := rfl
theorem mu_4 (u : St) : mu 4 u = mu4 u := rfl
theorem mu_5 (u : St) : mu 5 u = mu5 u := rfl
theorem mu_8 (u : St) : mu 8 u = mu8 u := rfl
theorem mu_9 (u : St) : mu 9 u = mu9 u := rfl
theorem mu_10 (u : St) : mu 10 u = mu10 u := rfl
theorem mu_11 (u : St) : mu 11 u = mu11 u := rfl
theorem mu_12 (u : St) : mu 12 u = mu12 u := rfl
theorem mu_13 (u : St) : mu 13 u = mu13 u := rfl
theorem mu_15 (u : St) : mu 15 u = mu15 u := rfl
theorem mu_16 (u : St) : mu 16 u = mu16 u := rfl
theorem mu_17 (u : St) : mu 17 u = mu17 u := rfl
theorem mu_18 (u : St) : mu 18 u = mu18 u := rfl
theorem mu_19 (u : St) : mu 19 u = mu19 u := rfl
theorem mu_20 (u : St) : mu 20 u = mu20 u := rfl
theorem mu_21 (u : St) : mu 21 u = mu21 u := rfl
theorem mu_22 (u : St) : mu 22 u = mu22 u := rfl
theorem mu_23 (u : St) : mu 23 u = mu23 u := rfl
theorem mu_24 (u : St) : mu 24 u = mu24 u := rfl
theorem mu_25 (u : St) : mu 25 u = mu25 u := rfl
theorem mu_26 (u : St) : mu 26 u = mu26 u := rfl
theorem mu_27 (u : St) : mu 27 u = mu27 u := rfl
theorem mu_28 (u : St) : mu 28 u = mu28 u := rfl
theorem mu_30 (u : St) : mu 30 u = mu30 u := rfl
theorem mu_31 (u : St) : mu 31 u = mu31 u := rfl
theorem mu_32 (u : St) : mu 32 u = mu32 u := rfl
theorem mu_33 (u : St) : mu 33 u = mu33 u := rfl
theorem mu_34 (u : St) : mu 34 u = mu34 u := rfl
theorem mu_35 (u : St) : mu 35 u = mu35 u := rfl
theorem mu_36 (u : St) : mu 36 u = mu36 u := rfl
theorem mu_37 (u : St) : mu 37 u = mu37 u := rfl
theorem mu_40 (u : St) : mu 40 u = mu40 u := rfl
theorem mu_41 (u : St) : mu 41 u = mu41 u := rfl
/-- what microStep does behind the microstep -/
def fin_ (q : Int32 × St) : Int32 × St := match q with
  | (r, (pc, ac, lk, mq, ma, mb, ir, sw, io, dl, ha, rd, sn, md, kf, kb, cn, pf, co, ou)) => (if r = 0 then 1 else 0, (pc, ac, lk, mq, ma, mb, ir, sw, io, dl, ha, rd, r, (md + 1), kf, kb, cn, pf, co, ou))
def ms (n : Nat) : St → Int32 × St := fun (pc, ac, lk, mq, ma, mb, ir, sw, io, dl, ha, rd, sn, md, kf, kb, cn, pf, co, ou) =>
  if rd = 0 then (3, (pc, ac, lk, mq, ma, mb, ir, sw, io, dl, ha, rd, sn, md, kf, kb, cn, pf, co, ou)) else if sn = 0 ∧ ¬ ha = 0 then (2, (pc, ac, lk, mq, ma, mb, ir, sw, io, dl, ha, rd, sn, md, kf, kb, cn, pf, co, ou)) else if sn = 37 ∧ ¬ cn < nI n then (4, (pc, ac, lk, mq, ma, mb, ir, sw, io, dl, ha, rd, sn, md, kf, kb, cn, pf, co, ou)) else fin_ (mu sn (pc, ac, lk, mq, ma, mb, ir, sw, io, dl, ha, rd, sn, md, kf, kb, cn, pf, co, ou))
theorem ms_go {n : Nat} {pc ac lk mq ma mb ir sw io dl ha rd sn md kf kb cn pf : Int32} {co ou : Nat → Int32} (h1 : ¬ rd = 0) (h2 : ¬ (sn = 0 ∧ ¬ ha = 0)) (h3 : ¬ (sn = 37 ∧ ¬ cn < nI n)) : ms n (pc, ac, lk, mq, ma, mb, ir, sw, io, dl, ha, rd, sn, md, kf, kb, cn, pf, co, ou) = fin_ (mu sn (pc, ac, lk, mq, ma, mb, ir, sw, io, dl, ha, rd, sn, md, kf, kb, cn, pf, co, ou)) := by
  show (if rd = 0 then _ else if sn = 0 ∧ ¬ ha = 0 then _ else if sn = 37 ∧ ¬ cn < nI n then _ else _) = _
  rw [if_neg h1, if_neg h2, if_neg h3]
theorem ms_4 {n : Nat} {pc ac lk mq ma mb ir sw io dl ha rd sn md kf kb cn pf : Int32} {co ou : Nat → Int32} (h1 : ¬ rd = 0) (h2 : ¬ (sn = 0 ∧ ¬ ha = 0)) (h3 : sn = 37 ∧ ¬ cn < nI n) : ms n (pc, ac, lk, mq, ma, mb, ir, sw, io, dl, ha, rd, sn, md, kf, kb, cn, pf, co, ou) = (4, (pc, ac, lk, mq, ma, mb, ir, sw, io, dl, ha, rd, sn, md, kf, kb, cn, pf, co, ou)) := by
  show (if rd = 0 then _ else if sn = 0 ∧ ¬ ha = 0 then _ else if sn = 37 ∧ ¬ cn < nI n then _ else _) = _
  rw [if_neg h1, if_neg h2, if_pos h3]
def Sn (sn : Int32) : Prop := sn = 0 ∨ sn = 1 ∨ sn = 2 ∨ sn = 3 ∨ sn = 4 ∨ sn = 5 ∨ sn = 8 ∨ sn = 9 ∨ sn = 10 ∨ sn = 11 ∨ sn = 12 ∨ sn = 13 ∨ sn = 15 ∨ sn = 16 ∨ sn = 17 ∨ sn = 18 ∨ sn = 19 ∨ sn = 20 ∨ sn = 21 ∨ sn = 22 ∨ sn = 23 ∨ sn = 24 ∨ sn = 25 ∨ sn = 26 ∨ sn = 27 ∨ sn = 28 ∨ sn = 30 ∨ sn = 31 ∨ sn = 32 ∨ sn = 33 ∨ sn = 34 ∨ sn = 35 ∨ sn = 36 ∨ sn = 37 ∨ sn = 40 ∨ sn = 41
def Iv (n : Nat) : St → Prop := fun (pc, ac, lk, mq, ma, mb, ir, sw, io, dl, ha, rd, sn, md, kf, kb, cn, pf, co, ou) =>
  (pc &&& 4095 = pc ∧ ac &&& 4095 = ac ∧ mq &&& 4095 = mq ∧ ma &&& 4095 = ma ∧ mb &&& 4095 = mb ∧ ir &&& 4095 = ir ∧ sw &&& 4095 = sw) ∧ (lk = 0 ∨ lk = 1) ∧ ((io = 0 ∨ io = 1) ∧ (dl = 0 ∨ dl = 1) ∧ (ha = 0 ∨ ha = 1) ∧ (rd = 0 ∨ rd = 1) ∧ (kf = 0 ∨ kf = 1) ∧ (pf = 0 ∨ pf = 1)) ∧ Sn sn ∧ (sn = 2 ∨ sn = 3 ∨ sn = 4 ∨ sn = 5 → ir < 3072) ∧ kb &&& 255 = kb ∧ (∃ k : Nat, k ≤ n ∧ cn = nI k) ∧ n ≤ 100 ∧ ∀ i, co i &&& 4095 = co i
theorem Iv_mk {n : Nat} {pc ac lk mq ma mb ir sw io dl ha rd sn md kf kb cn pf : Int32} {co ou : Nat → Int32} (h : (pc &&& 4095 = pc ∧ ac &&& 4095 = ac ∧ mq &&& 4095 = mq ∧ ma &&& 4095 = ma ∧ mb &&& 4095 = mb ∧ ir &&& 4095 = ir ∧ sw &&& 4095 = sw) ∧ (lk = 0 ∨ lk = 1) ∧ ((io = 0 ∨ io = 1) ∧ (dl = 0 ∨ dl = 1) ∧ (ha = 0 ∨ ha = 1) ∧ (rd = 0 ∨ rd = 1) ∧ (kf = 0 ∨ kf = 1) ∧ (pf = 0 ∨ pf = 1)) ∧ Sn sn ∧ (sn = 2 ∨ sn = 3 ∨ sn = 4 ∨ sn = 5 → ir < 3072) ∧ kb &&& 255 = kb ∧ (∃ k : Nat, k ≤ n ∧ cn = nI k) ∧ n ≤ 100 ∧ ∀ i, co i &&& 4095 = co i) : Iv n (pc, ac, lk, mq, ma, mb, ir, sw, io, dl, ha, rd, sn, md, kf, kb, cn, pf, co, ou) := h
end
section
theorem wo_j {x : Int32} (h : x &&& 4095 = x) : ∃ j : Nat, j < 4096 ∧ x = nI j := by
  obtain ⟨j, hj, e⟩ := pk_andE x (m := 4095) 12 (by decide +kernel)
  exact ⟨j, hj, h.symm.trans e⟩
theorem j_wo {j : Nat} (h : j < 4096) : nI j &&& 4095 = nI j := by
  rw [pk_andN (m := 4095) (by omega) 12 (by decide +kernel), Nat.mod_eq_of_lt h]
theorem wo_or {x y : Int32} (hx : x &&& 4095 = x) (hy : y &&& 4095 = y) : (x ||| y) &&& 4095 = x ||| y := by
  apply Int32.toBitVec_inj.mp
  have h1 : x.toBitVec &&& (4095 : Int32).toBitVec = x.toBitVec := by rw [← Int32.toBitVec_and, hx]
  have h2 : y.toBitVec &&& (4095 : Int32).toBitVec = y.toBitVec := by rw [← Int32.toBitVec_and, hy]
  rw [Int32.toBitVec_and, Int32.toBitVec_or]
  generalize (4095 : Int32).toBitVec = M at h1 h2 ⊢
  generalize x.toBitVec = a at h1 ⊢
  generalize y.toBitVec = b at h2 ⊢
  apply BitVec.eq_of_getLsbD_eq
  intro i hi
  have e1 := congrArg (fun z => z.getLsbD i) h1
  have e2 := congrArg (fun z => z.getLsbD i) h2
  simp only [BitVec.getLsbD_and, BitVec.getLsbD_or] at e1 e2 ⊢
  revert e1 e2
  cases a.getLsbD i <;> cases b.getLsbD i <;> cases M.getLsbD i <;> simp
theorem wo_and {x y : Int32} (hx : x &&& 4095 = x) : (x &&& y) &&& 4095 = x &&& y := by
  rw [Int32.and_comm x y, Int32.and_assoc, hx]
theorem wo_sub {x : Int32} (hx : x &&& 4095 = x) : (4095 - x) &&& 4095 = 4095 - x := by
  obtain ⟨j, hj, rfl⟩ := wo_j hx
  have e : (4095 : Int32) = nI 4095 := by decide +kernel
  rw [e, pk_sub (by omega)]
  exact e ▸ j_wo (by omega)
theorem wo_t_ : ∀ a : Nat, a < 32 → ∀ b : Nat, b < 128 → (nI (128 * a + b) &&& 3968) = nI (128 * ((128 * a + b) / 128)) := by decide +kernel
theorem wo_t : ∀ g : Nat, g < 4096 → (nI g &&& 3968) = nI (128 * (g / 128)) := fun g hg => by
  have h := wo_t_ (g / 128) (by omega) (g % 128) (by omega)
  rw [show 128 * (g / 128) + g % 128 = g from Nat.div_add_mod g 128] at h
  exact h
theorem wo_pg {a b : Int32} (ha : a &&& 4095 = a) : ((a &&& 3968) + (b &&& 127)) &&& 4095 = (a &&& 3968) + (b &&& 127) := by
  obtain ⟨j, hj, rfl⟩ := wo_j ha
  obtain ⟨k, hk, e⟩ := pk_andE b (m := 127) 7 (by decide +kernel)
  have hk : k < 128 := hk
  rw [wo_t j hj, e, nI_add]
  exact j_wo (by omega)
theorem wo_127 (b : Int32) : (0 + (b &&& 127)) &&& 4095 = 0 + (b &&& 127) := by
  rw [Int32.zero_add, Int32.and_assoc]
  rfl
theorem wo_kb {x : Int32} (h : x &&& 255 = x) : x &&& 4095 = x := by
  rw [← h, Int32.and_assoc]
  rfl
theorem wo_0 : (0 : Int32) &&& 4095 = 0 := by decide
theorem wo_up {co : Nat → Int32} (h : ∀ i, co i &&& 4095 = co i) (j : Nat) {v : Int32} (hv : v &&& 4095 = v) : ∀ i, upd co j v i &&& 4095 = upd co j v i := by
  intro i
  by_cases e : i = j
  · subst e; rw [pk_us]; exact hv
  · rw [pk_un e]; exact h i
theorem lk_t {lk : Int32} (h : lk = 0 ∨ lk = 1) : 1 - lk = 0 ∨ 1 - lk = 1 := by
  rcases h with rfl | rfl
  · exact Or.inr (by decide)
  · exact Or.inl (by decide)
theorem if_p {c : Prop} {α : Type} [Decidable c] {a b : α} {P : α → Prop} (ha : P a) (hb : P b) : P (if c then a else b) := by
  split
  · exact ha
  · exact hb
theorem ro_1_ : ∀ a : Nat, a < 64 → ∀ b : Nat, b < 128 → ((nI (128 * a + b) >>> ((1 : Int32) &&& 31)) ||| ((nI (128 * a + b) &&& 1) <<< ((12 : Int32) &&& 31))) = nI ((128 * a + b) / 2 + (128 * a + b) % 2 * 4096) := by decide +kernel
theorem ro_1 : ∀ g : Nat, g < 8192 → ((nI g >>> ((1 : Int32) &&& 31)) ||| ((nI g &&& 1) <<< ((12 : Int32) &&& 31))) = nI (g / 2 + g % 2 * 4096) := fun g hg => by
  have h := ro_1_ (g / 128) (by omega) (g % 128) (by omega)
  rw [show 128 * (g / 128) + g % 128 = g from Nat.div_add_mod g 128] at h
  exact h
theorem ro_2_ : ∀ a : Nat, a < 64 → ∀ b : Nat, b < 128 → (((nI (128 * a + b) <<< ((1 : Int32) &&& 31)) ||| (nI (128 * a + b) >>> ((12 : Int32) &&& 31))) &&& 8191) = nI ((2 * (128 * a + b)) % 8192 + (128 * a + b) / 4096) := by decide +kernel
theorem ro_2 : ∀ g : Nat, g < 8192 → (((nI g <<< ((1 : Int32) &&& 31)) ||| (nI g >>> ((12 : Int32) &&& 31))) &&& 8191) = nI ((2 * g) % 8192 + g / 4096) := fun g hg => by
  have h := ro_2_ (g / 128) (by omega) (g % 128) (by omega)
  rw [show 128 * (g / 128) + g % 128 = g from Nat.div_add_mod g 128] at h
  exact h
theorem ro_3_ : ∀ a : Nat, a < 64 → ∀ b : Nat, b < 128 → (((nI (128 * a + b) <<< ((1 : Int32) &&& 31)) &&& 8191) ||| (nI (128 * a + b) >>> ((12 : Int32) &&& 31))) = nI ((2 * (128 * a + b)) % 8192 + (128 * a + b) / 4096) := by decide +kernel
theorem ro_3 : ∀ g : Nat, g < 8192 → (((nI g <<< ((1 : Int32) &&& 31)) &&& 8191) ||| (nI g >>> ((12 : Int32) &&& 31))) = nI ((2 * g) % 8192 + g / 4096) := fun g hg => by
  have h := ro_3_ (g / 128) (by omega) (g % 128) (by omega)
  rw [show 128 * (g / 128) + g % 128 = g from Nat.div_add_mod g 128] at h
  exact h
theorem ro_4_ : ∀ a : Nat, a < 64 → ∀ b : Nat, b < 128 → nI (128 * a + b) >>> ((12 : Int32) &&& 31) = nI ((128 * a + b) / 4096) := by decide +kernel
theorem ro_4 : ∀ g : Nat, g < 8192 → nI g >>> ((12 : Int32) &&& 31) = nI (g / 4096) := fun g hg => by
  have h := ro_4_ (g / 128) (by omega) (g % 128) (by omega)
  rw [show 128 * (g / 128) + g % 128 = g from Nat.div_add_mod g 128] at h
  exact h
theorem ro_0_ : ∀ a : Nat, a < 32 → ∀ b : Nat, b < 128 → (((0 : Int32) <<< ((12 : Int32) &&& 31)) ||| nI (128 * a + b)) = nI (128 * a + b) ∧ (((1 : Int32) <<< ((12 : Int32) &&& 31)) ||| nI (128 * a + b)) = nI (4096 + (128 * a + b)) := by decide +kernel
theorem ro_0 : ∀ g : Nat, g < 4096 → (((0 : Int32) <<< ((12 : Int32) &&& 31)) ||| nI g) = nI g ∧ (((1 : Int32) <<< ((12 : Int32) &&& 31)) ||| nI g) = nI (4096 + g) := fun g hg => by
  have h := ro_0_ (g / 128) (by omega) (g % 128) (by omega)
  rw [show 128 * (g / 128) + g % 128 = g from Nat.div_add_mod g 128] at h
  exact h
theorem rg_g {lk ac : Int32} (hl : lk = 0 ∨ lk = 1) (ha : ac &&& 4095 = ac) : ∃ g : Nat, g < 8192 ∧ ((lk <<< ((12 : Int32) &&& 31)) ||| ac) = nI g := by
  obtain ⟨j, hj, rfl⟩ := wo_j ha
  rcases hl with rfl | rfl
  · exact ⟨j, by omega, (ro_0 j hj).1⟩
  · exact ⟨4096 + j, by omega, (ro_0 j hj).2⟩
theorem r1_g {ir v : Int32} (h : ∃ g : Nat, g < 8192 ∧ v = nI g) : ∃ g : Nat, g < 8192 ∧ r1_ ir v = nI g := by
  obtain ⟨g, hg, rfl⟩ := h
  unfold r1_
  split
  · exact ⟨g, hg, rfl⟩
  · exact ⟨_, by omega, ro_1 g hg⟩
theorem r2_g {ir v : Int32} (h : ∃ g : Nat, g < 8192 ∧ v = nI g) : ∃ g : Nat, g < 8192 ∧ r2_ ir v = nI g := by
  obtain ⟨g, hg, rfl⟩ := h
  unfold r2_
  split
  · exact ⟨g, hg, rfl⟩
  · exact ⟨_, by omega, ro_2 g hg⟩
theorem ro_e {v : Int32} (h : ∃ g : Nat, g < 8192 ∧ v = nI g) : (((v <<< ((1 : Int32) &&& 31)) &&& 8191) ||| (v >>> ((12 : Int32) &&& 31))) = (((v <<< ((1 : Int32) &&& 31)) ||| (v >>> ((12 : Int32) &&& 31))) &&& 8191) := by
  obtain ⟨g, hg, rfl⟩ := h
  rw [ro_2 g hg, ro_3 g hg]
theorem ro_r {v : Int32} (h : ∃ g : Nat, g < 8192 ∧ v = nI g) : ∃ g : Nat, g < 8192 ∧ ((v >>> ((1 : Int32) &&& 31)) ||| ((v &&& 1) <<< ((12 : Int32) &&& 31))) = nI g := by
  obtain ⟨g, hg, rfl⟩ := h
  exact ⟨_, by omega, ro_1 g hg⟩
theorem rg_lt {lk ac : Int32} (ir : Int32) (hl : lk = 0 ∨ lk = 1) (ha : ac &&& 4095 = ac) : ∃ g : Nat, g < 8192 ∧ rg_ lk ac ir = nI g := r2_g (r1_g (rg_g hl ha))
theorem rg_lk {lk ac : Int32} (ir : Int32) (hl : lk = 0 ∨ lk = 1) (ha : ac &&& 4095 = ac) : rg_ lk ac ir >>> ((12 : Int32) &&& 31) = 0 ∨ rg_ lk ac ir >>> ((12 : Int32) &&& 31) = 1 := by
  obtain ⟨g, hg, e⟩ := rg_lt ir hl ha
  rw [e, ro_4 g hg]
  have : g / 4096 = 0 ∨ g / 4096 = 1 := by omega
  rcases this with h | h <;> rw [h]
  · exact Or.inl rfl
  · exact Or.inr rfl
theorem di_j_ : ∀ a : Nat, a < 24 → ∀ b : Nat, b < 128 → (8 + nI (128 * a + b) / 512 : Int32) = nI (8 + (128 * a + b) / 512) := by decide +kernel
theorem di_j : ∀ g : Nat, g < 3072 → (8 + nI g / 512 : Int32) = nI (8 + g / 512) := fun g hg => by
  have h := di_j_ (g / 128) (by omega) (g % 128) (by omega)
  rw [show 128 * (g / 128) + g % 128 = g from Nat.div_add_mod g 128] at h
  exact h
theorem di_8 {ir : Int32} (h : ir &&& 4095 = ir) (hl : ir < 3072) : ∃ k : Nat, (k = 8 ∨ k = 9 ∨ k = 10 ∨ k = 11 ∨ k = 12 ∨ k = 13) ∧ 8 + ir / 512 = nI k := by
  obtain ⟨j, hj, rfl⟩ := wo_j h
  have e : (3072 : Int32) = nI 3072 := by decide +kernel
  have hl : j < 3072 := by
    rw [e] at hl
    exact (nI_ltI (by omega) (by omega)).mp hl
  exact ⟨8 + j / 512, by omega, di_j j hl⟩
theorem cn_up {cn : Int32} {n : Nat} (hn : n ≤ 100) (h : ∃ k : Nat, k ≤ n ∧ cn = nI k) (hl : cn < nI n) : ∃ k : Nat, k ≤ n ∧ cn + 1 = nI k := by
  obtain ⟨k, hk, rfl⟩ := h
  have := (nI_ltI (by omega) (by omega)).mp hl
  exact ⟨k + 1, by omega, nI_1 k⟩

set_option maxRecDepth 100000 in
theorem iv_0 {n : Nat} {pc ac lk mq ma mb ir sw io dl ha rd md kf kb cn pf : Int32} {co ou : Nat → Int32} (I : Iv n (pc, ac, lk, mq, ma, mb, ir, sw, io, dl, ha, rd, 0, md, kf, kb, cn, pf, co, ou)) : Iv n (fin_ (mu0 (pc, ac, lk, mq, ma, mb, ir, sw, io, dl, ha, rd, 0, md, kf, kb, cn, pf, co, ou))).2 := by
  obtain ⟨⟨hpc, hac, hmq, hma, hmb, hir, hsw⟩, hlk, ⟨hio, hdl, hha, hrd, hkf, hpf⟩, hsn, hlt, hkb, hcn, hn, hco⟩ := I
  show Iv n (fin_ (if io = 0 ∨ ¬ dl = 0 ∨ (kf = 0 ∧ pf = 0) then _ else _)).2
  split
  · show Iv n (((pc + 1) &&& 4095), ac, lk, mq, pc, mb, ir, sw, io, 0, ha, rd, 1, (md + 1), kf, kb, cn, pf, co, ou)
    exact Iv_mk ⟨⟨(an_an _), hac, hmq, hpc, hmb, hir, hsw⟩, hlk, ⟨hio, (Or.inl rfl), hha, hrd, hkf, hpf⟩, Or.inr (Or.inl rfl), (fun q => by rcases q with q | q | q | q <;> exact absurd q (by decide)), hkb, hcn, hn, hco⟩
  · show Iv n (pc, ac, lk, mq, ma, mb, ir, sw, io, dl, ha, rd, 40, (md + 1), kf, kb, cn, pf, co, ou)
    exact Iv_mk ⟨⟨hpc, hac, hmq, hma, hmb, hir, hsw⟩, hlk, ⟨hio, hdl, hha, hrd, hkf, hpf⟩, Or.inr (Or.inr (Or.inr (Or.inr (Or.inr (Or.inr (Or.inr (Or.inr (Or.inr (Or.inr (Or.inr (Or.inr (Or.inr (Or.inr (Or.inr (Or.inr (Or.inr (Or.inr (Or.inr (Or.inr (Or.inr (Or.inr (Or.inr (Or.inr (Or.inr (Or.inr (Or.inr (Or.inr (Or.inr (Or.inr (Or.inr (Or.inr (Or.inr (Or.inr (Or.inl rfl)))))))))))))))))))))))))))))))))), (fun q => by rcases q with q | q | q | q <;> exact absurd q (by decide)), hkb, hcn, hn, hco⟩
set_option maxRecDepth 100000 in
theorem iv_1 {n : Nat} {pc ac lk mq ma mb ir sw io dl ha rd md kf kb cn pf : Int32} {co ou : Nat → Int32} (I : Iv n (pc, ac, lk, mq, ma, mb, ir, sw, io, dl, ha, rd, 1, md, kf, kb, cn, pf, co, ou)) : Iv n (fin_ (mu1 (pc, ac, lk, mq, ma, mb, ir, sw, io, dl, ha, rd, 1, md, kf, kb, cn, pf, co, ou))).2 := by
  obtain ⟨⟨hpc, hac, hmq, hma, hmb, hir, hsw⟩, hlk, ⟨hio, hdl, hha, hrd, hkf, hpf⟩, hsn, hlt, hkb, hcn, hn, hco⟩ := I
  show Iv n (pc, ac, lk, mq, ma, (co (ma &&& 4095).toNatClampNeg), (co (ma &&& 4095).toNatClampNeg), sw, io, dl, ha, rd, if (co (ma &&& 4095).toNatClampNeg) < 3584 then (if (co (ma &&& 4095).toNatClampNeg) < 3072 then 2 else 32) else 20, (md + 1), kf, kb, cn, pf, co, ou)
  by_cases q1 : (co (ma &&& 4095).toNatClampNeg) < 3584
  · rw [if_pos q1]
    by_cases q2 : (co (ma &&& 4095).toNatClampNeg) < 3072
    · rw [if_pos q2]
      exact Iv_mk ⟨⟨hpc, hac, hmq, hma, (hco _), (hco _), hsw⟩, hlk, ⟨hio, hdl, hha, hrd, hkf, hpf⟩, Or.inr (Or.inr (Or.inl rfl)), (fun _ => q2), hkb, hcn, hn, hco⟩
    · rw [if_neg q2]
      exact Iv_mk ⟨⟨hpc, hac, hmq, hma, (hco _), (hco _), hsw⟩, hlk, ⟨hio, hdl, hha, hrd, hkf, hpf⟩, Or.inr (Or.inr (Or.inr (Or.inr (Or.inr (Or.inr (Or.inr (Or.inr (Or.inr (Or.inr (Or.inr (Or.inr (Or.inr (Or.inr (Or.inr (Or.inr (Or.inr (Or.inr (Or.inr (Or.inr (Or.inr (Or.inr (Or.inr (Or.inr (Or.inr (Or.inr (Or.inr (Or.inr (Or.inl rfl)))))))))))))))))))))))))))), (fun q => by rcases q with q | q | q | q <;> exact absurd q (by decide)), hkb, hcn, hn, hco⟩
  · rw [if_neg q1]
    exact Iv_mk ⟨⟨hpc, hac, hmq, hma, (hco _), (hco _), hsw⟩, hlk, ⟨hio, hdl, hha, hrd, hkf, hpf⟩, Or.inr (Or.inr (Or.inr (Or.inr (Or.inr (Or.inr (Or.inr (Or.inr (Or.inr (Or.inr (Or.inr (Or.inr (Or.inr (Or.inr (Or.inr (Or.inr (Or.inr (Or.inl rfl))))))))))))))))), (fun q => by rcases q with q | q | q | q <;> exact absurd q (by decide)), hkb, hcn, hn, hco⟩
set_option maxRecDepth 100000 in
theorem iv_2 {n : Nat} {pc ac lk mq ma mb ir sw io dl ha rd md kf kb cn pf : Int32} {co ou : Nat → Int32} (I : Iv n (pc, ac, lk, mq, ma, mb, ir, sw, io, dl, ha, rd, 2, md, kf, kb, cn, pf, co, ou)) : Iv n (fin_ (mu2 (pc, ac, lk, mq, ma, mb, ir, sw, io, dl, ha, rd, 2, md, kf, kb, cn, pf, co, ou))).2 := by
  obtain ⟨⟨hpc, hac, hmq, hma, hmb, hir, hsw⟩, hlk, ⟨hio, hdl, hha, hrd, hkf, hpf⟩, hsn, hlt, hkb, hcn, hn, hco⟩ := I
  have hl := hlt (by decide)
  obtain ⟨z, hz, ez⟩ := di_8 hir hl
  by_cases q1 : ir &&& 256 = 0
  · show Iv n (pc, ac, lk, mq, ((if ir &&& 128 = 0 then 0 else (ma &&& 3968)) + (ir &&& 127)), mb, ir, sw, io, dl, ha, rd, (if ir &&& 256 = 0 then 8 + ir / 512 else 3), (md + 1), kf, kb, cn, pf, co, ou)
    rw [if_pos q1, ez]
    rcases hz with rfl | rfl | rfl | rfl | rfl | rfl
    · exact Iv_mk ⟨⟨hpc, hac, hmq, (by split; exact wo_127 _; exact wo_pg hma), hmb, hir, hsw⟩, hlk, ⟨hio, hdl, hha, hrd, hkf, hpf⟩, Or.inr (Or.inr (Or.inr (Or.inr (Or.inr (Or.inr (Or.inl rfl)))))), (fun q => by rcases q with q | q | q | q <;> exact absurd q (by decide)), hkb, hcn, hn, hco⟩
    · exact Iv_mk ⟨⟨hpc, hac, hmq, (by split; exact wo_127 _; exact wo_pg hma), hmb, hir, hsw⟩, hlk, ⟨hio, hdl, hha, hrd, hkf, hpf⟩, Or.inr (Or.inr (Or.inr (Or.inr (Or.inr (Or.inr (Or.inr (Or.inl rfl))))))), (fun q => by rcases q with q | q | q | q <;> exact absurd q (by decide)), hkb, hcn, hn, hco⟩
    · exact Iv_mk ⟨⟨hpc, hac, hmq, (by split; exact wo_127 _; exact wo_pg hma), hmb, hir, hsw⟩, hlk, ⟨hio, hdl, hha, hrd, hkf, hpf⟩, Or.inr (Or.inr (Or.inr (Or.inr (Or.inr (Or.inr (Or.inr (Or.inr (Or.inl rfl)))))))), (fun q => by rcases q with q | q | q | q <;> exact absurd q (by decide)), hkb, hcn, hn, hco⟩
    · exact Iv_mk ⟨⟨hpc, hac, hmq, (by split; exact wo_127 _; exact wo_pg hma), hmb, hir, hsw⟩, hlk, ⟨hio, hdl, hha, hrd, hkf, hpf⟩, Or.inr (Or.inr (Or.inr (Or.inr (Or.inr (Or.inr (Or.inr (Or.inr (Or.inr (Or.inl rfl))))))))), (fun q => by rcases q with q | q | q | q <;> exact absurd q (by decide)), hkb, hcn, hn, hco⟩
    · exact Iv_mk ⟨⟨hpc, hac, hmq, (by split; exact wo_127 _; exact wo_pg hma), hmb, hir, hsw⟩, hlk, ⟨hio, hdl, hha, hrd, hkf, hpf⟩, Or.inr (Or.inr (Or.inr (Or.inr (Or.inr (Or.inr (Or.inr (Or.inr (Or.inr (Or.inr (Or.inl rfl)))))))))), (fun q => by rcases q with q | q | q | q <;> exact absurd q (by decide)), hkb, hcn, hn, hco⟩
    · exact Iv_mk ⟨⟨hpc, hac, hmq, (by split; exact wo_127 _; exact wo_pg hma), hmb, hir, hsw⟩, hlk, ⟨hio, hdl, hha, hrd, hkf, hpf⟩, Or.inr (Or.inr (Or.inr (Or.inr (Or.inr (Or.inr (Or.inr (Or.inr (Or.inr (Or.inr (Or.inr (Or.inl rfl))))))))))), (fun q => by rcases q with q | q | q | q <;> exact absurd q (by decide)), hkb, hcn, hn, hco⟩
  · show Iv n (pc, ac, lk, mq, ((if ir &&& 128 = 0 then 0 else (ma &&& 3968)) + (ir &&& 127)), mb, ir, sw, io, dl, ha, rd, (if ir &&& 256 = 0 then 8 + ir / 512 else 3), (md + 1), kf, kb, cn, pf, co, ou)
    rw [if_neg q1]
    exact Iv_mk ⟨⟨hpc, hac, hmq, (by split; exact wo_127 _; exact wo_pg hma), hmb, hir, hsw⟩, hlk, ⟨hio, hdl, hha, hrd, hkf, hpf⟩, Or.inr (Or.inr (Or.inr (Or.inl rfl))), (fun _ => hl), hkb, hcn, hn, hco⟩
set_option maxRecDepth 100000 in
theorem iv_3 {n : Nat} {pc ac lk mq ma mb ir sw io dl ha rd md kf kb cn pf : Int32} {co ou : Nat → Int32} (I : Iv n (pc, ac, lk, mq, ma, mb, ir, sw, io, dl, ha, rd, 3, md, kf, kb, cn, pf, co, ou)) : Iv n (fin_ (mu3 (pc, ac, lk, mq, ma, mb, ir, sw, io, dl, ha, rd, 3, md, kf, kb, cn, pf, co, ou))).2 := by
  obtain ⟨⟨hpc, hac, hmq, hma, hmb, hir, hsw⟩, hlk, ⟨hio, hdl, hha, hrd, hkf, hpf⟩, hsn, hlt, hkb, hcn, hn, hco⟩ := I
  show Iv n (pc, ac, lk, mq, ma, (co (ma &&& 4095).toNatClampNeg), ir, sw, io, dl, ha, rd, if ma < 8 ∨ 15 < ma then 5 else 4, (md + 1), kf, kb, cn, pf, co, ou)
  by_cases q1 : ma < 8 ∨ 15 < ma
  · rw [if_pos q1]
    exact Iv_mk ⟨⟨hpc, hac, hmq, hma, (hco _), hir, hsw⟩, hlk, ⟨hio, hdl, hha, hrd, hkf, hpf⟩, Or.inr (Or.inr (Or.inr (Or.inr (Or.inr (Or.inl rfl))))), (fun _ => hlt (by decide)), hkb, hcn, hn, hco⟩
  · rw [if_neg q1]
    exact Iv_mk ⟨⟨hpc, hac, hmq, hma, (hco _), hir, hsw⟩, hlk, ⟨hio, hdl, hha, hrd, hkf, hpf⟩, Or.inr (Or.inr (Or.inr (Or.inr (Or.inl rfl)))), (fun _ => hlt (by decide)), hkb, hcn, hn, hco⟩
set_option maxRecDepth 100000 in
theorem iv_4 {n : Nat} {pc ac lk mq ma mb ir sw io dl ha rd md kf kb cn pf : Int32} {co ou : Nat → Int32} (I : Iv n (pc, ac, lk, mq, ma, mb, ir, sw, io, dl, ha, rd, 4, md, kf, kb, cn, pf, co, ou)) : Iv n (fin_ (mu4 (pc, ac, lk, mq, ma, mb, ir, sw, io, dl, ha, rd, 4, md, kf, kb, cn, pf, co, ou))).2 := by
  obtain ⟨⟨hpc, hac, hmq, hma, hmb, hir, hsw⟩, hlk, ⟨hio, hdl, hha, hrd, hkf, hpf⟩, hsn, hlt, hkb, hcn, hn, hco⟩ := I
  show Iv n (pc, ac, lk, mq, ma, ((mb + 1) &&& 4095), ir, sw, io, dl, ha, rd, 5, (md + 1), kf, kb, cn, pf, (upd co (ma &&& 4095).toNatClampNeg (((mb + 1) &&& 4095) &&& 4095)), ou)
  exact Iv_mk ⟨⟨hpc, hac, hmq, hma, (an_an _), hir, hsw⟩, hlk, ⟨hio, hdl, hha, hrd, hkf, hpf⟩, Or.inr (Or.inr (Or.inr (Or.inr (Or.inr (Or.inl rfl))))), (fun _ => hlt (by decide)), hkb, hcn, hn, (wo_up hco _ (an_an _))⟩
set_option maxRecDepth 100000 in
theorem iv_5 {n : Nat} {pc ac lk mq ma mb ir sw io dl ha rd md kf kb cn pf : Int32} {co ou : Nat → Int32} (I : Iv n (pc, ac, lk, mq, ma, mb, ir, sw, io, dl, ha, rd, 5, md, kf, kb, cn, pf, co, ou)) : Iv n (fin_ (mu5 (pc, ac, lk, mq, ma, mb, ir, sw, io, dl, ha, rd, 5, md, kf, kb, cn, pf, co, ou))).2 := by
  obtain ⟨⟨hpc, hac, hmq, hma, hmb, hir, hsw⟩, hlk, ⟨hio, hdl, hha, hrd, hkf, hpf⟩, hsn, hlt, hkb, hcn, hn, hco⟩ := I
  have hl := hlt (by decide)
  obtain ⟨z, hz, ez⟩ := di_8 hir hl
  show Iv n (pc, ac, lk, mq, mb, mb, ir, sw, io, dl, ha, rd, 8 + ir / 512, (md + 1), kf, kb, cn, pf, co, ou)
  rw [ez]
  rcases hz with rfl | rfl | rfl | rfl | rfl | rfl
  · exact Iv_mk ⟨⟨hpc, hac, hmq, hmb, hmb, hir, hsw⟩, hlk, ⟨hio, hdl, hha, hrd, hkf, hpf⟩, Or.inr (Or.inr (Or.inr (Or.inr (Or.inr (Or.inr (Or.inl rfl)))))), (fun q => by rcases q with q | q | q | q <;> exact absurd q (by decide)), hkb, hcn, hn, hco⟩
  · exact Iv_mk ⟨⟨hpc, hac, hmq, hmb, hmb, hir, hsw⟩, hlk, ⟨hio, hdl, hha, hrd, hkf, hpf⟩, Or.inr (Or.inr (Or.inr (Or.inr (Or.inr (Or.inr (Or.inr (Or.inl rfl))))))), (fun q => by rcases q with q | q | q | q <;> exact absurd q (by decide)), hkb, hcn, hn, hco⟩
  · exact Iv_mk ⟨⟨hpc, hac, hmq, hmb, hmb, hir, hsw⟩, hlk, ⟨hio, hdl, hha, hrd, hkf, hpf⟩, Or.inr (Or.inr (Or.inr (Or.inr (Or.inr (Or.inr (Or.inr (Or.inr (Or.inl rfl)))))))), (fun q => by rcases q with q | q | q | q <;> exact absurd q (by decide)), hkb, hcn, hn, hco⟩
  · exact Iv_mk ⟨⟨hpc, hac, hmq, hmb, hmb, hir, hsw⟩, hlk, ⟨hio, hdl, hha, hrd, hkf, hpf⟩, Or.inr (Or.inr (Or.inr (Or.inr (Or.inr (Or.inr (Or.inr (Or.inr (Or.inr (Or.inl rfl))))))))), (fun q => by rcases q with q | q | q | q <;> exact absurd q (by decide)), hkb, hcn, hn, hco⟩
  · exact Iv_mk ⟨⟨hpc, hac, hmq, hmb, hmb, hir, hsw⟩, hlk, ⟨hio, hdl, hha, hrd, hkf, hpf⟩, Or.inr (Or.inr (Or.inr (Or.inr (Or.inr (Or.inr (Or.inr (Or.inr (Or.inr (Or.inr (Or.inl rfl)))))))))), (fun q => by rcases q with q | q | q | q <;> exact absurd q (by decide)), hkb, hcn, hn, hco⟩
  · exact Iv_mk ⟨⟨hpc, hac, hmq, hmb, hmb, hir, hsw⟩, hlk, ⟨hio, hdl, hha, hrd, hkf, hpf⟩, Or.inr (Or.inr (Or.inr (Or.inr (Or.inr (Or.inr (Or.inr (Or.inr (Or.inr (Or.inr (Or.inr (Or.inl rfl))))))))))), (fun q => by rcases q with q | q | q | q <;> exact absurd q (by decide)), hkb, hcn, hn, hco⟩
set_option maxRecDepth 100000 in
theorem iv_8 {n : Nat} {pc ac lk mq ma mb ir sw io dl ha rd md kf kb cn pf : Int32} {co ou : Nat → Int32} (I : Iv n (pc, ac, lk, mq, ma, mb, ir, sw, io, dl, ha, rd, 8, md, kf, kb, cn, pf, co, ou)) : Iv n (fin_ (mu8 (pc, ac, lk, mq, ma, mb, ir, sw, io, dl, ha, rd, 8, md, kf, kb, cn, pf, co, ou))).2 := by
  obtain ⟨⟨hpc, hac, hmq, hma, hmb, hir, hsw⟩, hlk, ⟨hio, hdl, hha, hrd, hkf, hpf⟩, hsn, hlt, hkb, hcn, hn, hco⟩ := I
  show Iv n (pc, ac, lk, mq, ma, (co (ma &&& 4095).toNatClampNeg), ir, sw, io, dl, ha, rd, 16, (md + 1), kf, kb, cn, pf, co, ou)
  exact Iv_mk ⟨⟨hpc, hac, hmq, hma, (hco _), hir, hsw⟩, hlk, ⟨hio, hdl, hha, hrd, hkf, hpf⟩, Or.inr (Or.inr (Or.inr (Or.inr (Or.inr (Or.inr (Or.inr (Or.inr (Or.inr (Or.inr (Or.inr (Or.inr (Or.inr (Or.inl rfl))))))))))))), (fun q => by rcases q with q | q | q | q <;> exact absurd q (by decide)), hkb, hcn, hn, hco⟩
set_option maxRecDepth 100000 in
theorem iv_9 {n : Nat} {pc ac lk mq ma mb ir sw io dl ha rd md kf kb cn pf : Int32} {co ou : Nat → Int32} (I : Iv n (pc, ac, lk, mq, ma, mb, ir, sw, io, dl, ha, rd, 9, md, kf, kb, cn, pf, co, ou)) : Iv n (fin_ (mu9 (pc, ac, lk, mq, ma, mb, ir, sw, io, dl, ha, rd, 9, md, kf, kb, cn, pf, co, ou))).2 := by
  obtain ⟨⟨hpc, hac, hmq, hma, hmb, hir, hsw⟩, hlk, ⟨hio, hdl, hha, hrd, hkf, hpf⟩, hsn, hlt, hkb, hcn, hn, hco⟩ := I
  show Iv n (pc, ac, lk, mq, ma, (co (ma &&& 4095).toNatClampNeg), ir, sw, io, dl, ha, rd, 17, (md + 1), kf, kb, cn, pf, co, ou)
  exact Iv_mk ⟨⟨hpc, hac, hmq, hma, (hco _), hir, hsw⟩, hlk, ⟨hio, hdl, hha, hrd, hkf, hpf⟩, Or.inr (Or.inr (Or.inr (Or.inr (Or.inr (Or.inr (Or.inr (Or.inr (Or.inr (Or.inr (Or.inr (Or.inr (Or.inr (Or.inr (Or.inl rfl)))))))))))))), (fun q => by rcases q with q | q | q | q <;> exact absurd q (by decide)), hkb, hcn, hn, hco⟩
set_option maxRecDepth 100000 in
theorem iv_10 {n : Nat} {pc ac lk mq ma mb ir sw io dl ha rd md kf kb cn pf : Int32} {co ou : Nat → Int32} (I : Iv n (pc, ac, lk, mq, ma, mb, ir, sw, io, dl, ha, rd, 10, md, kf, kb, cn, pf, co, ou)) : Iv n (fin_ (mu10 (pc, ac, lk, mq, ma, mb, ir, sw, io, dl, ha, rd, 10, md, kf, kb, cn, pf, co, ou))).2 := by
  obtain ⟨⟨hpc, hac, hmq, hma, hmb, hir, hsw⟩, hlk, ⟨hio, hdl, hha, hrd, hkf, hpf⟩, hsn, hlt, hkb, hcn, hn, hco⟩ := I
  show Iv n (pc, ac, lk, mq, ma, (((co (ma &&& 4095).toNatClampNeg) + 1) &&& 4095), ir, sw, io, dl, ha, rd, 18, (md + 1), kf, kb, cn, pf, co, ou)
  exact Iv_mk ⟨⟨hpc, hac, hmq, hma, (an_an _), hir, hsw⟩, hlk, ⟨hio, hdl, hha, hrd, hkf, hpf⟩, Or.inr (Or.inr (Or.inr (Or.inr (Or.inr (Or.inr (Or.inr (Or.inr (Or.inr (Or.inr (Or.inr (Or.inr (Or.inr (Or.inr (Or.inr (Or.inl rfl))))))))))))))), (fun q => by rcases q with q | q | q | q <;> exact absurd q (by decide)), hkb, hcn, hn, hco⟩
set_option maxRecDepth 100000 in
theorem iv_11 {n : Nat} {pc ac lk mq ma mb ir sw io dl ha rd md kf kb cn pf : Int32} {co ou : Nat → Int32} (I : Iv n (pc, ac, lk, mq, ma, mb, ir, sw, io, dl, ha, rd, 11, md, kf, kb, cn, pf, co, ou)) : Iv n (fin_ (mu11 (pc, ac, lk, mq, ma, mb, ir, sw, io, dl, ha, rd, 11, md, kf, kb, cn, pf, co, ou))).2 := by
  obtain ⟨⟨hpc, hac, hmq, hma, hmb, hir, hsw⟩, hlk, ⟨hio, hdl, hha, hrd, hkf, hpf⟩, hsn, hlt, hkb, hcn, hn, hco⟩ := I
  show Iv n (pc, ac, lk, mq, ma, ac, ir, sw, io, dl, ha, rd, 19, (md + 1), kf, kb, cn, pf, co, ou)
  exact Iv_mk ⟨⟨hpc, hac, hmq, hma, hac, hir, hsw⟩, hlk, ⟨hio, hdl, hha, hrd, hkf, hpf⟩, Or.inr (Or.inr (Or.inr (Or.inr (Or.inr (Or.inr (Or.inr (Or.inr (Or.inr (Or.inr (Or.inr (Or.inr (Or.inr (Or.inr (Or.inr (Or.inr (Or.inl rfl)))))))))))))))), (fun q => by rcases q with q | q | q | q <;> exact absurd q (by decide)), hkb, hcn, hn, hco⟩
set_option maxRecDepth 100000 in
theorem iv_12 {n : Nat} {pc ac lk mq ma mb ir sw io dl ha rd md kf kb cn pf : Int32} {co ou : Nat → Int32} (I : Iv n (pc, ac, lk, mq, ma, mb, ir, sw, io, dl, ha, rd, 12, md, kf, kb, cn, pf, co, ou)) : Iv n (fin_ (mu12 (pc, ac, lk, mq, ma, mb, ir, sw, io, dl, ha, rd, 12, md, kf, kb, cn, pf, co, ou))).2 := by
  obtain ⟨⟨hpc, hac, hmq, hma, hmb, hir, hsw⟩, hlk, ⟨hio, hdl, hha, hrd, hkf, hpf⟩, hsn, hlt, hkb, hcn, hn, hco⟩ := I
  show Iv n (pc, ac, lk, mq, ma, pc, ir, sw, io, dl, ha, rd, 15, (md + 1), kf, kb, cn, pf, co, ou)
  exact Iv_mk ⟨⟨hpc, hac, hmq, hma, hpc, hir, hsw⟩, hlk, ⟨hio, hdl, hha, hrd, hkf, hpf⟩, Or.inr (Or.inr (Or.inr (Or.inr (Or.inr (Or.inr (Or.inr (Or.inr (Or.inr (Or.inr (Or.inr (Or.inr (Or.inl rfl)))))))))))), (fun q => by rcases q with q | q | q | q <;> exact absurd q (by decide)), hkb, hcn, hn, hco⟩
set_option maxRecDepth 100000 in
theorem iv_13 {n : Nat} {pc ac lk mq ma mb ir sw io dl ha rd md kf kb cn pf : Int32} {co ou : Nat → Int32} (I : Iv n (pc, ac, lk, mq, ma, mb, ir, sw, io, dl, ha, rd, 13, md, kf, kb, cn, pf, co, ou)) : Iv n (fin_ (mu13 (pc, ac, lk, mq, ma, mb, ir, sw, io, dl, ha, rd, 13, md, kf, kb, cn, pf, co, ou))).2 := by
  obtain ⟨⟨hpc, hac, hmq, hma, hmb, hir, hsw⟩, hlk, ⟨hio, hdl, hha, hrd, hkf, hpf⟩, hsn, hlt, hkb, hcn, hn, hco⟩ := I
  show Iv n (ma, ac, lk, mq, ma, mb, ir, sw, io, dl, ha, rd, 0, (md + 1), kf, kb, cn, pf, co, ou)
  exact Iv_mk ⟨⟨hma, hac, hmq, hma, hmb, hir, hsw⟩, hlk, ⟨hio, hdl, hha, hrd, hkf, hpf⟩, Or.inl rfl, (fun q => by rcases q with q | q | q | q <;> exact absurd q (by decide)), hkb, hcn, hn, hco⟩
set_option maxRecDepth 100000 in
theorem iv_15 {n : Nat} {pc ac lk mq ma mb ir sw io dl ha rd md kf kb cn pf : Int32} {co ou : Nat → Int32} (I : Iv n (pc, ac, lk, mq, ma, mb, ir, sw, io, dl, ha, rd, 15, md, kf, kb, cn, pf, co, ou)) : Iv n (fin_ (mu15 (pc, ac, lk, mq, ma, mb, ir, sw, io, dl, ha, rd, 15, md, kf, kb, cn, pf, co, ou))).2 := by
  obtain ⟨⟨hpc, hac, hmq, hma, hmb, hir, hsw⟩, hlk, ⟨hio, hdl, hha, hrd, hkf, hpf⟩, hsn, hlt, hkb, hcn, hn, hco⟩ := I
  show Iv n (((ma + 1) &&& 4095), ac, lk, mq, ma, mb, ir, sw, io, dl, ha, rd, 0, (md + 1), kf, kb, cn, pf, (upd co (ma &&& 4095).toNatClampNeg (mb &&& 4095)), ou)
  exact Iv_mk ⟨⟨(an_an _), hac, hmq, hma, hmb, hir, hsw⟩, hlk, ⟨hio, hdl, hha, hrd, hkf, hpf⟩, Or.inl rfl, (fun q => by rcases q with q | q | q | q <;> exact absurd q (by decide)), hkb, hcn, hn, (wo_up hco _ (an_an _))⟩
set_option maxRecDepth 100000 in
theorem iv_16 {n : Nat} {pc ac lk mq ma mb ir sw io dl ha rd md kf kb cn pf : Int32} {co ou : Nat → Int32} (I : Iv n (pc, ac, lk, mq, ma, mb, ir, sw, io, dl, ha, rd, 16, md, kf, kb, cn, pf, co, ou)) : Iv n (fin_ (mu16 (pc, ac, lk, mq, ma, mb, ir, sw, io, dl, ha, rd, 16, md, kf, kb, cn, pf, co, ou))).2 := by
  obtain ⟨⟨hpc, hac, hmq, hma, hmb, hir, hsw⟩, hlk, ⟨hio, hdl, hha, hrd, hkf, hpf⟩, hsn, hlt, hkb, hcn, hn, hco⟩ := I
  show Iv n (pc, (ac &&& mb), lk, mq, ma, mb, ir, sw, io, dl, ha, rd, 0, (md + 1), kf, kb, cn, pf, co, ou)
  exact Iv_mk ⟨⟨hpc, (wo_and hac), hmq, hma, hmb, hir, hsw⟩, hlk, ⟨hio, hdl, hha, hrd, hkf, hpf⟩, Or.inl rfl, (fun q => by rcases q with q | q | q | q <;> exact absurd q (by decide)), hkb, hcn, hn, hco⟩
set_option maxRecDepth 100000 in
theorem iv_17 {n : Nat} {pc ac lk mq ma mb ir sw io dl ha rd md kf kb cn pf : Int32} {co ou : Nat → Int32} (I : Iv n (pc, ac, lk, mq, ma, mb, ir, sw, io, dl, ha, rd, 17, md, kf, kb, cn, pf, co, ou)) : Iv n (fin_ (mu17 (pc, ac, lk, mq, ma, mb, ir, sw, io, dl, ha, rd, 17, md, kf, kb, cn, pf, co, ou))).2 := by
  obtain ⟨⟨hpc, hac, hmq, hma, hmb, hir, hsw⟩, hlk, ⟨hio, hdl, hha, hrd, hkf, hpf⟩, hsn, hlt, hkb, hcn, hn, hco⟩ := I
  show Iv n (pc, ((ac + mb) &&& 4095), (if ac + mb ≤ 4095 then lk else 1 - lk), mq, ma, mb, ir, sw, io, dl, ha, rd, 0, (md + 1), kf, kb, cn, pf, co, ou)
  exact Iv_mk ⟨⟨hpc, (an_an _), hmq, hma, hmb, hir, hsw⟩, (if_p (P := fun z => z = 0 ∨ z = 1) hlk (lk_t hlk)), ⟨hio, hdl, hha, hrd, hkf, hpf⟩, Or.inl rfl, (fun q => by rcases q with q | q | q | q <;> exact absurd q (by decide)), hkb, hcn, hn, hco⟩
set_option maxRecDepth 100000 in
theorem iv_18 {n : Nat} {pc ac lk mq ma mb ir sw io dl ha rd md kf kb cn pf : Int32} {co ou : Nat → Int32} (I : Iv n (pc, ac, lk, mq, ma, mb, ir, sw, io, dl, ha, rd, 18, md, kf, kb, cn, pf, co, ou)) : Iv n (fin_ (mu18 (pc, ac, lk, mq, ma, mb, ir, sw, io, dl, ha, rd, 18, md, kf, kb, cn, pf, co, ou))).2 := by
  obtain ⟨⟨hpc, hac, hmq, hma, hmb, hir, hsw⟩, hlk, ⟨hio, hdl, hha, hrd, hkf, hpf⟩, hsn, hlt, hkb, hcn, hn, hco⟩ := I
  show Iv n ((if mb = 0 then ((pc + 1) &&& 4095) else pc), ac, lk, mq, ma, mb, ir, sw, io, dl, ha, rd, 0, (md + 1), kf, kb, cn, pf, (upd co (ma &&& 4095).toNatClampNeg (mb &&& 4095)), ou)
  exact Iv_mk ⟨⟨(if_p (P := fun z => z &&& 4095 = z) (an_an _) hpc), hac, hmq, hma, hmb, hir, hsw⟩, hlk, ⟨hio, hdl, hha, hrd, hkf, hpf⟩, Or.inl rfl, (fun q => by rcases q with q | q | q | q <;> exact absurd q (by decide)), hkb, hcn, hn, (wo_up hco _ (an_an _))⟩
set_option maxRecDepth 100000 in
theorem iv_19 {n : Nat} {pc ac lk mq ma mb ir sw io dl ha rd md kf kb cn pf : Int32} {co ou : Nat → Int32} (I : Iv n (pc, ac, lk, mq, ma, mb, ir, sw, io, dl, ha, rd, 19, md, kf, kb, cn, pf, co, ou)) : Iv n (fin_ (mu19 (pc, ac, lk, mq, ma, mb, ir, sw, io, dl, ha, rd, 19, md, kf, kb, cn, pf, co, ou))).2 := by
  obtain ⟨⟨hpc, hac, hmq, hma, hmb, hir, hsw⟩, hlk, ⟨hio, hdl, hha, hrd, hkf, hpf⟩, hsn, hlt, hkb, hcn, hn, hco⟩ := I
  show Iv n (pc, 0, lk, mq, ma, mb, ir, sw, io, dl, ha, rd, 0, (md + 1), kf, kb, cn, pf, (upd co (ma &&& 4095).toNatClampNeg (mb &&& 4095)), ou)
  exact Iv_mk ⟨⟨hpc, wo_0, hmq, hma, hmb, hir, hsw⟩, hlk, ⟨hio, hdl, hha, hrd, hkf, hpf⟩, Or.inl rfl, (fun q => by rcases q with q | q | q | q <;> exact absurd q (by decide)), hkb, hcn, hn, (wo_up hco _ (an_an _))⟩
set_option maxRecDepth 100000 in
theorem iv_20 {n : Nat} {pc ac lk mq ma mb ir sw io dl ha rd md kf kb cn pf : Int32} {co ou : Nat → Int32} (I : Iv n (pc, ac, lk, mq, ma, mb, ir, sw, io, dl, ha, rd, 20, md, kf, kb, cn, pf, co, ou)) : Iv n (fin_ (mu20 (pc, ac, lk, mq, ma, mb, ir, sw, io, dl, ha, rd, 20, md, kf, kb, cn, pf, co, ou))).2 := by
  obtain ⟨⟨hpc, hac, hmq, hma, hmb, hir, hsw⟩, hlk, ⟨hio, hdl, hha, hrd, hkf, hpf⟩, hsn, hlt, hkb, hcn, hn, hco⟩ := I
  show Iv n (pc, ac, lk, mq, ma, mb, ir, sw, io, dl, ha, rd, (if ir &&& 256 = 0 then 21 else (if ir &&& 1 = 0 then 26 else 30)), (md + 1), kf, kb, cn, pf, co, ou)
  by_cases q1 : ir &&& 256 = 0
  · rw [if_pos q1]
    exact Iv_mk ⟨⟨hpc, hac, hmq, hma, hmb, hir, hsw⟩, hlk, ⟨hio, hdl, hha, hrd, hkf, hpf⟩, Or.inr (Or.inr (Or.inr (Or.inr (Or.inr (Or.inr (Or.inr (Or.inr (Or.inr (Or.inr (Or.inr (Or.inr (Or.inr (Or.inr (Or.inr (Or.inr (Or.inr (Or.inr (Or.inl rfl)))))))))))))))))), (fun q => by rcases q with q | q | q | q <;> exact absurd q (by decide)), hkb, hcn, hn, hco⟩
  · rw [if_neg q1]
    by_cases q2 : ir &&& 1 = 0
    · rw [if_pos q2]
      exact Iv_mk ⟨⟨hpc, hac, hmq, hma, hmb, hir, hsw⟩, hlk, ⟨hio, hdl, hha, hrd, hkf, hpf⟩, Or.inr (Or.inr (Or.inr (Or.inr (Or.inr (Or.inr (Or.inr (Or.inr (Or.inr (Or.inr (Or.inr (Or.inr (Or.inr (Or.inr (Or.inr (Or.inr (Or.inr (Or.inr (Or.inr (Or.inr (Or.inr (Or.inr (Or.inr (Or.inl rfl))))))))))))))))))))))), (fun q => by rcases q with q | q | q | q <;> exact absurd q (by decide)), hkb, hcn, hn, hco⟩
    · rw [if_neg q2]
      exact Iv_mk ⟨⟨hpc, hac, hmq, hma, hmb, hir, hsw⟩, hlk, ⟨hio, hdl, hha, hrd, hkf, hpf⟩, Or.inr (Or.inr (Or.inr (Or.inr (Or.inr (Or.inr (Or.inr (Or.inr (Or.inr (Or.inr (Or.inr (Or.inr (Or.inr (Or.inr (Or.inr (Or.inr (Or.inr (Or.inr (Or.inr (Or.inr (Or.inr (Or.inr (Or.inr (Or.inr (Or.inr (Or.inr (Or.inl rfl)))))))))))))))))))))))))), (fun q => by rcases q with q | q | q | q <;> exact absurd q (by decide)), hkb, hcn, hn, hco⟩
set_option maxRecDepth 100000 in
theorem iv_21 {n : Nat} {pc ac lk mq ma mb ir sw io dl ha rd md kf kb cn pf : Int32} {co ou : Nat → Int32} (I : Iv n (pc, ac, lk, mq, ma, mb, ir, sw, io, dl, ha, rd, 21, md, kf, kb, cn, pf, co, ou)) : Iv n (fin_ (mu21 (pc, ac, lk, mq, ma, mb, ir, sw, io, dl, ha, rd, 21, md, kf, kb, cn, pf, co, ou))).2 := by
  obtain ⟨⟨hpc, hac, hmq, hma, hmb, hir, hsw⟩, hlk, ⟨hio, hdl, hha, hrd, hkf, hpf⟩, hsn, hlt, hkb, hcn, hn, hco⟩ := I
  show Iv n (pc, (if ir &&& 128 = 0 then ac else 0), (if ir &&& 64 = 0 then lk else 0), mq, ma, mb, ir, sw, io, dl, ha, rd, 22, (md + 1), kf, kb, cn, pf, co, ou)
  exact Iv_mk ⟨⟨hpc, (if_p (P := fun z => z &&& 4095 = z) hac wo_0), hmq, hma, hmb, hir, hsw⟩, (if_p (P := fun z => z = 0 ∨ z = 1) hlk (Or.inl rfl)), ⟨hio, hdl, hha, hrd, hkf, hpf⟩, Or.inr (Or.inr (Or.inr (Or.inr (Or.inr (Or.inr (Or.inr (Or.inr (Or.inr (Or.inr (Or.inr (Or.inr (Or.inr (Or.inr (Or.inr (Or.inr (Or.inr (Or.inr (Or.inr (Or.inl rfl))))))))))))))))))), (fun q => by rcases q with q | q | q | q <;> exact absurd q (by decide)), hkb, hcn, hn, hco⟩
set_option maxRecDepth 100000 in
theorem iv_22 {n : Nat} {pc ac lk mq ma mb ir sw io dl ha rd md kf kb cn pf : Int32} {co ou : Nat → Int32} (I : Iv n (pc, ac, lk, mq, ma, mb, ir, sw, io, dl, ha, rd, 22, md, kf, kb, cn, pf, co, ou)) : Iv n (fin_ (mu22 (pc, ac, lk, mq, ma, mb, ir, sw, io, dl, ha, rd, 22, md, kf, kb, cn, pf, co, ou))).2 := by
  obtain ⟨⟨hpc, hac, hmq, hma, hmb, hir, hsw⟩, hlk, ⟨hio, hdl, hha, hrd, hkf, hpf⟩, hsn, hlt, hkb, hcn, hn, hco⟩ := I
  show Iv n (pc, (if ir &&& 32 = 0 then ac else (4095 - ac)), (if ir &&& 16 = 0 then lk else (1 - lk)), mq, ma, mb, ir, sw, io, dl, ha, rd, 23, (md + 1), kf, kb, cn, pf, co, ou)
  exact Iv_mk ⟨⟨hpc, (if_p (P := fun z => z &&& 4095 = z) hac (wo_sub hac)), hmq, hma, hmb, hir, hsw⟩, (if_p (P := fun z => z = 0 ∨ z = 1) hlk (lk_t hlk)), ⟨hio, hdl, hha, hrd, hkf, hpf⟩, Or.inr (Or.inr (Or.inr (Or.inr (Or.inr (Or.inr (Or.inr (Or.inr (Or.inr (Or.inr (Or.inr (Or.inr (Or.inr (Or.inr (Or.inr (Or.inr (Or.inr (Or.inr (Or.inr (Or.inr (Or.inl rfl)))))))))))))))))))), (fun q => by rcases q with q | q | q | q <;> exact absurd q (by decide)), hkb, hcn, hn, hco⟩
set_option maxRecDepth 100000 in
theorem iv_23 {n : Nat} {pc ac lk mq ma mb ir sw io dl ha rd md kf kb cn pf : Int32} {co ou : Nat → Int32} (I : Iv n (pc, ac, lk, mq, ma, mb, ir, sw, io, dl, ha, rd, 23, md, kf, kb, cn, pf, co, ou)) : Iv n (fin_ (mu23 (pc, ac, lk, mq, ma, mb, ir, sw, io, dl, ha, rd, 23, md, kf, kb, cn, pf, co, ou))).2 := by
  obtain ⟨⟨hpc, hac, hmq, hma, hmb, hir, hsw⟩, hlk, ⟨hio, hdl, hha, hrd, hkf, hpf⟩, hsn, hlt, hkb, hcn, hn, hco⟩ := I
  show Iv n (fin_ ((if ir &&& 12 = 0 then 0 else 24), (if ir &&& 1 = 0 then _ else _))).2
  by_cases q1 : ir &&& 12 = 0 <;> by_cases q2 : ir &&& 1 = 0
  · rw [if_pos q1, if_pos q2]
    show Iv n (pc, ac, lk, mq, ma, mb, ir, sw, io, dl, ha, rd, 0, (md + 1), kf, kb, cn, pf, co, ou)
    exact Iv_mk ⟨⟨hpc, hac, hmq, hma, hmb, hir, hsw⟩, hlk, ⟨hio, hdl, hha, hrd, hkf, hpf⟩, Or.inl rfl, (fun q => by rcases q with q | q | q | q <;> exact absurd q (by decide)), hkb, hcn, hn, hco⟩
  · rw [if_pos q1, if_neg q2]
    show Iv n (pc, ((ac + 1) &&& 4095), (if ac + 1 ≤ 4095 then lk else 1 - lk), mq, ma, mb, ir, sw, io, dl, ha, rd, 0, (md + 1), kf, kb, cn, pf, co, ou)
    exact Iv_mk ⟨⟨hpc, (an_an _), hmq, hma, hmb, hir, hsw⟩, (if_p (P := fun z => z = 0 ∨ z = 1) hlk (lk_t hlk)), ⟨hio, hdl, hha, hrd, hkf, hpf⟩, Or.inl rfl, (fun q => by rcases q with q | q | q | q <;> exact absurd q (by decide)), hkb, hcn, hn, hco⟩
  · rw [if_neg q1, if_pos q2]
    show Iv n (pc, ac, lk, mq, ma, mb, ir, sw, io, dl, ha, rd, 24, (md + 1), kf, kb, cn, pf, co, ou)
    exact Iv_mk ⟨⟨hpc, hac, hmq, hma, hmb, hir, hsw⟩, hlk, ⟨hio, hdl, hha, hrd, hkf, hpf⟩, Or.inr (Or.inr (Or.inr (Or.inr (Or.inr (Or.inr (Or.inr (Or.inr (Or.inr (Or.inr (Or.inr (Or.inr (Or.inr (Or.inr (Or.inr (Or.inr (Or.inr (Or.inr (Or.inr (Or.inr (Or.inr (Or.inl rfl))))))))))))))))))))), (fun q => by rcases q with q | q | q | q <;> exact absurd q (by decide)), hkb, hcn, hn, hco⟩
  · rw [if_neg q1, if_neg q2]
    show Iv n (pc, ((ac + 1) &&& 4095), (if ac + 1 ≤ 4095 then lk else 1 - lk), mq, ma, mb, ir, sw, io, dl, ha, rd, 24, (md + 1), kf, kb, cn, pf, co, ou)
    exact Iv_mk ⟨⟨hpc, (an_an _), hmq, hma, hmb, hir, hsw⟩, (if_p (P := fun z => z = 0 ∨ z = 1) hlk (lk_t hlk)), ⟨hio, hdl, hha, hrd, hkf, hpf⟩, Or.inr (Or.inr (Or.inr (Or.inr (Or.inr (Or.inr (Or.inr (Or.inr (Or.inr (Or.inr (Or.inr (Or.inr (Or.inr (Or.inr (Or.inr (Or.inr (Or.inr (Or.inr (Or.inr (Or.inr (Or.inr (Or.inl rfl))))))))))))))))))))), (fun q => by rcases q with q | q | q | q <;> exact absurd q (by decide)), hkb, hcn, hn, hco⟩
set_option maxRecDepth 100000 in
theorem iv_24 {n : Nat} {pc ac lk mq ma mb ir sw io dl ha rd md kf kb cn pf : Int32} {co ou : Nat → Int32} (I : Iv n (pc, ac, lk, mq, ma, mb, ir, sw, io, dl, ha, rd, 24, md, kf, kb, cn, pf, co, ou)) : Iv n (fin_ (mu24 (pc, ac, lk, mq, ma, mb, ir, sw, io, dl, ha, rd, 24, md, kf, kb, cn, pf, co, ou))).2 := by
  obtain ⟨⟨hpc, hac, hmq, hma, hmb, hir, hsw⟩, hlk, ⟨hio, hdl, hha, hrd, hkf, hpf⟩, hsn, hlt, hkb, hcn, hn, hco⟩ := I
  show Iv n (pc, (rg_ lk ac ir &&& 4095), (rg_ lk ac ir >>> ((12 : Int32) &&& 31)), mq, ma, mb, ir, sw, io, dl, ha, rd, (if ir &&& 2 = 0 then 0 else 25), (md + 1), kf, kb, cn, pf, co, ou)
  by_cases q1 : ir &&& 2 = 0
  · rw [if_pos q1]
    exact Iv_mk ⟨⟨hpc, (an_an _), hmq, hma, hmb, hir, hsw⟩, (rg_lk ir hlk hac), ⟨hio, hdl, hha, hrd, hkf, hpf⟩, Or.inl rfl, (fun q => by rcases q with q | q | q | q <;> exact absurd q (by decide)), hkb, hcn, hn, hco⟩
  · rw [if_neg q1]
    exact Iv_mk ⟨⟨hpc, (an_an _), hmq, hma, hmb, hir, hsw⟩, (rg_lk ir hlk hac), ⟨hio, hdl, hha, hrd, hkf, hpf⟩, Or.inr (Or.inr (Or.inr (Or.inr (Or.inr (Or.inr (Or.inr (Or.inr (Or.inr (Or.inr (Or.inr (Or.inr (Or.inr (Or.inr (Or.inr (Or.inr (Or.inr (Or.inr (Or.inr (Or.inr (Or.inr (Or.inr (Or.inl rfl)))))))))))))))))))))), (fun q => by rcases q with q | q | q | q <;> exact absurd q (by decide)), hkb, hcn, hn, hco⟩
set_option maxRecDepth 100000 in
theorem iv_25 {n : Nat} {pc ac lk mq ma mb ir sw io dl ha rd md kf kb cn pf : Int32} {co ou : Nat → Int32} (I : Iv n (pc, ac, lk, mq, ma, mb, ir, sw, io, dl, ha, rd, 25, md, kf, kb, cn, pf, co, ou)) : Iv n (fin_ (mu25 (pc, ac, lk, mq, ma, mb, ir, sw, io, dl, ha, rd, 25, md, kf, kb, cn, pf, co, ou))).2 := by
  obtain ⟨⟨hpc, hac, hmq, hma, hmb, hir, hsw⟩, hlk, ⟨hio, hdl, hha, hrd, hkf, hpf⟩, hsn, hlt, hkb, hcn, hn, hco⟩ := I
  show Iv n (pc, (rg_ lk ac ir &&& 4095), (rg_ lk ac ir >>> ((12 : Int32) &&& 31)), mq, ma, mb, ir, sw, io, dl, ha, rd, 0, (md + 1), kf, kb, cn, pf, co, ou)
  exact Iv_mk ⟨⟨hpc, (an_an _), hmq, hma, hmb, hir, hsw⟩, (rg_lk ir hlk hac), ⟨hio, hdl, hha, hrd, hkf, hpf⟩, Or.inl rfl, (fun q => by rcases q with q | q | q | q <;> exact absurd q (by decide)), hkb, hcn, hn, hco⟩
set_option maxRecDepth 100000 in
theorem iv_26 {n : Nat} {pc ac lk mq ma mb ir sw io dl ha rd md kf kb cn pf : Int32} {co ou : Nat → Int32} (I : Iv n (pc, ac, lk, mq, ma, mb, ir, sw, io, dl, ha, rd, 26, md, kf, kb, cn, pf, co, ou)) : Iv n (fin_ (mu26 (pc, ac, lk, mq, ma, mb, ir, sw, io, dl, ha, rd, 26, md, kf, kb, cn, pf, co, ou))).2 := by
  obtain ⟨⟨hpc, hac, hmq, hma, hmb, hir, hsw⟩, hlk, ⟨hio, hdl, hha, hrd, hkf, hpf⟩, hsn, hlt, hkb, hcn, hn, hco⟩ := I
  show Iv n ((if ((¬ ir &&& 64 = 0 ∧ ¬ ac < 2048) ∨ (¬ ir &&& 32 = 0 ∧ ac = 0) ∨ (¬ ir &&& 16 = 0 ∧ lk = 1)) ↔ ¬ ir &&& 8 = 0 then pc else ((pc + 1) &&& 4095)), ac, lk, mq, ma, mb, ir, sw, io, dl, ha, rd, 27, (md + 1), kf, kb, cn, pf, co, ou)
  exact Iv_mk ⟨⟨(if_p (P := fun z => z &&& 4095 = z) hpc (an_an _)), hac, hmq, hma, hmb, hir, hsw⟩, hlk, ⟨hio, hdl, hha, hrd, hkf, hpf⟩, Or.inr (Or.inr (Or.inr (Or.inr (Or.inr (Or.inr (Or.inr (Or.inr (Or.inr (Or.inr (Or.inr (Or.inr (Or.inr (Or.inr (Or.inr (Or.inr (Or.inr (Or.inr (Or.inr (Or.inr (Or.inr (Or.inr (Or.inr (Or.inr (Or.inl rfl)))))))))))))))))))))))), (fun q => by rcases q with q | q | q | q <;> exact absurd q (by decide)), hkb, hcn, hn, hco⟩
set_option maxRecDepth 100000 in
theorem iv_27 {n : Nat} {pc ac lk mq ma mb ir sw io dl ha rd md kf kb cn pf : Int32} {co ou : Nat → Int32} (I : Iv n (pc, ac, lk, mq, ma, mb, ir, sw, io, dl, ha, rd, 27, md, kf, kb, cn, pf, co, ou)) : Iv n (fin_ (mu27 (pc, ac, lk, mq, ma, mb, ir, sw, io, dl, ha, rd, 27, md, kf, kb, cn, pf, co, ou))).2 := by
  obtain ⟨⟨hpc, hac, hmq, hma, hmb, hir, hsw⟩, hlk, ⟨hio, hdl, hha, hrd, hkf, hpf⟩, hsn, hlt, hkb, hcn, hn, hco⟩ := I
  show Iv n (pc, (if ir &&& 128 = 0 then ac else 0), lk, mq, ma, mb, ir, sw, io, dl, ha, rd, (if ir &&& 6 = 0 then 0 else 28), (md + 1), kf, kb, cn, pf, co, ou)
  by_cases q1 : ir &&& 6 = 0
  · rw [if_pos q1]
    exact Iv_mk ⟨⟨hpc, (if_p (P := fun z => z &&& 4095 = z) hac wo_0), hmq, hma, hmb, hir, hsw⟩, hlk, ⟨hio, hdl, hha, hrd, hkf, hpf⟩, Or.inl rfl, (fun q => by rcases q with q | q | q | q <;> exact absurd q (by decide)), hkb, hcn, hn, hco⟩
  · rw [if_neg q1]
    exact Iv_mk ⟨⟨hpc, (if_p (P := fun z => z &&& 4095 = z) hac wo_0), hmq, hma, hmb, hir, hsw⟩, hlk, ⟨hio, hdl, hha, hrd, hkf, hpf⟩, Or.inr (Or.inr (Or.inr (Or.inr (Or.inr (Or.inr (Or.inr (Or.inr (Or.inr (Or.inr (Or.inr (Or.inr (Or.inr (Or.inr (Or.inr (Or.inr (Or.inr (Or.inr (Or.inr (Or.inr (Or.inr (Or.inr (Or.inr (Or.inr (Or.inr (Or.inl rfl))))))))))))))))))))))))), (fun q => by rcases q with q | q | q | q <;> exact absurd q (by decide)), hkb, hcn, hn, hco⟩
set_option maxRecDepth 100000 in
theorem iv_28 {n : Nat} {pc ac lk mq ma mb ir sw io dl ha rd md kf kb cn pf : Int32} {co ou : Nat → Int32} (I : Iv n (pc, ac, lk, mq, ma, mb, ir, sw, io, dl, ha, rd, 28, md, kf, kb, cn, pf, co, ou)) : Iv n (fin_ (mu28 (pc, ac, lk, mq, ma, mb, ir, sw, io, dl, ha, rd, 28, md, kf, kb, cn, pf, co, ou))).2 := by
  obtain ⟨⟨hpc, hac, hmq, hma, hmb, hir, hsw⟩, hlk, ⟨hio, hdl, hha, hrd, hkf, hpf⟩, hsn, hlt, hkb, hcn, hn, hco⟩ := I
  show Iv n (pc, (if ir &&& 4 = 0 then ac else (ac ||| sw)), lk, mq, ma, mb, ir, sw, io, dl, (if ir &&& 2 = 0 then ha else 1), rd, 0, (md + 1), kf, kb, cn, pf, co, ou)
  exact Iv_mk ⟨⟨hpc, (if_p (P := fun z => z &&& 4095 = z) hac (wo_or hac hsw)), hmq, hma, hmb, hir, hsw⟩, hlk, ⟨hio, hdl, (if_p (P := fun z => z = 0 ∨ z = 1) hha (Or.inr rfl)), hrd, hkf, hpf⟩, Or.inl rfl, (fun q => by rcases q with q | q | q | q <;> exact absurd q (by decide)), hkb, hcn, hn, hco⟩
set_option maxRecDepth 100000 in
theorem iv_30 {n : Nat} {pc ac lk mq ma mb ir sw io dl ha rd md kf kb cn pf : Int32} {co ou : Nat → Int32} (I : Iv n (pc, ac, lk, mq, ma, mb, ir, sw, io, dl, ha, rd, 30, md, kf, kb, cn, pf, co, ou)) : Iv n (fin_ (mu30 (pc, ac, lk, mq, ma, mb, ir, sw, io, dl, ha, rd, 30, md, kf, kb, cn, pf, co, ou))).2 := by
  obtain ⟨⟨hpc, hac, hmq, hma, hmb, hir, hsw⟩, hlk, ⟨hio, hdl, hha, hrd, hkf, hpf⟩, hsn, hlt, hkb, hcn, hn, hco⟩ := I
  show Iv n (pc, (if ir &&& 128 = 0 then ac else 0), lk, mq, ma, mb, ir, sw, io, dl, ha, rd, 31, (md + 1), kf, kb, cn, pf, co, ou)
  exact Iv_mk ⟨⟨hpc, (if_p (P := fun z => z &&& 4095 = z) hac wo_0), hmq, hma, hmb, hir, hsw⟩, hlk, ⟨hio, hdl, hha, hrd, hkf, hpf⟩, Or.inr (Or.inr (Or.inr (Or.inr (Or.inr (Or.inr (Or.inr (Or.inr (Or.inr (Or.inr (Or.inr (Or.inr (Or.inr (Or.inr (Or.inr (Or.inr (Or.inr (Or.inr (Or.inr (Or.inr (Or.inr (Or.inr (Or.inr (Or.inr (Or.inr (Or.inr (Or.inr (Or.inl rfl))))))))))))))))))))))))))), (fun q => by rcases q with q | q | q | q <;> exact absurd q (by decide)), hkb, hcn, hn, hco⟩
set_option maxRecDepth 100000 in
theorem iv_31 {n : Nat} {pc ac lk mq ma mb ir sw io dl ha rd md kf kb cn pf : Int32} {co ou : Nat → Int32} (I : Iv n (pc, ac, lk, mq, ma, mb, ir, sw, io, dl, ha, rd, 31, md, kf, kb, cn, pf, co, ou)) : Iv n (fin_ (mu31 (pc, ac, lk, mq, ma, mb, ir, sw, io, dl, ha, rd, 31, md, kf, kb, cn, pf, co, ou))).2 := by
  obtain ⟨⟨hpc, hac, hmq, hma, hmb, hir, hsw⟩, hlk, ⟨hio, hdl, hha, hrd, hkf, hpf⟩, hsn, hlt, hkb, hcn, hn, hco⟩ := I
  show Iv n (pc, (if ir &&& 64 = 0 then (if ir &&& 16 = 0 then ac else 0) else ((if ir &&& 16 = 0 then ac else 0) ||| mq)), lk, (if ir &&& 16 = 0 then mq else ac), ma, mb, ir, sw, io, dl, ha, rd, 0, (md + 1), kf, kb, cn, pf, co, ou)
  exact Iv_mk ⟨⟨hpc, (if_p (P := fun z => z &&& 4095 = z) (if_p (P := fun z => z &&& 4095 = z) hac wo_0) (wo_or (if_p (P := fun z => z &&& 4095 = z) hac wo_0) hmq)), (if_p (P := fun z => z &&& 4095 = z) hmq hac), hma, hmb, hir, hsw⟩, hlk, ⟨hio, hdl, hha, hrd, hkf, hpf⟩, Or.inl rfl, (fun q => by rcases q with q | q | q | q <;> exact absurd q (by decide)), hkb, hcn, hn, hco⟩
set_option maxRecDepth 100000 in
theorem iv_32 {n : Nat} {pc ac lk mq ma mb ir sw io dl ha rd md kf kb cn pf : Int32} {co ou : Nat → Int32} (I : Iv n (pc, ac, lk, mq, ma, mb, ir, sw, io, dl, ha, rd, 32, md, kf, kb, cn, pf, co, ou)) : Iv n (fin_ (mu32 (pc, ac, lk, mq, ma, mb, ir, sw, io, dl, ha, rd, 32, md, kf, kb, cn, pf, co, ou))).2 := by
  obtain ⟨⟨hpc, hac, hmq, hma, hmb, hir, hsw⟩, hlk, ⟨hio, hdl, hha, hrd, hkf, hpf⟩, hsn, hlt, hkb, hcn, hn, hco⟩ := I
  show Iv n (pc, ac, lk, mq, ma, mb, ir, sw, io, dl, ha, rd, if (ir / 8) &&& 63 = 0 then 33 else if (ir / 8) &&& 63 = 3 then 34 else if (ir / 8) &&& 63 = 4 then 36 else 0, (md + 1), kf, kb, cn, pf, co, ou)
  by_cases q1 : (ir / 8) &&& 63 = 0
  · rw [if_pos q1]
    exact Iv_mk ⟨⟨hpc, hac, hmq, hma, hmb, hir, hsw⟩, hlk, ⟨hio, hdl, hha, hrd, hkf, hpf⟩, Or.inr (Or.inr (Or.inr (Or.inr (Or.inr (Or.inr (Or.inr (Or.inr (Or.inr (Or.inr (Or.inr (Or.inr (Or.inr (Or.inr (Or.inr (Or.inr (Or.inr (Or.inr (Or.inr (Or.inr (Or.inr (Or.inr (Or.inr (Or.inr (Or.inr (Or.inr (Or.inr (Or.inr (Or.inr (Or.inl rfl))))))))))))))))))))))))))))), (fun q => by rcases q with q | q | q | q <;> exact absurd q (by decide)), hkb, hcn, hn, hco⟩
  · rw [if_neg q1]
    by_cases q2 : (ir / 8) &&& 63 = 3
    · rw [if_pos q2]
      exact Iv_mk ⟨⟨hpc, hac, hmq, hma, hmb, hir, hsw⟩, hlk, ⟨hio, hdl, hha, hrd, hkf, hpf⟩, Or.inr (Or.inr (Or.inr (Or.inr (Or.inr (Or.inr (Or.inr (Or.inr (Or.inr (Or.inr (Or.inr (Or.inr (Or.inr (Or.inr (Or.inr (Or.inr (Or.inr (Or.inr (Or.inr (Or.inr (Or.inr (Or.inr (Or.inr (Or.inr (Or.inr (Or.inr (Or.inr (Or.inr (Or.inr (Or.inr (Or.inl rfl)))))))))))))))))))))))))))))), (fun q => by rcases q with q | q | q | q <;> exact absurd q (by decide)), hkb, hcn, hn, hco⟩
    · rw [if_neg q2]
      by_cases q3 : (ir / 8) &&& 63 = 4
      · rw [if_pos q3]
        exact Iv_mk ⟨⟨hpc, hac, hmq, hma, hmb, hir, hsw⟩, hlk, ⟨hio, hdl, hha, hrd, hkf, hpf⟩, Or.inr (Or.inr (Or.inr (Or.inr (Or.inr (Or.inr (Or.inr (Or.inr (Or.inr (Or.inr (Or.inr (Or.inr (Or.inr (Or.inr (Or.inr (Or.inr (Or.inr (Or.inr (Or.inr (Or.inr (Or.inr (Or.inr (Or.inr (Or.inr (Or.inr (Or.inr (Or.inr (Or.inr (Or.inr (Or.inr (Or.inr (Or.inr (Or.inl rfl)))))))))))))))))))))))))))))))), (fun q => by rcases q with q | q | q | q <;> exact absurd q (by decide)), hkb, hcn, hn, hco⟩
      · rw [if_neg q3]
        exact Iv_mk ⟨⟨hpc, hac, hmq, hma, hmb, hir, hsw⟩, hlk, ⟨hio, hdl, hha, hrd, hkf, hpf⟩, Or.inl rfl, (fun q => by rcases q with q | q | q | q <;> exact absurd q (by decide)), hkb, hcn, hn, hco⟩
set_option maxRecDepth 100000 in
theorem iv_33 {n : Nat} {pc ac lk mq ma mb ir sw io dl ha rd md kf kb cn pf : Int32} {co ou : Nat → Int32} (I : Iv n (pc, ac, lk, mq, ma, mb, ir, sw, io, dl, ha, rd, 33, md, kf, kb, cn, pf, co, ou)) : Iv n (fin_ (mu33 (pc, ac, lk, mq, ma, mb, ir, sw, io, dl, ha, rd, 33, md, kf, kb, cn, pf, co, ou))).2 := by
  obtain ⟨⟨hpc, hac, hmq, hma, hmb, hir, hsw⟩, hlk, ⟨hio, hdl, hha, hrd, hkf, hpf⟩, hsn, hlt, hkb, hcn, hn, hco⟩ := I
  show Iv n (pc, ac, lk, mq, ma, mb, ir, sw, (if ir &&& 2 = 0 then (if ir &&& 1 = 0 then io else 1) else 0), (if ir &&& 1 = 0 then dl else 1), ha, rd, 0, (md + 1), kf, kb, cn, pf, co, ou)
  exact Iv_mk ⟨⟨hpc, hac, hmq, hma, hmb, hir, hsw⟩, hlk, ⟨(if_p (P := fun z => z = 0 ∨ z = 1) (if_p (P := fun z => z = 0 ∨ z = 1) hio (Or.inr rfl)) (Or.inl rfl)), (if_p (P := fun z => z = 0 ∨ z = 1) hdl (Or.inr rfl)), hha, hrd, hkf, hpf⟩, Or.inl rfl, (fun q => by rcases q with q | q | q | q <;> exact absurd q (by decide)), hkb, hcn, hn, hco⟩
set_option maxRecDepth 100000 in
theorem iv_34 {n : Nat} {pc ac lk mq ma mb ir sw io dl ha rd md kf kb cn pf : Int32} {co ou : Nat → Int32} (I : Iv n (pc, ac, lk, mq, ma, mb, ir, sw, io, dl, ha, rd, 34, md, kf, kb, cn, pf, co, ou)) : Iv n (fin_ (mu34 (pc, ac, lk, mq, ma, mb, ir, sw, io, dl, ha, rd, 34, md, kf, kb, cn, pf, co, ou))).2 := by
  obtain ⟨⟨hpc, hac, hmq, hma, hmb, hir, hsw⟩, hlk, ⟨hio, hdl, hha, hrd, hkf, hpf⟩, hsn, hlt, hkb, hcn, hn, hco⟩ := I
  show Iv n ((if ir &&& 1 = 0 ∨ kf = 0 then pc else ((pc + 1) &&& 4095)), (if ir &&& 2 = 0 then ac else 0), lk, mq, ma, mb, ir, sw, io, dl, ha, rd, (if ir &&& 4 = 0 then 0 else 35), (md + 1), (if ir &&& 2 = 0 then kf else 0), kb, cn, pf, co, ou)
  by_cases q1 : ir &&& 4 = 0
  · rw [if_pos q1]
    exact Iv_mk ⟨⟨(if_p (P := fun z => z &&& 4095 = z) hpc (an_an _)), (if_p (P := fun z => z &&& 4095 = z) hac wo_0), hmq, hma, hmb, hir, hsw⟩, hlk, ⟨hio, hdl, hha, hrd, (if_p (P := fun z => z = 0 ∨ z = 1) hkf (Or.inl rfl)), hpf⟩, Or.inl rfl, (fun q => by rcases q with q | q | q | q <;> exact absurd q (by decide)), hkb, hcn, hn, hco⟩
  · rw [if_neg q1]
    exact Iv_mk ⟨⟨(if_p (P := fun z => z &&& 4095 = z) hpc (an_an _)), (if_p (P := fun z => z &&& 4095 = z) hac wo_0), hmq, hma, hmb, hir, hsw⟩, hlk, ⟨hio, hdl, hha, hrd, (if_p (P := fun z => z = 0 ∨ z = 1) hkf (Or.inl rfl)), hpf⟩, Or.inr (Or.inr (Or.inr (Or.inr (Or.inr (Or.inr (Or.inr (Or.inr (Or.inr (Or.inr (Or.inr (Or.inr (Or.inr (Or.inr (Or.inr (Or.inr (Or.inr (Or.inr (Or.inr (Or.inr (Or.inr (Or.inr (Or.inr (Or.inr (Or.inr (Or.inr (Or.inr (Or.inr (Or.inr (Or.inr (Or.inr (Or.inl rfl))))))))))))))))))))))))))))))), (fun q => by rcases q with q | q | q | q <;> exact absurd q (by decide)), hkb, hcn, hn, hco⟩
set_option maxRecDepth 100000 in
theorem iv_35 {n : Nat} {pc ac lk mq ma mb ir sw io dl ha rd md kf kb cn pf : Int32} {co ou : Nat → Int32} (I : Iv n (pc, ac, lk, mq, ma, mb, ir, sw, io, dl, ha, rd, 35, md, kf, kb, cn, pf, co, ou)) : Iv n (fin_ (mu35 (pc, ac, lk, mq, ma, mb, ir, sw, io, dl, ha, rd, 35, md, kf, kb, cn, pf, co, ou))).2 := by
  obtain ⟨⟨hpc, hac, hmq, hma, hmb, hir, hsw⟩, hlk, ⟨hio, hdl, hha, hrd, hkf, hpf⟩, hsn, hlt, hkb, hcn, hn, hco⟩ := I
  show Iv n (pc, (ac ||| kb), lk, mq, ma, mb, ir, sw, io, dl, ha, rd, 0, (md + 1), kf, kb, cn, pf, co, ou)
  exact Iv_mk ⟨⟨hpc, (wo_or hac (wo_kb hkb)), hmq, hma, hmb, hir, hsw⟩, hlk, ⟨hio, hdl, hha, hrd, hkf, hpf⟩, Or.inl rfl, (fun q => by rcases q with q | q | q | q <;> exact absurd q (by decide)), hkb, hcn, hn, hco⟩
set_option maxRecDepth 100000 in
theorem iv_36 {n : Nat} {pc ac lk mq ma mb ir sw io dl ha rd md kf kb cn pf : Int32} {co ou : Nat → Int32} (I : Iv n (pc, ac, lk, mq, ma, mb, ir, sw, io, dl, ha, rd, 36, md, kf, kb, cn, pf, co, ou)) : Iv n (fin_ (mu36 (pc, ac, lk, mq, ma, mb, ir, sw, io, dl, ha, rd, 36, md, kf, kb, cn, pf, co, ou))).2 := by
  obtain ⟨⟨hpc, hac, hmq, hma, hmb, hir, hsw⟩, hlk, ⟨hio, hdl, hha, hrd, hkf, hpf⟩, hsn, hlt, hkb, hcn, hn, hco⟩ := I
  show Iv n ((if ir &&& 1 = 0 ∨ pf = 0 then pc else ((pc + 1) &&& 4095)), ac, lk, mq, ma, mb, ir, sw, io, dl, ha, rd, (if ir &&& 4 = 0 then 0 else 37), (md + 1), kf, kb, cn, (if ir &&& 2 = 0 then pf else 0), co, ou)
  by_cases q1 : ir &&& 4 = 0
  · rw [if_pos q1]
    exact Iv_mk ⟨⟨(if_p (P := fun z => z &&& 4095 = z) hpc (an_an _)), hac, hmq, hma, hmb, hir, hsw⟩, hlk, ⟨hio, hdl, hha, hrd, hkf, (if_p (P := fun z => z = 0 ∨ z = 1) hpf (Or.inl rfl))⟩, Or.inl rfl, (fun q => by rcases q with q | q | q | q <;> exact absurd q (by decide)), hkb, hcn, hn, hco⟩
  · rw [if_neg q1]
    exact Iv_mk ⟨⟨(if_p (P := fun z => z &&& 4095 = z) hpc (an_an _)), hac, hmq, hma, hmb, hir, hsw⟩, hlk, ⟨hio, hdl, hha, hrd, hkf, (if_p (P := fun z => z = 0 ∨ z = 1) hpf (Or.inl rfl))⟩, Or.inr (Or.inr (Or.inr (Or.inr (Or.inr (Or.inr (Or.inr (Or.inr (Or.inr (Or.inr (Or.inr (Or.inr (Or.inr (Or.inr (Or.inr (Or.inr (Or.inr (Or.inr (Or.inr (Or.inr (Or.inr (Or.inr (Or.inr (Or.inr (Or.inr (Or.inr (Or.inr (Or.inr (Or.inr (Or.inr (Or.inr (Or.inr (Or.inr (Or.inl rfl))))))))))))))))))))))))))))))))), (fun q => by rcases q with q | q | q | q <;> exact absurd q (by decide)), hkb, hcn, hn, hco⟩
set_option maxRecDepth 100000 in
theorem iv_37 {n : Nat} {pc ac lk mq ma mb ir sw io dl ha rd md kf kb cn pf : Int32} {co ou : Nat → Int32} (I : Iv n (pc, ac, lk, mq, ma, mb, ir, sw, io, dl, ha, rd, 37, md, kf, kb, cn, pf, co, ou)) (h37 : cn < nI n) : Iv n (fin_ (mu37 (pc, ac, lk, mq, ma, mb, ir, sw, io, dl, ha, rd, 37, md, kf, kb, cn, pf, co, ou))).2 := by
  obtain ⟨⟨hpc, hac, hmq, hma, hmb, hir, hsw⟩, hlk, ⟨hio, hdl, hha, hrd, hkf, hpf⟩, hsn, hlt, hkb, hcn, hn, hco⟩ := I
  show Iv n (pc, ac, lk, mq, ma, mb, ir, sw, io, dl, ha, rd, 0, (md + 1), kf, kb, (cn + 1), 1, co, (upd ou cn.toNatClampNeg (ac &&& 255)))
  exact Iv_mk ⟨⟨hpc, hac, hmq, hma, hmb, hir, hsw⟩, hlk, ⟨hio, hdl, hha, hrd, hkf, (Or.inr rfl)⟩, Or.inl rfl, (fun q => by rcases q with q | q | q | q <;> exact absurd q (by decide)), hkb, (cn_up hn hcn h37), hn, hco⟩
set_option maxRecDepth 100000 in
theorem iv_40 {n : Nat} {pc ac lk mq ma mb ir sw io dl ha rd md kf kb cn pf : Int32} {co ou : Nat → Int32} (I : Iv n (pc, ac, lk, mq, ma, mb, ir, sw, io, dl, ha, rd, 40, md, kf, kb, cn, pf, co, ou)) : Iv n (fin_ (mu40 (pc, ac, lk, mq, ma, mb, ir, sw, io, dl, ha, rd, 40, md, kf, kb, cn, pf, co, ou))).2 := by
  obtain ⟨⟨hpc, hac, hmq, hma, hmb, hir, hsw⟩, hlk, ⟨hio, hdl, hha, hrd, hkf, hpf⟩, hsn, hlt, hkb, hcn, hn, hco⟩ := I
  show Iv n (pc, ac, lk, mq, 0, pc, ir, sw, 0, dl, ha, rd, 41, (md + 1), kf, kb, cn, pf, co, ou)
  exact Iv_mk ⟨⟨hpc, hac, hmq, wo_0, hpc, hir, hsw⟩, hlk, ⟨(Or.inl rfl), hdl, hha, hrd, hkf, hpf⟩, Or.inr (Or.inr (Or.inr (Or.inr (Or.inr (Or.inr (Or.inr (Or.inr (Or.inr (Or.inr (Or.inr (Or.inr (Or.inr (Or.inr (Or.inr (Or.inr (Or.inr (Or.inr (Or.inr (Or.inr (Or.inr (Or.inr (Or.inr (Or.inr (Or.inr (Or.inr (Or.inr (Or.inr (Or.inr (Or.inr (Or.inr (Or.inr (Or.inr (Or.inr (Or.inr (rfl))))))))))))))))))))))))))))))))))), (fun q => by rcases q with q | q | q | q <;> exact absurd q (by decide)), hkb, hcn, hn, hco⟩
set_option maxRecDepth 100000 in
theorem iv_41 {n : Nat} {pc ac lk mq ma mb ir sw io dl ha rd md kf kb cn pf : Int32} {co ou : Nat → Int32} (I : Iv n (pc, ac, lk, mq, ma, mb, ir, sw, io, dl, ha, rd, 41, md, kf, kb, cn, pf, co, ou)) : Iv n (fin_ (mu41 (pc, ac, lk, mq, ma, mb, ir, sw, io, dl, ha, rd, 41, md, kf, kb, cn, pf, co, ou))).2 := by
  obtain ⟨⟨hpc, hac, hmq, hma, hmb, hir, hsw⟩, hlk, ⟨hio, hdl, hha, hrd, hkf, hpf⟩, hsn, hlt, hkb, hcn, hn, hco⟩ := I
  show Iv n (((ma + 1) &&& 4095), ac, lk, mq, ma, mb, ir, sw, io, dl, ha, rd, 0, (md + 1), kf, kb, cn, pf, (upd co (ma &&& 4095).toNatClampNeg (mb &&& 4095)), ou)
  exact Iv_mk ⟨⟨(an_an _), hac, hmq, hma, hmb, hir, hsw⟩, hlk, ⟨hio, hdl, hha, hrd, hkf, hpf⟩, Or.inl rfl, (fun q => by rcases q with q | q | q | q <;> exact absurd q (by decide)), hkb, hcn, hn, (wo_up hco _ (an_an _))⟩
end
section
def rk (x : Int32) : Nat := if x = 0 then 8 else if x = 1 then 7 else if x = 2 then 6 else if x = 3 then 5 else if x = 4 then 4 else if x = 5 then 3 else if x = 8 then 2 else if x = 9 then 2 else if x = 10 then 2 else if x = 11 then 2 else if x = 12 then 2 else if x = 13 then 1 else if x = 15 then 1 else if x = 16 then 1 else if x = 17 then 1 else if x = 18 then 1 else if x = 19 then 1 else if x = 20 then 6 else if x = 21 then 5 else if x = 22 then 4 else if x = 23 then 3 else if x = 24 then 2 else if x = 25 then 1 else if x = 26 then 3 else if x = 27 then 2 else if x = 28 then 1 else if x = 30 then 2 else if x = 31 then 1 else if x = 32 then 3 else if x = 33 then 1 else if x = 34 then 2 else if x = 35 then 1 else if x = 36 then 2 else if x = 37 then 1 else if x = 40 then 2 else if x = 41 then 1 else 0
theorem rk_0_ {n : Nat} {pc ac lk mq ma mb ir sw io dl ha rd md kf kb cn pf : Int32} {co ou : Nat → Int32} (I : Iv n (pc, ac, lk, mq, ma, mb, ir, sw, io, dl, ha, rd, 0, md, kf, kb, cn, pf, co, ou)) : (mu0 (pc, ac, lk, mq, ma, mb, ir, sw, io, dl, ha, rd, 0, md, kf, kb, cn, pf, co, ou)).1 = 0 ∨ rk (mu0 (pc, ac, lk, mq, ma, mb, ir, sw, io, dl, ha, rd, 0, md, kf, kb, cn, pf, co, ou)).1 < rk 0 := by
  show (if io = 0 ∨ ¬ dl = 0 ∨ (kf = 0 ∧ pf = 0) then _ else _ : Int32 × St).1 = 0 ∨ rk (if io = 0 ∨ ¬ dl = 0 ∨ (kf = 0 ∧ pf = 0) then _ else _ : Int32 × St).1 < _
  split
  · exact Or.inr (show rk 1 < rk 0 by decide)
  · exact Or.inr (show rk 40 < rk 0 by decide)
theorem rk_1_ {n : Nat} {pc ac lk mq ma mb ir sw io dl ha rd md kf kb cn pf : Int32} {co ou : Nat → Int32} (I : Iv n (pc, ac, lk, mq, ma, mb, ir, sw, io, dl, ha, rd, 1, md, kf, kb, cn, pf, co, ou)) : (mu1 (pc, ac, lk, mq, ma, mb, ir, sw, io, dl, ha, rd, 1, md, kf, kb, cn, pf, co, ou)).1 = 0 ∨ rk (mu1 (pc, ac, lk, mq, ma, mb, ir, sw, io, dl, ha, rd, 1, md, kf, kb, cn, pf, co, ou)).1 < rk 1 := by
  show (if (co (ma &&& 4095).toNatClampNeg) < 3584 then (if (co (ma &&& 4095).toNatClampNeg) < 3072 then 2 else 32) else 20 : Int32) = 0 ∨ rk (if (co (ma &&& 4095).toNatClampNeg) < 3584 then (if (co (ma &&& 4095).toNatClampNeg) < 3072 then 2 else 32) else 20) < _
  repeat' split
  all_goals first | exact Or.inl rfl | exact Or.inr (by decide)
theorem rk_2_ {n : Nat} {pc ac lk mq ma mb ir sw io dl ha rd md kf kb cn pf : Int32} {co ou : Nat → Int32} (I : Iv n (pc, ac, lk, mq, ma, mb, ir, sw, io, dl, ha, rd, 2, md, kf, kb, cn, pf, co, ou)) : (mu2 (pc, ac, lk, mq, ma, mb, ir, sw, io, dl, ha, rd, 2, md, kf, kb, cn, pf, co, ou)).1 = 0 ∨ rk (mu2 (pc, ac, lk, mq, ma, mb, ir, sw, io, dl, ha, rd, 2, md, kf, kb, cn, pf, co, ou)).1 < rk 2 := by
  obtain ⟨⟨-, -, -, -, -, hir, -⟩, -, -, -, hlt, -⟩ := id I
  obtain ⟨z, hz, ez⟩ := di_8 hir (hlt (by decide))
  show ((if ir &&& 256 = 0 then 8 + ir / 512 else 3) : Int32) = 0 ∨ rk ((if ir &&& 256 = 0 then 8 + ir / 512 else 3)) < _
  split
  · rw [ez]; rcases hz with rfl | rfl | rfl | rfl | rfl | rfl <;> exact Or.inr (by decide)
  · exact Or.inr (by decide)
theorem rk_3_ {n : Nat} {pc ac lk mq ma mb ir sw io dl ha rd md kf kb cn pf : Int32} {co ou : Nat → Int32} (I : Iv n (pc, ac, lk, mq, ma, mb, ir, sw, io, dl, ha, rd, 3, md, kf, kb, cn, pf, co, ou)) : (mu3 (pc, ac, lk, mq, ma, mb, ir, sw, io, dl, ha, rd, 3, md, kf, kb, cn, pf, co, ou)).1 = 0 ∨ rk (mu3 (pc, ac, lk, mq, ma, mb, ir, sw, io, dl, ha, rd, 3, md, kf, kb, cn, pf, co, ou)).1 < rk 3 := by
  show (if ma < 8 ∨ 15 < ma then 5 else 4 : Int32) = 0 ∨ rk (if ma < 8 ∨ 15 < ma then 5 else 4) < _
  repeat' split
  all_goals first | exact Or.inl rfl | exact Or.inr (by decide)
theorem rk_4_ {n : Nat} {pc ac lk mq ma mb ir sw io dl ha rd md kf kb cn pf : Int32} {co ou : Nat → Int32} (I : Iv n (pc, ac, lk, mq, ma, mb, ir, sw, io, dl, ha, rd, 4, md, kf, kb, cn, pf, co, ou)) : (mu4 (pc, ac, lk, mq, ma, mb, ir, sw, io, dl, ha, rd, 4, md, kf, kb, cn, pf, co, ou)).1 = 0 ∨ rk (mu4 (pc, ac, lk, mq, ma, mb, ir, sw, io, dl, ha, rd, 4, md, kf, kb, cn, pf, co, ou)).1 < rk 4 := by
  exact Or.inr (show rk 5 < rk 4 by decide)
theorem rk_5_ {n : Nat} {pc ac lk mq ma mb ir sw io dl ha rd md kf kb cn pf : Int32} {co ou : Nat → Int32} (I : Iv n (pc, ac, lk, mq, ma, mb, ir, sw, io, dl, ha, rd, 5, md, kf, kb, cn, pf, co, ou)) : (mu5 (pc, ac, lk, mq, ma, mb, ir, sw, io, dl, ha, rd, 5, md, kf, kb, cn, pf, co, ou)).1 = 0 ∨ rk (mu5 (pc, ac, lk, mq, ma, mb, ir, sw, io, dl, ha, rd, 5, md, kf, kb, cn, pf, co, ou)).1 < rk 5 := by
  obtain ⟨⟨-, -, -, -, -, hir, -⟩, -, -, -, hlt, -⟩ := id I
  obtain ⟨z, hz, ez⟩ := di_8 hir (hlt (by decide))
  show (8 + ir / 512 : Int32) = 0 ∨ rk (8 + ir / 512) < _
  rw [ez]; rcases hz with rfl | rfl | rfl | rfl | rfl | rfl <;> exact Or.inr (by decide)
theorem rk_8_ {n : Nat} {pc ac lk mq ma mb ir sw io dl ha rd md kf kb cn pf : Int32} {co ou : Nat → Int32} (I : Iv n (pc, ac, lk, mq, ma, mb, ir, sw, io, dl, ha, rd, 8, md, kf, kb, cn, pf, co, ou)) : (mu8 (pc, ac, lk, mq, ma, mb, ir, sw, io, dl, ha, rd, 8, md, kf, kb, cn, pf, co, ou)).1 = 0 ∨ rk (mu8 (pc, ac, lk, mq, ma, mb, ir, sw, io, dl, ha, rd, 8, md, kf, kb, cn, pf, co, ou)).1 < rk 8 := by
  exact Or.inr (show rk 16 < rk 8 by decide)
theorem rk_9_ {n : Nat} {pc ac lk mq ma mb ir sw io dl ha rd md kf kb cn pf : Int32} {co ou : Nat → Int32} (I : Iv n (pc, ac, lk, mq, ma, mb, ir, sw, io, dl, ha, rd, 9, md, kf, kb, cn, pf, co, ou)) : (mu9 (pc, ac, lk, mq, ma, mb, ir, sw, io, dl, ha, rd, 9, md, kf, kb, cn, pf, co, ou)).1 = 0 ∨ rk (mu9 (pc, ac, lk, mq, ma, mb, ir, sw, io, dl, ha, rd, 9, md, kf, kb, cn, pf, co, ou)).1 < rk 9 := by
  exact Or.inr (show rk 17 < rk 9 by decide)
theorem rk_10_ {n : Nat} {pc ac lk mq ma mb ir sw io dl ha rd md kf kb cn pf : Int32} {co ou : Nat → Int32} (I : Iv n (pc, ac, lk, mq, ma, mb, ir, sw, io, dl, ha, rd, 10, md, kf, kb, cn, pf, co, ou)) : (mu10 (pc, ac, lk, mq, ma, mb, ir, sw, io, dl, ha, rd, 10, md, kf, kb, cn, pf, co, ou)).1 = 0 ∨ rk (mu10 (pc, ac, lk, mq, ma, mb, ir, sw, io, dl, ha, rd, 10, md, kf, kb, cn, pf, co, ou)).1 < rk 10 := by
  exact Or.inr (show rk 18 < rk 10 by decide)
theorem rk_11_ {n : Nat} {pc ac lk mq ma mb ir sw io dl ha rd md kf kb cn pf : Int32} {co ou : Nat → Int32} (I : Iv n (pc, ac, lk, mq, ma, mb, ir, sw, io, dl, ha, rd, 11, md, kf, kb, cn, pf, co, ou)) : (mu11 (pc, ac, lk, mq, ma, mb, ir, sw, io, dl, ha, rd, 11, md, kf, kb, cn, pf, co, ou)).1 = 0 ∨ rk (mu11 (pc, ac, lk, mq, ma, mb, ir, sw, io, dl, ha, rd, 11, md, kf, kb, cn, pf, co, ou)).1 < rk 11 := by
  exact Or.inr (show rk 19 < rk 11 by decide)
theorem rk_12_ {n : Nat} {pc ac lk mq ma mb ir sw io dl ha rd md kf kb cn pf : Int32} {co ou : Nat → Int32} (I : Iv n (pc, ac, lk, mq, ma, mb, ir, sw, io, dl, ha, rd, 12, md, kf, kb, cn, pf, co, ou)) : (mu12 (pc, ac, lk, mq, ma, mb, ir, sw, io, dl, ha, rd, 12, md, kf, kb, cn, pf, co, ou)).1 = 0 ∨ rk (mu12 (pc, ac, lk, mq, ma, mb, ir, sw, io, dl, ha, rd, 12, md, kf, kb, cn, pf, co, ou)).1 < rk 12 := by
  exact Or.inr (show rk 15 < rk 12 by decide)
theorem rk_13_ {n : Nat} {pc ac lk mq ma mb ir sw io dl ha rd md kf kb cn pf : Int32} {co ou : Nat → Int32} (I : Iv n (pc, ac, lk, mq, ma, mb, ir, sw, io, dl, ha, rd, 13, md, kf, kb, cn, pf, co, ou)) : (mu13 (pc, ac, lk, mq, ma, mb, ir, sw, io, dl, ha, rd, 13, md, kf, kb, cn, pf, co, ou)).1 = 0 ∨ rk (mu13 (pc, ac, lk, mq, ma, mb, ir, sw, io, dl, ha, rd, 13, md, kf, kb, cn, pf, co, ou)).1 < rk 13 := by
  exact Or.inl rfl
theorem rk_15_ {n : Nat} {pc ac lk mq ma mb ir sw io dl ha rd md kf kb cn pf : Int32} {co ou : Nat → Int32} (I : Iv n (pc, ac, lk, mq, ma, mb, ir, sw, io, dl, ha, rd, 15, md, kf, kb, cn, pf, co, ou)) : (mu15 (pc, ac, lk, mq, ma, mb, ir, sw, io, dl, ha, rd, 15, md, kf, kb, cn, pf, co, ou)).1 = 0 ∨ rk (mu15 (pc, ac, lk, mq, ma, mb, ir, sw, io, dl, ha, rd, 15, md, kf, kb, cn, pf, co, ou)).1 < rk 15 := by
  exact Or.inl rfl
theorem rk_16_ {n : Nat} {pc ac lk mq ma mb ir sw io dl ha rd md kf kb cn pf : Int32} {co ou : Nat → Int32} (I : Iv n (pc, ac, lk, mq, ma, mb, ir, sw, io, dl, ha, rd, 16, md, kf, kb, cn, pf, co, ou)) : (mu16 (pc, ac, lk, mq, ma, mb, ir, sw, io, dl, ha, rd, 16, md, kf, kb, cn, pf, co, ou)).1 = 0 ∨ rk (mu16 (pc, ac, lk, mq, ma, mb, ir, sw, io, dl, ha, rd, 16, md, kf, kb, cn, pf, co, ou)).1 < rk 16 := by
  exact Or.inl rfl
theorem rk_17_ {n : Nat} {pc ac lk mq ma mb ir sw io dl ha rd md kf kb cn pf : Int32} {co ou : Nat → Int32} (I : Iv n (pc, ac, lk, mq, ma, mb, ir, sw, io, dl, ha, rd, 17, md, kf, kb, cn, pf, co, ou)) : (mu17 (pc, ac, lk, mq, ma, mb, ir, sw, io, dl, ha, rd, 17, md, kf, kb, cn, pf, co, ou)).1 = 0 ∨ rk (mu17 (pc, ac, lk, mq, ma, mb, ir, sw, io, dl, ha, rd, 17, md, kf, kb, cn, pf, co, ou)).1 < rk 17 := by
  exact Or.inl rfl
theorem rk_18_ {n : Nat} {pc ac lk mq ma mb ir sw io dl ha rd md kf kb cn pf : Int32} {co ou : Nat → Int32} (I : Iv n (pc, ac, lk, mq, ma, mb, ir, sw, io, dl, ha, rd, 18, md, kf, kb, cn, pf, co, ou)) : (mu18 (pc, ac, lk, mq, ma, mb, ir, sw, io, dl, ha, rd, 18, md, kf, kb, cn, pf, co, ou)).1 = 0 ∨ rk (mu18 (pc, ac, lk, mq, ma, mb, ir, sw, io, dl, ha, rd, 18, md, kf, kb, cn, pf, co, ou)).1 < rk 18 := by
  exact Or.inl rfl
theorem rk_19_ {n : Nat} {pc ac lk mq ma mb ir sw io dl ha rd md kf kb cn pf : Int32} {co ou : Nat → Int32} (I : Iv n (pc, ac, lk, mq, ma, mb, ir, sw, io, dl, ha, rd, 19, md, kf, kb, cn, pf, co, ou)) : (mu19 (pc, ac, lk, mq, ma, mb, ir, sw, io, dl, ha, rd, 19, md, kf, kb, cn, pf, co, ou)).1 = 0 ∨ rk (mu19 (pc, ac, lk, mq, ma, mb, ir, sw, io, dl, ha, rd, 19, md, kf, kb, cn, pf, co, ou)).1 < rk 19 := by
  exact Or.inl rfl
theorem rk_20_ {n : Nat} {pc ac lk mq ma mb ir sw io dl ha rd md kf kb cn pf : Int32} {co ou : Nat → Int32} (I : Iv n (pc, ac, lk, mq, ma, mb, ir, sw, io, dl, ha, rd, 20, md, kf, kb, cn, pf, co, ou)) : (mu20 (pc, ac, lk, mq, ma, mb, ir, sw, io, dl, ha, rd, 20, md, kf, kb, cn, pf, co, ou)).1 = 0 ∨ rk (mu20 (pc, ac, lk, mq, ma, mb, ir, sw, io, dl, ha, rd, 20, md, kf, kb, cn, pf, co, ou)).1 < rk 20 := by
  show ((if ir &&& 256 = 0 then 21 else (if ir &&& 1 = 0 then 26 else 30)) : Int32) = 0 ∨ rk ((if ir &&& 256 = 0 then 21 else (if ir &&& 1 = 0 then 26 else 30))) < _
  repeat' split
  all_goals first | exact Or.inl rfl | exact Or.inr (by decide)
theorem rk_21_ {n : Nat} {pc ac lk mq ma mb ir sw io dl ha rd md kf kb cn pf : Int32} {co ou : Nat → Int32} (I : Iv n (pc, ac, lk, mq, ma, mb, ir, sw, io, dl, ha, rd, 21, md, kf, kb, cn, pf, co, ou)) : (mu21 (pc, ac, lk, mq, ma, mb, ir, sw, io, dl, ha, rd, 21, md, kf, kb, cn, pf, co, ou)).1 = 0 ∨ rk (mu21 (pc, ac, lk, mq, ma, mb, ir, sw, io, dl, ha, rd, 21, md, kf, kb, cn, pf, co, ou)).1 < rk 21 := by
  exact Or.inr (show rk 22 < rk 21 by decide)
theorem rk_22_ {n : Nat} {pc ac lk mq ma mb ir sw io dl ha rd md kf kb cn pf : Int32} {co ou : Nat → Int32} (I : Iv n (pc, ac, lk, mq, ma, mb, ir, sw, io, dl, ha, rd, 22, md, kf, kb, cn, pf, co, ou)) : (mu22 (pc, ac, lk, mq, ma, mb, ir, sw, io, dl, ha, rd, 22, md, kf, kb, cn, pf, co, ou)).1 = 0 ∨ rk (mu22 (pc, ac, lk, mq, ma, mb, ir, sw, io, dl, ha, rd, 22, md, kf, kb, cn, pf, co, ou)).1 < rk 22 := by
  exact Or.inr (show rk 23 < rk 22 by decide)
theorem rk_23_ {n : Nat} {pc ac lk mq ma mb ir sw io dl ha rd md kf kb cn pf : Int32} {co ou : Nat → Int32} (I : Iv n (pc, ac, lk, mq, ma, mb, ir, sw, io, dl, ha, rd, 23, md, kf, kb, cn, pf, co, ou)) : (mu23 (pc, ac, lk, mq, ma, mb, ir, sw, io, dl, ha, rd, 23, md, kf, kb, cn, pf, co, ou)).1 = 0 ∨ rk (mu23 (pc, ac, lk, mq, ma, mb, ir, sw, io, dl, ha, rd, 23, md, kf, kb, cn, pf, co, ou)).1 < rk 23 := by
  show ((if ir &&& 12 = 0 then 0 else 24) : Int32) = 0 ∨ rk ((if ir &&& 12 = 0 then 0 else 24)) < _
  repeat' split
  all_goals first | exact Or.inl rfl | exact Or.inr (by decide)
theorem rk_24_ {n : Nat} {pc ac lk mq ma mb ir sw io dl ha rd md kf kb cn pf : Int32} {co ou : Nat → Int32} (I : Iv n (pc, ac, lk, mq, ma, mb, ir, sw, io, dl, ha, rd, 24, md, kf, kb, cn, pf, co, ou)) : (mu24 (pc, ac, lk, mq, ma, mb, ir, sw, io, dl, ha, rd, 24, md, kf, kb, cn, pf, co, ou)).1 = 0 ∨ rk (mu24 (pc, ac, lk, mq, ma, mb, ir, sw, io, dl, ha, rd, 24, md, kf, kb, cn, pf, co, ou)).1 < rk 24 := by
  show ((if ir &&& 2 = 0 then 0 else 25) : Int32) = 0 ∨ rk ((if ir &&& 2 = 0 then 0 else 25)) < _
  repeat' split
  all_goals first | exact Or.inl rfl | exact Or.inr (by decide)
theorem rk_25_ {n : Nat} {pc ac lk mq ma mb ir sw io dl ha rd md kf kb cn pf : Int32} {co ou : Nat → Int32} (I : Iv n (pc, ac, lk, mq, ma, mb, ir, sw, io, dl, ha, rd, 25, md, kf, kb, cn, pf, co, ou)) : (mu25 (pc, ac, lk, mq, ma, mb, ir, sw, io, dl, ha, rd, 25, md, kf, kb, cn, pf, co, ou)).1 = 0 ∨ rk (mu25 (pc, ac, lk, mq, ma, mb, ir, sw, io, dl, ha, rd, 25, md, kf, kb, cn, pf, co, ou)).1 < rk 25 := by
  exact Or.inl rfl
theorem rk_26_ {n : Nat} {pc ac lk mq ma mb ir sw io dl ha rd md kf kb cn pf : Int32} {co ou : Nat → Int32} (I : Iv n (pc, ac, lk, mq, ma, mb, ir, sw, io, dl, ha, rd, 26, md, kf, kb, cn, pf, co, ou)) : (mu26 (pc, ac, lk, mq, ma, mb, ir, sw, io, dl, ha, rd, 26, md, kf, kb, cn, pf, co, ou)).1 = 0 ∨ rk (mu26 (pc, ac, lk, mq, ma, mb, ir, sw, io, dl, ha, rd, 26, md, kf, kb, cn, pf, co, ou)).1 < rk 26 := by
  exact Or.inr (show rk 27 < rk 26 by decide)
theorem rk_27_ {n : Nat} {pc ac lk mq ma mb ir sw io dl ha rd md kf kb cn pf : Int32} {co ou : Nat → Int32} (I : Iv n (pc, ac, lk, mq, ma, mb, ir, sw, io, dl, ha, rd, 27, md, kf, kb, cn, pf, co, ou)) : (mu27 (pc, ac, lk, mq, ma, mb, ir, sw, io, dl, ha, rd, 27, md, kf, kb, cn, pf, co, ou)).1 = 0 ∨ rk (mu27 (pc, ac, lk, mq, ma, mb, ir, sw, io, dl, ha, rd, 27, md, kf, kb, cn, pf, co, ou)).1 < rk 27 := by
  show ((if ir &&& 6 = 0 then 0 else 28) : Int32) = 0 ∨ rk ((if ir &&& 6 = 0 then 0 else 28)) < _
  repeat' split
  all_goals first | exact Or.inl rfl | exact Or.inr (by decide)
theorem rk_28_ {n : Nat} {pc ac lk mq ma mb ir sw io dl ha rd md kf kb cn pf : Int32} {co ou : Nat → Int32} (I : Iv n (pc, ac, lk, mq, ma, mb, ir, sw, io, dl, ha, rd, 28, md, kf, kb, cn, pf, co, ou)) : (mu28 (pc, ac, lk, mq, ma, mb, ir, sw, io, dl, ha, rd, 28, md, kf, kb, cn, pf, co, ou)).1 = 0 ∨ rk (mu28 (pc, ac, lk, mq, ma, mb, ir, sw, io, dl, ha, rd, 28, md, kf, kb, cn, pf, co, ou)).1 < rk 28 := by
  exact Or.inl rfl
theorem rk_30_ {n : Nat} {pc ac lk mq ma mb ir sw io dl ha rd md kf kb cn pf : Int32} {co ou : Nat → Int32} (I : Iv n (pc, ac, lk, mq, ma, mb, ir, sw, io, dl, ha, rd, 30, md, kf, kb, cn, pf, co, ou)) : (mu30 (pc, ac, lk, mq, ma, mb, ir, sw, io, dl, ha, rd, 30, md, kf, kb, cn, pf, co, ou)).1 = 0 ∨ rk (mu30 (pc, ac, lk, mq, ma, mb, ir, sw, io, dl, ha, rd, 30, md, kf, kb, cn, pf, co, ou)).1 < rk 30 := by
  exact Or.inr (show rk 31 < rk 30 by decide)
theorem rk_31_ {n : Nat} {pc ac lk mq ma mb ir sw io dl ha rd md kf kb cn pf : Int32} {co ou : Nat → Int32} (I : Iv n (pc, ac, lk, mq, ma, mb, ir, sw, io, dl, ha, rd, 31, md, kf, kb, cn, pf, co, ou)) : (mu31 (pc, ac, lk, mq, ma, mb, ir, sw, io, dl, ha, rd, 31, md, kf, kb, cn, pf, co, ou)).1 = 0 ∨ rk (mu31 (pc, ac, lk, mq, ma, mb, ir, sw, io, dl, ha, rd, 31, md, kf, kb, cn, pf, co, ou)).1 < rk 31 := by
  exact Or.inl rfl
theorem rk_32_ {n : Nat} {pc ac lk mq ma mb ir sw io dl ha rd md kf kb cn pf : Int32} {co ou : Nat → Int32} (I : Iv n (pc, ac, lk, mq, ma, mb, ir, sw, io, dl, ha, rd, 32, md, kf, kb, cn, pf, co, ou)) : (mu32 (pc, ac, lk, mq, ma, mb, ir, sw, io, dl, ha, rd, 32, md, kf, kb, cn, pf, co, ou)).1 = 0 ∨ rk (mu32 (pc, ac, lk, mq, ma, mb, ir, sw, io, dl, ha, rd, 32, md, kf, kb, cn, pf, co, ou)).1 < rk 32 := by
  show (if (ir / 8) &&& 63 = 0 then 33 else if (ir / 8) &&& 63 = 3 then 34 else if (ir / 8) &&& 63 = 4 then 36 else 0 : Int32) = 0 ∨ rk (if (ir / 8) &&& 63 = 0 then 33 else if (ir / 8) &&& 63 = 3 then 34 else if (ir / 8) &&& 63 = 4 then 36 else 0) < _
  repeat' split
  all_goals first | exact Or.inl rfl | exact Or.inr (by decide)
theorem rk_33_ {n : Nat} {pc ac lk mq ma mb ir sw io dl ha rd md kf kb cn pf : Int32} {co ou : Nat → Int32} (I : Iv n (pc, ac, lk, mq, ma, mb, ir, sw, io, dl, ha, rd, 33, md, kf, kb, cn, pf, co, ou)) : (mu33 (pc, ac, lk, mq, ma, mb, ir, sw, io, dl, ha, rd, 33, md, kf, kb, cn, pf, co, ou)).1 = 0 ∨ rk (mu33 (pc, ac, lk, mq, ma, mb, ir, sw, io, dl, ha, rd, 33, md, kf, kb, cn, pf, co, ou)).1 < rk 33 := by
  exact Or.inl rfl
theorem rk_34_ {n : Nat} {pc ac lk mq ma mb ir sw io dl ha rd md kf kb cn pf : Int32} {co ou : Nat → Int32} (I : Iv n (pc, ac, lk, mq, ma, mb, ir, sw, io, dl, ha, rd, 34, md, kf, kb, cn, pf, co, ou)) : (mu34 (pc, ac, lk, mq, ma, mb, ir, sw, io, dl, ha, rd, 34, md, kf, kb, cn, pf, co, ou)).1 = 0 ∨ rk (mu34 (pc, ac, lk, mq, ma, mb, ir, sw, io, dl, ha, rd, 34, md, kf, kb, cn, pf, co, ou)).1 < rk 34 := by
  show ((if ir &&& 4 = 0 then 0 else 35) : Int32) = 0 ∨ rk ((if ir &&& 4 = 0 then 0 else 35)) < _
  repeat' split
  all_goals first | exact Or.inl rfl | exact Or.inr (by decide)
theorem rk_35_ {n : Nat} {pc ac lk mq ma mb ir sw io dl ha rd md kf kb cn pf : Int32} {co ou : Nat → Int32} (I : Iv n (pc, ac, lk, mq, ma, mb, ir, sw, io, dl, ha, rd, 35, md, kf, kb, cn, pf, co, ou)) : (mu35 (pc, ac, lk, mq, ma, mb, ir, sw, io, dl, ha, rd, 35, md, kf, kb, cn, pf, co, ou)).1 = 0 ∨ rk (mu35 (pc, ac, lk, mq, ma, mb, ir, sw, io, dl, ha, rd, 35, md, kf, kb, cn, pf, co, ou)).1 < rk 35 := by
  exact Or.inl rfl
theorem rk_36_ {n : Nat} {pc ac lk mq ma mb ir sw io dl ha rd md kf kb cn pf : Int32} {co ou : Nat → Int32} (I : Iv n (pc, ac, lk, mq, ma, mb, ir, sw, io, dl, ha, rd, 36, md, kf, kb, cn, pf, co, ou)) : (mu36 (pc, ac, lk, mq, ma, mb, ir, sw, io, dl, ha, rd, 36, md, kf, kb, cn, pf, co, ou)).1 = 0 ∨ rk (mu36 (pc, ac, lk, mq, ma, mb, ir, sw, io, dl, ha, rd, 36, md, kf, kb, cn, pf, co, ou)).1 < rk 36 := by
  show ((if ir &&& 4 = 0 then 0 else 37) : Int32) = 0 ∨ rk ((if ir &&& 4 = 0 then 0 else 37)) < _
  repeat' split
  all_goals first | exact Or.inl rfl | exact Or.inr (by decide)
theorem rk_37_ {n : Nat} {pc ac lk mq ma mb ir sw io dl ha rd md kf kb cn pf : Int32} {co ou : Nat → Int32} (I : Iv n (pc, ac, lk, mq, ma, mb, ir, sw, io, dl, ha, rd, 37, md, kf, kb, cn, pf, co, ou)) : (mu37 (pc, ac, lk, mq, ma, mb, ir, sw, io, dl, ha, rd, 37, md, kf, kb, cn, pf, co, ou)).1 = 0 ∨ rk (mu37 (pc, ac, lk, mq, ma, mb, ir, sw, io, dl, ha, rd, 37, md, kf, kb, cn, pf, co, ou)).1 < rk 37 := by
  exact Or.inl rfl
theorem rk_40_ {n : Nat} {pc ac lk mq ma mb ir sw io dl ha rd md kf kb cn pf : Int32} {co ou : Nat → Int32} (I : Iv n (pc, ac, lk, mq, ma, mb, ir, sw, io, dl, ha, rd, 40, md, kf, kb, cn, pf, co, ou)) : (mu40 (pc, ac, lk, mq, ma, mb, ir, sw, io, dl, ha, rd, 40, md, kf, kb, cn, pf, co, ou)).1 = 0 ∨ rk (mu40 (pc, ac, lk, mq, ma, mb, ir, sw, io, dl, ha, rd, 40, md, kf, kb, cn, pf, co, ou)).1 < rk 40 := by
  exact Or.inr (show rk 41 < rk 40 by decide)
theorem rk_41_ {n : Nat} {pc ac lk mq ma mb ir sw io dl ha rd md kf kb cn pf : Int32} {co ou : Nat → Int32} (I : Iv n (pc, ac, lk, mq, ma, mb, ir, sw, io, dl, ha, rd, 41, md, kf, kb, cn, pf, co, ou)) : (mu41 (pc, ac, lk, mq, ma, mb, ir, sw, io, dl, ha, rd, 41, md, kf, kb, cn, pf, co, ou)).1 = 0 ∨ rk (mu41 (pc, ac, lk, mq, ma, mb, ir, sw, io, dl, ha, rd, 41, md, kf, kb, cn, pf, co, ou)).1 < rk 41 := by
  exact Or.inl rfl
theorem ms_0 {n : Nat} {pc ac lk mq ma mb ir sw io dl ha rd sn md kf kb cn pf : Int32} {co ou : Nat → Int32} (h : (ms n (pc, ac, lk, mq, ma, mb, ir, sw, io, dl, ha, rd, sn, md, kf, kb, cn, pf, co, ou)).1 = 0) : ¬ rd = 0 ∧ ¬ (sn = 0 ∧ ¬ ha = 0) ∧ ¬ (sn = 37 ∧ ¬ cn < nI n) := by
  refine ⟨fun q => ?_, fun q => ?_, fun q => ?_⟩
  · simp [ms, q] at h
  · by_cases z : rd = 0
    · simp [ms, z] at h
    · simp [ms, z, q] at h
  · by_cases z : rd = 0
    · simp [ms, z] at h
    · by_cases z2 : sn = 0 ∧ ¬ ha = 0
      · simp [ms, z, z2] at h
      · simp [ms, z, q] at h
set_option maxRecDepth 100000 in
theorem iv_ms {n : Nat} {u : St} (I : Iv n u) : Iv n (ms n u).2 := by
  obtain ⟨pc, ac, lk, mq, ma, mb, ir, sw, io, dl, ha, rd, sn, md, kf, kb, cn, pf, co, ou⟩ := u
  by_cases z1 : rd = 0
  · have e : (ms n (pc, ac, lk, mq, ma, mb, ir, sw, io, dl, ha, rd, sn, md, kf, kb, cn, pf, co, ou)).2 = (pc, ac, lk, mq, ma, mb, ir, sw, io, dl, ha, rd, sn, md, kf, kb, cn, pf, co, ou) := by
      show (if rd = 0 then _ else _ : Int32 × St).2 = _
      rw [if_pos z1]
    rw [e]; exact I
  by_cases z2 : sn = 0 ∧ ¬ ha = 0
  · have e : (ms n (pc, ac, lk, mq, ma, mb, ir, sw, io, dl, ha, rd, sn, md, kf, kb, cn, pf, co, ou)).2 = (pc, ac, lk, mq, ma, mb, ir, sw, io, dl, ha, rd, sn, md, kf, kb, cn, pf, co, ou) := by
      show (if rd = 0 then _ else if sn = 0 ∧ ¬ ha = 0 then _ else _ : Int32 × St).2 = _
      rw [if_neg z1, if_pos z2]
    rw [e]; exact I
  by_cases z3 : sn = 37 ∧ ¬ cn < nI n
  · have e : (ms n (pc, ac, lk, mq, ma, mb, ir, sw, io, dl, ha, rd, sn, md, kf, kb, cn, pf, co, ou)).2 = (pc, ac, lk, mq, ma, mb, ir, sw, io, dl, ha, rd, sn, md, kf, kb, cn, pf, co, ou) := by
      show (if rd = 0 then _ else if sn = 0 ∧ ¬ ha = 0 then _ else if sn = 37 ∧ ¬ cn < nI n then _ else _ : Int32 × St).2 = _
      rw [if_neg z1, if_neg z2, if_pos z3]
    rw [e]; exact I
  rw [ms_go z1 z2 z3]
  obtain ⟨-, -, -, hsn, -, -, hcn, hn, -⟩ := id I
  rcases hsn with rfl | rfl | rfl | rfl | rfl | rfl | rfl | rfl | rfl | rfl | rfl | rfl | rfl | rfl | rfl | rfl | rfl | rfl | rfl | rfl | rfl | rfl | rfl | rfl | rfl | rfl | rfl | rfl | rfl | rfl | rfl | rfl | rfl | rfl | rfl | rfl
  · exact iv_0 I
  · exact iv_1 I
  · exact iv_2 I
  · exact iv_3 I
  · exact iv_4 I
  · exact iv_5 I
  · exact iv_8 I
  · exact iv_9 I
  · exact iv_10 I
  · exact iv_11 I
  · exact iv_12 I
  · exact iv_13 I
  · exact iv_15 I
  · exact iv_16 I
  · exact iv_17 I
  · exact iv_18 I
  · exact iv_19 I
  · exact iv_20 I
  · exact iv_21 I
  · exact iv_22 I
  · exact iv_23 I
  · exact iv_24 I
  · exact iv_25 I
  · exact iv_26 I
  · exact iv_27 I
  · exact iv_28 I
  · exact iv_30 I
  · exact iv_31 I
  · exact iv_32 I
  · exact iv_33 I
  · exact iv_34 I
  · exact iv_35 I
  · exact iv_36 I
  · exact iv_37 I (Classical.not_not.mp (fun z => z3 ⟨rfl, z⟩))
  · exact iv_40 I
  · exact iv_41 I
theorem fi_0 {q : Int32 × St} (h : (fin_ q).1 = 0) : ¬ q.1 = 0 := by
  obtain ⟨r, pc, ac, lk, mq, ma, mb, ir, sw, io, dl, ha, rd, sn, md, kf, kb, cn, pf, co, ou⟩ := q
  intro z
  have e : r = 0 := z
  simp [fin_, e] at h
theorem fi_s (q : Int32 × St) : (fin_ q).2.2.2.2.2.2.2.2.2.2.2.2.2.1 = q.1 := rfl
set_option maxRecDepth 100000 in
theorem rk_ms {n : Nat} {u : St} (I : Iv n u) (h : (ms n u).1 = 0) : rk (ms n u).2.2.2.2.2.2.2.2.2.2.2.2.2.1 < rk u.2.2.2.2.2.2.2.2.2.2.2.2.1 := by
  obtain ⟨pc, ac, lk, mq, ma, mb, ir, sw, io, dl, ha, rd, sn, md, kf, kb, cn, pf, co, ou⟩ := u
  obtain ⟨z1, z2, z3⟩ := ms_0 h
  rw [ms_go z1 z2 z3] at h ⊢
  rw [fi_s]
  have h0 := fi_0 h
  obtain ⟨-, -, -, hsn, -, -, hcn, hn, -⟩ := id I
  rcases hsn with rfl | rfl | rfl | rfl | rfl | rfl | rfl | rfl | rfl | rfl | rfl | rfl | rfl | rfl | rfl | rfl | rfl | rfl | rfl | rfl | rfl | rfl | rfl | rfl | rfl | rfl | rfl | rfl | rfl | rfl | rfl | rfl | rfl | rfl | rfl | rfl
  · exact (rk_0_ I).resolve_left h0
  · exact (rk_1_ I).resolve_left h0
  · exact (rk_2_ I).resolve_left h0
  · exact (rk_3_ I).resolve_left h0
  · exact (rk_4_ I).resolve_left h0
  · exact (rk_5_ I).resolve_left h0
  · exact (rk_8_ I).resolve_left h0
  · exact (rk_9_ I).resolve_left h0
  · exact (rk_10_ I).resolve_left h0
  · exact (rk_11_ I).resolve_left h0
  · exact (rk_12_ I).resolve_left h0
  · exact (rk_13_ I).resolve_left h0
  · exact (rk_15_ I).resolve_left h0
  · exact (rk_16_ I).resolve_left h0
  · exact (rk_17_ I).resolve_left h0
  · exact (rk_18_ I).resolve_left h0
  · exact (rk_19_ I).resolve_left h0
  · exact (rk_20_ I).resolve_left h0
  · exact (rk_21_ I).resolve_left h0
  · exact (rk_22_ I).resolve_left h0
  · exact (rk_23_ I).resolve_left h0
  · exact (rk_24_ I).resolve_left h0
  · exact (rk_25_ I).resolve_left h0
  · exact (rk_26_ I).resolve_left h0
  · exact (rk_27_ I).resolve_left h0
  · exact (rk_28_ I).resolve_left h0
  · exact (rk_30_ I).resolve_left h0
  · exact (rk_31_ I).resolve_left h0
  · exact (rk_32_ I).resolve_left h0
  · exact (rk_33_ I).resolve_left h0
  · exact (rk_34_ I).resolve_left h0
  · exact (rk_35_ I).resolve_left h0
  · exact (rk_36_ I).resolve_left h0
  · exact (rk_37_ I).resolve_left h0
  · exact (rk_40_ I).resolve_left h0
  · exact (rk_41_ I).resolve_left h0
theorem rk_pos {n : Nat} {u : St} (I : Iv n u) : ¬ rk u.2.2.2.2.2.2.2.2.2.2.2.2.1 = 0 := by
  obtain ⟨pc, ac, lk, mq, ma, mb, ir, sw, io, dl, ha, rd, sn, md, kf, kb, cn, pf, co, ou⟩ := u
  obtain ⟨-, -, -, hsn, -, -, hcn, hn, -⟩ := id I
  rcases hsn with rfl | rfl | rfl | rfl | rfl | rfl | rfl | rfl | rfl | rfl | rfl | rfl | rfl | rfl | rfl | rfl | rfl | rfl | rfl | rfl | rfl | rfl | rfl | rfl | rfl | rfl | rfl | rfl | rfl | rfl | rfl | rfl | rfl | rfl | rfl | rfl
  · show ¬ rk 0 = 0
    decide
  · show ¬ rk 1 = 0
    decide
  · show ¬ rk 2 = 0
    decide
  · show ¬ rk 3 = 0
    decide
  · show ¬ rk 4 = 0
    decide
  · show ¬ rk 5 = 0
    decide
  · show ¬ rk 8 = 0
    decide
  · show ¬ rk 9 = 0
    decide
  · show ¬ rk 10 = 0
    decide
  · show ¬ rk 11 = 0
    decide
  · show ¬ rk 12 = 0
    decide
  · show ¬ rk 13 = 0
    decide
  · show ¬ rk 15 = 0
    decide
  · show ¬ rk 16 = 0
    decide
  · show ¬ rk 17 = 0
    decide
  · show ¬ rk 18 = 0
    decide
  · show ¬ rk 19 = 0
    decide
  · show ¬ rk 20 = 0
    decide
  · show ¬ rk 21 = 0
    decide
  · show ¬ rk 22 = 0
    decide
  · show ¬ rk 23 = 0
    decide
  · show ¬ rk 24 = 0
    decide
  · show ¬ rk 25 = 0
    decide
  · show ¬ rk 26 = 0
    decide
  · show ¬ rk 27 = 0
    decide
  · show ¬ rk 28 = 0
    decide
  · show ¬ rk 30 = 0
    decide
  · show ¬ rk 31 = 0
    decide
  · show ¬ rk 32 = 0
    decide
  · show ¬ rk 33 = 0
    decide
  · show ¬ rk 34 = 0
    decide
  · show ¬ rk 35 = 0
    decide
  · show ¬ rk 36 = 0
    decide
  · show ¬ rk 37 = 0
    decide
  · show ¬ rk 40 = 0
    decide
  · show ¬ rk 41 = 0
    decide
def sp (n : Nat) : Nat → Int32 × St → Int32 × St
  | 0, q => q
  | k + 1, q => if q.1 = 0 then sp n k (ms n q.2) else q
theorem sp_n {n : Nat} {q : Int32 × St} (h : ¬ q.1 = 0) : ∀ k, sp n k q = q
  | 0 => rfl
  | k + 1 => by rw [sp, if_neg h]
theorem rk_8 (x : Int32) : rk x ≤ 8 := by
  unfold rk
  exact if_p (P := fun z : Nat => z ≤ 8) (by decide) (if_p (P := fun z : Nat => z ≤ 8) (by decide) (if_p (P := fun z : Nat => z ≤ 8) (by decide) (if_p (P := fun z : Nat => z ≤ 8) (by decide) (if_p (P := fun z : Nat => z ≤ 8) (by decide) (if_p (P := fun z : Nat => z ≤ 8) (by decide) (if_p (P := fun z : Nat => z ≤ 8) (by decide) (if_p (P := fun z : Nat => z ≤ 8) (by decide) (if_p (P := fun z : Nat => z ≤ 8) (by decide) (if_p (P := fun z : Nat => z ≤ 8) (by decide) (if_p (P := fun z : Nat => z ≤ 8) (by decide) (if_p (P := fun z : Nat => z ≤ 8) (by decide) (if_p (P := fun z : Nat => z ≤ 8) (by decide) (if_p (P := fun z : Nat => z ≤ 8) (by decide) (if_p (P := fun z : Nat => z ≤ 8) (by decide) (if_p (P := fun z : Nat => z ≤ 8) (by decide) (if_p (P := fun z : Nat => z ≤ 8) (by decide) (if_p (P := fun z : Nat => z ≤ 8) (by decide) (if_p (P := fun z : Nat => z ≤ 8) (by decide) (if_p (P := fun z : Nat => z ≤ 8) (by decide) (if_p (P := fun z : Nat => z ≤ 8) (by decide) (if_p (P := fun z : Nat => z ≤ 8) (by decide) (if_p (P := fun z : Nat => z ≤ 8) (by decide) (if_p (P := fun z : Nat => z ≤ 8) (by decide) (if_p (P := fun z : Nat => z ≤ 8) (by decide) (if_p (P := fun z : Nat => z ≤ 8) (by decide) (if_p (P := fun z : Nat => z ≤ 8) (by decide) (if_p (P := fun z : Nat => z ≤ 8) (by decide) (if_p (P := fun z : Nat => z ≤ 8) (by decide) (if_p (P := fun z : Nat => z ≤ 8) (by decide) (if_p (P := fun z : Nat => z ≤ 8) (by decide) (if_p (P := fun z : Nat => z ≤ 8) (by decide) (if_p (P := fun z : Nat => z ≤ 8) (by decide) (if_p (P := fun z : Nat => z ≤ 8) (by decide) (if_p (P := fun z : Nat => z ≤ 8) (by decide) (if_p (P := fun z : Nat => z ≤ 8) (by decide) (by decide))))))))))))))))))))))))))))))))))))
theorem sp_eq {n : Nat} : ∀ (r : Nat) (u : St), Iv n u → rk u.2.2.2.2.2.2.2.2.2.2.2.2.1 ≤ r + 1 → ∀ k k' : Nat, r ≤ k → r ≤ k' → sp n k (ms n u) = sp n k' (ms n u)
  | r, u, I, hr, k, k', h1, h2 => by
    by_cases z : (ms n u).1 = 0
    · have hlt := rk_ms I z
      match r, k, k', h1, h2, hr with
      | 0, k, k', h1, h2, hr =>
        exfalso
        have : rk (ms n u).2.2.2.2.2.2.2.2.2.2.2.2.2.1 = 0 := by omega
        exact rk_pos (iv_ms I) this
      | r + 1, k + 1, k' + 1, h1, h2, hr =>
        rw [sp, sp, if_pos z, if_pos z]
        exact sp_eq r _ (iv_ms I) (by omega) k k' (by omega) (by omega)
    · rw [sp_n z, sp_n z]

theorem an_255 (x : Int32) : (x &&& 255) &&& 255 = x &&& 255 := by
  rw [Int32.and_assoc]
  rfl
theorem iv_init {n : Nat} {pc ac lk mq ma mb ir sw io dl ha rd sn md kf kb cn pf : Int32} {co ou : Nat → Int32} (I : Iv n (pc, ac, lk, mq, ma, mb, ir, sw, io, dl, ha, rd, sn, md, kf, kb, cn, pf, co, ou)) : Iv n (0, 0, 0, 0, 0, 0, 0, sw, 0, 0, 0, 1, 0, 0, 0, 0, 0, 0, co, ou) := by
  obtain ⟨⟨hpc, hac, hmq, hma, hmb, hir, hsw⟩, hlk, ⟨hio, hdl, hha, hrd, hkf, hpf⟩, hsn, hlt, hkb, hcn, hn, hco⟩ := I
  exact Iv_mk ⟨⟨wo_0, wo_0, wo_0, wo_0, wo_0, wo_0, hsw⟩, (Or.inl rfl), ⟨(Or.inl rfl), (Or.inl rfl), (Or.inl rfl), (Or.inr rfl), (Or.inl rfl), (Or.inl rfl)⟩, Or.inl rfl, (fun q => by rcases q with q | q | q | q <;> exact absurd q (by decide)), (by decide), ⟨0, Nat.zero_le _, rfl⟩, hn, hco⟩
theorem iv_dep {n : Nat} {pc ac lk mq ma mb ir sw io dl ha rd sn md kf kb cn pf : Int32} {co ou : Nat → Int32} (I : Iv n (pc, ac, lk, mq, ma, mb, ir, sw, io, dl, ha, rd, sn, md, kf, kb, cn, pf, co, ou)) (x v : Int32) : Iv n (pc, ac, lk, mq, ma, mb, ir, sw, io, dl, ha, rd, sn, md, kf, kb, cn, pf, (upd co (x &&& 4095).toNatClampNeg (v &&& 4095)), ou) := by
  obtain ⟨⟨hpc, hac, hmq, hma, hmb, hir, hsw⟩, hlk, ⟨hio, hdl, hha, hrd, hkf, hpf⟩, hsn, hlt, hkb, hcn, hn, hco⟩ := I
  exact Iv_mk ⟨⟨hpc, hac, hmq, hma, hmb, hir, hsw⟩, hlk, ⟨hio, hdl, hha, hrd, hkf, hpf⟩, hsn, hlt, hkb, hcn, hn, (wo_up hco _ (an_an _))⟩
theorem iv_start {n : Nat} {pc ac lk mq ma mb ir sw io dl ha rd sn md kf kb cn pf : Int32} {co ou : Nat → Int32} (I : Iv n (pc, ac, lk, mq, ma, mb, ir, sw, io, dl, ha, rd, sn, md, kf, kb, cn, pf, co, ou)) (x : Int32) : Iv n ((x &&& 4095), ac, lk, mq, ma, mb, ir, sw, io, dl, 0, rd, sn, md, kf, kb, cn, pf, co, ou) := by
  obtain ⟨⟨hpc, hac, hmq, hma, hmb, hir, hsw⟩, hlk, ⟨hio, hdl, hha, hrd, hkf, hpf⟩, hsn, hlt, hkb, hcn, hn, hco⟩ := I
  exact Iv_mk ⟨⟨(an_an _), hac, hmq, hma, hmb, hir, hsw⟩, hlk, ⟨hio, hdl, (Or.inl rfl), hrd, hkf, hpf⟩, hsn, hlt, hkb, hcn, hn, hco⟩
theorem iv_sw {n : Nat} {pc ac lk mq ma mb ir sw io dl ha rd sn md kf kb cn pf : Int32} {co ou : Nat → Int32} (I : Iv n (pc, ac, lk, mq, ma, mb, ir, sw, io, dl, ha, rd, sn, md, kf, kb, cn, pf, co, ou)) (x : Int32) : Iv n (pc, ac, lk, mq, ma, mb, ir, (x &&& 4095), io, dl, ha, rd, sn, md, kf, kb, cn, pf, co, ou) := by
  obtain ⟨⟨hpc, hac, hmq, hma, hmb, hir, hsw⟩, hlk, ⟨hio, hdl, hha, hrd, hkf, hpf⟩, hsn, hlt, hkb, hcn, hn, hco⟩ := I
  exact Iv_mk ⟨⟨hpc, hac, hmq, hma, hmb, hir, (an_an _)⟩, hlk, ⟨hio, hdl, hha, hrd, hkf, hpf⟩, hsn, hlt, hkb, hcn, hn, hco⟩
theorem iv_key {n : Nat} {pc ac lk mq ma mb ir sw io dl ha rd sn md kf kb cn pf : Int32} {co ou : Nat → Int32} (I : Iv n (pc, ac, lk, mq, ma, mb, ir, sw, io, dl, ha, rd, sn, md, kf, kb, cn, pf, co, ou)) (x : Int32) : Iv n (pc, ac, lk, mq, ma, mb, ir, sw, io, dl, ha, rd, sn, md, 1, (x &&& 255), cn, pf, co, ou) := by
  obtain ⟨⟨hpc, hac, hmq, hma, hmb, hir, hsw⟩, hlk, ⟨hio, hdl, hha, hrd, hkf, hpf⟩, hsn, hlt, hkb, hcn, hn, hco⟩ := I
  exact Iv_mk ⟨⟨hpc, hac, hmq, hma, hmb, hir, hsw⟩, hlk, ⟨hio, hdl, hha, hrd, (Or.inr rfl), hpf⟩, hsn, hlt, (an_255 _), hcn, hn, hco⟩
theorem iv_load_1 {n : Nat} {pc ac lk mq ma mb ir sw io dl ha rd sn md kf kb cn pf : Int32} {co ou : Nat → Int32} (I : Iv n (pc, ac, lk, mq, ma, mb, ir, sw, io, dl, ha, rd, sn, md, kf, kb, cn, pf, co, ou)) (x : Int32) (w : Int64) : Iv n (pc, ac, lk, mq, ma, mb, ir, sw, io, dl, ha, rd, sn, md, kf, kb, cn, pf, (upd co ((x + 0) &&& 4095).toNatClampNeg ((w.toUInt64 >>> ((12 * ((1 - 1) - 0)).toInt64.toUInt64 &&& Int64.toUInt64 63)).toInt64.toInt32 &&& 4095)), ou) := by
  obtain ⟨⟨hpc, hac, hmq, hma, hmb, hir, hsw⟩, hlk, ⟨hio, hdl, hha, hrd, hkf, hpf⟩, hsn, hlt, hkb, hcn, hn, hco⟩ := I
  exact Iv_mk ⟨⟨hpc, hac, hmq, hma, hmb, hir, hsw⟩, hlk, ⟨hio, hdl, hha, hrd, hkf, hpf⟩, hsn, hlt, hkb, hcn, hn, (wo_up hco _ (an_an _))⟩
theorem iv_load_2 {n : Nat} {pc ac lk mq ma mb ir sw io dl ha rd sn md kf kb cn pf : Int32} {co ou : Nat → Int32} (I : Iv n (pc, ac, lk, mq, ma, mb, ir, sw, io, dl, ha, rd, sn, md, kf, kb, cn, pf, co, ou)) (x : Int32) (w : Int64) : Iv n (pc, ac, lk, mq, ma, mb, ir, sw, io, dl, ha, rd, sn, md, kf, kb, cn, pf, (upd (upd co ((x + 0) &&& 4095).toNatClampNeg ((w.toUInt64 >>> ((12 * ((2 - 1) - 0)).toInt64.toUInt64 &&& Int64.toUInt64 63)).toInt64.toInt32 &&& 4095)) ((x + 1) &&& 4095).toNatClampNeg ((w.toUInt64 >>> ((12 * ((2 - 1) - 1)).toInt64.toUInt64 &&& Int64.toUInt64 63)).toInt64.toInt32 &&& 4095)), ou) := by
  obtain ⟨⟨hpc, hac, hmq, hma, hmb, hir, hsw⟩, hlk, ⟨hio, hdl, hha, hrd, hkf, hpf⟩, hsn, hlt, hkb, hcn, hn, hco⟩ := I
  exact Iv_mk ⟨⟨hpc, hac, hmq, hma, hmb, hir, hsw⟩, hlk, ⟨hio, hdl, hha, hrd, hkf, hpf⟩, hsn, hlt, hkb, hcn, hn, (wo_up (wo_up hco _ (an_an _)) _ (an_an _))⟩
theorem iv_load_3 {n : Nat} {pc ac lk mq ma mb ir sw io dl ha rd sn md kf kb cn pf : Int32} {co ou : Nat → Int32} (I : Iv n (pc, ac, lk, mq, ma, mb, ir, sw, io, dl, ha, rd, sn, md, kf, kb, cn, pf, co, ou)) (x : Int32) (w : Int64) : Iv n (pc, ac, lk, mq, ma, mb, ir, sw, io, dl, ha, rd, sn, md, kf, kb, cn, pf, (upd (upd (upd co ((x + 0) &&& 4095).toNatClampNeg ((w.toUInt64 >>> ((12 * ((3 - 1) - 0)).toInt64.toUInt64 &&& Int64.toUInt64 63)).toInt64.toInt32 &&& 4095)) ((x + 1) &&& 4095).toNatClampNeg ((w.toUInt64 >>> ((12 * ((3 - 1) - 1)).toInt64.toUInt64 &&& Int64.toUInt64 63)).toInt64.toInt32 &&& 4095)) ((x + 2) &&& 4095).toNatClampNeg ((w.toUInt64 >>> ((12 * ((3 - 1) - 2)).toInt64.toUInt64 &&& Int64.toUInt64 63)).toInt64.toInt32 &&& 4095)), ou) := by
  obtain ⟨⟨hpc, hac, hmq, hma, hmb, hir, hsw⟩, hlk, ⟨hio, hdl, hha, hrd, hkf, hpf⟩, hsn, hlt, hkb, hcn, hn, hco⟩ := I
  exact Iv_mk ⟨⟨hpc, hac, hmq, hma, hmb, hir, hsw⟩, hlk, ⟨hio, hdl, hha, hrd, hkf, hpf⟩, hsn, hlt, hkb, hcn, hn, (wo_up (wo_up (wo_up hco _ (an_an _)) _ (an_an _)) _ (an_an _))⟩
theorem iv_load_4 {n : Nat} {pc ac lk mq ma mb ir sw io dl ha rd sn md kf kb cn pf : Int32} {co ou : Nat → Int32} (I : Iv n (pc, ac, lk, mq, ma, mb, ir, sw, io, dl, ha, rd, sn, md, kf, kb, cn, pf, co, ou)) (x : Int32) (w : Int64) : Iv n (pc, ac, lk, mq, ma, mb, ir, sw, io, dl, ha, rd, sn, md, kf, kb, cn, pf, (upd (upd (upd (upd co ((x + 0) &&& 4095).toNatClampNeg ((w.toUInt64 >>> ((12 * ((4 - 1) - 0)).toInt64.toUInt64 &&& Int64.toUInt64 63)).toInt64.toInt32 &&& 4095)) ((x + 1) &&& 4095).toNatClampNeg ((w.toUInt64 >>> ((12 * ((4 - 1) - 1)).toInt64.toUInt64 &&& Int64.toUInt64 63)).toInt64.toInt32 &&& 4095)) ((x + 2) &&& 4095).toNatClampNeg ((w.toUInt64 >>> ((12 * ((4 - 1) - 2)).toInt64.toUInt64 &&& Int64.toUInt64 63)).toInt64.toInt32 &&& 4095)) ((x + 3) &&& 4095).toNatClampNeg ((w.toUInt64 >>> ((12 * ((4 - 1) - 3)).toInt64.toUInt64 &&& Int64.toUInt64 63)).toInt64.toInt32 &&& 4095)), ou) := by
  obtain ⟨⟨hpc, hac, hmq, hma, hmb, hir, hsw⟩, hlk, ⟨hio, hdl, hha, hrd, hkf, hpf⟩, hsn, hlt, hkb, hcn, hn, hco⟩ := I
  exact Iv_mk ⟨⟨hpc, hac, hmq, hma, hmb, hir, hsw⟩, hlk, ⟨hio, hdl, hha, hrd, hkf, hpf⟩, hsn, hlt, hkb, hcn, hn, (wo_up (wo_up (wo_up (wo_up hco _ (an_an _)) _ (an_an _)) _ (an_an _)) _ (an_an _))⟩
theorem iv_load_5 {n : Nat} {pc ac lk mq ma mb ir sw io dl ha rd sn md kf kb cn pf : Int32} {co ou : Nat → Int32} (I : Iv n (pc, ac, lk, mq, ma, mb, ir, sw, io, dl, ha, rd, sn, md, kf, kb, cn, pf, co, ou)) (x : Int32) (w : Int64) : Iv n (pc, ac, lk, mq, ma, mb, ir, sw, io, dl, ha, rd, sn, md, kf, kb, cn, pf, (upd (upd (upd (upd (upd co ((x + 0) &&& 4095).toNatClampNeg ((w.toUInt64 >>> ((12 * ((5 - 1) - 0)).toInt64.toUInt64 &&& Int64.toUInt64 63)).toInt64.toInt32 &&& 4095)) ((x + 1) &&& 4095).toNatClampNeg ((w.toUInt64 >>> ((12 * ((5 - 1) - 1)).toInt64.toUInt64 &&& Int64.toUInt64 63)).toInt64.toInt32 &&& 4095)) ((x + 2) &&& 4095).toNatClampNeg ((w.toUInt64 >>> ((12 * ((5 - 1) - 2)).toInt64.toUInt64 &&& Int64.toUInt64 63)).toInt64.toInt32 &&& 4095)) ((x + 3) &&& 4095).toNatClampNeg ((w.toUInt64 >>> ((12 * ((5 - 1) - 3)).toInt64.toUInt64 &&& Int64.toUInt64 63)).toInt64.toInt32 &&& 4095)) ((x + 4) &&& 4095).toNatClampNeg ((w.toUInt64 >>> ((12 * ((5 - 1) - 4)).toInt64.toUInt64 &&& Int64.toUInt64 63)).toInt64.toInt32 &&& 4095)), ou) := by
  obtain ⟨⟨hpc, hac, hmq, hma, hmb, hir, hsw⟩, hlk, ⟨hio, hdl, hha, hrd, hkf, hpf⟩, hsn, hlt, hkb, hcn, hn, hco⟩ := I
  exact Iv_mk ⟨⟨hpc, hac, hmq, hma, hmb, hir, hsw⟩, hlk, ⟨hio, hdl, hha, hrd, hkf, hpf⟩, hsn, hlt, hkb, hcn, hn, (wo_up (wo_up (wo_up (wo_up (wo_up hco _ (an_an _)) _ (an_an _)) _ (an_an _)) _ (an_an _)) _ (an_an _))⟩
end
section
set_option maxHeartbeats 4000000 in
set_option maxRecDepth 100000 in
theorem c_X_irHas (l : Launch) (D : va_G) (a : AX) (sz : Nat) (pc ac lk mq ma mb ir sw io dl ha rd sn md kf kb cn pf : Int32) (co ou : Nat → Int32) (b : Int32) : MI l D (wx a) (tx a) sz yX_irHas cX_irHas 2 (some .boolean) 0 [.ref a.1, .int b] (pc, ac, lk, mq, ma, mb, ir, sw, io, dl, ha, rd, sn, md, kf, kb, cn, pf, co, ou) (fun r u => (((ir &&& b) = 0) ∧ r = 0 ∧ u = (pc, ac, lk, mq, ma, mb, ir, sw, io, dl, ha, rd, sn, md, kf, kb, cn, pf, co, ou)) ∨ ((¬ (ir &&& b) = 0) ∧ r = 1 ∧ u = (pc, ac, lk, mq, ma, mb, ir, sw, io, dl, ha, rd, sn, md, kf, kb, cn, pf, co, ou))) := by
  refine en_i RX rfl (by decide) (Nat.le_of_ble_eq_true rfl) ?_
  intro p e s m below meth c A ls S hr hk hA hN hK hP hD hS hl
  have hl : lv_has ls 2 [(0, .ref a.1), (1, .int b)] := hl
  refine lv_aload_n S.1 S.2.1 dX_irHas_0 rfl (lv_at hl 0 rfl) ?_
  refine g_X_X_ir S hK hP dX_irHas_1 ?_
  refine lv_iload_n S.1 S.2.1 dX_irHas_4 rfl (lv_at hl 1 rfl) ?_
  refine lv_iand S.1 S.2.1 dX_irHas_5 ?_
  refine lv_if_eq (tgt := 13) S.1 S.2.1 dX_irHas_6 (by decide) (fun g1 => ?_) (fun g1 => ?_)
  · refine lv_iconst (v := 0) S.1 S.2.1 dX_irHas_13 (by decide) ?_
    exact rt_z S hr hk hK hP hD hS rfl (Or.inl (⟨g1, rfl, rfl⟩)) dX_irHas_14
  · refine lv_iconst (v := 1) S.1 S.2.1 dX_irHas_9 (by decide) ?_
    refine lv_goto (tgt := 14) S.1 S.2.1 dX_irHas_10 (by decide) ?_
    exact rt_z S hr hk hK hP hD hS rfl (Or.inr (⟨g1, rfl, rfl⟩)) dX_irHas_14

set_option maxHeartbeats 4000000 in
set_option maxRecDepth 100000 in
theorem c_X_isAddress (l : Launch) (D : va_G) (a : AX) (sz : Nat) (pc ac lk mq ma mb ir sw io dl ha rd sn md kf kb cn pf : Int32) (co ou : Nat → Int32) (x : Int32) : MI l D (wx a) (tx a) sz yX_isAddress cX_isAddress 1 (some .boolean) 0 [.int x] (pc, ac, lk, mq, ma, mb, ir, sw, io, dl, ha, rd, sn, md, kf, kb, cn, pf, co, ou) (fun r u => ((x < 0) ∧ r = 0 ∧ u = (pc, ac, lk, mq, ma, mb, ir, sw, io, dl, ha, rd, sn, md, kf, kb, cn, pf, co, ou)) ∨ ((¬ x < 0) ∧ (4096 ≤ x) ∧ r = 0 ∧ u = (pc, ac, lk, mq, ma, mb, ir, sw, io, dl, ha, rd, sn, md, kf, kb, cn, pf, co, ou)) ∨ ((¬ x < 0) ∧ (¬ 4096 ≤ x) ∧ r = 1 ∧ u = (pc, ac, lk, mq, ma, mb, ir, sw, io, dl, ha, rd, sn, md, kf, kb, cn, pf, co, ou))) := by
  refine en_i RX rfl (by decide) (Nat.le_of_ble_eq_true rfl) ?_
  intro p e s m below meth c A ls S hr hk hA hN hK hP hD hS hl
  have hl : lv_has ls 1 [(0, .int x)] := hl
  refine lv_iload_n S.1 S.2.1 dX_isAddress_0 rfl (lv_at hl 0 rfl) ?_
  refine lv_if_lt (tgt := 15) S.1 S.2.1 dX_isAddress_1 (by decide) (fun g1 => ?_) (fun g1 => ?_)
  · refine lv_iconst (v := 0) S.1 S.2.1 dX_isAddress_15 (by decide) ?_
    exact rt_z S hr hk hK hP hD hS rfl (Or.inl (⟨g1, rfl, rfl⟩)) dX_isAddress_16
  · refine lv_iload_n S.1 S.2.1 dX_isAddress_4 rfl (lv_at hl 0 rfl) ?_
    refine lv_sipush (v := 4096) S.1 S.2.1 dX_isAddress_5 (by decide) ?_
    refine lv_icmp_ge (tgt := 15) S.1 S.2.1 dX_isAddress_8 (by decide) (fun g2 => ?_) (fun g2 => ?_)
    · refine lv_iconst (v := 0) S.1 S.2.1 dX_isAddress_15 (by decide) ?_
      exact rt_z S hr hk hK hP hD hS rfl (Or.inr (Or.inl (⟨g1, g2, rfl, rfl⟩))) dX_isAddress_16
    · refine lv_iconst (v := 1) S.1 S.2.1 dX_isAddress_11 (by decide) ?_
      refine lv_goto (tgt := 16) S.1 S.2.1 dX_isAddress_12 (by decide) ?_
      exact rt_z S hr hk hK hP hD hS rfl (Or.inr (Or.inr (⟨g1, g2, rfl, rfl⟩))) dX_isAddress_16

set_option maxHeartbeats 4000000 in
set_option maxRecDepth 100000 in
theorem c_X_read (l : Launch) (D : va_G) (a : AX) (sz : Nat) (pc ac lk mq ma mb ir sw io dl ha rd sn md kf kb cn pf : Int32) (co ou : Nat → Int32) (x : Int32) : MI l D (wx a) (tx a) sz yX_read cX_read 2 (some .int) 0 [.ref a.1, .int x] (pc, ac, lk, mq, ma, mb, ir, sw, io, dl, ha, rd, sn, md, kf, kb, cn, pf, co, ou) (fun r u => r = (co (x &&& 4095).toNatClampNeg) ∧ u = (pc, ac, lk, mq, ma, mb, ir, sw, io, dl, ha, rd, sn, md, kf, kb, cn, pf, co, ou)) := by
  refine en_i RX rfl (by decide) (Nat.le_of_ble_eq_true rfl) ?_
  intro p e s m below meth c A ls S hr hk hA hN hK hP hD hS hl
  have hl : lv_has ls 2 [(0, .ref a.1), (1, .int x)] := hl
  refine lv_aload_n S.1 S.2.1 dX_read_0 rfl (lv_at hl 0 rfl) ?_
  refine g_X_X_core S hK hP dX_read_1 ?_
  refine lv_iload_n S.1 S.2.1 dX_read_4 rfl (lv_at hl 1 rfl) ?_
  refine lv_sipush (v := 4095) S.1 S.2.1 dX_read_5 (by decide) ?_
  refine lv_iand S.1 S.2.1 dX_read_8 ?_
  refine ld_xco S hK hP (in_4096 _) dX_read_9 ?_
  exact rt_i S hr hk hK hP hD hS (⟨rfl, rfl⟩) dX_read_10

set_option maxHeartbeats 4000000 in
set_option maxRecDepth 100000 in
theorem c_X_write (l : Launch) (D : va_G) (a : AX) (sz : Nat) (pc ac lk mq ma mb ir sw io dl ha rd sn md kf kb cn pf : Int32) (co ou : Nat → Int32) (x v : Int32) : MV l D (wx a) (tx a) sz yX_write cX_write 3 0 [.ref a.1, .int x, .int v] (pc, ac, lk, mq, ma, mb, ir, sw, io, dl, ha, rd, sn, md, kf, kb, cn, pf, co, ou) (fun u => u = (pc, ac, lk, mq, ma, mb, ir, sw, io, dl, ha, rd, sn, md, kf, kb, cn, pf, (upd co (x &&& 4095).toNatClampNeg (v &&& 4095)), ou)) := by
  refine en_v RX rfl (by decide) (Nat.le_of_ble_eq_true rfl) ?_
  intro p e s m below meth c A ls S hr hk hA hN hK hP hD hS hl
  have hl : lv_has ls 3 [(0, .ref a.1), (1, .int x), (2, .int v)] := hl
  refine lv_aload_n S.1 S.2.1 dX_write_0 rfl (lv_at hl 0 rfl) ?_
  refine g_X_X_core S hK hP dX_write_1 ?_
  refine lv_iload_n S.1 S.2.1 dX_write_4 rfl (lv_at hl 1 rfl) ?_
  refine lv_sipush (v := 4095) S.1 S.2.1 dX_write_5 (by decide) ?_
  refine lv_iand S.1 S.2.1 dX_write_8 ?_
  refine lv_iload_n S.1 S.2.1 dX_write_9 rfl (lv_at hl 2 rfl) ?_
  refine lv_sipush (v := 4095) S.1 S.2.1 dX_write_10 (by decide) ?_
  refine lv_iand S.1 S.2.1 dX_write_13 ?_
  refine st_xco S hK hP hD hS (in_4096 _) dX_write_14 (fun H locs hP hD hS => ?_)
  exact rt_v S hr hk hK hP hD hS (rfl) dX_write_15

set_option maxHeartbeats 4000000 in
set_option maxRecDepth 100000 in
theorem c_X_advancePc (l : Launch) (D : va_G) (a : AX) (sz : Nat) (pc ac lk mq ma mb ir sw io dl ha rd sn md kf kb cn pf : Int32) (co ou : Nat → Int32) : MV l D (wx a) (tx a) sz yX_advancePc cX_advancePc 1 0 [.ref a.1] (pc, ac, lk, mq, ma, mb, ir, sw, io, dl, ha, rd, sn, md, kf, kb, cn, pf, co, ou) (fun u => u = (((pc + 1) &&& 4095), ac, lk, mq, ma, mb, ir, sw, io, dl, ha, rd, sn, md, kf, kb, cn, pf, co, ou)) := by
  refine en_v RX rfl (by decide) (Nat.le_of_ble_eq_true rfl) ?_
  intro p e s m below meth c A ls S hr hk hA hN hK hP hD hS hl
  have hl : lv_has ls 1 [(0, .ref a.1)] := hl
  refine lv_aload_n S.1 S.2.1 dX_advancePc_0 rfl (lv_at hl 0 rfl) ?_
  refine lv_aload_n S.1 S.2.1 dX_advancePc_1 rfl (lv_at hl 0 rfl) ?_
  refine g_X_X_pc S hK hP dX_advancePc_2 ?_
  refine lv_iconst (v := 1) S.1 S.2.1 dX_advancePc_5 (by decide) ?_
  refine lv_iadd S.1 S.2.1 dX_advancePc_6 ?_
  refine lv_sipush (v := 4095) S.1 S.2.1 dX_advancePc_7 (by decide) ?_
  refine lv_iand S.1 S.2.1 dX_advancePc_10 ?_
  refine p_X_X_pc S hK hP hD hS dX_advancePc_11 (fun H locs hP hD hS => ?_)
  exact rt_v S hr hk hK hP hD hS (rfl) dX_advancePc_14

set_option maxHeartbeats 4000000 in
set_option maxRecDepth 100000 in
theorem c_X_firstOfInstruction (l : Launch) (D : va_G) (a : AX) (sz : Nat) (pc ac lk mq ma mb ir sw io dl ha rd sn md kf kb cn pf : Int32) (co ou : Nat → Int32) : MI l D (wx a) (tx a) sz yX_firstOfInstruction cX_firstOfInstruction 1 (some .int) 0 [.ref a.1] (pc, ac, lk, mq, ma, mb, ir, sw, io, dl, ha, rd, sn, md, kf, kb, cn, pf, co, ou) (fun r u => r = (8 + (ir / 512)) ∧ u = (pc, ac, lk, mq, ma, mb, ir, sw, io, dl, ha, rd, sn, md, kf, kb, cn, pf, co, ou)) := by
  refine en_i RX rfl (by decide) (Nat.le_of_ble_eq_true rfl) ?_
  intro p e s m below meth c A ls S hr hk hA hN hK hP hD hS hl
  have hl : lv_has ls 1 [(0, .ref a.1)] := hl
  refine lv_bipush (v := 8) S.1 S.2.1 dX_firstOfInstruction_0 (by decide) ?_
  refine lv_aload_n S.1 S.2.1 dX_firstOfInstruction_2 rfl (lv_at hl 0 rfl) ?_
  refine g_X_X_ir S hK hP dX_firstOfInstruction_3 ?_
  refine lv_sipush (v := 512) S.1 S.2.1 dX_firstOfInstruction_6 (by decide) ?_
  refine lv_idiv S.1 S.2.1 dX_firstOfInstruction_9 (by decide) ?_
  refine lv_iadd S.1 S.2.1 dX_firstOfInstruction_10 ?_
  exact rt_i S hr hk hK hP hD hS (⟨rfl, rfl⟩) dX_firstOfInstruction_11

set_option maxHeartbeats 4000000 in
set_option maxRecDepth 100000 in
theorem c_X_turnLinkOver (l : Launch) (D : va_G) (a : AX) (sz : Nat) (pc ac lk mq ma mb ir sw io dl ha rd sn md kf kb cn pf : Int32) (co ou : Nat → Int32) : MV l D (wx a) (tx a) sz yX_turnLinkOver cX_turnLinkOver 1 0 [.ref a.1] (pc, ac, lk, mq, ma, mb, ir, sw, io, dl, ha, rd, sn, md, kf, kb, cn, pf, co, ou) (fun u => u = (pc, ac, (1 - lk), mq, ma, mb, ir, sw, io, dl, ha, rd, sn, md, kf, kb, cn, pf, co, ou)) := by
  refine en_v RX rfl (by decide) (Nat.le_of_ble_eq_true rfl) ?_
  intro p e s m below meth c A ls S hr hk hA hN hK hP hD hS hl
  have hl : lv_has ls 1 [(0, .ref a.1)] := hl
  refine lv_aload_n S.1 S.2.1 dX_turnLinkOver_0 rfl (lv_at hl 0 rfl) ?_
  refine lv_iconst (v := 1) S.1 S.2.1 dX_turnLinkOver_1 (by decide) ?_
  refine lv_aload_n S.1 S.2.1 dX_turnLinkOver_2 rfl (lv_at hl 0 rfl) ?_
  refine g_X_X_link S hK hP dX_turnLinkOver_3 ?_
  refine lv_isub S.1 S.2.1 dX_turnLinkOver_6 ?_
  refine p_X_X_link S hK hP hD hS dX_turnLinkOver_7 (fun H locs hP hD hS => ?_)
  exact rt_v S hr hk hK hP hD hS (rfl) dX_turnLinkOver_10

set_option maxHeartbeats 4000000 in
set_option maxRecDepth 100000 in
theorem c_X_clearAcIfAsked (l : Launch) (D : va_G) (a : AX) (sz : Nat) (pc ac lk mq ma mb ir sw io dl ha rd sn md kf kb cn pf : Int32) (co ou : Nat → Int32) : MV l D (wx a) (tx a) sz yX_clearAcIfAsked cX_clearAcIfAsked 1 1 [.ref a.1] (pc, ac, lk, mq, ma, mb, ir, sw, io, dl, ha, rd, sn, md, kf, kb, cn, pf, co, ou) (fun u => (((ir &&& 128) = 0) ∧ u = (pc, ac, lk, mq, ma, mb, ir, sw, io, dl, ha, rd, sn, md, kf, kb, cn, pf, co, ou)) ∨ ((¬ (ir &&& 128) = 0) ∧ u = (pc, 0, lk, mq, ma, mb, ir, sw, io, dl, ha, rd, sn, md, kf, kb, cn, pf, co, ou))) := by
  refine en_v RX rfl (by decide) (Nat.le_of_ble_eq_true rfl) ?_
  intro p e s m below meth c A ls S hr hk hA hN hK hP hD hS hl
  have hl : lv_has ls 1 [(0, .ref a.1)] := hl
  refine lv_aload_n S.1 S.2.1 dX_clearAcIfAsked_0 rfl (lv_at hl 0 rfl) ?_
  refine lv_sipush (v := 128) S.1 S.2.1 dX_clearAcIfAsked_1 (by decide) ?_
  refine cl_i (As := [.int 128]) (rest := []) S hN hK hP hD hS hA hl.1 (c_X_irHas l D a _ pc ac lk mq ma mb ir sw io dl ha rd sn md kf kb cn pf co ou 128) k_X_233 (rc_X hK hP) ⟨by decide, by decide⟩ rfl rfl (Nat.le_of_ble_eq_true rfl) ⟨Nat.le_refl _, Nat.le_refl _⟩ dX_clearAcIfAsked_4 (fun r u H locs hw hP hD hS => ?_)
  obtain ⟨g1, rfl, rfl⟩ | ⟨g2, rfl, rfl⟩ := hw
  · refine lv_if_eq (tgt := 15) S.1 S.2.1 dX_clearAcIfAsked_7 (by decide) (fun _ => ?_) (fun g3 => absurd (by decide) g3)
    exact rt_v S hr hk hK hP hD hS (Or.inl (⟨g1, rfl⟩)) dX_clearAcIfAsked_15
  · refine lv_if_eq (tgt := 15) S.1 S.2.1 dX_clearAcIfAsked_7 (by decide) (fun g4 => absurd g4 (by decide)) (fun _ => ?_)
    refine lv_aload_n S.1 S.2.1 dX_clearAcIfAsked_10 rfl (lv_at hl 0 rfl) ?_
    refine lv_iconst (v := 0) S.1 S.2.1 dX_clearAcIfAsked_11 (by decide) ?_
    refine p_X_X_ac S hK hP hD hS dX_clearAcIfAsked_12 (fun H locs hP hD hS => ?_)
    exact rt_v S hr hk hK hP hD hS (Or.inr (⟨g2, rfl⟩)) dX_clearAcIfAsked_15

set_option maxHeartbeats 4000000 in
set_option maxRecDepth 100000 in
theorem c_X_addToAc (l : Launch) (D : va_G) (a : AX) (sz : Nat) (pc ac lk mq ma mb ir sw io dl ha rd sn md kf kb cn pf : Int32) (co ou : Nat → Int32) (v : Int32) : MV l D (wx a) (tx a) sz yX_addToAc cX_addToAc 3 1 [.ref a.1, .int v] (pc, ac, lk, mq, ma, mb, ir, sw, io, dl, ha, rd, sn, md, kf, kb, cn, pf, co, ou) (fun u => (((ac + v) ≤ 4095) ∧ u = (pc, ((ac + v) &&& 4095), lk, mq, ma, mb, ir, sw, io, dl, ha, rd, sn, md, kf, kb, cn, pf, co, ou)) ∨ ((¬ (ac + v) ≤ 4095) ∧ u = (pc, ((ac + v) &&& 4095), (1 - lk), mq, ma, mb, ir, sw, io, dl, ha, rd, sn, md, kf, kb, cn, pf, co, ou))) := by
  refine en_v RX rfl (by decide) (Nat.le_of_ble_eq_true rfl) ?_
  intro p e s m below meth c A ls S hr hk hA hN hK hP hD hS hl
  have hl : lv_has ls 3 [(0, .ref a.1), (1, .int v)] := hl
  refine lv_aload_n S.1 S.2.1 dX_addToAc_0 rfl (lv_at hl 0 rfl) ?_
  refine g_X_X_ac S hK hP dX_addToAc_1 ?_
  refine lv_iload_n S.1 S.2.1 dX_addToAc_4 rfl (lv_at hl 1 rfl) ?_
  refine lv_iadd S.1 S.2.1 dX_addToAc_5 ?_
  refine lv_istore_n S.1 S.2.1 dX_addToAc_6 rfl hl (by decide) rfl (fun ls hl => ?_)
  have hl : lv_has ls 3 [(2, .int (ac + v)), (0, .ref a.1), (1, .int v)] := hl
  refine lv_iload_n S.1 S.2.1 dX_addToAc_7 rfl (lv_at hl 0 rfl) ?_
  refine lv_sipush (v := 4095) S.1 S.2.1 dX_addToAc_8 (by decide) ?_
  refine lv_icmp_le (tgt := 18) S.1 S.2.1 dX_addToAc_11 (by decide) (fun g1 => ?_) (fun g1 => ?_)
  · refine lv_aload_n S.1 S.2.1 dX_addToAc_18 rfl (lv_at hl 1 rfl) ?_
    refine lv_iload_n S.1 S.2.1 dX_addToAc_19 rfl (lv_at hl 0 rfl) ?_
    refine lv_sipush (v := 4095) S.1 S.2.1 dX_addToAc_20 (by decide) ?_
    refine lv_iand S.1 S.2.1 dX_addToAc_23 ?_
    refine p_X_X_ac S hK hP hD hS dX_addToAc_24 (fun H locs hP hD hS => ?_)
    exact rt_v S hr hk hK hP hD hS (Or.inl (⟨g1, rfl⟩)) dX_addToAc_27
  · refine lv_aload_n S.1 S.2.1 dX_addToAc_14 rfl (lv_at hl 1 rfl) ?_
    refine cl_v (As := []) (rest := []) S hN hK hP hD hS hA hl.1 (c_X_turnLinkOver l D a _ pc ac lk mq ma mb ir sw io dl ha rd sn md kf kb cn pf co ou ) k_X_242 (rc_X hK hP) ⟨by decide, by decide⟩ rfl rfl (Nat.le_of_ble_eq_true rfl) ⟨Nat.le_refl _, Nat.le_refl _⟩ dX_addToAc_15 (fun u H locs hw hP hD hS => ?_)
    obtain rfl := hw
    refine lv_aload_n S.1 S.2.1 dX_addToAc_18 rfl (lv_at hl 1 rfl) ?_
    refine lv_iload_n S.1 S.2.1 dX_addToAc_19 rfl (lv_at hl 0 rfl) ?_
    refine lv_sipush (v := 4095) S.1 S.2.1 dX_addToAc_20 (by decide) ?_
    refine lv_iand S.1 S.2.1 dX_addToAc_23 ?_
    refine p_X_X_ac S hK hP hD hS dX_addToAc_24 (fun H locs hP hD hS => ?_)
    exact rt_v S hr hk hK hP hD hS (Or.inr (⟨g1, rfl⟩)) dX_addToAc_27

set_option maxHeartbeats 4000000 in
set_option maxRecDepth 100000 in
theorem c_X_rotate (l : Launch) (D : va_G) (a : AX) (sz : Nat) (pc ac lk mq ma mb ir sw io dl ha rd sn md kf kb cn pf : Int32) (co ou : Nat → Int32) : MV l D (wx a) (tx a) sz yX_rotate cX_rotate 2 1 [.ref a.1] (pc, ac, lk, mq, ma, mb, ir, sw, io, dl, ha, rd, sn, md, kf, kb, cn, pf, co, ou) (fun u => (((ir &&& 8) = 0) ∧ ((ir &&& 4) = 0) ∧ u = (pc, (((lk <<< ((12 : Int32) &&& 31)) ||| ac) &&& 4095), (((lk <<< ((12 : Int32) &&& 31)) ||| ac) >>> ((12 : Int32) &&& 31)), mq, ma, mb, ir, sw, io, dl, ha, rd, sn, md, kf, kb, cn, pf, co, ou)) ∨ (((ir &&& 8) = 0) ∧ (¬ (ir &&& 4) = 0) ∧ u = (pc, ((((((lk <<< ((12 : Int32) &&& 31)) ||| ac) <<< ((1 : Int32) &&& 31)) ||| (((lk <<< ((12 : Int32) &&& 31)) ||| ac) >>> ((12 : Int32) &&& 31))) &&& 8191) &&& 4095), ((((((lk <<< ((12 : Int32) &&& 31)) ||| ac) <<< ((1 : Int32) &&& 31)) ||| (((lk <<< ((12 : Int32) &&& 31)) ||| ac) >>> ((12 : Int32) &&& 31))) &&& 8191) >>> ((12 : Int32) &&& 31)), mq, ma, mb, ir, sw, io, dl, ha, rd, sn, md, kf, kb, cn, pf, co, ou)) ∨ ((¬ (ir &&& 8) = 0) ∧ ((ir &&& 4) = 0) ∧ u = (pc, (((((lk <<< ((12 : Int32) &&& 31)) ||| ac) >>> ((1 : Int32) &&& 31)) ||| ((((lk <<< ((12 : Int32) &&& 31)) ||| ac) &&& 1) <<< ((12 : Int32) &&& 31))) &&& 4095), (((((lk <<< ((12 : Int32) &&& 31)) ||| ac) >>> ((1 : Int32) &&& 31)) ||| ((((lk <<< ((12 : Int32) &&& 31)) ||| ac) &&& 1) <<< ((12 : Int32) &&& 31))) >>> ((12 : Int32) &&& 31)), mq, ma, mb, ir, sw, io, dl, ha, rd, sn, md, kf, kb, cn, pf, co, ou)) ∨ ((¬ (ir &&& 8) = 0) ∧ (¬ (ir &&& 4) = 0) ∧ u = (pc, ((((((((lk <<< ((12 : Int32) &&& 31)) ||| ac) >>> ((1 : Int32) &&& 31)) ||| ((((lk <<< ((12 : Int32) &&& 31)) ||| ac) &&& 1) <<< ((12 : Int32) &&& 31))) <<< ((1 : Int32) &&& 31)) ||| (((((lk <<< ((12 : Int32) &&& 31)) ||| ac) >>> ((1 : Int32) &&& 31)) ||| ((((lk <<< ((12 : Int32) &&& 31)) ||| ac) &&& 1) <<< ((12 : Int32) &&& 31))) >>> ((12 : Int32) &&& 31))) &&& 8191) &&& 4095), ((((((((lk <<< ((12 : Int32) &&& 31)) ||| ac) >>> ((1 : Int32) &&& 31)) ||| ((((lk <<< ((12 : Int32) &&& 31)) ||| ac) &&& 1) <<< ((12 : Int32) &&& 31))) <<< ((1 : Int32) &&& 31)) ||| (((((lk <<< ((12 : Int32) &&& 31)) ||| ac) >>> ((1 : Int32) &&& 31)) ||| ((((lk <<< ((12 : Int32) &&& 31)) ||| ac) &&& 1) <<< ((12 : Int32) &&& 31))) >>> ((12 : Int32) &&& 31))) &&& 8191) >>> ((12 : Int32) &&& 31)), mq, ma, mb, ir, sw, io, dl, ha, rd, sn, md, kf, kb, cn, pf, co, ou))) := by
  refine en_v RX rfl (by decide) (Nat.le_of_ble_eq_true rfl) ?_
  intro p e s m below meth c A ls S hr hk hA hN hK hP hD hS hl
  have hl : lv_has ls 2 [(0, .ref a.1)] := hl
  refine lv_aload_n S.1 S.2.1 dX_rotate_0 rfl (lv_at hl 0 rfl) ?_
  refine g_X_X_link S hK hP dX_rotate_1 ?_
  refine lv_bipush (v := 12) S.1 S.2.1 dX_rotate_4 (by decide) ?_
  refine lv_ishl S.1 S.2.1 dX_rotate_6 ?_
  refine lv_aload_n S.1 S.2.1 dX_rotate_7 rfl (lv_at hl 0 rfl) ?_
  refine g_X_X_ac S hK hP dX_rotate_8 ?_
  refine lv_ior S.1 S.2.1 dX_rotate_11 ?_
  refine lv_istore_n S.1 S.2.1 dX_rotate_12 rfl hl (by decide) rfl (fun ls hl => ?_)
  have hl : lv_has ls 2 [(1, .int ((lk <<< ((12 : Int32) &&& 31)) ||| ac)), (0, .ref a.1)] := hl
  refine lv_aload_n S.1 S.2.1 dX_rotate_13 rfl (lv_at hl 1 rfl) ?_
  refine lv_bipush (v := 8) S.1 S.2.1 dX_rotate_14 (by decide) ?_
  refine cl_i (As := [.int 8]) (rest := []) S hN hK hP hD hS hA hl.1 (c_X_irHas l D a _ pc ac lk mq ma mb ir sw io dl ha rd sn md kf kb cn pf co ou 8) k_X_233 (rc_X hK hP) ⟨by decide, by decide⟩ rfl rfl (Nat.le_of_ble_eq_true rfl) ⟨Nat.le_refl _, Nat.le_refl _⟩ dX_rotate_16 (fun r u H locs hw hP hD hS => ?_)
  obtain ⟨g1, rfl, rfl⟩ | ⟨g2, rfl, rfl⟩ := hw
  · refine lv_if_eq (tgt := 33) S.1 S.2.1 dX_rotate_19 (by decide) (fun _ => ?_) (fun g3 => absurd (by decide) g3)
    refine lv_aload_n S.1 S.2.1 dX_rotate_33 rfl (lv_at hl 1 rfl) ?_
    refine lv_iconst (v := 4) S.1 S.2.1 dX_rotate_34 (by decide) ?_
    refine cl_i (As := [.int 4]) (rest := []) S hN hK hP hD hS hA hl.1 (c_X_irHas l D a _ pc ac lk mq ma mb ir sw io dl ha rd sn md kf kb cn pf co ou 4) k_X_233 (rc_X hK hP) ⟨by decide, by decide⟩ rfl rfl (Nat.le_of_ble_eq_true rfl) ⟨Nat.le_refl _, Nat.le_refl _⟩ dX_rotate_35 (fun r u H locs hw hP hD hS => ?_)
    obtain ⟨g4, rfl, rfl⟩ | ⟨g5, rfl, rfl⟩ := hw
    · refine lv_if_eq (tgt := 54) S.1 S.2.1 dX_rotate_38 (by decide) (fun _ => ?_) (fun g6 => absurd (by decide) g6)
      refine lv_aload_n S.1 S.2.1 dX_rotate_54 rfl (lv_at hl 1 rfl) ?_
      refine lv_iload_n S.1 S.2.1 dX_rotate_55 rfl (lv_at hl 0 rfl) ?_
      refine lv_bipush (v := 12) S.1 S.2.1 dX_rotate_56 (by decide) ?_
      refine lv_ishr S.1 S.2.1 dX_rotate_58 ?_
      refine p_X_X_link S hK hP hD hS dX_rotate_59 (fun H locs hP hD hS => ?_)
      refine lv_aload_n S.1 S.2.1 dX_rotate_62 rfl (lv_at hl 1 rfl) ?_
      refine lv_iload_n S.1 S.2.1 dX_rotate_63 rfl (lv_at hl 0 rfl) ?_
      refine lv_sipush (v := 4095) S.1 S.2.1 dX_rotate_64 (by decide) ?_
      refine lv_iand S.1 S.2.1 dX_rotate_67 ?_
      refine p_X_X_ac S hK hP hD hS dX_rotate_68 (fun H locs hP hD hS => ?_)
      exact rt_v S hr hk hK hP hD hS (Or.inl (⟨g1, g4, rfl⟩)) dX_rotate_71
    · refine lv_if_eq (tgt := 54) S.1 S.2.1 dX_rotate_38 (by decide) (fun g7 => absurd g7 (by decide)) (fun _ => ?_)
      refine lv_iload_n S.1 S.2.1 dX_rotate_41 rfl (lv_at hl 0 rfl) ?_
      refine lv_iconst (v := 1) S.1 S.2.1 dX_rotate_42 (by decide) ?_
      refine lv_ishl S.1 S.2.1 dX_rotate_43 ?_
      refine lv_iload_n S.1 S.2.1 dX_rotate_44 rfl (lv_at hl 0 rfl) ?_
      refine lv_bipush (v := 12) S.1 S.2.1 dX_rotate_45 (by decide) ?_
      refine lv_ishr S.1 S.2.1 dX_rotate_47 ?_
      refine lv_ior S.1 S.2.1 dX_rotate_48 ?_
      refine lv_sipush (v := 8191) S.1 S.2.1 dX_rotate_49 (by decide) ?_
      refine lv_iand S.1 S.2.1 dX_rotate_52 ?_
      refine lv_istore_n S.1 S.2.1 dX_rotate_53 rfl hl (by decide) rfl (fun ls hl => ?_)
      have hl : lv_has ls 2 [(1, .int (((((lk <<< ((12 : Int32) &&& 31)) ||| ac) <<< ((1 : Int32) &&& 31)) ||| (((lk <<< ((12 : Int32) &&& 31)) ||| ac) >>> ((12 : Int32) &&& 31))) &&& 8191)), (0, .ref a.1)] := hl
      refine lv_aload_n S.1 S.2.1 dX_rotate_54 rfl (lv_at hl 1 rfl) ?_
      refine lv_iload_n S.1 S.2.1 dX_rotate_55 rfl (lv_at hl 0 rfl) ?_
      refine lv_bipush (v := 12) S.1 S.2.1 dX_rotate_56 (by decide) ?_
      refine lv_ishr S.1 S.2.1 dX_rotate_58 ?_
      refine p_X_X_link S hK hP hD hS dX_rotate_59 (fun H locs hP hD hS => ?_)
      refine lv_aload_n S.1 S.2.1 dX_rotate_62 rfl (lv_at hl 1 rfl) ?_
      refine lv_iload_n S.1 S.2.1 dX_rotate_63 rfl (lv_at hl 0 rfl) ?_
      refine lv_sipush (v := 4095) S.1 S.2.1 dX_rotate_64 (by decide) ?_
      refine lv_iand S.1 S.2.1 dX_rotate_67 ?_
      refine p_X_X_ac S hK hP hD hS dX_rotate_68 (fun H locs hP hD hS => ?_)
      exact rt_v S hr hk hK hP hD hS (Or.inr (Or.inl (⟨g1, g5, rfl⟩))) dX_rotate_71
  · refine lv_if_eq (tgt := 33) S.1 S.2.1 dX_rotate_19 (by decide) (fun g8 => absurd g8 (by decide)) (fun _ => ?_)
    refine lv_iload_n S.1 S.2.1 dX_rotate_22 rfl (lv_at hl 0 rfl) ?_
    refine lv_iconst (v := 1) S.1 S.2.1 dX_rotate_23 (by decide) ?_
    refine lv_ishr S.1 S.2.1 dX_rotate_24 ?_
    refine lv_iload_n S.1 S.2.1 dX_rotate_25 rfl (lv_at hl 0 rfl) ?_
    refine lv_iconst (v := 1) S.1 S.2.1 dX_rotate_26 (by decide) ?_
    refine lv_iand S.1 S.2.1 dX_rotate_27 ?_
    refine lv_bipush (v := 12) S.1 S.2.1 dX_rotate_28 (by decide) ?_
    refine lv_ishl S.1 S.2.1 dX_rotate_30 ?_
    refine lv_ior S.1 S.2.1 dX_rotate_31 ?_
    refine lv_istore_n S.1 S.2.1 dX_rotate_32 rfl hl (by decide) rfl (fun ls hl => ?_)
    have hl : lv_has ls 2 [(1, .int ((((lk <<< ((12 : Int32) &&& 31)) ||| ac) >>> ((1 : Int32) &&& 31)) ||| ((((lk <<< ((12 : Int32) &&& 31)) ||| ac) &&& 1) <<< ((12 : Int32) &&& 31)))), (0, .ref a.1)] := hl
    refine lv_aload_n S.1 S.2.1 dX_rotate_33 rfl (lv_at hl 1 rfl) ?_
    refine lv_iconst (v := 4) S.1 S.2.1 dX_rotate_34 (by decide) ?_
    refine cl_i (As := [.int 4]) (rest := []) S hN hK hP hD hS hA hl.1 (c_X_irHas l D a _ pc ac lk mq ma mb ir sw io dl ha rd sn md kf kb cn pf co ou 4) k_X_233 (rc_X hK hP) ⟨by decide, by decide⟩ rfl rfl (Nat.le_of_ble_eq_true rfl) ⟨Nat.le_refl _, Nat.le_refl _⟩ dX_rotate_35 (fun r u H locs hw hP hD hS => ?_)
    obtain ⟨g9, rfl, rfl⟩ | ⟨g10, rfl, rfl⟩ := hw
    · refine lv_if_eq (tgt := 54) S.1 S.2.1 dX_rotate_38 (by decide) (fun _ => ?_) (fun g11 => absurd (by decide) g11)
      refine lv_aload_n S.1 S.2.1 dX_rotate_54 rfl (lv_at hl 1 rfl) ?_
      refine lv_iload_n S.1 S.2.1 dX_rotate_55 rfl (lv_at hl 0 rfl) ?_
      refine lv_bipush (v := 12) S.1 S.2.1 dX_rotate_56 (by decide) ?_
      refine lv_ishr S.1 S.2.1 dX_rotate_58 ?_
      refine p_X_X_link S hK hP hD hS dX_rotate_59 (fun H locs hP hD hS => ?_)
      refine lv_aload_n S.1 S.2.1 dX_rotate_62 rfl (lv_at hl 1 rfl) ?_
      refine lv_iload_n S.1 S.2.1 dX_rotate_63 rfl (lv_at hl 0 rfl) ?_
      refine lv_sipush (v := 4095) S.1 S.2.1 dX_rotate_64 (by decide) ?_
      refine lv_iand S.1 S.2.1 dX_rotate_67 ?_
      refine p_X_X_ac S hK hP hD hS dX_rotate_68 (fun H locs hP hD hS => ?_)
      exact rt_v S hr hk hK hP hD hS (Or.inr (Or.inr (Or.inl (⟨g2, g9, rfl⟩)))) dX_rotate_71
    · refine lv_if_eq (tgt := 54) S.1 S.2.1 dX_rotate_38 (by decide) (fun g12 => absurd g12 (by decide)) (fun _ => ?_)
      refine lv_iload_n S.1 S.2.1 dX_rotate_41 rfl (lv_at hl 0 rfl) ?_
      refine lv_iconst (v := 1) S.1 S.2.1 dX_rotate_42 (by decide) ?_
      refine lv_ishl S.1 S.2.1 dX_rotate_43 ?_
      refine lv_iload_n S.1 S.2.1 dX_rotate_44 rfl (lv_at hl 0 rfl) ?_
      refine lv_bipush (v := 12) S.1 S.2.1 dX_rotate_45 (by decide) ?_
      refine lv_ishr S.1 S.2.1 dX_rotate_47 ?_
      refine lv_ior S.1 S.2.1 dX_rotate_48 ?_
      refine lv_sipush (v := 8191) S.1 S.2.1 dX_rotate_49 (by decide) ?_
      refine lv_iand S.1 S.2.1 dX_rotate_52 ?_
      refine lv_istore_n S.1 S.2.1 dX_rotate_53 rfl hl (by decide) rfl (fun ls hl => ?_)
      have hl : lv_has ls 2 [(1, .int (((((((lk <<< ((12 : Int32) &&& 31)) ||| ac) >>> ((1 : Int32) &&& 31)) ||| ((((lk <<< ((12 : Int32) &&& 31)) ||| ac) &&& 1) <<< ((12 : Int32) &&& 31))) <<< ((1 : Int32) &&& 31)) ||| (((((lk <<< ((12 : Int32) &&& 31)) ||| ac) >>> ((1 : Int32) &&& 31)) ||| ((((lk <<< ((12 : Int32) &&& 31)) ||| ac) &&& 1) <<< ((12 : Int32) &&& 31))) >>> ((12 : Int32) &&& 31))) &&& 8191)), (0, .ref a.1)] := hl
      refine lv_aload_n S.1 S.2.1 dX_rotate_54 rfl (lv_at hl 1 rfl) ?_
      refine lv_iload_n S.1 S.2.1 dX_rotate_55 rfl (lv_at hl 0 rfl) ?_
      refine lv_bipush (v := 12) S.1 S.2.1 dX_rotate_56 (by decide) ?_
      refine lv_ishr S.1 S.2.1 dX_rotate_58 ?_
      refine p_X_X_link S hK hP hD hS dX_rotate_59 (fun H locs hP hD hS => ?_)
      refine lv_aload_n S.1 S.2.1 dX_rotate_62 rfl (lv_at hl 1 rfl) ?_
      refine lv_iload_n S.1 S.2.1 dX_rotate_63 rfl (lv_at hl 0 rfl) ?_
      refine lv_sipush (v := 4095) S.1 S.2.1 dX_rotate_64 (by decide) ?_
      refine lv_iand S.1 S.2.1 dX_rotate_67 ?_
      refine p_X_X_ac S hK hP hD hS dX_rotate_68 (fun H locs hP hD hS => ?_)
      exact rt_v S hr hk hK hP hD hS (Or.inr (Or.inr (Or.inr (⟨g2, g10, rfl⟩)))) dX_rotate_71

set_option maxHeartbeats 4000000 in
set_option maxRecDepth 100000 in
theorem c_K_reset (l : Launch) (D : va_G) (a : AX) (sz : Nat) (pc ac lk mq ma mb ir sw io dl ha rd sn md kf kb cn pf : Int32) (co ou : Nat → Int32) : MV l D (wx a) (tx a) sz yK_reset cK_reset 1 0 [.ref a.2.2.1] (pc, ac, lk, mq, ma, mb, ir, sw, io, dl, ha, rd, sn, md, kf, kb, cn, pf, co, ou) (fun u => u = (pc, ac, lk, mq, ma, mb, ir, sw, io, dl, ha, rd, sn, md, 0, 0, cn, pf, co, ou)) := by
  refine en_v RK rfl (by decide) (Nat.le_of_ble_eq_true rfl) ?_
  intro p e s m below meth c A ls S hr hk hA hN hK hP hD hS hl
  have hl : lv_has ls 1 [(0, .ref a.2.2.1)] := hl
  refine lv_aload_n S.1 S.2.1 dK_reset_0 rfl (lv_at hl 0 rfl) ?_
  refine lv_iconst (v := 0) S.1 S.2.1 dK_reset_1 (by decide) ?_
  refine p_K_K_flag S hK hP hD hS rfl rfl dK_reset_2 (fun H locs hP hD hS => ?_)
  refine lv_aload_n S.1 S.2.1 dK_reset_5 rfl (lv_at hl 0 rfl) ?_
  refine lv_iconst (v := 0) S.1 S.2.1 dK_reset_6 (by decide) ?_
  refine p_K_K_buffer S hK hP hD hS dK_reset_7 (fun H locs hP hD hS => ?_)
  exact rt_v S hr hk hK hP hD hS (rfl) dK_reset_10

set_option maxHeartbeats 4000000 in
set_option maxRecDepth 100000 in
theorem c_K_press (l : Launch) (D : va_G) (a : AX) (sz : Nat) (pc ac lk mq ma mb ir sw io dl ha rd sn md kf kb cn pf : Int32) (co ou : Nat → Int32) (x : Int32) : MV l D (wx a) (tx a) sz yK_press cK_press 2 0 [.ref a.2.2.1, .int x] (pc, ac, lk, mq, ma, mb, ir, sw, io, dl, ha, rd, sn, md, kf, kb, cn, pf, co, ou) (fun u => u = (pc, ac, lk, mq, ma, mb, ir, sw, io, dl, ha, rd, sn, md, 1, (x &&& 255), cn, pf, co, ou)) := by
  refine en_v RK rfl (by decide) (Nat.le_of_ble_eq_true rfl) ?_
  intro p e s m below meth c A ls S hr hk hA hN hK hP hD hS hl
  have hl : lv_has ls 2 [(0, .ref a.2.2.1), (1, .int x)] := hl
  refine lv_aload_n S.1 S.2.1 dK_press_0 rfl (lv_at hl 0 rfl) ?_
  refine lv_iload_n S.1 S.2.1 dK_press_1 rfl (lv_at hl 1 rfl) ?_
  refine lv_sipush (v := 255) S.1 S.2.1 dK_press_2 (by decide) ?_
  refine lv_iand S.1 S.2.1 dK_press_5 ?_
  refine p_K_K_buffer S hK hP hD hS dK_press_6 (fun H locs hP hD hS => ?_)
  refine lv_aload_n S.1 S.2.1 dK_press_9 rfl (lv_at hl 0 rfl) ?_
  refine lv_iconst (v := 1) S.1 S.2.1 dK_press_10 (by decide) ?_
  refine p_K_K_flag S hK hP hD hS rfl rfl dK_press_11 (fun H locs hP hD hS => ?_)
  exact rt_v S hr hk hK hP hD hS (rfl) dK_press_14

set_option maxHeartbeats 4000000 in
set_option maxRecDepth 100000 in
theorem c_P_reset (l : Launch) (D : va_G) (a : AX) (sz : Nat) (pc ac lk mq ma mb ir sw io dl ha rd sn md kf kb cn pf : Int32) (co ou : Nat → Int32) : MV l D (wx a) (tx a) sz yP_reset cP_reset 1 0 [.ref a.2.2.2.1] (pc, ac, lk, mq, ma, mb, ir, sw, io, dl, ha, rd, sn, md, kf, kb, cn, pf, co, ou) (fun u => u = (pc, ac, lk, mq, ma, mb, ir, sw, io, dl, ha, rd, sn, md, kf, kb, 0, 0, co, ou)) := by
  refine en_v RP rfl (by decide) (Nat.le_of_ble_eq_true rfl) ?_
  intro p e s m below meth c A ls S hr hk hA hN hK hP hD hS hl
  have hl : lv_has ls 1 [(0, .ref a.2.2.2.1)] := hl
  refine lv_aload_n S.1 S.2.1 dP_reset_0 rfl (lv_at hl 0 rfl) ?_
  refine lv_iconst (v := 0) S.1 S.2.1 dP_reset_1 (by decide) ?_
  refine p_P_P_count S hK hP hD hS dP_reset_2 (fun H locs hP hD hS => ?_)
  refine lv_aload_n S.1 S.2.1 dP_reset_5 rfl (lv_at hl 0 rfl) ?_
  refine lv_iconst (v := 0) S.1 S.2.1 dP_reset_6 (by decide) ?_
  refine p_P_P_flag S hK hP hD hS rfl rfl dP_reset_7 (fun H locs hP hD hS => ?_)
  exact rt_v S hr hk hK hP hD hS (rfl) dP_reset_10

set_option maxHeartbeats 4000000 in
set_option maxRecDepth 100000 in
theorem c_P_isFull (l : Launch) (D : va_G) (a : AX) (sz : Nat) (pc ac lk mq ma mb ir sw io dl ha rd sn md kf kb cn pf : Int32) (co ou : Nat → Int32) : MI l D (wx a) (tx a) sz yP_isFull cP_isFull 1 (some .boolean) 0 [.ref a.2.2.2.1] (pc, ac, lk, mq, ma, mb, ir, sw, io, dl, ha, rd, sn, md, kf, kb, cn, pf, co, ou) (fun r u => ((cn < (nI a.2.2.2.2.2.2.2)) ∧ r = 0 ∧ u = (pc, ac, lk, mq, ma, mb, ir, sw, io, dl, ha, rd, sn, md, kf, kb, cn, pf, co, ou)) ∨ ((¬ cn < (nI a.2.2.2.2.2.2.2)) ∧ r = 1 ∧ u = (pc, ac, lk, mq, ma, mb, ir, sw, io, dl, ha, rd, sn, md, kf, kb, cn, pf, co, ou))) := by
  refine en_i RP rfl (by decide) (Nat.le_of_ble_eq_true rfl) ?_
  intro p e s m below meth c A ls S hr hk hA hN hK hP hD hS hl
  have hl : lv_has ls 1 [(0, .ref a.2.2.2.1)] := hl
  refine lv_aload_n S.1 S.2.1 dP_isFull_0 rfl (lv_at hl 0 rfl) ?_
  refine g_P_P_count S hK hP dP_isFull_1 ?_
  refine lv_aload_n S.1 S.2.1 dP_isFull_4 rfl (lv_at hl 0 rfl) ?_
  refine g_P_P_bytes S hK hP dP_isFull_5 ?_
  refine ln_xou S hK hP dP_isFull_8 ?_
  refine lv_icmp_lt (tgt := 16) S.1 S.2.1 dP_isFull_9 (by decide) (fun g1 => ?_) (fun g1 => ?_)
  · refine lv_iconst (v := 0) S.1 S.2.1 dP_isFull_16 (by decide) ?_
    exact rt_z S hr hk hK hP hD hS rfl (Or.inl (⟨g1, rfl, rfl⟩)) dP_isFull_17
  · refine lv_iconst (v := 1) S.1 S.2.1 dP_isFull_12 (by decide) ?_
    refine lv_goto (tgt := 17) S.1 S.2.1 dP_isFull_13 (by decide) ?_
    exact rt_z S hr hk hK hP hD hS rfl (Or.inr (⟨g1, rfl, rfl⟩)) dP_isFull_17
end
section
set_option maxHeartbeats 4000000 in
set_option maxRecDepth 100000 in
theorem c_X_readOperand (l : Launch) (D : va_G) (a : AX) (sz : Nat) (pc ac lk mq ma mb ir sw io dl ha rd sn md kf kb cn pf : Int32) (co ou : Nat → Int32) (n : Int32) : MI l D (wx a) (tx a) sz yX_readOperand cX_readOperand 2 (some .int) 1 [.ref a.1, .int n] (pc, ac, lk, mq, ma, mb, ir, sw, io, dl, ha, rd, sn, md, kf, kb, cn, pf, co, ou) (fun r u => r = n ∧ u = (pc, ac, lk, mq, ma, (co (ma &&& 4095).toNatClampNeg), ir, sw, io, dl, ha, rd, sn, md, kf, kb, cn, pf, co, ou)) := by
  refine en_i RX rfl (by decide) (Nat.le_of_ble_eq_true rfl) ?_
  intro p e s m below meth c A ls S hr hk hA hN hK hP hD hS hl
  have hl : lv_has ls 2 [(0, .ref a.1), (1, .int n)] := hl
  refine lv_aload_n S.1 S.2.1 dX_readOperand_0 rfl (lv_at hl 0 rfl) ?_
  refine lv_aload_n S.1 S.2.1 dX_readOperand_1 rfl (lv_at hl 0 rfl) ?_
  refine lv_aload_n S.1 S.2.1 dX_readOperand_2 rfl (lv_at hl 0 rfl) ?_
  refine g_X_X_ma S hK hP dX_readOperand_3 ?_
  refine cl_i (As := [.int ma]) (rest := [.ref a.1]) S hN hK hP hD hS hA hl.1 (c_X_read l D a _ pc ac lk mq ma mb ir sw io dl ha rd sn md kf kb cn pf co ou ma) k_X_91 (rc_X hK hP) ⟨by decide, by decide⟩ rfl rfl (Nat.le_of_ble_eq_true rfl) ⟨Nat.le_refl _, Nat.le_refl _⟩ dX_readOperand_6 (fun r u H locs hw hP hD hS => ?_)
  obtain ⟨rfl, rfl⟩ := hw
  refine p_X_X_mb S hK hP hD hS dX_readOperand_9 (fun H locs hP hD hS => ?_)
  refine lv_iload_n S.1 S.2.1 dX_readOperand_12 rfl (lv_at hl 1 rfl) ?_
  exact rt_i S hr hk hK hP hD hS (⟨rfl, rfl⟩) dX_readOperand_13

set_option maxHeartbeats 4000000 in
set_option maxRecDepth 100000 in
theorem c_X_takeIntoMb (l : Launch) (D : va_G) (a : AX) (sz : Nat) (pc ac lk mq ma mb ir sw io dl ha rd sn md kf kb cn pf : Int32) (co ou : Nat → Int32) (v n : Int32) : MI l D (wx a) (tx a) sz yX_takeIntoMb cX_takeIntoMb 3 (some .int) 0 [.ref a.1, .int v, .int n] (pc, ac, lk, mq, ma, mb, ir, sw, io, dl, ha, rd, sn, md, kf, kb, cn, pf, co, ou) (fun r u => r = n ∧ u = (pc, ac, lk, mq, ma, v, ir, sw, io, dl, ha, rd, sn, md, kf, kb, cn, pf, co, ou)) := by
  refine en_i RX rfl (by decide) (Nat.le_of_ble_eq_true rfl) ?_
  intro p e s m below meth c A ls S hr hk hA hN hK hP hD hS hl
  have hl : lv_has ls 3 [(0, .ref a.1), (1, .int v), (2, .int n)] := hl
  refine lv_aload_n S.1 S.2.1 dX_takeIntoMb_0 rfl (lv_at hl 0 rfl) ?_
  refine lv_iload_n S.1 S.2.1 dX_takeIntoMb_1 rfl (lv_at hl 1 rfl) ?_
  refine p_X_X_mb S hK hP hD hS dX_takeIntoMb_2 (fun H locs hP hD hS => ?_)
  refine lv_iload_n S.1 S.2.1 dX_takeIntoMb_5 rfl (lv_at hl 2 rfl) ?_
  exact rt_i S hr hk hK hP hD hS (⟨rfl, rfl⟩) dX_takeIntoMb_6

set_option maxHeartbeats 4000000 in
set_option maxRecDepth 100000 in
theorem c_X_conditions (l : Launch) (D : va_G) (a : AX) (sz : Nat) (pc ac lk mq ma mb ir sw io dl ha rd sn md kf kb cn pf : Int32) (co ou : Nat → Int32) : MI l D (wx a) (tx a) sz yX_conditions cX_conditions 1 (some .int) 0 [.ref a.1] (pc, ac, lk, mq, ma, mb, ir, sw, io, dl, ha, rd, sn, md, kf, kb, cn, pf, co, ou) (fun r u => r = (((((if io = 0 then 0 else 1) + (if dl = 0 then 0 else 2)) + (if ha = 0 then 0 else 4)) + (if kf = 0 then 0 else 8)) + (if pf = 0 then 0 else 16)) ∧ u = (pc, ac, lk, mq, ma, mb, ir, sw, io, dl, ha, rd, sn, md, kf, kb, cn, pf, co, ou)) := by
  refine en_i RX rfl (by decide) (Nat.le_of_ble_eq_true rfl) ?_
  intro p e s m below meth c A ls S hr hk hA hN hK hP hD hS hl
  have hl : lv_has ls 1 [(0, .ref a.1)] := hl
  refine lv_aload_n S.1 S.2.1 dX_conditions_0 rfl (lv_at hl 0 rfl) ?_
  refine g_X_X_ion S hK hP dX_conditions_1 ?_
  refine dm_eq (tgt := 11) (j := 12) (g := 8) S.1 S.2.1 dX_conditions_4 (by decide) (fun k => lv_iconst (v := 1) S.1 S.2.1 dX_conditions_7 (by decide) k) dX_conditions_8 (by decide) (fun k => lv_iconst (v := 0) S.1 S.2.1 dX_conditions_11 (by decide) k) ?_
  refine lv_aload_n S.1 S.2.1 dX_conditions_12 rfl (lv_at hl 0 rfl) ?_
  refine g_X_X_delay S hK hP dX_conditions_13 ?_
  refine dm_eq (tgt := 23) (j := 24) (g := 20) S.1 S.2.1 dX_conditions_16 (by decide) (fun k => lv_iconst (v := 2) S.1 S.2.1 dX_conditions_19 (by decide) k) dX_conditions_20 (by decide) (fun k => lv_iconst (v := 0) S.1 S.2.1 dX_conditions_23 (by decide) k) ?_
  refine lv_iadd S.1 S.2.1 dX_conditions_24 ?_
  refine lv_aload_n S.1 S.2.1 dX_conditions_25 rfl (lv_at hl 0 rfl) ?_
  refine g_X_X_halted S hK hP dX_conditions_26 ?_
  refine dm_eq (tgt := 36) (j := 37) (g := 33) S.1 S.2.1 dX_conditions_29 (by decide) (fun k => lv_iconst (v := 4) S.1 S.2.1 dX_conditions_32 (by decide) k) dX_conditions_33 (by decide) (fun k => lv_iconst (v := 0) S.1 S.2.1 dX_conditions_36 (by decide) k) ?_
  refine lv_iadd S.1 S.2.1 dX_conditions_37 ?_
  refine lv_aload_n S.1 S.2.1 dX_conditions_38 rfl (lv_at hl 0 rfl) ?_
  refine g_X_X_keyboard S hK hP dX_conditions_39 ?_
  refine g_X_K_flag S hN hK hP dX_conditions_42 ?_
  refine dm_eq (tgt := 53) (j := 54) (g := 50) S.1 S.2.1 dX_conditions_45 (by decide) (fun k => lv_bipush (v := 8) S.1 S.2.1 dX_conditions_48 (by decide) k) dX_conditions_50 (by decide) (fun k => lv_iconst (v := 0) S.1 S.2.1 dX_conditions_53 (by decide) k) ?_
  refine lv_iadd S.1 S.2.1 dX_conditions_54 ?_
  refine lv_aload_n S.1 S.2.1 dX_conditions_55 rfl (lv_at hl 0 rfl) ?_
  refine g_X_X_printer S hK hP dX_conditions_56 ?_
  refine g_X_P_flag S hN hK hP dX_conditions_59 ?_
  refine dm_eq (tgt := 70) (j := 71) (g := 67) S.1 S.2.1 dX_conditions_62 (by decide) (fun k => lv_bipush (v := 16) S.1 S.2.1 dX_conditions_65 (by decide) k) dX_conditions_67 (by decide) (fun k => lv_iconst (v := 0) S.1 S.2.1 dX_conditions_70 (by decide) k) ?_
  refine lv_iadd S.1 S.2.1 dX_conditions_71 ?_
  exact rt_i S hr hk hK hP hD hS (⟨rfl, rfl⟩) dX_conditions_72

set_option maxHeartbeats 4000000 in
set_option maxRecDepth 100000 in
theorem c_X_begin (l : Launch) (D : va_G) (a : AX) (sz : Nat) (pc ac lk mq ma mb ir sw io dl ha rd sn md kf kb cn pf : Int32) (co ou : Nat → Int32) : MI l D (wx a) (tx a) sz yX_begin cX_begin 1 (some .int) 1 [.ref a.1] (pc, ac, lk, mq, ma, mb, ir, sw, io, dl, ha, rd, sn, md, kf, kb, cn, pf, co, ou) (fun r u => (r, u) = mu0 (pc, ac, lk, mq, ma, mb, ir, sw, io, dl, ha, rd, sn, md, kf, kb, cn, pf, co, ou)) := by
  refine en_i RX rfl (by decide) (Nat.le_of_ble_eq_true rfl) ?_
  intro p e s m below meth c A ls S hr hk hA hN hK hP hD hS hl
  have hl : lv_has ls 1 [(0, .ref a.1)] := hl
  refine lv_aload_n S.1 S.2.1 dX_begin_0 rfl (lv_at hl 0 rfl) ?_
  refine g_X_X_ion S hK hP dX_begin_1 ?_
  refine lv_if_eq (tgt := 37) S.1 S.2.1 dX_begin_4 (by decide) (fun g1 => ?_) (fun g1 => ?_)
  · refine lv_aload_n S.1 S.2.1 dX_begin_37 rfl (lv_at hl 0 rfl) ?_
    refine lv_iconst (v := 0) S.1 S.2.1 dX_begin_38 (by decide) ?_
    refine p_X_X_delay S hK hP hD hS rfl rfl dX_begin_39 (fun H locs hP hD hS => ?_)
    refine lv_aload_n S.1 S.2.1 dX_begin_42 rfl (lv_at hl 0 rfl) ?_
    refine lv_aload_n S.1 S.2.1 dX_begin_43 rfl (lv_at hl 0 rfl) ?_
    refine g_X_X_pc S hK hP dX_begin_44 ?_
    refine p_X_X_ma S hK hP hD hS dX_begin_47 (fun H locs hP hD hS => ?_)
    refine lv_aload_n S.1 S.2.1 dX_begin_50 rfl (lv_at hl 0 rfl) ?_
    refine cl_v (As := []) (rest := []) S hN hK hP hD hS hA hl.1 (c_X_advancePc l D a _ pc ac lk mq pc mb ir sw io 0 ha rd sn md kf kb cn pf co ou ) k_X_230 (rc_X hK hP) ⟨by decide, by decide⟩ rfl rfl (Nat.le_of_ble_eq_true rfl) ⟨Nat.le_refl _, Nat.le_refl _⟩ dX_begin_51 (fun u H locs hw hP hD hS => ?_)
    obtain rfl := hw
    refine lv_iconst (v := 1) S.1 S.2.1 dX_begin_54 (by decide) ?_
    exact rt_i S hr hk hK hP hD hS ((by simp [mu0, g1])) dX_begin_55
  · refine lv_aload_n S.1 S.2.1 dX_begin_7 rfl (lv_at hl 0 rfl) ?_
    refine g_X_X_delay S hK hP dX_begin_8 ?_
    refine lv_if_ne (tgt := 37) S.1 S.2.1 dX_begin_11 (by decide) (fun g2 => ?_) (fun g2 => ?_)
    · refine lv_aload_n S.1 S.2.1 dX_begin_37 rfl (lv_at hl 0 rfl) ?_
      refine lv_iconst (v := 0) S.1 S.2.1 dX_begin_38 (by decide) ?_
      refine p_X_X_delay S hK hP hD hS rfl rfl dX_begin_39 (fun H locs hP hD hS => ?_)
      refine lv_aload_n S.1 S.2.1 dX_begin_42 rfl (lv_at hl 0 rfl) ?_
      refine lv_aload_n S.1 S.2.1 dX_begin_43 rfl (lv_at hl 0 rfl) ?_
      refine g_X_X_pc S hK hP dX_begin_44 ?_
      refine p_X_X_ma S hK hP hD hS dX_begin_47 (fun H locs hP hD hS => ?_)
      refine lv_aload_n S.1 S.2.1 dX_begin_50 rfl (lv_at hl 0 rfl) ?_
      refine cl_v (As := []) (rest := []) S hN hK hP hD hS hA hl.1 (c_X_advancePc l D a _ pc ac lk mq pc mb ir sw io 0 ha rd sn md kf kb cn pf co ou ) k_X_230 (rc_X hK hP) ⟨by decide, by decide⟩ rfl rfl (Nat.le_of_ble_eq_true rfl) ⟨Nat.le_refl _, Nat.le_refl _⟩ dX_begin_51 (fun u H locs hw hP hD hS => ?_)
      obtain rfl := hw
      refine lv_iconst (v := 1) S.1 S.2.1 dX_begin_54 (by decide) ?_
      exact rt_i S hr hk hK hP hD hS ((by simp [mu0, g1, g2])) dX_begin_55
    · refine lv_aload_n S.1 S.2.1 dX_begin_14 rfl (lv_at hl 0 rfl) ?_
      refine g_X_X_keyboard S hK hP dX_begin_15 ?_
      refine g_X_K_flag S hN hK hP dX_begin_18 ?_
      refine lv_if_ne (tgt := 34) S.1 S.2.1 dX_begin_21 (by decide) (fun g3 => ?_) (fun g3 => ?_)
      · refine lv_bipush (v := 40) S.1 S.2.1 dX_begin_34 (by decide) ?_
        exact rt_i S hr hk hK hP hD hS ((by simp [mu0, g1, g2, g3])) dX_begin_36
      · refine lv_aload_n S.1 S.2.1 dX_begin_24 rfl (lv_at hl 0 rfl) ?_
        refine g_X_X_printer S hK hP dX_begin_25 ?_
        refine g_X_P_flag S hN hK hP dX_begin_28 ?_
        refine lv_if_eq (tgt := 37) S.1 S.2.1 dX_begin_31 (by decide) (fun g4 => ?_) (fun g4 => ?_)
        · refine lv_aload_n S.1 S.2.1 dX_begin_37 rfl (lv_at hl 0 rfl) ?_
          refine lv_iconst (v := 0) S.1 S.2.1 dX_begin_38 (by decide) ?_
          refine p_X_X_delay S hK hP hD hS rfl rfl dX_begin_39 (fun H locs hP hD hS => ?_)
          refine lv_aload_n S.1 S.2.1 dX_begin_42 rfl (lv_at hl 0 rfl) ?_
          refine lv_aload_n S.1 S.2.1 dX_begin_43 rfl (lv_at hl 0 rfl) ?_
          refine g_X_X_pc S hK hP dX_begin_44 ?_
          refine p_X_X_ma S hK hP hD hS dX_begin_47 (fun H locs hP hD hS => ?_)
          refine lv_aload_n S.1 S.2.1 dX_begin_50 rfl (lv_at hl 0 rfl) ?_
          refine cl_v (As := []) (rest := []) S hN hK hP hD hS hA hl.1 (c_X_advancePc l D a _ pc ac lk mq pc mb ir sw io 0 ha rd sn md kf kb cn pf co ou ) k_X_230 (rc_X hK hP) ⟨by decide, by decide⟩ rfl rfl (Nat.le_of_ble_eq_true rfl) ⟨Nat.le_refl _, Nat.le_refl _⟩ dX_begin_51 (fun u H locs hw hP hD hS => ?_)
          obtain rfl := hw
          refine lv_iconst (v := 1) S.1 S.2.1 dX_begin_54 (by decide) ?_
          exact rt_i S hr hk hK hP hD hS ((by simp [mu0, g1, g2, g3, g4])) dX_begin_55
        · refine lv_bipush (v := 40) S.1 S.2.1 dX_begin_34 (by decide) ?_
          exact rt_i S hr hk hK hP hD hS ((by simp [mu0, g1, g2, g3, g4])) dX_begin_36

set_option maxHeartbeats 4000000 in
set_option maxRecDepth 100000 in
theorem c_X_fetch (l : Launch) (D : va_G) (a : AX) (sz : Nat) (pc ac lk mq ma mb ir sw io dl ha rd sn md kf kb cn pf : Int32) (co ou : Nat → Int32) : MI l D (wx a) (tx a) sz yX_fetch cX_fetch 1 (some .int) 1 [.ref a.1] (pc, ac, lk, mq, ma, mb, ir, sw, io, dl, ha, rd, sn, md, kf, kb, cn, pf, co, ou) (fun r u => (r, u) = mu1 (pc, ac, lk, mq, ma, mb, ir, sw, io, dl, ha, rd, sn, md, kf, kb, cn, pf, co, ou)) := by
  refine en_i RX rfl (by decide) (Nat.le_of_ble_eq_true rfl) ?_
  intro p e s m below meth c A ls S hr hk hA hN hK hP hD hS hl
  have hl : lv_has ls 1 [(0, .ref a.1)] := hl
  refine lv_aload_n S.1 S.2.1 dX_fetch_0 rfl (lv_at hl 0 rfl) ?_
  refine lv_aload_n S.1 S.2.1 dX_fetch_1 rfl (lv_at hl 0 rfl) ?_
  refine lv_aload_n S.1 S.2.1 dX_fetch_2 rfl (lv_at hl 0 rfl) ?_
  refine g_X_X_ma S hK hP dX_fetch_3 ?_
  refine cl_i (As := [.int ma]) (rest := [.ref a.1]) S hN hK hP hD hS hA hl.1 (c_X_read l D a _ pc ac lk mq ma mb ir sw io dl ha rd sn md kf kb cn pf co ou ma) k_X_91 (rc_X hK hP) ⟨by decide, by decide⟩ rfl rfl (Nat.le_of_ble_eq_true rfl) ⟨Nat.le_refl _, Nat.le_refl _⟩ dX_fetch_6 (fun r u H locs hw hP hD hS => ?_)
  obtain ⟨rfl, rfl⟩ := hw
  refine p_X_X_mb S hK hP hD hS dX_fetch_9 (fun H locs hP hD hS => ?_)
  refine lv_aload_n S.1 S.2.1 dX_fetch_12 rfl (lv_at hl 0 rfl) ?_
  refine lv_aload_n S.1 S.2.1 dX_fetch_13 rfl (lv_at hl 0 rfl) ?_
  refine g_X_X_mb S hK hP dX_fetch_14 ?_
  refine p_X_X_ir S hK hP hD hS dX_fetch_17 (fun H locs hP hD hS => ?_)
  refine lv_aload_n S.1 S.2.1 dX_fetch_20 rfl (lv_at hl 0 rfl) ?_
  refine g_X_X_ir S hK hP dX_fetch_21 ?_
  refine lv_sipush (v := 3584) S.1 S.2.1 dX_fetch_24 (by decide) ?_
  refine lv_icmp_lt (tgt := 33) S.1 S.2.1 dX_fetch_27 (by decide) (fun g1 => ?_) (fun g1 => ?_)
  · refine lv_aload_n S.1 S.2.1 dX_fetch_33 rfl (lv_at hl 0 rfl) ?_
    refine g_X_X_ir S hK hP dX_fetch_34 ?_
    refine lv_sipush (v := 3072) S.1 S.2.1 dX_fetch_37 (by decide) ?_
    refine lv_icmp_lt (tgt := 48) S.1 S.2.1 dX_fetch_40 (by decide) (fun g2 => ?_) (fun g2 => ?_)
    · refine lv_iconst (v := 2) S.1 S.2.1 dX_fetch_48 (by decide) ?_
      exact rt_i S hr hk hK hP hD hS ((by simp [mu1, g1, g2])) dX_fetch_49
    · refine lv_bipush (v := 32) S.1 S.2.1 dX_fetch_43 (by decide) ?_
      refine lv_goto (tgt := 49) S.1 S.2.1 dX_fetch_45 (by decide) ?_
      exact rt_i S hr hk hK hP hD hS ((by simp [mu1, g1, g2])) dX_fetch_49
  · refine lv_bipush (v := 20) S.1 S.2.1 dX_fetch_30 (by decide) ?_
    exact rt_i S hr hk hK hP hD hS ((by simp [mu1, g1])) dX_fetch_32

set_option maxHeartbeats 4000000 in
set_option maxRecDepth 100000 in
theorem c_X_findAddress (l : Launch) (D : va_G) (a : AX) (sz : Nat) (pc ac lk mq ma mb ir sw io dl ha rd sn md kf kb cn pf : Int32) (co ou : Nat → Int32) : MI l D (wx a) (tx a) sz yX_findAddress cX_findAddress 2 (some .int) 1 [.ref a.1] (pc, ac, lk, mq, ma, mb, ir, sw, io, dl, ha, rd, sn, md, kf, kb, cn, pf, co, ou) (fun r u => (r, u) = mu2 (pc, ac, lk, mq, ma, mb, ir, sw, io, dl, ha, rd, sn, md, kf, kb, cn, pf, co, ou)) := by
  refine en_i RX rfl (by decide) (Nat.le_of_ble_eq_true rfl) ?_
  intro p e s m below meth c A ls S hr hk hA hN hK hP hD hS hl
  have hl : lv_has ls 2 [(0, .ref a.1)] := hl
  refine lv_aload_n S.1 S.2.1 dX_findAddress_0 rfl (lv_at hl 0 rfl) ?_
  refine lv_sipush (v := 128) S.1 S.2.1 dX_findAddress_1 (by decide) ?_
  refine cl_i (As := [.int 128]) (rest := []) S hN hK hP hD hS hA hl.1 (c_X_irHas l D a _ pc ac lk mq ma mb ir sw io dl ha rd sn md kf kb cn pf co ou 128) k_X_233 (rc_X hK hP) ⟨by decide, by decide⟩ rfl rfl (Nat.le_of_ble_eq_true rfl) ⟨Nat.le_refl _, Nat.le_refl _⟩ dX_findAddress_4 (fun r u H locs hw hP hD hS => ?_)
  obtain ⟨g1, rfl, rfl⟩ | ⟨g2, rfl, rfl⟩ := hw
  · refine lv_if_eq (tgt := 21) S.1 S.2.1 dX_findAddress_7 (by decide) (fun _ => ?_) (fun g3 => absurd (by decide) g3)
    refine lv_iconst (v := 0) S.1 S.2.1 dX_findAddress_21 (by decide) ?_
    refine lv_istore_n S.1 S.2.1 dX_findAddress_22 rfl hl (by decide) rfl (fun ls hl => ?_)
    have hl : lv_has ls 2 [(1, .int 0), (0, .ref a.1)] := hl
    refine lv_aload_n S.1 S.2.1 dX_findAddress_23 rfl (lv_at hl 1 rfl) ?_
    refine lv_iload_n S.1 S.2.1 dX_findAddress_24 rfl (lv_at hl 0 rfl) ?_
    refine lv_aload_n S.1 S.2.1 dX_findAddress_25 rfl (lv_at hl 1 rfl) ?_
    refine g_X_X_ir S hK hP dX_findAddress_26 ?_
    refine lv_bipush (v := 127) S.1 S.2.1 dX_findAddress_29 (by decide) ?_
    refine lv_iand S.1 S.2.1 dX_findAddress_31 ?_
    refine lv_iadd S.1 S.2.1 dX_findAddress_32 ?_
    refine p_X_X_ma S hK hP hD hS dX_findAddress_33 (fun H locs hP hD hS => ?_)
    refine lv_aload_n S.1 S.2.1 dX_findAddress_36 rfl (lv_at hl 1 rfl) ?_
    refine lv_sipush (v := 256) S.1 S.2.1 dX_findAddress_37 (by decide) ?_
    refine cl_i (As := [.int 256]) (rest := []) S hN hK hP hD hS hA hl.1 (c_X_irHas l D a _ pc ac lk mq (0 + (ir &&& 127)) mb ir sw io dl ha rd sn md kf kb cn pf co ou 256) k_X_233 (rc_X hK hP) ⟨by decide, by decide⟩ rfl rfl (Nat.le_of_ble_eq_true rfl) ⟨Nat.le_refl _, Nat.le_refl _⟩ dX_findAddress_40 (fun r u H locs hw hP hD hS => ?_)
    obtain ⟨g4, rfl, rfl⟩ | ⟨g5, rfl, rfl⟩ := hw
    · refine lv_if_eq (tgt := 50) S.1 S.2.1 dX_findAddress_43 (by decide) (fun _ => ?_) (fun g6 => absurd (by decide) g6)
      refine lv_aload_n S.1 S.2.1 dX_findAddress_50 rfl (lv_at hl 1 rfl) ?_
      refine cl_i (As := []) (rest := []) S hN hK hP hD hS hA hl.1 (c_X_firstOfInstruction l D a _ pc ac lk mq (0 + (ir &&& 127)) mb ir sw io dl ha rd sn md kf kb cn pf co ou ) k_X_236 (rc_X hK hP) ⟨by decide, by decide⟩ rfl rfl (Nat.le_of_ble_eq_true rfl) ⟨Nat.le_refl _, Nat.le_refl _⟩ dX_findAddress_51 (fun r u H locs hw hP hD hS => ?_)
      obtain ⟨rfl, rfl⟩ := hw
      exact rt_i S hr hk hK hP hD hS ((by simp [mu2, g1, g4])) dX_findAddress_54
    · refine lv_if_eq (tgt := 50) S.1 S.2.1 dX_findAddress_43 (by decide) (fun g7 => absurd g7 (by decide)) (fun _ => ?_)
      refine lv_iconst (v := 3) S.1 S.2.1 dX_findAddress_46 (by decide) ?_
      refine lv_goto (tgt := 54) S.1 S.2.1 dX_findAddress_47 (by decide) ?_
      exact rt_i S hr hk hK hP hD hS ((by simp [mu2, g1, g5])) dX_findAddress_54
  · refine lv_if_eq (tgt := 21) S.1 S.2.1 dX_findAddress_7 (by decide) (fun g8 => absurd g8 (by decide)) (fun _ => ?_)
    refine lv_aload_n S.1 S.2.1 dX_findAddress_10 rfl (lv_at hl 0 rfl) ?_
    refine g_X_X_ma S hK hP dX_findAddress_11 ?_
    refine lv_sipush (v := 3968) S.1 S.2.1 dX_findAddress_14 (by decide) ?_
    refine lv_iand S.1 S.2.1 dX_findAddress_17 ?_
    refine lv_goto (tgt := 22) S.1 S.2.1 dX_findAddress_18 (by decide) ?_
    refine lv_istore_n S.1 S.2.1 dX_findAddress_22 rfl hl (by decide) rfl (fun ls hl => ?_)
    have hl : lv_has ls 2 [(1, .int (ma &&& 3968)), (0, .ref a.1)] := hl
    refine lv_aload_n S.1 S.2.1 dX_findAddress_23 rfl (lv_at hl 1 rfl) ?_
    refine lv_iload_n S.1 S.2.1 dX_findAddress_24 rfl (lv_at hl 0 rfl) ?_
    refine lv_aload_n S.1 S.2.1 dX_findAddress_25 rfl (lv_at hl 1 rfl) ?_
    refine g_X_X_ir S hK hP dX_findAddress_26 ?_
    refine lv_bipush (v := 127) S.1 S.2.1 dX_findAddress_29 (by decide) ?_
    refine lv_iand S.1 S.2.1 dX_findAddress_31 ?_
    refine lv_iadd S.1 S.2.1 dX_findAddress_32 ?_
    refine p_X_X_ma S hK hP hD hS dX_findAddress_33 (fun H locs hP hD hS => ?_)
    refine lv_aload_n S.1 S.2.1 dX_findAddress_36 rfl (lv_at hl 1 rfl) ?_
    refine lv_sipush (v := 256) S.1 S.2.1 dX_findAddress_37 (by decide) ?_
    refine cl_i (As := [.int 256]) (rest := []) S hN hK hP hD hS hA hl.1 (c_X_irHas l D a _ pc ac lk mq ((ma &&& 3968) + (ir &&& 127)) mb ir sw io dl ha rd sn md kf kb cn pf co ou 256) k_X_233 (rc_X hK hP) ⟨by decide, by decide⟩ rfl rfl (Nat.le_of_ble_eq_true rfl) ⟨Nat.le_refl _, Nat.le_refl _⟩ dX_findAddress_40 (fun r u H locs hw hP hD hS => ?_)
    obtain ⟨g9, rfl, rfl⟩ | ⟨g10, rfl, rfl⟩ := hw
    · refine lv_if_eq (tgt := 50) S.1 S.2.1 dX_findAddress_43 (by decide) (fun _ => ?_) (fun g11 => absurd (by decide) g11)
      refine lv_aload_n S.1 S.2.1 dX_findAddress_50 rfl (lv_at hl 1 rfl) ?_
      refine cl_i (As := []) (rest := []) S hN hK hP hD hS hA hl.1 (c_X_firstOfInstruction l D a _ pc ac lk mq ((ma &&& 3968) + (ir &&& 127)) mb ir sw io dl ha rd sn md kf kb cn pf co ou ) k_X_236 (rc_X hK hP) ⟨by decide, by decide⟩ rfl rfl (Nat.le_of_ble_eq_true rfl) ⟨Nat.le_refl _, Nat.le_refl _⟩ dX_findAddress_51 (fun r u H locs hw hP hD hS => ?_)
      obtain ⟨rfl, rfl⟩ := hw
      exact rt_i S hr hk hK hP hD hS ((by simp [mu2, g2, g9])) dX_findAddress_54
    · refine lv_if_eq (tgt := 50) S.1 S.2.1 dX_findAddress_43 (by decide) (fun g12 => absurd g12 (by decide)) (fun _ => ?_)
      refine lv_iconst (v := 3) S.1 S.2.1 dX_findAddress_46 (by decide) ?_
      refine lv_goto (tgt := 54) S.1 S.2.1 dX_findAddress_47 (by decide) ?_
      exact rt_i S hr hk hK hP hD hS ((by simp [mu2, g2, g10])) dX_findAddress_54

set_option maxHeartbeats 4000000 in
set_option maxRecDepth 100000 in
theorem c_X_readPointer (l : Launch) (D : va_G) (a : AX) (sz : Nat) (pc ac lk mq ma mb ir sw io dl ha rd sn md kf kb cn pf : Int32) (co ou : Nat → Int32) : MI l D (wx a) (tx a) sz yX_readPointer cX_readPointer 1 (some .int) 1 [.ref a.1] (pc, ac, lk, mq, ma, mb, ir, sw, io, dl, ha, rd, sn, md, kf, kb, cn, pf, co, ou) (fun r u => (r, u) = mu3 (pc, ac, lk, mq, ma, mb, ir, sw, io, dl, ha, rd, sn, md, kf, kb, cn, pf, co, ou)) := by
  refine en_i RX rfl (by decide) (Nat.le_of_ble_eq_true rfl) ?_
  intro p e s m below meth c A ls S hr hk hA hN hK hP hD hS hl
  have hl : lv_has ls 1 [(0, .ref a.1)] := hl
  refine lv_aload_n S.1 S.2.1 dX_readPointer_0 rfl (lv_at hl 0 rfl) ?_
  refine lv_aload_n S.1 S.2.1 dX_readPointer_1 rfl (lv_at hl 0 rfl) ?_
  refine lv_aload_n S.1 S.2.1 dX_readPointer_2 rfl (lv_at hl 0 rfl) ?_
  refine g_X_X_ma S hK hP dX_readPointer_3 ?_
  refine cl_i (As := [.int ma]) (rest := [.ref a.1]) S hN hK hP hD hS hA hl.1 (c_X_read l D a _ pc ac lk mq ma mb ir sw io dl ha rd sn md kf kb cn pf co ou ma) k_X_91 (rc_X hK hP) ⟨by decide, by decide⟩ rfl rfl (Nat.le_of_ble_eq_true rfl) ⟨Nat.le_refl _, Nat.le_refl _⟩ dX_readPointer_6 (fun r u H locs hw hP hD hS => ?_)
  obtain ⟨rfl, rfl⟩ := hw
  refine p_X_X_mb S hK hP hD hS dX_readPointer_9 (fun H locs hP hD hS => ?_)
  refine lv_aload_n S.1 S.2.1 dX_readPointer_12 rfl (lv_at hl 0 rfl) ?_
  refine g_X_X_ma S hK hP dX_readPointer_13 ?_
  refine lv_bipush (v := 8) S.1 S.2.1 dX_readPointer_16 (by decide) ?_
  refine lv_icmp_lt (tgt := 34) S.1 S.2.1 dX_readPointer_18 (by decide) (fun g1 => ?_) (fun g1 => ?_)
  · refine lv_iconst (v := 5) S.1 S.2.1 dX_readPointer_34 (by decide) ?_
    exact rt_i S hr hk hK hP hD hS ((by simp [mu3, g1])) dX_readPointer_35
  · refine lv_aload_n S.1 S.2.1 dX_readPointer_21 rfl (lv_at hl 0 rfl) ?_
    refine g_X_X_ma S hK hP dX_readPointer_22 ?_
    refine lv_bipush (v := 15) S.1 S.2.1 dX_readPointer_25 (by decide) ?_
    refine lv_icmp_gt (tgt := 34) S.1 S.2.1 dX_readPointer_27 (by decide) (fun g2 => ?_) (fun g2 => ?_)
    · refine lv_iconst (v := 5) S.1 S.2.1 dX_readPointer_34 (by decide) ?_
      exact rt_i S hr hk hK hP hD hS ((by simp [mu3, g1, g2])) dX_readPointer_35
    · refine lv_iconst (v := 4) S.1 S.2.1 dX_readPointer_30 (by decide) ?_
      refine lv_goto (tgt := 35) S.1 S.2.1 dX_readPointer_31 (by decide) ?_
      exact rt_i S hr hk hK hP hD hS ((by simp [mu3, g1, g2])) dX_readPointer_35

set_option maxHeartbeats 4000000 in
set_option maxRecDepth 100000 in
theorem c_X_advancePointer (l : Launch) (D : va_G) (a : AX) (sz : Nat) (pc ac lk mq ma mb ir sw io dl ha rd sn md kf kb cn pf : Int32) (co ou : Nat → Int32) : MI l D (wx a) (tx a) sz yX_advancePointer cX_advancePointer 1 (some .int) 1 [.ref a.1] (pc, ac, lk, mq, ma, mb, ir, sw, io, dl, ha, rd, sn, md, kf, kb, cn, pf, co, ou) (fun r u => (r, u) = mu4 (pc, ac, lk, mq, ma, mb, ir, sw, io, dl, ha, rd, sn, md, kf, kb, cn, pf, co, ou)) := by
  refine en_i RX rfl (by decide) (Nat.le_of_ble_eq_true rfl) ?_
  intro p e s m below meth c A ls S hr hk hA hN hK hP hD hS hl
  have hl : lv_has ls 1 [(0, .ref a.1)] := hl
  refine lv_aload_n S.1 S.2.1 dX_advancePointer_0 rfl (lv_at hl 0 rfl) ?_
  refine lv_aload_n S.1 S.2.1 dX_advancePointer_1 rfl (lv_at hl 0 rfl) ?_
  refine g_X_X_mb S hK hP dX_advancePointer_2 ?_
  refine lv_iconst (v := 1) S.1 S.2.1 dX_advancePointer_5 (by decide) ?_
  refine lv_iadd S.1 S.2.1 dX_advancePointer_6 ?_
  refine lv_sipush (v := 4095) S.1 S.2.1 dX_advancePointer_7 (by decide) ?_
  refine lv_iand S.1 S.2.1 dX_advancePointer_10 ?_
  refine p_X_X_mb S hK hP hD hS dX_advancePointer_11 (fun H locs hP hD hS => ?_)
  refine lv_aload_n S.1 S.2.1 dX_advancePointer_14 rfl (lv_at hl 0 rfl) ?_
  refine lv_aload_n S.1 S.2.1 dX_advancePointer_15 rfl (lv_at hl 0 rfl) ?_
  refine g_X_X_ma S hK hP dX_advancePointer_16 ?_
  refine lv_aload_n S.1 S.2.1 dX_advancePointer_19 rfl (lv_at hl 0 rfl) ?_
  refine g_X_X_mb S hK hP dX_advancePointer_20 ?_
  refine cl_v (As := [.int ma, .int ((mb + 1) &&& 4095)]) (rest := []) S hN hK hP hD hS hA hl.1 (c_X_write l D a _ pc ac lk mq ma ((mb + 1) &&& 4095) ir sw io dl ha rd sn md kf kb cn pf co ou ma ((mb + 1) &&& 4095)) k_X_87 (rc_X hK hP) ⟨by decide, by decide⟩ rfl rfl (Nat.le_of_ble_eq_true rfl) ⟨Nat.le_refl _, Nat.le_refl _⟩ dX_advancePointer_23 (fun u H locs hw hP hD hS => ?_)
  obtain rfl := hw
  refine lv_iconst (v := 5) S.1 S.2.1 dX_advancePointer_26 (by decide) ?_
  exact rt_i S hr hk hK hP hD hS ((by simp [mu4])) dX_advancePointer_27

set_option maxHeartbeats 4000000 in
set_option maxRecDepth 100000 in
theorem c_X_followPointer (l : Launch) (D : va_G) (a : AX) (sz : Nat) (pc ac lk mq ma mb ir sw io dl ha rd sn md kf kb cn pf : Int32) (co ou : Nat → Int32) : MI l D (wx a) (tx a) sz yX_followPointer cX_followPointer 1 (some .int) 1 [.ref a.1] (pc, ac, lk, mq, ma, mb, ir, sw, io, dl, ha, rd, sn, md, kf, kb, cn, pf, co, ou) (fun r u => (r, u) = mu5 (pc, ac, lk, mq, ma, mb, ir, sw, io, dl, ha, rd, sn, md, kf, kb, cn, pf, co, ou)) := by
  refine en_i RX rfl (by decide) (Nat.le_of_ble_eq_true rfl) ?_
  intro p e s m below meth c A ls S hr hk hA hN hK hP hD hS hl
  have hl : lv_has ls 1 [(0, .ref a.1)] := hl
  refine lv_aload_n S.1 S.2.1 dX_followPointer_0 rfl (lv_at hl 0 rfl) ?_
  refine lv_aload_n S.1 S.2.1 dX_followPointer_1 rfl (lv_at hl 0 rfl) ?_
  refine g_X_X_mb S hK hP dX_followPointer_2 ?_
  refine p_X_X_ma S hK hP hD hS dX_followPointer_5 (fun H locs hP hD hS => ?_)
  refine lv_aload_n S.1 S.2.1 dX_followPointer_8 rfl (lv_at hl 0 rfl) ?_
  refine cl_i (As := []) (rest := []) S hN hK hP hD hS hA hl.1 (c_X_firstOfInstruction l D a _ pc ac lk mq mb mb ir sw io dl ha rd sn md kf kb cn pf co ou ) k_X_236 (rc_X hK hP) ⟨by decide, by decide⟩ rfl rfl (Nat.le_of_ble_eq_true rfl) ⟨Nat.le_refl _, Nat.le_refl _⟩ dX_followPointer_9 (fun r u H locs hw hP hD hS => ?_)
  obtain ⟨rfl, rfl⟩ := hw
  exact rt_i S hr hk hK hP hD hS ((by simp [mu5])) dX_followPointer_12

set_option maxHeartbeats 4000000 in
set_option maxRecDepth 100000 in
theorem c_X_readOneMore (l : Launch) (D : va_G) (a : AX) (sz : Nat) (pc ac lk mq ma mb ir sw io dl ha rd sn md kf kb cn pf : Int32) (co ou : Nat → Int32) : MI l D (wx a) (tx a) sz yX_readOneMore cX_readOneMore 1 (some .int) 1 [.ref a.1] (pc, ac, lk, mq, ma, mb, ir, sw, io, dl, ha, rd, sn, md, kf, kb, cn, pf, co, ou) (fun r u => (r, u) = mu10 (pc, ac, lk, mq, ma, mb, ir, sw, io, dl, ha, rd, sn, md, kf, kb, cn, pf, co, ou)) := by
  refine en_i RX rfl (by decide) (Nat.le_of_ble_eq_true rfl) ?_
  intro p e s m below meth c A ls S hr hk hA hN hK hP hD hS hl
  have hl : lv_has ls 1 [(0, .ref a.1)] := hl
  refine lv_aload_n S.1 S.2.1 dX_readOneMore_0 rfl (lv_at hl 0 rfl) ?_
  refine lv_aload_n S.1 S.2.1 dX_readOneMore_1 rfl (lv_at hl 0 rfl) ?_
  refine lv_aload_n S.1 S.2.1 dX_readOneMore_2 rfl (lv_at hl 0 rfl) ?_
  refine g_X_X_ma S hK hP dX_readOneMore_3 ?_
  refine cl_i (As := [.int ma]) (rest := [.ref a.1]) S hN hK hP hD hS hA hl.1 (c_X_read l D a _ pc ac lk mq ma mb ir sw io dl ha rd sn md kf kb cn pf co ou ma) k_X_91 (rc_X hK hP) ⟨by decide, by decide⟩ rfl rfl (Nat.le_of_ble_eq_true rfl) ⟨Nat.le_refl _, Nat.le_refl _⟩ dX_readOneMore_6 (fun r u H locs hw hP hD hS => ?_)
  obtain ⟨rfl, rfl⟩ := hw
  refine lv_iconst (v := 1) S.1 S.2.1 dX_readOneMore_9 (by decide) ?_
  refine lv_iadd S.1 S.2.1 dX_readOneMore_10 ?_
  refine lv_sipush (v := 4095) S.1 S.2.1 dX_readOneMore_11 (by decide) ?_
  refine lv_iand S.1 S.2.1 dX_readOneMore_14 ?_
  refine p_X_X_mb S hK hP hD hS dX_readOneMore_15 (fun H locs hP hD hS => ?_)
  refine lv_bipush (v := 18) S.1 S.2.1 dX_readOneMore_18 (by decide) ?_
  exact rt_i S hr hk hK hP hD hS ((by simp [mu10])) dX_readOneMore_20

set_option maxHeartbeats 4000000 in
set_option maxRecDepth 100000 in
theorem c_X_jump (l : Launch) (D : va_G) (a : AX) (sz : Nat) (pc ac lk mq ma mb ir sw io dl ha rd sn md kf kb cn pf : Int32) (co ou : Nat → Int32) : MI l D (wx a) (tx a) sz yX_jump cX_jump 1 (some .int) 0 [.ref a.1] (pc, ac, lk, mq, ma, mb, ir, sw, io, dl, ha, rd, sn, md, kf, kb, cn, pf, co, ou) (fun r u => (r, u) = mu13 (pc, ac, lk, mq, ma, mb, ir, sw, io, dl, ha, rd, sn, md, kf, kb, cn, pf, co, ou)) := by
  refine en_i RX rfl (by decide) (Nat.le_of_ble_eq_true rfl) ?_
  intro p e s m below meth c A ls S hr hk hA hN hK hP hD hS hl
  have hl : lv_has ls 1 [(0, .ref a.1)] := hl
  refine lv_aload_n S.1 S.2.1 dX_jump_0 rfl (lv_at hl 0 rfl) ?_
  refine lv_aload_n S.1 S.2.1 dX_jump_1 rfl (lv_at hl 0 rfl) ?_
  refine g_X_X_ma S hK hP dX_jump_2 ?_
  refine p_X_X_pc S hK hP hD hS dX_jump_5 (fun H locs hP hD hS => ?_)
  refine lv_iconst (v := 0) S.1 S.2.1 dX_jump_8 (by decide) ?_
  exact rt_i S hr hk hK hP hD hS ((by simp [mu13])) dX_jump_9

set_option maxHeartbeats 4000000 in
set_option maxRecDepth 100000 in
theorem c_X_storeAndGoBehind (l : Launch) (D : va_G) (a : AX) (sz : Nat) (pc ac lk mq ma mb ir sw io dl ha rd sn md kf kb cn pf : Int32) (co ou : Nat → Int32) : MI l D (wx a) (tx a) sz yX_storeAndGoBehind cX_storeAndGoBehind 1 (some .int) 1 [.ref a.1] (pc, ac, lk, mq, ma, mb, ir, sw, io, dl, ha, rd, sn, md, kf, kb, cn, pf, co, ou) (fun r u => (r, u) = mu15 (pc, ac, lk, mq, ma, mb, ir, sw, io, dl, ha, rd, sn, md, kf, kb, cn, pf, co, ou)) := by
  refine en_i RX rfl (by decide) (Nat.le_of_ble_eq_true rfl) ?_
  intro p e s m below meth c A ls S hr hk hA hN hK hP hD hS hl
  have hl : lv_has ls 1 [(0, .ref a.1)] := hl
  refine lv_aload_n S.1 S.2.1 dX_storeAndGoBehind_0 rfl (lv_at hl 0 rfl) ?_
  refine lv_aload_n S.1 S.2.1 dX_storeAndGoBehind_1 rfl (lv_at hl 0 rfl) ?_
  refine g_X_X_ma S hK hP dX_storeAndGoBehind_2 ?_
  refine lv_aload_n S.1 S.2.1 dX_storeAndGoBehind_5 rfl (lv_at hl 0 rfl) ?_
  refine g_X_X_mb S hK hP dX_storeAndGoBehind_6 ?_
  refine cl_v (As := [.int ma, .int mb]) (rest := []) S hN hK hP hD hS hA hl.1 (c_X_write l D a _ pc ac lk mq ma mb ir sw io dl ha rd sn md kf kb cn pf co ou ma mb) k_X_87 (rc_X hK hP) ⟨by decide, by decide⟩ rfl rfl (Nat.le_of_ble_eq_true rfl) ⟨Nat.le_refl _, Nat.le_refl _⟩ dX_storeAndGoBehind_9 (fun u H locs hw hP hD hS => ?_)
  obtain rfl := hw
  refine lv_aload_n S.1 S.2.1 dX_storeAndGoBehind_12 rfl (lv_at hl 0 rfl) ?_
  refine lv_aload_n S.1 S.2.1 dX_storeAndGoBehind_13 rfl (lv_at hl 0 rfl) ?_
  refine g_X_X_ma S hK hP dX_storeAndGoBehind_14 ?_
  refine lv_iconst (v := 1) S.1 S.2.1 dX_storeAndGoBehind_17 (by decide) ?_
  refine lv_iadd S.1 S.2.1 dX_storeAndGoBehind_18 ?_
  refine lv_sipush (v := 4095) S.1 S.2.1 dX_storeAndGoBehind_19 (by decide) ?_
  refine lv_iand S.1 S.2.1 dX_storeAndGoBehind_22 ?_
  refine p_X_X_pc S hK hP hD hS dX_storeAndGoBehind_23 (fun H locs hP hD hS => ?_)
  refine lv_iconst (v := 0) S.1 S.2.1 dX_storeAndGoBehind_26 (by decide) ?_
  exact rt_i S hr hk hK hP hD hS ((by simp [mu15])) dX_storeAndGoBehind_27

set_option maxHeartbeats 4000000 in
set_option maxRecDepth 100000 in
theorem c_X_andOperand (l : Launch) (D : va_G) (a : AX) (sz : Nat) (pc ac lk mq ma mb ir sw io dl ha rd sn md kf kb cn pf : Int32) (co ou : Nat → Int32) : MI l D (wx a) (tx a) sz yX_andOperand cX_andOperand 1 (some .int) 0 [.ref a.1] (pc, ac, lk, mq, ma, mb, ir, sw, io, dl, ha, rd, sn, md, kf, kb, cn, pf, co, ou) (fun r u => (r, u) = mu16 (pc, ac, lk, mq, ma, mb, ir, sw, io, dl, ha, rd, sn, md, kf, kb, cn, pf, co, ou)) := by
  refine en_i RX rfl (by decide) (Nat.le_of_ble_eq_true rfl) ?_
  intro p e s m below meth c A ls S hr hk hA hN hK hP hD hS hl
  have hl : lv_has ls 1 [(0, .ref a.1)] := hl
  refine lv_aload_n S.1 S.2.1 dX_andOperand_0 rfl (lv_at hl 0 rfl) ?_
  refine lv_dup S.1 S.2.1 dX_andOperand_1 rfl ?_
  refine g_X_X_ac S hK hP dX_andOperand_2 ?_
  refine lv_aload_n S.1 S.2.1 dX_andOperand_5 rfl (lv_at hl 0 rfl) ?_
  refine g_X_X_mb S hK hP dX_andOperand_6 ?_
  refine lv_iand S.1 S.2.1 dX_andOperand_9 ?_
  refine p_X_X_ac S hK hP hD hS dX_andOperand_10 (fun H locs hP hD hS => ?_)
  refine lv_iconst (v := 0) S.1 S.2.1 dX_andOperand_13 (by decide) ?_
  exact rt_i S hr hk hK hP hD hS ((by simp [mu16])) dX_andOperand_14

set_option maxHeartbeats 4000000 in
set_option maxRecDepth 100000 in
theorem c_X_addOperand (l : Launch) (D : va_G) (a : AX) (sz : Nat) (pc ac lk mq ma mb ir sw io dl ha rd sn md kf kb cn pf : Int32) (co ou : Nat → Int32) : MI l D (wx a) (tx a) sz yX_addOperand cX_addOperand 1 (some .int) 2 [.ref a.1] (pc, ac, lk, mq, ma, mb, ir, sw, io, dl, ha, rd, sn, md, kf, kb, cn, pf, co, ou) (fun r u => (r, u) = mu17 (pc, ac, lk, mq, ma, mb, ir, sw, io, dl, ha, rd, sn, md, kf, kb, cn, pf, co, ou)) := by
  refine en_i RX rfl (by decide) (Nat.le_of_ble_eq_true rfl) ?_
  intro p e s m below meth c A ls S hr hk hA hN hK hP hD hS hl
  have hl : lv_has ls 1 [(0, .ref a.1)] := hl
  refine lv_aload_n S.1 S.2.1 dX_addOperand_0 rfl (lv_at hl 0 rfl) ?_
  refine lv_aload_n S.1 S.2.1 dX_addOperand_1 rfl (lv_at hl 0 rfl) ?_
  refine g_X_X_mb S hK hP dX_addOperand_2 ?_
  refine cl_v (As := [.int mb]) (rest := []) S hN hK hP hD hS hA hl.1 (c_X_addToAc l D a _ pc ac lk mq ma mb ir sw io dl ha rd sn md kf kb cn pf co ou mb) k_X_239 (rc_X hK hP) ⟨by decide, by decide⟩ rfl rfl (Nat.le_of_ble_eq_true rfl) ⟨Nat.le_refl _, Nat.le_refl _⟩ dX_addOperand_5 (fun u H locs hw hP hD hS => ?_)
  obtain ⟨g1, rfl⟩ | ⟨g2, rfl⟩ := hw
  · refine lv_iconst (v := 0) S.1 S.2.1 dX_addOperand_8 (by decide) ?_
    exact rt_i S hr hk hK hP hD hS ((by simp [mu17, g1])) dX_addOperand_9
  · refine lv_iconst (v := 0) S.1 S.2.1 dX_addOperand_8 (by decide) ?_
    exact rt_i S hr hk hK hP hD hS ((by simp [mu17, g2])) dX_addOperand_9

set_option maxHeartbeats 4000000 in
set_option maxRecDepth 100000 in
theorem c_X_storeAndSkipIfZero (l : Launch) (D : va_G) (a : AX) (sz : Nat) (pc ac lk mq ma mb ir sw io dl ha rd sn md kf kb cn pf : Int32) (co ou : Nat → Int32) : MI l D (wx a) (tx a) sz yX_storeAndSkipIfZero cX_storeAndSkipIfZero 1 (some .int) 1 [.ref a.1] (pc, ac, lk, mq, ma, mb, ir, sw, io, dl, ha, rd, sn, md, kf, kb, cn, pf, co, ou) (fun r u => (r, u) = mu18 (pc, ac, lk, mq, ma, mb, ir, sw, io, dl, ha, rd, sn, md, kf, kb, cn, pf, co, ou)) := by
  refine en_i RX rfl (by decide) (Nat.le_of_ble_eq_true rfl) ?_
  intro p e s m below meth c A ls S hr hk hA hN hK hP hD hS hl
  have hl : lv_has ls 1 [(0, .ref a.1)] := hl
  refine lv_aload_n S.1 S.2.1 dX_storeAndSkipIfZero_0 rfl (lv_at hl 0 rfl) ?_
  refine lv_aload_n S.1 S.2.1 dX_storeAndSkipIfZero_1 rfl (lv_at hl 0 rfl) ?_
  refine g_X_X_ma S hK hP dX_storeAndSkipIfZero_2 ?_
  refine lv_aload_n S.1 S.2.1 dX_storeAndSkipIfZero_5 rfl (lv_at hl 0 rfl) ?_
  refine g_X_X_mb S hK hP dX_storeAndSkipIfZero_6 ?_
  refine cl_v (As := [.int ma, .int mb]) (rest := []) S hN hK hP hD hS hA hl.1 (c_X_write l D a _ pc ac lk mq ma mb ir sw io dl ha rd sn md kf kb cn pf co ou ma mb) k_X_87 (rc_X hK hP) ⟨by decide, by decide⟩ rfl rfl (Nat.le_of_ble_eq_true rfl) ⟨Nat.le_refl _, Nat.le_refl _⟩ dX_storeAndSkipIfZero_9 (fun u H locs hw hP hD hS => ?_)
  obtain rfl := hw
  refine lv_aload_n S.1 S.2.1 dX_storeAndSkipIfZero_12 rfl (lv_at hl 0 rfl) ?_
  refine g_X_X_mb S hK hP dX_storeAndSkipIfZero_13 ?_
  refine lv_if_ne (tgt := 23) S.1 S.2.1 dX_storeAndSkipIfZero_16 (by decide) (fun g1 => ?_) (fun g1 => ?_)
  · refine lv_iconst (v := 0) S.1 S.2.1 dX_storeAndSkipIfZero_23 (by decide) ?_
    exact rt_i S hr hk hK hP hD hS ((by simp [mu18, g1])) dX_storeAndSkipIfZero_24
  · refine lv_aload_n S.1 S.2.1 dX_storeAndSkipIfZero_19 rfl (lv_at hl 0 rfl) ?_
    refine cl_v (As := []) (rest := []) S hN hK hP hD hS hA hl.1 (c_X_advancePc l D a _ pc ac lk mq ma mb ir sw io dl ha rd sn md kf kb cn pf (upd co (ma &&& 4095).toNatClampNeg (mb &&& 4095)) ou ) k_X_230 (rc_X hK hP) ⟨by decide, by decide⟩ rfl rfl (Nat.le_of_ble_eq_true rfl) ⟨Nat.le_refl _, Nat.le_refl _⟩ dX_storeAndSkipIfZero_20 (fun u H locs hw hP hD hS => ?_)
    obtain rfl := hw
    refine lv_iconst (v := 0) S.1 S.2.1 dX_storeAndSkipIfZero_23 (by decide) ?_
    exact rt_i S hr hk hK hP hD hS ((by simp [mu18, g1])) dX_storeAndSkipIfZero_24

set_option maxHeartbeats 4000000 in
set_option maxRecDepth 100000 in
theorem c_X_storeAndClear (l : Launch) (D : va_G) (a : AX) (sz : Nat) (pc ac lk mq ma mb ir sw io dl ha rd sn md kf kb cn pf : Int32) (co ou : Nat → Int32) : MI l D (wx a) (tx a) sz yX_storeAndClear cX_storeAndClear 1 (some .int) 1 [.ref a.1] (pc, ac, lk, mq, ma, mb, ir, sw, io, dl, ha, rd, sn, md, kf, kb, cn, pf, co, ou) (fun r u => (r, u) = mu19 (pc, ac, lk, mq, ma, mb, ir, sw, io, dl, ha, rd, sn, md, kf, kb, cn, pf, co, ou)) := by
  refine en_i RX rfl (by decide) (Nat.le_of_ble_eq_true rfl) ?_
  intro p e s m below meth c A ls S hr hk hA hN hK hP hD hS hl
  have hl : lv_has ls 1 [(0, .ref a.1)] := hl
  refine lv_aload_n S.1 S.2.1 dX_storeAndClear_0 rfl (lv_at hl 0 rfl) ?_
  refine lv_aload_n S.1 S.2.1 dX_storeAndClear_1 rfl (lv_at hl 0 rfl) ?_
  refine g_X_X_ma S hK hP dX_storeAndClear_2 ?_
  refine lv_aload_n S.1 S.2.1 dX_storeAndClear_5 rfl (lv_at hl 0 rfl) ?_
  refine g_X_X_mb S hK hP dX_storeAndClear_6 ?_
  refine cl_v (As := [.int ma, .int mb]) (rest := []) S hN hK hP hD hS hA hl.1 (c_X_write l D a _ pc ac lk mq ma mb ir sw io dl ha rd sn md kf kb cn pf co ou ma mb) k_X_87 (rc_X hK hP) ⟨by decide, by decide⟩ rfl rfl (Nat.le_of_ble_eq_true rfl) ⟨Nat.le_refl _, Nat.le_refl _⟩ dX_storeAndClear_9 (fun u H locs hw hP hD hS => ?_)
  obtain rfl := hw
  refine lv_aload_n S.1 S.2.1 dX_storeAndClear_12 rfl (lv_at hl 0 rfl) ?_
  refine lv_iconst (v := 0) S.1 S.2.1 dX_storeAndClear_13 (by decide) ?_
  refine p_X_X_ac S hK hP hD hS dX_storeAndClear_14 (fun H locs hP hD hS => ?_)
  refine lv_iconst (v := 0) S.1 S.2.1 dX_storeAndClear_17 (by decide) ?_
  exact rt_i S hr hk hK hP hD hS ((by simp [mu19])) dX_storeAndClear_18

set_option maxHeartbeats 4000000 in
set_option maxRecDepth 100000 in
theorem c_X_chooseOperateGroup (l : Launch) (D : va_G) (a : AX) (sz : Nat) (pc ac lk mq ma mb ir sw io dl ha rd sn md kf kb cn pf : Int32) (co ou : Nat → Int32) : MI l D (wx a) (tx a) sz yX_chooseOperateGroup cX_chooseOperateGroup 1 (some .int) 1 [.ref a.1] (pc, ac, lk, mq, ma, mb, ir, sw, io, dl, ha, rd, sn, md, kf, kb, cn, pf, co, ou) (fun r u => (r, u) = mu20 (pc, ac, lk, mq, ma, mb, ir, sw, io, dl, ha, rd, sn, md, kf, kb, cn, pf, co, ou)) := by
  refine en_i RX rfl (by decide) (Nat.le_of_ble_eq_true rfl) ?_
  intro p e s m below meth c A ls S hr hk hA hN hK hP hD hS hl
  have hl : lv_has ls 1 [(0, .ref a.1)] := hl
  refine lv_aload_n S.1 S.2.1 dX_chooseOperateGroup_0 rfl (lv_at hl 0 rfl) ?_
  refine lv_sipush (v := 256) S.1 S.2.1 dX_chooseOperateGroup_1 (by decide) ?_
  refine cl_i (As := [.int 256]) (rest := []) S hN hK hP hD hS hA hl.1 (c_X_irHas l D a _ pc ac lk mq ma mb ir sw io dl ha rd sn md kf kb cn pf co ou 256) k_X_233 (rc_X hK hP) ⟨by decide, by decide⟩ rfl rfl (Nat.le_of_ble_eq_true rfl) ⟨Nat.le_refl _, Nat.le_refl _⟩ dX_chooseOperateGroup_4 (fun r u H locs hw hP hD hS => ?_)
  obtain ⟨g1, rfl, rfl⟩ | ⟨g2, rfl, rfl⟩ := hw
  · refine lv_if_ne (tgt := 13) S.1 S.2.1 dX_chooseOperateGroup_7 (by decide) (fun g3 => absurd (by decide) g3) (fun _ => ?_)
    refine lv_bipush (v := 21) S.1 S.2.1 dX_chooseOperateGroup_10 (by decide) ?_
    exact rt_i S hr hk hK hP hD hS ((by simp [mu20, g1])) dX_chooseOperateGroup_12
  · refine lv_if_ne (tgt := 13) S.1 S.2.1 dX_chooseOperateGroup_7 (by decide) (fun _ => ?_) (fun g4 => absurd g4 (by decide))
    refine lv_aload_n S.1 S.2.1 dX_chooseOperateGroup_13 rfl (lv_at hl 0 rfl) ?_
    refine lv_iconst (v := 1) S.1 S.2.1 dX_chooseOperateGroup_14 (by decide) ?_
    refine cl_i (As := [.int 1]) (rest := []) S hN hK hP hD hS hA hl.1 (c_X_irHas l D a _ pc ac lk mq ma mb ir sw io dl ha rd sn md kf kb cn pf co ou 1) k_X_233 (rc_X hK hP) ⟨by decide, by decide⟩ rfl rfl (Nat.le_of_ble_eq_true rfl) ⟨Nat.le_refl _, Nat.le_refl _⟩ dX_chooseOperateGroup_15 (fun r u H locs hw hP hD hS => ?_)
    obtain ⟨g5, rfl, rfl⟩ | ⟨g6, rfl, rfl⟩ := hw
    · refine lv_if_eq (tgt := 26) S.1 S.2.1 dX_chooseOperateGroup_18 (by decide) (fun _ => ?_) (fun g7 => absurd (by decide) g7)
      refine lv_bipush (v := 26) S.1 S.2.1 dX_chooseOperateGroup_26 (by decide) ?_
      exact rt_i S hr hk hK hP hD hS ((by simp [mu20, g2, g5])) dX_chooseOperateGroup_28
    · refine lv_if_eq (tgt := 26) S.1 S.2.1 dX_chooseOperateGroup_18 (by decide) (fun g8 => absurd g8 (by decide)) (fun _ => ?_)
      refine lv_bipush (v := 30) S.1 S.2.1 dX_chooseOperateGroup_21 (by decide) ?_
      refine lv_goto (tgt := 28) S.1 S.2.1 dX_chooseOperateGroup_23 (by decide) ?_
      exact rt_i S hr hk hK hP hD hS ((by simp [mu20, g2, g6])) dX_chooseOperateGroup_28

set_option maxHeartbeats 4000000 in
set_option maxRecDepth 100000 in
theorem c_X_clear (l : Launch) (D : va_G) (a : AX) (sz : Nat) (pc ac lk mq ma mb ir sw io dl ha rd sn md kf kb cn pf : Int32) (co ou : Nat → Int32) : MI l D (wx a) (tx a) sz yX_clear cX_clear 1 (some .int) 2 [.ref a.1] (pc, ac, lk, mq, ma, mb, ir, sw, io, dl, ha, rd, sn, md, kf, kb, cn, pf, co, ou) (fun r u => (r, u) = mu21 (pc, ac, lk, mq, ma, mb, ir, sw, io, dl, ha, rd, sn, md, kf, kb, cn, pf, co, ou)) := by
  refine en_i RX rfl (by decide) (Nat.le_of_ble_eq_true rfl) ?_
  intro p e s m below meth c A ls S hr hk hA hN hK hP hD hS hl
  have hl : lv_has ls 1 [(0, .ref a.1)] := hl
  refine lv_aload_n S.1 S.2.1 dX_clear_0 rfl (lv_at hl 0 rfl) ?_
  refine cl_v (As := []) (rest := []) S hN hK hP hD hS hA hl.1 (c_X_clearAcIfAsked l D a _ pc ac lk mq ma mb ir sw io dl ha rd sn md kf kb cn pf co ou ) k_X_245 (rc_X hK hP) ⟨by decide, by decide⟩ rfl rfl (Nat.le_of_ble_eq_true rfl) ⟨Nat.le_refl _, Nat.le_refl _⟩ dX_clear_1 (fun u H locs hw hP hD hS => ?_)
  obtain ⟨g1, rfl⟩ | ⟨g2, rfl⟩ := hw
  · refine lv_aload_n S.1 S.2.1 dX_clear_4 rfl (lv_at hl 0 rfl) ?_
    refine lv_bipush (v := 64) S.1 S.2.1 dX_clear_5 (by decide) ?_
    refine cl_i (As := [.int 64]) (rest := []) S hN hK hP hD hS hA hl.1 (c_X_irHas l D a _ pc ac lk mq ma mb ir sw io dl ha rd sn md kf kb cn pf co ou 64) k_X_233 (rc_X hK hP) ⟨by decide, by decide⟩ rfl rfl (Nat.le_of_ble_eq_true rfl) ⟨Nat.le_refl _, Nat.le_refl _⟩ dX_clear_7 (fun r u H locs hw hP hD hS => ?_)
    obtain ⟨g3, rfl, rfl⟩ | ⟨g4, rfl, rfl⟩ := hw
    · refine lv_if_eq (tgt := 18) S.1 S.2.1 dX_clear_10 (by decide) (fun _ => ?_) (fun g5 => absurd (by decide) g5)
      refine lv_bipush (v := 22) S.1 S.2.1 dX_clear_18 (by decide) ?_
      exact rt_i S hr hk hK hP hD hS ((by simp [mu21, g1, g3])) dX_clear_20
    · refine lv_if_eq (tgt := 18) S.1 S.2.1 dX_clear_10 (by decide) (fun g6 => absurd g6 (by decide)) (fun _ => ?_)
      refine lv_aload_n S.1 S.2.1 dX_clear_13 rfl (lv_at hl 0 rfl) ?_
      refine lv_iconst (v := 0) S.1 S.2.1 dX_clear_14 (by decide) ?_
      refine p_X_X_link S hK hP hD hS dX_clear_15 (fun H locs hP hD hS => ?_)
      refine lv_bipush (v := 22) S.1 S.2.1 dX_clear_18 (by decide) ?_
      exact rt_i S hr hk hK hP hD hS ((by simp [mu21, g1, g4])) dX_clear_20
  · refine lv_aload_n S.1 S.2.1 dX_clear_4 rfl (lv_at hl 0 rfl) ?_
    refine lv_bipush (v := 64) S.1 S.2.1 dX_clear_5 (by decide) ?_
    refine cl_i (As := [.int 64]) (rest := []) S hN hK hP hD hS hA hl.1 (c_X_irHas l D a _ pc 0 lk mq ma mb ir sw io dl ha rd sn md kf kb cn pf co ou 64) k_X_233 (rc_X hK hP) ⟨by decide, by decide⟩ rfl rfl (Nat.le_of_ble_eq_true rfl) ⟨Nat.le_refl _, Nat.le_refl _⟩ dX_clear_7 (fun r u H locs hw hP hD hS => ?_)
    obtain ⟨g7, rfl, rfl⟩ | ⟨g8, rfl, rfl⟩ := hw
    · refine lv_if_eq (tgt := 18) S.1 S.2.1 dX_clear_10 (by decide) (fun _ => ?_) (fun g9 => absurd (by decide) g9)
      refine lv_bipush (v := 22) S.1 S.2.1 dX_clear_18 (by decide) ?_
      exact rt_i S hr hk hK hP hD hS ((by simp [mu21, g2, g7])) dX_clear_20
    · refine lv_if_eq (tgt := 18) S.1 S.2.1 dX_clear_10 (by decide) (fun g10 => absurd g10 (by decide)) (fun _ => ?_)
      refine lv_aload_n S.1 S.2.1 dX_clear_13 rfl (lv_at hl 0 rfl) ?_
      refine lv_iconst (v := 0) S.1 S.2.1 dX_clear_14 (by decide) ?_
      refine p_X_X_link S hK hP hD hS dX_clear_15 (fun H locs hP hD hS => ?_)
      refine lv_bipush (v := 22) S.1 S.2.1 dX_clear_18 (by decide) ?_
      exact rt_i S hr hk hK hP hD hS ((by simp [mu21, g2, g8])) dX_clear_20

set_option maxHeartbeats 4000000 in
set_option maxRecDepth 100000 in
theorem c_X_complement (l : Launch) (D : va_G) (a : AX) (sz : Nat) (pc ac lk mq ma mb ir sw io dl ha rd sn md kf kb cn pf : Int32) (co ou : Nat → Int32) : MI l D (wx a) (tx a) sz yX_complement cX_complement 1 (some .int) 1 [.ref a.1] (pc, ac, lk, mq, ma, mb, ir, sw, io, dl, ha, rd, sn, md, kf, kb, cn, pf, co, ou) (fun r u => (r, u) = mu22 (pc, ac, lk, mq, ma, mb, ir, sw, io, dl, ha, rd, sn, md, kf, kb, cn, pf, co, ou)) := by
  refine en_i RX rfl (by decide) (Nat.le_of_ble_eq_true rfl) ?_
  intro p e s m below meth c A ls S hr hk hA hN hK hP hD hS hl
  have hl : lv_has ls 1 [(0, .ref a.1)] := hl
  refine lv_aload_n S.1 S.2.1 dX_complement_0 rfl (lv_at hl 0 rfl) ?_
  refine lv_bipush (v := 32) S.1 S.2.1 dX_complement_1 (by decide) ?_
  refine cl_i (As := [.int 32]) (rest := []) S hN hK hP hD hS hA hl.1 (c_X_irHas l D a _ pc ac lk mq ma mb ir sw io dl ha rd sn md kf kb cn pf co ou 32) k_X_233 (rc_X hK hP) ⟨by decide, by decide⟩ rfl rfl (Nat.le_of_ble_eq_true rfl) ⟨Nat.le_refl _, Nat.le_refl _⟩ dX_complement_3 (fun r u H locs hw hP hD hS => ?_)
  obtain ⟨g1, rfl, rfl⟩ | ⟨g2, rfl, rfl⟩ := hw
  · refine lv_if_eq (tgt := 21) S.1 S.2.1 dX_complement_6 (by decide) (fun _ => ?_) (fun g3 => absurd (by decide) g3)
    refine lv_aload_n S.1 S.2.1 dX_complement_21 rfl (lv_at hl 0 rfl) ?_
    refine lv_bipush (v := 16) S.1 S.2.1 dX_complement_22 (by decide) ?_
    refine cl_i (As := [.int 16]) (rest := []) S hN hK hP hD hS hA hl.1 (c_X_irHas l D a _ pc ac lk mq ma mb ir sw io dl ha rd sn md kf kb cn pf co ou 16) k_X_233 (rc_X hK hP) ⟨by decide, by decide⟩ rfl rfl (Nat.le_of_ble_eq_true rfl) ⟨Nat.le_refl _, Nat.le_refl _⟩ dX_complement_24 (fun r u H locs hw hP hD hS => ?_)
    obtain ⟨g4, rfl, rfl⟩ | ⟨g5, rfl, rfl⟩ := hw
    · refine lv_if_eq (tgt := 34) S.1 S.2.1 dX_complement_27 (by decide) (fun _ => ?_) (fun g6 => absurd (by decide) g6)
      refine lv_bipush (v := 23) S.1 S.2.1 dX_complement_34 (by decide) ?_
      exact rt_i S hr hk hK hP hD hS ((by simp [mu22, g1, g4])) dX_complement_36
    · refine lv_if_eq (tgt := 34) S.1 S.2.1 dX_complement_27 (by decide) (fun g7 => absurd g7 (by decide)) (fun _ => ?_)
      refine lv_aload_n S.1 S.2.1 dX_complement_30 rfl (lv_at hl 0 rfl) ?_
      refine cl_v (As := []) (rest := []) S hN hK hP hD hS hA hl.1 (c_X_turnLinkOver l D a _ pc ac lk mq ma mb ir sw io dl ha rd sn md kf kb cn pf co ou ) k_X_242 (rc_X hK hP) ⟨by decide, by decide⟩ rfl rfl (Nat.le_of_ble_eq_true rfl) ⟨Nat.le_refl _, Nat.le_refl _⟩ dX_complement_31 (fun u H locs hw hP hD hS => ?_)
      obtain rfl := hw
      refine lv_bipush (v := 23) S.1 S.2.1 dX_complement_34 (by decide) ?_
      exact rt_i S hr hk hK hP hD hS ((by simp [mu22, g1, g5])) dX_complement_36
  · refine lv_if_eq (tgt := 21) S.1 S.2.1 dX_complement_6 (by decide) (fun g8 => absurd g8 (by decide)) (fun _ => ?_)
    refine lv_aload_n S.1 S.2.1 dX_complement_9 rfl (lv_at hl 0 rfl) ?_
    refine lv_sipush (v := 4095) S.1 S.2.1 dX_complement_10 (by decide) ?_
    refine lv_aload_n S.1 S.2.1 dX_complement_13 rfl (lv_at hl 0 rfl) ?_
    refine g_X_X_ac S hK hP dX_complement_14 ?_
    refine lv_isub S.1 S.2.1 dX_complement_17 ?_
    refine p_X_X_ac S hK hP hD hS dX_complement_18 (fun H locs hP hD hS => ?_)
    refine lv_aload_n S.1 S.2.1 dX_complement_21 rfl (lv_at hl 0 rfl) ?_
    refine lv_bipush (v := 16) S.1 S.2.1 dX_complement_22 (by decide) ?_
    refine cl_i (As := [.int 16]) (rest := []) S hN hK hP hD hS hA hl.1 (c_X_irHas l D a _ pc (4095 - ac) lk mq ma mb ir sw io dl ha rd sn md kf kb cn pf co ou 16) k_X_233 (rc_X hK hP) ⟨by decide, by decide⟩ rfl rfl (Nat.le_of_ble_eq_true rfl) ⟨Nat.le_refl _, Nat.le_refl _⟩ dX_complement_24 (fun r u H locs hw hP hD hS => ?_)
    obtain ⟨g9, rfl, rfl⟩ | ⟨g10, rfl, rfl⟩ := hw
    · refine lv_if_eq (tgt := 34) S.1 S.2.1 dX_complement_27 (by decide) (fun _ => ?_) (fun g11 => absurd (by decide) g11)
      refine lv_bipush (v := 23) S.1 S.2.1 dX_complement_34 (by decide) ?_
      exact rt_i S hr hk hK hP hD hS ((by simp [mu22, g2, g9])) dX_complement_36
    · refine lv_if_eq (tgt := 34) S.1 S.2.1 dX_complement_27 (by decide) (fun g12 => absurd g12 (by decide)) (fun _ => ?_)
      refine lv_aload_n S.1 S.2.1 dX_complement_30 rfl (lv_at hl 0 rfl) ?_
      refine cl_v (As := []) (rest := []) S hN hK hP hD hS hA hl.1 (c_X_turnLinkOver l D a _ pc (4095 - ac) lk mq ma mb ir sw io dl ha rd sn md kf kb cn pf co ou ) k_X_242 (rc_X hK hP) ⟨by decide, by decide⟩ rfl rfl (Nat.le_of_ble_eq_true rfl) ⟨Nat.le_refl _, Nat.le_refl _⟩ dX_complement_31 (fun u H locs hw hP hD hS => ?_)
      obtain rfl := hw
      refine lv_bipush (v := 23) S.1 S.2.1 dX_complement_34 (by decide) ?_
      exact rt_i S hr hk hK hP hD hS ((by simp [mu22, g2, g10])) dX_complement_36

set_option maxHeartbeats 4000000 in
set_option maxRecDepth 100000 in
theorem c_X_increment (l : Launch) (D : va_G) (a : AX) (sz : Nat) (pc ac lk mq ma mb ir sw io dl ha rd sn md kf kb cn pf : Int32) (co ou : Nat → Int32) : MI l D (wx a) (tx a) sz yX_increment cX_increment 1 (some .int) 2 [.ref a.1] (pc, ac, lk, mq, ma, mb, ir, sw, io, dl, ha, rd, sn, md, kf, kb, cn, pf, co, ou) (fun r u => (r, u) = mu23 (pc, ac, lk, mq, ma, mb, ir, sw, io, dl, ha, rd, sn, md, kf, kb, cn, pf, co, ou)) := by
  refine en_i RX rfl (by decide) (Nat.le_of_ble_eq_true rfl) ?_
  intro p e s m below meth c A ls S hr hk hA hN hK hP hD hS hl
  have hl : lv_has ls 1 [(0, .ref a.1)] := hl
  refine lv_aload_n S.1 S.2.1 dX_increment_0 rfl (lv_at hl 0 rfl) ?_
  refine lv_iconst (v := 1) S.1 S.2.1 dX_increment_1 (by decide) ?_
  refine cl_i (As := [.int 1]) (rest := []) S hN hK hP hD hS hA hl.1 (c_X_irHas l D a _ pc ac lk mq ma mb ir sw io dl ha rd sn md kf kb cn pf co ou 1) k_X_233 (rc_X hK hP) ⟨by decide, by decide⟩ rfl rfl (Nat.le_of_ble_eq_true rfl) ⟨Nat.le_refl _, Nat.le_refl _⟩ dX_increment_2 (fun r u H locs hw hP hD hS => ?_)
  obtain ⟨g1, rfl, rfl⟩ | ⟨g2, rfl, rfl⟩ := hw
  · refine lv_if_eq (tgt := 13) S.1 S.2.1 dX_increment_5 (by decide) (fun _ => ?_) (fun g3 => absurd (by decide) g3)
    refine lv_aload_n S.1 S.2.1 dX_increment_13 rfl (lv_at hl 0 rfl) ?_
    refine lv_bipush (v := 12) S.1 S.2.1 dX_increment_14 (by decide) ?_
    refine cl_i (As := [.int 12]) (rest := []) S hN hK hP hD hS hA hl.1 (c_X_irHas l D a _ pc ac lk mq ma mb ir sw io dl ha rd sn md kf kb cn pf co ou 12) k_X_233 (rc_X hK hP) ⟨by decide, by decide⟩ rfl rfl (Nat.le_of_ble_eq_true rfl) ⟨Nat.le_refl _, Nat.le_refl _⟩ dX_increment_16 (fun r u H locs hw hP hD hS => ?_)
    obtain ⟨g4, rfl, rfl⟩ | ⟨g5, rfl, rfl⟩ := hw
    · refine lv_if_eq (tgt := 27) S.1 S.2.1 dX_increment_19 (by decide) (fun _ => ?_) (fun g6 => absurd (by decide) g6)
      refine lv_iconst (v := 0) S.1 S.2.1 dX_increment_27 (by decide) ?_
      exact rt_i S hr hk hK hP hD hS ((by simp [mu23, g1, g4])) dX_increment_28
    · refine lv_if_eq (tgt := 27) S.1 S.2.1 dX_increment_19 (by decide) (fun g7 => absurd g7 (by decide)) (fun _ => ?_)
      refine lv_bipush (v := 24) S.1 S.2.1 dX_increment_22 (by decide) ?_
      refine lv_goto (tgt := 28) S.1 S.2.1 dX_increment_24 (by decide) ?_
      exact rt_i S hr hk hK hP hD hS ((by simp [mu23, g1, g5])) dX_increment_28
  · refine lv_if_eq (tgt := 13) S.1 S.2.1 dX_increment_5 (by decide) (fun g8 => absurd g8 (by decide)) (fun _ => ?_)
    refine lv_aload_n S.1 S.2.1 dX_increment_8 rfl (lv_at hl 0 rfl) ?_
    refine lv_iconst (v := 1) S.1 S.2.1 dX_increment_9 (by decide) ?_
    refine cl_v (As := [.int 1]) (rest := []) S hN hK hP hD hS hA hl.1 (c_X_addToAc l D a _ pc ac lk mq ma mb ir sw io dl ha rd sn md kf kb cn pf co ou 1) k_X_239 (rc_X hK hP) ⟨by decide, by decide⟩ rfl rfl (Nat.le_of_ble_eq_true rfl) ⟨Nat.le_refl _, Nat.le_refl _⟩ dX_increment_10 (fun u H locs hw hP hD hS => ?_)
    obtain ⟨g9, rfl⟩ | ⟨g10, rfl⟩ := hw
    · refine lv_aload_n S.1 S.2.1 dX_increment_13 rfl (lv_at hl 0 rfl) ?_
      refine lv_bipush (v := 12) S.1 S.2.1 dX_increment_14 (by decide) ?_
      refine cl_i (As := [.int 12]) (rest := []) S hN hK hP hD hS hA hl.1 (c_X_irHas l D a _ pc ((ac + 1) &&& 4095) lk mq ma mb ir sw io dl ha rd sn md kf kb cn pf co ou 12) k_X_233 (rc_X hK hP) ⟨by decide, by decide⟩ rfl rfl (Nat.le_of_ble_eq_true rfl) ⟨Nat.le_refl _, Nat.le_refl _⟩ dX_increment_16 (fun r u H locs hw hP hD hS => ?_)
      obtain ⟨g11, rfl, rfl⟩ | ⟨g12, rfl, rfl⟩ := hw
      · refine lv_if_eq (tgt := 27) S.1 S.2.1 dX_increment_19 (by decide) (fun _ => ?_) (fun g13 => absurd (by decide) g13)
        refine lv_iconst (v := 0) S.1 S.2.1 dX_increment_27 (by decide) ?_
        exact rt_i S hr hk hK hP hD hS ((by simp [mu23, g2, g9, g11])) dX_increment_28
      · refine lv_if_eq (tgt := 27) S.1 S.2.1 dX_increment_19 (by decide) (fun g14 => absurd g14 (by decide)) (fun _ => ?_)
        refine lv_bipush (v := 24) S.1 S.2.1 dX_increment_22 (by decide) ?_
        refine lv_goto (tgt := 28) S.1 S.2.1 dX_increment_24 (by decide) ?_
        exact rt_i S hr hk hK hP hD hS ((by simp [mu23, g2, g9, g12])) dX_increment_28
    · refine lv_aload_n S.1 S.2.1 dX_increment_13 rfl (lv_at hl 0 rfl) ?_
      refine lv_bipush (v := 12) S.1 S.2.1 dX_increment_14 (by decide) ?_
      refine cl_i (As := [.int 12]) (rest := []) S hN hK hP hD hS hA hl.1 (c_X_irHas l D a _ pc ((ac + 1) &&& 4095) (1 - lk) mq ma mb ir sw io dl ha rd sn md kf kb cn pf co ou 12) k_X_233 (rc_X hK hP) ⟨by decide, by decide⟩ rfl rfl (Nat.le_of_ble_eq_true rfl) ⟨Nat.le_refl _, Nat.le_refl _⟩ dX_increment_16 (fun r u H locs hw hP hD hS => ?_)
      obtain ⟨g15, rfl, rfl⟩ | ⟨g16, rfl, rfl⟩ := hw
      · refine lv_if_eq (tgt := 27) S.1 S.2.1 dX_increment_19 (by decide) (fun _ => ?_) (fun g17 => absurd (by decide) g17)
        refine lv_iconst (v := 0) S.1 S.2.1 dX_increment_27 (by decide) ?_
        exact rt_i S hr hk hK hP hD hS ((by simp [mu23, g2, g10, g15])) dX_increment_28
      · refine lv_if_eq (tgt := 27) S.1 S.2.1 dX_increment_19 (by decide) (fun g18 => absurd g18 (by decide)) (fun _ => ?_)
        refine lv_bipush (v := 24) S.1 S.2.1 dX_increment_22 (by decide) ?_
        refine lv_goto (tgt := 28) S.1 S.2.1 dX_increment_24 (by decide) ?_
        exact rt_i S hr hk hK hP hD hS ((by simp [mu23, g2, g10, g16])) dX_increment_28
end
section
set_option maxHeartbeats 4000000 in
set_option maxRecDepth 100000 in
theorem c_X_rotateFirst (l : Launch) (D : va_G) (a : AX) (sz : Nat) (pc ac lk mq ma mb ir sw io dl ha rd sn md kf kb cn pf : Int32) (co ou : Nat → Int32) : MI l D (wx a) (tx a) sz yX_rotateFirst cX_rotateFirst 1 (some .int) 2 [.ref a.1] (pc, ac, lk, mq, ma, mb, ir, sw, io, dl, ha, rd, sn, md, kf, kb, cn, pf, co, ou) (fun r u => (r, u) = mu24 (pc, ac, lk, mq, ma, mb, ir, sw, io, dl, ha, rd, sn, md, kf, kb, cn, pf, co, ou)) := by
  refine en_i RX rfl (by decide) (Nat.le_of_ble_eq_true rfl) ?_
  intro p e s m below meth c A ls S hr hk hA hN hK hP hD hS hl
  have hl : lv_has ls 1 [(0, .ref a.1)] := hl
  refine lv_aload_n S.1 S.2.1 dX_rotateFirst_0 rfl (lv_at hl 0 rfl) ?_
  refine cl_v (As := []) (rest := []) S hN hK hP hD hS hA hl.1 (c_X_rotate l D a _ pc ac lk mq ma mb ir sw io dl ha rd sn md kf kb cn pf co ou ) k_X_248 (rc_X hK hP) ⟨by decide, by decide⟩ rfl rfl (Nat.le_of_ble_eq_true rfl) ⟨Nat.le_refl _, Nat.le_refl _⟩ dX_rotateFirst_1 (fun u H locs hw hP hD hS => ?_)
  obtain ⟨g1, g2, rfl⟩ | ⟨g3, g4, rfl⟩ | ⟨g5, g6, rfl⟩ | ⟨g7, g8, rfl⟩ := hw
  · refine lv_aload_n S.1 S.2.1 dX_rotateFirst_4 rfl (lv_at hl 0 rfl) ?_
    refine lv_iconst (v := 2) S.1 S.2.1 dX_rotateFirst_5 (by decide) ?_
    refine cl_i (As := [.int 2]) (rest := []) S hN hK hP hD hS hA hl.1 (c_X_irHas l D a _ pc (((lk <<< ((12 : Int32) &&& 31)) ||| ac) &&& 4095) (((lk <<< ((12 : Int32) &&& 31)) ||| ac) >>> ((12 : Int32) &&& 31)) mq ma mb ir sw io dl ha rd sn md kf kb cn pf co ou 2) k_X_233 (rc_X hK hP) ⟨by decide, by decide⟩ rfl rfl (Nat.le_of_ble_eq_true rfl) ⟨Nat.le_refl _, Nat.le_refl _⟩ dX_rotateFirst_6 (fun r u H locs hw hP hD hS => ?_)
    obtain ⟨g9, rfl, rfl⟩ | ⟨g10, rfl, rfl⟩ := hw
    · refine lv_if_eq (tgt := 17) S.1 S.2.1 dX_rotateFirst_9 (by decide) (fun _ => ?_) (fun g11 => absurd (by decide) g11)
      refine lv_iconst (v := 0) S.1 S.2.1 dX_rotateFirst_17 (by decide) ?_
      exact rt_i S hr hk hK hP hD hS ((by simp [mu24, rg_, r1_, r2_, g1, g2, g9])) dX_rotateFirst_18
    · refine lv_if_eq (tgt := 17) S.1 S.2.1 dX_rotateFirst_9 (by decide) (fun g12 => absurd g12 (by decide)) (fun _ => ?_)
      refine lv_bipush (v := 25) S.1 S.2.1 dX_rotateFirst_12 (by decide) ?_
      refine lv_goto (tgt := 18) S.1 S.2.1 dX_rotateFirst_14 (by decide) ?_
      exact rt_i S hr hk hK hP hD hS ((by simp [mu24, rg_, r1_, r2_, g1, g2, g10])) dX_rotateFirst_18
  · refine lv_aload_n S.1 S.2.1 dX_rotateFirst_4 rfl (lv_at hl 0 rfl) ?_
    refine lv_iconst (v := 2) S.1 S.2.1 dX_rotateFirst_5 (by decide) ?_
    refine cl_i (As := [.int 2]) (rest := []) S hN hK hP hD hS hA hl.1 (c_X_irHas l D a _ pc ((((((lk <<< ((12 : Int32) &&& 31)) ||| ac) <<< ((1 : Int32) &&& 31)) ||| (((lk <<< ((12 : Int32) &&& 31)) ||| ac) >>> ((12 : Int32) &&& 31))) &&& 8191) &&& 4095) ((((((lk <<< ((12 : Int32) &&& 31)) ||| ac) <<< ((1 : Int32) &&& 31)) ||| (((lk <<< ((12 : Int32) &&& 31)) ||| ac) >>> ((12 : Int32) &&& 31))) &&& 8191) >>> ((12 : Int32) &&& 31)) mq ma mb ir sw io dl ha rd sn md kf kb cn pf co ou 2) k_X_233 (rc_X hK hP) ⟨by decide, by decide⟩ rfl rfl (Nat.le_of_ble_eq_true rfl) ⟨Nat.le_refl _, Nat.le_refl _⟩ dX_rotateFirst_6 (fun r u H locs hw hP hD hS => ?_)
    obtain ⟨g13, rfl, rfl⟩ | ⟨g14, rfl, rfl⟩ := hw
    · refine lv_if_eq (tgt := 17) S.1 S.2.1 dX_rotateFirst_9 (by decide) (fun _ => ?_) (fun g15 => absurd (by decide) g15)
      refine lv_iconst (v := 0) S.1 S.2.1 dX_rotateFirst_17 (by decide) ?_
      exact rt_i S hr hk hK hP hD hS ((by simp [mu24, rg_, r1_, r2_, g3, g4, g13])) dX_rotateFirst_18
    · refine lv_if_eq (tgt := 17) S.1 S.2.1 dX_rotateFirst_9 (by decide) (fun g16 => absurd g16 (by decide)) (fun _ => ?_)
      refine lv_bipush (v := 25) S.1 S.2.1 dX_rotateFirst_12 (by decide) ?_
      refine lv_goto (tgt := 18) S.1 S.2.1 dX_rotateFirst_14 (by decide) ?_
      exact rt_i S hr hk hK hP hD hS ((by simp [mu24, rg_, r1_, r2_, g3, g4, g14])) dX_rotateFirst_18
  · refine lv_aload_n S.1 S.2.1 dX_rotateFirst_4 rfl (lv_at hl 0 rfl) ?_
    refine lv_iconst (v := 2) S.1 S.2.1 dX_rotateFirst_5 (by decide) ?_
    refine cl_i (As := [.int 2]) (rest := []) S hN hK hP hD hS hA hl.1 (c_X_irHas l D a _ pc (((((lk <<< ((12 : Int32) &&& 31)) ||| ac) >>> ((1 : Int32) &&& 31)) ||| ((((lk <<< ((12 : Int32) &&& 31)) ||| ac) &&& 1) <<< ((12 : Int32) &&& 31))) &&& 4095) (((((lk <<< ((12 : Int32) &&& 31)) ||| ac) >>> ((1 : Int32) &&& 31)) ||| ((((lk <<< ((12 : Int32) &&& 31)) ||| ac) &&& 1) <<< ((12 : Int32) &&& 31))) >>> ((12 : Int32) &&& 31)) mq ma mb ir sw io dl ha rd sn md kf kb cn pf co ou 2) k_X_233 (rc_X hK hP) ⟨by decide, by decide⟩ rfl rfl (Nat.le_of_ble_eq_true rfl) ⟨Nat.le_refl _, Nat.le_refl _⟩ dX_rotateFirst_6 (fun r u H locs hw hP hD hS => ?_)
    obtain ⟨g17, rfl, rfl⟩ | ⟨g18, rfl, rfl⟩ := hw
    · refine lv_if_eq (tgt := 17) S.1 S.2.1 dX_rotateFirst_9 (by decide) (fun _ => ?_) (fun g19 => absurd (by decide) g19)
      refine lv_iconst (v := 0) S.1 S.2.1 dX_rotateFirst_17 (by decide) ?_
      exact rt_i S hr hk hK hP hD hS ((by simp [mu24, rg_, r1_, r2_, g5, g6, g17])) dX_rotateFirst_18
    · refine lv_if_eq (tgt := 17) S.1 S.2.1 dX_rotateFirst_9 (by decide) (fun g20 => absurd g20 (by decide)) (fun _ => ?_)
      refine lv_bipush (v := 25) S.1 S.2.1 dX_rotateFirst_12 (by decide) ?_
      refine lv_goto (tgt := 18) S.1 S.2.1 dX_rotateFirst_14 (by decide) ?_
      exact rt_i S hr hk hK hP hD hS ((by simp [mu24, rg_, r1_, r2_, g5, g6, g18])) dX_rotateFirst_18
  · refine lv_aload_n S.1 S.2.1 dX_rotateFirst_4 rfl (lv_at hl 0 rfl) ?_
    refine lv_iconst (v := 2) S.1 S.2.1 dX_rotateFirst_5 (by decide) ?_
    refine cl_i (As := [.int 2]) (rest := []) S hN hK hP hD hS hA hl.1 (c_X_irHas l D a _ pc ((((((((lk <<< ((12 : Int32) &&& 31)) ||| ac) >>> ((1 : Int32) &&& 31)) ||| ((((lk <<< ((12 : Int32) &&& 31)) ||| ac) &&& 1) <<< ((12 : Int32) &&& 31))) <<< ((1 : Int32) &&& 31)) ||| (((((lk <<< ((12 : Int32) &&& 31)) ||| ac) >>> ((1 : Int32) &&& 31)) ||| ((((lk <<< ((12 : Int32) &&& 31)) ||| ac) &&& 1) <<< ((12 : Int32) &&& 31))) >>> ((12 : Int32) &&& 31))) &&& 8191) &&& 4095) ((((((((lk <<< ((12 : Int32) &&& 31)) ||| ac) >>> ((1 : Int32) &&& 31)) ||| ((((lk <<< ((12 : Int32) &&& 31)) ||| ac) &&& 1) <<< ((12 : Int32) &&& 31))) <<< ((1 : Int32) &&& 31)) ||| (((((lk <<< ((12 : Int32) &&& 31)) ||| ac) >>> ((1 : Int32) &&& 31)) ||| ((((lk <<< ((12 : Int32) &&& 31)) ||| ac) &&& 1) <<< ((12 : Int32) &&& 31))) >>> ((12 : Int32) &&& 31))) &&& 8191) >>> ((12 : Int32) &&& 31)) mq ma mb ir sw io dl ha rd sn md kf kb cn pf co ou 2) k_X_233 (rc_X hK hP) ⟨by decide, by decide⟩ rfl rfl (Nat.le_of_ble_eq_true rfl) ⟨Nat.le_refl _, Nat.le_refl _⟩ dX_rotateFirst_6 (fun r u H locs hw hP hD hS => ?_)
    obtain ⟨g21, rfl, rfl⟩ | ⟨g22, rfl, rfl⟩ := hw
    · refine lv_if_eq (tgt := 17) S.1 S.2.1 dX_rotateFirst_9 (by decide) (fun _ => ?_) (fun g23 => absurd (by decide) g23)
      refine lv_iconst (v := 0) S.1 S.2.1 dX_rotateFirst_17 (by decide) ?_
      exact rt_i S hr hk hK hP hD hS ((by simp [mu24, rg_, r1_, r2_, g7, g8, g21])) dX_rotateFirst_18
    · refine lv_if_eq (tgt := 17) S.1 S.2.1 dX_rotateFirst_9 (by decide) (fun g24 => absurd g24 (by decide)) (fun _ => ?_)
      refine lv_bipush (v := 25) S.1 S.2.1 dX_rotateFirst_12 (by decide) ?_
      refine lv_goto (tgt := 18) S.1 S.2.1 dX_rotateFirst_14 (by decide) ?_
      exact rt_i S hr hk hK hP hD hS ((by simp [mu24, rg_, r1_, r2_, g7, g8, g22])) dX_rotateFirst_18

set_option maxHeartbeats 4000000 in
set_option maxRecDepth 100000 in
theorem c_X_rotateLast (l : Launch) (D : va_G) (a : AX) (sz : Nat) (pc ac lk mq ma mb ir sw io dl ha rd sn md kf kb cn pf : Int32) (co ou : Nat → Int32) : MI l D (wx a) (tx a) sz yX_rotateLast cX_rotateLast 1 (some .int) 2 [.ref a.1] (pc, ac, lk, mq, ma, mb, ir, sw, io, dl, ha, rd, sn, md, kf, kb, cn, pf, co, ou) (fun r u => (r, u) = mu25 (pc, ac, lk, mq, ma, mb, ir, sw, io, dl, ha, rd, sn, md, kf, kb, cn, pf, co, ou)) := by
  refine en_i RX rfl (by decide) (Nat.le_of_ble_eq_true rfl) ?_
  intro p e s m below meth c A ls S hr hk hA hN hK hP hD hS hl
  have hl : lv_has ls 1 [(0, .ref a.1)] := hl
  refine lv_aload_n S.1 S.2.1 dX_rotateLast_0 rfl (lv_at hl 0 rfl) ?_
  refine cl_v (As := []) (rest := []) S hN hK hP hD hS hA hl.1 (c_X_rotate l D a _ pc ac lk mq ma mb ir sw io dl ha rd sn md kf kb cn pf co ou ) k_X_248 (rc_X hK hP) ⟨by decide, by decide⟩ rfl rfl (Nat.le_of_ble_eq_true rfl) ⟨Nat.le_refl _, Nat.le_refl _⟩ dX_rotateLast_1 (fun u H locs hw hP hD hS => ?_)
  obtain ⟨g1, g2, rfl⟩ | ⟨g3, g4, rfl⟩ | ⟨g5, g6, rfl⟩ | ⟨g7, g8, rfl⟩ := hw
  · refine lv_iconst (v := 0) S.1 S.2.1 dX_rotateLast_4 (by decide) ?_
    exact rt_i S hr hk hK hP hD hS ((by simp [mu25, rg_, r1_, r2_, g1, g2])) dX_rotateLast_5
  · refine lv_iconst (v := 0) S.1 S.2.1 dX_rotateLast_4 (by decide) ?_
    exact rt_i S hr hk hK hP hD hS ((by simp [mu25, rg_, r1_, r2_, g3, g4])) dX_rotateLast_5
  · refine lv_iconst (v := 0) S.1 S.2.1 dX_rotateLast_4 (by decide) ?_
    exact rt_i S hr hk hK hP hD hS ((by simp [mu25, rg_, r1_, r2_, g5, g6])) dX_rotateLast_5
  · refine lv_iconst (v := 0) S.1 S.2.1 dX_rotateLast_4 (by decide) ?_
    exact rt_i S hr hk hK hP hD hS ((by simp [mu25, rg_, r1_, r2_, g7, g8])) dX_rotateLast_5

set_option maxHeartbeats 4000000 in
set_option maxRecDepth 100000 in
theorem c_X_test (l : Launch) (D : va_G) (a : AX) (sz : Nat) (pc ac lk mq ma mb ir sw io dl ha rd sn md kf kb cn pf : Int32) (co ou : Nat → Int32) : MI l D (wx a) (tx a) sz yX_test cX_test 2 (some .int) 1 [.ref a.1] (pc, ac, lk, mq, ma, mb, ir, sw, io, dl, ha, rd, sn, md, kf, kb, cn, pf, co, ou) (fun r u => (r, u) = mu26 (pc, ac, lk, mq, ma, mb, ir, sw, io, dl, ha, rd, sn, md, kf, kb, cn, pf, co, ou)) := by
  refine en_i RX rfl (by decide) (Nat.le_of_ble_eq_true rfl) ?_
  intro p e s m below meth c A ls S hr hk hA hN hK hP hD hS hl
  have hl : lv_has ls 2 [(0, .ref a.1)] := hl
  refine lv_aload_n S.1 S.2.1 dX_test_0 rfl (lv_at hl 0 rfl) ?_
  refine lv_bipush (v := 64) S.1 S.2.1 dX_test_1 (by decide) ?_
  refine cl_i (As := [.int 64]) (rest := []) S hN hK hP hD hS hA hl.1 (c_X_irHas l D a _ pc ac lk mq ma mb ir sw io dl ha rd sn md kf kb cn pf co ou 64) k_X_233 (rc_X hK hP) ⟨by decide, by decide⟩ rfl rfl (Nat.le_of_ble_eq_true rfl) ⟨Nat.le_refl _, Nat.le_refl _⟩ dX_test_3 (fun r u H locs hw hP hD hS => ?_)
  obtain ⟨g1, rfl, rfl⟩ | ⟨g2, rfl, rfl⟩ := hw
  · refine lv_if_eq (tgt := 19) S.1 S.2.1 dX_test_6 (by decide) (fun _ => ?_) (fun g3 => absurd (by decide) g3)
    refine lv_aload_n S.1 S.2.1 dX_test_19 rfl (lv_at hl 0 rfl) ?_
    refine lv_bipush (v := 32) S.1 S.2.1 dX_test_20 (by decide) ?_
    refine cl_i (As := [.int 32]) (rest := []) S hN hK hP hD hS hA hl.1 (c_X_irHas l D a _ pc ac lk mq ma mb ir sw io dl ha rd sn md kf kb cn pf co ou 32) k_X_233 (rc_X hK hP) ⟨by decide, by decide⟩ rfl rfl (Nat.le_of_ble_eq_true rfl) ⟨Nat.le_refl _, Nat.le_refl _⟩ dX_test_22 (fun r u H locs hw hP hD hS => ?_)
    obtain ⟨g4, rfl, rfl⟩ | ⟨g5, rfl, rfl⟩ := hw
    · refine lv_if_eq (tgt := 35) S.1 S.2.1 dX_test_25 (by decide) (fun _ => ?_) (fun g6 => absurd (by decide) g6)
      refine lv_aload_n S.1 S.2.1 dX_test_35 rfl (lv_at hl 0 rfl) ?_
      refine lv_bipush (v := 16) S.1 S.2.1 dX_test_36 (by decide) ?_
      refine cl_i (As := [.int 16]) (rest := []) S hN hK hP hD hS hA hl.1 (c_X_irHas l D a _ pc ac lk mq ma mb ir sw io dl ha rd sn md kf kb cn pf co ou 16) k_X_233 (rc_X hK hP) ⟨by decide, by decide⟩ rfl rfl (Nat.le_of_ble_eq_true rfl) ⟨Nat.le_refl _, Nat.le_refl _⟩ dX_test_38 (fun r u H locs hw hP hD hS => ?_)
      obtain ⟨g7, rfl, rfl⟩ | ⟨g8, rfl, rfl⟩ := hw
      · refine lv_if_eq (tgt := 56) S.1 S.2.1 dX_test_41 (by decide) (fun _ => ?_) (fun g9 => absurd (by decide) g9)
        refine lv_iconst (v := 0) S.1 S.2.1 dX_test_56 (by decide) ?_
        refine lv_istore_n S.1 S.2.1 dX_test_57 rfl hl (by decide) rfl (fun ls hl => ?_)
        have hl : lv_has ls 2 [(1, .int 0), (0, .ref a.1)] := hl
        refine lv_iload_n S.1 S.2.1 dX_test_58 rfl (lv_at hl 0 rfl) ?_
        refine lv_aload_n S.1 S.2.1 dX_test_59 rfl (lv_at hl 1 rfl) ?_
        refine lv_bipush (v := 8) S.1 S.2.1 dX_test_60 (by decide) ?_
        refine cl_i (As := [.int 8]) (rest := [.int 0]) S hN hK hP hD hS hA hl.1 (c_X_irHas l D a _ pc ac lk mq ma mb ir sw io dl ha rd sn md kf kb cn pf co ou 8) k_X_233 (rc_X hK hP) ⟨by decide, by decide⟩ rfl rfl (Nat.le_of_ble_eq_true rfl) ⟨Nat.le_refl _, Nat.le_refl _⟩ dX_test_62 (fun r u H locs hw hP hD hS => ?_)
        obtain ⟨g10, rfl, rfl⟩ | ⟨g11, rfl, rfl⟩ := hw
        · refine lv_icmp_eq (tgt := 72) S.1 S.2.1 dX_test_65 (by decide) (fun _ => ?_) (fun g12 => absurd (by decide) g12)
          refine lv_bipush (v := 27) S.1 S.2.1 dX_test_72 (by decide) ?_
          exact rt_i S hr hk hK hP hD hS ((by simp [mu26, g1, g4, g7, g10])) dX_test_74
        · refine lv_icmp_eq (tgt := 72) S.1 S.2.1 dX_test_65 (by decide) (fun g13 => absurd g13 (by decide)) (fun _ => ?_)
          refine lv_aload_n S.1 S.2.1 dX_test_68 rfl (lv_at hl 1 rfl) ?_
          refine cl_v (As := []) (rest := []) S hN hK hP hD hS hA hl.1 (c_X_advancePc l D a _ pc ac lk mq ma mb ir sw io dl ha rd sn md kf kb cn pf co ou ) k_X_230 (rc_X hK hP) ⟨by decide, by decide⟩ rfl rfl (Nat.le_of_ble_eq_true rfl) ⟨Nat.le_refl _, Nat.le_refl _⟩ dX_test_69 (fun u H locs hw hP hD hS => ?_)
          obtain rfl := hw
          refine lv_bipush (v := 27) S.1 S.2.1 dX_test_72 (by decide) ?_
          exact rt_i S hr hk hK hP hD hS ((by simp [mu26, g1, g4, g7, g11])) dX_test_74
      · refine lv_if_eq (tgt := 56) S.1 S.2.1 dX_test_41 (by decide) (fun g14 => absurd g14 (by decide)) (fun _ => ?_)
        refine lv_aload_n S.1 S.2.1 dX_test_44 rfl (lv_at hl 0 rfl) ?_
        refine g_X_X_link S hK hP dX_test_45 ?_
        refine lv_iconst (v := 1) S.1 S.2.1 dX_test_48 (by decide) ?_
        refine lv_icmp_ne (tgt := 56) S.1 S.2.1 dX_test_49 (by decide) (fun g15 => ?_) (fun g15 => ?_)
        · refine lv_iconst (v := 0) S.1 S.2.1 dX_test_56 (by decide) ?_
          refine lv_istore_n S.1 S.2.1 dX_test_57 rfl hl (by decide) rfl (fun ls hl => ?_)
          have hl : lv_has ls 2 [(1, .int 0), (0, .ref a.1)] := hl
          refine lv_iload_n S.1 S.2.1 dX_test_58 rfl (lv_at hl 0 rfl) ?_
          refine lv_aload_n S.1 S.2.1 dX_test_59 rfl (lv_at hl 1 rfl) ?_
          refine lv_bipush (v := 8) S.1 S.2.1 dX_test_60 (by decide) ?_
          refine cl_i (As := [.int 8]) (rest := [.int 0]) S hN hK hP hD hS hA hl.1 (c_X_irHas l D a _ pc ac lk mq ma mb ir sw io dl ha rd sn md kf kb cn pf co ou 8) k_X_233 (rc_X hK hP) ⟨by decide, by decide⟩ rfl rfl (Nat.le_of_ble_eq_true rfl) ⟨Nat.le_refl _, Nat.le_refl _⟩ dX_test_62 (fun r u H locs hw hP hD hS => ?_)
          obtain ⟨g16, rfl, rfl⟩ | ⟨g17, rfl, rfl⟩ := hw
          · refine lv_icmp_eq (tgt := 72) S.1 S.2.1 dX_test_65 (by decide) (fun _ => ?_) (fun g18 => absurd (by decide) g18)
            refine lv_bipush (v := 27) S.1 S.2.1 dX_test_72 (by decide) ?_
            exact rt_i S hr hk hK hP hD hS ((by simp [mu26, g1, g4, g8, g15, g16])) dX_test_74
          · refine lv_icmp_eq (tgt := 72) S.1 S.2.1 dX_test_65 (by decide) (fun g19 => absurd g19 (by decide)) (fun _ => ?_)
            refine lv_aload_n S.1 S.2.1 dX_test_68 rfl (lv_at hl 1 rfl) ?_
            refine cl_v (As := []) (rest := []) S hN hK hP hD hS hA hl.1 (c_X_advancePc l D a _ pc ac lk mq ma mb ir sw io dl ha rd sn md kf kb cn pf co ou ) k_X_230 (rc_X hK hP) ⟨by decide, by decide⟩ rfl rfl (Nat.le_of_ble_eq_true rfl) ⟨Nat.le_refl _, Nat.le_refl _⟩ dX_test_69 (fun u H locs hw hP hD hS => ?_)
            obtain rfl := hw
            refine lv_bipush (v := 27) S.1 S.2.1 dX_test_72 (by decide) ?_
            exact rt_i S hr hk hK hP hD hS ((by simp [mu26, g1, g4, g8, g15, g17])) dX_test_74
        · refine lv_iconst (v := 1) S.1 S.2.1 dX_test_52 (by decide) ?_
          refine lv_goto (tgt := 57) S.1 S.2.1 dX_test_53 (by decide) ?_
          refine lv_istore_n S.1 S.2.1 dX_test_57 rfl hl (by decide) rfl (fun ls hl => ?_)
          have hl : lv_has ls 2 [(1, .int 1), (0, .ref a.1)] := hl
          refine lv_iload_n S.1 S.2.1 dX_test_58 rfl (lv_at hl 0 rfl) ?_
          refine lv_aload_n S.1 S.2.1 dX_test_59 rfl (lv_at hl 1 rfl) ?_
          refine lv_bipush (v := 8) S.1 S.2.1 dX_test_60 (by decide) ?_
          refine cl_i (As := [.int 8]) (rest := [.int 1]) S hN hK hP hD hS hA hl.1 (c_X_irHas l D a _ pc ac lk mq ma mb ir sw io dl ha rd sn md kf kb cn pf co ou 8) k_X_233 (rc_X hK hP) ⟨by decide, by decide⟩ rfl rfl (Nat.le_of_ble_eq_true rfl) ⟨Nat.le_refl _, Nat.le_refl _⟩ dX_test_62 (fun r u H locs hw hP hD hS => ?_)
          obtain ⟨g20, rfl, rfl⟩ | ⟨g21, rfl, rfl⟩ := hw
          · refine lv_icmp_eq (tgt := 72) S.1 S.2.1 dX_test_65 (by decide) (fun g22 => absurd g22 (by decide)) (fun _ => ?_)
            refine lv_aload_n S.1 S.2.1 dX_test_68 rfl (lv_at hl 1 rfl) ?_
            refine cl_v (As := []) (rest := []) S hN hK hP hD hS hA hl.1 (c_X_advancePc l D a _ pc ac lk mq ma mb ir sw io dl ha rd sn md kf kb cn pf co ou ) k_X_230 (rc_X hK hP) ⟨by decide, by decide⟩ rfl rfl (Nat.le_of_ble_eq_true rfl) ⟨Nat.le_refl _, Nat.le_refl _⟩ dX_test_69 (fun u H locs hw hP hD hS => ?_)
            obtain rfl := hw
            refine lv_bipush (v := 27) S.1 S.2.1 dX_test_72 (by decide) ?_
            exact rt_i S hr hk hK hP hD hS ((by simp [mu26, g1, g4, g8, g15, g20])) dX_test_74
          · refine lv_icmp_eq (tgt := 72) S.1 S.2.1 dX_test_65 (by decide) (fun _ => ?_) (fun g23 => absurd (by decide) g23)
            refine lv_bipush (v := 27) S.1 S.2.1 dX_test_72 (by decide) ?_
            exact rt_i S hr hk hK hP hD hS ((by simp [mu26, g1, g4, g8, g15, g21])) dX_test_74
    · refine lv_if_eq (tgt := 35) S.1 S.2.1 dX_test_25 (by decide) (fun g24 => absurd g24 (by decide)) (fun _ => ?_)
      refine lv_aload_n S.1 S.2.1 dX_test_28 rfl (lv_at hl 0 rfl) ?_
      refine g_X_X_ac S hK hP dX_test_29 ?_
      refine lv_if_eq (tgt := 52) S.1 S.2.1 dX_test_32 (by decide) (fun g25 => ?_) (fun g25 => ?_)
      · refine lv_iconst (v := 1) S.1 S.2.1 dX_test_52 (by decide) ?_
        refine lv_goto (tgt := 57) S.1 S.2.1 dX_test_53 (by decide) ?_
        refine lv_istore_n S.1 S.2.1 dX_test_57 rfl hl (by decide) rfl (fun ls hl => ?_)
        have hl : lv_has ls 2 [(1, .int 1), (0, .ref a.1)] := hl
        refine lv_iload_n S.1 S.2.1 dX_test_58 rfl (lv_at hl 0 rfl) ?_
        refine lv_aload_n S.1 S.2.1 dX_test_59 rfl (lv_at hl 1 rfl) ?_
        refine lv_bipush (v := 8) S.1 S.2.1 dX_test_60 (by decide) ?_
        refine cl_i (As := [.int 8]) (rest := [.int 1]) S hN hK hP hD hS hA hl.1 (c_X_irHas l D a _ pc ac lk mq ma mb ir sw io dl ha rd sn md kf kb cn pf co ou 8) k_X_233 (rc_X hK hP) ⟨by decide, by decide⟩ rfl rfl (Nat.le_of_ble_eq_true rfl) ⟨Nat.le_refl _, Nat.le_refl _⟩ dX_test_62 (fun r u H locs hw hP hD hS => ?_)
        obtain ⟨g26, rfl, rfl⟩ | ⟨g27, rfl, rfl⟩ := hw
        · refine lv_icmp_eq (tgt := 72) S.1 S.2.1 dX_test_65 (by decide) (fun g28 => absurd g28 (by decide)) (fun _ => ?_)
          refine lv_aload_n S.1 S.2.1 dX_test_68 rfl (lv_at hl 1 rfl) ?_
          refine cl_v (As := []) (rest := []) S hN hK hP hD hS hA hl.1 (c_X_advancePc l D a _ pc ac lk mq ma mb ir sw io dl ha rd sn md kf kb cn pf co ou ) k_X_230 (rc_X hK hP) ⟨by decide, by decide⟩ rfl rfl (Nat.le_of_ble_eq_true rfl) ⟨Nat.le_refl _, Nat.le_refl _⟩ dX_test_69 (fun u H locs hw hP hD hS => ?_)
          obtain rfl := hw
          refine lv_bipush (v := 27) S.1 S.2.1 dX_test_72 (by decide) ?_
          exact rt_i S hr hk hK hP hD hS ((by simp [mu26, g1, g5, g25, g26])) dX_test_74
        · refine lv_icmp_eq (tgt := 72) S.1 S.2.1 dX_test_65 (by decide) (fun _ => ?_) (fun g29 => absurd (by decide) g29)
          refine lv_bipush (v := 27) S.1 S.2.1 dX_test_72 (by decide) ?_
          exact rt_i S hr hk hK hP hD hS ((by simp [mu26, g1, g5, g25, g27])) dX_test_74
      · refine lv_aload_n S.1 S.2.1 dX_test_35 rfl (lv_at hl 0 rfl) ?_
        refine lv_bipush (v := 16) S.1 S.2.1 dX_test_36 (by decide) ?_
        refine cl_i (As := [.int 16]) (rest := []) S hN hK hP hD hS hA hl.1 (c_X_irHas l D a _ pc ac lk mq ma mb ir sw io dl ha rd sn md kf kb cn pf co ou 16) k_X_233 (rc_X hK hP) ⟨by decide, by decide⟩ rfl rfl (Nat.le_of_ble_eq_true rfl) ⟨Nat.le_refl _, Nat.le_refl _⟩ dX_test_38 (fun r u H locs hw hP hD hS => ?_)
        obtain ⟨g30, rfl, rfl⟩ | ⟨g31, rfl, rfl⟩ := hw
        · refine lv_if_eq (tgt := 56) S.1 S.2.1 dX_test_41 (by decide) (fun _ => ?_) (fun g32 => absurd (by decide) g32)
          refine lv_iconst (v := 0) S.1 S.2.1 dX_test_56 (by decide) ?_
          refine lv_istore_n S.1 S.2.1 dX_test_57 rfl hl (by decide) rfl (fun ls hl => ?_)
          have hl : lv_has ls 2 [(1, .int 0), (0, .ref a.1)] := hl
          refine lv_iload_n S.1 S.2.1 dX_test_58 rfl (lv_at hl 0 rfl) ?_
          refine lv_aload_n S.1 S.2.1 dX_test_59 rfl (lv_at hl 1 rfl) ?_
          refine lv_bipush (v := 8) S.1 S.2.1 dX_test_60 (by decide) ?_
          refine cl_i (As := [.int 8]) (rest := [.int 0]) S hN hK hP hD hS hA hl.1 (c_X_irHas l D a _ pc ac lk mq ma mb ir sw io dl ha rd sn md kf kb cn pf co ou 8) k_X_233 (rc_X hK hP) ⟨by decide, by decide⟩ rfl rfl (Nat.le_of_ble_eq_true rfl) ⟨Nat.le_refl _, Nat.le_refl _⟩ dX_test_62 (fun r u H locs hw hP hD hS => ?_)
          obtain ⟨g33, rfl, rfl⟩ | ⟨g34, rfl, rfl⟩ := hw
          · refine lv_icmp_eq (tgt := 72) S.1 S.2.1 dX_test_65 (by decide) (fun _ => ?_) (fun g35 => absurd (by decide) g35)
            refine lv_bipush (v := 27) S.1 S.2.1 dX_test_72 (by decide) ?_
            exact rt_i S hr hk hK hP hD hS ((by simp [mu26, g1, g5, g25, g30, g33])) dX_test_74
          · refine lv_icmp_eq (tgt := 72) S.1 S.2.1 dX_test_65 (by decide) (fun g36 => absurd g36 (by decide)) (fun _ => ?_)
            refine lv_aload_n S.1 S.2.1 dX_test_68 rfl (lv_at hl 1 rfl) ?_
            refine cl_v (As := []) (rest := []) S hN hK hP hD hS hA hl.1 (c_X_advancePc l D a _ pc ac lk mq ma mb ir sw io dl ha rd sn md kf kb cn pf co ou ) k_X_230 (rc_X hK hP) ⟨by decide, by decide⟩ rfl rfl (Nat.le_of_ble_eq_true rfl) ⟨Nat.le_refl _, Nat.le_refl _⟩ dX_test_69 (fun u H locs hw hP hD hS => ?_)
            obtain rfl := hw
            refine lv_bipush (v := 27) S.1 S.2.1 dX_test_72 (by decide) ?_
            exact rt_i S hr hk hK hP hD hS ((by simp [mu26, g1, g5, g25, g30, g34])) dX_test_74
        · refine lv_if_eq (tgt := 56) S.1 S.2.1 dX_test_41 (by decide) (fun g37 => absurd g37 (by decide)) (fun _ => ?_)
          refine lv_aload_n S.1 S.2.1 dX_test_44 rfl (lv_at hl 0 rfl) ?_
          refine g_X_X_link S hK hP dX_test_45 ?_
          refine lv_iconst (v := 1) S.1 S.2.1 dX_test_48 (by decide) ?_
          refine lv_icmp_ne (tgt := 56) S.1 S.2.1 dX_test_49 (by decide) (fun g38 => ?_) (fun g38 => ?_)
          · refine lv_iconst (v := 0) S.1 S.2.1 dX_test_56 (by decide) ?_
            refine lv_istore_n S.1 S.2.1 dX_test_57 rfl hl (by decide) rfl (fun ls hl => ?_)
            have hl : lv_has ls 2 [(1, .int 0), (0, .ref a.1)] := hl
            refine lv_iload_n S.1 S.2.1 dX_test_58 rfl (lv_at hl 0 rfl) ?_
            refine lv_aload_n S.1 S.2.1 dX_test_59 rfl (lv_at hl 1 rfl) ?_
            refine lv_bipush (v := 8) S.1 S.2.1 dX_test_60 (by decide) ?_
            refine cl_i (As := [.int 8]) (rest := [.int 0]) S hN hK hP hD hS hA hl.1 (c_X_irHas l D a _ pc ac lk mq ma mb ir sw io dl ha rd sn md kf kb cn pf co ou 8) k_X_233 (rc_X hK hP) ⟨by decide, by decide⟩ rfl rfl (Nat.le_of_ble_eq_true rfl) ⟨Nat.le_refl _, Nat.le_refl _⟩ dX_test_62 (fun r u H locs hw hP hD hS => ?_)
            obtain ⟨g39, rfl, rfl⟩ | ⟨g40, rfl, rfl⟩ := hw
            · refine lv_icmp_eq (tgt := 72) S.1 S.2.1 dX_test_65 (by decide) (fun _ => ?_) (fun g41 => absurd (by decide) g41)
              refine lv_bipush (v := 27) S.1 S.2.1 dX_test_72 (by decide) ?_
              exact rt_i S hr hk hK hP hD hS ((by simp [mu26, g1, g5, g25, g31, g38, g39])) dX_test_74
            · refine lv_icmp_eq (tgt := 72) S.1 S.2.1 dX_test_65 (by decide) (fun g42 => absurd g42 (by decide)) (fun _ => ?_)
              refine lv_aload_n S.1 S.2.1 dX_test_68 rfl (lv_at hl 1 rfl) ?_
              refine cl_v (As := []) (rest := []) S hN hK hP hD hS hA hl.1 (c_X_advancePc l D a _ pc ac lk mq ma mb ir sw io dl ha rd sn md kf kb cn pf co ou ) k_X_230 (rc_X hK hP) ⟨by decide, by decide⟩ rfl rfl (Nat.le_of_ble_eq_true rfl) ⟨Nat.le_refl _, Nat.le_refl _⟩ dX_test_69 (fun u H locs hw hP hD hS => ?_)
              obtain rfl := hw
              refine lv_bipush (v := 27) S.1 S.2.1 dX_test_72 (by decide) ?_
              exact rt_i S hr hk hK hP hD hS ((by simp [mu26, g1, g5, g25, g31, g38, g40])) dX_test_74
          · refine lv_iconst (v := 1) S.1 S.2.1 dX_test_52 (by decide) ?_
            refine lv_goto (tgt := 57) S.1 S.2.1 dX_test_53 (by decide) ?_
            refine lv_istore_n S.1 S.2.1 dX_test_57 rfl hl (by decide) rfl (fun ls hl => ?_)
            have hl : lv_has ls 2 [(1, .int 1), (0, .ref a.1)] := hl
            refine lv_iload_n S.1 S.2.1 dX_test_58 rfl (lv_at hl 0 rfl) ?_
            refine lv_aload_n S.1 S.2.1 dX_test_59 rfl (lv_at hl 1 rfl) ?_
            refine lv_bipush (v := 8) S.1 S.2.1 dX_test_60 (by decide) ?_
            refine cl_i (As := [.int 8]) (rest := [.int 1]) S hN hK hP hD hS hA hl.1 (c_X_irHas l D a _ pc ac lk mq ma mb ir sw io dl ha rd sn md kf kb cn pf co ou 8) k_X_233 (rc_X hK hP) ⟨by decide, by decide⟩ rfl rfl (Nat.le_of_ble_eq_true rfl) ⟨Nat.le_refl _, Nat.le_refl _⟩ dX_test_62 (fun r u H locs hw hP hD hS => ?_)
            obtain ⟨g43, rfl, rfl⟩ | ⟨g44, rfl, rfl⟩ := hw
            · refine lv_icmp_eq (tgt := 72) S.1 S.2.1 dX_test_65 (by decide) (fun g45 => absurd g45 (by decide)) (fun _ => ?_)
              refine lv_aload_n S.1 S.2.1 dX_test_68 rfl (lv_at hl 1 rfl) ?_
              refine cl_v (As := []) (rest := []) S hN hK hP hD hS hA hl.1 (c_X_advancePc l D a _ pc ac lk mq ma mb ir sw io dl ha rd sn md kf kb cn pf co ou ) k_X_230 (rc_X hK hP) ⟨by decide, by decide⟩ rfl rfl (Nat.le_of_ble_eq_true rfl) ⟨Nat.le_refl _, Nat.le_refl _⟩ dX_test_69 (fun u H locs hw hP hD hS => ?_)
              obtain rfl := hw
              refine lv_bipush (v := 27) S.1 S.2.1 dX_test_72 (by decide) ?_
              exact rt_i S hr hk hK hP hD hS ((by simp [mu26, g1, g5, g25, g31, g38, g43])) dX_test_74
            · refine lv_icmp_eq (tgt := 72) S.1 S.2.1 dX_test_65 (by decide) (fun _ => ?_) (fun g46 => absurd (by decide) g46)
              refine lv_bipush (v := 27) S.1 S.2.1 dX_test_72 (by decide) ?_
              exact rt_i S hr hk hK hP hD hS ((by simp [mu26, g1, g5, g25, g31, g38, g44])) dX_test_74
  · refine lv_if_eq (tgt := 19) S.1 S.2.1 dX_test_6 (by decide) (fun g47 => absurd g47 (by decide)) (fun _ => ?_)
    refine lv_aload_n S.1 S.2.1 dX_test_9 rfl (lv_at hl 0 rfl) ?_
    refine g_X_X_ac S hK hP dX_test_10 ?_
    refine lv_sipush (v := 2048) S.1 S.2.1 dX_test_13 (by decide) ?_
    refine lv_icmp_ge (tgt := 52) S.1 S.2.1 dX_test_16 (by decide) (fun g48 => ?_) (fun g48 => ?_)
    · refine lv_iconst (v := 1) S.1 S.2.1 dX_test_52 (by decide) ?_
      refine lv_goto (tgt := 57) S.1 S.2.1 dX_test_53 (by decide) ?_
      refine lv_istore_n S.1 S.2.1 dX_test_57 rfl hl (by decide) rfl (fun ls hl => ?_)
      have hl : lv_has ls 2 [(1, .int 1), (0, .ref a.1)] := hl
      refine lv_iload_n S.1 S.2.1 dX_test_58 rfl (lv_at hl 0 rfl) ?_
      refine lv_aload_n S.1 S.2.1 dX_test_59 rfl (lv_at hl 1 rfl) ?_
      refine lv_bipush (v := 8) S.1 S.2.1 dX_test_60 (by decide) ?_
      refine cl_i (As := [.int 8]) (rest := [.int 1]) S hN hK hP hD hS hA hl.1 (c_X_irHas l D a _ pc ac lk mq ma mb ir sw io dl ha rd sn md kf kb cn pf co ou 8) k_X_233 (rc_X hK hP) ⟨by decide, by decide⟩ rfl rfl (Nat.le_of_ble_eq_true rfl) ⟨Nat.le_refl _, Nat.le_refl _⟩ dX_test_62 (fun r u H locs hw hP hD hS => ?_)
      obtain ⟨g49, rfl, rfl⟩ | ⟨g50, rfl, rfl⟩ := hw
      · refine lv_icmp_eq (tgt := 72) S.1 S.2.1 dX_test_65 (by decide) (fun g51 => absurd g51 (by decide)) (fun _ => ?_)
        refine lv_aload_n S.1 S.2.1 dX_test_68 rfl (lv_at hl 1 rfl) ?_
        refine cl_v (As := []) (rest := []) S hN hK hP hD hS hA hl.1 (c_X_advancePc l D a _ pc ac lk mq ma mb ir sw io dl ha rd sn md kf kb cn pf co ou ) k_X_230 (rc_X hK hP) ⟨by decide, by decide⟩ rfl rfl (Nat.le_of_ble_eq_true rfl) ⟨Nat.le_refl _, Nat.le_refl _⟩ dX_test_69 (fun u H locs hw hP hD hS => ?_)
        obtain rfl := hw
        refine lv_bipush (v := 27) S.1 S.2.1 dX_test_72 (by decide) ?_
        exact rt_i S hr hk hK hP hD hS ((by simp [mu26, g2, g48, g49])) dX_test_74
      · refine lv_icmp_eq (tgt := 72) S.1 S.2.1 dX_test_65 (by decide) (fun _ => ?_) (fun g52 => absurd (by decide) g52)
        refine lv_bipush (v := 27) S.1 S.2.1 dX_test_72 (by decide) ?_
        exact rt_i S hr hk hK hP hD hS ((by simp [mu26, g2, g48, g50])) dX_test_74
    · refine lv_aload_n S.1 S.2.1 dX_test_19 rfl (lv_at hl 0 rfl) ?_
      refine lv_bipush (v := 32) S.1 S.2.1 dX_test_20 (by decide) ?_
      refine cl_i (As := [.int 32]) (rest := []) S hN hK hP hD hS hA hl.1 (c_X_irHas l D a _ pc ac lk mq ma mb ir sw io dl ha rd sn md kf kb cn pf co ou 32) k_X_233 (rc_X hK hP) ⟨by decide, by decide⟩ rfl rfl (Nat.le_of_ble_eq_true rfl) ⟨Nat.le_refl _, Nat.le_refl _⟩ dX_test_22 (fun r u H locs hw hP hD hS => ?_)
      obtain ⟨g53, rfl, rfl⟩ | ⟨g54, rfl, rfl⟩ := hw
      · refine lv_if_eq (tgt := 35) S.1 S.2.1 dX_test_25 (by decide) (fun _ => ?_) (fun g55 => absurd (by decide) g55)
        refine lv_aload_n S.1 S.2.1 dX_test_35 rfl (lv_at hl 0 rfl) ?_
        refine lv_bipush (v := 16) S.1 S.2.1 dX_test_36 (by decide) ?_
        refine cl_i (As := [.int 16]) (rest := []) S hN hK hP hD hS hA hl.1 (c_X_irHas l D a _ pc ac lk mq ma mb ir sw io dl ha rd sn md kf kb cn pf co ou 16) k_X_233 (rc_X hK hP) ⟨by decide, by decide⟩ rfl rfl (Nat.le_of_ble_eq_true rfl) ⟨Nat.le_refl _, Nat.le_refl _⟩ dX_test_38 (fun r u H locs hw hP hD hS => ?_)
        obtain ⟨g56, rfl, rfl⟩ | ⟨g57, rfl, rfl⟩ := hw
        · refine lv_if_eq (tgt := 56) S.1 S.2.1 dX_test_41 (by decide) (fun _ => ?_) (fun g58 => absurd (by decide) g58)
          refine lv_iconst (v := 0) S.1 S.2.1 dX_test_56 (by decide) ?_
          refine lv_istore_n S.1 S.2.1 dX_test_57 rfl hl (by decide) rfl (fun ls hl => ?_)
          have hl : lv_has ls 2 [(1, .int 0), (0, .ref a.1)] := hl
          refine lv_iload_n S.1 S.2.1 dX_test_58 rfl (lv_at hl 0 rfl) ?_
          refine lv_aload_n S.1 S.2.1 dX_test_59 rfl (lv_at hl 1 rfl) ?_
          refine lv_bipush (v := 8) S.1 S.2.1 dX_test_60 (by decide) ?_
          refine cl_i (As := [.int 8]) (rest := [.int 0]) S hN hK hP hD hS hA hl.1 (c_X_irHas l D a _ pc ac lk mq ma mb ir sw io dl ha rd sn md kf kb cn pf co ou 8) k_X_233 (rc_X hK hP) ⟨by decide, by decide⟩ rfl rfl (Nat.le_of_ble_eq_true rfl) ⟨Nat.le_refl _, Nat.le_refl _⟩ dX_test_62 (fun r u H locs hw hP hD hS => ?_)
          obtain ⟨g59, rfl, rfl⟩ | ⟨g60, rfl, rfl⟩ := hw
          · refine lv_icmp_eq (tgt := 72) S.1 S.2.1 dX_test_65 (by decide) (fun _ => ?_) (fun g61 => absurd (by decide) g61)
            refine lv_bipush (v := 27) S.1 S.2.1 dX_test_72 (by decide) ?_
            exact rt_i S hr hk hK hP hD hS ((by simp [mu26, g2, g48, g53, g56, g59])) dX_test_74
          · refine lv_icmp_eq (tgt := 72) S.1 S.2.1 dX_test_65 (by decide) (fun g62 => absurd g62 (by decide)) (fun _ => ?_)
            refine lv_aload_n S.1 S.2.1 dX_test_68 rfl (lv_at hl 1 rfl) ?_
            refine cl_v (As := []) (rest := []) S hN hK hP hD hS hA hl.1 (c_X_advancePc l D a _ pc ac lk mq ma mb ir sw io dl ha rd sn md kf kb cn pf co ou ) k_X_230 (rc_X hK hP) ⟨by decide, by decide⟩ rfl rfl (Nat.le_of_ble_eq_true rfl) ⟨Nat.le_refl _, Nat.le_refl _⟩ dX_test_69 (fun u H locs hw hP hD hS => ?_)
            obtain rfl := hw
            refine lv_bipush (v := 27) S.1 S.2.1 dX_test_72 (by decide) ?_
            exact rt_i S hr hk hK hP hD hS ((by simp [mu26, g2, g48, g53, g56, g60])) dX_test_74
        · refine lv_if_eq (tgt := 56) S.1 S.2.1 dX_test_41 (by decide) (fun g63 => absurd g63 (by decide)) (fun _ => ?_)
          refine lv_aload_n S.1 S.2.1 dX_test_44 rfl (lv_at hl 0 rfl) ?_
          refine g_X_X_link S hK hP dX_test_45 ?_
          refine lv_iconst (v := 1) S.1 S.2.1 dX_test_48 (by decide) ?_
          refine lv_icmp_ne (tgt := 56) S.1 S.2.1 dX_test_49 (by decide) (fun g64 => ?_) (fun g64 => ?_)
          · refine lv_iconst (v := 0) S.1 S.2.1 dX_test_56 (by decide) ?_
            refine lv_istore_n S.1 S.2.1 dX_test_57 rfl hl (by decide) rfl (fun ls hl => ?_)
            have hl : lv_has ls 2 [(1, .int 0), (0, .ref a.1)] := hl
            refine lv_iload_n S.1 S.2.1 dX_test_58 rfl (lv_at hl 0 rfl) ?_
            refine lv_aload_n S.1 S.2.1 dX_test_59 rfl (lv_at hl 1 rfl) ?_
            refine lv_bipush (v := 8) S.1 S.2.1 dX_test_60 (by decide) ?_
            refine cl_i (As := [.int 8]) (rest := [.int 0]) S hN hK hP hD hS hA hl.1 (c_X_irHas l D a _ pc ac lk mq ma mb ir sw io dl ha rd sn md kf kb cn pf co ou 8) k_X_233 (rc_X hK hP) ⟨by decide, by decide⟩ rfl rfl (Nat.le_of_ble_eq_true rfl) ⟨Nat.le_refl _, Nat.le_refl _⟩ dX_test_62 (fun r u H locs hw hP hD hS => ?_)
            obtain ⟨g65, rfl, rfl⟩ | ⟨g66, rfl, rfl⟩ := hw
            · refine lv_icmp_eq (tgt := 72) S.1 S.2.1 dX_test_65 (by decide) (fun _ => ?_) (fun g67 => absurd (by decide) g67)
              refine lv_bipush (v := 27) S.1 S.2.1 dX_test_72 (by decide) ?_
              exact rt_i S hr hk hK hP hD hS ((by simp [mu26, g2, g48, g53, g57, g64, g65])) dX_test_74
            · refine lv_icmp_eq (tgt := 72) S.1 S.2.1 dX_test_65 (by decide) (fun g68 => absurd g68 (by decide)) (fun _ => ?_)
              refine lv_aload_n S.1 S.2.1 dX_test_68 rfl (lv_at hl 1 rfl) ?_
              refine cl_v (As := []) (rest := []) S hN hK hP hD hS hA hl.1 (c_X_advancePc l D a _ pc ac lk mq ma mb ir sw io dl ha rd sn md kf kb cn pf co ou ) k_X_230 (rc_X hK hP) ⟨by decide, by decide⟩ rfl rfl (Nat.le_of_ble_eq_true rfl) ⟨Nat.le_refl _, Nat.le_refl _⟩ dX_test_69 (fun u H locs hw hP hD hS => ?_)
              obtain rfl := hw
              refine lv_bipush (v := 27) S.1 S.2.1 dX_test_72 (by decide) ?_
              exact rt_i S hr hk hK hP hD hS ((by simp [mu26, g2, g48, g53, g57, g64, g66])) dX_test_74
          · refine lv_iconst (v := 1) S.1 S.2.1 dX_test_52 (by decide) ?_
            refine lv_goto (tgt := 57) S.1 S.2.1 dX_test_53 (by decide) ?_
            refine lv_istore_n S.1 S.2.1 dX_test_57 rfl hl (by decide) rfl (fun ls hl => ?_)
            have hl : lv_has ls 2 [(1, .int 1), (0, .ref a.1)] := hl
            refine lv_iload_n S.1 S.2.1 dX_test_58 rfl (lv_at hl 0 rfl) ?_
            refine lv_aload_n S.1 S.2.1 dX_test_59 rfl (lv_at hl 1 rfl) ?_
            refine lv_bipush (v := 8) S.1 S.2.1 dX_test_60 (by decide) ?_
            refine cl_i (As := [.int 8]) (rest := [.int 1]) S hN hK hP hD hS hA hl.1 (c_X_irHas l D a _ pc ac lk mq ma mb ir sw io dl ha rd sn md kf kb cn pf co ou 8) k_X_233 (rc_X hK hP) ⟨by decide, by decide⟩ rfl rfl (Nat.le_of_ble_eq_true rfl) ⟨Nat.le_refl _, Nat.le_refl _⟩ dX_test_62 (fun r u H locs hw hP hD hS => ?_)
            obtain ⟨g69, rfl, rfl⟩ | ⟨g70, rfl, rfl⟩ := hw
            · refine lv_icmp_eq (tgt := 72) S.1 S.2.1 dX_test_65 (by decide) (fun g71 => absurd g71 (by decide)) (fun _ => ?_)
              refine lv_aload_n S.1 S.2.1 dX_test_68 rfl (lv_at hl 1 rfl) ?_
              refine cl_v (As := []) (rest := []) S hN hK hP hD hS hA hl.1 (c_X_advancePc l D a _ pc ac lk mq ma mb ir sw io dl ha rd sn md kf kb cn pf co ou ) k_X_230 (rc_X hK hP) ⟨by decide, by decide⟩ rfl rfl (Nat.le_of_ble_eq_true rfl) ⟨Nat.le_refl _, Nat.le_refl _⟩ dX_test_69 (fun u H locs hw hP hD hS => ?_)
              obtain rfl := hw
              refine lv_bipush (v := 27) S.1 S.2.1 dX_test_72 (by decide) ?_
              exact rt_i S hr hk hK hP hD hS ((by simp [mu26, g2, g48, g53, g57, g64, g69])) dX_test_74
            · refine lv_icmp_eq (tgt := 72) S.1 S.2.1 dX_test_65 (by decide) (fun _ => ?_) (fun g72 => absurd (by decide) g72)
              refine lv_bipush (v := 27) S.1 S.2.1 dX_test_72 (by decide) ?_
              exact rt_i S hr hk hK hP hD hS ((by simp [mu26, g2, g48, g53, g57, g64, g70])) dX_test_74
      · refine lv_if_eq (tgt := 35) S.1 S.2.1 dX_test_25 (by decide) (fun g73 => absurd g73 (by decide)) (fun _ => ?_)
        refine lv_aload_n S.1 S.2.1 dX_test_28 rfl (lv_at hl 0 rfl) ?_
        refine g_X_X_ac S hK hP dX_test_29 ?_
        refine lv_if_eq (tgt := 52) S.1 S.2.1 dX_test_32 (by decide) (fun g74 => ?_) (fun g74 => ?_)
        · refine lv_iconst (v := 1) S.1 S.2.1 dX_test_52 (by decide) ?_
          refine lv_goto (tgt := 57) S.1 S.2.1 dX_test_53 (by decide) ?_
          refine lv_istore_n S.1 S.2.1 dX_test_57 rfl hl (by decide) rfl (fun ls hl => ?_)
          have hl : lv_has ls 2 [(1, .int 1), (0, .ref a.1)] := hl
          refine lv_iload_n S.1 S.2.1 dX_test_58 rfl (lv_at hl 0 rfl) ?_
          refine lv_aload_n S.1 S.2.1 dX_test_59 rfl (lv_at hl 1 rfl) ?_
          refine lv_bipush (v := 8) S.1 S.2.1 dX_test_60 (by decide) ?_
          refine cl_i (As := [.int 8]) (rest := [.int 1]) S hN hK hP hD hS hA hl.1 (c_X_irHas l D a _ pc ac lk mq ma mb ir sw io dl ha rd sn md kf kb cn pf co ou 8) k_X_233 (rc_X hK hP) ⟨by decide, by decide⟩ rfl rfl (Nat.le_of_ble_eq_true rfl) ⟨Nat.le_refl _, Nat.le_refl _⟩ dX_test_62 (fun r u H locs hw hP hD hS => ?_)
          obtain ⟨g75, rfl, rfl⟩ | ⟨g76, rfl, rfl⟩ := hw
          · refine lv_icmp_eq (tgt := 72) S.1 S.2.1 dX_test_65 (by decide) (fun g77 => absurd g77 (by decide)) (fun _ => ?_)
            refine lv_aload_n S.1 S.2.1 dX_test_68 rfl (lv_at hl 1 rfl) ?_
            refine cl_v (As := []) (rest := []) S hN hK hP hD hS hA hl.1 (c_X_advancePc l D a _ pc ac lk mq ma mb ir sw io dl ha rd sn md kf kb cn pf co ou ) k_X_230 (rc_X hK hP) ⟨by decide, by decide⟩ rfl rfl (Nat.le_of_ble_eq_true rfl) ⟨Nat.le_refl _, Nat.le_refl _⟩ dX_test_69 (fun u H locs hw hP hD hS => ?_)
            obtain rfl := hw
            refine lv_bipush (v := 27) S.1 S.2.1 dX_test_72 (by decide) ?_
            exact rt_i S hr hk hK hP hD hS ((by simp [mu26, g2, g48, g54, g74, g75])) dX_test_74
          · refine lv_icmp_eq (tgt := 72) S.1 S.2.1 dX_test_65 (by decide) (fun _ => ?_) (fun g78 => absurd (by decide) g78)
            refine lv_bipush (v := 27) S.1 S.2.1 dX_test_72 (by decide) ?_
            exact rt_i S hr hk hK hP hD hS ((by simp [mu26, g2, g48, g54, g74, g76])) dX_test_74
        · refine lv_aload_n S.1 S.2.1 dX_test_35 rfl (lv_at hl 0 rfl) ?_
          refine lv_bipush (v := 16) S.1 S.2.1 dX_test_36 (by decide) ?_
          refine cl_i (As := [.int 16]) (rest := []) S hN hK hP hD hS hA hl.1 (c_X_irHas l D a _ pc ac lk mq ma mb ir sw io dl ha rd sn md kf kb cn pf co ou 16) k_X_233 (rc_X hK hP) ⟨by decide, by decide⟩ rfl rfl (Nat.le_of_ble_eq_true rfl) ⟨Nat.le_refl _, Nat.le_refl _⟩ dX_test_38 (fun r u H locs hw hP hD hS => ?_)
          obtain ⟨g79, rfl, rfl⟩ | ⟨g80, rfl, rfl⟩ := hw
          · refine lv_if_eq (tgt := 56) S.1 S.2.1 dX_test_41 (by decide) (fun _ => ?_) (fun g81 => absurd (by decide) g81)
            refine lv_iconst (v := 0) S.1 S.2.1 dX_test_56 (by decide) ?_
            refine lv_istore_n S.1 S.2.1 dX_test_57 rfl hl (by decide) rfl (fun ls hl => ?_)
            have hl : lv_has ls 2 [(1, .int 0), (0, .ref a.1)] := hl
            refine lv_iload_n S.1 S.2.1 dX_test_58 rfl (lv_at hl 0 rfl) ?_
            refine lv_aload_n S.1 S.2.1 dX_test_59 rfl (lv_at hl 1 rfl) ?_
            refine lv_bipush (v := 8) S.1 S.2.1 dX_test_60 (by decide) ?_
            refine cl_i (As := [.int 8]) (rest := [.int 0]) S hN hK hP hD hS hA hl.1 (c_X_irHas l D a _ pc ac lk mq ma mb ir sw io dl ha rd sn md kf kb cn pf co ou 8) k_X_233 (rc_X hK hP) ⟨by decide, by decide⟩ rfl rfl (Nat.le_of_ble_eq_true rfl) ⟨Nat.le_refl _, Nat.le_refl _⟩ dX_test_62 (fun r u H locs hw hP hD hS => ?_)
            obtain ⟨g82, rfl, rfl⟩ | ⟨g83, rfl, rfl⟩ := hw
            · refine lv_icmp_eq (tgt := 72) S.1 S.2.1 dX_test_65 (by decide) (fun _ => ?_) (fun g84 => absurd (by decide) g84)
              refine lv_bipush (v := 27) S.1 S.2.1 dX_test_72 (by decide) ?_
              exact rt_i S hr hk hK hP hD hS ((by simp [mu26, g2, g48, g54, g74, g79, g82])) dX_test_74
            · refine lv_icmp_eq (tgt := 72) S.1 S.2.1 dX_test_65 (by decide) (fun g85 => absurd g85 (by decide)) (fun _ => ?_)
              refine lv_aload_n S.1 S.2.1 dX_test_68 rfl (lv_at hl 1 rfl) ?_
              refine cl_v (As := []) (rest := []) S hN hK hP hD hS hA hl.1 (c_X_advancePc l D a _ pc ac lk mq ma mb ir sw io dl ha rd sn md kf kb cn pf co ou ) k_X_230 (rc_X hK hP) ⟨by decide, by decide⟩ rfl rfl (Nat.le_of_ble_eq_true rfl) ⟨Nat.le_refl _, Nat.le_refl _⟩ dX_test_69 (fun u H locs hw hP hD hS => ?_)
              obtain rfl := hw
              refine lv_bipush (v := 27) S.1 S.2.1 dX_test_72 (by decide) ?_
              exact rt_i S hr hk hK hP hD hS ((by simp [mu26, g2, g48, g54, g74, g79, g83])) dX_test_74
          · refine lv_if_eq (tgt := 56) S.1 S.2.1 dX_test_41 (by decide) (fun g86 => absurd g86 (by decide)) (fun _ => ?_)
            refine lv_aload_n S.1 S.2.1 dX_test_44 rfl (lv_at hl 0 rfl) ?_
            refine g_X_X_link S hK hP dX_test_45 ?_
            refine lv_iconst (v := 1) S.1 S.2.1 dX_test_48 (by decide) ?_
            refine lv_icmp_ne (tgt := 56) S.1 S.2.1 dX_test_49 (by decide) (fun g87 => ?_) (fun g87 => ?_)
            · refine lv_iconst (v := 0) S.1 S.2.1 dX_test_56 (by decide) ?_
              refine lv_istore_n S.1 S.2.1 dX_test_57 rfl hl (by decide) rfl (fun ls hl => ?_)
              have hl : lv_has ls 2 [(1, .int 0), (0, .ref a.1)] := hl
              refine lv_iload_n S.1 S.2.1 dX_test_58 rfl (lv_at hl 0 rfl) ?_
              refine lv_aload_n S.1 S.2.1 dX_test_59 rfl (lv_at hl 1 rfl) ?_
              refine lv_bipush (v := 8) S.1 S.2.1 dX_test_60 (by decide) ?_
              refine cl_i (As := [.int 8]) (rest := [.int 0]) S hN hK hP hD hS hA hl.1 (c_X_irHas l D a _ pc ac lk mq ma mb ir sw io dl ha rd sn md kf kb cn pf co ou 8) k_X_233 (rc_X hK hP) ⟨by decide, by decide⟩ rfl rfl (Nat.le_of_ble_eq_true rfl) ⟨Nat.le_refl _, Nat.le_refl _⟩ dX_test_62 (fun r u H locs hw hP hD hS => ?_)
              obtain ⟨g88, rfl, rfl⟩ | ⟨g89, rfl, rfl⟩ := hw
              · refine lv_icmp_eq (tgt := 72) S.1 S.2.1 dX_test_65 (by decide) (fun _ => ?_) (fun g90 => absurd (by decide) g90)
                refine lv_bipush (v := 27) S.1 S.2.1 dX_test_72 (by decide) ?_
                exact rt_i S hr hk hK hP hD hS ((by simp [mu26, g2, g48, g54, g74, g80, g87, g88])) dX_test_74
              · refine lv_icmp_eq (tgt := 72) S.1 S.2.1 dX_test_65 (by decide) (fun g91 => absurd g91 (by decide)) (fun _ => ?_)
                refine lv_aload_n S.1 S.2.1 dX_test_68 rfl (lv_at hl 1 rfl) ?_
                refine cl_v (As := []) (rest := []) S hN hK hP hD hS hA hl.1 (c_X_advancePc l D a _ pc ac lk mq ma mb ir sw io dl ha rd sn md kf kb cn pf co ou ) k_X_230 (rc_X hK hP) ⟨by decide, by decide⟩ rfl rfl (Nat.le_of_ble_eq_true rfl) ⟨Nat.le_refl _, Nat.le_refl _⟩ dX_test_69 (fun u H locs hw hP hD hS => ?_)
                obtain rfl := hw
                refine lv_bipush (v := 27) S.1 S.2.1 dX_test_72 (by decide) ?_
                exact rt_i S hr hk hK hP hD hS ((by simp [mu26, g2, g48, g54, g74, g80, g87, g89])) dX_test_74
            · refine lv_iconst (v := 1) S.1 S.2.1 dX_test_52 (by decide) ?_
              refine lv_goto (tgt := 57) S.1 S.2.1 dX_test_53 (by decide) ?_
              refine lv_istore_n S.1 S.2.1 dX_test_57 rfl hl (by decide) rfl (fun ls hl => ?_)
              have hl : lv_has ls 2 [(1, .int 1), (0, .ref a.1)] := hl
              refine lv_iload_n S.1 S.2.1 dX_test_58 rfl (lv_at hl 0 rfl) ?_
              refine lv_aload_n S.1 S.2.1 dX_test_59 rfl (lv_at hl 1 rfl) ?_
              refine lv_bipush (v := 8) S.1 S.2.1 dX_test_60 (by decide) ?_
              refine cl_i (As := [.int 8]) (rest := [.int 1]) S hN hK hP hD hS hA hl.1 (c_X_irHas l D a _ pc ac lk mq ma mb ir sw io dl ha rd sn md kf kb cn pf co ou 8) k_X_233 (rc_X hK hP) ⟨by decide, by decide⟩ rfl rfl (Nat.le_of_ble_eq_true rfl) ⟨Nat.le_refl _, Nat.le_refl _⟩ dX_test_62 (fun r u H locs hw hP hD hS => ?_)
              obtain ⟨g92, rfl, rfl⟩ | ⟨g93, rfl, rfl⟩ := hw
              · refine lv_icmp_eq (tgt := 72) S.1 S.2.1 dX_test_65 (by decide) (fun g94 => absurd g94 (by decide)) (fun _ => ?_)
                refine lv_aload_n S.1 S.2.1 dX_test_68 rfl (lv_at hl 1 rfl) ?_
                refine cl_v (As := []) (rest := []) S hN hK hP hD hS hA hl.1 (c_X_advancePc l D a _ pc ac lk mq ma mb ir sw io dl ha rd sn md kf kb cn pf co ou ) k_X_230 (rc_X hK hP) ⟨by decide, by decide⟩ rfl rfl (Nat.le_of_ble_eq_true rfl) ⟨Nat.le_refl _, Nat.le_refl _⟩ dX_test_69 (fun u H locs hw hP hD hS => ?_)
                obtain rfl := hw
                refine lv_bipush (v := 27) S.1 S.2.1 dX_test_72 (by decide) ?_
                exact rt_i S hr hk hK hP hD hS ((by simp [mu26, g2, g48, g54, g74, g80, g87, g92])) dX_test_74
              · refine lv_icmp_eq (tgt := 72) S.1 S.2.1 dX_test_65 (by decide) (fun _ => ?_) (fun g95 => absurd (by decide) g95)
                refine lv_bipush (v := 27) S.1 S.2.1 dX_test_72 (by decide) ?_
                exact rt_i S hr hk hK hP hD hS ((by simp [mu26, g2, g48, g54, g74, g80, g87, g93])) dX_test_74

set_option maxHeartbeats 4000000 in
set_option maxRecDepth 100000 in
theorem c_X_clearAfterTest (l : Launch) (D : va_G) (a : AX) (sz : Nat) (pc ac lk mq ma mb ir sw io dl ha rd sn md kf kb cn pf : Int32) (co ou : Nat → Int32) : MI l D (wx a) (tx a) sz yX_clearAfterTest cX_clearAfterTest 1 (some .int) 2 [.ref a.1] (pc, ac, lk, mq, ma, mb, ir, sw, io, dl, ha, rd, sn, md, kf, kb, cn, pf, co, ou) (fun r u => (r, u) = mu27 (pc, ac, lk, mq, ma, mb, ir, sw, io, dl, ha, rd, sn, md, kf, kb, cn, pf, co, ou)) := by
  refine en_i RX rfl (by decide) (Nat.le_of_ble_eq_true rfl) ?_
  intro p e s m below meth c A ls S hr hk hA hN hK hP hD hS hl
  have hl : lv_has ls 1 [(0, .ref a.1)] := hl
  refine lv_aload_n S.1 S.2.1 dX_clearAfterTest_0 rfl (lv_at hl 0 rfl) ?_
  refine cl_v (As := []) (rest := []) S hN hK hP hD hS hA hl.1 (c_X_clearAcIfAsked l D a _ pc ac lk mq ma mb ir sw io dl ha rd sn md kf kb cn pf co ou ) k_X_245 (rc_X hK hP) ⟨by decide, by decide⟩ rfl rfl (Nat.le_of_ble_eq_true rfl) ⟨Nat.le_refl _, Nat.le_refl _⟩ dX_clearAfterTest_1 (fun u H locs hw hP hD hS => ?_)
  obtain ⟨g1, rfl⟩ | ⟨g2, rfl⟩ := hw
  · refine lv_aload_n S.1 S.2.1 dX_clearAfterTest_4 rfl (lv_at hl 0 rfl) ?_
    refine lv_bipush (v := 6) S.1 S.2.1 dX_clearAfterTest_5 (by decide) ?_
    refine cl_i (As := [.int 6]) (rest := []) S hN hK hP hD hS hA hl.1 (c_X_irHas l D a _ pc ac lk mq ma mb ir sw io dl ha rd sn md kf kb cn pf co ou 6) k_X_233 (rc_X hK hP) ⟨by decide, by decide⟩ rfl rfl (Nat.le_of_ble_eq_true rfl) ⟨Nat.le_refl _, Nat.le_refl _⟩ dX_clearAfterTest_7 (fun r u H locs hw hP hD hS => ?_)
    obtain ⟨g3, rfl, rfl⟩ | ⟨g4, rfl, rfl⟩ := hw
    · refine lv_if_eq (tgt := 18) S.1 S.2.1 dX_clearAfterTest_10 (by decide) (fun _ => ?_) (fun g5 => absurd (by decide) g5)
      refine lv_iconst (v := 0) S.1 S.2.1 dX_clearAfterTest_18 (by decide) ?_
      exact rt_i S hr hk hK hP hD hS ((by simp [mu27, g1, g3])) dX_clearAfterTest_19
    · refine lv_if_eq (tgt := 18) S.1 S.2.1 dX_clearAfterTest_10 (by decide) (fun g6 => absurd g6 (by decide)) (fun _ => ?_)
      refine lv_bipush (v := 28) S.1 S.2.1 dX_clearAfterTest_13 (by decide) ?_
      refine lv_goto (tgt := 19) S.1 S.2.1 dX_clearAfterTest_15 (by decide) ?_
      exact rt_i S hr hk hK hP hD hS ((by simp [mu27, g1, g4])) dX_clearAfterTest_19
  · refine lv_aload_n S.1 S.2.1 dX_clearAfterTest_4 rfl (lv_at hl 0 rfl) ?_
    refine lv_bipush (v := 6) S.1 S.2.1 dX_clearAfterTest_5 (by decide) ?_
    refine cl_i (As := [.int 6]) (rest := []) S hN hK hP hD hS hA hl.1 (c_X_irHas l D a _ pc 0 lk mq ma mb ir sw io dl ha rd sn md kf kb cn pf co ou 6) k_X_233 (rc_X hK hP) ⟨by decide, by decide⟩ rfl rfl (Nat.le_of_ble_eq_true rfl) ⟨Nat.le_refl _, Nat.le_refl _⟩ dX_clearAfterTest_7 (fun r u H locs hw hP hD hS => ?_)
    obtain ⟨g7, rfl, rfl⟩ | ⟨g8, rfl, rfl⟩ := hw
    · refine lv_if_eq (tgt := 18) S.1 S.2.1 dX_clearAfterTest_10 (by decide) (fun _ => ?_) (fun g9 => absurd (by decide) g9)
      refine lv_iconst (v := 0) S.1 S.2.1 dX_clearAfterTest_18 (by decide) ?_
      exact rt_i S hr hk hK hP hD hS ((by simp [mu27, g2, g7])) dX_clearAfterTest_19
    · refine lv_if_eq (tgt := 18) S.1 S.2.1 dX_clearAfterTest_10 (by decide) (fun g10 => absurd g10 (by decide)) (fun _ => ?_)
      refine lv_bipush (v := 28) S.1 S.2.1 dX_clearAfterTest_13 (by decide) ?_
      refine lv_goto (tgt := 19) S.1 S.2.1 dX_clearAfterTest_15 (by decide) ?_
      exact rt_i S hr hk hK hP hD hS ((by simp [mu27, g2, g8])) dX_clearAfterTest_19

set_option maxHeartbeats 4000000 in
set_option maxRecDepth 100000 in
theorem c_X_switchesAndHalt (l : Launch) (D : va_G) (a : AX) (sz : Nat) (pc ac lk mq ma mb ir sw io dl ha rd sn md kf kb cn pf : Int32) (co ou : Nat → Int32) : MI l D (wx a) (tx a) sz yX_switchesAndHalt cX_switchesAndHalt 1 (some .int) 1 [.ref a.1] (pc, ac, lk, mq, ma, mb, ir, sw, io, dl, ha, rd, sn, md, kf, kb, cn, pf, co, ou) (fun r u => (r, u) = mu28 (pc, ac, lk, mq, ma, mb, ir, sw, io, dl, ha, rd, sn, md, kf, kb, cn, pf, co, ou)) := by
  refine en_i RX rfl (by decide) (Nat.le_of_ble_eq_true rfl) ?_
  intro p e s m below meth c A ls S hr hk hA hN hK hP hD hS hl
  have hl : lv_has ls 1 [(0, .ref a.1)] := hl
  refine lv_aload_n S.1 S.2.1 dX_switchesAndHalt_0 rfl (lv_at hl 0 rfl) ?_
  refine lv_iconst (v := 4) S.1 S.2.1 dX_switchesAndHalt_1 (by decide) ?_
  refine cl_i (As := [.int 4]) (rest := []) S hN hK hP hD hS hA hl.1 (c_X_irHas l D a _ pc ac lk mq ma mb ir sw io dl ha rd sn md kf kb cn pf co ou 4) k_X_233 (rc_X hK hP) ⟨by decide, by decide⟩ rfl rfl (Nat.le_of_ble_eq_true rfl) ⟨Nat.le_refl _, Nat.le_refl _⟩ dX_switchesAndHalt_2 (fun r u H locs hw hP hD hS => ?_)
  obtain ⟨g1, rfl, rfl⟩ | ⟨g2, rfl, rfl⟩ := hw
  · refine lv_if_eq (tgt := 21) S.1 S.2.1 dX_switchesAndHalt_5 (by decide) (fun _ => ?_) (fun g3 => absurd (by decide) g3)
    refine lv_aload_n S.1 S.2.1 dX_switchesAndHalt_21 rfl (lv_at hl 0 rfl) ?_
    refine lv_iconst (v := 2) S.1 S.2.1 dX_switchesAndHalt_22 (by decide) ?_
    refine cl_i (As := [.int 2]) (rest := []) S hN hK hP hD hS hA hl.1 (c_X_irHas l D a _ pc ac lk mq ma mb ir sw io dl ha rd sn md kf kb cn pf co ou 2) k_X_233 (rc_X hK hP) ⟨by decide, by decide⟩ rfl rfl (Nat.le_of_ble_eq_true rfl) ⟨Nat.le_refl _, Nat.le_refl _⟩ dX_switchesAndHalt_23 (fun r u H locs hw hP hD hS => ?_)
    obtain ⟨g4, rfl, rfl⟩ | ⟨g5, rfl, rfl⟩ := hw
    · refine lv_if_eq (tgt := 34) S.1 S.2.1 dX_switchesAndHalt_26 (by decide) (fun _ => ?_) (fun g6 => absurd (by decide) g6)
      refine lv_iconst (v := 0) S.1 S.2.1 dX_switchesAndHalt_34 (by decide) ?_
      exact rt_i S hr hk hK hP hD hS ((by simp [mu28, g1, g4])) dX_switchesAndHalt_35
    · refine lv_if_eq (tgt := 34) S.1 S.2.1 dX_switchesAndHalt_26 (by decide) (fun g7 => absurd g7 (by decide)) (fun _ => ?_)
      refine lv_aload_n S.1 S.2.1 dX_switchesAndHalt_29 rfl (lv_at hl 0 rfl) ?_
      refine lv_iconst (v := 1) S.1 S.2.1 dX_switchesAndHalt_30 (by decide) ?_
      refine p_X_X_halted S hK hP hD hS rfl rfl dX_switchesAndHalt_31 (fun H locs hP hD hS => ?_)
      refine lv_iconst (v := 0) S.1 S.2.1 dX_switchesAndHalt_34 (by decide) ?_
      exact rt_i S hr hk hK hP hD hS ((by simp [mu28, g1, g5])) dX_switchesAndHalt_35
  · refine lv_if_eq (tgt := 21) S.1 S.2.1 dX_switchesAndHalt_5 (by decide) (fun g8 => absurd g8 (by decide)) (fun _ => ?_)
    refine lv_aload_n S.1 S.2.1 dX_switchesAndHalt_8 rfl (lv_at hl 0 rfl) ?_
    refine lv_dup S.1 S.2.1 dX_switchesAndHalt_9 rfl ?_
    refine g_X_X_ac S hK hP dX_switchesAndHalt_10 ?_
    refine lv_aload_n S.1 S.2.1 dX_switchesAndHalt_13 rfl (lv_at hl 0 rfl) ?_
    refine g_X_X_switchWord S hK hP dX_switchesAndHalt_14 ?_
    refine lv_ior S.1 S.2.1 dX_switchesAndHalt_17 ?_
    refine p_X_X_ac S hK hP hD hS dX_switchesAndHalt_18 (fun H locs hP hD hS => ?_)
    refine lv_aload_n S.1 S.2.1 dX_switchesAndHalt_21 rfl (lv_at hl 0 rfl) ?_
    refine lv_iconst (v := 2) S.1 S.2.1 dX_switchesAndHalt_22 (by decide) ?_
    refine cl_i (As := [.int 2]) (rest := []) S hN hK hP hD hS hA hl.1 (c_X_irHas l D a _ pc (ac ||| sw) lk mq ma mb ir sw io dl ha rd sn md kf kb cn pf co ou 2) k_X_233 (rc_X hK hP) ⟨by decide, by decide⟩ rfl rfl (Nat.le_of_ble_eq_true rfl) ⟨Nat.le_refl _, Nat.le_refl _⟩ dX_switchesAndHalt_23 (fun r u H locs hw hP hD hS => ?_)
    obtain ⟨g9, rfl, rfl⟩ | ⟨g10, rfl, rfl⟩ := hw
    · refine lv_if_eq (tgt := 34) S.1 S.2.1 dX_switchesAndHalt_26 (by decide) (fun _ => ?_) (fun g11 => absurd (by decide) g11)
      refine lv_iconst (v := 0) S.1 S.2.1 dX_switchesAndHalt_34 (by decide) ?_
      exact rt_i S hr hk hK hP hD hS ((by simp [mu28, g2, g9])) dX_switchesAndHalt_35
    · refine lv_if_eq (tgt := 34) S.1 S.2.1 dX_switchesAndHalt_26 (by decide) (fun g12 => absurd g12 (by decide)) (fun _ => ?_)
      refine lv_aload_n S.1 S.2.1 dX_switchesAndHalt_29 rfl (lv_at hl 0 rfl) ?_
      refine lv_iconst (v := 1) S.1 S.2.1 dX_switchesAndHalt_30 (by decide) ?_
      refine p_X_X_halted S hK hP hD hS rfl rfl dX_switchesAndHalt_31 (fun H locs hP hD hS => ?_)
      refine lv_iconst (v := 0) S.1 S.2.1 dX_switchesAndHalt_34 (by decide) ?_
      exact rt_i S hr hk hK hP hD hS ((by simp [mu28, g2, g10])) dX_switchesAndHalt_35

set_option maxHeartbeats 4000000 in
set_option maxRecDepth 100000 in
theorem c_X_clearBeforeMq (l : Launch) (D : va_G) (a : AX) (sz : Nat) (pc ac lk mq ma mb ir sw io dl ha rd sn md kf kb cn pf : Int32) (co ou : Nat → Int32) : MI l D (wx a) (tx a) sz yX_clearBeforeMq cX_clearBeforeMq 1 (some .int) 2 [.ref a.1] (pc, ac, lk, mq, ma, mb, ir, sw, io, dl, ha, rd, sn, md, kf, kb, cn, pf, co, ou) (fun r u => (r, u) = mu30 (pc, ac, lk, mq, ma, mb, ir, sw, io, dl, ha, rd, sn, md, kf, kb, cn, pf, co, ou)) := by
  refine en_i RX rfl (by decide) (Nat.le_of_ble_eq_true rfl) ?_
  intro p e s m below meth c A ls S hr hk hA hN hK hP hD hS hl
  have hl : lv_has ls 1 [(0, .ref a.1)] := hl
  refine lv_aload_n S.1 S.2.1 dX_clearBeforeMq_0 rfl (lv_at hl 0 rfl) ?_
  refine cl_v (As := []) (rest := []) S hN hK hP hD hS hA hl.1 (c_X_clearAcIfAsked l D a _ pc ac lk mq ma mb ir sw io dl ha rd sn md kf kb cn pf co ou ) k_X_245 (rc_X hK hP) ⟨by decide, by decide⟩ rfl rfl (Nat.le_of_ble_eq_true rfl) ⟨Nat.le_refl _, Nat.le_refl _⟩ dX_clearBeforeMq_1 (fun u H locs hw hP hD hS => ?_)
  obtain ⟨g1, rfl⟩ | ⟨g2, rfl⟩ := hw
  · refine lv_bipush (v := 31) S.1 S.2.1 dX_clearBeforeMq_4 (by decide) ?_
    exact rt_i S hr hk hK hP hD hS ((by simp [mu30, g1])) dX_clearBeforeMq_6
  · refine lv_bipush (v := 31) S.1 S.2.1 dX_clearBeforeMq_4 (by decide) ?_
    exact rt_i S hr hk hK hP hD hS ((by simp [mu30, g2])) dX_clearBeforeMq_6

set_option maxHeartbeats 4000000 in
set_option maxRecDepth 100000 in
theorem c_X_exchangeMq (l : Launch) (D : va_G) (a : AX) (sz : Nat) (pc ac lk mq ma mb ir sw io dl ha rd sn md kf kb cn pf : Int32) (co ou : Nat → Int32) : MI l D (wx a) (tx a) sz yX_exchangeMq cX_exchangeMq 3 (some .int) 1 [.ref a.1] (pc, ac, lk, mq, ma, mb, ir, sw, io, dl, ha, rd, sn, md, kf, kb, cn, pf, co, ou) (fun r u => (r, u) = mu31 (pc, ac, lk, mq, ma, mb, ir, sw, io, dl, ha, rd, sn, md, kf, kb, cn, pf, co, ou)) := by
  refine en_i RX rfl (by decide) (Nat.le_of_ble_eq_true rfl) ?_
  intro p e s m below meth c A ls S hr hk hA hN hK hP hD hS hl
  have hl : lv_has ls 3 [(0, .ref a.1)] := hl
  refine lv_aload_n S.1 S.2.1 dX_exchangeMq_0 rfl (lv_at hl 0 rfl) ?_
  refine g_X_X_mq S hK hP dX_exchangeMq_1 ?_
  refine lv_istore_n S.1 S.2.1 dX_exchangeMq_4 rfl hl (by decide) rfl (fun ls hl => ?_)
  have hl : lv_has ls 3 [(1, .int mq), (0, .ref a.1)] := hl
  refine lv_aload_n S.1 S.2.1 dX_exchangeMq_5 rfl (lv_at hl 1 rfl) ?_
  refine g_X_X_ac S hK hP dX_exchangeMq_6 ?_
  refine lv_istore_n S.1 S.2.1 dX_exchangeMq_9 rfl hl (by decide) rfl (fun ls hl => ?_)
  have hl : lv_has ls 3 [(2, .int ac), (1, .int mq), (0, .ref a.1)] := hl
  refine lv_aload_n S.1 S.2.1 dX_exchangeMq_10 rfl (lv_at hl 2 rfl) ?_
  refine lv_bipush (v := 16) S.1 S.2.1 dX_exchangeMq_11 (by decide) ?_
  refine cl_i (As := [.int 16]) (rest := []) S hN hK hP hD hS hA hl.1 (c_X_irHas l D a _ pc ac lk mq ma mb ir sw io dl ha rd sn md kf kb cn pf co ou 16) k_X_233 (rc_X hK hP) ⟨by decide, by decide⟩ rfl rfl (Nat.le_of_ble_eq_true rfl) ⟨Nat.le_refl _, Nat.le_refl _⟩ dX_exchangeMq_13 (fun r u H locs hw hP hD hS => ?_)
  obtain ⟨g1, rfl, rfl⟩ | ⟨g2, rfl, rfl⟩ := hw
  · refine lv_if_eq (tgt := 29) S.1 S.2.1 dX_exchangeMq_16 (by decide) (fun _ => ?_) (fun g3 => absurd (by decide) g3)
    refine lv_aload_n S.1 S.2.1 dX_exchangeMq_29 rfl (lv_at hl 2 rfl) ?_
    refine lv_aload_n S.1 S.2.1 dX_exchangeMq_30 rfl (lv_at hl 2 rfl) ?_
    refine lv_bipush (v := 64) S.1 S.2.1 dX_exchangeMq_31 (by decide) ?_
    refine cl_i (As := [.int 64]) (rest := [.ref a.1]) S hN hK hP hD hS hA hl.1 (c_X_irHas l D a _ pc ac lk mq ma mb ir sw io dl ha rd sn md kf kb cn pf co ou 64) k_X_233 (rc_X hK hP) ⟨by decide, by decide⟩ rfl rfl (Nat.le_of_ble_eq_true rfl) ⟨Nat.le_refl _, Nat.le_refl _⟩ dX_exchangeMq_33 (fun r u H locs hw hP hD hS => ?_)
    obtain ⟨g4, rfl, rfl⟩ | ⟨g5, rfl, rfl⟩ := hw
    · refine lv_if_eq (tgt := 45) S.1 S.2.1 dX_exchangeMq_36 (by decide) (fun _ => ?_) (fun g6 => absurd (by decide) g6)
      refine lv_iload_n S.1 S.2.1 dX_exchangeMq_45 rfl (lv_at hl 0 rfl) ?_
      refine p_X_X_ac S hK hP hD hS dX_exchangeMq_46 (fun H locs hP hD hS => ?_)
      refine lv_iconst (v := 0) S.1 S.2.1 dX_exchangeMq_49 (by decide) ?_
      exact rt_i S hr hk hK hP hD hS ((by simp [mu31, g1, g4])) dX_exchangeMq_50
    · refine lv_if_eq (tgt := 45) S.1 S.2.1 dX_exchangeMq_36 (by decide) (fun g7 => absurd g7 (by decide)) (fun _ => ?_)
      refine lv_iload_n S.1 S.2.1 dX_exchangeMq_39 rfl (lv_at hl 0 rfl) ?_
      refine lv_iload_n S.1 S.2.1 dX_exchangeMq_40 rfl (lv_at hl 1 rfl) ?_
      refine lv_ior S.1 S.2.1 dX_exchangeMq_41 ?_
      refine lv_goto (tgt := 46) S.1 S.2.1 dX_exchangeMq_42 (by decide) ?_
      refine p_X_X_ac S hK hP hD hS dX_exchangeMq_46 (fun H locs hP hD hS => ?_)
      refine lv_iconst (v := 0) S.1 S.2.1 dX_exchangeMq_49 (by decide) ?_
      exact rt_i S hr hk hK hP hD hS ((by simp [mu31, g1, g5])) dX_exchangeMq_50
  · refine lv_if_eq (tgt := 29) S.1 S.2.1 dX_exchangeMq_16 (by decide) (fun g8 => absurd g8 (by decide)) (fun _ => ?_)
    refine lv_aload_n S.1 S.2.1 dX_exchangeMq_19 rfl (lv_at hl 2 rfl) ?_
    refine lv_aload_n S.1 S.2.1 dX_exchangeMq_20 rfl (lv_at hl 2 rfl) ?_
    refine g_X_X_ac S hK hP dX_exchangeMq_21 ?_
    refine p_X_X_mq S hK hP hD hS dX_exchangeMq_24 (fun H locs hP hD hS => ?_)
    refine lv_iconst (v := 0) S.1 S.2.1 dX_exchangeMq_27 (by decide) ?_
    refine lv_istore_n S.1 S.2.1 dX_exchangeMq_28 rfl hl (by decide) rfl (fun ls hl => ?_)
    have hl : lv_has ls 3 [(2, .int 0), (1, .int mq), (0, .ref a.1)] := hl
    refine lv_aload_n S.1 S.2.1 dX_exchangeMq_29 rfl (lv_at hl 2 rfl) ?_
    refine lv_aload_n S.1 S.2.1 dX_exchangeMq_30 rfl (lv_at hl 2 rfl) ?_
    refine lv_bipush (v := 64) S.1 S.2.1 dX_exchangeMq_31 (by decide) ?_
    refine cl_i (As := [.int 64]) (rest := [.ref a.1]) S hN hK hP hD hS hA hl.1 (c_X_irHas l D a _ pc ac lk ac ma mb ir sw io dl ha rd sn md kf kb cn pf co ou 64) k_X_233 (rc_X hK hP) ⟨by decide, by decide⟩ rfl rfl (Nat.le_of_ble_eq_true rfl) ⟨Nat.le_refl _, Nat.le_refl _⟩ dX_exchangeMq_33 (fun r u H locs hw hP hD hS => ?_)
    obtain ⟨g9, rfl, rfl⟩ | ⟨g10, rfl, rfl⟩ := hw
    · refine lv_if_eq (tgt := 45) S.1 S.2.1 dX_exchangeMq_36 (by decide) (fun _ => ?_) (fun g11 => absurd (by decide) g11)
      refine lv_iload_n S.1 S.2.1 dX_exchangeMq_45 rfl (lv_at hl 0 rfl) ?_
      refine p_X_X_ac S hK hP hD hS dX_exchangeMq_46 (fun H locs hP hD hS => ?_)
      refine lv_iconst (v := 0) S.1 S.2.1 dX_exchangeMq_49 (by decide) ?_
      exact rt_i S hr hk hK hP hD hS ((by simp [mu31, g2, g9])) dX_exchangeMq_50
    · refine lv_if_eq (tgt := 45) S.1 S.2.1 dX_exchangeMq_36 (by decide) (fun g12 => absurd g12 (by decide)) (fun _ => ?_)
      refine lv_iload_n S.1 S.2.1 dX_exchangeMq_39 rfl (lv_at hl 0 rfl) ?_
      refine lv_iload_n S.1 S.2.1 dX_exchangeMq_40 rfl (lv_at hl 1 rfl) ?_
      refine lv_ior S.1 S.2.1 dX_exchangeMq_41 ?_
      refine lv_goto (tgt := 46) S.1 S.2.1 dX_exchangeMq_42 (by decide) ?_
      refine p_X_X_ac S hK hP hD hS dX_exchangeMq_46 (fun H locs hP hD hS => ?_)
      refine lv_iconst (v := 0) S.1 S.2.1 dX_exchangeMq_49 (by decide) ?_
      exact rt_i S hr hk hK hP hD hS ((by simp [mu31, g2, g10])) dX_exchangeMq_50

set_option maxHeartbeats 4000000 in
set_option maxRecDepth 100000 in
theorem c_X_chooseDevice (l : Launch) (D : va_G) (a : AX) (sz : Nat) (pc ac lk mq ma mb ir sw io dl ha rd sn md kf kb cn pf : Int32) (co ou : Nat → Int32) : MI l D (wx a) (tx a) sz yX_chooseDevice cX_chooseDevice 1 (some .int) 0 [.ref a.1] (pc, ac, lk, mq, ma, mb, ir, sw, io, dl, ha, rd, sn, md, kf, kb, cn, pf, co, ou) (fun r u => (r, u) = mu32 (pc, ac, lk, mq, ma, mb, ir, sw, io, dl, ha, rd, sn, md, kf, kb, cn, pf, co, ou)) := by
  refine en_i RX rfl (by decide) (Nat.le_of_ble_eq_true rfl) ?_
  intro p e s m below meth c A ls S hr hk hA hN hK hP hD hS hl
  have hl : lv_has ls 1 [(0, .ref a.1)] := hl
  refine lv_aload_n S.1 S.2.1 dX_chooseDevice_0 rfl (lv_at hl 0 rfl) ?_
  refine g_X_X_ir S hK hP dX_chooseDevice_1 ?_
  refine lv_bipush (v := 8) S.1 S.2.1 dX_chooseDevice_4 (by decide) ?_
  refine lv_idiv S.1 S.2.1 dX_chooseDevice_6 (by decide) ?_
  refine lv_bipush (v := 63) S.1 S.2.1 dX_chooseDevice_7 (by decide) ?_
  refine lv_iand S.1 S.2.1 dX_chooseDevice_9 ?_
  by_cases g1 : ((ir / 8) &&& 63) = 0
  · refine lv_tableIn (off := 34) (tgt := 44) S.1 S.2.1 dX_chooseDevice_10 (by rw [g1]; decide +kernel) (by rw [g1]; decide +kernel) (by rw [g1]; decide +kernel) (by decide) ?_
    refine lv_bipush (v := 33) S.1 S.2.1 dX_chooseDevice_44 (by decide) ?_
    exact rt_i S hr hk hK hP hD hS ((by simp [mu32, g1])) dX_chooseDevice_46
  by_cases g2 : ((ir / 8) &&& 63) = 1
  · refine lv_tableIn (off := 43) (tgt := 53) S.1 S.2.1 dX_chooseDevice_10 (by rw [g2]; decide +kernel) (by rw [g2]; decide +kernel) (by rw [g2]; decide +kernel) (by decide) ?_
    refine lv_iconst (v := 0) S.1 S.2.1 dX_chooseDevice_53 (by decide) ?_
    exact rt_i S hr hk hK hP hD hS ((by simp [mu32, g1, g2])) dX_chooseDevice_54
  by_cases g3 : ((ir / 8) &&& 63) = 2
  · refine lv_tableIn (off := 43) (tgt := 53) S.1 S.2.1 dX_chooseDevice_10 (by rw [g3]; decide +kernel) (by rw [g3]; decide +kernel) (by rw [g3]; decide +kernel) (by decide) ?_
    refine lv_iconst (v := 0) S.1 S.2.1 dX_chooseDevice_53 (by decide) ?_
    exact rt_i S hr hk hK hP hD hS ((by simp [mu32, g1, g2, g3])) dX_chooseDevice_54
  by_cases g4 : ((ir / 8) &&& 63) = 3
  · refine lv_tableIn (off := 37) (tgt := 47) S.1 S.2.1 dX_chooseDevice_10 (by rw [g4]; decide +kernel) (by rw [g4]; decide +kernel) (by rw [g4]; decide +kernel) (by decide) ?_
    refine lv_bipush (v := 34) S.1 S.2.1 dX_chooseDevice_47 (by decide) ?_
    exact rt_i S hr hk hK hP hD hS ((by simp [mu32, g1, g2, g3, g4])) dX_chooseDevice_49
  by_cases g5 : ((ir / 8) &&& 63) = 4
  · refine lv_tableIn (off := 40) (tgt := 50) S.1 S.2.1 dX_chooseDevice_10 (by rw [g5]; decide +kernel) (by rw [g5]; decide +kernel) (by rw [g5]; decide +kernel) (by decide) ?_
    refine lv_bipush (v := 36) S.1 S.2.1 dX_chooseDevice_50 (by decide) ?_
    exact rt_i S hr hk hK hP hD hS ((by simp [mu32, g1, g2, g3, g4, g5])) dX_chooseDevice_52
  refine lv_tableOut (tgt := 53) S.1 S.2.1 dX_chooseDevice_10 (by have n0 := lv_neT g1 (a := 0) (by decide +kernel); have n1 := lv_neT g2 (a := 1) (by decide +kernel); have n2 := lv_neT g3 (a := 2) (by decide +kernel); have n3 := lv_neT g4 (a := 3) (by decide +kernel); have n4 := lv_neT g5 (a := 4) (by decide +kernel); omega) (by decide) ?_
  refine lv_iconst (v := 0) S.1 S.2.1 dX_chooseDevice_53 (by decide) ?_
  exact rt_i S hr hk hK hP hD hS ((by simp [mu32, g1, g2, g3, g4, g5])) dX_chooseDevice_54

set_option maxHeartbeats 4000000 in
set_option maxRecDepth 100000 in
theorem c_X_turnInterrupts (l : Launch) (D : va_G) (a : AX) (sz : Nat) (pc ac lk mq ma mb ir sw io dl ha rd sn md kf kb cn pf : Int32) (co ou : Nat → Int32) : MI l D (wx a) (tx a) sz yX_turnInterrupts cX_turnInterrupts 1 (some .int) 1 [.ref a.1] (pc, ac, lk, mq, ma, mb, ir, sw, io, dl, ha, rd, sn, md, kf, kb, cn, pf, co, ou) (fun r u => (r, u) = mu33 (pc, ac, lk, mq, ma, mb, ir, sw, io, dl, ha, rd, sn, md, kf, kb, cn, pf, co, ou)) := by
  refine en_i RX rfl (by decide) (Nat.le_of_ble_eq_true rfl) ?_
  intro p e s m below meth c A ls S hr hk hA hN hK hP hD hS hl
  have hl : lv_has ls 1 [(0, .ref a.1)] := hl
  refine lv_aload_n S.1 S.2.1 dX_turnInterrupts_0 rfl (lv_at hl 0 rfl) ?_
  refine lv_iconst (v := 1) S.1 S.2.1 dX_turnInterrupts_1 (by decide) ?_
  refine cl_i (As := [.int 1]) (rest := []) S hN hK hP hD hS hA hl.1 (c_X_irHas l D a _ pc ac lk mq ma mb ir sw io dl ha rd sn md kf kb cn pf co ou 1) k_X_233 (rc_X hK hP) ⟨by decide, by decide⟩ rfl rfl (Nat.le_of_ble_eq_true rfl) ⟨Nat.le_refl _, Nat.le_refl _⟩ dX_turnInterrupts_2 (fun r u H locs hw hP hD hS => ?_)
  obtain ⟨g1, rfl, rfl⟩ | ⟨g2, rfl, rfl⟩ := hw
  · refine lv_if_eq (tgt := 18) S.1 S.2.1 dX_turnInterrupts_5 (by decide) (fun _ => ?_) (fun g3 => absurd (by decide) g3)
    refine lv_aload_n S.1 S.2.1 dX_turnInterrupts_18 rfl (lv_at hl 0 rfl) ?_
    refine lv_iconst (v := 2) S.1 S.2.1 dX_turnInterrupts_19 (by decide) ?_
    refine cl_i (As := [.int 2]) (rest := []) S hN hK hP hD hS hA hl.1 (c_X_irHas l D a _ pc ac lk mq ma mb ir sw io dl ha rd sn md kf kb cn pf co ou 2) k_X_233 (rc_X hK hP) ⟨by decide, by decide⟩ rfl rfl (Nat.le_of_ble_eq_true rfl) ⟨Nat.le_refl _, Nat.le_refl _⟩ dX_turnInterrupts_20 (fun r u H locs hw hP hD hS => ?_)
    obtain ⟨g4, rfl, rfl⟩ | ⟨g5, rfl, rfl⟩ := hw
    · refine lv_if_eq (tgt := 31) S.1 S.2.1 dX_turnInterrupts_23 (by decide) (fun _ => ?_) (fun g6 => absurd (by decide) g6)
      refine lv_iconst (v := 0) S.1 S.2.1 dX_turnInterrupts_31 (by decide) ?_
      exact rt_i S hr hk hK hP hD hS ((by simp [mu33, g1, g4])) dX_turnInterrupts_32
    · refine lv_if_eq (tgt := 31) S.1 S.2.1 dX_turnInterrupts_23 (by decide) (fun g7 => absurd g7 (by decide)) (fun _ => ?_)
      refine lv_aload_n S.1 S.2.1 dX_turnInterrupts_26 rfl (lv_at hl 0 rfl) ?_
      refine lv_iconst (v := 0) S.1 S.2.1 dX_turnInterrupts_27 (by decide) ?_
      refine p_X_X_ion S hK hP hD hS rfl rfl dX_turnInterrupts_28 (fun H locs hP hD hS => ?_)
      refine lv_iconst (v := 0) S.1 S.2.1 dX_turnInterrupts_31 (by decide) ?_
      exact rt_i S hr hk hK hP hD hS ((by simp [mu33, g1, g5])) dX_turnInterrupts_32
  · refine lv_if_eq (tgt := 18) S.1 S.2.1 dX_turnInterrupts_5 (by decide) (fun g8 => absurd g8 (by decide)) (fun _ => ?_)
    refine lv_aload_n S.1 S.2.1 dX_turnInterrupts_8 rfl (lv_at hl 0 rfl) ?_
    refine lv_iconst (v := 1) S.1 S.2.1 dX_turnInterrupts_9 (by decide) ?_
    refine p_X_X_ion S hK hP hD hS rfl rfl dX_turnInterrupts_10 (fun H locs hP hD hS => ?_)
    refine lv_aload_n S.1 S.2.1 dX_turnInterrupts_13 rfl (lv_at hl 0 rfl) ?_
    refine lv_iconst (v := 1) S.1 S.2.1 dX_turnInterrupts_14 (by decide) ?_
    refine p_X_X_delay S hK hP hD hS rfl rfl dX_turnInterrupts_15 (fun H locs hP hD hS => ?_)
    refine lv_aload_n S.1 S.2.1 dX_turnInterrupts_18 rfl (lv_at hl 0 rfl) ?_
    refine lv_iconst (v := 2) S.1 S.2.1 dX_turnInterrupts_19 (by decide) ?_
    refine cl_i (As := [.int 2]) (rest := []) S hN hK hP hD hS hA hl.1 (c_X_irHas l D a _ pc ac lk mq ma mb ir sw 1 1 ha rd sn md kf kb cn pf co ou 2) k_X_233 (rc_X hK hP) ⟨by decide, by decide⟩ rfl rfl (Nat.le_of_ble_eq_true rfl) ⟨Nat.le_refl _, Nat.le_refl _⟩ dX_turnInterrupts_20 (fun r u H locs hw hP hD hS => ?_)
    obtain ⟨g9, rfl, rfl⟩ | ⟨g10, rfl, rfl⟩ := hw
    · refine lv_if_eq (tgt := 31) S.1 S.2.1 dX_turnInterrupts_23 (by decide) (fun _ => ?_) (fun g11 => absurd (by decide) g11)
      refine lv_iconst (v := 0) S.1 S.2.1 dX_turnInterrupts_31 (by decide) ?_
      exact rt_i S hr hk hK hP hD hS ((by simp [mu33, g2, g9])) dX_turnInterrupts_32
    · refine lv_if_eq (tgt := 31) S.1 S.2.1 dX_turnInterrupts_23 (by decide) (fun g12 => absurd g12 (by decide)) (fun _ => ?_)
      refine lv_aload_n S.1 S.2.1 dX_turnInterrupts_26 rfl (lv_at hl 0 rfl) ?_
      refine lv_iconst (v := 0) S.1 S.2.1 dX_turnInterrupts_27 (by decide) ?_
      refine p_X_X_ion S hK hP hD hS rfl rfl dX_turnInterrupts_28 (fun H locs hP hD hS => ?_)
      refine lv_iconst (v := 0) S.1 S.2.1 dX_turnInterrupts_31 (by decide) ?_
      exact rt_i S hr hk hK hP hD hS ((by simp [mu33, g2, g10])) dX_turnInterrupts_32

set_option maxHeartbeats 4000000 in
set_option maxRecDepth 100000 in
theorem c_X_askKeyboard (l : Launch) (D : va_G) (a : AX) (sz : Nat) (pc ac lk mq ma mb ir sw io dl ha rd sn md kf kb cn pf : Int32) (co ou : Nat → Int32) : MI l D (wx a) (tx a) sz yX_askKeyboard cX_askKeyboard 1 (some .int) 1 [.ref a.1] (pc, ac, lk, mq, ma, mb, ir, sw, io, dl, ha, rd, sn, md, kf, kb, cn, pf, co, ou) (fun r u => (r, u) = mu34 (pc, ac, lk, mq, ma, mb, ir, sw, io, dl, ha, rd, sn, md, kf, kb, cn, pf, co, ou)) := by
  refine en_i RX rfl (by decide) (Nat.le_of_ble_eq_true rfl) ?_
  intro p e s m below meth c A ls S hr hk hA hN hK hP hD hS hl
  have hl : lv_has ls 1 [(0, .ref a.1)] := hl
  refine lv_aload_n S.1 S.2.1 dX_askKeyboard_0 rfl (lv_at hl 0 rfl) ?_
  refine lv_iconst (v := 1) S.1 S.2.1 dX_askKeyboard_1 (by decide) ?_
  refine cl_i (As := [.int 1]) (rest := []) S hN hK hP hD hS hA hl.1 (c_X_irHas l D a _ pc ac lk mq ma mb ir sw io dl ha rd sn md kf kb cn pf co ou 1) k_X_233 (rc_X hK hP) ⟨by decide, by decide⟩ rfl rfl (Nat.le_of_ble_eq_true rfl) ⟨Nat.le_refl _, Nat.le_refl _⟩ dX_askKeyboard_2 (fun r u H locs hw hP hD hS => ?_)
  obtain ⟨g1, rfl, rfl⟩ | ⟨g2, rfl, rfl⟩ := hw
  · refine lv_if_eq (tgt := 22) S.1 S.2.1 dX_askKeyboard_5 (by decide) (fun _ => ?_) (fun g3 => absurd (by decide) g3)
    refine lv_aload_n S.1 S.2.1 dX_askKeyboard_22 rfl (lv_at hl 0 rfl) ?_
    refine lv_iconst (v := 2) S.1 S.2.1 dX_askKeyboard_23 (by decide) ?_
    refine cl_i (As := [.int 2]) (rest := []) S hN hK hP hD hS hA hl.1 (c_X_irHas l D a _ pc ac lk mq ma mb ir sw io dl ha rd sn md kf kb cn pf co ou 2) k_X_233 (rc_X hK hP) ⟨by decide, by decide⟩ rfl rfl (Nat.le_of_ble_eq_true rfl) ⟨Nat.le_refl _, Nat.le_refl _⟩ dX_askKeyboard_24 (fun r u H locs hw hP hD hS => ?_)
    obtain ⟨g4, rfl, rfl⟩ | ⟨g5, rfl, rfl⟩ := hw
    · refine lv_if_eq (tgt := 43) S.1 S.2.1 dX_askKeyboard_27 (by decide) (fun _ => ?_) (fun g6 => absurd (by decide) g6)
      refine lv_aload_n S.1 S.2.1 dX_askKeyboard_43 rfl (lv_at hl 0 rfl) ?_
      refine lv_iconst (v := 4) S.1 S.2.1 dX_askKeyboard_44 (by decide) ?_
      refine cl_i (As := [.int 4]) (rest := []) S hN hK hP hD hS hA hl.1 (c_X_irHas l D a _ pc ac lk mq ma mb ir sw io dl ha rd sn md kf kb cn pf co ou 4) k_X_233 (rc_X hK hP) ⟨by decide, by decide⟩ rfl rfl (Nat.le_of_ble_eq_true rfl) ⟨Nat.le_refl _, Nat.le_refl _⟩ dX_askKeyboard_45 (fun r u H locs hw hP hD hS => ?_)
      obtain ⟨g7, rfl, rfl⟩ | ⟨g8, rfl, rfl⟩ := hw
      · refine lv_if_eq (tgt := 56) S.1 S.2.1 dX_askKeyboard_48 (by decide) (fun _ => ?_) (fun g9 => absurd (by decide) g9)
        refine lv_iconst (v := 0) S.1 S.2.1 dX_askKeyboard_56 (by decide) ?_
        exact rt_i S hr hk hK hP hD hS ((by simp [mu34, g1, g4, g7])) dX_askKeyboard_57
      · refine lv_if_eq (tgt := 56) S.1 S.2.1 dX_askKeyboard_48 (by decide) (fun g10 => absurd g10 (by decide)) (fun _ => ?_)
        refine lv_bipush (v := 35) S.1 S.2.1 dX_askKeyboard_51 (by decide) ?_
        refine lv_goto (tgt := 57) S.1 S.2.1 dX_askKeyboard_53 (by decide) ?_
        exact rt_i S hr hk hK hP hD hS ((by simp [mu34, g1, g4, g8])) dX_askKeyboard_57
    · refine lv_if_eq (tgt := 43) S.1 S.2.1 dX_askKeyboard_27 (by decide) (fun g11 => absurd g11 (by decide)) (fun _ => ?_)
      refine lv_aload_n S.1 S.2.1 dX_askKeyboard_30 rfl (lv_at hl 0 rfl) ?_
      refine g_X_X_keyboard S hK hP dX_askKeyboard_31 ?_
      refine lv_iconst (v := 0) S.1 S.2.1 dX_askKeyboard_34 (by decide) ?_
      refine p_X_K_flag S hN hK hP hD hS rfl rfl dX_askKeyboard_35 (fun H locs hP hD hS => ?_)
      refine lv_aload_n S.1 S.2.1 dX_askKeyboard_38 rfl (lv_at hl 0 rfl) ?_
      refine lv_iconst (v := 0) S.1 S.2.1 dX_askKeyboard_39 (by decide) ?_
      refine p_X_X_ac S hK hP hD hS dX_askKeyboard_40 (fun H locs hP hD hS => ?_)
      refine lv_aload_n S.1 S.2.1 dX_askKeyboard_43 rfl (lv_at hl 0 rfl) ?_
      refine lv_iconst (v := 4) S.1 S.2.1 dX_askKeyboard_44 (by decide) ?_
      refine cl_i (As := [.int 4]) (rest := []) S hN hK hP hD hS hA hl.1 (c_X_irHas l D a _ pc 0 lk mq ma mb ir sw io dl ha rd sn md 0 kb cn pf co ou 4) k_X_233 (rc_X hK hP) ⟨by decide, by decide⟩ rfl rfl (Nat.le_of_ble_eq_true rfl) ⟨Nat.le_refl _, Nat.le_refl _⟩ dX_askKeyboard_45 (fun r u H locs hw hP hD hS => ?_)
      obtain ⟨g12, rfl, rfl⟩ | ⟨g13, rfl, rfl⟩ := hw
      · refine lv_if_eq (tgt := 56) S.1 S.2.1 dX_askKeyboard_48 (by decide) (fun _ => ?_) (fun g14 => absurd (by decide) g14)
        refine lv_iconst (v := 0) S.1 S.2.1 dX_askKeyboard_56 (by decide) ?_
        exact rt_i S hr hk hK hP hD hS ((by simp [mu34, g1, g5, g12])) dX_askKeyboard_57
      · refine lv_if_eq (tgt := 56) S.1 S.2.1 dX_askKeyboard_48 (by decide) (fun g15 => absurd g15 (by decide)) (fun _ => ?_)
        refine lv_bipush (v := 35) S.1 S.2.1 dX_askKeyboard_51 (by decide) ?_
        refine lv_goto (tgt := 57) S.1 S.2.1 dX_askKeyboard_53 (by decide) ?_
        exact rt_i S hr hk hK hP hD hS ((by simp [mu34, g1, g5, g13])) dX_askKeyboard_57
  · refine lv_if_eq (tgt := 22) S.1 S.2.1 dX_askKeyboard_5 (by decide) (fun g16 => absurd g16 (by decide)) (fun _ => ?_)
    refine lv_aload_n S.1 S.2.1 dX_askKeyboard_8 rfl (lv_at hl 0 rfl) ?_
    refine g_X_X_keyboard S hK hP dX_askKeyboard_9 ?_
    refine g_X_K_flag S hN hK hP dX_askKeyboard_12 ?_
    refine lv_if_eq (tgt := 22) S.1 S.2.1 dX_askKeyboard_15 (by decide) (fun g17 => ?_) (fun g17 => ?_)
    · refine lv_aload_n S.1 S.2.1 dX_askKeyboard_22 rfl (lv_at hl 0 rfl) ?_
      refine lv_iconst (v := 2) S.1 S.2.1 dX_askKeyboard_23 (by decide) ?_
      refine cl_i (As := [.int 2]) (rest := []) S hN hK hP hD hS hA hl.1 (c_X_irHas l D a _ pc ac lk mq ma mb ir sw io dl ha rd sn md kf kb cn pf co ou 2) k_X_233 (rc_X hK hP) ⟨by decide, by decide⟩ rfl rfl (Nat.le_of_ble_eq_true rfl) ⟨Nat.le_refl _, Nat.le_refl _⟩ dX_askKeyboard_24 (fun r u H locs hw hP hD hS => ?_)
      obtain ⟨g18, rfl, rfl⟩ | ⟨g19, rfl, rfl⟩ := hw
      · refine lv_if_eq (tgt := 43) S.1 S.2.1 dX_askKeyboard_27 (by decide) (fun _ => ?_) (fun g20 => absurd (by decide) g20)
        refine lv_aload_n S.1 S.2.1 dX_askKeyboard_43 rfl (lv_at hl 0 rfl) ?_
        refine lv_iconst (v := 4) S.1 S.2.1 dX_askKeyboard_44 (by decide) ?_
        refine cl_i (As := [.int 4]) (rest := []) S hN hK hP hD hS hA hl.1 (c_X_irHas l D a _ pc ac lk mq ma mb ir sw io dl ha rd sn md kf kb cn pf co ou 4) k_X_233 (rc_X hK hP) ⟨by decide, by decide⟩ rfl rfl (Nat.le_of_ble_eq_true rfl) ⟨Nat.le_refl _, Nat.le_refl _⟩ dX_askKeyboard_45 (fun r u H locs hw hP hD hS => ?_)
        obtain ⟨g21, rfl, rfl⟩ | ⟨g22, rfl, rfl⟩ := hw
        · refine lv_if_eq (tgt := 56) S.1 S.2.1 dX_askKeyboard_48 (by decide) (fun _ => ?_) (fun g23 => absurd (by decide) g23)
          refine lv_iconst (v := 0) S.1 S.2.1 dX_askKeyboard_56 (by decide) ?_
          exact rt_i S hr hk hK hP hD hS ((by simp [mu34, g2, g17, g18, g21])) dX_askKeyboard_57
        · refine lv_if_eq (tgt := 56) S.1 S.2.1 dX_askKeyboard_48 (by decide) (fun g24 => absurd g24 (by decide)) (fun _ => ?_)
          refine lv_bipush (v := 35) S.1 S.2.1 dX_askKeyboard_51 (by decide) ?_
          refine lv_goto (tgt := 57) S.1 S.2.1 dX_askKeyboard_53 (by decide) ?_
          exact rt_i S hr hk hK hP hD hS ((by simp [mu34, g2, g17, g18, g22])) dX_askKeyboard_57
      · refine lv_if_eq (tgt := 43) S.1 S.2.1 dX_askKeyboard_27 (by decide) (fun g25 => absurd g25 (by decide)) (fun _ => ?_)
        refine lv_aload_n S.1 S.2.1 dX_askKeyboard_30 rfl (lv_at hl 0 rfl) ?_
        refine g_X_X_keyboard S hK hP dX_askKeyboard_31 ?_
        refine lv_iconst (v := 0) S.1 S.2.1 dX_askKeyboard_34 (by decide) ?_
        refine p_X_K_flag S hN hK hP hD hS rfl rfl dX_askKeyboard_35 (fun H locs hP hD hS => ?_)
        refine lv_aload_n S.1 S.2.1 dX_askKeyboard_38 rfl (lv_at hl 0 rfl) ?_
        refine lv_iconst (v := 0) S.1 S.2.1 dX_askKeyboard_39 (by decide) ?_
        refine p_X_X_ac S hK hP hD hS dX_askKeyboard_40 (fun H locs hP hD hS => ?_)
        refine lv_aload_n S.1 S.2.1 dX_askKeyboard_43 rfl (lv_at hl 0 rfl) ?_
        refine lv_iconst (v := 4) S.1 S.2.1 dX_askKeyboard_44 (by decide) ?_
        refine cl_i (As := [.int 4]) (rest := []) S hN hK hP hD hS hA hl.1 (c_X_irHas l D a _ pc 0 lk mq ma mb ir sw io dl ha rd sn md 0 kb cn pf co ou 4) k_X_233 (rc_X hK hP) ⟨by decide, by decide⟩ rfl rfl (Nat.le_of_ble_eq_true rfl) ⟨Nat.le_refl _, Nat.le_refl _⟩ dX_askKeyboard_45 (fun r u H locs hw hP hD hS => ?_)
        obtain ⟨g26, rfl, rfl⟩ | ⟨g27, rfl, rfl⟩ := hw
        · refine lv_if_eq (tgt := 56) S.1 S.2.1 dX_askKeyboard_48 (by decide) (fun _ => ?_) (fun g28 => absurd (by decide) g28)
          refine lv_iconst (v := 0) S.1 S.2.1 dX_askKeyboard_56 (by decide) ?_
          exact rt_i S hr hk hK hP hD hS ((by simp [mu34, g2, g17, g19, g26])) dX_askKeyboard_57
        · refine lv_if_eq (tgt := 56) S.1 S.2.1 dX_askKeyboard_48 (by decide) (fun g29 => absurd g29 (by decide)) (fun _ => ?_)
          refine lv_bipush (v := 35) S.1 S.2.1 dX_askKeyboard_51 (by decide) ?_
          refine lv_goto (tgt := 57) S.1 S.2.1 dX_askKeyboard_53 (by decide) ?_
          exact rt_i S hr hk hK hP hD hS ((by simp [mu34, g2, g17, g19, g27])) dX_askKeyboard_57
    · refine lv_aload_n S.1 S.2.1 dX_askKeyboard_18 rfl (lv_at hl 0 rfl) ?_
      refine cl_v (As := []) (rest := []) S hN hK hP hD hS hA hl.1 (c_X_advancePc l D a _ pc ac lk mq ma mb ir sw io dl ha rd sn md kf kb cn pf co ou ) k_X_230 (rc_X hK hP) ⟨by decide, by decide⟩ rfl rfl (Nat.le_of_ble_eq_true rfl) ⟨Nat.le_refl _, Nat.le_refl _⟩ dX_askKeyboard_19 (fun u H locs hw hP hD hS => ?_)
      obtain rfl := hw
      refine lv_aload_n S.1 S.2.1 dX_askKeyboard_22 rfl (lv_at hl 0 rfl) ?_
      refine lv_iconst (v := 2) S.1 S.2.1 dX_askKeyboard_23 (by decide) ?_
      refine cl_i (As := [.int 2]) (rest := []) S hN hK hP hD hS hA hl.1 (c_X_irHas l D a _ ((pc + 1) &&& 4095) ac lk mq ma mb ir sw io dl ha rd sn md kf kb cn pf co ou 2) k_X_233 (rc_X hK hP) ⟨by decide, by decide⟩ rfl rfl (Nat.le_of_ble_eq_true rfl) ⟨Nat.le_refl _, Nat.le_refl _⟩ dX_askKeyboard_24 (fun r u H locs hw hP hD hS => ?_)
      obtain ⟨g30, rfl, rfl⟩ | ⟨g31, rfl, rfl⟩ := hw
      · refine lv_if_eq (tgt := 43) S.1 S.2.1 dX_askKeyboard_27 (by decide) (fun _ => ?_) (fun g32 => absurd (by decide) g32)
        refine lv_aload_n S.1 S.2.1 dX_askKeyboard_43 rfl (lv_at hl 0 rfl) ?_
        refine lv_iconst (v := 4) S.1 S.2.1 dX_askKeyboard_44 (by decide) ?_
        refine cl_i (As := [.int 4]) (rest := []) S hN hK hP hD hS hA hl.1 (c_X_irHas l D a _ ((pc + 1) &&& 4095) ac lk mq ma mb ir sw io dl ha rd sn md kf kb cn pf co ou 4) k_X_233 (rc_X hK hP) ⟨by decide, by decide⟩ rfl rfl (Nat.le_of_ble_eq_true rfl) ⟨Nat.le_refl _, Nat.le_refl _⟩ dX_askKeyboard_45 (fun r u H locs hw hP hD hS => ?_)
        obtain ⟨g33, rfl, rfl⟩ | ⟨g34, rfl, rfl⟩ := hw
        · refine lv_if_eq (tgt := 56) S.1 S.2.1 dX_askKeyboard_48 (by decide) (fun _ => ?_) (fun g35 => absurd (by decide) g35)
          refine lv_iconst (v := 0) S.1 S.2.1 dX_askKeyboard_56 (by decide) ?_
          exact rt_i S hr hk hK hP hD hS ((by simp [mu34, g2, g17, g30, g33])) dX_askKeyboard_57
        · refine lv_if_eq (tgt := 56) S.1 S.2.1 dX_askKeyboard_48 (by decide) (fun g36 => absurd g36 (by decide)) (fun _ => ?_)
          refine lv_bipush (v := 35) S.1 S.2.1 dX_askKeyboard_51 (by decide) ?_
          refine lv_goto (tgt := 57) S.1 S.2.1 dX_askKeyboard_53 (by decide) ?_
          exact rt_i S hr hk hK hP hD hS ((by simp [mu34, g2, g17, g30, g34])) dX_askKeyboard_57
      · refine lv_if_eq (tgt := 43) S.1 S.2.1 dX_askKeyboard_27 (by decide) (fun g37 => absurd g37 (by decide)) (fun _ => ?_)
        refine lv_aload_n S.1 S.2.1 dX_askKeyboard_30 rfl (lv_at hl 0 rfl) ?_
        refine g_X_X_keyboard S hK hP dX_askKeyboard_31 ?_
        refine lv_iconst (v := 0) S.1 S.2.1 dX_askKeyboard_34 (by decide) ?_
        refine p_X_K_flag S hN hK hP hD hS rfl rfl dX_askKeyboard_35 (fun H locs hP hD hS => ?_)
        refine lv_aload_n S.1 S.2.1 dX_askKeyboard_38 rfl (lv_at hl 0 rfl) ?_
        refine lv_iconst (v := 0) S.1 S.2.1 dX_askKeyboard_39 (by decide) ?_
        refine p_X_X_ac S hK hP hD hS dX_askKeyboard_40 (fun H locs hP hD hS => ?_)
        refine lv_aload_n S.1 S.2.1 dX_askKeyboard_43 rfl (lv_at hl 0 rfl) ?_
        refine lv_iconst (v := 4) S.1 S.2.1 dX_askKeyboard_44 (by decide) ?_
        refine cl_i (As := [.int 4]) (rest := []) S hN hK hP hD hS hA hl.1 (c_X_irHas l D a _ ((pc + 1) &&& 4095) 0 lk mq ma mb ir sw io dl ha rd sn md 0 kb cn pf co ou 4) k_X_233 (rc_X hK hP) ⟨by decide, by decide⟩ rfl rfl (Nat.le_of_ble_eq_true rfl) ⟨Nat.le_refl _, Nat.le_refl _⟩ dX_askKeyboard_45 (fun r u H locs hw hP hD hS => ?_)
        obtain ⟨g38, rfl, rfl⟩ | ⟨g39, rfl, rfl⟩ := hw
        · refine lv_if_eq (tgt := 56) S.1 S.2.1 dX_askKeyboard_48 (by decide) (fun _ => ?_) (fun g40 => absurd (by decide) g40)
          refine lv_iconst (v := 0) S.1 S.2.1 dX_askKeyboard_56 (by decide) ?_
          exact rt_i S hr hk hK hP hD hS ((by simp [mu34, g2, g17, g31, g38])) dX_askKeyboard_57
        · refine lv_if_eq (tgt := 56) S.1 S.2.1 dX_askKeyboard_48 (by decide) (fun g41 => absurd g41 (by decide)) (fun _ => ?_)
          refine lv_bipush (v := 35) S.1 S.2.1 dX_askKeyboard_51 (by decide) ?_
          refine lv_goto (tgt := 57) S.1 S.2.1 dX_askKeyboard_53 (by decide) ?_
          exact rt_i S hr hk hK hP hD hS ((by simp [mu34, g2, g17, g31, g39])) dX_askKeyboard_57

set_option maxHeartbeats 4000000 in
set_option maxRecDepth 100000 in
theorem c_X_readKeyboard (l : Launch) (D : va_G) (a : AX) (sz : Nat) (pc ac lk mq ma mb ir sw io dl ha rd sn md kf kb cn pf : Int32) (co ou : Nat → Int32) : MI l D (wx a) (tx a) sz yX_readKeyboard cX_readKeyboard 1 (some .int) 0 [.ref a.1] (pc, ac, lk, mq, ma, mb, ir, sw, io, dl, ha, rd, sn, md, kf, kb, cn, pf, co, ou) (fun r u => (r, u) = mu35 (pc, ac, lk, mq, ma, mb, ir, sw, io, dl, ha, rd, sn, md, kf, kb, cn, pf, co, ou)) := by
  refine en_i RX rfl (by decide) (Nat.le_of_ble_eq_true rfl) ?_
  intro p e s m below meth c A ls S hr hk hA hN hK hP hD hS hl
  have hl : lv_has ls 1 [(0, .ref a.1)] := hl
  refine lv_aload_n S.1 S.2.1 dX_readKeyboard_0 rfl (lv_at hl 0 rfl) ?_
  refine lv_dup S.1 S.2.1 dX_readKeyboard_1 rfl ?_
  refine g_X_X_ac S hK hP dX_readKeyboard_2 ?_
  refine lv_aload_n S.1 S.2.1 dX_readKeyboard_5 rfl (lv_at hl 0 rfl) ?_
  refine g_X_X_keyboard S hK hP dX_readKeyboard_6 ?_
  refine g_X_K_buffer S hN hK hP dX_readKeyboard_9 ?_
  refine lv_ior S.1 S.2.1 dX_readKeyboard_12 ?_
  refine p_X_X_ac S hK hP hD hS dX_readKeyboard_13 (fun H locs hP hD hS => ?_)
  refine lv_iconst (v := 0) S.1 S.2.1 dX_readKeyboard_16 (by decide) ?_
  exact rt_i S hr hk hK hP hD hS ((by simp [mu35])) dX_readKeyboard_17

set_option maxHeartbeats 4000000 in
set_option maxRecDepth 100000 in
theorem c_X_askPrinter (l : Launch) (D : va_G) (a : AX) (sz : Nat) (pc ac lk mq ma mb ir sw io dl ha rd sn md kf kb cn pf : Int32) (co ou : Nat → Int32) : MI l D (wx a) (tx a) sz yX_askPrinter cX_askPrinter 1 (some .int) 1 [.ref a.1] (pc, ac, lk, mq, ma, mb, ir, sw, io, dl, ha, rd, sn, md, kf, kb, cn, pf, co, ou) (fun r u => (r, u) = mu36 (pc, ac, lk, mq, ma, mb, ir, sw, io, dl, ha, rd, sn, md, kf, kb, cn, pf, co, ou)) := by
  refine en_i RX rfl (by decide) (Nat.le_of_ble_eq_true rfl) ?_
  intro p e s m below meth c A ls S hr hk hA hN hK hP hD hS hl
  have hl : lv_has ls 1 [(0, .ref a.1)] := hl
  refine lv_aload_n S.1 S.2.1 dX_askPrinter_0 rfl (lv_at hl 0 rfl) ?_
  refine lv_iconst (v := 1) S.1 S.2.1 dX_askPrinter_1 (by decide) ?_
  refine cl_i (As := [.int 1]) (rest := []) S hN hK hP hD hS hA hl.1 (c_X_irHas l D a _ pc ac lk mq ma mb ir sw io dl ha rd sn md kf kb cn pf co ou 1) k_X_233 (rc_X hK hP) ⟨by decide, by decide⟩ rfl rfl (Nat.le_of_ble_eq_true rfl) ⟨Nat.le_refl _, Nat.le_refl _⟩ dX_askPrinter_2 (fun r u H locs hw hP hD hS => ?_)
  obtain ⟨g1, rfl, rfl⟩ | ⟨g2, rfl, rfl⟩ := hw
  · refine lv_if_eq (tgt := 22) S.1 S.2.1 dX_askPrinter_5 (by decide) (fun _ => ?_) (fun g3 => absurd (by decide) g3)
    refine lv_aload_n S.1 S.2.1 dX_askPrinter_22 rfl (lv_at hl 0 rfl) ?_
    refine lv_iconst (v := 2) S.1 S.2.1 dX_askPrinter_23 (by decide) ?_
    refine cl_i (As := [.int 2]) (rest := []) S hN hK hP hD hS hA hl.1 (c_X_irHas l D a _ pc ac lk mq ma mb ir sw io dl ha rd sn md kf kb cn pf co ou 2) k_X_233 (rc_X hK hP) ⟨by decide, by decide⟩ rfl rfl (Nat.le_of_ble_eq_true rfl) ⟨Nat.le_refl _, Nat.le_refl _⟩ dX_askPrinter_24 (fun r u H locs hw hP hD hS => ?_)
    obtain ⟨g4, rfl, rfl⟩ | ⟨g5, rfl, rfl⟩ := hw
    · refine lv_if_eq (tgt := 38) S.1 S.2.1 dX_askPrinter_27 (by decide) (fun _ => ?_) (fun g6 => absurd (by decide) g6)
      refine lv_aload_n S.1 S.2.1 dX_askPrinter_38 rfl (lv_at hl 0 rfl) ?_
      refine lv_iconst (v := 4) S.1 S.2.1 dX_askPrinter_39 (by decide) ?_
      refine cl_i (As := [.int 4]) (rest := []) S hN hK hP hD hS hA hl.1 (c_X_irHas l D a _ pc ac lk mq ma mb ir sw io dl ha rd sn md kf kb cn pf co ou 4) k_X_233 (rc_X hK hP) ⟨by decide, by decide⟩ rfl rfl (Nat.le_of_ble_eq_true rfl) ⟨Nat.le_refl _, Nat.le_refl _⟩ dX_askPrinter_40 (fun r u H locs hw hP hD hS => ?_)
      obtain ⟨g7, rfl, rfl⟩ | ⟨g8, rfl, rfl⟩ := hw
      · refine lv_if_eq (tgt := 51) S.1 S.2.1 dX_askPrinter_43 (by decide) (fun _ => ?_) (fun g9 => absurd (by decide) g9)
        refine lv_iconst (v := 0) S.1 S.2.1 dX_askPrinter_51 (by decide) ?_
        exact rt_i S hr hk hK hP hD hS ((by simp [mu36, g1, g4, g7])) dX_askPrinter_52
      · refine lv_if_eq (tgt := 51) S.1 S.2.1 dX_askPrinter_43 (by decide) (fun g10 => absurd g10 (by decide)) (fun _ => ?_)
        refine lv_bipush (v := 37) S.1 S.2.1 dX_askPrinter_46 (by decide) ?_
        refine lv_goto (tgt := 52) S.1 S.2.1 dX_askPrinter_48 (by decide) ?_
        exact rt_i S hr hk hK hP hD hS ((by simp [mu36, g1, g4, g8])) dX_askPrinter_52
    · refine lv_if_eq (tgt := 38) S.1 S.2.1 dX_askPrinter_27 (by decide) (fun g11 => absurd g11 (by decide)) (fun _ => ?_)
      refine lv_aload_n S.1 S.2.1 dX_askPrinter_30 rfl (lv_at hl 0 rfl) ?_
      refine g_X_X_printer S hK hP dX_askPrinter_31 ?_
      refine lv_iconst (v := 0) S.1 S.2.1 dX_askPrinter_34 (by decide) ?_
      refine p_X_P_flag S hN hK hP hD hS rfl rfl dX_askPrinter_35 (fun H locs hP hD hS => ?_)
      refine lv_aload_n S.1 S.2.1 dX_askPrinter_38 rfl (lv_at hl 0 rfl) ?_
      refine lv_iconst (v := 4) S.1 S.2.1 dX_askPrinter_39 (by decide) ?_
      refine cl_i (As := [.int 4]) (rest := []) S hN hK hP hD hS hA hl.1 (c_X_irHas l D a _ pc ac lk mq ma mb ir sw io dl ha rd sn md kf kb cn 0 co ou 4) k_X_233 (rc_X hK hP) ⟨by decide, by decide⟩ rfl rfl (Nat.le_of_ble_eq_true rfl) ⟨Nat.le_refl _, Nat.le_refl _⟩ dX_askPrinter_40 (fun r u H locs hw hP hD hS => ?_)
      obtain ⟨g12, rfl, rfl⟩ | ⟨g13, rfl, rfl⟩ := hw
      · refine lv_if_eq (tgt := 51) S.1 S.2.1 dX_askPrinter_43 (by decide) (fun _ => ?_) (fun g14 => absurd (by decide) g14)
        refine lv_iconst (v := 0) S.1 S.2.1 dX_askPrinter_51 (by decide) ?_
        exact rt_i S hr hk hK hP hD hS ((by simp [mu36, g1, g5, g12])) dX_askPrinter_52
      · refine lv_if_eq (tgt := 51) S.1 S.2.1 dX_askPrinter_43 (by decide) (fun g15 => absurd g15 (by decide)) (fun _ => ?_)
        refine lv_bipush (v := 37) S.1 S.2.1 dX_askPrinter_46 (by decide) ?_
        refine lv_goto (tgt := 52) S.1 S.2.1 dX_askPrinter_48 (by decide) ?_
        exact rt_i S hr hk hK hP hD hS ((by simp [mu36, g1, g5, g13])) dX_askPrinter_52
  · refine lv_if_eq (tgt := 22) S.1 S.2.1 dX_askPrinter_5 (by decide) (fun g16 => absurd g16 (by decide)) (fun _ => ?_)
    refine lv_aload_n S.1 S.2.1 dX_askPrinter_8 rfl (lv_at hl 0 rfl) ?_
    refine g_X_X_printer S hK hP dX_askPrinter_9 ?_
    refine g_X_P_flag S hN hK hP dX_askPrinter_12 ?_
    refine lv_if_eq (tgt := 22) S.1 S.2.1 dX_askPrinter_15 (by decide) (fun g17 => ?_) (fun g17 => ?_)
    · refine lv_aload_n S.1 S.2.1 dX_askPrinter_22 rfl (lv_at hl 0 rfl) ?_
      refine lv_iconst (v := 2) S.1 S.2.1 dX_askPrinter_23 (by decide) ?_
      refine cl_i (As := [.int 2]) (rest := []) S hN hK hP hD hS hA hl.1 (c_X_irHas l D a _ pc ac lk mq ma mb ir sw io dl ha rd sn md kf kb cn pf co ou 2) k_X_233 (rc_X hK hP) ⟨by decide, by decide⟩ rfl rfl (Nat.le_of_ble_eq_true rfl) ⟨Nat.le_refl _, Nat.le_refl _⟩ dX_askPrinter_24 (fun r u H locs hw hP hD hS => ?_)
      obtain ⟨g18, rfl, rfl⟩ | ⟨g19, rfl, rfl⟩ := hw
      · refine lv_if_eq (tgt := 38) S.1 S.2.1 dX_askPrinter_27 (by decide) (fun _ => ?_) (fun g20 => absurd (by decide) g20)
        refine lv_aload_n S.1 S.2.1 dX_askPrinter_38 rfl (lv_at hl 0 rfl) ?_
        refine lv_iconst (v := 4) S.1 S.2.1 dX_askPrinter_39 (by decide) ?_
        refine cl_i (As := [.int 4]) (rest := []) S hN hK hP hD hS hA hl.1 (c_X_irHas l D a _ pc ac lk mq ma mb ir sw io dl ha rd sn md kf kb cn pf co ou 4) k_X_233 (rc_X hK hP) ⟨by decide, by decide⟩ rfl rfl (Nat.le_of_ble_eq_true rfl) ⟨Nat.le_refl _, Nat.le_refl _⟩ dX_askPrinter_40 (fun r u H locs hw hP hD hS => ?_)
        obtain ⟨g21, rfl, rfl⟩ | ⟨g22, rfl, rfl⟩ := hw
        · refine lv_if_eq (tgt := 51) S.1 S.2.1 dX_askPrinter_43 (by decide) (fun _ => ?_) (fun g23 => absurd (by decide) g23)
          refine lv_iconst (v := 0) S.1 S.2.1 dX_askPrinter_51 (by decide) ?_
          exact rt_i S hr hk hK hP hD hS ((by simp [mu36, g2, g17, g18, g21])) dX_askPrinter_52
        · refine lv_if_eq (tgt := 51) S.1 S.2.1 dX_askPrinter_43 (by decide) (fun g24 => absurd g24 (by decide)) (fun _ => ?_)
          refine lv_bipush (v := 37) S.1 S.2.1 dX_askPrinter_46 (by decide) ?_
          refine lv_goto (tgt := 52) S.1 S.2.1 dX_askPrinter_48 (by decide) ?_
          exact rt_i S hr hk hK hP hD hS ((by simp [mu36, g2, g17, g18, g22])) dX_askPrinter_52
      · refine lv_if_eq (tgt := 38) S.1 S.2.1 dX_askPrinter_27 (by decide) (fun g25 => absurd g25 (by decide)) (fun _ => ?_)
        refine lv_aload_n S.1 S.2.1 dX_askPrinter_30 rfl (lv_at hl 0 rfl) ?_
        refine g_X_X_printer S hK hP dX_askPrinter_31 ?_
        refine lv_iconst (v := 0) S.1 S.2.1 dX_askPrinter_34 (by decide) ?_
        refine p_X_P_flag S hN hK hP hD hS rfl rfl dX_askPrinter_35 (fun H locs hP hD hS => ?_)
        refine lv_aload_n S.1 S.2.1 dX_askPrinter_38 rfl (lv_at hl 0 rfl) ?_
        refine lv_iconst (v := 4) S.1 S.2.1 dX_askPrinter_39 (by decide) ?_
        refine cl_i (As := [.int 4]) (rest := []) S hN hK hP hD hS hA hl.1 (c_X_irHas l D a _ pc ac lk mq ma mb ir sw io dl ha rd sn md kf kb cn 0 co ou 4) k_X_233 (rc_X hK hP) ⟨by decide, by decide⟩ rfl rfl (Nat.le_of_ble_eq_true rfl) ⟨Nat.le_refl _, Nat.le_refl _⟩ dX_askPrinter_40 (fun r u H locs hw hP hD hS => ?_)
        obtain ⟨g26, rfl, rfl⟩ | ⟨g27, rfl, rfl⟩ := hw
        · refine lv_if_eq (tgt := 51) S.1 S.2.1 dX_askPrinter_43 (by decide) (fun _ => ?_) (fun g28 => absurd (by decide) g28)
          refine lv_iconst (v := 0) S.1 S.2.1 dX_askPrinter_51 (by decide) ?_
          exact rt_i S hr hk hK hP hD hS ((by simp [mu36, g2, g17, g19, g26])) dX_askPrinter_52
        · refine lv_if_eq (tgt := 51) S.1 S.2.1 dX_askPrinter_43 (by decide) (fun g29 => absurd g29 (by decide)) (fun _ => ?_)
          refine lv_bipush (v := 37) S.1 S.2.1 dX_askPrinter_46 (by decide) ?_
          refine lv_goto (tgt := 52) S.1 S.2.1 dX_askPrinter_48 (by decide) ?_
          exact rt_i S hr hk hK hP hD hS ((by simp [mu36, g2, g17, g19, g27])) dX_askPrinter_52
    · refine lv_aload_n S.1 S.2.1 dX_askPrinter_18 rfl (lv_at hl 0 rfl) ?_
      refine cl_v (As := []) (rest := []) S hN hK hP hD hS hA hl.1 (c_X_advancePc l D a _ pc ac lk mq ma mb ir sw io dl ha rd sn md kf kb cn pf co ou ) k_X_230 (rc_X hK hP) ⟨by decide, by decide⟩ rfl rfl (Nat.le_of_ble_eq_true rfl) ⟨Nat.le_refl _, Nat.le_refl _⟩ dX_askPrinter_19 (fun u H locs hw hP hD hS => ?_)
      obtain rfl := hw
      refine lv_aload_n S.1 S.2.1 dX_askPrinter_22 rfl (lv_at hl 0 rfl) ?_
      refine lv_iconst (v := 2) S.1 S.2.1 dX_askPrinter_23 (by decide) ?_
      refine cl_i (As := [.int 2]) (rest := []) S hN hK hP hD hS hA hl.1 (c_X_irHas l D a _ ((pc + 1) &&& 4095) ac lk mq ma mb ir sw io dl ha rd sn md kf kb cn pf co ou 2) k_X_233 (rc_X hK hP) ⟨by decide, by decide⟩ rfl rfl (Nat.le_of_ble_eq_true rfl) ⟨Nat.le_refl _, Nat.le_refl _⟩ dX_askPrinter_24 (fun r u H locs hw hP hD hS => ?_)
      obtain ⟨g30, rfl, rfl⟩ | ⟨g31, rfl, rfl⟩ := hw
      · refine lv_if_eq (tgt := 38) S.1 S.2.1 dX_askPrinter_27 (by decide) (fun _ => ?_) (fun g32 => absurd (by decide) g32)
        refine lv_aload_n S.1 S.2.1 dX_askPrinter_38 rfl (lv_at hl 0 rfl) ?_
        refine lv_iconst (v := 4) S.1 S.2.1 dX_askPrinter_39 (by decide) ?_
        refine cl_i (As := [.int 4]) (rest := []) S hN hK hP hD hS hA hl.1 (c_X_irHas l D a _ ((pc + 1) &&& 4095) ac lk mq ma mb ir sw io dl ha rd sn md kf kb cn pf co ou 4) k_X_233 (rc_X hK hP) ⟨by decide, by decide⟩ rfl rfl (Nat.le_of_ble_eq_true rfl) ⟨Nat.le_refl _, Nat.le_refl _⟩ dX_askPrinter_40 (fun r u H locs hw hP hD hS => ?_)
        obtain ⟨g33, rfl, rfl⟩ | ⟨g34, rfl, rfl⟩ := hw
        · refine lv_if_eq (tgt := 51) S.1 S.2.1 dX_askPrinter_43 (by decide) (fun _ => ?_) (fun g35 => absurd (by decide) g35)
          refine lv_iconst (v := 0) S.1 S.2.1 dX_askPrinter_51 (by decide) ?_
          exact rt_i S hr hk hK hP hD hS ((by simp [mu36, g2, g17, g30, g33])) dX_askPrinter_52
        · refine lv_if_eq (tgt := 51) S.1 S.2.1 dX_askPrinter_43 (by decide) (fun g36 => absurd g36 (by decide)) (fun _ => ?_)
          refine lv_bipush (v := 37) S.1 S.2.1 dX_askPrinter_46 (by decide) ?_
          refine lv_goto (tgt := 52) S.1 S.2.1 dX_askPrinter_48 (by decide) ?_
          exact rt_i S hr hk hK hP hD hS ((by simp [mu36, g2, g17, g30, g34])) dX_askPrinter_52
      · refine lv_if_eq (tgt := 38) S.1 S.2.1 dX_askPrinter_27 (by decide) (fun g37 => absurd g37 (by decide)) (fun _ => ?_)
        refine lv_aload_n S.1 S.2.1 dX_askPrinter_30 rfl (lv_at hl 0 rfl) ?_
        refine g_X_X_printer S hK hP dX_askPrinter_31 ?_
        refine lv_iconst (v := 0) S.1 S.2.1 dX_askPrinter_34 (by decide) ?_
        refine p_X_P_flag S hN hK hP hD hS rfl rfl dX_askPrinter_35 (fun H locs hP hD hS => ?_)
        refine lv_aload_n S.1 S.2.1 dX_askPrinter_38 rfl (lv_at hl 0 rfl) ?_
        refine lv_iconst (v := 4) S.1 S.2.1 dX_askPrinter_39 (by decide) ?_
        refine cl_i (As := [.int 4]) (rest := []) S hN hK hP hD hS hA hl.1 (c_X_irHas l D a _ ((pc + 1) &&& 4095) ac lk mq ma mb ir sw io dl ha rd sn md kf kb cn 0 co ou 4) k_X_233 (rc_X hK hP) ⟨by decide, by decide⟩ rfl rfl (Nat.le_of_ble_eq_true rfl) ⟨Nat.le_refl _, Nat.le_refl _⟩ dX_askPrinter_40 (fun r u H locs hw hP hD hS => ?_)
        obtain ⟨g38, rfl, rfl⟩ | ⟨g39, rfl, rfl⟩ := hw
        · refine lv_if_eq (tgt := 51) S.1 S.2.1 dX_askPrinter_43 (by decide) (fun _ => ?_) (fun g40 => absurd (by decide) g40)
          refine lv_iconst (v := 0) S.1 S.2.1 dX_askPrinter_51 (by decide) ?_
          exact rt_i S hr hk hK hP hD hS ((by simp [mu36, g2, g17, g31, g38])) dX_askPrinter_52
        · refine lv_if_eq (tgt := 51) S.1 S.2.1 dX_askPrinter_43 (by decide) (fun g41 => absurd g41 (by decide)) (fun _ => ?_)
          refine lv_bipush (v := 37) S.1 S.2.1 dX_askPrinter_46 (by decide) ?_
          refine lv_goto (tgt := 52) S.1 S.2.1 dX_askPrinter_48 (by decide) ?_
          exact rt_i S hr hk hK hP hD hS ((by simp [mu36, g2, g17, g31, g39])) dX_askPrinter_52

set_option maxHeartbeats 4000000 in
set_option maxRecDepth 100000 in
theorem c_X_interrupt (l : Launch) (D : va_G) (a : AX) (sz : Nat) (pc ac lk mq ma mb ir sw io dl ha rd sn md kf kb cn pf : Int32) (co ou : Nat → Int32) : MI l D (wx a) (tx a) sz yX_interrupt cX_interrupt 1 (some .int) 0 [.ref a.1] (pc, ac, lk, mq, ma, mb, ir, sw, io, dl, ha, rd, sn, md, kf, kb, cn, pf, co, ou) (fun r u => (r, u) = mu40 (pc, ac, lk, mq, ma, mb, ir, sw, io, dl, ha, rd, sn, md, kf, kb, cn, pf, co, ou)) := by
  refine en_i RX rfl (by decide) (Nat.le_of_ble_eq_true rfl) ?_
  intro p e s m below meth c A ls S hr hk hA hN hK hP hD hS hl
  have hl : lv_has ls 1 [(0, .ref a.1)] := hl
  refine lv_aload_n S.1 S.2.1 dX_interrupt_0 rfl (lv_at hl 0 rfl) ?_
  refine lv_aload_n S.1 S.2.1 dX_interrupt_1 rfl (lv_at hl 0 rfl) ?_
  refine g_X_X_pc S hK hP dX_interrupt_2 ?_
  refine p_X_X_mb S hK hP hD hS dX_interrupt_5 (fun H locs hP hD hS => ?_)
  refine lv_aload_n S.1 S.2.1 dX_interrupt_8 rfl (lv_at hl 0 rfl) ?_
  refine lv_iconst (v := 0) S.1 S.2.1 dX_interrupt_9 (by decide) ?_
  refine p_X_X_ma S hK hP hD hS dX_interrupt_10 (fun H locs hP hD hS => ?_)
  refine lv_aload_n S.1 S.2.1 dX_interrupt_13 rfl (lv_at hl 0 rfl) ?_
  refine lv_iconst (v := 0) S.1 S.2.1 dX_interrupt_14 (by decide) ?_
  refine p_X_X_ion S hK hP hD hS rfl rfl dX_interrupt_15 (fun H locs hP hD hS => ?_)
  refine lv_bipush (v := 41) S.1 S.2.1 dX_interrupt_18 (by decide) ?_
  exact rt_i S hr hk hK hP hD hS ((by simp [mu40])) dX_interrupt_20
end
section
set_option maxHeartbeats 4000000 in
set_option maxRecDepth 100000 in
theorem c_P_print (l : Launch) (D : va_G) (a : AX) (sz : Nat) (pc ac lk mq ma mb ir sw io dl ha rd sn md kf kb cn pf : Int32) (co ou : Nat → Int32) (x : Int32) (hn : a.2.2.2.2.2.2.2 ≤ 100) (hcn : ∃ k : Nat, k ≤ a.2.2.2.2.2.2.2 ∧ cn = nI k) (h37 : cn < (nI a.2.2.2.2.2.2.2)) : MV l D (wx a) (tx a) sz yP_print cP_print 2 1 [.ref a.2.2.2.1, .int x] (pc, ac, lk, mq, ma, mb, ir, sw, io, dl, ha, rd, sn, md, kf, kb, cn, pf, co, ou) (fun u => u = (pc, ac, lk, mq, ma, mb, ir, sw, io, dl, ha, rd, sn, md, kf, kb, (cn + 1), 1, co, (upd ou cn.toNatClampNeg (x &&& 255)))) := by
  refine en_v RP rfl (by decide) (Nat.le_of_ble_eq_true rfl) ?_
  intro p e s m below meth c A ls S hr hk hA hN hK hP hD hS hl
  have hl : lv_has ls 2 [(0, .ref a.2.2.2.1), (1, .int x)] := hl
  refine lv_aload_n S.1 S.2.1 dP_print_0 rfl (lv_at hl 0 rfl) ?_
  refine cl_i (As := []) (rest := []) S hN hK hP hD hS hA hl.1 (c_P_isFull l D a _ pc ac lk mq ma mb ir sw io dl ha rd sn md kf kb cn pf co ou ) k_P_23 (rc_P hK hP) ⟨by decide, by decide⟩ rfl rfl (Nat.le_of_ble_eq_true rfl) ⟨Nat.le_refl _, Nat.le_refl _⟩ dP_print_1 (fun r u H locs hw hP hD hS => ?_)
  obtain ⟨g1, rfl, rfl⟩ | ⟨g2, rfl, rfl⟩ := hw
  · refine lv_if_eq (tgt := 8) S.1 S.2.1 dP_print_4 (by decide) (fun _ => ?_) (fun g3 => absurd (by decide) g3)
    refine lv_aload_n S.1 S.2.1 dP_print_8 rfl (lv_at hl 0 rfl) ?_
    refine g_P_P_bytes S hK hP dP_print_9 ?_
    refine lv_aload_n S.1 S.2.1 dP_print_12 rfl (lv_at hl 0 rfl) ?_
    refine g_P_P_count S hK hP dP_print_13 ?_
    refine lv_iload_n S.1 S.2.1 dP_print_16 rfl (lv_at hl 1 rfl) ?_
    refine lv_sipush (v := 255) S.1 S.2.1 dP_print_17 (by decide) ?_
    refine lv_iand S.1 S.2.1 dP_print_20 ?_
    refine st_xou S hK hP hD hS (cn_in hn hcn h37) dP_print_21 (fun H locs hP hD hS => ?_)
    refine lv_aload_n S.1 S.2.1 dP_print_22 rfl (lv_at hl 0 rfl) ?_
    refine lv_dup S.1 S.2.1 dP_print_23 rfl ?_
    refine g_P_P_count S hK hP dP_print_24 ?_
    refine lv_iconst (v := 1) S.1 S.2.1 dP_print_27 (by decide) ?_
    refine lv_iadd S.1 S.2.1 dP_print_28 ?_
    refine p_P_P_count S hK hP hD hS dP_print_29 (fun H locs hP hD hS => ?_)
    refine lv_aload_n S.1 S.2.1 dP_print_32 rfl (lv_at hl 0 rfl) ?_
    refine lv_iconst (v := 1) S.1 S.2.1 dP_print_33 (by decide) ?_
    refine p_P_P_flag S hK hP hD hS rfl rfl dP_print_34 (fun H locs hP hD hS => ?_)
    exact rt_v S hr hk hK hP hD hS (rfl) dP_print_37
  · first | exact absurd g2 h37 | exact absurd h37 g2

set_option maxHeartbeats 4000000 in
set_option maxRecDepth 100000 in
theorem c_X_writePrinter (l : Launch) (D : va_G) (a : AX) (sz : Nat) (pc ac lk mq ma mb ir sw io dl ha rd sn md kf kb cn pf : Int32) (co ou : Nat → Int32) (hn : a.2.2.2.2.2.2.2 ≤ 100) (hcn : ∃ k : Nat, k ≤ a.2.2.2.2.2.2.2 ∧ cn = nI k) (h37 : cn < (nI a.2.2.2.2.2.2.2)) : MI l D (wx a) (tx a) sz yX_writePrinter cX_writePrinter 1 (some .int) 2 [.ref a.1] (pc, ac, lk, mq, ma, mb, ir, sw, io, dl, ha, rd, sn, md, kf, kb, cn, pf, co, ou) (fun r u => (r, u) = mu37 (pc, ac, lk, mq, ma, mb, ir, sw, io, dl, ha, rd, sn, md, kf, kb, cn, pf, co, ou)) := by
  refine en_i RX rfl (by decide) (Nat.le_of_ble_eq_true rfl) ?_
  intro p e s m below meth c A ls S hr hk hA hN hK hP hD hS hl
  have hl : lv_has ls 1 [(0, .ref a.1)] := hl
  refine lv_aload_n S.1 S.2.1 dX_writePrinter_0 rfl (lv_at hl 0 rfl) ?_
  refine g_X_X_printer S hK hP dX_writePrinter_1 ?_
  refine lv_aload_n S.1 S.2.1 dX_writePrinter_4 rfl (lv_at hl 0 rfl) ?_
  refine g_X_X_ac S hK hP dX_writePrinter_5 ?_
  refine cl_vN (As := [.int ac]) (rest := []) S hN hK hP hD hS hA hl.1 (c_P_print l D a _ pc ac lk mq ma mb ir sw io dl ha rd sn md kf kb cn pf co ou ac hn hcn h37) k_X_251 (nw_X_251 hN) (rc_P hK hP) ⟨by decide, by decide⟩ rfl rfl (Nat.le_of_ble_eq_true rfl) ⟨Nat.le_refl _, Nat.le_refl _⟩ dX_writePrinter_8 (fun u H locs hw hP hD hS => ?_)
  obtain rfl := hw
  refine lv_iconst (v := 0) S.1 S.2.1 dX_writePrinter_11 (by decide) ?_
  exact rt_i S hr hk hK hP hD hS ((by simp [mu37])) dX_writePrinter_12

set_option maxHeartbeats 4000000 in
set_option maxRecDepth 100000 in
theorem c_X_perform_0 (l : Launch) (D : va_G) (a : AX) (sz : Nat) (pc ac lk mq ma mb ir sw io dl ha rd sn md kf kb cn pf : Int32) (co ou : Nat → Int32) : MI l D (wx a) (tx a) sz yX_perform cX_perform 2 (some .int) 3 [.ref a.1, .int 0] (pc, ac, lk, mq, ma, mb, ir, sw, io, dl, ha, rd, sn, md, kf, kb, cn, pf, co, ou) (fun r u => (r, u) = mu0 (pc, ac, lk, mq, ma, mb, ir, sw, io, dl, ha, rd, sn, md, kf, kb, cn, pf, co, ou)) := by
  refine en_i RX rfl (by decide) (Nat.le_of_ble_eq_true rfl) ?_
  intro p e s m below meth c A ls S hr hk hA hN hK hP hD hS hl
  have hl : lv_has ls 2 [(0, .ref a.1), (1, .int 0)] := hl
  refine lv_iload_n S.1 S.2.1 dX_perform_0 rfl (lv_at hl 1 rfl) ?_
  refine lv_tableIn (off := 183) (tgt := 184) S.1 S.2.1 dX_perform_1 (by decide +kernel) (by decide +kernel) (by decide +kernel) (by decide) ?_
  refine lv_aload_n S.1 S.2.1 dX_perform_184 rfl (lv_at hl 0 rfl) ?_
  refine cl_i (As := []) (rest := []) S hN hK hP hD hS hA hl.1 (c_X_begin l D a _ pc ac lk mq ma mb ir sw io dl ha rd sn md kf kb cn pf co ou ) k_X_131 (rc_X hK hP) ⟨by decide, by decide⟩ rfl rfl (Nat.le_of_ble_eq_true rfl) ⟨Nat.le_refl _, Nat.le_refl _⟩ dX_perform_185 (fun r u H locs hw hP hD hS => ?_)
  exact rt_i S hr hk hK hP hD hS (hw) dX_perform_188

set_option maxHeartbeats 4000000 in
set_option maxRecDepth 100000 in
theorem c_X_perform_1 (l : Launch) (D : va_G) (a : AX) (sz : Nat) (pc ac lk mq ma mb ir sw io dl ha rd sn md kf kb cn pf : Int32) (co ou : Nat → Int32) : MI l D (wx a) (tx a) sz yX_perform cX_perform 2 (some .int) 3 [.ref a.1, .int 1] (pc, ac, lk, mq, ma, mb, ir, sw, io, dl, ha, rd, sn, md, kf, kb, cn, pf, co, ou) (fun r u => (r, u) = mu1 (pc, ac, lk, mq, ma, mb, ir, sw, io, dl, ha, rd, sn, md, kf, kb, cn, pf, co, ou)) := by
  refine en_i RX rfl (by decide) (Nat.le_of_ble_eq_true rfl) ?_
  intro p e s m below meth c A ls S hr hk hA hN hK hP hD hS hl
  have hl : lv_has ls 2 [(0, .ref a.1), (1, .int 1)] := hl
  refine lv_iload_n S.1 S.2.1 dX_perform_0 rfl (lv_at hl 1 rfl) ?_
  refine lv_tableIn (off := 188) (tgt := 189) S.1 S.2.1 dX_perform_1 (by decide +kernel) (by decide +kernel) (by decide +kernel) (by decide) ?_
  refine lv_aload_n S.1 S.2.1 dX_perform_189 rfl (lv_at hl 0 rfl) ?_
  refine cl_i (As := []) (rest := []) S hN hK hP hD hS hA hl.1 (c_X_fetch l D a _ pc ac lk mq ma mb ir sw io dl ha rd sn md kf kb cn pf co ou ) k_X_134 (rc_X hK hP) ⟨by decide, by decide⟩ rfl rfl (Nat.le_of_ble_eq_true rfl) ⟨Nat.le_refl _, Nat.le_refl _⟩ dX_perform_190 (fun r u H locs hw hP hD hS => ?_)
  exact rt_i S hr hk hK hP hD hS (hw) dX_perform_193

set_option maxHeartbeats 4000000 in
set_option maxRecDepth 100000 in
theorem c_X_perform_2 (l : Launch) (D : va_G) (a : AX) (sz : Nat) (pc ac lk mq ma mb ir sw io dl ha rd sn md kf kb cn pf : Int32) (co ou : Nat → Int32) : MI l D (wx a) (tx a) sz yX_perform cX_perform 2 (some .int) 3 [.ref a.1, .int 2] (pc, ac, lk, mq, ma, mb, ir, sw, io, dl, ha, rd, sn, md, kf, kb, cn, pf, co, ou) (fun r u => (r, u) = mu2 (pc, ac, lk, mq, ma, mb, ir, sw, io, dl, ha, rd, sn, md, kf, kb, cn, pf, co, ou)) := by
  refine en_i RX rfl (by decide) (Nat.le_of_ble_eq_true rfl) ?_
  intro p e s m below meth c A ls S hr hk hA hN hK hP hD hS hl
  have hl : lv_has ls 2 [(0, .ref a.1), (1, .int 2)] := hl
  refine lv_iload_n S.1 S.2.1 dX_perform_0 rfl (lv_at hl 1 rfl) ?_
  refine lv_tableIn (off := 193) (tgt := 194) S.1 S.2.1 dX_perform_1 (by decide +kernel) (by decide +kernel) (by decide +kernel) (by decide) ?_
  refine lv_aload_n S.1 S.2.1 dX_perform_194 rfl (lv_at hl 0 rfl) ?_
  refine cl_i (As := []) (rest := []) S hN hK hP hD hS hA hl.1 (c_X_findAddress l D a _ pc ac lk mq ma mb ir sw io dl ha rd sn md kf kb cn pf co ou ) k_X_137 (rc_X hK hP) ⟨by decide, by decide⟩ rfl rfl (Nat.le_of_ble_eq_true rfl) ⟨Nat.le_refl _, Nat.le_refl _⟩ dX_perform_195 (fun r u H locs hw hP hD hS => ?_)
  exact rt_i S hr hk hK hP hD hS (hw) dX_perform_198

set_option maxHeartbeats 4000000 in
set_option maxRecDepth 100000 in
theorem c_X_perform_3 (l : Launch) (D : va_G) (a : AX) (sz : Nat) (pc ac lk mq ma mb ir sw io dl ha rd sn md kf kb cn pf : Int32) (co ou : Nat → Int32) : MI l D (wx a) (tx a) sz yX_perform cX_perform 2 (some .int) 3 [.ref a.1, .int 3] (pc, ac, lk, mq, ma, mb, ir, sw, io, dl, ha, rd, sn, md, kf, kb, cn, pf, co, ou) (fun r u => (r, u) = mu3 (pc, ac, lk, mq, ma, mb, ir, sw, io, dl, ha, rd, sn, md, kf, kb, cn, pf, co, ou)) := by
  refine en_i RX rfl (by decide) (Nat.le_of_ble_eq_true rfl) ?_
  intro p e s m below meth c A ls S hr hk hA hN hK hP hD hS hl
  have hl : lv_has ls 2 [(0, .ref a.1), (1, .int 3)] := hl
  refine lv_iload_n S.1 S.2.1 dX_perform_0 rfl (lv_at hl 1 rfl) ?_
  refine lv_tableIn (off := 198) (tgt := 199) S.1 S.2.1 dX_perform_1 (by decide +kernel) (by decide +kernel) (by decide +kernel) (by decide) ?_
  refine lv_aload_n S.1 S.2.1 dX_perform_199 rfl (lv_at hl 0 rfl) ?_
  refine cl_i (As := []) (rest := []) S hN hK hP hD hS hA hl.1 (c_X_readPointer l D a _ pc ac lk mq ma mb ir sw io dl ha rd sn md kf kb cn pf co ou ) k_X_140 (rc_X hK hP) ⟨by decide, by decide⟩ rfl rfl (Nat.le_of_ble_eq_true rfl) ⟨Nat.le_refl _, Nat.le_refl _⟩ dX_perform_200 (fun r u H locs hw hP hD hS => ?_)
  exact rt_i S hr hk hK hP hD hS (hw) dX_perform_203

set_option maxHeartbeats 4000000 in
set_option maxRecDepth 100000 in
theorem c_X_perform_4 (l : Launch) (D : va_G) (a : AX) (sz : Nat) (pc ac lk mq ma mb ir sw io dl ha rd sn md kf kb cn pf : Int32) (co ou : Nat → Int32) : MI l D (wx a) (tx a) sz yX_perform cX_perform 2 (some .int) 3 [.ref a.1, .int 4] (pc, ac, lk, mq, ma, mb, ir, sw, io, dl, ha, rd, sn, md, kf, kb, cn, pf, co, ou) (fun r u => (r, u) = mu4 (pc, ac, lk, mq, ma, mb, ir, sw, io, dl, ha, rd, sn, md, kf, kb, cn, pf, co, ou)) := by
  refine en_i RX rfl (by decide) (Nat.le_of_ble_eq_true rfl) ?_
  intro p e s m below meth c A ls S hr hk hA hN hK hP hD hS hl
  have hl : lv_has ls 2 [(0, .ref a.1), (1, .int 4)] := hl
  refine lv_iload_n S.1 S.2.1 dX_perform_0 rfl (lv_at hl 1 rfl) ?_
  refine lv_tableIn (off := 203) (tgt := 204) S.1 S.2.1 dX_perform_1 (by decide +kernel) (by decide +kernel) (by decide +kernel) (by decide) ?_
  refine lv_aload_n S.1 S.2.1 dX_perform_204 rfl (lv_at hl 0 rfl) ?_
  refine cl_i (As := []) (rest := []) S hN hK hP hD hS hA hl.1 (c_X_advancePointer l D a _ pc ac lk mq ma mb ir sw io dl ha rd sn md kf kb cn pf co ou ) k_X_143 (rc_X hK hP) ⟨by decide, by decide⟩ rfl rfl (Nat.le_of_ble_eq_true rfl) ⟨Nat.le_refl _, Nat.le_refl _⟩ dX_perform_205 (fun r u H locs hw hP hD hS => ?_)
  exact rt_i S hr hk hK hP hD hS (hw) dX_perform_208

set_option maxHeartbeats 4000000 in
set_option maxRecDepth 100000 in
theorem c_X_perform_5 (l : Launch) (D : va_G) (a : AX) (sz : Nat) (pc ac lk mq ma mb ir sw io dl ha rd sn md kf kb cn pf : Int32) (co ou : Nat → Int32) : MI l D (wx a) (tx a) sz yX_perform cX_perform 2 (some .int) 3 [.ref a.1, .int 5] (pc, ac, lk, mq, ma, mb, ir, sw, io, dl, ha, rd, sn, md, kf, kb, cn, pf, co, ou) (fun r u => (r, u) = mu5 (pc, ac, lk, mq, ma, mb, ir, sw, io, dl, ha, rd, sn, md, kf, kb, cn, pf, co, ou)) := by
  refine en_i RX rfl (by decide) (Nat.le_of_ble_eq_true rfl) ?_
  intro p e s m below meth c A ls S hr hk hA hN hK hP hD hS hl
  have hl : lv_has ls 2 [(0, .ref a.1), (1, .int 5)] := hl
  refine lv_iload_n S.1 S.2.1 dX_perform_0 rfl (lv_at hl 1 rfl) ?_
  refine lv_tableIn (off := 208) (tgt := 209) S.1 S.2.1 dX_perform_1 (by decide +kernel) (by decide +kernel) (by decide +kernel) (by decide) ?_
  refine lv_aload_n S.1 S.2.1 dX_perform_209 rfl (lv_at hl 0 rfl) ?_
  refine cl_i (As := []) (rest := []) S hN hK hP hD hS hA hl.1 (c_X_followPointer l D a _ pc ac lk mq ma mb ir sw io dl ha rd sn md kf kb cn pf co ou ) k_X_146 (rc_X hK hP) ⟨by decide, by decide⟩ rfl rfl (Nat.le_of_ble_eq_true rfl) ⟨Nat.le_refl _, Nat.le_refl _⟩ dX_perform_210 (fun r u H locs hw hP hD hS => ?_)
  exact rt_i S hr hk hK hP hD hS (hw) dX_perform_213

set_option maxHeartbeats 4000000 in
set_option maxRecDepth 100000 in
theorem c_X_perform_8 (l : Launch) (D : va_G) (a : AX) (sz : Nat) (pc ac lk mq ma mb ir sw io dl ha rd sn md kf kb cn pf : Int32) (co ou : Nat → Int32) : MI l D (wx a) (tx a) sz yX_perform cX_perform 2 (some .int) 3 [.ref a.1, .int 8] (pc, ac, lk, mq, ma, mb, ir, sw, io, dl, ha, rd, sn, md, kf, kb, cn, pf, co, ou) (fun r u => (r, u) = mu8 (pc, ac, lk, mq, ma, mb, ir, sw, io, dl, ha, rd, sn, md, kf, kb, cn, pf, co, ou)) := by
  refine en_i RX rfl (by decide) (Nat.le_of_ble_eq_true rfl) ?_
  intro p e s m below meth c A ls S hr hk hA hN hK hP hD hS hl
  have hl : lv_has ls 2 [(0, .ref a.1), (1, .int 8)] := hl
  refine lv_iload_n S.1 S.2.1 dX_perform_0 rfl (lv_at hl 1 rfl) ?_
  refine lv_tableIn (off := 213) (tgt := 214) S.1 S.2.1 dX_perform_1 (by decide +kernel) (by decide +kernel) (by decide +kernel) (by decide) ?_
  refine lv_aload_n S.1 S.2.1 dX_perform_214 rfl (lv_at hl 0 rfl) ?_
  refine lv_bipush (v := 16) S.1 S.2.1 dX_perform_215 (by decide) ?_
  refine cl_i (As := [.int 16]) (rest := []) S hN hK hP hD hS hA hl.1 (c_X_readOperand l D a _ pc ac lk mq ma mb ir sw io dl ha rd sn md kf kb cn pf co ou 16) k_X_149 (rc_X hK hP) ⟨by decide, by decide⟩ rfl rfl (Nat.le_of_ble_eq_true rfl) ⟨Nat.le_refl _, Nat.le_refl _⟩ dX_perform_217 (fun r u H locs hw hP hD hS => ?_)
  obtain ⟨rfl, rfl⟩ := hw
  exact rt_i S hr hk hK hP hD hS ((by simp [mu8])) dX_perform_220

set_option maxHeartbeats 4000000 in
set_option maxRecDepth 100000 in
theorem c_X_perform_9 (l : Launch) (D : va_G) (a : AX) (sz : Nat) (pc ac lk mq ma mb ir sw io dl ha rd sn md kf kb cn pf : Int32) (co ou : Nat → Int32) : MI l D (wx a) (tx a) sz yX_perform cX_perform 2 (some .int) 3 [.ref a.1, .int 9] (pc, ac, lk, mq, ma, mb, ir, sw, io, dl, ha, rd, sn, md, kf, kb, cn, pf, co, ou) (fun r u => (r, u) = mu9 (pc, ac, lk, mq, ma, mb, ir, sw, io, dl, ha, rd, sn, md, kf, kb, cn, pf, co, ou)) := by
  refine en_i RX rfl (by decide) (Nat.le_of_ble_eq_true rfl) ?_
  intro p e s m below meth c A ls S hr hk hA hN hK hP hD hS hl
  have hl : lv_has ls 2 [(0, .ref a.1), (1, .int 9)] := hl
  refine lv_iload_n S.1 S.2.1 dX_perform_0 rfl (lv_at hl 1 rfl) ?_
  refine lv_tableIn (off := 220) (tgt := 221) S.1 S.2.1 dX_perform_1 (by decide +kernel) (by decide +kernel) (by decide +kernel) (by decide) ?_
  refine lv_aload_n S.1 S.2.1 dX_perform_221 rfl (lv_at hl 0 rfl) ?_
  refine lv_bipush (v := 17) S.1 S.2.1 dX_perform_222 (by decide) ?_
  refine cl_i (As := [.int 17]) (rest := []) S hN hK hP hD hS hA hl.1 (c_X_readOperand l D a _ pc ac lk mq ma mb ir sw io dl ha rd sn md kf kb cn pf co ou 17) k_X_149 (rc_X hK hP) ⟨by decide, by decide⟩ rfl rfl (Nat.le_of_ble_eq_true rfl) ⟨Nat.le_refl _, Nat.le_refl _⟩ dX_perform_224 (fun r u H locs hw hP hD hS => ?_)
  obtain ⟨rfl, rfl⟩ := hw
  exact rt_i S hr hk hK hP hD hS ((by simp [mu9])) dX_perform_227

set_option maxHeartbeats 4000000 in
set_option maxRecDepth 100000 in
theorem c_X_perform_10 (l : Launch) (D : va_G) (a : AX) (sz : Nat) (pc ac lk mq ma mb ir sw io dl ha rd sn md kf kb cn pf : Int32) (co ou : Nat → Int32) : MI l D (wx a) (tx a) sz yX_perform cX_perform 2 (some .int) 3 [.ref a.1, .int 10] (pc, ac, lk, mq, ma, mb, ir, sw, io, dl, ha, rd, sn, md, kf, kb, cn, pf, co, ou) (fun r u => (r, u) = mu10 (pc, ac, lk, mq, ma, mb, ir, sw, io, dl, ha, rd, sn, md, kf, kb, cn, pf, co, ou)) := by
  refine en_i RX rfl (by decide) (Nat.le_of_ble_eq_true rfl) ?_
  intro p e s m below meth c A ls S hr hk hA hN hK hP hD hS hl
  have hl : lv_has ls 2 [(0, .ref a.1), (1, .int 10)] := hl
  refine lv_iload_n S.1 S.2.1 dX_perform_0 rfl (lv_at hl 1 rfl) ?_
  refine lv_tableIn (off := 227) (tgt := 228) S.1 S.2.1 dX_perform_1 (by decide +kernel) (by decide +kernel) (by decide +kernel) (by decide) ?_
  refine lv_aload_n S.1 S.2.1 dX_perform_228 rfl (lv_at hl 0 rfl) ?_
  refine cl_i (As := []) (rest := []) S hN hK hP hD hS hA hl.1 (c_X_readOneMore l D a _ pc ac lk mq ma mb ir sw io dl ha rd sn md kf kb cn pf co ou ) k_X_152 (rc_X hK hP) ⟨by decide, by decide⟩ rfl rfl (Nat.le_of_ble_eq_true rfl) ⟨Nat.le_refl _, Nat.le_refl _⟩ dX_perform_229 (fun r u H locs hw hP hD hS => ?_)
  exact rt_i S hr hk hK hP hD hS (hw) dX_perform_232

set_option maxHeartbeats 4000000 in
set_option maxRecDepth 100000 in
theorem c_X_perform_11 (l : Launch) (D : va_G) (a : AX) (sz : Nat) (pc ac lk mq ma mb ir sw io dl ha rd sn md kf kb cn pf : Int32) (co ou : Nat → Int32) : MI l D (wx a) (tx a) sz yX_perform cX_perform 2 (some .int) 3 [.ref a.1, .int 11] (pc, ac, lk, mq, ma, mb, ir, sw, io, dl, ha, rd, sn, md, kf, kb, cn, pf, co, ou) (fun r u => (r, u) = mu11 (pc, ac, lk, mq, ma, mb, ir, sw, io, dl, ha, rd, sn, md, kf, kb, cn, pf, co, ou)) := by
  refine en_i RX rfl (by decide) (Nat.le_of_ble_eq_true rfl) ?_
  intro p e s m below meth c A ls S hr hk hA hN hK hP hD hS hl
  have hl : lv_has ls 2 [(0, .ref a.1), (1, .int 11)] := hl
  refine lv_iload_n S.1 S.2.1 dX_perform_0 rfl (lv_at hl 1 rfl) ?_
  refine lv_tableIn (off := 232) (tgt := 233) S.1 S.2.1 dX_perform_1 (by decide +kernel) (by decide +kernel) (by decide +kernel) (by decide) ?_
  refine lv_aload_n S.1 S.2.1 dX_perform_233 rfl (lv_at hl 0 rfl) ?_
  refine lv_aload_n S.1 S.2.1 dX_perform_234 rfl (lv_at hl 0 rfl) ?_
  refine g_X_X_ac S hK hP dX_perform_235 ?_
  refine lv_bipush (v := 19) S.1 S.2.1 dX_perform_238 (by decide) ?_
  refine cl_i (As := [.int ac, .int 19]) (rest := []) S hN hK hP hD hS hA hl.1 (c_X_takeIntoMb l D a _ pc ac lk mq ma mb ir sw io dl ha rd sn md kf kb cn pf co ou ac 19) k_X_155 (rc_X hK hP) ⟨by decide, by decide⟩ rfl rfl (Nat.le_of_ble_eq_true rfl) ⟨Nat.le_refl _, Nat.le_refl _⟩ dX_perform_240 (fun r u H locs hw hP hD hS => ?_)
  obtain ⟨rfl, rfl⟩ := hw
  exact rt_i S hr hk hK hP hD hS ((by simp [mu11])) dX_perform_243

set_option maxHeartbeats 4000000 in
set_option maxRecDepth 100000 in
theorem c_X_perform_12 (l : Launch) (D : va_G) (a : AX) (sz : Nat) (pc ac lk mq ma mb ir sw io dl ha rd sn md kf kb cn pf : Int32) (co ou : Nat → Int32) : MI l D (wx a) (tx a) sz yX_perform cX_perform 2 (some .int) 3 [.ref a.1, .int 12] (pc, ac, lk, mq, ma, mb, ir, sw, io, dl, ha, rd, sn, md, kf, kb, cn, pf, co, ou) (fun r u => (r, u) = mu12 (pc, ac, lk, mq, ma, mb, ir, sw, io, dl, ha, rd, sn, md, kf, kb, cn, pf, co, ou)) := by
  refine en_i RX rfl (by decide) (Nat.le_of_ble_eq_true rfl) ?_
  intro p e s m below meth c A ls S hr hk hA hN hK hP hD hS hl
  have hl : lv_has ls 2 [(0, .ref a.1), (1, .int 12)] := hl
  refine lv_iload_n S.1 S.2.1 dX_perform_0 rfl (lv_at hl 1 rfl) ?_
  refine lv_tableIn (off := 243) (tgt := 244) S.1 S.2.1 dX_perform_1 (by decide +kernel) (by decide +kernel) (by decide +kernel) (by decide) ?_
  refine lv_aload_n S.1 S.2.1 dX_perform_244 rfl (lv_at hl 0 rfl) ?_
  refine lv_aload_n S.1 S.2.1 dX_perform_245 rfl (lv_at hl 0 rfl) ?_
  refine g_X_X_pc S hK hP dX_perform_246 ?_
  refine lv_bipush (v := 15) S.1 S.2.1 dX_perform_249 (by decide) ?_
  refine cl_i (As := [.int pc, .int 15]) (rest := []) S hN hK hP hD hS hA hl.1 (c_X_takeIntoMb l D a _ pc ac lk mq ma mb ir sw io dl ha rd sn md kf kb cn pf co ou pc 15) k_X_155 (rc_X hK hP) ⟨by decide, by decide⟩ rfl rfl (Nat.le_of_ble_eq_true rfl) ⟨Nat.le_refl _, Nat.le_refl _⟩ dX_perform_251 (fun r u H locs hw hP hD hS => ?_)
  obtain ⟨rfl, rfl⟩ := hw
  exact rt_i S hr hk hK hP hD hS ((by simp [mu12])) dX_perform_254

set_option maxHeartbeats 4000000 in
set_option maxRecDepth 100000 in
theorem c_X_perform_13 (l : Launch) (D : va_G) (a : AX) (sz : Nat) (pc ac lk mq ma mb ir sw io dl ha rd sn md kf kb cn pf : Int32) (co ou : Nat → Int32) : MI l D (wx a) (tx a) sz yX_perform cX_perform 2 (some .int) 3 [.ref a.1, .int 13] (pc, ac, lk, mq, ma, mb, ir, sw, io, dl, ha, rd, sn, md, kf, kb, cn, pf, co, ou) (fun r u => (r, u) = mu13 (pc, ac, lk, mq, ma, mb, ir, sw, io, dl, ha, rd, sn, md, kf, kb, cn, pf, co, ou)) := by
  refine en_i RX rfl (by decide) (Nat.le_of_ble_eq_true rfl) ?_
  intro p e s m below meth c A ls S hr hk hA hN hK hP hD hS hl
  have hl : lv_has ls 2 [(0, .ref a.1), (1, .int 13)] := hl
  refine lv_iload_n S.1 S.2.1 dX_perform_0 rfl (lv_at hl 1 rfl) ?_
  refine lv_tableIn (off := 254) (tgt := 255) S.1 S.2.1 dX_perform_1 (by decide +kernel) (by decide +kernel) (by decide +kernel) (by decide) ?_
  refine lv_aload_n S.1 S.2.1 dX_perform_255 rfl (lv_at hl 0 rfl) ?_
  refine cl_i (As := []) (rest := []) S hN hK hP hD hS hA hl.1 (c_X_jump l D a _ pc ac lk mq ma mb ir sw io dl ha rd sn md kf kb cn pf co ou ) k_X_158 (rc_X hK hP) ⟨by decide, by decide⟩ rfl rfl (Nat.le_of_ble_eq_true rfl) ⟨Nat.le_refl _, Nat.le_refl _⟩ dX_perform_256 (fun r u H locs hw hP hD hS => ?_)
  exact rt_i S hr hk hK hP hD hS (hw) dX_perform_259

set_option maxHeartbeats 4000000 in
set_option maxRecDepth 100000 in
theorem c_X_perform_15 (l : Launch) (D : va_G) (a : AX) (sz : Nat) (pc ac lk mq ma mb ir sw io dl ha rd sn md kf kb cn pf : Int32) (co ou : Nat → Int32) : MI l D (wx a) (tx a) sz yX_perform cX_perform 2 (some .int) 3 [.ref a.1, .int 15] (pc, ac, lk, mq, ma, mb, ir, sw, io, dl, ha, rd, sn, md, kf, kb, cn, pf, co, ou) (fun r u => (r, u) = mu15 (pc, ac, lk, mq, ma, mb, ir, sw, io, dl, ha, rd, sn, md, kf, kb, cn, pf, co, ou)) := by
  refine en_i RX rfl (by decide) (Nat.le_of_ble_eq_true rfl) ?_
  intro p e s m below meth c A ls S hr hk hA hN hK hP hD hS hl
  have hl : lv_has ls 2 [(0, .ref a.1), (1, .int 15)] := hl
  refine lv_iload_n S.1 S.2.1 dX_perform_0 rfl (lv_at hl 1 rfl) ?_
  refine lv_tableIn (off := 259) (tgt := 260) S.1 S.2.1 dX_perform_1 (by decide +kernel) (by decide +kernel) (by decide +kernel) (by decide) ?_
  refine lv_aload_n S.1 S.2.1 dX_perform_260 rfl (lv_at hl 0 rfl) ?_
  refine cl_i (As := []) (rest := []) S hN hK hP hD hS hA hl.1 (c_X_storeAndGoBehind l D a _ pc ac lk mq ma mb ir sw io dl ha rd sn md kf kb cn pf co ou ) k_X_161 (rc_X hK hP) ⟨by decide, by decide⟩ rfl rfl (Nat.le_of_ble_eq_true rfl) ⟨Nat.le_refl _, Nat.le_refl _⟩ dX_perform_261 (fun r u H locs hw hP hD hS => ?_)
  exact rt_i S hr hk hK hP hD hS (hw) dX_perform_264

set_option maxHeartbeats 4000000 in
set_option maxRecDepth 100000 in
theorem c_X_perform_16 (l : Launch) (D : va_G) (a : AX) (sz : Nat) (pc ac lk mq ma mb ir sw io dl ha rd sn md kf kb cn pf : Int32) (co ou : Nat → Int32) : MI l D (wx a) (tx a) sz yX_perform cX_perform 2 (some .int) 3 [.ref a.1, .int 16] (pc, ac, lk, mq, ma, mb, ir, sw, io, dl, ha, rd, sn, md, kf, kb, cn, pf, co, ou) (fun r u => (r, u) = mu16 (pc, ac, lk, mq, ma, mb, ir, sw, io, dl, ha, rd, sn, md, kf, kb, cn, pf, co, ou)) := by
  refine en_i RX rfl (by decide) (Nat.le_of_ble_eq_true rfl) ?_
  intro p e s m below meth c A ls S hr hk hA hN hK hP hD hS hl
  have hl : lv_has ls 2 [(0, .ref a.1), (1, .int 16)] := hl
  refine lv_iload_n S.1 S.2.1 dX_perform_0 rfl (lv_at hl 1 rfl) ?_
  refine lv_tableIn (off := 264) (tgt := 265) S.1 S.2.1 dX_perform_1 (by decide +kernel) (by decide +kernel) (by decide +kernel) (by decide) ?_
  refine lv_aload_n S.1 S.2.1 dX_perform_265 rfl (lv_at hl 0 rfl) ?_
  refine cl_i (As := []) (rest := []) S hN hK hP hD hS hA hl.1 (c_X_andOperand l D a _ pc ac lk mq ma mb ir sw io dl ha rd sn md kf kb cn pf co ou ) k_X_164 (rc_X hK hP) ⟨by decide, by decide⟩ rfl rfl (Nat.le_of_ble_eq_true rfl) ⟨Nat.le_refl _, Nat.le_refl _⟩ dX_perform_266 (fun r u H locs hw hP hD hS => ?_)
  exact rt_i S hr hk hK hP hD hS (hw) dX_perform_269

set_option maxHeartbeats 4000000 in
set_option maxRecDepth 100000 in
theorem c_X_perform_17 (l : Launch) (D : va_G) (a : AX) (sz : Nat) (pc ac lk mq ma mb ir sw io dl ha rd sn md kf kb cn pf : Int32) (co ou : Nat → Int32) : MI l D (wx a) (tx a) sz yX_perform cX_perform 2 (some .int) 3 [.ref a.1, .int 17] (pc, ac, lk, mq, ma, mb, ir, sw, io, dl, ha, rd, sn, md, kf, kb, cn, pf, co, ou) (fun r u => (r, u) = mu17 (pc, ac, lk, mq, ma, mb, ir, sw, io, dl, ha, rd, sn, md, kf, kb, cn, pf, co, ou)) := by
  refine en_i RX rfl (by decide) (Nat.le_of_ble_eq_true rfl) ?_
  intro p e s m below meth c A ls S hr hk hA hN hK hP hD hS hl
  have hl : lv_has ls 2 [(0, .ref a.1), (1, .int 17)] := hl
  refine lv_iload_n S.1 S.2.1 dX_perform_0 rfl (lv_at hl 1 rfl) ?_
  refine lv_tableIn (off := 269) (tgt := 270) S.1 S.2.1 dX_perform_1 (by decide +kernel) (by decide +kernel) (by decide +kernel) (by decide) ?_
  refine lv_aload_n S.1 S.2.1 dX_perform_270 rfl (lv_at hl 0 rfl) ?_
  refine cl_i (As := []) (rest := []) S hN hK hP hD hS hA hl.1 (c_X_addOperand l D a _ pc ac lk mq ma mb ir sw io dl ha rd sn md kf kb cn pf co ou ) k_X_167 (rc_X hK hP) ⟨by decide, by decide⟩ rfl rfl (Nat.le_of_ble_eq_true rfl) ⟨Nat.le_refl _, Nat.le_refl _⟩ dX_perform_271 (fun r u H locs hw hP hD hS => ?_)
  exact rt_i S hr hk hK hP hD hS (hw) dX_perform_274

set_option maxHeartbeats 4000000 in
set_option maxRecDepth 100000 in
theorem c_X_perform_18 (l : Launch) (D : va_G) (a : AX) (sz : Nat) (pc ac lk mq ma mb ir sw io dl ha rd sn md kf kb cn pf : Int32) (co ou : Nat → Int32) : MI l D (wx a) (tx a) sz yX_perform cX_perform 2 (some .int) 3 [.ref a.1, .int 18] (pc, ac, lk, mq, ma, mb, ir, sw, io, dl, ha, rd, sn, md, kf, kb, cn, pf, co, ou) (fun r u => (r, u) = mu18 (pc, ac, lk, mq, ma, mb, ir, sw, io, dl, ha, rd, sn, md, kf, kb, cn, pf, co, ou)) := by
  refine en_i RX rfl (by decide) (Nat.le_of_ble_eq_true rfl) ?_
  intro p e s m below meth c A ls S hr hk hA hN hK hP hD hS hl
  have hl : lv_has ls 2 [(0, .ref a.1), (1, .int 18)] := hl
  refine lv_iload_n S.1 S.2.1 dX_perform_0 rfl (lv_at hl 1 rfl) ?_
  refine lv_tableIn (off := 274) (tgt := 275) S.1 S.2.1 dX_perform_1 (by decide +kernel) (by decide +kernel) (by decide +kernel) (by decide) ?_
  refine lv_aload_n S.1 S.2.1 dX_perform_275 rfl (lv_at hl 0 rfl) ?_
  refine cl_i (As := []) (rest := []) S hN hK hP hD hS hA hl.1 (c_X_storeAndSkipIfZero l D a _ pc ac lk mq ma mb ir sw io dl ha rd sn md kf kb cn pf co ou ) k_X_170 (rc_X hK hP) ⟨by decide, by decide⟩ rfl rfl (Nat.le_of_ble_eq_true rfl) ⟨Nat.le_refl _, Nat.le_refl _⟩ dX_perform_276 (fun r u H locs hw hP hD hS => ?_)
  exact rt_i S hr hk hK hP hD hS (hw) dX_perform_279

set_option maxHeartbeats 4000000 in
set_option maxRecDepth 100000 in
theorem c_X_perform_19 (l : Launch) (D : va_G) (a : AX) (sz : Nat) (pc ac lk mq ma mb ir sw io dl ha rd sn md kf kb cn pf : Int32) (co ou : Nat → Int32) : MI l D (wx a) (tx a) sz yX_perform cX_perform 2 (some .int) 3 [.ref a.1, .int 19] (pc, ac, lk, mq, ma, mb, ir, sw, io, dl, ha, rd, sn, md, kf, kb, cn, pf, co, ou) (fun r u => (r, u) = mu19 (pc, ac, lk, mq, ma, mb, ir, sw, io, dl, ha, rd, sn, md, kf, kb, cn, pf, co, ou)) := by
  refine en_i RX rfl (by decide) (Nat.le_of_ble_eq_true rfl) ?_
  intro p e s m below meth c A ls S hr hk hA hN hK hP hD hS hl
  have hl : lv_has ls 2 [(0, .ref a.1), (1, .int 19)] := hl
  refine lv_iload_n S.1 S.2.1 dX_perform_0 rfl (lv_at hl 1 rfl) ?_
  refine lv_tableIn (off := 279) (tgt := 280) S.1 S.2.1 dX_perform_1 (by decide +kernel) (by decide +kernel) (by decide +kernel) (by decide) ?_
  refine lv_aload_n S.1 S.2.1 dX_perform_280 rfl (lv_at hl 0 rfl) ?_
  refine cl_i (As := []) (rest := []) S hN hK hP hD hS hA hl.1 (c_X_storeAndClear l D a _ pc ac lk mq ma mb ir sw io dl ha rd sn md kf kb cn pf co ou ) k_X_173 (rc_X hK hP) ⟨by decide, by decide⟩ rfl rfl (Nat.le_of_ble_eq_true rfl) ⟨Nat.le_refl _, Nat.le_refl _⟩ dX_perform_281 (fun r u H locs hw hP hD hS => ?_)
  exact rt_i S hr hk hK hP hD hS (hw) dX_perform_284

set_option maxHeartbeats 4000000 in
set_option maxRecDepth 100000 in
theorem c_X_perform_20 (l : Launch) (D : va_G) (a : AX) (sz : Nat) (pc ac lk mq ma mb ir sw io dl ha rd sn md kf kb cn pf : Int32) (co ou : Nat → Int32) : MI l D (wx a) (tx a) sz yX_perform cX_perform 2 (some .int) 3 [.ref a.1, .int 20] (pc, ac, lk, mq, ma, mb, ir, sw, io, dl, ha, rd, sn, md, kf, kb, cn, pf, co, ou) (fun r u => (r, u) = mu20 (pc, ac, lk, mq, ma, mb, ir, sw, io, dl, ha, rd, sn, md, kf, kb, cn, pf, co, ou)) := by
  refine en_i RX rfl (by decide) (Nat.le_of_ble_eq_true rfl) ?_
  intro p e s m below meth c A ls S hr hk hA hN hK hP hD hS hl
  have hl : lv_has ls 2 [(0, .ref a.1), (1, .int 20)] := hl
  refine lv_iload_n S.1 S.2.1 dX_perform_0 rfl (lv_at hl 1 rfl) ?_
  refine lv_tableIn (off := 284) (tgt := 285) S.1 S.2.1 dX_perform_1 (by decide +kernel) (by decide +kernel) (by decide +kernel) (by decide) ?_
  refine lv_aload_n S.1 S.2.1 dX_perform_285 rfl (lv_at hl 0 rfl) ?_
  refine cl_i (As := []) (rest := []) S hN hK hP hD hS hA hl.1 (c_X_chooseOperateGroup l D a _ pc ac lk mq ma mb ir sw io dl ha rd sn md kf kb cn pf co ou ) k_X_176 (rc_X hK hP) ⟨by decide, by decide⟩ rfl rfl (Nat.le_of_ble_eq_true rfl) ⟨Nat.le_refl _, Nat.le_refl _⟩ dX_perform_286 (fun r u H locs hw hP hD hS => ?_)
  exact rt_i S hr hk hK hP hD hS (hw) dX_perform_289

set_option maxHeartbeats 4000000 in
set_option maxRecDepth 100000 in
theorem c_X_perform_21 (l : Launch) (D : va_G) (a : AX) (sz : Nat) (pc ac lk mq ma mb ir sw io dl ha rd sn md kf kb cn pf : Int32) (co ou : Nat → Int32) : MI l D (wx a) (tx a) sz yX_perform cX_perform 2 (some .int) 3 [.ref a.1, .int 21] (pc, ac, lk, mq, ma, mb, ir, sw, io, dl, ha, rd, sn, md, kf, kb, cn, pf, co, ou) (fun r u => (r, u) = mu21 (pc, ac, lk, mq, ma, mb, ir, sw, io, dl, ha, rd, sn, md, kf, kb, cn, pf, co, ou)) := by
  refine en_i RX rfl (by decide) (Nat.le_of_ble_eq_true rfl) ?_
  intro p e s m below meth c A ls S hr hk hA hN hK hP hD hS hl
  have hl : lv_has ls 2 [(0, .ref a.1), (1, .int 21)] := hl
  refine lv_iload_n S.1 S.2.1 dX_perform_0 rfl (lv_at hl 1 rfl) ?_
  refine lv_tableIn (off := 289) (tgt := 290) S.1 S.2.1 dX_perform_1 (by decide +kernel) (by decide +kernel) (by decide +kernel) (by decide) ?_
  refine lv_aload_n S.1 S.2.1 dX_perform_290 rfl (lv_at hl 0 rfl) ?_
  refine cl_i (As := []) (rest := []) S hN hK hP hD hS hA hl.1 (c_X_clear l D a _ pc ac lk mq ma mb ir sw io dl ha rd sn md kf kb cn pf co ou ) k_X_179 (rc_X hK hP) ⟨by decide, by decide⟩ rfl rfl (Nat.le_of_ble_eq_true rfl) ⟨Nat.le_refl _, Nat.le_refl _⟩ dX_perform_291 (fun r u H locs hw hP hD hS => ?_)
  exact rt_i S hr hk hK hP hD hS (hw) dX_perform_294

set_option maxHeartbeats 4000000 in
set_option maxRecDepth 100000 in
theorem c_X_perform_22 (l : Launch) (D : va_G) (a : AX) (sz : Nat) (pc ac lk mq ma mb ir sw io dl ha rd sn md kf kb cn pf : Int32) (co ou : Nat → Int32) : MI l D (wx a) (tx a) sz yX_perform cX_perform 2 (some .int) 3 [.ref a.1, .int 22] (pc, ac, lk, mq, ma, mb, ir, sw, io, dl, ha, rd, sn, md, kf, kb, cn, pf, co, ou) (fun r u => (r, u) = mu22 (pc, ac, lk, mq, ma, mb, ir, sw, io, dl, ha, rd, sn, md, kf, kb, cn, pf, co, ou)) := by
  refine en_i RX rfl (by decide) (Nat.le_of_ble_eq_true rfl) ?_
  intro p e s m below meth c A ls S hr hk hA hN hK hP hD hS hl
  have hl : lv_has ls 2 [(0, .ref a.1), (1, .int 22)] := hl
  refine lv_iload_n S.1 S.2.1 dX_perform_0 rfl (lv_at hl 1 rfl) ?_
  refine lv_tableIn (off := 294) (tgt := 295) S.1 S.2.1 dX_perform_1 (by decide +kernel) (by decide +kernel) (by decide +kernel) (by decide) ?_
  refine lv_aload_n S.1 S.2.1 dX_perform_295 rfl (lv_at hl 0 rfl) ?_
  refine cl_i (As := []) (rest := []) S hN hK hP hD hS hA hl.1 (c_X_complement l D a _ pc ac lk mq ma mb ir sw io dl ha rd sn md kf kb cn pf co ou ) k_X_182 (rc_X hK hP) ⟨by decide, by decide⟩ rfl rfl (Nat.le_of_ble_eq_true rfl) ⟨Nat.le_refl _, Nat.le_refl _⟩ dX_perform_296 (fun r u H locs hw hP hD hS => ?_)
  exact rt_i S hr hk hK hP hD hS (hw) dX_perform_299

set_option maxHeartbeats 4000000 in
set_option maxRecDepth 100000 in
theorem c_X_perform_23 (l : Launch) (D : va_G) (a : AX) (sz : Nat) (pc ac lk mq ma mb ir sw io dl ha rd sn md kf kb cn pf : Int32) (co ou : Nat → Int32) : MI l D (wx a) (tx a) sz yX_perform cX_perform 2 (some .int) 3 [.ref a.1, .int 23] (pc, ac, lk, mq, ma, mb, ir, sw, io, dl, ha, rd, sn, md, kf, kb, cn, pf, co, ou) (fun r u => (r, u) = mu23 (pc, ac, lk, mq, ma, mb, ir, sw, io, dl, ha, rd, sn, md, kf, kb, cn, pf, co, ou)) := by
  refine en_i RX rfl (by decide) (Nat.le_of_ble_eq_true rfl) ?_
  intro p e s m below meth c A ls S hr hk hA hN hK hP hD hS hl
  have hl : lv_has ls 2 [(0, .ref a.1), (1, .int 23)] := hl
  refine lv_iload_n S.1 S.2.1 dX_perform_0 rfl (lv_at hl 1 rfl) ?_
  refine lv_tableIn (off := 299) (tgt := 300) S.1 S.2.1 dX_perform_1 (by decide +kernel) (by decide +kernel) (by decide +kernel) (by decide) ?_
  refine lv_aload_n S.1 S.2.1 dX_perform_300 rfl (lv_at hl 0 rfl) ?_
  refine cl_i (As := []) (rest := []) S hN hK hP hD hS hA hl.1 (c_X_increment l D a _ pc ac lk mq ma mb ir sw io dl ha rd sn md kf kb cn pf co ou ) k_X_185 (rc_X hK hP) ⟨by decide, by decide⟩ rfl rfl (Nat.le_of_ble_eq_true rfl) ⟨Nat.le_refl _, Nat.le_refl _⟩ dX_perform_301 (fun r u H locs hw hP hD hS => ?_)
  exact rt_i S hr hk hK hP hD hS (hw) dX_perform_304

set_option maxHeartbeats 4000000 in
set_option maxRecDepth 100000 in
theorem c_X_perform_24 (l : Launch) (D : va_G) (a : AX) (sz : Nat) (pc ac lk mq ma mb ir sw io dl ha rd sn md kf kb cn pf : Int32) (co ou : Nat → Int32) : MI l D (wx a) (tx a) sz yX_perform cX_perform 2 (some .int) 3 [.ref a.1, .int 24] (pc, ac, lk, mq, ma, mb, ir, sw, io, dl, ha, rd, sn, md, kf, kb, cn, pf, co, ou) (fun r u => (r, u) = mu24 (pc, ac, lk, mq, ma, mb, ir, sw, io, dl, ha, rd, sn, md, kf, kb, cn, pf, co, ou)) := by
  refine en_i RX rfl (by decide) (Nat.le_of_ble_eq_true rfl) ?_
  intro p e s m below meth c A ls S hr hk hA hN hK hP hD hS hl
  have hl : lv_has ls 2 [(0, .ref a.1), (1, .int 24)] := hl
  refine lv_iload_n S.1 S.2.1 dX_perform_0 rfl (lv_at hl 1 rfl) ?_
  refine lv_tableIn (off := 304) (tgt := 305) S.1 S.2.1 dX_perform_1 (by decide +kernel) (by decide +kernel) (by decide +kernel) (by decide) ?_
  refine lv_aload_n S.1 S.2.1 dX_perform_305 rfl (lv_at hl 0 rfl) ?_
  refine cl_i (As := []) (rest := []) S hN hK hP hD hS hA hl.1 (c_X_rotateFirst l D a _ pc ac lk mq ma mb ir sw io dl ha rd sn md kf kb cn pf co ou ) k_X_188 (rc_X hK hP) ⟨by decide, by decide⟩ rfl rfl (Nat.le_of_ble_eq_true rfl) ⟨Nat.le_refl _, Nat.le_refl _⟩ dX_perform_306 (fun r u H locs hw hP hD hS => ?_)
  exact rt_i S hr hk hK hP hD hS (hw) dX_perform_309

set_option maxHeartbeats 4000000 in
set_option maxRecDepth 100000 in
theorem c_X_perform_25 (l : Launch) (D : va_G) (a : AX) (sz : Nat) (pc ac lk mq ma mb ir sw io dl ha rd sn md kf kb cn pf : Int32) (co ou : Nat → Int32) : MI l D (wx a) (tx a) sz yX_perform cX_perform 2 (some .int) 3 [.ref a.1, .int 25] (pc, ac, lk, mq, ma, mb, ir, sw, io, dl, ha, rd, sn, md, kf, kb, cn, pf, co, ou) (fun r u => (r, u) = mu25 (pc, ac, lk, mq, ma, mb, ir, sw, io, dl, ha, rd, sn, md, kf, kb, cn, pf, co, ou)) := by
  refine en_i RX rfl (by decide) (Nat.le_of_ble_eq_true rfl) ?_
  intro p e s m below meth c A ls S hr hk hA hN hK hP hD hS hl
  have hl : lv_has ls 2 [(0, .ref a.1), (1, .int 25)] := hl
  refine lv_iload_n S.1 S.2.1 dX_perform_0 rfl (lv_at hl 1 rfl) ?_
  refine lv_tableIn (off := 309) (tgt := 310) S.1 S.2.1 dX_perform_1 (by decide +kernel) (by decide +kernel) (by decide +kernel) (by decide) ?_
  refine lv_aload_n S.1 S.2.1 dX_perform_310 rfl (lv_at hl 0 rfl) ?_
  refine cl_i (As := []) (rest := []) S hN hK hP hD hS hA hl.1 (c_X_rotateLast l D a _ pc ac lk mq ma mb ir sw io dl ha rd sn md kf kb cn pf co ou ) k_X_191 (rc_X hK hP) ⟨by decide, by decide⟩ rfl rfl (Nat.le_of_ble_eq_true rfl) ⟨Nat.le_refl _, Nat.le_refl _⟩ dX_perform_311 (fun r u H locs hw hP hD hS => ?_)
  exact rt_i S hr hk hK hP hD hS (hw) dX_perform_314

set_option maxHeartbeats 4000000 in
set_option maxRecDepth 100000 in
theorem c_X_perform_26 (l : Launch) (D : va_G) (a : AX) (sz : Nat) (pc ac lk mq ma mb ir sw io dl ha rd sn md kf kb cn pf : Int32) (co ou : Nat → Int32) : MI l D (wx a) (tx a) sz yX_perform cX_perform 2 (some .int) 3 [.ref a.1, .int 26] (pc, ac, lk, mq, ma, mb, ir, sw, io, dl, ha, rd, sn, md, kf, kb, cn, pf, co, ou) (fun r u => (r, u) = mu26 (pc, ac, lk, mq, ma, mb, ir, sw, io, dl, ha, rd, sn, md, kf, kb, cn, pf, co, ou)) := by
  refine en_i RX rfl (by decide) (Nat.le_of_ble_eq_true rfl) ?_
  intro p e s m below meth c A ls S hr hk hA hN hK hP hD hS hl
  have hl : lv_has ls 2 [(0, .ref a.1), (1, .int 26)] := hl
  refine lv_iload_n S.1 S.2.1 dX_perform_0 rfl (lv_at hl 1 rfl) ?_
  refine lv_tableIn (off := 314) (tgt := 315) S.1 S.2.1 dX_perform_1 (by decide +kernel) (by decide +kernel) (by decide +kernel) (by decide) ?_
  refine lv_aload_n S.1 S.2.1 dX_perform_315 rfl (lv_at hl 0 rfl) ?_
  refine cl_i (As := []) (rest := []) S hN hK hP hD hS hA hl.1 (c_X_test l D a _ pc ac lk mq ma mb ir sw io dl ha rd sn md kf kb cn pf co ou ) k_X_194 (rc_X hK hP) ⟨by decide, by decide⟩ rfl rfl (Nat.le_of_ble_eq_true rfl) ⟨Nat.le_refl _, Nat.le_refl _⟩ dX_perform_316 (fun r u H locs hw hP hD hS => ?_)
  exact rt_i S hr hk hK hP hD hS (hw) dX_perform_319

set_option maxHeartbeats 4000000 in
set_option maxRecDepth 100000 in
theorem c_X_perform_27 (l : Launch) (D : va_G) (a : AX) (sz : Nat) (pc ac lk mq ma mb ir sw io dl ha rd sn md kf kb cn pf : Int32) (co ou : Nat → Int32) : MI l D (wx a) (tx a) sz yX_perform cX_perform 2 (some .int) 3 [.ref a.1, .int 27] (pc, ac, lk, mq, ma, mb, ir, sw, io, dl, ha, rd, sn, md, kf, kb, cn, pf, co, ou) (fun r u => (r, u) = mu27 (pc, ac, lk, mq, ma, mb, ir, sw, io, dl, ha, rd, sn, md, kf, kb, cn, pf, co, ou)) := by
  refine en_i RX rfl (by decide) (Nat.le_of_ble_eq_true rfl) ?_
  intro p e s m below meth c A ls S hr hk hA hN hK hP hD hS hl
  have hl : lv_has ls 2 [(0, .ref a.1), (1, .int 27)] := hl
  refine lv_iload_n S.1 S.2.1 dX_perform_0 rfl (lv_at hl 1 rfl) ?_
  refine lv_tableIn (off := 319) (tgt := 320) S.1 S.2.1 dX_perform_1 (by decide +kernel) (by decide +kernel) (by decide +kernel) (by decide) ?_
  refine lv_aload_n S.1 S.2.1 dX_perform_320 rfl (lv_at hl 0 rfl) ?_
  refine cl_i (As := []) (rest := []) S hN hK hP hD hS hA hl.1 (c_X_clearAfterTest l D a _ pc ac lk mq ma mb ir sw io dl ha rd sn md kf kb cn pf co ou ) k_X_197 (rc_X hK hP) ⟨by decide, by decide⟩ rfl rfl (Nat.le_of_ble_eq_true rfl) ⟨Nat.le_refl _, Nat.le_refl _⟩ dX_perform_321 (fun r u H locs hw hP hD hS => ?_)
  exact rt_i S hr hk hK hP hD hS (hw) dX_perform_324

set_option maxHeartbeats 4000000 in
set_option maxRecDepth 100000 in
theorem c_X_perform_28 (l : Launch) (D : va_G) (a : AX) (sz : Nat) (pc ac lk mq ma mb ir sw io dl ha rd sn md kf kb cn pf : Int32) (co ou : Nat → Int32) : MI l D (wx a) (tx a) sz yX_perform cX_perform 2 (some .int) 3 [.ref a.1, .int 28] (pc, ac, lk, mq, ma, mb, ir, sw, io, dl, ha, rd, sn, md, kf, kb, cn, pf, co, ou) (fun r u => (r, u) = mu28 (pc, ac, lk, mq, ma, mb, ir, sw, io, dl, ha, rd, sn, md, kf, kb, cn, pf, co, ou)) := by
  refine en_i RX rfl (by decide) (Nat.le_of_ble_eq_true rfl) ?_
  intro p e s m below meth c A ls S hr hk hA hN hK hP hD hS hl
  have hl : lv_has ls 2 [(0, .ref a.1), (1, .int 28)] := hl
  refine lv_iload_n S.1 S.2.1 dX_perform_0 rfl (lv_at hl 1 rfl) ?_
  refine lv_tableIn (off := 324) (tgt := 325) S.1 S.2.1 dX_perform_1 (by decide +kernel) (by decide +kernel) (by decide +kernel) (by decide) ?_
  refine lv_aload_n S.1 S.2.1 dX_perform_325 rfl (lv_at hl 0 rfl) ?_
  refine cl_i (As := []) (rest := []) S hN hK hP hD hS hA hl.1 (c_X_switchesAndHalt l D a _ pc ac lk mq ma mb ir sw io dl ha rd sn md kf kb cn pf co ou ) k_X_200 (rc_X hK hP) ⟨by decide, by decide⟩ rfl rfl (Nat.le_of_ble_eq_true rfl) ⟨Nat.le_refl _, Nat.le_refl _⟩ dX_perform_326 (fun r u H locs hw hP hD hS => ?_)
  exact rt_i S hr hk hK hP hD hS (hw) dX_perform_329

set_option maxHeartbeats 4000000 in
set_option maxRecDepth 100000 in
theorem c_X_perform_30 (l : Launch) (D : va_G) (a : AX) (sz : Nat) (pc ac lk mq ma mb ir sw io dl ha rd sn md kf kb cn pf : Int32) (co ou : Nat → Int32) : MI l D (wx a) (tx a) sz yX_perform cX_perform 2 (some .int) 3 [.ref a.1, .int 30] (pc, ac, lk, mq, ma, mb, ir, sw, io, dl, ha, rd, sn, md, kf, kb, cn, pf, co, ou) (fun r u => (r, u) = mu30 (pc, ac, lk, mq, ma, mb, ir, sw, io, dl, ha, rd, sn, md, kf, kb, cn, pf, co, ou)) := by
  refine en_i RX rfl (by decide) (Nat.le_of_ble_eq_true rfl) ?_
  intro p e s m below meth c A ls S hr hk hA hN hK hP hD hS hl
  have hl : lv_has ls 2 [(0, .ref a.1), (1, .int 30)] := hl
  refine lv_iload_n S.1 S.2.1 dX_perform_0 rfl (lv_at hl 1 rfl) ?_
  refine lv_tableIn (off := 329) (tgt := 330) S.1 S.2.1 dX_perform_1 (by decide +kernel) (by decide +kernel) (by decide +kernel) (by decide) ?_
  refine lv_aload_n S.1 S.2.1 dX_perform_330 rfl (lv_at hl 0 rfl) ?_
  refine cl_i (As := []) (rest := []) S hN hK hP hD hS hA hl.1 (c_X_clearBeforeMq l D a _ pc ac lk mq ma mb ir sw io dl ha rd sn md kf kb cn pf co ou ) k_X_203 (rc_X hK hP) ⟨by decide, by decide⟩ rfl rfl (Nat.le_of_ble_eq_true rfl) ⟨Nat.le_refl _, Nat.le_refl _⟩ dX_perform_331 (fun r u H locs hw hP hD hS => ?_)
  exact rt_i S hr hk hK hP hD hS (hw) dX_perform_334

set_option maxHeartbeats 4000000 in
set_option maxRecDepth 100000 in
theorem c_X_perform_31 (l : Launch) (D : va_G) (a : AX) (sz : Nat) (pc ac lk mq ma mb ir sw io dl ha rd sn md kf kb cn pf : Int32) (co ou : Nat → Int32) : MI l D (wx a) (tx a) sz yX_perform cX_perform 2 (some .int) 3 [.ref a.1, .int 31] (pc, ac, lk, mq, ma, mb, ir, sw, io, dl, ha, rd, sn, md, kf, kb, cn, pf, co, ou) (fun r u => (r, u) = mu31 (pc, ac, lk, mq, ma, mb, ir, sw, io, dl, ha, rd, sn, md, kf, kb, cn, pf, co, ou)) := by
  refine en_i RX rfl (by decide) (Nat.le_of_ble_eq_true rfl) ?_
  intro p e s m below meth c A ls S hr hk hA hN hK hP hD hS hl
  have hl : lv_has ls 2 [(0, .ref a.1), (1, .int 31)] := hl
  refine lv_iload_n S.1 S.2.1 dX_perform_0 rfl (lv_at hl 1 rfl) ?_
  refine lv_tableIn (off := 334) (tgt := 335) S.1 S.2.1 dX_perform_1 (by decide +kernel) (by decide +kernel) (by decide +kernel) (by decide) ?_
  refine lv_aload_n S.1 S.2.1 dX_perform_335 rfl (lv_at hl 0 rfl) ?_
  refine cl_i (As := []) (rest := []) S hN hK hP hD hS hA hl.1 (c_X_exchangeMq l D a _ pc ac lk mq ma mb ir sw io dl ha rd sn md kf kb cn pf co ou ) k_X_206 (rc_X hK hP) ⟨by decide, by decide⟩ rfl rfl (Nat.le_of_ble_eq_true rfl) ⟨Nat.le_refl _, Nat.le_refl _⟩ dX_perform_336 (fun r u H locs hw hP hD hS => ?_)
  exact rt_i S hr hk hK hP hD hS (hw) dX_perform_339

set_option maxHeartbeats 4000000 in
set_option maxRecDepth 100000 in
theorem c_X_perform_32 (l : Launch) (D : va_G) (a : AX) (sz : Nat) (pc ac lk mq ma mb ir sw io dl ha rd sn md kf kb cn pf : Int32) (co ou : Nat → Int32) : MI l D (wx a) (tx a) sz yX_perform cX_perform 2 (some .int) 3 [.ref a.1, .int 32] (pc, ac, lk, mq, ma, mb, ir, sw, io, dl, ha, rd, sn, md, kf, kb, cn, pf, co, ou) (fun r u => (r, u) = mu32 (pc, ac, lk, mq, ma, mb, ir, sw, io, dl, ha, rd, sn, md, kf, kb, cn, pf, co, ou)) := by
  refine en_i RX rfl (by decide) (Nat.le_of_ble_eq_true rfl) ?_
  intro p e s m below meth c A ls S hr hk hA hN hK hP hD hS hl
  have hl : lv_has ls 2 [(0, .ref a.1), (1, .int 32)] := hl
  refine lv_iload_n S.1 S.2.1 dX_perform_0 rfl (lv_at hl 1 rfl) ?_
  refine lv_tableIn (off := 339) (tgt := 340) S.1 S.2.1 dX_perform_1 (by decide +kernel) (by decide +kernel) (by decide +kernel) (by decide) ?_
  refine lv_aload_n S.1 S.2.1 dX_perform_340 rfl (lv_at hl 0 rfl) ?_
  refine cl_i (As := []) (rest := []) S hN hK hP hD hS hA hl.1 (c_X_chooseDevice l D a _ pc ac lk mq ma mb ir sw io dl ha rd sn md kf kb cn pf co ou ) k_X_209 (rc_X hK hP) ⟨by decide, by decide⟩ rfl rfl (Nat.le_of_ble_eq_true rfl) ⟨Nat.le_refl _, Nat.le_refl _⟩ dX_perform_341 (fun r u H locs hw hP hD hS => ?_)
  exact rt_i S hr hk hK hP hD hS (hw) dX_perform_344

set_option maxHeartbeats 4000000 in
set_option maxRecDepth 100000 in
theorem c_X_perform_33 (l : Launch) (D : va_G) (a : AX) (sz : Nat) (pc ac lk mq ma mb ir sw io dl ha rd sn md kf kb cn pf : Int32) (co ou : Nat → Int32) : MI l D (wx a) (tx a) sz yX_perform cX_perform 2 (some .int) 3 [.ref a.1, .int 33] (pc, ac, lk, mq, ma, mb, ir, sw, io, dl, ha, rd, sn, md, kf, kb, cn, pf, co, ou) (fun r u => (r, u) = mu33 (pc, ac, lk, mq, ma, mb, ir, sw, io, dl, ha, rd, sn, md, kf, kb, cn, pf, co, ou)) := by
  refine en_i RX rfl (by decide) (Nat.le_of_ble_eq_true rfl) ?_
  intro p e s m below meth c A ls S hr hk hA hN hK hP hD hS hl
  have hl : lv_has ls 2 [(0, .ref a.1), (1, .int 33)] := hl
  refine lv_iload_n S.1 S.2.1 dX_perform_0 rfl (lv_at hl 1 rfl) ?_
  refine lv_tableIn (off := 344) (tgt := 345) S.1 S.2.1 dX_perform_1 (by decide +kernel) (by decide +kernel) (by decide +kernel) (by decide) ?_
  refine lv_aload_n S.1 S.2.1 dX_perform_345 rfl (lv_at hl 0 rfl) ?_
  refine cl_i (As := []) (rest := []) S hN hK hP hD hS hA hl.1 (c_X_turnInterrupts l D a _ pc ac lk mq ma mb ir sw io dl ha rd sn md kf kb cn pf co ou ) k_X_212 (rc_X hK hP) ⟨by decide, by decide⟩ rfl rfl (Nat.le_of_ble_eq_true rfl) ⟨Nat.le_refl _, Nat.le_refl _⟩ dX_perform_346 (fun r u H locs hw hP hD hS => ?_)
  exact rt_i S hr hk hK hP hD hS (hw) dX_perform_349

set_option maxHeartbeats 4000000 in
set_option maxRecDepth 100000 in
theorem c_X_perform_34 (l : Launch) (D : va_G) (a : AX) (sz : Nat) (pc ac lk mq ma mb ir sw io dl ha rd sn md kf kb cn pf : Int32) (co ou : Nat → Int32) : MI l D (wx a) (tx a) sz yX_perform cX_perform 2 (some .int) 3 [.ref a.1, .int 34] (pc, ac, lk, mq, ma, mb, ir, sw, io, dl, ha, rd, sn, md, kf, kb, cn, pf, co, ou) (fun r u => (r, u) = mu34 (pc, ac, lk, mq, ma, mb, ir, sw, io, dl, ha, rd, sn, md, kf, kb, cn, pf, co, ou)) := by
  refine en_i RX rfl (by decide) (Nat.le_of_ble_eq_true rfl) ?_
  intro p e s m below meth c A ls S hr hk hA hN hK hP hD hS hl
  have hl : lv_has ls 2 [(0, .ref a.1), (1, .int 34)] := hl
  refine lv_iload_n S.1 S.2.1 dX_perform_0 rfl (lv_at hl 1 rfl) ?_
  refine lv_tableIn (off := 349) (tgt := 350) S.1 S.2.1 dX_perform_1 (by decide +kernel) (by decide +kernel) (by decide +kernel) (by decide) ?_
  refine lv_aload_n S.1 S.2.1 dX_perform_350 rfl (lv_at hl 0 rfl) ?_
  refine cl_i (As := []) (rest := []) S hN hK hP hD hS hA hl.1 (c_X_askKeyboard l D a _ pc ac lk mq ma mb ir sw io dl ha rd sn md kf kb cn pf co ou ) k_X_215 (rc_X hK hP) ⟨by decide, by decide⟩ rfl rfl (Nat.le_of_ble_eq_true rfl) ⟨Nat.le_refl _, Nat.le_refl _⟩ dX_perform_351 (fun r u H locs hw hP hD hS => ?_)
  exact rt_i S hr hk hK hP hD hS (hw) dX_perform_354

set_option maxHeartbeats 4000000 in
set_option maxRecDepth 100000 in
theorem c_X_perform_35 (l : Launch) (D : va_G) (a : AX) (sz : Nat) (pc ac lk mq ma mb ir sw io dl ha rd sn md kf kb cn pf : Int32) (co ou : Nat → Int32) : MI l D (wx a) (tx a) sz yX_perform cX_perform 2 (some .int) 3 [.ref a.1, .int 35] (pc, ac, lk, mq, ma, mb, ir, sw, io, dl, ha, rd, sn, md, kf, kb, cn, pf, co, ou) (fun r u => (r, u) = mu35 (pc, ac, lk, mq, ma, mb, ir, sw, io, dl, ha, rd, sn, md, kf, kb, cn, pf, co, ou)) := by
  refine en_i RX rfl (by decide) (Nat.le_of_ble_eq_true rfl) ?_
  intro p e s m below meth c A ls S hr hk hA hN hK hP hD hS hl
  have hl : lv_has ls 2 [(0, .ref a.1), (1, .int 35)] := hl
  refine lv_iload_n S.1 S.2.1 dX_perform_0 rfl (lv_at hl 1 rfl) ?_
  refine lv_tableIn (off := 354) (tgt := 355) S.1 S.2.1 dX_perform_1 (by decide +kernel) (by decide +kernel) (by decide +kernel) (by decide) ?_
  refine lv_aload_n S.1 S.2.1 dX_perform_355 rfl (lv_at hl 0 rfl) ?_
  refine cl_i (As := []) (rest := []) S hN hK hP hD hS hA hl.1 (c_X_readKeyboard l D a _ pc ac lk mq ma mb ir sw io dl ha rd sn md kf kb cn pf co ou ) k_X_218 (rc_X hK hP) ⟨by decide, by decide⟩ rfl rfl (Nat.le_of_ble_eq_true rfl) ⟨Nat.le_refl _, Nat.le_refl _⟩ dX_perform_356 (fun r u H locs hw hP hD hS => ?_)
  exact rt_i S hr hk hK hP hD hS (hw) dX_perform_359

set_option maxHeartbeats 4000000 in
set_option maxRecDepth 100000 in
theorem c_X_perform_36 (l : Launch) (D : va_G) (a : AX) (sz : Nat) (pc ac lk mq ma mb ir sw io dl ha rd sn md kf kb cn pf : Int32) (co ou : Nat → Int32) : MI l D (wx a) (tx a) sz yX_perform cX_perform 2 (some .int) 3 [.ref a.1, .int 36] (pc, ac, lk, mq, ma, mb, ir, sw, io, dl, ha, rd, sn, md, kf, kb, cn, pf, co, ou) (fun r u => (r, u) = mu36 (pc, ac, lk, mq, ma, mb, ir, sw, io, dl, ha, rd, sn, md, kf, kb, cn, pf, co, ou)) := by
  refine en_i RX rfl (by decide) (Nat.le_of_ble_eq_true rfl) ?_
  intro p e s m below meth c A ls S hr hk hA hN hK hP hD hS hl
  have hl : lv_has ls 2 [(0, .ref a.1), (1, .int 36)] := hl
  refine lv_iload_n S.1 S.2.1 dX_perform_0 rfl (lv_at hl 1 rfl) ?_
  refine lv_tableIn (off := 359) (tgt := 360) S.1 S.2.1 dX_perform_1 (by decide +kernel) (by decide +kernel) (by decide +kernel) (by decide) ?_
  refine lv_aload_n S.1 S.2.1 dX_perform_360 rfl (lv_at hl 0 rfl) ?_
  refine cl_i (As := []) (rest := []) S hN hK hP hD hS hA hl.1 (c_X_askPrinter l D a _ pc ac lk mq ma mb ir sw io dl ha rd sn md kf kb cn pf co ou ) k_X_221 (rc_X hK hP) ⟨by decide, by decide⟩ rfl rfl (Nat.le_of_ble_eq_true rfl) ⟨Nat.le_refl _, Nat.le_refl _⟩ dX_perform_361 (fun r u H locs hw hP hD hS => ?_)
  exact rt_i S hr hk hK hP hD hS (hw) dX_perform_364

set_option maxHeartbeats 4000000 in
set_option maxRecDepth 100000 in
theorem c_X_perform_37 (l : Launch) (D : va_G) (a : AX) (sz : Nat) (pc ac lk mq ma mb ir sw io dl ha rd sn md kf kb cn pf : Int32) (co ou : Nat → Int32) (hn : a.2.2.2.2.2.2.2 ≤ 100) (hcn : ∃ k : Nat, k ≤ a.2.2.2.2.2.2.2 ∧ cn = nI k) (h37 : cn < (nI a.2.2.2.2.2.2.2)) : MI l D (wx a) (tx a) sz yX_perform cX_perform 2 (some .int) 3 [.ref a.1, .int 37] (pc, ac, lk, mq, ma, mb, ir, sw, io, dl, ha, rd, sn, md, kf, kb, cn, pf, co, ou) (fun r u => (r, u) = mu37 (pc, ac, lk, mq, ma, mb, ir, sw, io, dl, ha, rd, sn, md, kf, kb, cn, pf, co, ou)) := by
  refine en_i RX rfl (by decide) (Nat.le_of_ble_eq_true rfl) ?_
  intro p e s m below meth c A ls S hr hk hA hN hK hP hD hS hl
  have hl : lv_has ls 2 [(0, .ref a.1), (1, .int 37)] := hl
  refine lv_iload_n S.1 S.2.1 dX_perform_0 rfl (lv_at hl 1 rfl) ?_
  refine lv_tableIn (off := 364) (tgt := 365) S.1 S.2.1 dX_perform_1 (by decide +kernel) (by decide +kernel) (by decide +kernel) (by decide) ?_
  refine lv_aload_n S.1 S.2.1 dX_perform_365 rfl (lv_at hl 0 rfl) ?_
  refine cl_i (As := []) (rest := []) S hN hK hP hD hS hA hl.1 (c_X_writePrinter l D a _ pc ac lk mq ma mb ir sw io dl ha rd sn md kf kb cn pf co ou hn hcn h37) k_X_224 (rc_X hK hP) ⟨by decide, by decide⟩ rfl rfl (Nat.le_of_ble_eq_true rfl) ⟨Nat.le_refl _, Nat.le_refl _⟩ dX_perform_366 (fun r u H locs hw hP hD hS => ?_)
  exact rt_i S hr hk hK hP hD hS (hw) dX_perform_369

set_option maxHeartbeats 4000000 in
set_option maxRecDepth 100000 in
theorem c_X_perform_40 (l : Launch) (D : va_G) (a : AX) (sz : Nat) (pc ac lk mq ma mb ir sw io dl ha rd sn md kf kb cn pf : Int32) (co ou : Nat → Int32) : MI l D (wx a) (tx a) sz yX_perform cX_perform 2 (some .int) 3 [.ref a.1, .int 40] (pc, ac, lk, mq, ma, mb, ir, sw, io, dl, ha, rd, sn, md, kf, kb, cn, pf, co, ou) (fun r u => (r, u) = mu40 (pc, ac, lk, mq, ma, mb, ir, sw, io, dl, ha, rd, sn, md, kf, kb, cn, pf, co, ou)) := by
  refine en_i RX rfl (by decide) (Nat.le_of_ble_eq_true rfl) ?_
  intro p e s m below meth c A ls S hr hk hA hN hK hP hD hS hl
  have hl : lv_has ls 2 [(0, .ref a.1), (1, .int 40)] := hl
  refine lv_iload_n S.1 S.2.1 dX_perform_0 rfl (lv_at hl 1 rfl) ?_
  refine lv_tableIn (off := 369) (tgt := 370) S.1 S.2.1 dX_perform_1 (by decide +kernel) (by decide +kernel) (by decide +kernel) (by decide) ?_
  refine lv_aload_n S.1 S.2.1 dX_perform_370 rfl (lv_at hl 0 rfl) ?_
  refine cl_i (As := []) (rest := []) S hN hK hP hD hS hA hl.1 (c_X_interrupt l D a _ pc ac lk mq ma mb ir sw io dl ha rd sn md kf kb cn pf co ou ) k_X_227 (rc_X hK hP) ⟨by decide, by decide⟩ rfl rfl (Nat.le_of_ble_eq_true rfl) ⟨Nat.le_refl _, Nat.le_refl _⟩ dX_perform_371 (fun r u H locs hw hP hD hS => ?_)
  exact rt_i S hr hk hK hP hD hS (hw) dX_perform_374

set_option maxHeartbeats 4000000 in
set_option maxRecDepth 100000 in
theorem c_X_perform_41 (l : Launch) (D : va_G) (a : AX) (sz : Nat) (pc ac lk mq ma mb ir sw io dl ha rd sn md kf kb cn pf : Int32) (co ou : Nat → Int32) : MI l D (wx a) (tx a) sz yX_perform cX_perform 2 (some .int) 3 [.ref a.1, .int 41] (pc, ac, lk, mq, ma, mb, ir, sw, io, dl, ha, rd, sn, md, kf, kb, cn, pf, co, ou) (fun r u => (r, u) = mu41 (pc, ac, lk, mq, ma, mb, ir, sw, io, dl, ha, rd, sn, md, kf, kb, cn, pf, co, ou)) := by
  refine en_i RX rfl (by decide) (Nat.le_of_ble_eq_true rfl) ?_
  intro p e s m below meth c A ls S hr hk hA hN hK hP hD hS hl
  have hl : lv_has ls 2 [(0, .ref a.1), (1, .int 41)] := hl
  refine lv_iload_n S.1 S.2.1 dX_perform_0 rfl (lv_at hl 1 rfl) ?_
  refine lv_tableIn (off := 374) (tgt := 375) S.1 S.2.1 dX_perform_1 (by decide +kernel) (by decide +kernel) (by decide +kernel) (by decide) ?_
  refine lv_aload_n S.1 S.2.1 dX_perform_375 rfl (lv_at hl 0 rfl) ?_
  refine cl_i (As := []) (rest := []) S hN hK hP hD hS hA hl.1 (c_X_storeAndGoBehind l D a _ pc ac lk mq ma mb ir sw io dl ha rd sn md kf kb cn pf co ou ) k_X_161 (rc_X hK hP) ⟨by decide, by decide⟩ rfl rfl (Nat.le_of_ble_eq_true rfl) ⟨Nat.le_refl _, Nat.le_refl _⟩ dX_perform_376 (fun r u H locs hw hP hD hS => ?_)
  exact rt_i S hr hk hK hP hD hS (hw) dX_perform_379
end
section
set_option maxHeartbeats 4000000 in
set_option maxRecDepth 100000 in
theorem c_X_perform (l : Launch) (D : va_G) (a : AX) (sz : Nat) (pc ac lk mq ma mb ir sw io dl ha rd sn md kf kb cn pf : Int32) (co ou : Nat → Int32) (n : Int32) (hsn : Sn n) (hn : a.2.2.2.2.2.2.2 ≤ 100) (hcn : ∃ k : Nat, k ≤ a.2.2.2.2.2.2.2 ∧ cn = nI k) (h37 : n = 37 → cn < (nI a.2.2.2.2.2.2.2)) : MI l D (wx a) (tx a) sz yX_perform cX_perform 2 (some .int) 3 [.ref a.1, .int n] (pc, ac, lk, mq, ma, mb, ir, sw, io, dl, ha, rd, sn, md, kf, kb, cn, pf, co, ou) (fun r u => (r, u) = mu n (pc, ac, lk, mq, ma, mb, ir, sw, io, dl, ha, rd, sn, md, kf, kb, cn, pf, co, ou)) := by
  unfold Sn at hsn
  rcases hsn with rfl | rfl | rfl | rfl | rfl | rfl | rfl | rfl | rfl | rfl | rfl | rfl | rfl | rfl | rfl | rfl | rfl | rfl | rfl | rfl | rfl | rfl | rfl | rfl | rfl | rfl | rfl | rfl | rfl | rfl | rfl | rfl | rfl | rfl | rfl | rfl
  · exact c_X_perform_0 l D a sz pc ac lk mq ma mb ir sw io dl ha rd sn md kf kb cn pf co ou
  · exact c_X_perform_1 l D a sz pc ac lk mq ma mb ir sw io dl ha rd sn md kf kb cn pf co ou
  · exact c_X_perform_2 l D a sz pc ac lk mq ma mb ir sw io dl ha rd sn md kf kb cn pf co ou
  · exact c_X_perform_3 l D a sz pc ac lk mq ma mb ir sw io dl ha rd sn md kf kb cn pf co ou
  · exact c_X_perform_4 l D a sz pc ac lk mq ma mb ir sw io dl ha rd sn md kf kb cn pf co ou
  · exact c_X_perform_5 l D a sz pc ac lk mq ma mb ir sw io dl ha rd sn md kf kb cn pf co ou
  · exact c_X_perform_8 l D a sz pc ac lk mq ma mb ir sw io dl ha rd sn md kf kb cn pf co ou
  · exact c_X_perform_9 l D a sz pc ac lk mq ma mb ir sw io dl ha rd sn md kf kb cn pf co ou
  · exact c_X_perform_10 l D a sz pc ac lk mq ma mb ir sw io dl ha rd sn md kf kb cn pf co ou
  · exact c_X_perform_11 l D a sz pc ac lk mq ma mb ir sw io dl ha rd sn md kf kb cn pf co ou
  · exact c_X_perform_12 l D a sz pc ac lk mq ma mb ir sw io dl ha rd sn md kf kb cn pf co ou
  · exact c_X_perform_13 l D a sz pc ac lk mq ma mb ir sw io dl ha rd sn md kf kb cn pf co ou
  · exact c_X_perform_15 l D a sz pc ac lk mq ma mb ir sw io dl ha rd sn md kf kb cn pf co ou
  · exact c_X_perform_16 l D a sz pc ac lk mq ma mb ir sw io dl ha rd sn md kf kb cn pf co ou
  · exact c_X_perform_17 l D a sz pc ac lk mq ma mb ir sw io dl ha rd sn md kf kb cn pf co ou
  · exact c_X_perform_18 l D a sz pc ac lk mq ma mb ir sw io dl ha rd sn md kf kb cn pf co ou
  · exact c_X_perform_19 l D a sz pc ac lk mq ma mb ir sw io dl ha rd sn md kf kb cn pf co ou
  · exact c_X_perform_20 l D a sz pc ac lk mq ma mb ir sw io dl ha rd sn md kf kb cn pf co ou
  · exact c_X_perform_21 l D a sz pc ac lk mq ma mb ir sw io dl ha rd sn md kf kb cn pf co ou
  · exact c_X_perform_22 l D a sz pc ac lk mq ma mb ir sw io dl ha rd sn md kf kb cn pf co ou
  · exact c_X_perform_23 l D a sz pc ac lk mq ma mb ir sw io dl ha rd sn md kf kb cn pf co ou
  · exact c_X_perform_24 l D a sz pc ac lk mq ma mb ir sw io dl ha rd sn md kf kb cn pf co ou
  · exact c_X_perform_25 l D a sz pc ac lk mq ma mb ir sw io dl ha rd sn md kf kb cn pf co ou
  · exact c_X_perform_26 l D a sz pc ac lk mq ma mb ir sw io dl ha rd sn md kf kb cn pf co ou
  · exact c_X_perform_27 l D a sz pc ac lk mq ma mb ir sw io dl ha rd sn md kf kb cn pf co ou
  · exact c_X_perform_28 l D a sz pc ac lk mq ma mb ir sw io dl ha rd sn md kf kb cn pf co ou
  · exact c_X_perform_30 l D a sz pc ac lk mq ma mb ir sw io dl ha rd sn md kf kb cn pf co ou
  · exact c_X_perform_31 l D a sz pc ac lk mq ma mb ir sw io dl ha rd sn md kf kb cn pf co ou
  · exact c_X_perform_32 l D a sz pc ac lk mq ma mb ir sw io dl ha rd sn md kf kb cn pf co ou
  · exact c_X_perform_33 l D a sz pc ac lk mq ma mb ir sw io dl ha rd sn md kf kb cn pf co ou
  · exact c_X_perform_34 l D a sz pc ac lk mq ma mb ir sw io dl ha rd sn md kf kb cn pf co ou
  · exact c_X_perform_35 l D a sz pc ac lk mq ma mb ir sw io dl ha rd sn md kf kb cn pf co ou
  · exact c_X_perform_36 l D a sz pc ac lk mq ma mb ir sw io dl ha rd sn md kf kb cn pf co ou
  · exact c_X_perform_37 l D a sz pc ac lk mq ma mb ir sw io dl ha rd sn md kf kb cn pf co ou hn hcn (h37 rfl)
  · exact c_X_perform_40 l D a sz pc ac lk mq ma mb ir sw io dl ha rd sn md kf kb cn pf co ou
  · exact c_X_perform_41 l D a sz pc ac lk mq ma mb ir sw io dl ha rd sn md kf kb cn pf co ou

set_option maxHeartbeats 4000000 in
set_option maxRecDepth 100000 in
theorem c_X_microStep (l : Launch) (D : va_G) (a : AX) (sz : Nat) (pc ac lk mq ma mb ir sw io dl ha rd sn md kf kb cn pf : Int32) (co ou : Nat → Int32) (hsn : Sn sn) (hn : a.2.2.2.2.2.2.2 ≤ 100) (hcn : ∃ k : Nat, k ≤ a.2.2.2.2.2.2.2 ∧ cn = nI k) : MI l D (wx a) (tx a) sz yX_microStep cX_microStep 1 (some .int) 4 [.ref a.1] (pc, ac, lk, mq, ma, mb, ir, sw, io, dl, ha, rd, sn, md, kf, kb, cn, pf, co, ou) (fun r u => (r, u) = ms a.2.2.2.2.2.2.2 (pc, ac, lk, mq, ma, mb, ir, sw, io, dl, ha, rd, sn, md, kf, kb, cn, pf, co, ou)) := by
  refine en_i RX rfl (by decide) (Nat.le_of_ble_eq_true rfl) ?_
  intro p e s m below meth c A ls S hr hk hA hN hK hP hD hS hl
  have hl : lv_has ls 1 [(0, .ref a.1)] := hl
  refine lv_aload_n S.1 S.2.1 dX_microStep_0 rfl (lv_at hl 0 rfl) ?_
  refine g_X_X_hasMicrocode S hK hP dX_microStep_1 ?_
  refine lv_if_ne (tgt := 9) S.1 S.2.1 dX_microStep_4 (by decide) (fun g1 => ?_) (fun g1 => ?_)
  · refine lv_aload_n S.1 S.2.1 dX_microStep_9 rfl (lv_at hl 0 rfl) ?_
    refine g_X_X_stepNumber S hK hP dX_microStep_10 ?_
    refine lv_if_ne (tgt := 25) S.1 S.2.1 dX_microStep_13 (by decide) (fun g2 => ?_) (fun g2 => ?_)
    · refine lv_aload_n S.1 S.2.1 dX_microStep_25 rfl (lv_at hl 0 rfl) ?_
      refine g_X_X_stepNumber S hK hP dX_microStep_26 ?_
      refine lv_bipush (v := 37) S.1 S.2.1 dX_microStep_29 (by decide) ?_
      refine lv_icmp_ne (tgt := 46) S.1 S.2.1 dX_microStep_31 (by decide) (fun g3 => ?_) (fun g3 => ?_)
      · refine lv_aload_n S.1 S.2.1 dX_microStep_46 rfl (lv_at hl 0 rfl) ?_
        refine lv_aload_n S.1 S.2.1 dX_microStep_47 rfl (lv_at hl 0 rfl) ?_
        refine lv_aload_n S.1 S.2.1 dX_microStep_48 rfl (lv_at hl 0 rfl) ?_
        refine g_X_X_stepNumber S hK hP dX_microStep_49 ?_
        refine cl_i (As := [.int sn]) (rest := [.ref a.1]) S hN hK hP hD hS hA hl.1 (c_X_perform l D a _ pc ac lk mq ma mb ir sw io dl ha rd sn md kf kb cn pf co ou sn hsn hn hcn (fun z => absurd z g3)) k_X_105 (rc_X hK hP) ⟨by decide, by decide⟩ rfl rfl (Nat.le_of_ble_eq_true rfl) ⟨Nat.le_refl _, Nat.le_refl _⟩ dX_microStep_52 (fun r u H locs hw hP hD hS => ?_)
        obtain ⟨pc1, ac1, lk1, mq1, ma1, mb1, ir1, sw1, io1, dl1, ha1, rd1, sn1, md1, kf1, kb1, cn1, pf1, co1, ou1⟩ := u
        refine p_X_X_stepNumber S hK hP hD hS dX_microStep_55 (fun H locs hP hD hS => ?_)
        refine lv_aload_n S.1 S.2.1 dX_microStep_58 rfl (lv_at hl 0 rfl) ?_
        refine lv_dup S.1 S.2.1 dX_microStep_59 rfl ?_
        refine g_X_X_microstepsMade S hK hP dX_microStep_60 ?_
        refine lv_iconst (v := 1) S.1 S.2.1 dX_microStep_63 (by decide) ?_
        refine lv_iadd S.1 S.2.1 dX_microStep_64 ?_
        refine p_X_X_microstepsMade S hK hP hD hS dX_microStep_65 (fun H locs hP hD hS => ?_)
        refine lv_aload_n S.1 S.2.1 dX_microStep_68 rfl (lv_at hl 0 rfl) ?_
        refine g_X_X_stepNumber S hK hP dX_microStep_69 ?_
        refine lv_if_ne (tgt := 79) S.1 S.2.1 dX_microStep_72 (by decide) (fun g4 => ?_) (fun g4 => ?_)
        · refine lv_iconst (v := 0) S.1 S.2.1 dX_microStep_79 (by decide) ?_
          exact rt_i S hr hk hK hP hD hS ((by rw [ms_go (by simp [g1, g2, g3]) (by simp [g1, g2, g3]) (by simp [g1, g2, g3]), ← hw]; simp [fin_, g4])) dX_microStep_80
        · refine lv_iconst (v := 1) S.1 S.2.1 dX_microStep_75 (by decide) ?_
          refine lv_goto (tgt := 80) S.1 S.2.1 dX_microStep_76 (by decide) ?_
          exact rt_i S hr hk hK hP hD hS ((by rw [ms_go (by simp [g1, g2, g3]) (by simp [g1, g2, g3]) (by simp [g1, g2, g3]), ← hw]; simp [fin_, g4])) dX_microStep_80
      · refine lv_aload_n S.1 S.2.1 dX_microStep_34 rfl (lv_at hl 0 rfl) ?_
        refine g_X_X_printer S hK hP dX_microStep_35 ?_
        refine cl_iN (As := []) (rest := []) S hN hK hP hD hS hA hl.1 (c_P_isFull l D a _ pc ac lk mq ma mb ir sw io dl ha rd sn md kf kb cn pf co ou ) k_X_101 (nw_X_101 hN) (rc_P hK hP) ⟨by decide, by decide⟩ rfl rfl (Nat.le_of_ble_eq_true rfl) ⟨Nat.le_refl _, Nat.le_refl _⟩ dX_microStep_38 (fun r u H locs hw hP hD hS => ?_)
        obtain ⟨g5, rfl, rfl⟩ | ⟨g6, rfl, rfl⟩ := hw
        · refine lv_if_eq (tgt := 46) S.1 S.2.1 dX_microStep_41 (by decide) (fun _ => ?_) (fun g7 => absurd (by decide) g7)
          refine lv_aload_n S.1 S.2.1 dX_microStep_46 rfl (lv_at hl 0 rfl) ?_
          refine lv_aload_n S.1 S.2.1 dX_microStep_47 rfl (lv_at hl 0 rfl) ?_
          refine lv_aload_n S.1 S.2.1 dX_microStep_48 rfl (lv_at hl 0 rfl) ?_
          refine g_X_X_stepNumber S hK hP dX_microStep_49 ?_
          refine cl_i (As := [.int sn]) (rest := [.ref a.1]) S hN hK hP hD hS hA hl.1 (c_X_perform l D a _ pc ac lk mq ma mb ir sw io dl ha rd sn md kf kb cn pf co ou sn hsn hn hcn (fun _ => g5)) k_X_105 (rc_X hK hP) ⟨by decide, by decide⟩ rfl rfl (Nat.le_of_ble_eq_true rfl) ⟨Nat.le_refl _, Nat.le_refl _⟩ dX_microStep_52 (fun r u H locs hw hP hD hS => ?_)
          obtain ⟨pc3, ac3, lk3, mq3, ma3, mb3, ir3, sw3, io3, dl3, ha3, rd3, sn3, md3, kf3, kb3, cn3, pf3, co3, ou3⟩ := u
          refine p_X_X_stepNumber S hK hP hD hS dX_microStep_55 (fun H locs hP hD hS => ?_)
          refine lv_aload_n S.1 S.2.1 dX_microStep_58 rfl (lv_at hl 0 rfl) ?_
          refine lv_dup S.1 S.2.1 dX_microStep_59 rfl ?_
          refine g_X_X_microstepsMade S hK hP dX_microStep_60 ?_
          refine lv_iconst (v := 1) S.1 S.2.1 dX_microStep_63 (by decide) ?_
          refine lv_iadd S.1 S.2.1 dX_microStep_64 ?_
          refine p_X_X_microstepsMade S hK hP hD hS dX_microStep_65 (fun H locs hP hD hS => ?_)
          refine lv_aload_n S.1 S.2.1 dX_microStep_68 rfl (lv_at hl 0 rfl) ?_
          refine g_X_X_stepNumber S hK hP dX_microStep_69 ?_
          refine lv_if_ne (tgt := 79) S.1 S.2.1 dX_microStep_72 (by decide) (fun g8 => ?_) (fun g8 => ?_)
          · refine lv_iconst (v := 0) S.1 S.2.1 dX_microStep_79 (by decide) ?_
            exact rt_i S hr hk hK hP hD hS ((by rw [ms_go (by simp [g1, g2, g3, g5]) (by simp [g1, g2, g3, g5]) (by simp [g1, g2, g3, g5]), ← hw]; simp [fin_, g8])) dX_microStep_80
          · refine lv_iconst (v := 1) S.1 S.2.1 dX_microStep_75 (by decide) ?_
            refine lv_goto (tgt := 80) S.1 S.2.1 dX_microStep_76 (by decide) ?_
            exact rt_i S hr hk hK hP hD hS ((by rw [ms_go (by simp [g1, g2, g3, g5]) (by simp [g1, g2, g3, g5]) (by simp [g1, g2, g3, g5]), ← hw]; simp [fin_, g8])) dX_microStep_80
        · refine lv_if_eq (tgt := 46) S.1 S.2.1 dX_microStep_41 (by decide) (fun g9 => absurd g9 (by decide)) (fun _ => ?_)
          refine lv_iconst (v := 4) S.1 S.2.1 dX_microStep_44 (by decide) ?_
          exact rt_i S hr hk hK hP hD hS ((by simp [ms, g1, g2, g3, g6])) dX_microStep_45
    · refine lv_aload_n S.1 S.2.1 dX_microStep_16 rfl (lv_at hl 0 rfl) ?_
      refine g_X_X_halted S hK hP dX_microStep_17 ?_
      refine lv_if_eq (tgt := 25) S.1 S.2.1 dX_microStep_20 (by decide) (fun g10 => ?_) (fun g10 => ?_)
      · refine lv_aload_n S.1 S.2.1 dX_microStep_25 rfl (lv_at hl 0 rfl) ?_
        refine g_X_X_stepNumber S hK hP dX_microStep_26 ?_
        refine lv_bipush (v := 37) S.1 S.2.1 dX_microStep_29 (by decide) ?_
        refine lv_icmp_ne (tgt := 46) S.1 S.2.1 dX_microStep_31 (by decide) (fun _ => ?_) (fun g11 => absurd (g2.symm.trans g11) (by decide))
        refine lv_aload_n S.1 S.2.1 dX_microStep_46 rfl (lv_at hl 0 rfl) ?_
        refine lv_aload_n S.1 S.2.1 dX_microStep_47 rfl (lv_at hl 0 rfl) ?_
        refine lv_aload_n S.1 S.2.1 dX_microStep_48 rfl (lv_at hl 0 rfl) ?_
        refine g_X_X_stepNumber S hK hP dX_microStep_49 ?_
        refine cl_i (As := [.int sn]) (rest := [.ref a.1]) S hN hK hP hD hS hA hl.1 (c_X_perform l D a _ pc ac lk mq ma mb ir sw io dl ha rd sn md kf kb cn pf co ou sn hsn hn hcn (fun z => absurd (g2.symm.trans z) (by decide))) k_X_105 (rc_X hK hP) ⟨by decide, by decide⟩ rfl rfl (Nat.le_of_ble_eq_true rfl) ⟨Nat.le_refl _, Nat.le_refl _⟩ dX_microStep_52 (fun r u H locs hw hP hD hS => ?_)
        obtain ⟨pc5, ac5, lk5, mq5, ma5, mb5, ir5, sw5, io5, dl5, ha5, rd5, sn5, md5, kf5, kb5, cn5, pf5, co5, ou5⟩ := u
        refine p_X_X_stepNumber S hK hP hD hS dX_microStep_55 (fun H locs hP hD hS => ?_)
        refine lv_aload_n S.1 S.2.1 dX_microStep_58 rfl (lv_at hl 0 rfl) ?_
        refine lv_dup S.1 S.2.1 dX_microStep_59 rfl ?_
        refine g_X_X_microstepsMade S hK hP dX_microStep_60 ?_
        refine lv_iconst (v := 1) S.1 S.2.1 dX_microStep_63 (by decide) ?_
        refine lv_iadd S.1 S.2.1 dX_microStep_64 ?_
        refine p_X_X_microstepsMade S hK hP hD hS dX_microStep_65 (fun H locs hP hD hS => ?_)
        refine lv_aload_n S.1 S.2.1 dX_microStep_68 rfl (lv_at hl 0 rfl) ?_
        refine g_X_X_stepNumber S hK hP dX_microStep_69 ?_
        refine lv_if_ne (tgt := 79) S.1 S.2.1 dX_microStep_72 (by decide) (fun g12 => ?_) (fun g12 => ?_)
        · refine lv_iconst (v := 0) S.1 S.2.1 dX_microStep_79 (by decide) ?_
          exact rt_i S hr hk hK hP hD hS ((by rw [ms_go (by simp [g1, g2, g10]) (by simp [g1, g2, g10]) (by simp [g1, g2, g10]), ← hw]; simp [fin_, g12])) dX_microStep_80
        · refine lv_iconst (v := 1) S.1 S.2.1 dX_microStep_75 (by decide) ?_
          refine lv_goto (tgt := 80) S.1 S.2.1 dX_microStep_76 (by decide) ?_
          exact rt_i S hr hk hK hP hD hS ((by rw [ms_go (by simp [g1, g2, g10]) (by simp [g1, g2, g10]) (by simp [g1, g2, g10]), ← hw]; simp [fin_, g12])) dX_microStep_80
      · refine lv_iconst (v := 2) S.1 S.2.1 dX_microStep_23 (by decide) ?_
        exact rt_i S hr hk hK hP hD hS ((by simp [ms, g1, g2, g10])) dX_microStep_24
  · refine lv_iconst (v := 3) S.1 S.2.1 dX_microStep_7 (by decide) ?_
    exact rt_i S hr hk hK hP hD hS ((by simp [ms, g1])) dX_microStep_8
end
section
set_option maxHeartbeats 4000000 in
set_option maxRecDepth 100000 in
theorem c_X_init (l : Launch) (D : va_G) (a : AX) (sz : Nat) (pc ac lk mq ma mb ir sw io dl ha rd sn md kf kb cn pf : Int32) (co ou : Nat → Int32) : MV l D (wx a) (tx a) sz yX_init_ cX_init_ 1 1 [.ref a.1] (pc, ac, lk, mq, ma, mb, ir, sw, io, dl, ha, rd, sn, md, kf, kb, cn, pf, co, ou) (fun u => u = (0, 0, 0, 0, 0, 0, 0, sw, 0, 0, 0, 1, 0, 0, 0, 0, 0, 0, co, ou)) := by
  refine en_v RX rfl (by decide) (Nat.le_of_ble_eq_true rfl) ?_
  intro p e s m below meth c A ls S hr hk hA hN hK hP hD hS hl
  have hl : lv_has ls 1 [(0, .ref a.1)] := hl
  refine lv_aload_n S.1 S.2.1 dX_init__0 rfl (lv_at hl 0 rfl) ?_
  refine lv_iconst (v := 1) S.1 S.2.1 dX_init__1 (by decide) ?_
  refine p_X_X_hasMicrocode S hK hP hD hS rfl rfl dX_init__2 (fun H locs hP hD hS => ?_)
  refine lv_aload_n S.1 S.2.1 dX_init__5 rfl (lv_at hl 0 rfl) ?_
  refine lv_iconst (v := 0) S.1 S.2.1 dX_init__6 (by decide) ?_
  refine p_X_X_pc S hK hP hD hS dX_init__7 (fun H locs hP hD hS => ?_)
  refine lv_aload_n S.1 S.2.1 dX_init__10 rfl (lv_at hl 0 rfl) ?_
  refine lv_iconst (v := 0) S.1 S.2.1 dX_init__11 (by decide) ?_
  refine p_X_X_ac S hK hP hD hS dX_init__12 (fun H locs hP hD hS => ?_)
  refine lv_aload_n S.1 S.2.1 dX_init__15 rfl (lv_at hl 0 rfl) ?_
  refine lv_iconst (v := 0) S.1 S.2.1 dX_init__16 (by decide) ?_
  refine p_X_X_link S hK hP hD hS dX_init__17 (fun H locs hP hD hS => ?_)
  refine lv_aload_n S.1 S.2.1 dX_init__20 rfl (lv_at hl 0 rfl) ?_
  refine lv_iconst (v := 0) S.1 S.2.1 dX_init__21 (by decide) ?_
  refine p_X_X_mq S hK hP hD hS dX_init__22 (fun H locs hP hD hS => ?_)
  refine lv_aload_n S.1 S.2.1 dX_init__25 rfl (lv_at hl 0 rfl) ?_
  refine lv_iconst (v := 0) S.1 S.2.1 dX_init__26 (by decide) ?_
  refine p_X_X_ma S hK hP hD hS dX_init__27 (fun H locs hP hD hS => ?_)
  refine lv_aload_n S.1 S.2.1 dX_init__30 rfl (lv_at hl 0 rfl) ?_
  refine lv_iconst (v := 0) S.1 S.2.1 dX_init__31 (by decide) ?_
  refine p_X_X_mb S hK hP hD hS dX_init__32 (fun H locs hP hD hS => ?_)
  refine lv_aload_n S.1 S.2.1 dX_init__35 rfl (lv_at hl 0 rfl) ?_
  refine lv_iconst (v := 0) S.1 S.2.1 dX_init__36 (by decide) ?_
  refine p_X_X_ir S hK hP hD hS dX_init__37 (fun H locs hP hD hS => ?_)
  refine lv_aload_n S.1 S.2.1 dX_init__40 rfl (lv_at hl 0 rfl) ?_
  refine lv_iconst (v := 0) S.1 S.2.1 dX_init__41 (by decide) ?_
  refine p_X_X_ion S hK hP hD hS rfl rfl dX_init__42 (fun H locs hP hD hS => ?_)
  refine lv_aload_n S.1 S.2.1 dX_init__45 rfl (lv_at hl 0 rfl) ?_
  refine lv_iconst (v := 0) S.1 S.2.1 dX_init__46 (by decide) ?_
  refine p_X_X_delay S hK hP hD hS rfl rfl dX_init__47 (fun H locs hP hD hS => ?_)
  refine lv_aload_n S.1 S.2.1 dX_init__50 rfl (lv_at hl 0 rfl) ?_
  refine lv_iconst (v := 0) S.1 S.2.1 dX_init__51 (by decide) ?_
  refine p_X_X_halted S hK hP hD hS rfl rfl dX_init__52 (fun H locs hP hD hS => ?_)
  refine lv_aload_n S.1 S.2.1 dX_init__55 rfl (lv_at hl 0 rfl) ?_
  refine lv_iconst (v := 0) S.1 S.2.1 dX_init__56 (by decide) ?_
  refine p_X_X_stepNumber S hK hP hD hS dX_init__57 (fun H locs hP hD hS => ?_)
  refine lv_aload_n S.1 S.2.1 dX_init__60 rfl (lv_at hl 0 rfl) ?_
  refine lv_iconst (v := 0) S.1 S.2.1 dX_init__61 (by decide) ?_
  refine p_X_X_microstepsMade S hK hP hD hS dX_init__62 (fun H locs hP hD hS => ?_)
  refine lv_aload_n S.1 S.2.1 dX_init__65 rfl (lv_at hl 0 rfl) ?_
  refine g_X_X_keyboard S hK hP dX_init__66 ?_
  refine cl_vN (As := []) (rest := []) S hN hK hP hD hS hA hl.1 (c_K_reset l D a _ 0 0 0 0 0 0 0 sw 0 0 0 1 0 0 kf kb cn pf co ou ) k_X_79 (nw_X_79 hN) (rc_K hK hP) ⟨by decide, by decide⟩ rfl rfl (Nat.le_of_ble_eq_true rfl) ⟨Nat.le_refl _, Nat.le_refl _⟩ dX_init__69 (fun u H locs hw hP hD hS => ?_)
  obtain rfl := hw
  refine lv_aload_n S.1 S.2.1 dX_init__72 rfl (lv_at hl 0 rfl) ?_
  refine g_X_X_printer S hK hP dX_init__73 ?_
  refine cl_vN (As := []) (rest := []) S hN hK hP hD hS hA hl.1 (c_P_reset l D a _ 0 0 0 0 0 0 0 sw 0 0 0 1 0 0 0 0 cn pf co ou ) k_X_82 (nw_X_82 hN) (rc_P hK hP) ⟨by decide, by decide⟩ rfl rfl (Nat.le_of_ble_eq_true rfl) ⟨Nat.le_refl _, Nat.le_refl _⟩ dX_init__76 (fun u H locs hw hP hD hS => ?_)
  obtain rfl := hw
  exact rt_v S hr hk hK hP hD hS (rfl) dX_init__79

set_option maxHeartbeats 4000000 in
set_option maxRecDepth 100000 in
theorem c_X_deposit (l : Launch) (D : va_G) (a : AX) (sz : Nat) (pc ac lk mq ma mb ir sw io dl ha rd sn md kf kb cn pf : Int32) (co ou : Nat → Int32) (x v : Int32) : MI l D (wx a) (tx a) sz yX_deposit cX_deposit 3 (some .boolean) 1 [.ref a.1, .int x, .int v] (pc, ac, lk, mq, ma, mb, ir, sw, io, dl, ha, rd, sn, md, kf, kb, cn, pf, co, ou) (fun r u => ((x < 0) ∧ r = 0 ∧ u = (pc, ac, lk, mq, ma, mb, ir, sw, io, dl, ha, rd, sn, md, kf, kb, cn, pf, co, ou)) ∨ ((¬ x < 0) ∧ (4096 ≤ x) ∧ r = 0 ∧ u = (pc, ac, lk, mq, ma, mb, ir, sw, io, dl, ha, rd, sn, md, kf, kb, cn, pf, co, ou)) ∨ ((¬ x < 0) ∧ (¬ 4096 ≤ x) ∧ r = 1 ∧ u = (pc, ac, lk, mq, ma, mb, ir, sw, io, dl, ha, rd, sn, md, kf, kb, cn, pf, (upd co (x &&& 4095).toNatClampNeg (v &&& 4095)), ou))) := by
  refine en_i RX rfl (by decide) (Nat.le_of_ble_eq_true rfl) ?_
  intro p e s m below meth c A ls S hr hk hA hN hK hP hD hS hl
  have hl : lv_has ls 3 [(0, .ref a.1), (1, .int x), (2, .int v)] := hl
  refine lv_iload_n S.1 S.2.1 dX_deposit_0 rfl (lv_at hl 1 rfl) ?_
  refine cl_iS (As := [.int x]) (rest := []) S hN hK hP hD hS hA hl.1 (c_X_isAddress l D a _ pc ac lk mq ma mb ir sw io dl ha rd sn md kf kb cn pf co ou x) k_X_83 ⟨by decide, by decide⟩ rfl rfl (Nat.le_of_ble_eq_true rfl) ⟨Nat.le_refl _, Nat.le_refl _⟩ dX_deposit_1 (fun r u H locs hw hP hD hS => ?_)
  obtain ⟨g1, rfl, rfl⟩ | ⟨g2, g3, rfl, rfl⟩ | ⟨g4, g5, rfl, rfl⟩ := hw
  · refine lv_if_ne (tgt := 9) S.1 S.2.1 dX_deposit_4 (by decide) (fun g6 => absurd (by decide) g6) (fun _ => ?_)
    refine lv_iconst (v := 0) S.1 S.2.1 dX_deposit_7 (by decide) ?_
    exact rt_z S hr hk hK hP hD hS rfl (Or.inl (⟨g1, rfl, rfl⟩)) dX_deposit_8
  · refine lv_if_ne (tgt := 9) S.1 S.2.1 dX_deposit_4 (by decide) (fun g7 => absurd (by decide) g7) (fun _ => ?_)
    refine lv_iconst (v := 0) S.1 S.2.1 dX_deposit_7 (by decide) ?_
    exact rt_z S hr hk hK hP hD hS rfl (Or.inr (Or.inl (⟨g2, g3, rfl, rfl⟩))) dX_deposit_8
  · refine lv_if_ne (tgt := 9) S.1 S.2.1 dX_deposit_4 (by decide) (fun _ => ?_) (fun g8 => absurd g8 (by decide))
    refine lv_aload_n S.1 S.2.1 dX_deposit_9 rfl (lv_at hl 0 rfl) ?_
    refine lv_iload_n S.1 S.2.1 dX_deposit_10 rfl (lv_at hl 1 rfl) ?_
    refine lv_iload_n S.1 S.2.1 dX_deposit_11 rfl (lv_at hl 2 rfl) ?_
    refine cl_v (As := [.int x, .int v]) (rest := []) S hN hK hP hD hS hA hl.1 (c_X_write l D a _ pc ac lk mq ma mb ir sw io dl ha rd sn md kf kb cn pf co ou x v) k_X_87 (rc_X hK hP) ⟨by decide, by decide⟩ rfl rfl (Nat.le_of_ble_eq_true rfl) ⟨Nat.le_refl _, Nat.le_refl _⟩ dX_deposit_12 (fun u H locs hw hP hD hS => ?_)
    obtain rfl := hw
    refine lv_iconst (v := 1) S.1 S.2.1 dX_deposit_15 (by decide) ?_
    exact rt_z S hr hk hK hP hD hS rfl (Or.inr (Or.inr (⟨g4, g5, rfl, rfl⟩))) dX_deposit_16

set_option maxHeartbeats 4000000 in
set_option maxRecDepth 100000 in
theorem c_X_examine (l : Launch) (D : va_G) (a : AX) (sz : Nat) (pc ac lk mq ma mb ir sw io dl ha rd sn md kf kb cn pf : Int32) (co ou : Nat → Int32) (x : Int32) : MI l D (wx a) (tx a) sz yX_examine cX_examine 2 (some .int) 1 [.ref a.1, .int x] (pc, ac, lk, mq, ma, mb, ir, sw, io, dl, ha, rd, sn, md, kf, kb, cn, pf, co, ou) (fun r u => ((x < 0) ∧ r = (-1) ∧ u = (pc, ac, lk, mq, ma, mb, ir, sw, io, dl, ha, rd, sn, md, kf, kb, cn, pf, co, ou)) ∨ ((¬ x < 0) ∧ (4096 ≤ x) ∧ r = (-1) ∧ u = (pc, ac, lk, mq, ma, mb, ir, sw, io, dl, ha, rd, sn, md, kf, kb, cn, pf, co, ou)) ∨ ((¬ x < 0) ∧ (¬ 4096 ≤ x) ∧ r = (co (x &&& 4095).toNatClampNeg) ∧ u = (pc, ac, lk, mq, ma, mb, ir, sw, io, dl, ha, rd, sn, md, kf, kb, cn, pf, co, ou))) := by
  refine en_i RX rfl (by decide) (Nat.le_of_ble_eq_true rfl) ?_
  intro p e s m below meth c A ls S hr hk hA hN hK hP hD hS hl
  have hl : lv_has ls 2 [(0, .ref a.1), (1, .int x)] := hl
  refine lv_iload_n S.1 S.2.1 dX_examine_0 rfl (lv_at hl 1 rfl) ?_
  refine cl_iS (As := [.int x]) (rest := []) S hN hK hP hD hS hA hl.1 (c_X_isAddress l D a _ pc ac lk mq ma mb ir sw io dl ha rd sn md kf kb cn pf co ou x) k_X_83 ⟨by decide, by decide⟩ rfl rfl (Nat.le_of_ble_eq_true rfl) ⟨Nat.le_refl _, Nat.le_refl _⟩ dX_examine_1 (fun r u H locs hw hP hD hS => ?_)
  obtain ⟨g1, rfl, rfl⟩ | ⟨g2, g3, rfl, rfl⟩ | ⟨g4, g5, rfl, rfl⟩ := hw
  · refine lv_if_eq (tgt := 15) S.1 S.2.1 dX_examine_4 (by decide) (fun _ => ?_) (fun g6 => absurd (by decide) g6)
    refine lv_iconst (v := (-1)) S.1 S.2.1 dX_examine_15 (by decide) ?_
    exact rt_i S hr hk hK hP hD hS (Or.inl (⟨g1, rfl, rfl⟩)) dX_examine_16
  · refine lv_if_eq (tgt := 15) S.1 S.2.1 dX_examine_4 (by decide) (fun _ => ?_) (fun g7 => absurd (by decide) g7)
    refine lv_iconst (v := (-1)) S.1 S.2.1 dX_examine_15 (by decide) ?_
    exact rt_i S hr hk hK hP hD hS (Or.inr (Or.inl (⟨g2, g3, rfl, rfl⟩))) dX_examine_16
  · refine lv_if_eq (tgt := 15) S.1 S.2.1 dX_examine_4 (by decide) (fun g8 => absurd g8 (by decide)) (fun _ => ?_)
    refine lv_aload_n S.1 S.2.1 dX_examine_7 rfl (lv_at hl 0 rfl) ?_
    refine lv_iload_n S.1 S.2.1 dX_examine_8 rfl (lv_at hl 1 rfl) ?_
    refine cl_i (As := [.int x]) (rest := []) S hN hK hP hD hS hA hl.1 (c_X_read l D a _ pc ac lk mq ma mb ir sw io dl ha rd sn md kf kb cn pf co ou x) k_X_91 (rc_X hK hP) ⟨by decide, by decide⟩ rfl rfl (Nat.le_of_ble_eq_true rfl) ⟨Nat.le_refl _, Nat.le_refl _⟩ dX_examine_9 (fun r u H locs hw hP hD hS => ?_)
    obtain ⟨rfl, rfl⟩ := hw
    refine lv_goto (tgt := 16) S.1 S.2.1 dX_examine_12 (by decide) ?_
    exact rt_i S hr hk hK hP hD hS (Or.inr (Or.inr (⟨g4, g5, rfl, rfl⟩))) dX_examine_16

set_option maxHeartbeats 4000000 in
set_option maxRecDepth 100000 in
theorem c_X_start (l : Launch) (D : va_G) (a : AX) (sz : Nat) (pc ac lk mq ma mb ir sw io dl ha rd sn md kf kb cn pf : Int32) (co ou : Nat → Int32) (x : Int32) : MI l D (wx a) (tx a) sz yX_start cX_start 2 (some .boolean) 0 [.ref a.1, .int x] (pc, ac, lk, mq, ma, mb, ir, sw, io, dl, ha, rd, sn, md, kf, kb, cn, pf, co, ou) (fun r u => ((rd = 0) ∧ r = 0 ∧ u = (pc, ac, lk, mq, ma, mb, ir, sw, io, dl, ha, rd, sn, md, kf, kb, cn, pf, co, ou)) ∨ ((¬ rd = 0) ∧ (¬ sn = 0) ∧ r = 0 ∧ u = (pc, ac, lk, mq, ma, mb, ir, sw, io, dl, ha, rd, sn, md, kf, kb, cn, pf, co, ou)) ∨ ((¬ rd = 0) ∧ (sn = 0) ∧ r = 1 ∧ u = ((x &&& 4095), ac, lk, mq, ma, mb, ir, sw, io, dl, 0, rd, sn, md, kf, kb, cn, pf, co, ou))) := by
  refine en_i RX rfl (by decide) (Nat.le_of_ble_eq_true rfl) ?_
  intro p e s m below meth c A ls S hr hk hA hN hK hP hD hS hl
  have hl : lv_has ls 2 [(0, .ref a.1), (1, .int x)] := hl
  refine lv_aload_n S.1 S.2.1 dX_start_0 rfl (lv_at hl 0 rfl) ?_
  refine g_X_X_hasMicrocode S hK hP dX_start_1 ?_
  refine lv_if_eq (tgt := 14) S.1 S.2.1 dX_start_4 (by decide) (fun g1 => ?_) (fun g1 => ?_)
  · refine lv_iconst (v := 0) S.1 S.2.1 dX_start_14 (by decide) ?_
    exact rt_z S hr hk hK hP hD hS rfl (Or.inl (⟨g1, rfl, rfl⟩)) dX_start_15
  · refine lv_aload_n S.1 S.2.1 dX_start_7 rfl (lv_at hl 0 rfl) ?_
    refine g_X_X_stepNumber S hK hP dX_start_8 ?_
    refine lv_if_eq (tgt := 16) S.1 S.2.1 dX_start_11 (by decide) (fun g2 => ?_) (fun g2 => ?_)
    · refine lv_aload_n S.1 S.2.1 dX_start_16 rfl (lv_at hl 0 rfl) ?_
      refine lv_iload_n S.1 S.2.1 dX_start_17 rfl (lv_at hl 1 rfl) ?_
      refine lv_sipush (v := 4095) S.1 S.2.1 dX_start_18 (by decide) ?_
      refine lv_iand S.1 S.2.1 dX_start_21 ?_
      refine p_X_X_pc S hK hP hD hS dX_start_22 (fun H locs hP hD hS => ?_)
      refine lv_aload_n S.1 S.2.1 dX_start_25 rfl (lv_at hl 0 rfl) ?_
      refine lv_iconst (v := 0) S.1 S.2.1 dX_start_26 (by decide) ?_
      refine p_X_X_halted S hK hP hD hS rfl rfl dX_start_27 (fun H locs hP hD hS => ?_)
      refine lv_iconst (v := 1) S.1 S.2.1 dX_start_30 (by decide) ?_
      exact rt_z S hr hk hK hP hD hS rfl (Or.inr (Or.inr (⟨g1, g2, rfl, rfl⟩))) dX_start_31
    · refine lv_iconst (v := 0) S.1 S.2.1 dX_start_14 (by decide) ?_
      exact rt_z S hr hk hK hP hD hS rfl (Or.inr (Or.inl (⟨g1, g2, rfl, rfl⟩))) dX_start_15

set_option maxHeartbeats 4000000 in
set_option maxRecDepth 100000 in
theorem c_X_switches (l : Launch) (D : va_G) (a : AX) (sz : Nat) (pc ac lk mq ma mb ir sw io dl ha rd sn md kf kb cn pf : Int32) (co ou : Nat → Int32) (x : Int32) : MV l D (wx a) (tx a) sz yX_switches cX_switches 2 0 [.ref a.1, .int x] (pc, ac, lk, mq, ma, mb, ir, sw, io, dl, ha, rd, sn, md, kf, kb, cn, pf, co, ou) (fun u => u = (pc, ac, lk, mq, ma, mb, ir, (x &&& 4095), io, dl, ha, rd, sn, md, kf, kb, cn, pf, co, ou)) := by
  refine en_v RX rfl (by decide) (Nat.le_of_ble_eq_true rfl) ?_
  intro p e s m below meth c A ls S hr hk hA hN hK hP hD hS hl
  have hl : lv_has ls 2 [(0, .ref a.1), (1, .int x)] := hl
  refine lv_aload_n S.1 S.2.1 dX_switches_0 rfl (lv_at hl 0 rfl) ?_
  refine lv_iload_n S.1 S.2.1 dX_switches_1 rfl (lv_at hl 1 rfl) ?_
  refine lv_sipush (v := 4095) S.1 S.2.1 dX_switches_2 (by decide) ?_
  refine lv_iand S.1 S.2.1 dX_switches_5 ?_
  refine p_X_X_switchWord S hK hP hD hS dX_switches_6 (fun H locs hP hD hS => ?_)
  exact rt_v S hr hk hK hP hD hS (rfl) dX_switches_9

set_option maxHeartbeats 4000000 in
set_option maxRecDepth 100000 in
theorem c_X_key (l : Launch) (D : va_G) (a : AX) (sz : Nat) (pc ac lk mq ma mb ir sw io dl ha rd sn md kf kb cn pf : Int32) (co ou : Nat → Int32) (x : Int32) : MV l D (wx a) (tx a) sz yX_key cX_key 2 1 [.ref a.1, .int x] (pc, ac, lk, mq, ma, mb, ir, sw, io, dl, ha, rd, sn, md, kf, kb, cn, pf, co, ou) (fun u => u = (pc, ac, lk, mq, ma, mb, ir, sw, io, dl, ha, rd, sn, md, 1, (x &&& 255), cn, pf, co, ou)) := by
  refine en_v RX rfl (by decide) (Nat.le_of_ble_eq_true rfl) ?_
  intro p e s m below meth c A ls S hr hk hA hN hK hP hD hS hl
  have hl : lv_has ls 2 [(0, .ref a.1), (1, .int x)] := hl
  refine lv_aload_n S.1 S.2.1 dX_key_0 rfl (lv_at hl 0 rfl) ?_
  refine g_X_X_keyboard S hK hP dX_key_1 ?_
  refine lv_iload_n S.1 S.2.1 dX_key_4 rfl (lv_at hl 1 rfl) ?_
  refine cl_vN (As := [.int x]) (rest := []) S hN hK hP hD hS hA hl.1 (c_K_press l D a _ pc ac lk mq ma mb ir sw io dl ha rd sn md kf kb cn pf co ou x) k_X_98 (nw_X_98 hN) (rc_K hK hP) ⟨by decide, by decide⟩ rfl rfl (Nat.le_of_ble_eq_true rfl) ⟨Nat.le_refl _, Nat.le_refl _⟩ dX_key_5 (fun u H locs hw hP hD hS => ?_)
  obtain rfl := hw
  exact rt_v S hr hk hK hP hD hS (rfl) dX_key_8

set_option maxHeartbeats 4000000 in
set_option maxRecDepth 100000 in
theorem c_X_look (l : Launch) (D : va_G) (a : AX) (sz : Nat) (pc ac lk mq ma mb ir sw io dl ha rd sn md kf kb cn pf : Int32) (co ou : Nat → Int32) (x : Int32) : MI l D (wx a) (tx a) sz yX_look cX_look 2 (some .int) 1 [.ref a.1, .int x] (pc, ac, lk, mq, ma, mb, ir, sw, io, dl, ha, rd, sn, md, kf, kb, cn, pf, co, ou) (fun r u => ((x = 0) ∧ r = pc ∧ u = (pc, ac, lk, mq, ma, mb, ir, sw, io, dl, ha, rd, sn, md, kf, kb, cn, pf, co, ou)) ∨ ((x = 1) ∧ r = ac ∧ u = (pc, ac, lk, mq, ma, mb, ir, sw, io, dl, ha, rd, sn, md, kf, kb, cn, pf, co, ou)) ∨ ((x = 2) ∧ r = lk ∧ u = (pc, ac, lk, mq, ma, mb, ir, sw, io, dl, ha, rd, sn, md, kf, kb, cn, pf, co, ou)) ∨ ((x = 3) ∧ r = mq ∧ u = (pc, ac, lk, mq, ma, mb, ir, sw, io, dl, ha, rd, sn, md, kf, kb, cn, pf, co, ou)) ∨ ((x = 4) ∧ r = ma ∧ u = (pc, ac, lk, mq, ma, mb, ir, sw, io, dl, ha, rd, sn, md, kf, kb, cn, pf, co, ou)) ∨ ((x = 5) ∧ r = mb ∧ u = (pc, ac, lk, mq, ma, mb, ir, sw, io, dl, ha, rd, sn, md, kf, kb, cn, pf, co, ou)) ∨ ((x = 6) ∧ r = ir ∧ u = (pc, ac, lk, mq, ma, mb, ir, sw, io, dl, ha, rd, sn, md, kf, kb, cn, pf, co, ou)) ∨ ((x = 7) ∧ r = sn ∧ u = (pc, ac, lk, mq, ma, mb, ir, sw, io, dl, ha, rd, sn, md, kf, kb, cn, pf, co, ou)) ∨ ((x = 8) ∧ r = (((((if io = 0 then 0 else 1) + (if dl = 0 then 0 else 2)) + (if ha = 0 then 0 else 4)) + (if kf = 0 then 0 else 8)) + (if pf = 0 then 0 else 16)) ∧ u = (pc, ac, lk, mq, ma, mb, ir, sw, io, dl, ha, rd, sn, md, kf, kb, cn, pf, co, ou)) ∨ ((x = 9) ∧ r = kb ∧ u = (pc, ac, lk, mq, ma, mb, ir, sw, io, dl, ha, rd, sn, md, kf, kb, cn, pf, co, ou)) ∨ ((x = 10) ∧ r = md ∧ u = (pc, ac, lk, mq, ma, mb, ir, sw, io, dl, ha, rd, sn, md, kf, kb, cn, pf, co, ou)) ∨ ((¬ x = 0) ∧ (¬ x = 1) ∧ (¬ x = 2) ∧ (¬ x = 3) ∧ (¬ x = 4) ∧ (¬ x = 5) ∧ (¬ x = 6) ∧ (¬ x = 7) ∧ (¬ x = 8) ∧ (¬ x = 9) ∧ (¬ x = 10) ∧ r = (-1) ∧ u = (pc, ac, lk, mq, ma, mb, ir, sw, io, dl, ha, rd, sn, md, kf, kb, cn, pf, co, ou))) := by
  refine en_i RX rfl (by decide) (Nat.le_of_ble_eq_true rfl) ?_
  intro p e s m below meth c A ls S hr hk hA hN hK hP hD hS hl
  have hl : lv_has ls 2 [(0, .ref a.1), (1, .int x)] := hl
  refine lv_iload_n S.1 S.2.1 dX_look_0 rfl (lv_at hl 1 rfl) ?_
  by_cases g1 : x = 0
  · refine lv_tableIn (off := 59) (tgt := 60) S.1 S.2.1 dX_look_1 (by rw [g1]; decide +kernel) (by rw [g1]; decide +kernel) (by rw [g1]; decide +kernel) (by decide) ?_
    refine lv_aload_n S.1 S.2.1 dX_look_60 rfl (lv_at hl 0 rfl) ?_
    refine g_X_X_pc S hK hP dX_look_61 ?_
    exact rt_i S hr hk hK hP hD hS (Or.inl (⟨g1, rfl, rfl⟩)) dX_look_64
  by_cases g2 : x = 1
  · refine lv_tableIn (off := 64) (tgt := 65) S.1 S.2.1 dX_look_1 (by rw [g2]; decide +kernel) (by rw [g2]; decide +kernel) (by rw [g2]; decide +kernel) (by decide) ?_
    refine lv_aload_n S.1 S.2.1 dX_look_65 rfl (lv_at hl 0 rfl) ?_
    refine g_X_X_ac S hK hP dX_look_66 ?_
    exact rt_i S hr hk hK hP hD hS (Or.inr (Or.inl (⟨g2, rfl, rfl⟩))) dX_look_69
  by_cases g3 : x = 2
  · refine lv_tableIn (off := 69) (tgt := 70) S.1 S.2.1 dX_look_1 (by rw [g3]; decide +kernel) (by rw [g3]; decide +kernel) (by rw [g3]; decide +kernel) (by decide) ?_
    refine lv_aload_n S.1 S.2.1 dX_look_70 rfl (lv_at hl 0 rfl) ?_
    refine g_X_X_link S hK hP dX_look_71 ?_
    exact rt_i S hr hk hK hP hD hS (Or.inr (Or.inr (Or.inl (⟨g3, rfl, rfl⟩)))) dX_look_74
  by_cases g4 : x = 3
  · refine lv_tableIn (off := 74) (tgt := 75) S.1 S.2.1 dX_look_1 (by rw [g4]; decide +kernel) (by rw [g4]; decide +kernel) (by rw [g4]; decide +kernel) (by decide) ?_
    refine lv_aload_n S.1 S.2.1 dX_look_75 rfl (lv_at hl 0 rfl) ?_
    refine g_X_X_mq S hK hP dX_look_76 ?_
    exact rt_i S hr hk hK hP hD hS (Or.inr (Or.inr (Or.inr (Or.inl (⟨g4, rfl, rfl⟩))))) dX_look_79
  by_cases g5 : x = 4
  · refine lv_tableIn (off := 79) (tgt := 80) S.1 S.2.1 dX_look_1 (by rw [g5]; decide +kernel) (by rw [g5]; decide +kernel) (by rw [g5]; decide +kernel) (by decide) ?_
    refine lv_aload_n S.1 S.2.1 dX_look_80 rfl (lv_at hl 0 rfl) ?_
    refine g_X_X_ma S hK hP dX_look_81 ?_
    exact rt_i S hr hk hK hP hD hS (Or.inr (Or.inr (Or.inr (Or.inr (Or.inl (⟨g5, rfl, rfl⟩)))))) dX_look_84
  by_cases g6 : x = 5
  · refine lv_tableIn (off := 84) (tgt := 85) S.1 S.2.1 dX_look_1 (by rw [g6]; decide +kernel) (by rw [g6]; decide +kernel) (by rw [g6]; decide +kernel) (by decide) ?_
    refine lv_aload_n S.1 S.2.1 dX_look_85 rfl (lv_at hl 0 rfl) ?_
    refine g_X_X_mb S hK hP dX_look_86 ?_
    exact rt_i S hr hk hK hP hD hS (Or.inr (Or.inr (Or.inr (Or.inr (Or.inr (Or.inl (⟨g6, rfl, rfl⟩))))))) dX_look_89
  by_cases g7 : x = 6
  · refine lv_tableIn (off := 89) (tgt := 90) S.1 S.2.1 dX_look_1 (by rw [g7]; decide +kernel) (by rw [g7]; decide +kernel) (by rw [g7]; decide +kernel) (by decide) ?_
    refine lv_aload_n S.1 S.2.1 dX_look_90 rfl (lv_at hl 0 rfl) ?_
    refine g_X_X_ir S hK hP dX_look_91 ?_
    exact rt_i S hr hk hK hP hD hS (Or.inr (Or.inr (Or.inr (Or.inr (Or.inr (Or.inr (Or.inl (⟨g7, rfl, rfl⟩)))))))) dX_look_94
  by_cases g8 : x = 7
  · refine lv_tableIn (off := 94) (tgt := 95) S.1 S.2.1 dX_look_1 (by rw [g8]; decide +kernel) (by rw [g8]; decide +kernel) (by rw [g8]; decide +kernel) (by decide) ?_
    refine lv_aload_n S.1 S.2.1 dX_look_95 rfl (lv_at hl 0 rfl) ?_
    refine g_X_X_stepNumber S hK hP dX_look_96 ?_
    exact rt_i S hr hk hK hP hD hS (Or.inr (Or.inr (Or.inr (Or.inr (Or.inr (Or.inr (Or.inr (Or.inl (⟨g8, rfl, rfl⟩))))))))) dX_look_99
  by_cases g9 : x = 8
  · refine lv_tableIn (off := 99) (tgt := 100) S.1 S.2.1 dX_look_1 (by rw [g9]; decide +kernel) (by rw [g9]; decide +kernel) (by rw [g9]; decide +kernel) (by decide) ?_
    refine lv_aload_n S.1 S.2.1 dX_look_100 rfl (lv_at hl 0 rfl) ?_
    refine cl_i (As := []) (rest := []) S hN hK hP hD hS hA hl.1 (c_X_conditions l D a _ pc ac lk mq ma mb ir sw io dl ha rd sn md kf kb cn pf co ou ) k_X_115 (rc_X hK hP) ⟨by decide, by decide⟩ rfl rfl (Nat.le_of_ble_eq_true rfl) ⟨Nat.le_refl _, Nat.le_refl _⟩ dX_look_101 (fun r u H locs hw hP hD hS => ?_)
    obtain ⟨rfl, rfl⟩ := hw
    exact rt_i S hr hk hK hP hD hS (Or.inr (Or.inr (Or.inr (Or.inr (Or.inr (Or.inr (Or.inr (Or.inr (Or.inl (⟨g9, rfl, rfl⟩)))))))))) dX_look_104
  by_cases g10 : x = 9
  · refine lv_tableIn (off := 104) (tgt := 105) S.1 S.2.1 dX_look_1 (by rw [g10]; decide +kernel) (by rw [g10]; decide +kernel) (by rw [g10]; decide +kernel) (by decide) ?_
    refine lv_aload_n S.1 S.2.1 dX_look_105 rfl (lv_at hl 0 rfl) ?_
    refine g_X_X_keyboard S hK hP dX_look_106 ?_
    refine g_X_K_buffer S hN hK hP dX_look_109 ?_
    exact rt_i S hr hk hK hP hD hS (Or.inr (Or.inr (Or.inr (Or.inr (Or.inr (Or.inr (Or.inr (Or.inr (Or.inr (Or.inl (⟨g10, rfl, rfl⟩))))))))))) dX_look_112
  by_cases g11 : x = 10
  · refine lv_tableIn (off := 112) (tgt := 113) S.1 S.2.1 dX_look_1 (by rw [g11]; decide +kernel) (by rw [g11]; decide +kernel) (by rw [g11]; decide +kernel) (by decide) ?_
    refine lv_aload_n S.1 S.2.1 dX_look_113 rfl (lv_at hl 0 rfl) ?_
    refine g_X_X_microstepsMade S hK hP dX_look_114 ?_
    exact rt_i S hr hk hK hP hD hS (Or.inr (Or.inr (Or.inr (Or.inr (Or.inr (Or.inr (Or.inr (Or.inr (Or.inr (Or.inr (Or.inl (⟨g11, rfl, rfl⟩)))))))))))) dX_look_117
  refine lv_tableOut (tgt := 118) S.1 S.2.1 dX_look_1 (by have n0 := lv_neT g1 (a := 0) (by decide +kernel); have n1 := lv_neT g2 (a := 1) (by decide +kernel); have n2 := lv_neT g3 (a := 2) (by decide +kernel); have n3 := lv_neT g4 (a := 3) (by decide +kernel); have n4 := lv_neT g5 (a := 4) (by decide +kernel); have n5 := lv_neT g6 (a := 5) (by decide +kernel); have n6 := lv_neT g7 (a := 6) (by decide +kernel); have n7 := lv_neT g8 (a := 7) (by decide +kernel); have n8 := lv_neT g9 (a := 8) (by decide +kernel); have n9 := lv_neT g10 (a := 9) (by decide +kernel); have n10 := lv_neT g11 (a := 10) (by decide +kernel); omega) (by decide) ?_
  refine lv_iconst (v := (-1)) S.1 S.2.1 dX_look_118 (by decide) ?_
  exact rt_i S hr hk hK hP hD hS (Or.inr (Or.inr (Or.inr (Or.inr (Or.inr (Or.inr (Or.inr (Or.inr (Or.inr (Or.inr (Or.inr (⟨g1, g2, g3, g4, g5, g6, g7, g8, g9, g10, g11, rfl, rfl⟩)))))))))))) dX_look_119

set_option maxHeartbeats 4000000 in
set_option maxRecDepth 100000 in
theorem c_P_byteAt (l : Launch) (D : va_G) (a : AX) (sz : Nat) (pc ac lk mq ma mb ir sw io dl ha rd sn md kf kb cn pf : Int32) (co ou : Nat → Int32) (x : Int32) (hn : a.2.2.2.2.2.2.2 ≤ 100) (hcn : ∃ k : Nat, k ≤ a.2.2.2.2.2.2.2 ∧ cn = nI k) : MI l D (wx a) (tx a) sz yP_byteAt cP_byteAt 2 (some .int) 0 [.ref a.2.2.2.1, .int x] (pc, ac, lk, mq, ma, mb, ir, sw, io, dl, ha, rd, sn, md, kf, kb, cn, pf, co, ou) (fun r u => ((x < 0) ∧ r = (-1) ∧ u = (pc, ac, lk, mq, ma, mb, ir, sw, io, dl, ha, rd, sn, md, kf, kb, cn, pf, co, ou)) ∨ ((¬ x < 0) ∧ (cn ≤ x) ∧ r = (-1) ∧ u = (pc, ac, lk, mq, ma, mb, ir, sw, io, dl, ha, rd, sn, md, kf, kb, cn, pf, co, ou)) ∨ ((¬ x < 0) ∧ (¬ cn ≤ x) ∧ r = (ou x.toNatClampNeg) ∧ u = (pc, ac, lk, mq, ma, mb, ir, sw, io, dl, ha, rd, sn, md, kf, kb, cn, pf, co, ou))) := by
  refine en_i RP rfl (by decide) (Nat.le_of_ble_eq_true rfl) ?_
  intro p e s m below meth c A ls S hr hk hA hN hK hP hD hS hl
  have hl : lv_has ls 2 [(0, .ref a.2.2.2.1), (1, .int x)] := hl
  refine lv_iload_n S.1 S.2.1 dP_byteAt_0 rfl (lv_at hl 1 rfl) ?_
  refine lv_if_lt (tgt := 21) S.1 S.2.1 dP_byteAt_1 (by decide) (fun g1 => ?_) (fun g1 => ?_)
  · refine lv_iconst (v := (-1)) S.1 S.2.1 dP_byteAt_21 (by decide) ?_
    exact rt_i S hr hk hK hP hD hS (Or.inl (⟨g1, rfl, rfl⟩)) dP_byteAt_22
  · refine lv_iload_n S.1 S.2.1 dP_byteAt_4 rfl (lv_at hl 1 rfl) ?_
    refine lv_aload_n S.1 S.2.1 dP_byteAt_5 rfl (lv_at hl 0 rfl) ?_
    refine g_P_P_count S hK hP dP_byteAt_6 ?_
    refine lv_icmp_ge (tgt := 21) S.1 S.2.1 dP_byteAt_9 (by decide) (fun g2 => ?_) (fun g2 => ?_)
    · refine lv_iconst (v := (-1)) S.1 S.2.1 dP_byteAt_21 (by decide) ?_
      exact rt_i S hr hk hK hP hD hS (Or.inr (Or.inl (⟨g1, g2, rfl, rfl⟩))) dP_byteAt_22
    · refine lv_aload_n S.1 S.2.1 dP_byteAt_12 rfl (lv_at hl 0 rfl) ?_
      refine g_P_P_bytes S hK hP dP_byteAt_13 ?_
      refine lv_iload_n S.1 S.2.1 dP_byteAt_16 rfl (lv_at hl 1 rfl) ?_
      refine ld_xou S hK hP (by_in hn hcn g1 g2) dP_byteAt_17 ?_
      refine lv_goto (tgt := 22) S.1 S.2.1 dP_byteAt_18 (by decide) ?_
      exact rt_i S hr hk hK hP hD hS (Or.inr (Or.inr (⟨g1, g2, rfl, rfl⟩))) dP_byteAt_22

set_option maxHeartbeats 4000000 in
set_option maxRecDepth 100000 in
theorem c_X_printed (l : Launch) (D : va_G) (a : AX) (sz : Nat) (pc ac lk mq ma mb ir sw io dl ha rd sn md kf kb cn pf : Int32) (co ou : Nat → Int32) (x : Int32) (hn : a.2.2.2.2.2.2.2 ≤ 100) (hcn : ∃ k : Nat, k ≤ a.2.2.2.2.2.2.2 ∧ cn = nI k) : MI l D (wx a) (tx a) sz yX_printed cX_printed 2 (some .int) 1 [.ref a.1, .int x] (pc, ac, lk, mq, ma, mb, ir, sw, io, dl, ha, rd, sn, md, kf, kb, cn, pf, co, ou) (fun r u => ((x = (-1)) ∧ r = cn ∧ u = (pc, ac, lk, mq, ma, mb, ir, sw, io, dl, ha, rd, sn, md, kf, kb, cn, pf, co, ou)) ∨ ((¬ x = (-1)) ∧ (x < 0) ∧ r = (-1) ∧ u = (pc, ac, lk, mq, ma, mb, ir, sw, io, dl, ha, rd, sn, md, kf, kb, cn, pf, co, ou)) ∨ ((¬ x = (-1)) ∧ (¬ x < 0) ∧ (cn ≤ x) ∧ r = (-1) ∧ u = (pc, ac, lk, mq, ma, mb, ir, sw, io, dl, ha, rd, sn, md, kf, kb, cn, pf, co, ou)) ∨ ((¬ x = (-1)) ∧ (¬ x < 0) ∧ (¬ cn ≤ x) ∧ r = (ou x.toNatClampNeg) ∧ u = (pc, ac, lk, mq, ma, mb, ir, sw, io, dl, ha, rd, sn, md, kf, kb, cn, pf, co, ou))) := by
  refine en_i RX rfl (by decide) (Nat.le_of_ble_eq_true rfl) ?_
  intro p e s m below meth c A ls S hr hk hA hN hK hP hD hS hl
  have hl : lv_has ls 2 [(0, .ref a.1), (1, .int x)] := hl
  refine lv_iload_n S.1 S.2.1 dX_printed_0 rfl (lv_at hl 1 rfl) ?_
  refine lv_iconst (v := (-1)) S.1 S.2.1 dX_printed_1 (by decide) ?_
  refine lv_icmp_ne (tgt := 15) S.1 S.2.1 dX_printed_2 (by decide) (fun g1 => ?_) (fun g1 => ?_)
  · refine lv_aload_n S.1 S.2.1 dX_printed_15 rfl (lv_at hl 0 rfl) ?_
    refine g_X_X_printer S hK hP dX_printed_16 ?_
    refine lv_iload_n S.1 S.2.1 dX_printed_19 rfl (lv_at hl 1 rfl) ?_
    refine cl_iN (As := [.int x]) (rest := []) S hN hK hP hD hS hA hl.1 (c_P_byteAt l D a _ pc ac lk mq ma mb ir sw io dl ha rd sn md kf kb cn pf co ou x hn hcn) k_X_124 (nw_X_124 hN) (rc_P hK hP) ⟨by decide, by decide⟩ rfl rfl (Nat.le_of_ble_eq_true rfl) ⟨Nat.le_refl _, Nat.le_refl _⟩ dX_printed_20 (fun r u H locs hw hP hD hS => ?_)
    obtain ⟨g2, rfl, rfl⟩ | ⟨g3, g4, rfl, rfl⟩ | ⟨g5, g6, rfl, rfl⟩ := hw
    · exact rt_i S hr hk hK hP hD hS (Or.inr (Or.inl (⟨g1, g2, rfl, rfl⟩))) dX_printed_23
    · exact rt_i S hr hk hK hP hD hS (Or.inr (Or.inr (Or.inl (⟨g1, g3, g4, rfl, rfl⟩)))) dX_printed_23
    · exact rt_i S hr hk hK hP hD hS (Or.inr (Or.inr (Or.inr (⟨g1, g5, g6, rfl, rfl⟩)))) dX_printed_23
  · refine lv_aload_n S.1 S.2.1 dX_printed_5 rfl (lv_at hl 0 rfl) ?_
    refine g_X_X_printer S hK hP dX_printed_6 ?_
    refine g_X_P_count S hN hK hP dX_printed_9 ?_
    refine lv_goto (tgt := 23) S.1 S.2.1 dX_printed_12 (by decide) ?_
    exact rt_i S hr hk hK hP hD hS (Or.inl (⟨g1, rfl, rfl⟩)) dX_printed_23
end
section
set_option maxHeartbeats 4000000 in
set_option maxRecDepth 100000 in
theorem c_M_bit (l : Launch) (D : va_G) (a : AR) (sz : Nat) (pc ac lk mq ma mb ir sw io dl ha rd sn md kf kb cn pf : Int32) (co ou : Nat → Int32) (b : Int32) : MI l D (wr a) (tr a) sz yM_bit cM_bit 2 (some .boolean) 0 [.ref a.1, .int b] (pc, ac, lk, mq, ma, mb, ir, sw, io, dl, ha, rd, sn, md, kf, kb, cn, pf, co, ou) (fun r u => (((ir &&& b) = 0) ∧ r = 0 ∧ u = (pc, ac, lk, mq, ma, mb, ir, sw, io, dl, ha, rd, sn, md, kf, kb, cn, pf, co, ou)) ∨ ((¬ (ir &&& b) = 0) ∧ r = 1 ∧ u = (pc, ac, lk, mq, ma, mb, ir, sw, io, dl, ha, rd, sn, md, kf, kb, cn, pf, co, ou))) := by
  refine en_i RM rfl (by decide) (Nat.le_of_ble_eq_true rfl) ?_
  intro p e s m below meth c A ls S hr hk hA hN hK hP hD hS hl
  have hl : lv_has ls 2 [(0, .ref a.1), (1, .int b)] := hl
  refine lv_aload_n S.1 S.2.1 dM_bit_0 rfl (lv_at hl 0 rfl) ?_
  refine g_M_M_ir S hK hP dM_bit_1 ?_
  refine lv_iload_n S.1 S.2.1 dM_bit_4 rfl (lv_at hl 1 rfl) ?_
  refine lv_iand S.1 S.2.1 dM_bit_5 ?_
  refine lv_if_eq (tgt := 13) S.1 S.2.1 dM_bit_6 (by decide) (fun g1 => ?_) (fun g1 => ?_)
  · refine lv_iconst (v := 0) S.1 S.2.1 dM_bit_13 (by decide) ?_
    exact rt_z S hr hk hK hP hD hS rfl (Or.inl (⟨g1, rfl, rfl⟩)) dM_bit_14
  · refine lv_iconst (v := 1) S.1 S.2.1 dM_bit_9 (by decide) ?_
    refine lv_goto (tgt := 14) S.1 S.2.1 dM_bit_10 (by decide) ?_
    exact rt_z S hr hk hK hP hD hS rfl (Or.inr (⟨g1, rfl, rfl⟩)) dM_bit_14

set_option maxHeartbeats 4000000 in
set_option maxRecDepth 100000 in
theorem c_M_isAddress (l : Launch) (D : va_G) (a : AR) (sz : Nat) (pc ac lk mq ma mb ir sw io dl ha rd sn md kf kb cn pf : Int32) (co ou : Nat → Int32) (x : Int32) : MI l D (wr a) (tr a) sz yM_isAddress cM_isAddress 1 (some .boolean) 0 [.int x] (pc, ac, lk, mq, ma, mb, ir, sw, io, dl, ha, rd, sn, md, kf, kb, cn, pf, co, ou) (fun r u => ((x < 0) ∧ r = 0 ∧ u = (pc, ac, lk, mq, ma, mb, ir, sw, io, dl, ha, rd, sn, md, kf, kb, cn, pf, co, ou)) ∨ ((¬ x < 0) ∧ (4096 ≤ x) ∧ r = 0 ∧ u = (pc, ac, lk, mq, ma, mb, ir, sw, io, dl, ha, rd, sn, md, kf, kb, cn, pf, co, ou)) ∨ ((¬ x < 0) ∧ (¬ 4096 ≤ x) ∧ r = 1 ∧ u = (pc, ac, lk, mq, ma, mb, ir, sw, io, dl, ha, rd, sn, md, kf, kb, cn, pf, co, ou))) := by
  refine en_i RM rfl (by decide) (Nat.le_of_ble_eq_true rfl) ?_
  intro p e s m below meth c A ls S hr hk hA hN hK hP hD hS hl
  have hl : lv_has ls 1 [(0, .int x)] := hl
  refine lv_iload_n S.1 S.2.1 dM_isAddress_0 rfl (lv_at hl 0 rfl) ?_
  refine lv_if_lt (tgt := 15) S.1 S.2.1 dM_isAddress_1 (by decide) (fun g1 => ?_) (fun g1 => ?_)
  · refine lv_iconst (v := 0) S.1 S.2.1 dM_isAddress_15 (by decide) ?_
    exact rt_z S hr hk hK hP hD hS rfl (Or.inl (⟨g1, rfl, rfl⟩)) dM_isAddress_16
  · refine lv_iload_n S.1 S.2.1 dM_isAddress_4 rfl (lv_at hl 0 rfl) ?_
    refine lv_sipush (v := 4096) S.1 S.2.1 dM_isAddress_5 (by decide) ?_
    refine lv_icmp_ge (tgt := 15) S.1 S.2.1 dM_isAddress_8 (by decide) (fun g2 => ?_) (fun g2 => ?_)
    · refine lv_iconst (v := 0) S.1 S.2.1 dM_isAddress_15 (by decide) ?_
      exact rt_z S hr hk hK hP hD hS rfl (Or.inr (Or.inl (⟨g1, g2, rfl, rfl⟩))) dM_isAddress_16
    · refine lv_iconst (v := 1) S.1 S.2.1 dM_isAddress_11 (by decide) ?_
      refine lv_goto (tgt := 16) S.1 S.2.1 dM_isAddress_12 (by decide) ?_
      exact rt_z S hr hk hK hP hD hS rfl (Or.inr (Or.inr (⟨g1, g2, rfl, rfl⟩))) dM_isAddress_16

set_option maxHeartbeats 4000000 in
set_option maxRecDepth 100000 in
theorem c_M_skip (l : Launch) (D : va_G) (a : AR) (sz : Nat) (pc ac lk mq ma mb ir sw io dl ha rd sn md kf kb cn pf : Int32) (co ou : Nat → Int32) (b : Int32) : MV l D (wr a) (tr a) sz yM_skip cM_skip 2 0 [.ref a.1, .int b] (pc, ac, lk, mq, ma, mb, ir, sw, io, dl, ha, rd, sn, md, kf, kb, cn, pf, co, ou) (fun u => ((b = 0) ∧ u = (pc, ac, lk, mq, ma, mb, ir, sw, io, dl, ha, rd, sn, md, kf, kb, cn, pf, co, ou)) ∨ ((¬ b = 0) ∧ u = (((pc + 1) &&& 4095), ac, lk, mq, ma, mb, ir, sw, io, dl, ha, rd, sn, md, kf, kb, cn, pf, co, ou))) := by
  refine en_v RM rfl (by decide) (Nat.le_of_ble_eq_true rfl) ?_
  intro p e s m below meth c A ls S hr hk hA hN hK hP hD hS hl
  have hl : lv_has ls 2 [(0, .ref a.1), (1, .int b)] := hl
  refine lv_aload_n S.1 S.2.1 dM_skip_0 rfl (lv_at hl 0 rfl) ?_
  refine lv_iload_n S.1 S.2.1 dM_skip_1 rfl (lv_at hl 1 rfl) ?_
  refine lv_if_eq (tgt := 18) S.1 S.2.1 dM_skip_2 (by decide) (fun g1 => ?_) (fun g1 => ?_)
  · refine lv_aload_n S.1 S.2.1 dM_skip_18 rfl (lv_at hl 0 rfl) ?_
    refine g_M_M_pc S hK hP dM_skip_19 ?_
    refine p_M_M_pc S hK hP hD hS dM_skip_22 (fun H locs hP hD hS => ?_)
    exact rt_v S hr hk hK hP hD hS (Or.inl (⟨g1, rfl⟩)) dM_skip_25
  · refine lv_aload_n S.1 S.2.1 dM_skip_5 rfl (lv_at hl 0 rfl) ?_
    refine g_M_M_pc S hK hP dM_skip_6 ?_
    refine lv_iconst (v := 1) S.1 S.2.1 dM_skip_9 (by decide) ?_
    refine lv_iadd S.1 S.2.1 dM_skip_10 ?_
    refine lv_sipush (v := 4095) S.1 S.2.1 dM_skip_11 (by decide) ?_
    refine lv_iand S.1 S.2.1 dM_skip_14 ?_
    refine lv_goto (tgt := 22) S.1 S.2.1 dM_skip_15 (by decide) ?_
    refine p_M_M_pc S hK hP hD hS dM_skip_22 (fun H locs hP hD hS => ?_)
    exact rt_v S hr hk hK hP hD hS (Or.inr (⟨g1, rfl⟩)) dM_skip_25

set_option maxHeartbeats 4000000 in
set_option maxRecDepth 100000 in
theorem c_M_add (l : Launch) (D : va_G) (a : AR) (sz : Nat) (pc ac lk mq ma mb ir sw io dl ha rd sn md kf kb cn pf : Int32) (co ou : Nat → Int32) (v : Int32) : MV l D (wr a) (tr a) sz yM_add cM_add 3 0 [.ref a.1, .int v] (pc, ac, lk, mq, ma, mb, ir, sw, io, dl, ha, rd, sn, md, kf, kb, cn, pf, co, ou) (fun u => (((ac + v) ≤ 4095) ∧ u = (pc, ((ac + v) &&& 4095), lk, mq, ma, mb, ir, sw, io, dl, ha, rd, sn, md, kf, kb, cn, pf, co, ou)) ∨ ((¬ (ac + v) ≤ 4095) ∧ u = (pc, ((ac + v) &&& 4095), (1 - lk), mq, ma, mb, ir, sw, io, dl, ha, rd, sn, md, kf, kb, cn, pf, co, ou))) := by
  refine en_v RM rfl (by decide) (Nat.le_of_ble_eq_true rfl) ?_
  intro p e s m below meth c A ls S hr hk hA hN hK hP hD hS hl
  have hl : lv_has ls 3 [(0, .ref a.1), (1, .int v)] := hl
  refine lv_aload_n S.1 S.2.1 dM_add_0 rfl (lv_at hl 0 rfl) ?_
  refine g_M_M_ac S hK hP dM_add_1 ?_
  refine lv_iload_n S.1 S.2.1 dM_add_4 rfl (lv_at hl 1 rfl) ?_
  refine lv_iadd S.1 S.2.1 dM_add_5 ?_
  refine lv_istore_n S.1 S.2.1 dM_add_6 rfl hl (by decide) rfl (fun ls hl => ?_)
  have hl : lv_has ls 3 [(2, .int (ac + v)), (0, .ref a.1), (1, .int v)] := hl
  refine lv_aload_n S.1 S.2.1 dM_add_7 rfl (lv_at hl 1 rfl) ?_
  refine lv_iload_n S.1 S.2.1 dM_add_8 rfl (lv_at hl 0 rfl) ?_
  refine lv_sipush (v := 4095) S.1 S.2.1 dM_add_9 (by decide) ?_
  refine lv_icmp_le (tgt := 24) S.1 S.2.1 dM_add_12 (by decide) (fun g1 => ?_) (fun g1 => ?_)
  · refine lv_aload_n S.1 S.2.1 dM_add_24 rfl (lv_at hl 1 rfl) ?_
    refine g_M_M_link S hK hP dM_add_25 ?_
    refine p_M_M_link S hK hP hD hS dM_add_28 (fun H locs hP hD hS => ?_)
    refine lv_aload_n S.1 S.2.1 dM_add_31 rfl (lv_at hl 1 rfl) ?_
    refine lv_iload_n S.1 S.2.1 dM_add_32 rfl (lv_at hl 0 rfl) ?_
    refine lv_sipush (v := 4095) S.1 S.2.1 dM_add_33 (by decide) ?_
    refine lv_iand S.1 S.2.1 dM_add_36 ?_
    refine p_M_M_ac S hK hP hD hS dM_add_37 (fun H locs hP hD hS => ?_)
    exact rt_v S hr hk hK hP hD hS (Or.inl (⟨g1, rfl⟩)) dM_add_40
  · refine lv_iconst (v := 1) S.1 S.2.1 dM_add_15 (by decide) ?_
    refine lv_aload_n S.1 S.2.1 dM_add_16 rfl (lv_at hl 1 rfl) ?_
    refine g_M_M_link S hK hP dM_add_17 ?_
    refine lv_isub S.1 S.2.1 dM_add_20 ?_
    refine lv_goto (tgt := 28) S.1 S.2.1 dM_add_21 (by decide) ?_
    refine p_M_M_link S hK hP hD hS dM_add_28 (fun H locs hP hD hS => ?_)
    refine lv_aload_n S.1 S.2.1 dM_add_31 rfl (lv_at hl 1 rfl) ?_
    refine lv_iload_n S.1 S.2.1 dM_add_32 rfl (lv_at hl 0 rfl) ?_
    refine lv_sipush (v := 4095) S.1 S.2.1 dM_add_33 (by decide) ?_
    refine lv_iand S.1 S.2.1 dM_add_36 ?_
    refine p_M_M_ac S hK hP hD hS dM_add_37 (fun H locs hP hD hS => ?_)
    exact rt_v S hr hk hK hP hD hS (Or.inr (⟨g1, rfl⟩)) dM_add_40

set_option maxHeartbeats 4000000 in
set_option maxRecDepth 100000 in
theorem c_M_rotate (l : Launch) (D : va_G) (a : AR) (sz : Nat) (pc ac lk mq ma mb ir sw io dl ha rd sn md kf kb cn pf : Int32) (co ou : Nat → Int32) : MV l D (wr a) (tr a) sz yM_rotate cM_rotate 2 1 [.ref a.1] (pc, ac, lk, mq, ma, mb, ir, sw, io, dl, ha, rd, sn, md, kf, kb, cn, pf, co, ou) (fun u => (((ir &&& 8) = 0) ∧ ((ir &&& 4) = 0) ∧ u = (pc, (((lk <<< ((12 : Int32) &&& 31)) ||| ac) &&& 4095), (((lk <<< ((12 : Int32) &&& 31)) ||| ac) >>> ((12 : Int32) &&& 31)), mq, ma, mb, ir, sw, io, dl, ha, rd, sn, md, kf, kb, cn, pf, co, ou)) ∨ (((ir &&& 8) = 0) ∧ (¬ (ir &&& 4) = 0) ∧ u = (pc, ((((((lk <<< ((12 : Int32) &&& 31)) ||| ac) <<< ((1 : Int32) &&& 31)) &&& 8191) ||| (((lk <<< ((12 : Int32) &&& 31)) ||| ac) >>> ((12 : Int32) &&& 31))) &&& 4095), ((((((lk <<< ((12 : Int32) &&& 31)) ||| ac) <<< ((1 : Int32) &&& 31)) &&& 8191) ||| (((lk <<< ((12 : Int32) &&& 31)) ||| ac) >>> ((12 : Int32) &&& 31))) >>> ((12 : Int32) &&& 31)), mq, ma, mb, ir, sw, io, dl, ha, rd, sn, md, kf, kb, cn, pf, co, ou)) ∨ ((¬ (ir &&& 8) = 0) ∧ ((ir &&& 4) = 0) ∧ u = (pc, (((((lk <<< ((12 : Int32) &&& 31)) ||| ac) >>> ((1 : Int32) &&& 31)) ||| ((((lk <<< ((12 : Int32) &&& 31)) ||| ac) &&& 1) <<< ((12 : Int32) &&& 31))) &&& 4095), (((((lk <<< ((12 : Int32) &&& 31)) ||| ac) >>> ((1 : Int32) &&& 31)) ||| ((((lk <<< ((12 : Int32) &&& 31)) ||| ac) &&& 1) <<< ((12 : Int32) &&& 31))) >>> ((12 : Int32) &&& 31)), mq, ma, mb, ir, sw, io, dl, ha, rd, sn, md, kf, kb, cn, pf, co, ou)) ∨ ((¬ (ir &&& 8) = 0) ∧ (¬ (ir &&& 4) = 0) ∧ u = (pc, ((((((((lk <<< ((12 : Int32) &&& 31)) ||| ac) >>> ((1 : Int32) &&& 31)) ||| ((((lk <<< ((12 : Int32) &&& 31)) ||| ac) &&& 1) <<< ((12 : Int32) &&& 31))) <<< ((1 : Int32) &&& 31)) &&& 8191) ||| (((((lk <<< ((12 : Int32) &&& 31)) ||| ac) >>> ((1 : Int32) &&& 31)) ||| ((((lk <<< ((12 : Int32) &&& 31)) ||| ac) &&& 1) <<< ((12 : Int32) &&& 31))) >>> ((12 : Int32) &&& 31))) &&& 4095), ((((((((lk <<< ((12 : Int32) &&& 31)) ||| ac) >>> ((1 : Int32) &&& 31)) ||| ((((lk <<< ((12 : Int32) &&& 31)) ||| ac) &&& 1) <<< ((12 : Int32) &&& 31))) <<< ((1 : Int32) &&& 31)) &&& 8191) ||| (((((lk <<< ((12 : Int32) &&& 31)) ||| ac) >>> ((1 : Int32) &&& 31)) ||| ((((lk <<< ((12 : Int32) &&& 31)) ||| ac) &&& 1) <<< ((12 : Int32) &&& 31))) >>> ((12 : Int32) &&& 31))) >>> ((12 : Int32) &&& 31)), mq, ma, mb, ir, sw, io, dl, ha, rd, sn, md, kf, kb, cn, pf, co, ou))) := by
  refine en_v RM rfl (by decide) (Nat.le_of_ble_eq_true rfl) ?_
  intro p e s m below meth c A ls S hr hk hA hN hK hP hD hS hl
  have hl : lv_has ls 2 [(0, .ref a.1)] := hl
  refine lv_aload_n S.1 S.2.1 dM_rotate_0 rfl (lv_at hl 0 rfl) ?_
  refine g_M_M_link S hK hP dM_rotate_1 ?_
  refine lv_bipush (v := 12) S.1 S.2.1 dM_rotate_4 (by decide) ?_
  refine lv_ishl S.1 S.2.1 dM_rotate_6 ?_
  refine lv_aload_n S.1 S.2.1 dM_rotate_7 rfl (lv_at hl 0 rfl) ?_
  refine g_M_M_ac S hK hP dM_rotate_8 ?_
  refine lv_ior S.1 S.2.1 dM_rotate_11 ?_
  refine lv_istore_n S.1 S.2.1 dM_rotate_12 rfl hl (by decide) rfl (fun ls hl => ?_)
  have hl : lv_has ls 2 [(1, .int ((lk <<< ((12 : Int32) &&& 31)) ||| ac)), (0, .ref a.1)] := hl
  refine lv_aload_n S.1 S.2.1 dM_rotate_13 rfl (lv_at hl 1 rfl) ?_
  refine lv_bipush (v := 8) S.1 S.2.1 dM_rotate_14 (by decide) ?_
  refine cl_i (As := [.int 8]) (rest := []) S hN hK hP hD hS hA hl.1 (c_M_bit l D a _ pc ac lk mq ma mb ir sw io dl ha rd sn md kf kb cn pf co ou 8) k_M_83 (rc_M hK hP) ⟨by decide, by decide⟩ rfl rfl (Nat.le_of_ble_eq_true rfl) ⟨Nat.le_refl _, Nat.le_refl _⟩ dM_rotate_16 (fun r u H locs hw hP hD hS => ?_)
  obtain ⟨g1, rfl, rfl⟩ | ⟨g2, rfl, rfl⟩ := hw
  · refine lv_if_eq (tgt := 33) S.1 S.2.1 dM_rotate_19 (by decide) (fun _ => ?_) (fun g3 => absurd (by decide) g3)
    refine lv_aload_n S.1 S.2.1 dM_rotate_33 rfl (lv_at hl 1 rfl) ?_
    refine lv_iconst (v := 4) S.1 S.2.1 dM_rotate_34 (by decide) ?_
    refine cl_i (As := [.int 4]) (rest := []) S hN hK hP hD hS hA hl.1 (c_M_bit l D a _ pc ac lk mq ma mb ir sw io dl ha rd sn md kf kb cn pf co ou 4) k_M_83 (rc_M hK hP) ⟨by decide, by decide⟩ rfl rfl (Nat.le_of_ble_eq_true rfl) ⟨Nat.le_refl _, Nat.le_refl _⟩ dM_rotate_35 (fun r u H locs hw hP hD hS => ?_)
    obtain ⟨g4, rfl, rfl⟩ | ⟨g5, rfl, rfl⟩ := hw
    · refine lv_if_eq (tgt := 54) S.1 S.2.1 dM_rotate_38 (by decide) (fun _ => ?_) (fun g6 => absurd (by decide) g6)
      refine lv_aload_n S.1 S.2.1 dM_rotate_54 rfl (lv_at hl 1 rfl) ?_
      refine lv_iload_n S.1 S.2.1 dM_rotate_55 rfl (lv_at hl 0 rfl) ?_
      refine lv_bipush (v := 12) S.1 S.2.1 dM_rotate_56 (by decide) ?_
      refine lv_ishr S.1 S.2.1 dM_rotate_58 ?_
      refine p_M_M_link S hK hP hD hS dM_rotate_59 (fun H locs hP hD hS => ?_)
      refine lv_aload_n S.1 S.2.1 dM_rotate_62 rfl (lv_at hl 1 rfl) ?_
      refine lv_iload_n S.1 S.2.1 dM_rotate_63 rfl (lv_at hl 0 rfl) ?_
      refine lv_sipush (v := 4095) S.1 S.2.1 dM_rotate_64 (by decide) ?_
      refine lv_iand S.1 S.2.1 dM_rotate_67 ?_
      refine p_M_M_ac S hK hP hD hS dM_rotate_68 (fun H locs hP hD hS => ?_)
      exact rt_v S hr hk hK hP hD hS (Or.inl (⟨g1, g4, rfl⟩)) dM_rotate_71
    · refine lv_if_eq (tgt := 54) S.1 S.2.1 dM_rotate_38 (by decide) (fun g7 => absurd g7 (by decide)) (fun _ => ?_)
      refine lv_iload_n S.1 S.2.1 dM_rotate_41 rfl (lv_at hl 0 rfl) ?_
      refine lv_iconst (v := 1) S.1 S.2.1 dM_rotate_42 (by decide) ?_
      refine lv_ishl S.1 S.2.1 dM_rotate_43 ?_
      refine lv_sipush (v := 8191) S.1 S.2.1 dM_rotate_44 (by decide) ?_
      refine lv_iand S.1 S.2.1 dM_rotate_47 ?_
      refine lv_iload_n S.1 S.2.1 dM_rotate_48 rfl (lv_at hl 0 rfl) ?_
      refine lv_bipush (v := 12) S.1 S.2.1 dM_rotate_49 (by decide) ?_
      refine lv_ishr S.1 S.2.1 dM_rotate_51 ?_
      refine lv_ior S.1 S.2.1 dM_rotate_52 ?_
      refine lv_istore_n S.1 S.2.1 dM_rotate_53 rfl hl (by decide) rfl (fun ls hl => ?_)
      have hl : lv_has ls 2 [(1, .int (((((lk <<< ((12 : Int32) &&& 31)) ||| ac) <<< ((1 : Int32) &&& 31)) &&& 8191) ||| (((lk <<< ((12 : Int32) &&& 31)) ||| ac) >>> ((12 : Int32) &&& 31)))), (0, .ref a.1)] := hl
      refine lv_aload_n S.1 S.2.1 dM_rotate_54 rfl (lv_at hl 1 rfl) ?_
      refine lv_iload_n S.1 S.2.1 dM_rotate_55 rfl (lv_at hl 0 rfl) ?_
      refine lv_bipush (v := 12) S.1 S.2.1 dM_rotate_56 (by decide) ?_
      refine lv_ishr S.1 S.2.1 dM_rotate_58 ?_
      refine p_M_M_link S hK hP hD hS dM_rotate_59 (fun H locs hP hD hS => ?_)
      refine lv_aload_n S.1 S.2.1 dM_rotate_62 rfl (lv_at hl 1 rfl) ?_
      refine lv_iload_n S.1 S.2.1 dM_rotate_63 rfl (lv_at hl 0 rfl) ?_
      refine lv_sipush (v := 4095) S.1 S.2.1 dM_rotate_64 (by decide) ?_
      refine lv_iand S.1 S.2.1 dM_rotate_67 ?_
      refine p_M_M_ac S hK hP hD hS dM_rotate_68 (fun H locs hP hD hS => ?_)
      exact rt_v S hr hk hK hP hD hS (Or.inr (Or.inl (⟨g1, g5, rfl⟩))) dM_rotate_71
  · refine lv_if_eq (tgt := 33) S.1 S.2.1 dM_rotate_19 (by decide) (fun g8 => absurd g8 (by decide)) (fun _ => ?_)
    refine lv_iload_n S.1 S.2.1 dM_rotate_22 rfl (lv_at hl 0 rfl) ?_
    refine lv_iconst (v := 1) S.1 S.2.1 dM_rotate_23 (by decide) ?_
    refine lv_ishr S.1 S.2.1 dM_rotate_24 ?_
    refine lv_iload_n S.1 S.2.1 dM_rotate_25 rfl (lv_at hl 0 rfl) ?_
    refine lv_iconst (v := 1) S.1 S.2.1 dM_rotate_26 (by decide) ?_
    refine lv_iand S.1 S.2.1 dM_rotate_27 ?_
    refine lv_bipush (v := 12) S.1 S.2.1 dM_rotate_28 (by decide) ?_
    refine lv_ishl S.1 S.2.1 dM_rotate_30 ?_
    refine lv_ior S.1 S.2.1 dM_rotate_31 ?_
    refine lv_istore_n S.1 S.2.1 dM_rotate_32 rfl hl (by decide) rfl (fun ls hl => ?_)
    have hl : lv_has ls 2 [(1, .int ((((lk <<< ((12 : Int32) &&& 31)) ||| ac) >>> ((1 : Int32) &&& 31)) ||| ((((lk <<< ((12 : Int32) &&& 31)) ||| ac) &&& 1) <<< ((12 : Int32) &&& 31)))), (0, .ref a.1)] := hl
    refine lv_aload_n S.1 S.2.1 dM_rotate_33 rfl (lv_at hl 1 rfl) ?_
    refine lv_iconst (v := 4) S.1 S.2.1 dM_rotate_34 (by decide) ?_
    refine cl_i (As := [.int 4]) (rest := []) S hN hK hP hD hS hA hl.1 (c_M_bit l D a _ pc ac lk mq ma mb ir sw io dl ha rd sn md kf kb cn pf co ou 4) k_M_83 (rc_M hK hP) ⟨by decide, by decide⟩ rfl rfl (Nat.le_of_ble_eq_true rfl) ⟨Nat.le_refl _, Nat.le_refl _⟩ dM_rotate_35 (fun r u H locs hw hP hD hS => ?_)
    obtain ⟨g9, rfl, rfl⟩ | ⟨g10, rfl, rfl⟩ := hw
    · refine lv_if_eq (tgt := 54) S.1 S.2.1 dM_rotate_38 (by decide) (fun _ => ?_) (fun g11 => absurd (by decide) g11)
      refine lv_aload_n S.1 S.2.1 dM_rotate_54 rfl (lv_at hl 1 rfl) ?_
      refine lv_iload_n S.1 S.2.1 dM_rotate_55 rfl (lv_at hl 0 rfl) ?_
      refine lv_bipush (v := 12) S.1 S.2.1 dM_rotate_56 (by decide) ?_
      refine lv_ishr S.1 S.2.1 dM_rotate_58 ?_
      refine p_M_M_link S hK hP hD hS dM_rotate_59 (fun H locs hP hD hS => ?_)
      refine lv_aload_n S.1 S.2.1 dM_rotate_62 rfl (lv_at hl 1 rfl) ?_
      refine lv_iload_n S.1 S.2.1 dM_rotate_63 rfl (lv_at hl 0 rfl) ?_
      refine lv_sipush (v := 4095) S.1 S.2.1 dM_rotate_64 (by decide) ?_
      refine lv_iand S.1 S.2.1 dM_rotate_67 ?_
      refine p_M_M_ac S hK hP hD hS dM_rotate_68 (fun H locs hP hD hS => ?_)
      exact rt_v S hr hk hK hP hD hS (Or.inr (Or.inr (Or.inl (⟨g2, g9, rfl⟩)))) dM_rotate_71
    · refine lv_if_eq (tgt := 54) S.1 S.2.1 dM_rotate_38 (by decide) (fun g12 => absurd g12 (by decide)) (fun _ => ?_)
      refine lv_iload_n S.1 S.2.1 dM_rotate_41 rfl (lv_at hl 0 rfl) ?_
      refine lv_iconst (v := 1) S.1 S.2.1 dM_rotate_42 (by decide) ?_
      refine lv_ishl S.1 S.2.1 dM_rotate_43 ?_
      refine lv_sipush (v := 8191) S.1 S.2.1 dM_rotate_44 (by decide) ?_
      refine lv_iand S.1 S.2.1 dM_rotate_47 ?_
      refine lv_iload_n S.1 S.2.1 dM_rotate_48 rfl (lv_at hl 0 rfl) ?_
      refine lv_bipush (v := 12) S.1 S.2.1 dM_rotate_49 (by decide) ?_
      refine lv_ishr S.1 S.2.1 dM_rotate_51 ?_
      refine lv_ior S.1 S.2.1 dM_rotate_52 ?_
      refine lv_istore_n S.1 S.2.1 dM_rotate_53 rfl hl (by decide) rfl (fun ls hl => ?_)
      have hl : lv_has ls 2 [(1, .int (((((((lk <<< ((12 : Int32) &&& 31)) ||| ac) >>> ((1 : Int32) &&& 31)) ||| ((((lk <<< ((12 : Int32) &&& 31)) ||| ac) &&& 1) <<< ((12 : Int32) &&& 31))) <<< ((1 : Int32) &&& 31)) &&& 8191) ||| (((((lk <<< ((12 : Int32) &&& 31)) ||| ac) >>> ((1 : Int32) &&& 31)) ||| ((((lk <<< ((12 : Int32) &&& 31)) ||| ac) &&& 1) <<< ((12 : Int32) &&& 31))) >>> ((12 : Int32) &&& 31)))), (0, .ref a.1)] := hl
      refine lv_aload_n S.1 S.2.1 dM_rotate_54 rfl (lv_at hl 1 rfl) ?_
      refine lv_iload_n S.1 S.2.1 dM_rotate_55 rfl (lv_at hl 0 rfl) ?_
      refine lv_bipush (v := 12) S.1 S.2.1 dM_rotate_56 (by decide) ?_
      refine lv_ishr S.1 S.2.1 dM_rotate_58 ?_
      refine p_M_M_link S hK hP hD hS dM_rotate_59 (fun H locs hP hD hS => ?_)
      refine lv_aload_n S.1 S.2.1 dM_rotate_62 rfl (lv_at hl 1 rfl) ?_
      refine lv_iload_n S.1 S.2.1 dM_rotate_63 rfl (lv_at hl 0 rfl) ?_
      refine lv_sipush (v := 4095) S.1 S.2.1 dM_rotate_64 (by decide) ?_
      refine lv_iand S.1 S.2.1 dM_rotate_67 ?_
      refine p_M_M_ac S hK hP hD hS dM_rotate_68 (fun H locs hP hD hS => ?_)
      exact rt_v S hr hk hK hP hD hS (Or.inr (Or.inr (Or.inr (⟨g2, g10, rfl⟩)))) dM_rotate_71

set_option maxHeartbeats 4000000 in
set_option maxRecDepth 100000 in
theorem c_M_flags (l : Launch) (D : va_G) (a : AR) (sz : Nat) (pc ac lk mq ma mb ir sw io dl ha rd sn md kf kb cn pf : Int32) (co ou : Nat → Int32) : MI l D (wr a) (tr a) sz yM_flags cM_flags 1 (some .int) 0 [.ref a.1] (pc, ac, lk, mq, ma, mb, ir, sw, io, dl, ha, rd, sn, md, kf, kb, cn, pf, co, ou) (fun r u => r = (((((if io = 0 then 0 else 1) + (if dl = 0 then 0 else 2)) + (if ha = 0 then 0 else 4)) + (if kf = 0 then 0 else 8)) + (if pf = 0 then 0 else 16)) ∧ u = (pc, ac, lk, mq, ma, mb, ir, sw, io, dl, ha, rd, sn, md, kf, kb, cn, pf, co, ou)) := by
  refine en_i RM rfl (by decide) (Nat.le_of_ble_eq_true rfl) ?_
  intro p e s m below meth c A ls S hr hk hA hN hK hP hD hS hl
  have hl : lv_has ls 1 [(0, .ref a.1)] := hl
  refine lv_aload_n S.1 S.2.1 dM_flags_0 rfl (lv_at hl 0 rfl) ?_
  refine g_M_M_ion S hK hP dM_flags_1 ?_
  refine dm_eq (tgt := 11) (j := 12) (g := 8) S.1 S.2.1 dM_flags_4 (by decide) (fun k => lv_iconst (v := 1) S.1 S.2.1 dM_flags_7 (by decide) k) dM_flags_8 (by decide) (fun k => lv_iconst (v := 0) S.1 S.2.1 dM_flags_11 (by decide) k) ?_
  refine lv_aload_n S.1 S.2.1 dM_flags_12 rfl (lv_at hl 0 rfl) ?_
  refine g_M_M_delay S hK hP dM_flags_13 ?_
  refine dm_eq (tgt := 23) (j := 24) (g := 20) S.1 S.2.1 dM_flags_16 (by decide) (fun k => lv_iconst (v := 2) S.1 S.2.1 dM_flags_19 (by decide) k) dM_flags_20 (by decide) (fun k => lv_iconst (v := 0) S.1 S.2.1 dM_flags_23 (by decide) k) ?_
  refine lv_iadd S.1 S.2.1 dM_flags_24 ?_
  refine lv_aload_n S.1 S.2.1 dM_flags_25 rfl (lv_at hl 0 rfl) ?_
  refine g_M_M_halted S hK hP dM_flags_26 ?_
  refine dm_eq (tgt := 36) (j := 37) (g := 33) S.1 S.2.1 dM_flags_29 (by decide) (fun k => lv_iconst (v := 4) S.1 S.2.1 dM_flags_32 (by decide) k) dM_flags_33 (by decide) (fun k => lv_iconst (v := 0) S.1 S.2.1 dM_flags_36 (by decide) k) ?_
  refine lv_iadd S.1 S.2.1 dM_flags_37 ?_
  refine lv_aload_n S.1 S.2.1 dM_flags_38 rfl (lv_at hl 0 rfl) ?_
  refine g_M_M_keyFlag S hK hP dM_flags_39 ?_
  refine dm_eq (tgt := 50) (j := 51) (g := 47) S.1 S.2.1 dM_flags_42 (by decide) (fun k => lv_bipush (v := 8) S.1 S.2.1 dM_flags_45 (by decide) k) dM_flags_47 (by decide) (fun k => lv_iconst (v := 0) S.1 S.2.1 dM_flags_50 (by decide) k) ?_
  refine lv_iadd S.1 S.2.1 dM_flags_51 ?_
  refine lv_aload_n S.1 S.2.1 dM_flags_52 rfl (lv_at hl 0 rfl) ?_
  refine g_M_M_printFlag S hK hP dM_flags_53 ?_
  refine dm_eq (tgt := 64) (j := 65) (g := 61) S.1 S.2.1 dM_flags_56 (by decide) (fun k => lv_bipush (v := 16) S.1 S.2.1 dM_flags_59 (by decide) k) dM_flags_61 (by decide) (fun k => lv_iconst (v := 0) S.1 S.2.1 dM_flags_64 (by decide) k) ?_
  refine lv_iadd S.1 S.2.1 dM_flags_65 ?_
  exact rt_i S hr hk hK hP hD hS (⟨rfl, rfl⟩) dM_flags_66
end
section
set_option maxHeartbeats 4000000 in
set_option maxRecDepth 100000 in
theorem c_M_fetch_0 (l : Launch) (D : va_G) (a : AR) (sz : Nat) (pc ac lk mq ma mb ir sw io dl ha rd md kf kb cn pf : Int32) (co ou : Nat → Int32) (I : Iv a.2.2.2.2.2 (pc, ac, lk, mq, ma, mb, ir, sw, io, dl, ha, rd, 0, md, kf, kb, cn, pf, co, ou)) : MI l D (wr a) (tr a) sz yM_fetch cM_fetch 1 (some .int) 1 [.ref a.1] (pc, ac, lk, mq, ma, mb, ir, sw, io, dl, ha, rd, 0, md, kf, kb, cn, pf, co, ou) (fun r u => (r, u) = mu0 (pc, ac, lk, mq, ma, mb, ir, sw, io, dl, ha, rd, 0, md, kf, kb, cn, pf, co, ou)) := by
  refine en_i RM rfl (by decide) (Nat.le_of_ble_eq_true rfl) ?_
  intro p e s m below meth c A ls S hr hk hA hN hK hP hD hS hl
  have hl : lv_has ls 1 [(0, .ref a.1)] := hl
  obtain ⟨⟨hpc, hac, hmq, hma, hmb, hir, hsw⟩, hlk, ⟨hio, hdl, hha, hrd, hkf, hpf⟩, hsn, hlt, hkb, hcn, hn, hco⟩ := I
  refine lv_aload_n S.1 S.2.1 dM_fetch_0 rfl (lv_at hl 0 rfl) ?_
  refine g_M_M_at S hK hP dM_fetch_1 ?_
  refine lv_tableIn (off := 36) (tgt := 40) S.1 S.2.1 dM_fetch_4 (by decide +kernel) (by decide +kernel) (by decide +kernel) (by decide) ?_
  refine lv_aload_n S.1 S.2.1 dM_fetch_40 rfl (lv_at hl 0 rfl) ?_
  refine g_M_M_ion S hK hP dM_fetch_41 ?_
  refine lv_if_eq (tgt := 71) S.1 S.2.1 dM_fetch_44 (by decide) (fun g1 => ?_) (fun g1 => ?_)
  · refine lv_aload_n S.1 S.2.1 dM_fetch_71 rfl (lv_at hl 0 rfl) ?_
    refine lv_iconst (v := 0) S.1 S.2.1 dM_fetch_72 (by decide) ?_
    refine p_M_M_delay S hK hP hD hS rfl rfl dM_fetch_73 (fun H locs hP hD hS => ?_)
    refine lv_aload_n S.1 S.2.1 dM_fetch_76 rfl (lv_at hl 0 rfl) ?_
    refine lv_aload_n S.1 S.2.1 dM_fetch_77 rfl (lv_at hl 0 rfl) ?_
    refine g_M_M_pc S hK hP dM_fetch_78 ?_
    refine p_M_M_ma S hK hP hD hS dM_fetch_81 (fun H locs hP hD hS => ?_)
    refine lv_aload_n S.1 S.2.1 dM_fetch_84 rfl (lv_at hl 0 rfl) ?_
    refine lv_iconst (v := 1) S.1 S.2.1 dM_fetch_85 (by decide) ?_
    refine cl_v (As := [.int 1]) (rest := []) S hN hK hP hD hS hA hl.1 (c_M_skip l D a _ pc ac lk mq pc mb ir sw io 0 ha rd 0 md kf kb cn pf co ou 1) k_M_79 (rc_M hK hP) ⟨by decide, by decide⟩ rfl rfl (Nat.le_of_ble_eq_true rfl) ⟨Nat.le_refl _, Nat.le_refl _⟩ dM_fetch_86 (fun u H locs hw hP hD hS => ?_)
    obtain ⟨g2, rfl⟩ | ⟨g3, rfl⟩ := hw
    · exact absurd g2 (by decide)
    · refine lv_iconst (v := 1) S.1 S.2.1 dM_fetch_89 (by decide) ?_
      exact rt_i S hr hk hK hP hD hS ((by simp [mu0, hma, an_an, g1, g3])) dM_fetch_90
  · refine lv_aload_n S.1 S.2.1 dM_fetch_47 rfl (lv_at hl 0 rfl) ?_
    refine g_M_M_delay S hK hP dM_fetch_48 ?_
    refine lv_if_ne (tgt := 71) S.1 S.2.1 dM_fetch_51 (by decide) (fun g4 => ?_) (fun g4 => ?_)
    · refine lv_aload_n S.1 S.2.1 dM_fetch_71 rfl (lv_at hl 0 rfl) ?_
      refine lv_iconst (v := 0) S.1 S.2.1 dM_fetch_72 (by decide) ?_
      refine p_M_M_delay S hK hP hD hS rfl rfl dM_fetch_73 (fun H locs hP hD hS => ?_)
      refine lv_aload_n S.1 S.2.1 dM_fetch_76 rfl (lv_at hl 0 rfl) ?_
      refine lv_aload_n S.1 S.2.1 dM_fetch_77 rfl (lv_at hl 0 rfl) ?_
      refine g_M_M_pc S hK hP dM_fetch_78 ?_
      refine p_M_M_ma S hK hP hD hS dM_fetch_81 (fun H locs hP hD hS => ?_)
      refine lv_aload_n S.1 S.2.1 dM_fetch_84 rfl (lv_at hl 0 rfl) ?_
      refine lv_iconst (v := 1) S.1 S.2.1 dM_fetch_85 (by decide) ?_
      refine cl_v (As := [.int 1]) (rest := []) S hN hK hP hD hS hA hl.1 (c_M_skip l D a _ pc ac lk mq pc mb ir sw io 0 ha rd 0 md kf kb cn pf co ou 1) k_M_79 (rc_M hK hP) ⟨by decide, by decide⟩ rfl rfl (Nat.le_of_ble_eq_true rfl) ⟨Nat.le_refl _, Nat.le_refl _⟩ dM_fetch_86 (fun u H locs hw hP hD hS => ?_)
      obtain ⟨g5, rfl⟩ | ⟨g6, rfl⟩ := hw
      · exact absurd g5 (by decide)
      · refine lv_iconst (v := 1) S.1 S.2.1 dM_fetch_89 (by decide) ?_
        exact rt_i S hr hk hK hP hD hS ((by simp [mu0, hma, an_an, g1, g4, g6])) dM_fetch_90
    · refine lv_aload_n S.1 S.2.1 dM_fetch_54 rfl (lv_at hl 0 rfl) ?_
      refine g_M_M_keyFlag S hK hP dM_fetch_55 ?_
      refine lv_if_ne (tgt := 68) S.1 S.2.1 dM_fetch_58 (by decide) (fun g7 => ?_) (fun g7 => ?_)
      · refine lv_bipush (v := 40) S.1 S.2.1 dM_fetch_68 (by decide) ?_
        exact rt_i S hr hk hK hP hD hS ((by simp [mu0, hma, an_an, g1, g4, g7])) dM_fetch_70
      · refine lv_aload_n S.1 S.2.1 dM_fetch_61 rfl (lv_at hl 0 rfl) ?_
        refine g_M_M_printFlag S hK hP dM_fetch_62 ?_
        refine lv_if_eq (tgt := 71) S.1 S.2.1 dM_fetch_65 (by decide) (fun g8 => ?_) (fun g8 => ?_)
        · refine lv_aload_n S.1 S.2.1 dM_fetch_71 rfl (lv_at hl 0 rfl) ?_
          refine lv_iconst (v := 0) S.1 S.2.1 dM_fetch_72 (by decide) ?_
          refine p_M_M_delay S hK hP hD hS rfl rfl dM_fetch_73 (fun H locs hP hD hS => ?_)
          refine lv_aload_n S.1 S.2.1 dM_fetch_76 rfl (lv_at hl 0 rfl) ?_
          refine lv_aload_n S.1 S.2.1 dM_fetch_77 rfl (lv_at hl 0 rfl) ?_
          refine g_M_M_pc S hK hP dM_fetch_78 ?_
          refine p_M_M_ma S hK hP hD hS dM_fetch_81 (fun H locs hP hD hS => ?_)
          refine lv_aload_n S.1 S.2.1 dM_fetch_84 rfl (lv_at hl 0 rfl) ?_
          refine lv_iconst (v := 1) S.1 S.2.1 dM_fetch_85 (by decide) ?_
          refine cl_v (As := [.int 1]) (rest := []) S hN hK hP hD hS hA hl.1 (c_M_skip l D a _ pc ac lk mq pc mb ir sw io 0 ha rd 0 md kf kb cn pf co ou 1) k_M_79 (rc_M hK hP) ⟨by decide, by decide⟩ rfl rfl (Nat.le_of_ble_eq_true rfl) ⟨Nat.le_refl _, Nat.le_refl _⟩ dM_fetch_86 (fun u H locs hw hP hD hS => ?_)
          obtain ⟨g9, rfl⟩ | ⟨g10, rfl⟩ := hw
          · exact absurd g9 (by decide)
          · refine lv_iconst (v := 1) S.1 S.2.1 dM_fetch_89 (by decide) ?_
            exact rt_i S hr hk hK hP hD hS ((by simp [mu0, hma, an_an, g1, g4, g7, g8, g10])) dM_fetch_90
        · refine lv_bipush (v := 40) S.1 S.2.1 dM_fetch_68 (by decide) ?_
          exact rt_i S hr hk hK hP hD hS ((by simp [mu0, hma, an_an, g1, g4, g7, g8])) dM_fetch_70

set_option maxHeartbeats 4000000 in
set_option maxRecDepth 100000 in
theorem c_M_fetch_1 (l : Launch) (D : va_G) (a : AR) (sz : Nat) (pc ac lk mq ma mb ir sw io dl ha rd md kf kb cn pf : Int32) (co ou : Nat → Int32) (I : Iv a.2.2.2.2.2 (pc, ac, lk, mq, ma, mb, ir, sw, io, dl, ha, rd, 1, md, kf, kb, cn, pf, co, ou)) : MI l D (wr a) (tr a) sz yM_fetch cM_fetch 1 (some .int) 1 [.ref a.1] (pc, ac, lk, mq, ma, mb, ir, sw, io, dl, ha, rd, 1, md, kf, kb, cn, pf, co, ou) (fun r u => (r, u) = mu1 (pc, ac, lk, mq, ma, mb, ir, sw, io, dl, ha, rd, 1, md, kf, kb, cn, pf, co, ou)) := by
  refine en_i RM rfl (by decide) (Nat.le_of_ble_eq_true rfl) ?_
  intro p e s m below meth c A ls S hr hk hA hN hK hP hD hS hl
  have hl : lv_has ls 1 [(0, .ref a.1)] := hl
  obtain ⟨⟨hpc, hac, hmq, hma, hmb, hir, hsw⟩, hlk, ⟨hio, hdl, hha, hrd, hkf, hpf⟩, hsn, hlt, hkb, hcn, hn, hco⟩ := I
  refine lv_aload_n S.1 S.2.1 dM_fetch_0 rfl (lv_at hl 0 rfl) ?_
  refine g_M_M_at S hK hP dM_fetch_1 ?_
  refine lv_tableIn (off := 87) (tgt := 91) S.1 S.2.1 dM_fetch_4 (by decide +kernel) (by decide +kernel) (by decide +kernel) (by decide) ?_
  refine lv_aload_n S.1 S.2.1 dM_fetch_91 rfl (lv_at hl 0 rfl) ?_
  refine lv_aload_n S.1 S.2.1 dM_fetch_92 rfl (lv_at hl 0 rfl) ?_
  refine g_M_M_core S hK hP dM_fetch_93 ?_
  refine lv_aload_n S.1 S.2.1 dM_fetch_96 rfl (lv_at hl 0 rfl) ?_
  refine g_M_M_ma S hK hP dM_fetch_97 ?_
  refine ld_rco S hK hP (in_w hma) dM_fetch_100 ?_
  refine p_M_M_mb S hK hP hD hS dM_fetch_101 (fun H locs hP hD hS => ?_)
  refine lv_aload_n S.1 S.2.1 dM_fetch_104 rfl (lv_at hl 0 rfl) ?_
  refine lv_aload_n S.1 S.2.1 dM_fetch_105 rfl (lv_at hl 0 rfl) ?_
  refine g_M_M_mb S hK hP dM_fetch_106 ?_
  refine p_M_M_ir S hK hP hD hS dM_fetch_109 (fun H locs hP hD hS => ?_)
  refine lv_aload_n S.1 S.2.1 dM_fetch_112 rfl (lv_at hl 0 rfl) ?_
  refine g_M_M_ir S hK hP dM_fetch_113 ?_
  refine lv_sipush (v := 3584) S.1 S.2.1 dM_fetch_116 (by decide) ?_
  refine lv_icmp_lt (tgt := 127) S.1 S.2.1 dM_fetch_119 (by decide) (fun g1 => ?_) (fun g1 => ?_)
  · refine lv_aload_n S.1 S.2.1 dM_fetch_127 rfl (lv_at hl 0 rfl) ?_
    refine g_M_M_ir S hK hP dM_fetch_128 ?_
    refine lv_sipush (v := 3072) S.1 S.2.1 dM_fetch_131 (by decide) ?_
    refine lv_icmp_lt (tgt := 142) S.1 S.2.1 dM_fetch_134 (by decide) (fun g2 => ?_) (fun g2 => ?_)
    · refine lv_iconst (v := 2) S.1 S.2.1 dM_fetch_142 (by decide) ?_
      exact rt_i S hr hk hK hP hD hS ((by simp [mu1, hma, an_an, g1, g2])) dM_fetch_143
    · refine lv_bipush (v := 32) S.1 S.2.1 dM_fetch_137 (by decide) ?_
      refine lv_goto (tgt := 143) S.1 S.2.1 dM_fetch_139 (by decide) ?_
      exact rt_i S hr hk hK hP hD hS ((by simp [mu1, hma, an_an, g1, g2])) dM_fetch_143
  · refine lv_bipush (v := 20) S.1 S.2.1 dM_fetch_122 (by decide) ?_
    refine lv_goto (tgt := 143) S.1 S.2.1 dM_fetch_124 (by decide) ?_
    exact rt_i S hr hk hK hP hD hS ((by simp [mu1, hma, an_an, g1])) dM_fetch_143

set_option maxHeartbeats 4000000 in
set_option maxRecDepth 100000 in
theorem c_M_fetch_2 (l : Launch) (D : va_G) (a : AR) (sz : Nat) (pc ac lk mq ma mb ir sw io dl ha rd md kf kb cn pf : Int32) (co ou : Nat → Int32) (I : Iv a.2.2.2.2.2 (pc, ac, lk, mq, ma, mb, ir, sw, io, dl, ha, rd, 2, md, kf, kb, cn, pf, co, ou)) : MI l D (wr a) (tr a) sz yM_fetch cM_fetch 1 (some .int) 1 [.ref a.1] (pc, ac, lk, mq, ma, mb, ir, sw, io, dl, ha, rd, 2, md, kf, kb, cn, pf, co, ou) (fun r u => (r, u) = mu2 (pc, ac, lk, mq, ma, mb, ir, sw, io, dl, ha, rd, 2, md, kf, kb, cn, pf, co, ou)) := by
  refine en_i RM rfl (by decide) (Nat.le_of_ble_eq_true rfl) ?_
  intro p e s m below meth c A ls S hr hk hA hN hK hP hD hS hl
  have hl : lv_has ls 1 [(0, .ref a.1)] := hl
  obtain ⟨⟨hpc, hac, hmq, hma, hmb, hir, hsw⟩, hlk, ⟨hio, hdl, hha, hrd, hkf, hpf⟩, hsn, hlt, hkb, hcn, hn, hco⟩ := I
  refine lv_aload_n S.1 S.2.1 dM_fetch_0 rfl (lv_at hl 0 rfl) ?_
  refine g_M_M_at S hK hP dM_fetch_1 ?_
  refine lv_tableIn (off := 140) (tgt := 144) S.1 S.2.1 dM_fetch_4 (by decide +kernel) (by decide +kernel) (by decide +kernel) (by decide) ?_
  refine lv_aload_n S.1 S.2.1 dM_fetch_144 rfl (lv_at hl 0 rfl) ?_
  refine lv_aload_n S.1 S.2.1 dM_fetch_145 rfl (lv_at hl 0 rfl) ?_
  refine g_M_M_ir S hK hP dM_fetch_146 ?_
  refine lv_bipush (v := 127) S.1 S.2.1 dM_fetch_149 (by decide) ?_
  refine lv_iand S.1 S.2.1 dM_fetch_151 ?_
  refine lv_aload_n S.1 S.2.1 dM_fetch_152 rfl (lv_at hl 0 rfl) ?_
  refine lv_sipush (v := 128) S.1 S.2.1 dM_fetch_153 (by decide) ?_
  refine cl_i (As := [.int 128]) (rest := [.int (ir &&& 127), .ref a.1]) S hN hK hP hD hS hA hl.1 (c_M_bit l D a _ pc ac lk mq ma mb ir sw io dl ha rd 2 md kf kb cn pf co ou 128) k_M_83 (rc_M hK hP) ⟨by decide, by decide⟩ rfl rfl (Nat.le_of_ble_eq_true rfl) ⟨Nat.le_refl _, Nat.le_refl _⟩ dM_fetch_156 (fun r u H locs hw hP hD hS => ?_)
  obtain ⟨g1, rfl, rfl⟩ | ⟨g2, rfl, rfl⟩ := hw
  · refine lv_if_eq (tgt := 173) S.1 S.2.1 dM_fetch_159 (by decide) (fun _ => ?_) (fun g3 => absurd (by decide) g3)
    refine lv_iconst (v := 0) S.1 S.2.1 dM_fetch_173 (by decide) ?_
    refine lv_iadd S.1 S.2.1 dM_fetch_174 ?_
    refine p_M_M_ma S hK hP hD hS dM_fetch_175 (fun H locs hP hD hS => ?_)
    refine lv_aload_n S.1 S.2.1 dM_fetch_178 rfl (lv_at hl 0 rfl) ?_
    refine lv_sipush (v := 256) S.1 S.2.1 dM_fetch_179 (by decide) ?_
    refine cl_i (As := [.int 256]) (rest := []) S hN hK hP hD hS hA hl.1 (c_M_bit l D a _ pc ac lk mq ((ir &&& 127) + 0) mb ir sw io dl ha rd 2 md kf kb cn pf co ou 256) k_M_83 (rc_M hK hP) ⟨by decide, by decide⟩ rfl rfl (Nat.le_of_ble_eq_true rfl) ⟨Nat.le_refl _, Nat.le_refl _⟩ dM_fetch_182 (fun r u H locs hw hP hD hS => ?_)
    obtain ⟨g4, rfl, rfl⟩ | ⟨g5, rfl, rfl⟩ := hw
    · refine lv_if_eq (tgt := 192) S.1 S.2.1 dM_fetch_185 (by decide) (fun _ => ?_) (fun g6 => absurd (by decide) g6)
      refine lv_bipush (v := 8) S.1 S.2.1 dM_fetch_192 (by decide) ?_
      refine lv_aload_n S.1 S.2.1 dM_fetch_194 rfl (lv_at hl 0 rfl) ?_
      refine g_M_M_ir S hK hP dM_fetch_195 ?_
      refine lv_sipush (v := 512) S.1 S.2.1 dM_fetch_198 (by decide) ?_
      refine lv_idiv S.1 S.2.1 dM_fetch_201 (by decide) ?_
      refine lv_iadd S.1 S.2.1 dM_fetch_202 ?_
      exact rt_i S hr hk hK hP hD hS ((by simp [mu2, hma, an_an, Int32.add_comm, g1, g4])) dM_fetch_203
    · refine lv_if_eq (tgt := 192) S.1 S.2.1 dM_fetch_185 (by decide) (fun g7 => absurd g7 (by decide)) (fun _ => ?_)
      refine lv_iconst (v := 3) S.1 S.2.1 dM_fetch_188 (by decide) ?_
      refine lv_goto (tgt := 203) S.1 S.2.1 dM_fetch_189 (by decide) ?_
      exact rt_i S hr hk hK hP hD hS ((by simp [mu2, hma, an_an, Int32.add_comm, g1, g5])) dM_fetch_203
  · refine lv_if_eq (tgt := 173) S.1 S.2.1 dM_fetch_159 (by decide) (fun g8 => absurd g8 (by decide)) (fun _ => ?_)
    refine lv_aload_n S.1 S.2.1 dM_fetch_162 rfl (lv_at hl 0 rfl) ?_
    refine g_M_M_ma S hK hP dM_fetch_163 ?_
    refine lv_sipush (v := 3968) S.1 S.2.1 dM_fetch_166 (by decide) ?_
    refine lv_iand S.1 S.2.1 dM_fetch_169 ?_
    refine lv_goto (tgt := 174) S.1 S.2.1 dM_fetch_170 (by decide) ?_
    refine lv_iadd S.1 S.2.1 dM_fetch_174 ?_
    refine p_M_M_ma S hK hP hD hS dM_fetch_175 (fun H locs hP hD hS => ?_)
    refine lv_aload_n S.1 S.2.1 dM_fetch_178 rfl (lv_at hl 0 rfl) ?_
    refine lv_sipush (v := 256) S.1 S.2.1 dM_fetch_179 (by decide) ?_
    refine cl_i (As := [.int 256]) (rest := []) S hN hK hP hD hS hA hl.1 (c_M_bit l D a _ pc ac lk mq ((ir &&& 127) + (ma &&& 3968)) mb ir sw io dl ha rd 2 md kf kb cn pf co ou 256) k_M_83 (rc_M hK hP) ⟨by decide, by decide⟩ rfl rfl (Nat.le_of_ble_eq_true rfl) ⟨Nat.le_refl _, Nat.le_refl _⟩ dM_fetch_182 (fun r u H locs hw hP hD hS => ?_)
    obtain ⟨g9, rfl, rfl⟩ | ⟨g10, rfl, rfl⟩ := hw
    · refine lv_if_eq (tgt := 192) S.1 S.2.1 dM_fetch_185 (by decide) (fun _ => ?_) (fun g11 => absurd (by decide) g11)
      refine lv_bipush (v := 8) S.1 S.2.1 dM_fetch_192 (by decide) ?_
      refine lv_aload_n S.1 S.2.1 dM_fetch_194 rfl (lv_at hl 0 rfl) ?_
      refine g_M_M_ir S hK hP dM_fetch_195 ?_
      refine lv_sipush (v := 512) S.1 S.2.1 dM_fetch_198 (by decide) ?_
      refine lv_idiv S.1 S.2.1 dM_fetch_201 (by decide) ?_
      refine lv_iadd S.1 S.2.1 dM_fetch_202 ?_
      exact rt_i S hr hk hK hP hD hS ((by simp [mu2, hma, an_an, Int32.add_comm, g2, g9])) dM_fetch_203
    · refine lv_if_eq (tgt := 192) S.1 S.2.1 dM_fetch_185 (by decide) (fun g12 => absurd g12 (by decide)) (fun _ => ?_)
      refine lv_iconst (v := 3) S.1 S.2.1 dM_fetch_188 (by decide) ?_
      refine lv_goto (tgt := 203) S.1 S.2.1 dM_fetch_189 (by decide) ?_
      exact rt_i S hr hk hK hP hD hS ((by simp [mu2, hma, an_an, Int32.add_comm, g2, g10])) dM_fetch_203

set_option maxHeartbeats 4000000 in
set_option maxRecDepth 100000 in
theorem c_M_fetch_3 (l : Launch) (D : va_G) (a : AR) (sz : Nat) (pc ac lk mq ma mb ir sw io dl ha rd md kf kb cn pf : Int32) (co ou : Nat → Int32) (I : Iv a.2.2.2.2.2 (pc, ac, lk, mq, ma, mb, ir, sw, io, dl, ha, rd, 3, md, kf, kb, cn, pf, co, ou)) : MI l D (wr a) (tr a) sz yM_fetch cM_fetch 1 (some .int) 1 [.ref a.1] (pc, ac, lk, mq, ma, mb, ir, sw, io, dl, ha, rd, 3, md, kf, kb, cn, pf, co, ou) (fun r u => (r, u) = mu3 (pc, ac, lk, mq, ma, mb, ir, sw, io, dl, ha, rd, 3, md, kf, kb, cn, pf, co, ou)) := by
  refine en_i RM rfl (by decide) (Nat.le_of_ble_eq_true rfl) ?_
  intro p e s m below meth c A ls S hr hk hA hN hK hP hD hS hl
  have hl : lv_has ls 1 [(0, .ref a.1)] := hl
  obtain ⟨⟨hpc, hac, hmq, hma, hmb, hir, hsw⟩, hlk, ⟨hio, hdl, hha, hrd, hkf, hpf⟩, hsn, hlt, hkb, hcn, hn, hco⟩ := I
  refine lv_aload_n S.1 S.2.1 dM_fetch_0 rfl (lv_at hl 0 rfl) ?_
  refine g_M_M_at S hK hP dM_fetch_1 ?_
  refine lv_tableIn (off := 200) (tgt := 204) S.1 S.2.1 dM_fetch_4 (by decide +kernel) (by decide +kernel) (by decide +kernel) (by decide) ?_
  refine lv_aload_n S.1 S.2.1 dM_fetch_204 rfl (lv_at hl 0 rfl) ?_
  refine lv_aload_n S.1 S.2.1 dM_fetch_205 rfl (lv_at hl 0 rfl) ?_
  refine g_M_M_core S hK hP dM_fetch_206 ?_
  refine lv_aload_n S.1 S.2.1 dM_fetch_209 rfl (lv_at hl 0 rfl) ?_
  refine g_M_M_ma S hK hP dM_fetch_210 ?_
  refine ld_rco S hK hP (in_w hma) dM_fetch_213 ?_
  refine p_M_M_mb S hK hP hD hS dM_fetch_214 (fun H locs hP hD hS => ?_)
  refine lv_aload_n S.1 S.2.1 dM_fetch_217 rfl (lv_at hl 0 rfl) ?_
  refine g_M_M_ma S hK hP dM_fetch_218 ?_
  refine lv_bipush (v := 8) S.1 S.2.1 dM_fetch_221 (by decide) ?_
  refine lv_icmp_lt (tgt := 239) S.1 S.2.1 dM_fetch_223 (by decide) (fun g1 => ?_) (fun g1 => ?_)
  · refine lv_iconst (v := 5) S.1 S.2.1 dM_fetch_239 (by decide) ?_
    exact rt_i S hr hk hK hP hD hS ((by simp [mu3, hma, an_an, g1])) dM_fetch_240
  · refine lv_aload_n S.1 S.2.1 dM_fetch_226 rfl (lv_at hl 0 rfl) ?_
    refine g_M_M_ma S hK hP dM_fetch_227 ?_
    refine lv_bipush (v := 15) S.1 S.2.1 dM_fetch_230 (by decide) ?_
    refine lv_icmp_gt (tgt := 239) S.1 S.2.1 dM_fetch_232 (by decide) (fun g2 => ?_) (fun g2 => ?_)
    · refine lv_iconst (v := 5) S.1 S.2.1 dM_fetch_239 (by decide) ?_
      exact rt_i S hr hk hK hP hD hS ((by simp [mu3, hma, an_an, g1, g2])) dM_fetch_240
    · refine lv_iconst (v := 4) S.1 S.2.1 dM_fetch_235 (by decide) ?_
      refine lv_goto (tgt := 240) S.1 S.2.1 dM_fetch_236 (by decide) ?_
      exact rt_i S hr hk hK hP hD hS ((by simp [mu3, hma, an_an, g1, g2])) dM_fetch_240

set_option maxHeartbeats 4000000 in
set_option maxRecDepth 100000 in
theorem c_M_fetch_4 (l : Launch) (D : va_G) (a : AR) (sz : Nat) (pc ac lk mq ma mb ir sw io dl ha rd md kf kb cn pf : Int32) (co ou : Nat → Int32) (I : Iv a.2.2.2.2.2 (pc, ac, lk, mq, ma, mb, ir, sw, io, dl, ha, rd, 4, md, kf, kb, cn, pf, co, ou)) : MI l D (wr a) (tr a) sz yM_fetch cM_fetch 1 (some .int) 1 [.ref a.1] (pc, ac, lk, mq, ma, mb, ir, sw, io, dl, ha, rd, 4, md, kf, kb, cn, pf, co, ou) (fun r u => (r, u) = mu4 (pc, ac, lk, mq, ma, mb, ir, sw, io, dl, ha, rd, 4, md, kf, kb, cn, pf, co, ou)) := by
  refine en_i RM rfl (by decide) (Nat.le_of_ble_eq_true rfl) ?_
  intro p e s m below meth c A ls S hr hk hA hN hK hP hD hS hl
  have hl : lv_has ls 1 [(0, .ref a.1)] := hl
  obtain ⟨⟨hpc, hac, hmq, hma, hmb, hir, hsw⟩, hlk, ⟨hio, hdl, hha, hrd, hkf, hpf⟩, hsn, hlt, hkb, hcn, hn, hco⟩ := I
  refine lv_aload_n S.1 S.2.1 dM_fetch_0 rfl (lv_at hl 0 rfl) ?_
  refine g_M_M_at S hK hP dM_fetch_1 ?_
  refine lv_tableIn (off := 237) (tgt := 241) S.1 S.2.1 dM_fetch_4 (by decide +kernel) (by decide +kernel) (by decide +kernel) (by decide) ?_
  refine lv_aload_n S.1 S.2.1 dM_fetch_241 rfl (lv_at hl 0 rfl) ?_
  refine lv_aload_n S.1 S.2.1 dM_fetch_242 rfl (lv_at hl 0 rfl) ?_
  refine g_M_M_mb S hK hP dM_fetch_243 ?_
  refine lv_iconst (v := 1) S.1 S.2.1 dM_fetch_246 (by decide) ?_
  refine lv_iadd S.1 S.2.1 dM_fetch_247 ?_
  refine lv_sipush (v := 4095) S.1 S.2.1 dM_fetch_248 (by decide) ?_
  refine lv_iand S.1 S.2.1 dM_fetch_251 ?_
  refine p_M_M_mb S hK hP hD hS dM_fetch_252 (fun H locs hP hD hS => ?_)
  refine lv_aload_n S.1 S.2.1 dM_fetch_255 rfl (lv_at hl 0 rfl) ?_
  refine g_M_M_core S hK hP dM_fetch_256 ?_
  refine lv_aload_n S.1 S.2.1 dM_fetch_259 rfl (lv_at hl 0 rfl) ?_
  refine g_M_M_ma S hK hP dM_fetch_260 ?_
  refine lv_aload_n S.1 S.2.1 dM_fetch_263 rfl (lv_at hl 0 rfl) ?_
  refine g_M_M_mb S hK hP dM_fetch_264 ?_
  refine st_rco S hK hP hD hS (in_w hma) dM_fetch_267 (fun H locs hP hD hS => ?_)
  refine lv_iconst (v := 5) S.1 S.2.1 dM_fetch_268 (by decide) ?_
  exact rt_i S hr hk hK hP hD hS ((by simp [mu4, hma, an_an])) dM_fetch_269

set_option maxHeartbeats 4000000 in
set_option maxRecDepth 100000 in
theorem c_M_fetch_5 (l : Launch) (D : va_G) (a : AR) (sz : Nat) (pc ac lk mq ma mb ir sw io dl ha rd md kf kb cn pf : Int32) (co ou : Nat → Int32) (I : Iv a.2.2.2.2.2 (pc, ac, lk, mq, ma, mb, ir, sw, io, dl, ha, rd, 5, md, kf, kb, cn, pf, co, ou)) : MI l D (wr a) (tr a) sz yM_fetch cM_fetch 1 (some .int) 1 [.ref a.1] (pc, ac, lk, mq, ma, mb, ir, sw, io, dl, ha, rd, 5, md, kf, kb, cn, pf, co, ou) (fun r u => (r, u) = mu5 (pc, ac, lk, mq, ma, mb, ir, sw, io, dl, ha, rd, 5, md, kf, kb, cn, pf, co, ou)) := by
  refine en_i RM rfl (by decide) (Nat.le_of_ble_eq_true rfl) ?_
  intro p e s m below meth c A ls S hr hk hA hN hK hP hD hS hl
  have hl : lv_has ls 1 [(0, .ref a.1)] := hl
  obtain ⟨⟨hpc, hac, hmq, hma, hmb, hir, hsw⟩, hlk, ⟨hio, hdl, hha, hrd, hkf, hpf⟩, hsn, hlt, hkb, hcn, hn, hco⟩ := I
  refine lv_aload_n S.1 S.2.1 dM_fetch_0 rfl (lv_at hl 0 rfl) ?_
  refine g_M_M_at S hK hP dM_fetch_1 ?_
  refine lv_tableOut (tgt := 270) S.1 S.2.1 dM_fetch_4 (by decide +kernel) (by decide) ?_
  refine lv_aload_n S.1 S.2.1 dM_fetch_270 rfl (lv_at hl 0 rfl) ?_
  refine lv_aload_n S.1 S.2.1 dM_fetch_271 rfl (lv_at hl 0 rfl) ?_
  refine g_M_M_mb S hK hP dM_fetch_272 ?_
  refine p_M_M_ma S hK hP hD hS dM_fetch_275 (fun H locs hP hD hS => ?_)
  refine lv_bipush (v := 8) S.1 S.2.1 dM_fetch_278 (by decide) ?_
  refine lv_aload_n S.1 S.2.1 dM_fetch_280 rfl (lv_at hl 0 rfl) ?_
  refine g_M_M_ir S hK hP dM_fetch_281 ?_
  refine lv_sipush (v := 512) S.1 S.2.1 dM_fetch_284 (by decide) ?_
  refine lv_idiv S.1 S.2.1 dM_fetch_287 (by decide) ?_
  refine lv_iadd S.1 S.2.1 dM_fetch_288 ?_
  exact rt_i S hr hk hK hP hD hS ((by simp [mu5, hma, an_an])) dM_fetch_289
end
section
set_option maxHeartbeats 4000000 in
set_option maxRecDepth 100000 in
theorem c_M_memory_8 (l : Launch) (D : va_G) (a : AR) (sz : Nat) (pc ac lk mq ma mb ir sw io dl ha rd md kf kb cn pf : Int32) (co ou : Nat → Int32) (I : Iv a.2.2.2.2.2 (pc, ac, lk, mq, ma, mb, ir, sw, io, dl, ha, rd, 8, md, kf, kb, cn, pf, co, ou)) : MI l D (wr a) (tr a) sz yM_memory cM_memory 1 (some .int) 1 [.ref a.1] (pc, ac, lk, mq, ma, mb, ir, sw, io, dl, ha, rd, 8, md, kf, kb, cn, pf, co, ou) (fun r u => (r, u) = mu8 (pc, ac, lk, mq, ma, mb, ir, sw, io, dl, ha, rd, 8, md, kf, kb, cn, pf, co, ou)) := by
  refine en_i RM rfl (by decide) (Nat.le_of_ble_eq_true rfl) ?_
  intro p e s m below meth c A ls S hr hk hA hN hK hP hD hS hl
  have hl : lv_has ls 1 [(0, .ref a.1)] := hl
  obtain ⟨⟨hpc, hac, hmq, hma, hmb, hir, hsw⟩, hlk, ⟨hio, hdl, hha, hrd, hkf, hpf⟩, hsn, hlt, hkb, hcn, hn, hco⟩ := I
  refine lv_aload_n S.1 S.2.1 dM_memory_0 rfl (lv_at hl 0 rfl) ?_
  refine g_M_M_at S hK hP dM_memory_1 ?_
  refine lv_tableIn (off := 56) (tgt := 60) S.1 S.2.1 dM_memory_4 (by decide +kernel) (by decide +kernel) (by decide +kernel) (by decide) ?_
  refine lv_aload_n S.1 S.2.1 dM_memory_60 rfl (lv_at hl 0 rfl) ?_
  refine lv_aload_n S.1 S.2.1 dM_memory_61 rfl (lv_at hl 0 rfl) ?_
  refine g_M_M_core S hK hP dM_memory_62 ?_
  refine lv_aload_n S.1 S.2.1 dM_memory_65 rfl (lv_at hl 0 rfl) ?_
  refine g_M_M_ma S hK hP dM_memory_66 ?_
  refine ld_rco S hK hP (in_w hma) dM_memory_69 ?_
  refine p_M_M_mb S hK hP hD hS dM_memory_70 (fun H locs hP hD hS => ?_)
  refine lv_aload_n S.1 S.2.1 dM_memory_73 rfl (lv_at hl 0 rfl) ?_
  refine g_M_M_at S hK hP dM_memory_74 ?_
  refine lv_bipush (v := 8) S.1 S.2.1 dM_memory_77 (by decide) ?_
  refine lv_iadd S.1 S.2.1 dM_memory_79 ?_
  exact rt_i S hr hk hK hP hD hS ((by simp [mu8, hma, hmb])) dM_memory_80

set_option maxHeartbeats 4000000 in
set_option maxRecDepth 100000 in
theorem c_M_memory_9 (l : Launch) (D : va_G) (a : AR) (sz : Nat) (pc ac lk mq ma mb ir sw io dl ha rd md kf kb cn pf : Int32) (co ou : Nat → Int32) (I : Iv a.2.2.2.2.2 (pc, ac, lk, mq, ma, mb, ir, sw, io, dl, ha, rd, 9, md, kf, kb, cn, pf, co, ou)) : MI l D (wr a) (tr a) sz yM_memory cM_memory 1 (some .int) 1 [.ref a.1] (pc, ac, lk, mq, ma, mb, ir, sw, io, dl, ha, rd, 9, md, kf, kb, cn, pf, co, ou) (fun r u => (r, u) = mu9 (pc, ac, lk, mq, ma, mb, ir, sw, io, dl, ha, rd, 9, md, kf, kb, cn, pf, co, ou)) := by
  refine en_i RM rfl (by decide) (Nat.le_of_ble_eq_true rfl) ?_
  intro p e s m below meth c A ls S hr hk hA hN hK hP hD hS hl
  have hl : lv_has ls 1 [(0, .ref a.1)] := hl
  obtain ⟨⟨hpc, hac, hmq, hma, hmb, hir, hsw⟩, hlk, ⟨hio, hdl, hha, hrd, hkf, hpf⟩, hsn, hlt, hkb, hcn, hn, hco⟩ := I
  refine lv_aload_n S.1 S.2.1 dM_memory_0 rfl (lv_at hl 0 rfl) ?_
  refine g_M_M_at S hK hP dM_memory_1 ?_
  refine lv_tableIn (off := 56) (tgt := 60) S.1 S.2.1 dM_memory_4 (by decide +kernel) (by decide +kernel) (by decide +kernel) (by decide) ?_
  refine lv_aload_n S.1 S.2.1 dM_memory_60 rfl (lv_at hl 0 rfl) ?_
  refine lv_aload_n S.1 S.2.1 dM_memory_61 rfl (lv_at hl 0 rfl) ?_
  refine g_M_M_core S hK hP dM_memory_62 ?_
  refine lv_aload_n S.1 S.2.1 dM_memory_65 rfl (lv_at hl 0 rfl) ?_
  refine g_M_M_ma S hK hP dM_memory_66 ?_
  refine ld_rco S hK hP (in_w hma) dM_memory_69 ?_
  refine p_M_M_mb S hK hP hD hS dM_memory_70 (fun H locs hP hD hS => ?_)
  refine lv_aload_n S.1 S.2.1 dM_memory_73 rfl (lv_at hl 0 rfl) ?_
  refine g_M_M_at S hK hP dM_memory_74 ?_
  refine lv_bipush (v := 8) S.1 S.2.1 dM_memory_77 (by decide) ?_
  refine lv_iadd S.1 S.2.1 dM_memory_79 ?_
  exact rt_i S hr hk hK hP hD hS ((by simp [mu9, hma, hmb])) dM_memory_80

set_option maxHeartbeats 4000000 in
set_option maxRecDepth 100000 in
theorem c_M_memory_10 (l : Launch) (D : va_G) (a : AR) (sz : Nat) (pc ac lk mq ma mb ir sw io dl ha rd md kf kb cn pf : Int32) (co ou : Nat → Int32) (I : Iv a.2.2.2.2.2 (pc, ac, lk, mq, ma, mb, ir, sw, io, dl, ha, rd, 10, md, kf, kb, cn, pf, co, ou)) : MI l D (wr a) (tr a) sz yM_memory cM_memory 1 (some .int) 1 [.ref a.1] (pc, ac, lk, mq, ma, mb, ir, sw, io, dl, ha, rd, 10, md, kf, kb, cn, pf, co, ou) (fun r u => (r, u) = mu10 (pc, ac, lk, mq, ma, mb, ir, sw, io, dl, ha, rd, 10, md, kf, kb, cn, pf, co, ou)) := by
  refine en_i RM rfl (by decide) (Nat.le_of_ble_eq_true rfl) ?_
  intro p e s m below meth c A ls S hr hk hA hN hK hP hD hS hl
  have hl : lv_has ls 1 [(0, .ref a.1)] := hl
  obtain ⟨⟨hpc, hac, hmq, hma, hmb, hir, hsw⟩, hlk, ⟨hio, hdl, hha, hrd, hkf, hpf⟩, hsn, hlt, hkb, hcn, hn, hco⟩ := I
  refine lv_aload_n S.1 S.2.1 dM_memory_0 rfl (lv_at hl 0 rfl) ?_
  refine g_M_M_at S hK hP dM_memory_1 ?_
  refine lv_tableIn (off := 77) (tgt := 81) S.1 S.2.1 dM_memory_4 (by decide +kernel) (by decide +kernel) (by decide +kernel) (by decide) ?_
  refine lv_aload_n S.1 S.2.1 dM_memory_81 rfl (lv_at hl 0 rfl) ?_
  refine lv_aload_n S.1 S.2.1 dM_memory_82 rfl (lv_at hl 0 rfl) ?_
  refine g_M_M_core S hK hP dM_memory_83 ?_
  refine lv_aload_n S.1 S.2.1 dM_memory_86 rfl (lv_at hl 0 rfl) ?_
  refine g_M_M_ma S hK hP dM_memory_87 ?_
  refine ld_rco S hK hP (in_w hma) dM_memory_90 ?_
  refine lv_iconst (v := 1) S.1 S.2.1 dM_memory_91 (by decide) ?_
  refine lv_iadd S.1 S.2.1 dM_memory_92 ?_
  refine lv_sipush (v := 4095) S.1 S.2.1 dM_memory_93 (by decide) ?_
  refine lv_iand S.1 S.2.1 dM_memory_96 ?_
  refine p_M_M_mb S hK hP hD hS dM_memory_97 (fun H locs hP hD hS => ?_)
  refine lv_bipush (v := 18) S.1 S.2.1 dM_memory_100 (by decide) ?_
  exact rt_i S hr hk hK hP hD hS ((by simp [mu10, hma, hmb])) dM_memory_102

set_option maxHeartbeats 4000000 in
set_option maxRecDepth 100000 in
theorem c_M_memory_11 (l : Launch) (D : va_G) (a : AR) (sz : Nat) (pc ac lk mq ma mb ir sw io dl ha rd md kf kb cn pf : Int32) (co ou : Nat → Int32) (I : Iv a.2.2.2.2.2 (pc, ac, lk, mq, ma, mb, ir, sw, io, dl, ha, rd, 11, md, kf, kb, cn, pf, co, ou)) : MI l D (wr a) (tr a) sz yM_memory cM_memory 1 (some .int) 1 [.ref a.1] (pc, ac, lk, mq, ma, mb, ir, sw, io, dl, ha, rd, 11, md, kf, kb, cn, pf, co, ou) (fun r u => (r, u) = mu11 (pc, ac, lk, mq, ma, mb, ir, sw, io, dl, ha, rd, 11, md, kf, kb, cn, pf, co, ou)) := by
  refine en_i RM rfl (by decide) (Nat.le_of_ble_eq_true rfl) ?_
  intro p e s m below meth c A ls S hr hk hA hN hK hP hD hS hl
  have hl : lv_has ls 1 [(0, .ref a.1)] := hl
  obtain ⟨⟨hpc, hac, hmq, hma, hmb, hir, hsw⟩, hlk, ⟨hio, hdl, hha, hrd, hkf, hpf⟩, hsn, hlt, hkb, hcn, hn, hco⟩ := I
  refine lv_aload_n S.1 S.2.1 dM_memory_0 rfl (lv_at hl 0 rfl) ?_
  refine g_M_M_at S hK hP dM_memory_1 ?_
  refine lv_tableIn (off := 99) (tgt := 103) S.1 S.2.1 dM_memory_4 (by decide +kernel) (by decide +kernel) (by decide +kernel) (by decide) ?_
  refine lv_aload_n S.1 S.2.1 dM_memory_103 rfl (lv_at hl 0 rfl) ?_
  refine lv_aload_n S.1 S.2.1 dM_memory_104 rfl (lv_at hl 0 rfl) ?_
  refine g_M_M_ac S hK hP dM_memory_105 ?_
  refine p_M_M_mb S hK hP hD hS dM_memory_108 (fun H locs hP hD hS => ?_)
  refine lv_bipush (v := 19) S.1 S.2.1 dM_memory_111 (by decide) ?_
  exact rt_i S hr hk hK hP hD hS ((by simp [mu11, hma, hmb])) dM_memory_113

set_option maxHeartbeats 4000000 in
set_option maxRecDepth 100000 in
theorem c_M_memory_12 (l : Launch) (D : va_G) (a : AR) (sz : Nat) (pc ac lk mq ma mb ir sw io dl ha rd md kf kb cn pf : Int32) (co ou : Nat → Int32) (I : Iv a.2.2.2.2.2 (pc, ac, lk, mq, ma, mb, ir, sw, io, dl, ha, rd, 12, md, kf, kb, cn, pf, co, ou)) : MI l D (wr a) (tr a) sz yM_memory cM_memory 1 (some .int) 1 [.ref a.1] (pc, ac, lk, mq, ma, mb, ir, sw, io, dl, ha, rd, 12, md, kf, kb, cn, pf, co, ou) (fun r u => (r, u) = mu12 (pc, ac, lk, mq, ma, mb, ir, sw, io, dl, ha, rd, 12, md, kf, kb, cn, pf, co, ou)) := by
  refine en_i RM rfl (by decide) (Nat.le_of_ble_eq_true rfl) ?_
  intro p e s m below meth c A ls S hr hk hA hN hK hP hD hS hl
  have hl : lv_has ls 1 [(0, .ref a.1)] := hl
  obtain ⟨⟨hpc, hac, hmq, hma, hmb, hir, hsw⟩, hlk, ⟨hio, hdl, hha, hrd, hkf, hpf⟩, hsn, hlt, hkb, hcn, hn, hco⟩ := I
  refine lv_aload_n S.1 S.2.1 dM_memory_0 rfl (lv_at hl 0 rfl) ?_
  refine g_M_M_at S hK hP dM_memory_1 ?_
  refine lv_tableIn (off := 110) (tgt := 114) S.1 S.2.1 dM_memory_4 (by decide +kernel) (by decide +kernel) (by decide +kernel) (by decide) ?_
  refine lv_aload_n S.1 S.2.1 dM_memory_114 rfl (lv_at hl 0 rfl) ?_
  refine lv_aload_n S.1 S.2.1 dM_memory_115 rfl (lv_at hl 0 rfl) ?_
  refine g_M_M_pc S hK hP dM_memory_116 ?_
  refine p_M_M_mb S hK hP hD hS dM_memory_119 (fun H locs hP hD hS => ?_)
  refine lv_bipush (v := 15) S.1 S.2.1 dM_memory_122 (by decide) ?_
  exact rt_i S hr hk hK hP hD hS ((by simp [mu12, hma, hmb])) dM_memory_124

set_option maxHeartbeats 4000000 in
set_option maxRecDepth 100000 in
theorem c_M_memory_13 (l : Launch) (D : va_G) (a : AR) (sz : Nat) (pc ac lk mq ma mb ir sw io dl ha rd md kf kb cn pf : Int32) (co ou : Nat → Int32) (I : Iv a.2.2.2.2.2 (pc, ac, lk, mq, ma, mb, ir, sw, io, dl, ha, rd, 13, md, kf, kb, cn, pf, co, ou)) : MI l D (wr a) (tr a) sz yM_memory cM_memory 1 (some .int) 1 [.ref a.1] (pc, ac, lk, mq, ma, mb, ir, sw, io, dl, ha, rd, 13, md, kf, kb, cn, pf, co, ou) (fun r u => (r, u) = mu13 (pc, ac, lk, mq, ma, mb, ir, sw, io, dl, ha, rd, 13, md, kf, kb, cn, pf, co, ou)) := by
  refine en_i RM rfl (by decide) (Nat.le_of_ble_eq_true rfl) ?_
  intro p e s m below meth c A ls S hr hk hA hN hK hP hD hS hl
  have hl : lv_has ls 1 [(0, .ref a.1)] := hl
  obtain ⟨⟨hpc, hac, hmq, hma, hmb, hir, hsw⟩, hlk, ⟨hio, hdl, hha, hrd, hkf, hpf⟩, hsn, hlt, hkb, hcn, hn, hco⟩ := I
  refine lv_aload_n S.1 S.2.1 dM_memory_0 rfl (lv_at hl 0 rfl) ?_
  refine g_M_M_at S hK hP dM_memory_1 ?_
  refine lv_tableIn (off := 121) (tgt := 125) S.1 S.2.1 dM_memory_4 (by decide +kernel) (by decide +kernel) (by decide +kernel) (by decide) ?_
  refine lv_aload_n S.1 S.2.1 dM_memory_125 rfl (lv_at hl 0 rfl) ?_
  refine lv_aload_n S.1 S.2.1 dM_memory_126 rfl (lv_at hl 0 rfl) ?_
  refine g_M_M_ma S hK hP dM_memory_127 ?_
  refine p_M_M_pc S hK hP hD hS dM_memory_130 (fun H locs hP hD hS => ?_)
  refine lv_iconst (v := 0) S.1 S.2.1 dM_memory_133 (by decide) ?_
  exact rt_i S hr hk hK hP hD hS ((by simp [mu13, hma, hmb])) dM_memory_134

set_option maxHeartbeats 4000000 in
set_option maxRecDepth 100000 in
theorem c_M_memory_15 (l : Launch) (D : va_G) (a : AR) (sz : Nat) (pc ac lk mq ma mb ir sw io dl ha rd md kf kb cn pf : Int32) (co ou : Nat → Int32) (I : Iv a.2.2.2.2.2 (pc, ac, lk, mq, ma, mb, ir, sw, io, dl, ha, rd, 15, md, kf, kb, cn, pf, co, ou)) : MI l D (wr a) (tr a) sz yM_memory cM_memory 1 (some .int) 1 [.ref a.1] (pc, ac, lk, mq, ma, mb, ir, sw, io, dl, ha, rd, 15, md, kf, kb, cn, pf, co, ou) (fun r u => (r, u) = mu15 (pc, ac, lk, mq, ma, mb, ir, sw, io, dl, ha, rd, 15, md, kf, kb, cn, pf, co, ou)) := by
  refine en_i RM rfl (by decide) (Nat.le_of_ble_eq_true rfl) ?_
  intro p e s m below meth c A ls S hr hk hA hN hK hP hD hS hl
  have hl : lv_has ls 1 [(0, .ref a.1)] := hl
  obtain ⟨⟨hpc, hac, hmq, hma, hmb, hir, hsw⟩, hlk, ⟨hio, hdl, hha, hrd, hkf, hpf⟩, hsn, hlt, hkb, hcn, hn, hco⟩ := I
  refine lv_aload_n S.1 S.2.1 dM_memory_0 rfl (lv_at hl 0 rfl) ?_
  refine g_M_M_at S hK hP dM_memory_1 ?_
  refine lv_tableIn (off := 156) (tgt := 160) S.1 S.2.1 dM_memory_4 (by decide +kernel) (by decide +kernel) (by decide +kernel) (by decide) ?_
  refine lv_aload_n S.1 S.2.1 dM_memory_160 rfl (lv_at hl 0 rfl) ?_
  refine g_M_M_core S hK hP dM_memory_161 ?_
  refine lv_aload_n S.1 S.2.1 dM_memory_164 rfl (lv_at hl 0 rfl) ?_
  refine g_M_M_ma S hK hP dM_memory_165 ?_
  refine lv_aload_n S.1 S.2.1 dM_memory_168 rfl (lv_at hl 0 rfl) ?_
  refine g_M_M_mb S hK hP dM_memory_169 ?_
  refine st_rco S hK hP hD hS (in_w hma) dM_memory_172 (fun H locs hP hD hS => ?_)
  refine lv_aload_n S.1 S.2.1 dM_memory_173 rfl (lv_at hl 0 rfl) ?_
  refine lv_aload_n S.1 S.2.1 dM_memory_174 rfl (lv_at hl 0 rfl) ?_
  refine g_M_M_at S hK hP dM_memory_175 ?_
  refine lv_bipush (v := 18) S.1 S.2.1 dM_memory_178 (by decide) ?_
  refine lv_icmp_ne (tgt := 194) S.1 S.2.1 dM_memory_180 (by decide) (fun _ => ?_) (fun g1 => absurd g1 (by decide))
  refine lv_iconst (v := 0) S.1 S.2.1 dM_memory_194 (by decide) ?_
  refine cl_v (As := [.int 0]) (rest := []) S hN hK hP hD hS hA hl.1 (c_M_skip l D a _ pc ac lk mq ma mb ir sw io dl ha rd 15 md kf kb cn pf (upd co ma.toNatClampNeg mb) ou 0) k_M_79 (rc_M hK hP) ⟨by decide, by decide⟩ rfl rfl (Nat.le_of_ble_eq_true rfl) ⟨Nat.le_refl _, Nat.le_refl _⟩ dM_memory_195 (fun u H locs hw hP hD hS => ?_)
  obtain ⟨g2, rfl⟩ | ⟨g3, rfl⟩ := hw
  · refine lv_aload_n S.1 S.2.1 dM_memory_198 rfl (lv_at hl 0 rfl) ?_
    refine lv_aload_n S.1 S.2.1 dM_memory_199 rfl (lv_at hl 0 rfl) ?_
    refine g_M_M_at S hK hP dM_memory_200 ?_
    refine lv_bipush (v := 19) S.1 S.2.1 dM_memory_203 (by decide) ?_
    refine lv_icmp_ne (tgt := 212) S.1 S.2.1 dM_memory_205 (by decide) (fun _ => ?_) (fun g4 => absurd g4 (by decide))
    refine lv_aload_n S.1 S.2.1 dM_memory_212 rfl (lv_at hl 0 rfl) ?_
    refine g_M_M_ac S hK hP dM_memory_213 ?_
    refine p_M_M_ac S hK hP hD hS dM_memory_216 (fun H locs hP hD hS => ?_)
    refine lv_aload_n S.1 S.2.1 dM_memory_219 rfl (lv_at hl 0 rfl) ?_
    refine lv_aload_n S.1 S.2.1 dM_memory_220 rfl (lv_at hl 0 rfl) ?_
    refine g_M_M_at S hK hP dM_memory_221 ?_
    refine lv_bipush (v := 15) S.1 S.2.1 dM_memory_224 (by decide) ?_
    refine lv_icmp_ne (tgt := 242) S.1 S.2.1 dM_memory_226 (by decide) (fun g5 => absurd (by decide) g5) (fun _ => ?_)
    refine lv_aload_n S.1 S.2.1 dM_memory_229 rfl (lv_at hl 0 rfl) ?_
    refine g_M_M_ma S hK hP dM_memory_230 ?_
    refine lv_iconst (v := 1) S.1 S.2.1 dM_memory_233 (by decide) ?_
    refine lv_iadd S.1 S.2.1 dM_memory_234 ?_
    refine lv_sipush (v := 4095) S.1 S.2.1 dM_memory_235 (by decide) ?_
    refine lv_iand S.1 S.2.1 dM_memory_238 ?_
    refine lv_goto (tgt := 246) S.1 S.2.1 dM_memory_239 (by decide) ?_
    refine p_M_M_pc S hK hP hD hS dM_memory_246 (fun H locs hP hD hS => ?_)
    refine lv_iconst (v := 0) S.1 S.2.1 dM_memory_249 (by decide) ?_
    exact rt_i S hr hk hK hP hD hS ((by simp [mu15, hma, hmb, g2])) dM_memory_250
  · exact absurd g3 (by decide)

set_option maxHeartbeats 4000000 in
set_option maxRecDepth 100000 in
theorem c_M_memory_16 (l : Launch) (D : va_G) (a : AR) (sz : Nat) (pc ac lk mq ma mb ir sw io dl ha rd md kf kb cn pf : Int32) (co ou : Nat → Int32) (I : Iv a.2.2.2.2.2 (pc, ac, lk, mq, ma, mb, ir, sw, io, dl, ha, rd, 16, md, kf, kb, cn, pf, co, ou)) : MI l D (wr a) (tr a) sz yM_memory cM_memory 1 (some .int) 1 [.ref a.1] (pc, ac, lk, mq, ma, mb, ir, sw, io, dl, ha, rd, 16, md, kf, kb, cn, pf, co, ou) (fun r u => (r, u) = mu16 (pc, ac, lk, mq, ma, mb, ir, sw, io, dl, ha, rd, 16, md, kf, kb, cn, pf, co, ou)) := by
  refine en_i RM rfl (by decide) (Nat.le_of_ble_eq_true rfl) ?_
  intro p e s m below meth c A ls S hr hk hA hN hK hP hD hS hl
  have hl : lv_has ls 1 [(0, .ref a.1)] := hl
  obtain ⟨⟨hpc, hac, hmq, hma, hmb, hir, hsw⟩, hlk, ⟨hio, hdl, hha, hrd, hkf, hpf⟩, hsn, hlt, hkb, hcn, hn, hco⟩ := I
  refine lv_aload_n S.1 S.2.1 dM_memory_0 rfl (lv_at hl 0 rfl) ?_
  refine g_M_M_at S hK hP dM_memory_1 ?_
  refine lv_tableIn (off := 131) (tgt := 135) S.1 S.2.1 dM_memory_4 (by decide +kernel) (by decide +kernel) (by decide +kernel) (by decide) ?_
  refine lv_aload_n S.1 S.2.1 dM_memory_135 rfl (lv_at hl 0 rfl) ?_
  refine lv_aload_n S.1 S.2.1 dM_memory_136 rfl (lv_at hl 0 rfl) ?_
  refine g_M_M_ac S hK hP dM_memory_137 ?_
  refine lv_aload_n S.1 S.2.1 dM_memory_140 rfl (lv_at hl 0 rfl) ?_
  refine g_M_M_mb S hK hP dM_memory_141 ?_
  refine lv_iand S.1 S.2.1 dM_memory_144 ?_
  refine p_M_M_ac S hK hP hD hS dM_memory_145 (fun H locs hP hD hS => ?_)
  refine lv_iconst (v := 0) S.1 S.2.1 dM_memory_148 (by decide) ?_
  exact rt_i S hr hk hK hP hD hS ((by simp [mu16, hma, hmb])) dM_memory_149

set_option maxHeartbeats 4000000 in
set_option maxRecDepth 100000 in
theorem c_M_memory_17 (l : Launch) (D : va_G) (a : AR) (sz : Nat) (pc ac lk mq ma mb ir sw io dl ha rd md kf kb cn pf : Int32) (co ou : Nat → Int32) (I : Iv a.2.2.2.2.2 (pc, ac, lk, mq, ma, mb, ir, sw, io, dl, ha, rd, 17, md, kf, kb, cn, pf, co, ou)) : MI l D (wr a) (tr a) sz yM_memory cM_memory 1 (some .int) 1 [.ref a.1] (pc, ac, lk, mq, ma, mb, ir, sw, io, dl, ha, rd, 17, md, kf, kb, cn, pf, co, ou) (fun r u => (r, u) = mu17 (pc, ac, lk, mq, ma, mb, ir, sw, io, dl, ha, rd, 17, md, kf, kb, cn, pf, co, ou)) := by
  refine en_i RM rfl (by decide) (Nat.le_of_ble_eq_true rfl) ?_
  intro p e s m below meth c A ls S hr hk hA hN hK hP hD hS hl
  have hl : lv_has ls 1 [(0, .ref a.1)] := hl
  obtain ⟨⟨hpc, hac, hmq, hma, hmb, hir, hsw⟩, hlk, ⟨hio, hdl, hha, hrd, hkf, hpf⟩, hsn, hlt, hkb, hcn, hn, hco⟩ := I
  refine lv_aload_n S.1 S.2.1 dM_memory_0 rfl (lv_at hl 0 rfl) ?_
  refine g_M_M_at S hK hP dM_memory_1 ?_
  refine lv_tableIn (off := 146) (tgt := 150) S.1 S.2.1 dM_memory_4 (by decide +kernel) (by decide +kernel) (by decide +kernel) (by decide) ?_
  refine lv_aload_n S.1 S.2.1 dM_memory_150 rfl (lv_at hl 0 rfl) ?_
  refine lv_aload_n S.1 S.2.1 dM_memory_151 rfl (lv_at hl 0 rfl) ?_
  refine g_M_M_mb S hK hP dM_memory_152 ?_
  refine cl_v (As := [.int mb]) (rest := []) S hN hK hP hD hS hA hl.1 (c_M_add l D a _ pc ac lk mq ma mb ir sw io dl ha rd 17 md kf kb cn pf co ou mb) k_M_86 (rc_M hK hP) ⟨by decide, by decide⟩ rfl rfl (Nat.le_of_ble_eq_true rfl) ⟨Nat.le_refl _, Nat.le_refl _⟩ dM_memory_155 (fun u H locs hw hP hD hS => ?_)
  obtain ⟨g1, rfl⟩ | ⟨g2, rfl⟩ := hw
  · refine lv_iconst (v := 0) S.1 S.2.1 dM_memory_158 (by decide) ?_
    exact rt_i S hr hk hK hP hD hS ((by simp [mu17, hma, hmb, g1])) dM_memory_159
  · refine lv_iconst (v := 0) S.1 S.2.1 dM_memory_158 (by decide) ?_
    exact rt_i S hr hk hK hP hD hS ((by simp [mu17, hma, hmb, g2])) dM_memory_159

set_option maxHeartbeats 4000000 in
set_option maxRecDepth 100000 in
theorem c_M_memory_18 (l : Launch) (D : va_G) (a : AR) (sz : Nat) (pc ac lk mq ma mb ir sw io dl ha rd md kf kb cn pf : Int32) (co ou : Nat → Int32) (I : Iv a.2.2.2.2.2 (pc, ac, lk, mq, ma, mb, ir, sw, io, dl, ha, rd, 18, md, kf, kb, cn, pf, co, ou)) : MI l D (wr a) (tr a) sz yM_memory cM_memory 1 (some .int) 1 [.ref a.1] (pc, ac, lk, mq, ma, mb, ir, sw, io, dl, ha, rd, 18, md, kf, kb, cn, pf, co, ou) (fun r u => (r, u) = mu18 (pc, ac, lk, mq, ma, mb, ir, sw, io, dl, ha, rd, 18, md, kf, kb, cn, pf, co, ou)) := by
  refine en_i RM rfl (by decide) (Nat.le_of_ble_eq_true rfl) ?_
  intro p e s m below meth c A ls S hr hk hA hN hK hP hD hS hl
  have hl : lv_has ls 1 [(0, .ref a.1)] := hl
  obtain ⟨⟨hpc, hac, hmq, hma, hmb, hir, hsw⟩, hlk, ⟨hio, hdl, hha, hrd, hkf, hpf⟩, hsn, hlt, hkb, hcn, hn, hco⟩ := I
  refine lv_aload_n S.1 S.2.1 dM_memory_0 rfl (lv_at hl 0 rfl) ?_
  refine g_M_M_at S hK hP dM_memory_1 ?_
  refine lv_tableOut (tgt := 160) S.1 S.2.1 dM_memory_4 (by decide +kernel) (by decide) ?_
  refine lv_aload_n S.1 S.2.1 dM_memory_160 rfl (lv_at hl 0 rfl) ?_
  refine g_M_M_core S hK hP dM_memory_161 ?_
  refine lv_aload_n S.1 S.2.1 dM_memory_164 rfl (lv_at hl 0 rfl) ?_
  refine g_M_M_ma S hK hP dM_memory_165 ?_
  refine lv_aload_n S.1 S.2.1 dM_memory_168 rfl (lv_at hl 0 rfl) ?_
  refine g_M_M_mb S hK hP dM_memory_169 ?_
  refine st_rco S hK hP hD hS (in_w hma) dM_memory_172 (fun H locs hP hD hS => ?_)
  refine lv_aload_n S.1 S.2.1 dM_memory_173 rfl (lv_at hl 0 rfl) ?_
  refine lv_aload_n S.1 S.2.1 dM_memory_174 rfl (lv_at hl 0 rfl) ?_
  refine g_M_M_at S hK hP dM_memory_175 ?_
  refine lv_bipush (v := 18) S.1 S.2.1 dM_memory_178 (by decide) ?_
  refine lv_icmp_ne (tgt := 194) S.1 S.2.1 dM_memory_180 (by decide) (fun g1 => absurd (by decide) g1) (fun _ => ?_)
  refine lv_aload_n S.1 S.2.1 dM_memory_183 rfl (lv_at hl 0 rfl) ?_
  refine g_M_M_mb S hK hP dM_memory_184 ?_
  refine lv_if_ne (tgt := 194) S.1 S.2.1 dM_memory_187 (by decide) (fun g2 => ?_) (fun g2 => ?_)
  · refine lv_iconst (v := 0) S.1 S.2.1 dM_memory_194 (by decide) ?_
    refine cl_v (As := [.int 0]) (rest := []) S hN hK hP hD hS hA hl.1 (c_M_skip l D a _ pc ac lk mq ma mb ir sw io dl ha rd 18 md kf kb cn pf (upd co ma.toNatClampNeg mb) ou 0) k_M_79 (rc_M hK hP) ⟨by decide, by decide⟩ rfl rfl (Nat.le_of_ble_eq_true rfl) ⟨Nat.le_refl _, Nat.le_refl _⟩ dM_memory_195 (fun u H locs hw hP hD hS => ?_)
    obtain ⟨g3, rfl⟩ | ⟨g4, rfl⟩ := hw
    · refine lv_aload_n S.1 S.2.1 dM_memory_198 rfl (lv_at hl 0 rfl) ?_
      refine lv_aload_n S.1 S.2.1 dM_memory_199 rfl (lv_at hl 0 rfl) ?_
      refine g_M_M_at S hK hP dM_memory_200 ?_
      refine lv_bipush (v := 19) S.1 S.2.1 dM_memory_203 (by decide) ?_
      refine lv_icmp_ne (tgt := 212) S.1 S.2.1 dM_memory_205 (by decide) (fun _ => ?_) (fun g5 => absurd g5 (by decide))
      refine lv_aload_n S.1 S.2.1 dM_memory_212 rfl (lv_at hl 0 rfl) ?_
      refine g_M_M_ac S hK hP dM_memory_213 ?_
      refine p_M_M_ac S hK hP hD hS dM_memory_216 (fun H locs hP hD hS => ?_)
      refine lv_aload_n S.1 S.2.1 dM_memory_219 rfl (lv_at hl 0 rfl) ?_
      refine lv_aload_n S.1 S.2.1 dM_memory_220 rfl (lv_at hl 0 rfl) ?_
      refine g_M_M_at S hK hP dM_memory_221 ?_
      refine lv_bipush (v := 15) S.1 S.2.1 dM_memory_224 (by decide) ?_
      refine lv_icmp_ne (tgt := 242) S.1 S.2.1 dM_memory_226 (by decide) (fun _ => ?_) (fun g6 => absurd g6 (by decide))
      refine lv_aload_n S.1 S.2.1 dM_memory_242 rfl (lv_at hl 0 rfl) ?_
      refine g_M_M_pc S hK hP dM_memory_243 ?_
      refine p_M_M_pc S hK hP hD hS dM_memory_246 (fun H locs hP hD hS => ?_)
      refine lv_iconst (v := 0) S.1 S.2.1 dM_memory_249 (by decide) ?_
      exact rt_i S hr hk hK hP hD hS ((by simp [mu18, hma, hmb, g2, g3])) dM_memory_250
    · exact absurd g4 (by decide)
  · refine lv_iconst (v := 1) S.1 S.2.1 dM_memory_190 (by decide) ?_
    refine lv_goto (tgt := 195) S.1 S.2.1 dM_memory_191 (by decide) ?_
    refine cl_v (As := [.int 1]) (rest := []) S hN hK hP hD hS hA hl.1 (c_M_skip l D a _ pc ac lk mq ma mb ir sw io dl ha rd 18 md kf kb cn pf (upd co ma.toNatClampNeg mb) ou 1) k_M_79 (rc_M hK hP) ⟨by decide, by decide⟩ rfl rfl (Nat.le_of_ble_eq_true rfl) ⟨Nat.le_refl _, Nat.le_refl _⟩ dM_memory_195 (fun u H locs hw hP hD hS => ?_)
    obtain ⟨g7, rfl⟩ | ⟨g8, rfl⟩ := hw
    · exact absurd g7 (by decide)
    · refine lv_aload_n S.1 S.2.1 dM_memory_198 rfl (lv_at hl 0 rfl) ?_
      refine lv_aload_n S.1 S.2.1 dM_memory_199 rfl (lv_at hl 0 rfl) ?_
      refine g_M_M_at S hK hP dM_memory_200 ?_
      refine lv_bipush (v := 19) S.1 S.2.1 dM_memory_203 (by decide) ?_
      refine lv_icmp_ne (tgt := 212) S.1 S.2.1 dM_memory_205 (by decide) (fun _ => ?_) (fun g9 => absurd g9 (by decide))
      refine lv_aload_n S.1 S.2.1 dM_memory_212 rfl (lv_at hl 0 rfl) ?_
      refine g_M_M_ac S hK hP dM_memory_213 ?_
      refine p_M_M_ac S hK hP hD hS dM_memory_216 (fun H locs hP hD hS => ?_)
      refine lv_aload_n S.1 S.2.1 dM_memory_219 rfl (lv_at hl 0 rfl) ?_
      refine lv_aload_n S.1 S.2.1 dM_memory_220 rfl (lv_at hl 0 rfl) ?_
      refine g_M_M_at S hK hP dM_memory_221 ?_
      refine lv_bipush (v := 15) S.1 S.2.1 dM_memory_224 (by decide) ?_
      refine lv_icmp_ne (tgt := 242) S.1 S.2.1 dM_memory_226 (by decide) (fun _ => ?_) (fun g10 => absurd g10 (by decide))
      refine lv_aload_n S.1 S.2.1 dM_memory_242 rfl (lv_at hl 0 rfl) ?_
      refine g_M_M_pc S hK hP dM_memory_243 ?_
      refine p_M_M_pc S hK hP hD hS dM_memory_246 (fun H locs hP hD hS => ?_)
      refine lv_iconst (v := 0) S.1 S.2.1 dM_memory_249 (by decide) ?_
      exact rt_i S hr hk hK hP hD hS ((by simp [mu18, hma, hmb, g2, g8])) dM_memory_250

set_option maxHeartbeats 4000000 in
set_option maxRecDepth 100000 in
theorem c_M_memory_19 (l : Launch) (D : va_G) (a : AR) (sz : Nat) (pc ac lk mq ma mb ir sw io dl ha rd md kf kb cn pf : Int32) (co ou : Nat → Int32) (I : Iv a.2.2.2.2.2 (pc, ac, lk, mq, ma, mb, ir, sw, io, dl, ha, rd, 19, md, kf, kb, cn, pf, co, ou)) : MI l D (wr a) (tr a) sz yM_memory cM_memory 1 (some .int) 1 [.ref a.1] (pc, ac, lk, mq, ma, mb, ir, sw, io, dl, ha, rd, 19, md, kf, kb, cn, pf, co, ou) (fun r u => (r, u) = mu19 (pc, ac, lk, mq, ma, mb, ir, sw, io, dl, ha, rd, 19, md, kf, kb, cn, pf, co, ou)) := by
  refine en_i RM rfl (by decide) (Nat.le_of_ble_eq_true rfl) ?_
  intro p e s m below meth c A ls S hr hk hA hN hK hP hD hS hl
  have hl : lv_has ls 1 [(0, .ref a.1)] := hl
  obtain ⟨⟨hpc, hac, hmq, hma, hmb, hir, hsw⟩, hlk, ⟨hio, hdl, hha, hrd, hkf, hpf⟩, hsn, hlt, hkb, hcn, hn, hco⟩ := I
  refine lv_aload_n S.1 S.2.1 dM_memory_0 rfl (lv_at hl 0 rfl) ?_
  refine g_M_M_at S hK hP dM_memory_1 ?_
  refine lv_tableOut (tgt := 160) S.1 S.2.1 dM_memory_4 (by decide +kernel) (by decide) ?_
  refine lv_aload_n S.1 S.2.1 dM_memory_160 rfl (lv_at hl 0 rfl) ?_
  refine g_M_M_core S hK hP dM_memory_161 ?_
  refine lv_aload_n S.1 S.2.1 dM_memory_164 rfl (lv_at hl 0 rfl) ?_
  refine g_M_M_ma S hK hP dM_memory_165 ?_
  refine lv_aload_n S.1 S.2.1 dM_memory_168 rfl (lv_at hl 0 rfl) ?_
  refine g_M_M_mb S hK hP dM_memory_169 ?_
  refine st_rco S hK hP hD hS (in_w hma) dM_memory_172 (fun H locs hP hD hS => ?_)
  refine lv_aload_n S.1 S.2.1 dM_memory_173 rfl (lv_at hl 0 rfl) ?_
  refine lv_aload_n S.1 S.2.1 dM_memory_174 rfl (lv_at hl 0 rfl) ?_
  refine g_M_M_at S hK hP dM_memory_175 ?_
  refine lv_bipush (v := 18) S.1 S.2.1 dM_memory_178 (by decide) ?_
  refine lv_icmp_ne (tgt := 194) S.1 S.2.1 dM_memory_180 (by decide) (fun _ => ?_) (fun g1 => absurd g1 (by decide))
  refine lv_iconst (v := 0) S.1 S.2.1 dM_memory_194 (by decide) ?_
  refine cl_v (As := [.int 0]) (rest := []) S hN hK hP hD hS hA hl.1 (c_M_skip l D a _ pc ac lk mq ma mb ir sw io dl ha rd 19 md kf kb cn pf (upd co ma.toNatClampNeg mb) ou 0) k_M_79 (rc_M hK hP) ⟨by decide, by decide⟩ rfl rfl (Nat.le_of_ble_eq_true rfl) ⟨Nat.le_refl _, Nat.le_refl _⟩ dM_memory_195 (fun u H locs hw hP hD hS => ?_)
  obtain ⟨g2, rfl⟩ | ⟨g3, rfl⟩ := hw
  · refine lv_aload_n S.1 S.2.1 dM_memory_198 rfl (lv_at hl 0 rfl) ?_
    refine lv_aload_n S.1 S.2.1 dM_memory_199 rfl (lv_at hl 0 rfl) ?_
    refine g_M_M_at S hK hP dM_memory_200 ?_
    refine lv_bipush (v := 19) S.1 S.2.1 dM_memory_203 (by decide) ?_
    refine lv_icmp_ne (tgt := 212) S.1 S.2.1 dM_memory_205 (by decide) (fun g4 => absurd (by decide) g4) (fun _ => ?_)
    refine lv_iconst (v := 0) S.1 S.2.1 dM_memory_208 (by decide) ?_
    refine lv_goto (tgt := 216) S.1 S.2.1 dM_memory_209 (by decide) ?_
    refine p_M_M_ac S hK hP hD hS dM_memory_216 (fun H locs hP hD hS => ?_)
    refine lv_aload_n S.1 S.2.1 dM_memory_219 rfl (lv_at hl 0 rfl) ?_
    refine lv_aload_n S.1 S.2.1 dM_memory_220 rfl (lv_at hl 0 rfl) ?_
    refine g_M_M_at S hK hP dM_memory_221 ?_
    refine lv_bipush (v := 15) S.1 S.2.1 dM_memory_224 (by decide) ?_
    refine lv_icmp_ne (tgt := 242) S.1 S.2.1 dM_memory_226 (by decide) (fun _ => ?_) (fun g5 => absurd g5 (by decide))
    refine lv_aload_n S.1 S.2.1 dM_memory_242 rfl (lv_at hl 0 rfl) ?_
    refine g_M_M_pc S hK hP dM_memory_243 ?_
    refine p_M_M_pc S hK hP hD hS dM_memory_246 (fun H locs hP hD hS => ?_)
    refine lv_iconst (v := 0) S.1 S.2.1 dM_memory_249 (by decide) ?_
    exact rt_i S hr hk hK hP hD hS ((by simp [mu19, hma, hmb, g2])) dM_memory_250
  · exact absurd g3 (by decide)
end
section
set_option maxHeartbeats 4000000 in
set_option maxRecDepth 100000 in
theorem c_M_operate_20 (l : Launch) (D : va_G) (a : AR) (sz : Nat) (pc ac lk mq ma mb ir sw io dl ha rd md kf kb cn pf : Int32) (co ou : Nat → Int32) (I : Iv a.2.2.2.2.2 (pc, ac, lk, mq, ma, mb, ir, sw, io, dl, ha, rd, 20, md, kf, kb, cn, pf, co, ou)) : MI l D (wr a) (tr a) sz yM_operate cM_operate 1 (some .int) 2 [.ref a.1] (pc, ac, lk, mq, ma, mb, ir, sw, io, dl, ha, rd, 20, md, kf, kb, cn, pf, co, ou) (fun r u => (r, u) = mu20 (pc, ac, lk, mq, ma, mb, ir, sw, io, dl, ha, rd, 20, md, kf, kb, cn, pf, co, ou)) := by
  refine en_i RM rfl (by decide) (Nat.le_of_ble_eq_true rfl) ?_
  intro p e s m below meth c A ls S hr hk hA hN hK hP hD hS hl
  have hl : lv_has ls 1 [(0, .ref a.1)] := hl
  obtain ⟨⟨hpc, hac, hmq, hma, hmb, hir, hsw⟩, hlk, ⟨hio, hdl, hha, hrd, hkf, hpf⟩, hsn, hlt, hkb, hcn, hn, hco⟩ := I
  refine lv_aload_n S.1 S.2.1 dM_operate_0 rfl (lv_at hl 0 rfl) ?_
  refine g_M_M_at S hK hP dM_operate_1 ?_
  refine lv_tableIn (off := 32) (tgt := 36) S.1 S.2.1 dM_operate_4 (by decide +kernel) (by decide +kernel) (by decide +kernel) (by decide) ?_
  refine lv_aload_n S.1 S.2.1 dM_operate_36 rfl (lv_at hl 0 rfl) ?_
  refine lv_sipush (v := 256) S.1 S.2.1 dM_operate_37 (by decide) ?_
  refine cl_i (As := [.int 256]) (rest := []) S hN hK hP hD hS hA hl.1 (c_M_bit l D a _ pc ac lk mq ma mb ir sw io dl ha rd 20 md kf kb cn pf co ou 256) k_M_83 (rc_M hK hP) ⟨by decide, by decide⟩ rfl rfl (Nat.le_of_ble_eq_true rfl) ⟨Nat.le_refl _, Nat.le_refl _⟩ dM_operate_40 (fun r u H locs hw hP hD hS => ?_)
  obtain ⟨g1, rfl, rfl⟩ | ⟨g2, rfl, rfl⟩ := hw
  · refine lv_if_ne (tgt := 51) S.1 S.2.1 dM_operate_43 (by decide) (fun g3 => absurd (by decide) g3) (fun _ => ?_)
    refine lv_bipush (v := 21) S.1 S.2.1 dM_operate_46 (by decide) ?_
    refine lv_goto (tgt := 66) S.1 S.2.1 dM_operate_48 (by decide) ?_
    exact rt_i S hr hk hK hP hD hS ((by simp [mu20, g1])) dM_operate_66
  · refine lv_if_ne (tgt := 51) S.1 S.2.1 dM_operate_43 (by decide) (fun _ => ?_) (fun g4 => absurd g4 (by decide))
    refine lv_aload_n S.1 S.2.1 dM_operate_51 rfl (lv_at hl 0 rfl) ?_
    refine lv_iconst (v := 1) S.1 S.2.1 dM_operate_52 (by decide) ?_
    refine cl_i (As := [.int 1]) (rest := []) S hN hK hP hD hS hA hl.1 (c_M_bit l D a _ pc ac lk mq ma mb ir sw io dl ha rd 20 md kf kb cn pf co ou 1) k_M_83 (rc_M hK hP) ⟨by decide, by decide⟩ rfl rfl (Nat.le_of_ble_eq_true rfl) ⟨Nat.le_refl _, Nat.le_refl _⟩ dM_operate_53 (fun r u H locs hw hP hD hS => ?_)
    obtain ⟨g5, rfl, rfl⟩ | ⟨g6, rfl, rfl⟩ := hw
    · refine lv_if_ne (tgt := 64) S.1 S.2.1 dM_operate_56 (by decide) (fun g7 => absurd (by decide) g7) (fun _ => ?_)
      refine lv_bipush (v := 26) S.1 S.2.1 dM_operate_59 (by decide) ?_
      refine lv_goto (tgt := 66) S.1 S.2.1 dM_operate_61 (by decide) ?_
      exact rt_i S hr hk hK hP hD hS ((by simp [mu20, g2, g5])) dM_operate_66
    · refine lv_if_ne (tgt := 64) S.1 S.2.1 dM_operate_56 (by decide) (fun _ => ?_) (fun g8 => absurd g8 (by decide))
      refine lv_bipush (v := 30) S.1 S.2.1 dM_operate_64 (by decide) ?_
      exact rt_i S hr hk hK hP hD hS ((by simp [mu20, g2, g6])) dM_operate_66

set_option maxHeartbeats 4000000 in
set_option maxRecDepth 100000 in
theorem c_M_operate_21 (l : Launch) (D : va_G) (a : AR) (sz : Nat) (pc ac lk mq ma mb ir sw io dl ha rd md kf kb cn pf : Int32) (co ou : Nat → Int32) (I : Iv a.2.2.2.2.2 (pc, ac, lk, mq, ma, mb, ir, sw, io, dl, ha, rd, 21, md, kf, kb, cn, pf, co, ou)) : MI l D (wr a) (tr a) sz yM_operate cM_operate 1 (some .int) 2 [.ref a.1] (pc, ac, lk, mq, ma, mb, ir, sw, io, dl, ha, rd, 21, md, kf, kb, cn, pf, co, ou) (fun r u => (r, u) = mu21 (pc, ac, lk, mq, ma, mb, ir, sw, io, dl, ha, rd, 21, md, kf, kb, cn, pf, co, ou)) := by
  refine en_i RM rfl (by decide) (Nat.le_of_ble_eq_true rfl) ?_
  intro p e s m below meth c A ls S hr hk hA hN hK hP hD hS hl
  have hl : lv_has ls 1 [(0, .ref a.1)] := hl
  obtain ⟨⟨hpc, hac, hmq, hma, hmb, hir, hsw⟩, hlk, ⟨hio, hdl, hha, hrd, hkf, hpf⟩, hsn, hlt, hkb, hcn, hn, hco⟩ := I
  refine lv_aload_n S.1 S.2.1 dM_operate_0 rfl (lv_at hl 0 rfl) ?_
  refine g_M_M_at S hK hP dM_operate_1 ?_
  refine lv_tableIn (off := 63) (tgt := 67) S.1 S.2.1 dM_operate_4 (by decide +kernel) (by decide +kernel) (by decide +kernel) (by decide) ?_
  refine lv_aload_n S.1 S.2.1 dM_operate_67 rfl (lv_at hl 0 rfl) ?_
  refine lv_aload_n S.1 S.2.1 dM_operate_68 rfl (lv_at hl 0 rfl) ?_
  refine lv_sipush (v := 128) S.1 S.2.1 dM_operate_69 (by decide) ?_
  refine cl_i (As := [.int 128]) (rest := [.ref a.1]) S hN hK hP hD hS hA hl.1 (c_M_bit l D a _ pc ac lk mq ma mb ir sw io dl ha rd 21 md kf kb cn pf co ou 128) k_M_83 (rc_M hK hP) ⟨by decide, by decide⟩ rfl rfl (Nat.le_of_ble_eq_true rfl) ⟨Nat.le_refl _, Nat.le_refl _⟩ dM_operate_72 (fun r u H locs hw hP hD hS => ?_)
  obtain ⟨g1, rfl, rfl⟩ | ⟨g2, rfl, rfl⟩ := hw
  · refine lv_if_eq (tgt := 82) S.1 S.2.1 dM_operate_75 (by decide) (fun _ => ?_) (fun g3 => absurd (by decide) g3)
    refine lv_aload_n S.1 S.2.1 dM_operate_82 rfl (lv_at hl 0 rfl) ?_
    refine g_M_M_ac S hK hP dM_operate_83 ?_
    refine p_M_M_ac S hK hP hD hS dM_operate_86 (fun H locs hP hD hS => ?_)
    refine lv_aload_n S.1 S.2.1 dM_operate_89 rfl (lv_at hl 0 rfl) ?_
    refine lv_aload_n S.1 S.2.1 dM_operate_90 rfl (lv_at hl 0 rfl) ?_
    refine lv_bipush (v := 64) S.1 S.2.1 dM_operate_91 (by decide) ?_
    refine cl_i (As := [.int 64]) (rest := [.ref a.1]) S hN hK hP hD hS hA hl.1 (c_M_bit l D a _ pc ac lk mq ma mb ir sw io dl ha rd 21 md kf kb cn pf co ou 64) k_M_83 (rc_M hK hP) ⟨by decide, by decide⟩ rfl rfl (Nat.le_of_ble_eq_true rfl) ⟨Nat.le_refl _, Nat.le_refl _⟩ dM_operate_93 (fun r u H locs hw hP hD hS => ?_)
    obtain ⟨g4, rfl, rfl⟩ | ⟨g5, rfl, rfl⟩ := hw
    · refine lv_if_eq (tgt := 103) S.1 S.2.1 dM_operate_96 (by decide) (fun _ => ?_) (fun g6 => absurd (by decide) g6)
      refine lv_aload_n S.1 S.2.1 dM_operate_103 rfl (lv_at hl 0 rfl) ?_
      refine g_M_M_link S hK hP dM_operate_104 ?_
      refine p_M_M_link S hK hP hD hS dM_operate_107 (fun H locs hP hD hS => ?_)
      refine lv_bipush (v := 22) S.1 S.2.1 dM_operate_110 (by decide) ?_
      exact rt_i S hr hk hK hP hD hS ((by simp [mu21, g1, g4])) dM_operate_112
    · refine lv_if_eq (tgt := 103) S.1 S.2.1 dM_operate_96 (by decide) (fun g7 => absurd g7 (by decide)) (fun _ => ?_)
      refine lv_iconst (v := 0) S.1 S.2.1 dM_operate_99 (by decide) ?_
      refine lv_goto (tgt := 107) S.1 S.2.1 dM_operate_100 (by decide) ?_
      refine p_M_M_link S hK hP hD hS dM_operate_107 (fun H locs hP hD hS => ?_)
      refine lv_bipush (v := 22) S.1 S.2.1 dM_operate_110 (by decide) ?_
      exact rt_i S hr hk hK hP hD hS ((by simp [mu21, g1, g5])) dM_operate_112
  · refine lv_if_eq (tgt := 82) S.1 S.2.1 dM_operate_75 (by decide) (fun g8 => absurd g8 (by decide)) (fun _ => ?_)
    refine lv_iconst (v := 0) S.1 S.2.1 dM_operate_78 (by decide) ?_
    refine lv_goto (tgt := 86) S.1 S.2.1 dM_operate_79 (by decide) ?_
    refine p_M_M_ac S hK hP hD hS dM_operate_86 (fun H locs hP hD hS => ?_)
    refine lv_aload_n S.1 S.2.1 dM_operate_89 rfl (lv_at hl 0 rfl) ?_
    refine lv_aload_n S.1 S.2.1 dM_operate_90 rfl (lv_at hl 0 rfl) ?_
    refine lv_bipush (v := 64) S.1 S.2.1 dM_operate_91 (by decide) ?_
    refine cl_i (As := [.int 64]) (rest := [.ref a.1]) S hN hK hP hD hS hA hl.1 (c_M_bit l D a _ pc 0 lk mq ma mb ir sw io dl ha rd 21 md kf kb cn pf co ou 64) k_M_83 (rc_M hK hP) ⟨by decide, by decide⟩ rfl rfl (Nat.le_of_ble_eq_true rfl) ⟨Nat.le_refl _, Nat.le_refl _⟩ dM_operate_93 (fun r u H locs hw hP hD hS => ?_)
    obtain ⟨g9, rfl, rfl⟩ | ⟨g10, rfl, rfl⟩ := hw
    · refine lv_if_eq (tgt := 103) S.1 S.2.1 dM_operate_96 (by decide) (fun _ => ?_) (fun g11 => absurd (by decide) g11)
      refine lv_aload_n S.1 S.2.1 dM_operate_103 rfl (lv_at hl 0 rfl) ?_
      refine g_M_M_link S hK hP dM_operate_104 ?_
      refine p_M_M_link S hK hP hD hS dM_operate_107 (fun H locs hP hD hS => ?_)
      refine lv_bipush (v := 22) S.1 S.2.1 dM_operate_110 (by decide) ?_
      exact rt_i S hr hk hK hP hD hS ((by simp [mu21, g2, g9])) dM_operate_112
    · refine lv_if_eq (tgt := 103) S.1 S.2.1 dM_operate_96 (by decide) (fun g12 => absurd g12 (by decide)) (fun _ => ?_)
      refine lv_iconst (v := 0) S.1 S.2.1 dM_operate_99 (by decide) ?_
      refine lv_goto (tgt := 107) S.1 S.2.1 dM_operate_100 (by decide) ?_
      refine p_M_M_link S hK hP hD hS dM_operate_107 (fun H locs hP hD hS => ?_)
      refine lv_bipush (v := 22) S.1 S.2.1 dM_operate_110 (by decide) ?_
      exact rt_i S hr hk hK hP hD hS ((by simp [mu21, g2, g10])) dM_operate_112

set_option maxHeartbeats 4000000 in
set_option maxRecDepth 100000 in
theorem c_M_operate_22 (l : Launch) (D : va_G) (a : AR) (sz : Nat) (pc ac lk mq ma mb ir sw io dl ha rd md kf kb cn pf : Int32) (co ou : Nat → Int32) (I : Iv a.2.2.2.2.2 (pc, ac, lk, mq, ma, mb, ir, sw, io, dl, ha, rd, 22, md, kf, kb, cn, pf, co, ou)) : MI l D (wr a) (tr a) sz yM_operate cM_operate 1 (some .int) 2 [.ref a.1] (pc, ac, lk, mq, ma, mb, ir, sw, io, dl, ha, rd, 22, md, kf, kb, cn, pf, co, ou) (fun r u => (r, u) = mu22 (pc, ac, lk, mq, ma, mb, ir, sw, io, dl, ha, rd, 22, md, kf, kb, cn, pf, co, ou)) := by
  refine en_i RM rfl (by decide) (Nat.le_of_ble_eq_true rfl) ?_
  intro p e s m below meth c A ls S hr hk hA hN hK hP hD hS hl
  have hl : lv_has ls 1 [(0, .ref a.1)] := hl
  obtain ⟨⟨hpc, hac, hmq, hma, hmb, hir, hsw⟩, hlk, ⟨hio, hdl, hha, hrd, hkf, hpf⟩, hsn, hlt, hkb, hcn, hn, hco⟩ := I
  refine lv_aload_n S.1 S.2.1 dM_operate_0 rfl (lv_at hl 0 rfl) ?_
  refine g_M_M_at S hK hP dM_operate_1 ?_
  refine lv_tableIn (off := 109) (tgt := 113) S.1 S.2.1 dM_operate_4 (by decide +kernel) (by decide +kernel) (by decide +kernel) (by decide) ?_
  refine lv_aload_n S.1 S.2.1 dM_operate_113 rfl (lv_at hl 0 rfl) ?_
  refine lv_aload_n S.1 S.2.1 dM_operate_114 rfl (lv_at hl 0 rfl) ?_
  refine lv_bipush (v := 32) S.1 S.2.1 dM_operate_115 (by decide) ?_
  refine cl_i (As := [.int 32]) (rest := [.ref a.1]) S hN hK hP hD hS hA hl.1 (c_M_bit l D a _ pc ac lk mq ma mb ir sw io dl ha rd 22 md kf kb cn pf co ou 32) k_M_83 (rc_M hK hP) ⟨by decide, by decide⟩ rfl rfl (Nat.le_of_ble_eq_true rfl) ⟨Nat.le_refl _, Nat.le_refl _⟩ dM_operate_117 (fun r u H locs hw hP hD hS => ?_)
  obtain ⟨g1, rfl, rfl⟩ | ⟨g2, rfl, rfl⟩ := hw
  · refine lv_if_eq (tgt := 134) S.1 S.2.1 dM_operate_120 (by decide) (fun _ => ?_) (fun g3 => absurd (by decide) g3)
    refine lv_aload_n S.1 S.2.1 dM_operate_134 rfl (lv_at hl 0 rfl) ?_
    refine g_M_M_ac S hK hP dM_operate_135 ?_
    refine p_M_M_ac S hK hP hD hS dM_operate_138 (fun H locs hP hD hS => ?_)
    refine lv_aload_n S.1 S.2.1 dM_operate_141 rfl (lv_at hl 0 rfl) ?_
    refine lv_aload_n S.1 S.2.1 dM_operate_142 rfl (lv_at hl 0 rfl) ?_
    refine lv_bipush (v := 16) S.1 S.2.1 dM_operate_143 (by decide) ?_
    refine cl_i (As := [.int 16]) (rest := [.ref a.1]) S hN hK hP hD hS hA hl.1 (c_M_bit l D a _ pc ac lk mq ma mb ir sw io dl ha rd 22 md kf kb cn pf co ou 16) k_M_83 (rc_M hK hP) ⟨by decide, by decide⟩ rfl rfl (Nat.le_of_ble_eq_true rfl) ⟨Nat.le_refl _, Nat.le_refl _⟩ dM_operate_145 (fun r u H locs hw hP hD hS => ?_)
    obtain ⟨g4, rfl, rfl⟩ | ⟨g5, rfl, rfl⟩ := hw
    · refine lv_if_eq (tgt := 160) S.1 S.2.1 dM_operate_148 (by decide) (fun _ => ?_) (fun g6 => absurd (by decide) g6)
      refine lv_aload_n S.1 S.2.1 dM_operate_160 rfl (lv_at hl 0 rfl) ?_
      refine g_M_M_link S hK hP dM_operate_161 ?_
      refine p_M_M_link S hK hP hD hS dM_operate_164 (fun H locs hP hD hS => ?_)
      refine lv_bipush (v := 23) S.1 S.2.1 dM_operate_167 (by decide) ?_
      exact rt_i S hr hk hK hP hD hS ((by simp [mu22, g1, g4])) dM_operate_169
    · refine lv_if_eq (tgt := 160) S.1 S.2.1 dM_operate_148 (by decide) (fun g7 => absurd g7 (by decide)) (fun _ => ?_)
      refine lv_iconst (v := 1) S.1 S.2.1 dM_operate_151 (by decide) ?_
      refine lv_aload_n S.1 S.2.1 dM_operate_152 rfl (lv_at hl 0 rfl) ?_
      refine g_M_M_link S hK hP dM_operate_153 ?_
      refine lv_isub S.1 S.2.1 dM_operate_156 ?_
      refine lv_goto (tgt := 164) S.1 S.2.1 dM_operate_157 (by decide) ?_
      refine p_M_M_link S hK hP hD hS dM_operate_164 (fun H locs hP hD hS => ?_)
      refine lv_bipush (v := 23) S.1 S.2.1 dM_operate_167 (by decide) ?_
      exact rt_i S hr hk hK hP hD hS ((by simp [mu22, g1, g5])) dM_operate_169
  · refine lv_if_eq (tgt := 134) S.1 S.2.1 dM_operate_120 (by decide) (fun g8 => absurd g8 (by decide)) (fun _ => ?_)
    refine lv_sipush (v := 4095) S.1 S.2.1 dM_operate_123 (by decide) ?_
    refine lv_aload_n S.1 S.2.1 dM_operate_126 rfl (lv_at hl 0 rfl) ?_
    refine g_M_M_ac S hK hP dM_operate_127 ?_
    refine lv_isub S.1 S.2.1 dM_operate_130 ?_
    refine lv_goto (tgt := 138) S.1 S.2.1 dM_operate_131 (by decide) ?_
    refine p_M_M_ac S hK hP hD hS dM_operate_138 (fun H locs hP hD hS => ?_)
    refine lv_aload_n S.1 S.2.1 dM_operate_141 rfl (lv_at hl 0 rfl) ?_
    refine lv_aload_n S.1 S.2.1 dM_operate_142 rfl (lv_at hl 0 rfl) ?_
    refine lv_bipush (v := 16) S.1 S.2.1 dM_operate_143 (by decide) ?_
    refine cl_i (As := [.int 16]) (rest := [.ref a.1]) S hN hK hP hD hS hA hl.1 (c_M_bit l D a _ pc (4095 - ac) lk mq ma mb ir sw io dl ha rd 22 md kf kb cn pf co ou 16) k_M_83 (rc_M hK hP) ⟨by decide, by decide⟩ rfl rfl (Nat.le_of_ble_eq_true rfl) ⟨Nat.le_refl _, Nat.le_refl _⟩ dM_operate_145 (fun r u H locs hw hP hD hS => ?_)
    obtain ⟨g9, rfl, rfl⟩ | ⟨g10, rfl, rfl⟩ := hw
    · refine lv_if_eq (tgt := 160) S.1 S.2.1 dM_operate_148 (by decide) (fun _ => ?_) (fun g11 => absurd (by decide) g11)
      refine lv_aload_n S.1 S.2.1 dM_operate_160 rfl (lv_at hl 0 rfl) ?_
      refine g_M_M_link S hK hP dM_operate_161 ?_
      refine p_M_M_link S hK hP hD hS dM_operate_164 (fun H locs hP hD hS => ?_)
      refine lv_bipush (v := 23) S.1 S.2.1 dM_operate_167 (by decide) ?_
      exact rt_i S hr hk hK hP hD hS ((by simp [mu22, g2, g9])) dM_operate_169
    · refine lv_if_eq (tgt := 160) S.1 S.2.1 dM_operate_148 (by decide) (fun g12 => absurd g12 (by decide)) (fun _ => ?_)
      refine lv_iconst (v := 1) S.1 S.2.1 dM_operate_151 (by decide) ?_
      refine lv_aload_n S.1 S.2.1 dM_operate_152 rfl (lv_at hl 0 rfl) ?_
      refine g_M_M_link S hK hP dM_operate_153 ?_
      refine lv_isub S.1 S.2.1 dM_operate_156 ?_
      refine lv_goto (tgt := 164) S.1 S.2.1 dM_operate_157 (by decide) ?_
      refine p_M_M_link S hK hP hD hS dM_operate_164 (fun H locs hP hD hS => ?_)
      refine lv_bipush (v := 23) S.1 S.2.1 dM_operate_167 (by decide) ?_
      exact rt_i S hr hk hK hP hD hS ((by simp [mu22, g2, g10])) dM_operate_169

set_option maxHeartbeats 4000000 in
set_option maxRecDepth 100000 in
theorem c_M_operate_23 (l : Launch) (D : va_G) (a : AR) (sz : Nat) (pc ac lk mq ma mb ir sw io dl ha rd md kf kb cn pf : Int32) (co ou : Nat → Int32) (I : Iv a.2.2.2.2.2 (pc, ac, lk, mq, ma, mb, ir, sw, io, dl, ha, rd, 23, md, kf, kb, cn, pf, co, ou)) : MI l D (wr a) (tr a) sz yM_operate cM_operate 1 (some .int) 2 [.ref a.1] (pc, ac, lk, mq, ma, mb, ir, sw, io, dl, ha, rd, 23, md, kf, kb, cn, pf, co, ou) (fun r u => (r, u) = mu23 (pc, ac, lk, mq, ma, mb, ir, sw, io, dl, ha, rd, 23, md, kf, kb, cn, pf, co, ou)) := by
  refine en_i RM rfl (by decide) (Nat.le_of_ble_eq_true rfl) ?_
  intro p e s m below meth c A ls S hr hk hA hN hK hP hD hS hl
  have hl : lv_has ls 1 [(0, .ref a.1)] := hl
  obtain ⟨⟨hpc, hac, hmq, hma, hmb, hir, hsw⟩, hlk, ⟨hio, hdl, hha, hrd, hkf, hpf⟩, hsn, hlt, hkb, hcn, hn, hco⟩ := I
  refine lv_aload_n S.1 S.2.1 dM_operate_0 rfl (lv_at hl 0 rfl) ?_
  refine g_M_M_at S hK hP dM_operate_1 ?_
  refine lv_tableIn (off := 166) (tgt := 170) S.1 S.2.1 dM_operate_4 (by decide +kernel) (by decide +kernel) (by decide +kernel) (by decide) ?_
  refine lv_aload_n S.1 S.2.1 dM_operate_170 rfl (lv_at hl 0 rfl) ?_
  refine lv_iconst (v := 1) S.1 S.2.1 dM_operate_171 (by decide) ?_
  refine cl_i (As := [.int 1]) (rest := []) S hN hK hP hD hS hA hl.1 (c_M_bit l D a _ pc ac lk mq ma mb ir sw io dl ha rd 23 md kf kb cn pf co ou 1) k_M_83 (rc_M hK hP) ⟨by decide, by decide⟩ rfl rfl (Nat.le_of_ble_eq_true rfl) ⟨Nat.le_refl _, Nat.le_refl _⟩ dM_operate_172 (fun r u H locs hw hP hD hS => ?_)
  obtain ⟨g1, rfl, rfl⟩ | ⟨g2, rfl, rfl⟩ := hw
  · refine lv_if_eq (tgt := 183) S.1 S.2.1 dM_operate_175 (by decide) (fun _ => ?_) (fun g3 => absurd (by decide) g3)
    refine lv_aload_n S.1 S.2.1 dM_operate_183 rfl (lv_at hl 0 rfl) ?_
    refine lv_bipush (v := 12) S.1 S.2.1 dM_operate_184 (by decide) ?_
    refine cl_i (As := [.int 12]) (rest := []) S hN hK hP hD hS hA hl.1 (c_M_bit l D a _ pc ac lk mq ma mb ir sw io dl ha rd 23 md kf kb cn pf co ou 12) k_M_83 (rc_M hK hP) ⟨by decide, by decide⟩ rfl rfl (Nat.le_of_ble_eq_true rfl) ⟨Nat.le_refl _, Nat.le_refl _⟩ dM_operate_186 (fun r u H locs hw hP hD hS => ?_)
    obtain ⟨g4, rfl, rfl⟩ | ⟨g5, rfl, rfl⟩ := hw
    · refine lv_if_eq (tgt := 197) S.1 S.2.1 dM_operate_189 (by decide) (fun _ => ?_) (fun g6 => absurd (by decide) g6)
      refine lv_iconst (v := 0) S.1 S.2.1 dM_operate_197 (by decide) ?_
      exact rt_i S hr hk hK hP hD hS ((by simp [mu23, g1, g4])) dM_operate_198
    · refine lv_if_eq (tgt := 197) S.1 S.2.1 dM_operate_189 (by decide) (fun g7 => absurd g7 (by decide)) (fun _ => ?_)
      refine lv_bipush (v := 24) S.1 S.2.1 dM_operate_192 (by decide) ?_
      refine lv_goto (tgt := 198) S.1 S.2.1 dM_operate_194 (by decide) ?_
      exact rt_i S hr hk hK hP hD hS ((by simp [mu23, g1, g5])) dM_operate_198
  · refine lv_if_eq (tgt := 183) S.1 S.2.1 dM_operate_175 (by decide) (fun g8 => absurd g8 (by decide)) (fun _ => ?_)
    refine lv_aload_n S.1 S.2.1 dM_operate_178 rfl (lv_at hl 0 rfl) ?_
    refine lv_iconst (v := 1) S.1 S.2.1 dM_operate_179 (by decide) ?_
    refine cl_v (As := [.int 1]) (rest := []) S hN hK hP hD hS hA hl.1 (c_M_add l D a _ pc ac lk mq ma mb ir sw io dl ha rd 23 md kf kb cn pf co ou 1) k_M_86 (rc_M hK hP) ⟨by decide, by decide⟩ rfl rfl (Nat.le_of_ble_eq_true rfl) ⟨Nat.le_refl _, Nat.le_refl _⟩ dM_operate_180 (fun u H locs hw hP hD hS => ?_)
    obtain ⟨g9, rfl⟩ | ⟨g10, rfl⟩ := hw
    · refine lv_aload_n S.1 S.2.1 dM_operate_183 rfl (lv_at hl 0 rfl) ?_
      refine lv_bipush (v := 12) S.1 S.2.1 dM_operate_184 (by decide) ?_
      refine cl_i (As := [.int 12]) (rest := []) S hN hK hP hD hS hA hl.1 (c_M_bit l D a _ pc ((ac + 1) &&& 4095) lk mq ma mb ir sw io dl ha rd 23 md kf kb cn pf co ou 12) k_M_83 (rc_M hK hP) ⟨by decide, by decide⟩ rfl rfl (Nat.le_of_ble_eq_true rfl) ⟨Nat.le_refl _, Nat.le_refl _⟩ dM_operate_186 (fun r u H locs hw hP hD hS => ?_)
      obtain ⟨g11, rfl, rfl⟩ | ⟨g12, rfl, rfl⟩ := hw
      · refine lv_if_eq (tgt := 197) S.1 S.2.1 dM_operate_189 (by decide) (fun _ => ?_) (fun g13 => absurd (by decide) g13)
        refine lv_iconst (v := 0) S.1 S.2.1 dM_operate_197 (by decide) ?_
        exact rt_i S hr hk hK hP hD hS ((by simp [mu23, g2, g9, g11])) dM_operate_198
      · refine lv_if_eq (tgt := 197) S.1 S.2.1 dM_operate_189 (by decide) (fun g14 => absurd g14 (by decide)) (fun _ => ?_)
        refine lv_bipush (v := 24) S.1 S.2.1 dM_operate_192 (by decide) ?_
        refine lv_goto (tgt := 198) S.1 S.2.1 dM_operate_194 (by decide) ?_
        exact rt_i S hr hk hK hP hD hS ((by simp [mu23, g2, g9, g12])) dM_operate_198
    · refine lv_aload_n S.1 S.2.1 dM_operate_183 rfl (lv_at hl 0 rfl) ?_
      refine lv_bipush (v := 12) S.1 S.2.1 dM_operate_184 (by decide) ?_
      refine cl_i (As := [.int 12]) (rest := []) S hN hK hP hD hS hA hl.1 (c_M_bit l D a _ pc ((ac + 1) &&& 4095) (1 - lk) mq ma mb ir sw io dl ha rd 23 md kf kb cn pf co ou 12) k_M_83 (rc_M hK hP) ⟨by decide, by decide⟩ rfl rfl (Nat.le_of_ble_eq_true rfl) ⟨Nat.le_refl _, Nat.le_refl _⟩ dM_operate_186 (fun r u H locs hw hP hD hS => ?_)
      obtain ⟨g15, rfl, rfl⟩ | ⟨g16, rfl, rfl⟩ := hw
      · refine lv_if_eq (tgt := 197) S.1 S.2.1 dM_operate_189 (by decide) (fun _ => ?_) (fun g17 => absurd (by decide) g17)
        refine lv_iconst (v := 0) S.1 S.2.1 dM_operate_197 (by decide) ?_
        exact rt_i S hr hk hK hP hD hS ((by simp [mu23, g2, g10, g15])) dM_operate_198
      · refine lv_if_eq (tgt := 197) S.1 S.2.1 dM_operate_189 (by decide) (fun g18 => absurd g18 (by decide)) (fun _ => ?_)
        refine lv_bipush (v := 24) S.1 S.2.1 dM_operate_192 (by decide) ?_
        refine lv_goto (tgt := 198) S.1 S.2.1 dM_operate_194 (by decide) ?_
        exact rt_i S hr hk hK hP hD hS ((by simp [mu23, g2, g10, g16])) dM_operate_198

set_option maxHeartbeats 4000000 in
set_option maxRecDepth 100000 in
theorem c_M_operate_24 (l : Launch) (D : va_G) (a : AR) (sz : Nat) (pc ac lk mq ma mb ir sw io dl ha rd md kf kb cn pf : Int32) (co ou : Nat → Int32) (I : Iv a.2.2.2.2.2 (pc, ac, lk, mq, ma, mb, ir, sw, io, dl, ha, rd, 24, md, kf, kb, cn, pf, co, ou)) : MI l D (wr a) (tr a) sz yM_operate cM_operate 1 (some .int) 2 [.ref a.1] (pc, ac, lk, mq, ma, mb, ir, sw, io, dl, ha, rd, 24, md, kf, kb, cn, pf, co, ou) (fun r u => (r, u) = mu24 (pc, ac, lk, mq, ma, mb, ir, sw, io, dl, ha, rd, 24, md, kf, kb, cn, pf, co, ou)) := by
  refine en_i RM rfl (by decide) (Nat.le_of_ble_eq_true rfl) ?_
  intro p e s m below meth c A ls S hr hk hA hN hK hP hD hS hl
  have hl : lv_has ls 1 [(0, .ref a.1)] := hl
  obtain ⟨⟨hpc, hac, hmq, hma, hmb, hir, hsw⟩, hlk, ⟨hio, hdl, hha, hrd, hkf, hpf⟩, hsn, hlt, hkb, hcn, hn, hco⟩ := I
  have e0 := ro_e (rg_g hlk hac)
  have e1 := ro_e (ro_r (rg_g hlk hac))
  refine lv_aload_n S.1 S.2.1 dM_operate_0 rfl (lv_at hl 0 rfl) ?_
  refine g_M_M_at S hK hP dM_operate_1 ?_
  refine lv_tableOut (tgt := 199) S.1 S.2.1 dM_operate_4 (by decide +kernel) (by decide) ?_
  refine lv_aload_n S.1 S.2.1 dM_operate_199 rfl (lv_at hl 0 rfl) ?_
  refine cl_v (As := []) (rest := []) S hN hK hP hD hS hA hl.1 (c_M_rotate l D a _ pc ac lk mq ma mb ir sw io dl ha rd 24 md kf kb cn pf co ou ) k_M_90 (rc_M hK hP) ⟨by decide, by decide⟩ rfl rfl (Nat.le_of_ble_eq_true rfl) ⟨Nat.le_refl _, Nat.le_refl _⟩ dM_operate_200 (fun u H locs hw hP hD hS => ?_)
  obtain ⟨g1, g2, rfl⟩ | ⟨g3, g4, rfl⟩ | ⟨g5, g6, rfl⟩ | ⟨g7, g8, rfl⟩ := hw
  · refine lv_aload_n S.1 S.2.1 dM_operate_203 rfl (lv_at hl 0 rfl) ?_
    refine g_M_M_at S hK hP dM_operate_204 ?_
    refine lv_bipush (v := 24) S.1 S.2.1 dM_operate_207 (by decide) ?_
    refine lv_icmp_ne (tgt := 225) S.1 S.2.1 dM_operate_209 (by decide) (fun g9 => absurd (by decide) g9) (fun _ => ?_)
    refine lv_aload_n S.1 S.2.1 dM_operate_212 rfl (lv_at hl 0 rfl) ?_
    refine lv_iconst (v := 2) S.1 S.2.1 dM_operate_213 (by decide) ?_
    refine cl_i (As := [.int 2]) (rest := []) S hN hK hP hD hS hA hl.1 (c_M_bit l D a _ pc (((lk <<< ((12 : Int32) &&& 31)) ||| ac) &&& 4095) (((lk <<< ((12 : Int32) &&& 31)) ||| ac) >>> ((12 : Int32) &&& 31)) mq ma mb ir sw io dl ha rd 24 md kf kb cn pf co ou 2) k_M_83 (rc_M hK hP) ⟨by decide, by decide⟩ rfl rfl (Nat.le_of_ble_eq_true rfl) ⟨Nat.le_refl _, Nat.le_refl _⟩ dM_operate_214 (fun r u H locs hw hP hD hS => ?_)
    obtain ⟨g10, rfl, rfl⟩ | ⟨g11, rfl, rfl⟩ := hw
    · refine lv_if_eq (tgt := 225) S.1 S.2.1 dM_operate_217 (by decide) (fun _ => ?_) (fun g12 => absurd (by decide) g12)
      refine lv_iconst (v := 0) S.1 S.2.1 dM_operate_225 (by decide) ?_
      exact rt_i S hr hk hK hP hD hS ((by simp [mu24, rg_, r1_, r2_, e0, e1, g1, g2, g10])) dM_operate_226
    · refine lv_if_eq (tgt := 225) S.1 S.2.1 dM_operate_217 (by decide) (fun g13 => absurd g13 (by decide)) (fun _ => ?_)
      refine lv_bipush (v := 25) S.1 S.2.1 dM_operate_220 (by decide) ?_
      refine lv_goto (tgt := 226) S.1 S.2.1 dM_operate_222 (by decide) ?_
      exact rt_i S hr hk hK hP hD hS ((by simp [mu24, rg_, r1_, r2_, e0, e1, g1, g2, g11])) dM_operate_226
  · refine lv_aload_n S.1 S.2.1 dM_operate_203 rfl (lv_at hl 0 rfl) ?_
    refine g_M_M_at S hK hP dM_operate_204 ?_
    refine lv_bipush (v := 24) S.1 S.2.1 dM_operate_207 (by decide) ?_
    refine lv_icmp_ne (tgt := 225) S.1 S.2.1 dM_operate_209 (by decide) (fun g14 => absurd (by decide) g14) (fun _ => ?_)
    refine lv_aload_n S.1 S.2.1 dM_operate_212 rfl (lv_at hl 0 rfl) ?_
    refine lv_iconst (v := 2) S.1 S.2.1 dM_operate_213 (by decide) ?_
    refine cl_i (As := [.int 2]) (rest := []) S hN hK hP hD hS hA hl.1 (c_M_bit l D a _ pc ((((((lk <<< ((12 : Int32) &&& 31)) ||| ac) <<< ((1 : Int32) &&& 31)) &&& 8191) ||| (((lk <<< ((12 : Int32) &&& 31)) ||| ac) >>> ((12 : Int32) &&& 31))) &&& 4095) ((((((lk <<< ((12 : Int32) &&& 31)) ||| ac) <<< ((1 : Int32) &&& 31)) &&& 8191) ||| (((lk <<< ((12 : Int32) &&& 31)) ||| ac) >>> ((12 : Int32) &&& 31))) >>> ((12 : Int32) &&& 31)) mq ma mb ir sw io dl ha rd 24 md kf kb cn pf co ou 2) k_M_83 (rc_M hK hP) ⟨by decide, by decide⟩ rfl rfl (Nat.le_of_ble_eq_true rfl) ⟨Nat.le_refl _, Nat.le_refl _⟩ dM_operate_214 (fun r u H locs hw hP hD hS => ?_)
    obtain ⟨g15, rfl, rfl⟩ | ⟨g16, rfl, rfl⟩ := hw
    · refine lv_if_eq (tgt := 225) S.1 S.2.1 dM_operate_217 (by decide) (fun _ => ?_) (fun g17 => absurd (by decide) g17)
      refine lv_iconst (v := 0) S.1 S.2.1 dM_operate_225 (by decide) ?_
      exact rt_i S hr hk hK hP hD hS ((by simp [mu24, rg_, r1_, r2_, e0, e1, g3, g4, g15])) dM_operate_226
    · refine lv_if_eq (tgt := 225) S.1 S.2.1 dM_operate_217 (by decide) (fun g18 => absurd g18 (by decide)) (fun _ => ?_)
      refine lv_bipush (v := 25) S.1 S.2.1 dM_operate_220 (by decide) ?_
      refine lv_goto (tgt := 226) S.1 S.2.1 dM_operate_222 (by decide) ?_
      exact rt_i S hr hk hK hP hD hS ((by simp [mu24, rg_, r1_, r2_, e0, e1, g3, g4, g16])) dM_operate_226
  · refine lv_aload_n S.1 S.2.1 dM_operate_203 rfl (lv_at hl 0 rfl) ?_
    refine g_M_M_at S hK hP dM_operate_204 ?_
    refine lv_bipush (v := 24) S.1 S.2.1 dM_operate_207 (by decide) ?_
    refine lv_icmp_ne (tgt := 225) S.1 S.2.1 dM_operate_209 (by decide) (fun g19 => absurd (by decide) g19) (fun _ => ?_)
    refine lv_aload_n S.1 S.2.1 dM_operate_212 rfl (lv_at hl 0 rfl) ?_
    refine lv_iconst (v := 2) S.1 S.2.1 dM_operate_213 (by decide) ?_
    refine cl_i (As := [.int 2]) (rest := []) S hN hK hP hD hS hA hl.1 (c_M_bit l D a _ pc (((((lk <<< ((12 : Int32) &&& 31)) ||| ac) >>> ((1 : Int32) &&& 31)) ||| ((((lk <<< ((12 : Int32) &&& 31)) ||| ac) &&& 1) <<< ((12 : Int32) &&& 31))) &&& 4095) (((((lk <<< ((12 : Int32) &&& 31)) ||| ac) >>> ((1 : Int32) &&& 31)) ||| ((((lk <<< ((12 : Int32) &&& 31)) ||| ac) &&& 1) <<< ((12 : Int32) &&& 31))) >>> ((12 : Int32) &&& 31)) mq ma mb ir sw io dl ha rd 24 md kf kb cn pf co ou 2) k_M_83 (rc_M hK hP) ⟨by decide, by decide⟩ rfl rfl (Nat.le_of_ble_eq_true rfl) ⟨Nat.le_refl _, Nat.le_refl _⟩ dM_operate_214 (fun r u H locs hw hP hD hS => ?_)
    obtain ⟨g20, rfl, rfl⟩ | ⟨g21, rfl, rfl⟩ := hw
    · refine lv_if_eq (tgt := 225) S.1 S.2.1 dM_operate_217 (by decide) (fun _ => ?_) (fun g22 => absurd (by decide) g22)
      refine lv_iconst (v := 0) S.1 S.2.1 dM_operate_225 (by decide) ?_
      exact rt_i S hr hk hK hP hD hS ((by simp [mu24, rg_, r1_, r2_, e0, e1, g5, g6, g20])) dM_operate_226
    · refine lv_if_eq (tgt := 225) S.1 S.2.1 dM_operate_217 (by decide) (fun g23 => absurd g23 (by decide)) (fun _ => ?_)
      refine lv_bipush (v := 25) S.1 S.2.1 dM_operate_220 (by decide) ?_
      refine lv_goto (tgt := 226) S.1 S.2.1 dM_operate_222 (by decide) ?_
      exact rt_i S hr hk hK hP hD hS ((by simp [mu24, rg_, r1_, r2_, e0, e1, g5, g6, g21])) dM_operate_226
  · refine lv_aload_n S.1 S.2.1 dM_operate_203 rfl (lv_at hl 0 rfl) ?_
    refine g_M_M_at S hK hP dM_operate_204 ?_
    refine lv_bipush (v := 24) S.1 S.2.1 dM_operate_207 (by decide) ?_
    refine lv_icmp_ne (tgt := 225) S.1 S.2.1 dM_operate_209 (by decide) (fun g24 => absurd (by decide) g24) (fun _ => ?_)
    refine lv_aload_n S.1 S.2.1 dM_operate_212 rfl (lv_at hl 0 rfl) ?_
    refine lv_iconst (v := 2) S.1 S.2.1 dM_operate_213 (by decide) ?_
    refine cl_i (As := [.int 2]) (rest := []) S hN hK hP hD hS hA hl.1 (c_M_bit l D a _ pc ((((((((lk <<< ((12 : Int32) &&& 31)) ||| ac) >>> ((1 : Int32) &&& 31)) ||| ((((lk <<< ((12 : Int32) &&& 31)) ||| ac) &&& 1) <<< ((12 : Int32) &&& 31))) <<< ((1 : Int32) &&& 31)) &&& 8191) ||| (((((lk <<< ((12 : Int32) &&& 31)) ||| ac) >>> ((1 : Int32) &&& 31)) ||| ((((lk <<< ((12 : Int32) &&& 31)) ||| ac) &&& 1) <<< ((12 : Int32) &&& 31))) >>> ((12 : Int32) &&& 31))) &&& 4095) ((((((((lk <<< ((12 : Int32) &&& 31)) ||| ac) >>> ((1 : Int32) &&& 31)) ||| ((((lk <<< ((12 : Int32) &&& 31)) ||| ac) &&& 1) <<< ((12 : Int32) &&& 31))) <<< ((1 : Int32) &&& 31)) &&& 8191) ||| (((((lk <<< ((12 : Int32) &&& 31)) ||| ac) >>> ((1 : Int32) &&& 31)) ||| ((((lk <<< ((12 : Int32) &&& 31)) ||| ac) &&& 1) <<< ((12 : Int32) &&& 31))) >>> ((12 : Int32) &&& 31))) >>> ((12 : Int32) &&& 31)) mq ma mb ir sw io dl ha rd 24 md kf kb cn pf co ou 2) k_M_83 (rc_M hK hP) ⟨by decide, by decide⟩ rfl rfl (Nat.le_of_ble_eq_true rfl) ⟨Nat.le_refl _, Nat.le_refl _⟩ dM_operate_214 (fun r u H locs hw hP hD hS => ?_)
    obtain ⟨g25, rfl, rfl⟩ | ⟨g26, rfl, rfl⟩ := hw
    · refine lv_if_eq (tgt := 225) S.1 S.2.1 dM_operate_217 (by decide) (fun _ => ?_) (fun g27 => absurd (by decide) g27)
      refine lv_iconst (v := 0) S.1 S.2.1 dM_operate_225 (by decide) ?_
      exact rt_i S hr hk hK hP hD hS ((by simp [mu24, rg_, r1_, r2_, e0, e1, g7, g8, g25])) dM_operate_226
    · refine lv_if_eq (tgt := 225) S.1 S.2.1 dM_operate_217 (by decide) (fun g28 => absurd g28 (by decide)) (fun _ => ?_)
      refine lv_bipush (v := 25) S.1 S.2.1 dM_operate_220 (by decide) ?_
      refine lv_goto (tgt := 226) S.1 S.2.1 dM_operate_222 (by decide) ?_
      exact rt_i S hr hk hK hP hD hS ((by simp [mu24, rg_, r1_, r2_, e0, e1, g7, g8, g26])) dM_operate_226

set_option maxHeartbeats 4000000 in
set_option maxRecDepth 100000 in
theorem c_M_operate_25 (l : Launch) (D : va_G) (a : AR) (sz : Nat) (pc ac lk mq ma mb ir sw io dl ha rd md kf kb cn pf : Int32) (co ou : Nat → Int32) (I : Iv a.2.2.2.2.2 (pc, ac, lk, mq, ma, mb, ir, sw, io, dl, ha, rd, 25, md, kf, kb, cn, pf, co, ou)) : MI l D (wr a) (tr a) sz yM_operate cM_operate 1 (some .int) 2 [.ref a.1] (pc, ac, lk, mq, ma, mb, ir, sw, io, dl, ha, rd, 25, md, kf, kb, cn, pf, co, ou) (fun r u => (r, u) = mu25 (pc, ac, lk, mq, ma, mb, ir, sw, io, dl, ha, rd, 25, md, kf, kb, cn, pf, co, ou)) := by
  refine en_i RM rfl (by decide) (Nat.le_of_ble_eq_true rfl) ?_
  intro p e s m below meth c A ls S hr hk hA hN hK hP hD hS hl
  have hl : lv_has ls 1 [(0, .ref a.1)] := hl
  obtain ⟨⟨hpc, hac, hmq, hma, hmb, hir, hsw⟩, hlk, ⟨hio, hdl, hha, hrd, hkf, hpf⟩, hsn, hlt, hkb, hcn, hn, hco⟩ := I
  have e0 := ro_e (rg_g hlk hac)
  have e1 := ro_e (ro_r (rg_g hlk hac))
  refine lv_aload_n S.1 S.2.1 dM_operate_0 rfl (lv_at hl 0 rfl) ?_
  refine g_M_M_at S hK hP dM_operate_1 ?_
  refine lv_tableOut (tgt := 199) S.1 S.2.1 dM_operate_4 (by decide +kernel) (by decide) ?_
  refine lv_aload_n S.1 S.2.1 dM_operate_199 rfl (lv_at hl 0 rfl) ?_
  refine cl_v (As := []) (rest := []) S hN hK hP hD hS hA hl.1 (c_M_rotate l D a _ pc ac lk mq ma mb ir sw io dl ha rd 25 md kf kb cn pf co ou ) k_M_90 (rc_M hK hP) ⟨by decide, by decide⟩ rfl rfl (Nat.le_of_ble_eq_true rfl) ⟨Nat.le_refl _, Nat.le_refl _⟩ dM_operate_200 (fun u H locs hw hP hD hS => ?_)
  obtain ⟨g1, g2, rfl⟩ | ⟨g3, g4, rfl⟩ | ⟨g5, g6, rfl⟩ | ⟨g7, g8, rfl⟩ := hw
  · refine lv_aload_n S.1 S.2.1 dM_operate_203 rfl (lv_at hl 0 rfl) ?_
    refine g_M_M_at S hK hP dM_operate_204 ?_
    refine lv_bipush (v := 24) S.1 S.2.1 dM_operate_207 (by decide) ?_
    refine lv_icmp_ne (tgt := 225) S.1 S.2.1 dM_operate_209 (by decide) (fun _ => ?_) (fun g9 => absurd g9 (by decide))
    refine lv_iconst (v := 0) S.1 S.2.1 dM_operate_225 (by decide) ?_
    exact rt_i S hr hk hK hP hD hS ((by simp [mu25, rg_, r1_, r2_, e0, e1, g1, g2])) dM_operate_226
  · refine lv_aload_n S.1 S.2.1 dM_operate_203 rfl (lv_at hl 0 rfl) ?_
    refine g_M_M_at S hK hP dM_operate_204 ?_
    refine lv_bipush (v := 24) S.1 S.2.1 dM_operate_207 (by decide) ?_
    refine lv_icmp_ne (tgt := 225) S.1 S.2.1 dM_operate_209 (by decide) (fun _ => ?_) (fun g10 => absurd g10 (by decide))
    refine lv_iconst (v := 0) S.1 S.2.1 dM_operate_225 (by decide) ?_
    exact rt_i S hr hk hK hP hD hS ((by simp [mu25, rg_, r1_, r2_, e0, e1, g3, g4])) dM_operate_226
  · refine lv_aload_n S.1 S.2.1 dM_operate_203 rfl (lv_at hl 0 rfl) ?_
    refine g_M_M_at S hK hP dM_operate_204 ?_
    refine lv_bipush (v := 24) S.1 S.2.1 dM_operate_207 (by decide) ?_
    refine lv_icmp_ne (tgt := 225) S.1 S.2.1 dM_operate_209 (by decide) (fun _ => ?_) (fun g11 => absurd g11 (by decide))
    refine lv_iconst (v := 0) S.1 S.2.1 dM_operate_225 (by decide) ?_
    exact rt_i S hr hk hK hP hD hS ((by simp [mu25, rg_, r1_, r2_, e0, e1, g5, g6])) dM_operate_226
  · refine lv_aload_n S.1 S.2.1 dM_operate_203 rfl (lv_at hl 0 rfl) ?_
    refine g_M_M_at S hK hP dM_operate_204 ?_
    refine lv_bipush (v := 24) S.1 S.2.1 dM_operate_207 (by decide) ?_
    refine lv_icmp_ne (tgt := 225) S.1 S.2.1 dM_operate_209 (by decide) (fun _ => ?_) (fun g12 => absurd g12 (by decide))
    refine lv_iconst (v := 0) S.1 S.2.1 dM_operate_225 (by decide) ?_
    exact rt_i S hr hk hK hP hD hS ((by simp [mu25, rg_, r1_, r2_, e0, e1, g7, g8])) dM_operate_226
end
