section
-- ===== PART A: goes FIRST, ahead of the names: the tables' words, and 'selects' of the private methods out of them =====
/-- a private method of a class that the tables say can be made, by its rows of tables_1 -/
def lw_okq (q : MethodName × Nat) : Prop := (q.1.cls ≠ "java/lang/invoke/MethodHandle" ∧ q.1.cls ≠ "java/lang/invoke/VarHandle") ∧ Cond.instantiable q.1.cls q.2 ∈ tables_1 ∧ Cond.privateMethod q.1 ∈ tables_1 ∧ Cond.instanceMethod q.1 ∈ tables_1
theorem lw_p0 : lw_okq (⟨"VotedCore$Memory", "keep", "(II)V"⟩, 2) := ⟨⟨by decide +kernel, by decide +kernel⟩, List.mem_of_getElem? (i := 21) (by decide +kernel), List.mem_of_getElem? (i := 138) (by decide +kernel), List.mem_of_getElem? (i := 139) (by decide +kernel)⟩
theorem lw_p1 : lw_okq (⟨"VotedCore$Cache", "dropAll", "()V"⟩, 2) := ⟨⟨by decide +kernel, by decide +kernel⟩, List.mem_of_getElem? (i := 37) (by decide +kernel), List.mem_of_getElem? (i := 160) (by decide +kernel), List.mem_of_getElem? (i := 161) (by decide +kernel)⟩
theorem lw_p2 : lw_okq (⟨"VotedCore$Registers", "put", "(II)V"⟩, 2) := ⟨⟨by decide +kernel, by decide +kernel⟩, List.mem_of_getElem? (i := 52) (by decide +kernel), List.mem_of_getElem? (i := 174) (by decide +kernel), List.mem_of_getElem? (i := 175) (by decide +kernel)⟩
theorem lw_p3 : lw_okq (⟨"VotedCore$Registers", "agreed", "(I)I"⟩, 2) := ⟨⟨by decide +kernel, by decide +kernel⟩, List.mem_of_getElem? (i := 52) (by decide +kernel), List.mem_of_getElem? (i := 182) (by decide +kernel), List.mem_of_getElem? (i := 183) (by decide +kernel)⟩
theorem lw_p4 : lw_okq (⟨"VotedCore$Memory", "inspect", "(I)J"⟩, 2) := ⟨⟨by decide +kernel, by decide +kernel⟩, List.mem_of_getElem? (i := 21) (by decide +kernel), List.mem_of_getElem? (i := 190) (by decide +kernel), List.mem_of_getElem? (i := 191) (by decide +kernel)⟩
theorem lw_p5 : lw_okq (⟨"VotedCore", "invert", "(II)V"⟩, 11) := ⟨⟨by decide +kernel, by decide +kernel⟩, List.mem_of_getElem? (i := 13) (by decide +kernel), List.mem_of_getElem? (i := 214) (by decide +kernel), List.mem_of_getElem? (i := 215) (by decide +kernel)⟩
theorem lw_p6 : lw_okq (⟨"VotedCore$Faults", "append", "(III)V"⟩, 4) := ⟨⟨by decide +kernel, by decide +kernel⟩, List.mem_of_getElem? (i := 68) (by decide +kernel), List.mem_of_getElem? (i := 222) (by decide +kernel), List.mem_of_getElem? (i := 223) (by decide +kernel)⟩
theorem lw_p7 : lw_okq (⟨"VotedCore", "makePlannedFaults", "()V"⟩, 11) := ⟨⟨by decide +kernel, by decide +kernel⟩, List.mem_of_getElem? (i := 13) (by decide +kernel), List.mem_of_getElem? (i := 234) (by decide +kernel), List.mem_of_getElem? (i := 235) (by decide +kernel)⟩
theorem lw_p8 : lw_okq (⟨"VotedCore$Faults", "move", "(II)V"⟩, 4) := ⟨⟨by decide +kernel, by decide +kernel⟩, List.mem_of_getElem? (i := 68) (by decide +kernel), List.mem_of_getElem? (i := 238) (by decide +kernel), List.mem_of_getElem? (i := 239) (by decide +kernel)⟩
theorem lw_p9 : lw_okq (⟨"VotedCore$Registers", "vote", "()V"⟩, 2) := ⟨⟨by decide +kernel, by decide +kernel⟩, List.mem_of_getElem? (i := 52) (by decide +kernel), List.mem_of_getElem? (i := 242) (by decide +kernel), List.mem_of_getElem? (i := 243) (by decide +kernel)⟩
theorem lw_p10 : lw_okq (⟨"VotedCore", "doInstruction", "()V"⟩, 11) := ⟨⟨by decide +kernel, by decide +kernel⟩, List.mem_of_getElem? (i := 13) (by decide +kernel), List.mem_of_getElem? (i := 248) (by decide +kernel), List.mem_of_getElem? (i := 249) (by decide +kernel)⟩
theorem lw_p11 : lw_okq (⟨"VotedCore", "stop", "(II)V"⟩, 11) := ⟨⟨by decide +kernel, by decide +kernel⟩, List.mem_of_getElem? (i := 13) (by decide +kernel), List.mem_of_getElem? (i := 255) (by decide +kernel), List.mem_of_getElem? (i := 256) (by decide +kernel)⟩
theorem lw_p12 : lw_okq (⟨"VotedCore", "fetch", "(LVotedCore$Cache;I)J"⟩, 11) := ⟨⟨by decide +kernel, by decide +kernel⟩, List.mem_of_getElem? (i := 13) (by decide +kernel), List.mem_of_getElem? (i := 259) (by decide +kernel), List.mem_of_getElem? (i := 260) (by decide +kernel)⟩
theorem lw_p13 : lw_okq (⟨"VotedCore$Cache", "dropIfWrong", "(I)V"⟩, 2) := ⟨⟨by decide +kernel, by decide +kernel⟩, List.mem_of_getElem? (i := 37) (by decide +kernel), List.mem_of_getElem? (i := 263) (by decide +kernel), List.mem_of_getElem? (i := 264) (by decide +kernel)⟩
theorem lw_p14 : lw_okq (⟨"VotedCore$Cache", "holds", "(I)Z"⟩, 2) := ⟨⟨by decide +kernel, by decide +kernel⟩, List.mem_of_getElem? (i := 37) (by decide +kernel), List.mem_of_getElem? (i := 268) (by decide +kernel), List.mem_of_getElem? (i := 269) (by decide +kernel)⟩
theorem lw_p15 : lw_okq (⟨"VotedCore$Cache", "held", "(I)J"⟩, 2) := ⟨⟨by decide +kernel, by decide +kernel⟩, List.mem_of_getElem? (i := 37) (by decide +kernel), List.mem_of_getElem? (i := 273) (by decide +kernel), List.mem_of_getElem? (i := 274) (by decide +kernel)⟩
def lw_privs_1 : List (MethodName × Nat) := [(⟨"VotedCore$Memory", "keep", "(II)V"⟩, 2), (⟨"VotedCore$Cache", "dropAll", "()V"⟩, 2), (⟨"VotedCore$Registers", "put", "(II)V"⟩, 2), (⟨"VotedCore$Registers", "agreed", "(I)I"⟩, 2), (⟨"VotedCore$Memory", "inspect", "(I)J"⟩, 2), (⟨"VotedCore", "invert", "(II)V"⟩, 11), (⟨"VotedCore$Faults", "append", "(III)V"⟩, 4), (⟨"VotedCore", "makePlannedFaults", "()V"⟩, 11), (⟨"VotedCore$Faults", "move", "(II)V"⟩, 4), (⟨"VotedCore$Registers", "vote", "()V"⟩, 2), (⟨"VotedCore", "doInstruction", "()V"⟩, 11), (⟨"VotedCore", "stop", "(II)V"⟩, 11), (⟨"VotedCore", "fetch", "(LVotedCore$Cache;I)J"⟩, 11), (⟨"VotedCore$Cache", "dropIfWrong", "(I)V"⟩, 2), (⟨"VotedCore$Cache", "holds", "(I)Z"⟩, 2), (⟨"VotedCore$Cache", "held", "(I)J"⟩, 2)]
theorem lw_r1 : ∀ q ∈ lw_privs_1, lw_okq q := List.forall_mem_cons.mpr ⟨lw_p0, List.forall_mem_cons.mpr ⟨lw_p1, List.forall_mem_cons.mpr ⟨lw_p2, List.forall_mem_cons.mpr ⟨lw_p3, List.forall_mem_cons.mpr ⟨lw_p4, List.forall_mem_cons.mpr ⟨lw_p5, List.forall_mem_cons.mpr ⟨lw_p6, List.forall_mem_cons.mpr ⟨lw_p7, List.forall_mem_cons.mpr ⟨lw_p8, List.forall_mem_cons.mpr ⟨lw_p9, List.forall_mem_cons.mpr ⟨lw_p10, List.forall_mem_cons.mpr ⟨lw_p11, List.forall_mem_cons.mpr ⟨lw_p12, List.forall_mem_cons.mpr ⟨lw_p13, List.forall_mem_cons.mpr ⟨lw_p14, List.forall_mem_cons.mpr ⟨lw_p15, fun _ h => absurd h List.not_mem_nil⟩⟩⟩⟩⟩⟩⟩⟩⟩⟩⟩⟩⟩⟩⟩⟩
theorem lw_p16 : lw_okq (⟨"VotedCore$Memory", "mend", "(I)J"⟩, 2) := ⟨⟨by decide +kernel, by decide +kernel⟩, List.mem_of_getElem? (i := 21) (by decide +kernel), List.mem_of_getElem? (i := 278) (by decide +kernel), List.mem_of_getElem? (i := 279) (by decide +kernel)⟩
theorem lw_p17 : lw_okq (⟨"VotedCore$Cache", "fill", "(II)V"⟩, 2) := ⟨⟨by decide +kernel, by decide +kernel⟩, List.mem_of_getElem? (i := 37) (by decide +kernel), List.mem_of_getElem? (i := 283) (by decide +kernel), List.mem_of_getElem? (i := 284) (by decide +kernel)⟩
theorem lw_p18 : lw_okq (⟨"VotedCore", "finish", "(III)V"⟩, 11) := ⟨⟨by decide +kernel, by decide +kernel⟩, List.mem_of_getElem? (i := 13) (by decide +kernel), List.mem_of_getElem? (i := 296) (by decide +kernel), List.mem_of_getElem? (i := 297) (by decide +kernel)⟩
theorem lw_p19 : lw_okq (⟨"VotedCore$Registers", "putResult", "(II)V"⟩, 2) := ⟨⟨by decide +kernel, by decide +kernel⟩, List.mem_of_getElem? (i := 52) (by decide +kernel), List.mem_of_getElem? (i := 300) (by decide +kernel), List.mem_of_getElem? (i := 301) (by decide +kernel)⟩
theorem lw_p20 : lw_okq (⟨"VotedCore", "goOn", "(I)V"⟩, 11) := ⟨⟨by decide +kernel, by decide +kernel⟩, List.mem_of_getElem? (i := 13) (by decide +kernel), List.mem_of_getElem? (i := 304) (by decide +kernel), List.mem_of_getElem? (i := 305) (by decide +kernel)⟩
theorem lw_p21 : lw_okq (⟨"VotedCore", "jump", "(III)V"⟩, 11) := ⟨⟨by decide +kernel, by decide +kernel⟩, List.mem_of_getElem? (i := 13) (by decide +kernel), List.mem_of_getElem? (i := 312) (by decide +kernel), List.mem_of_getElem? (i := 313) (by decide +kernel)⟩
theorem lw_p22 : lw_okq (⟨"VotedCore", "jumpByRegister", "(II)V"⟩, 11) := ⟨⟨by decide +kernel, by decide +kernel⟩, List.mem_of_getElem? (i := 13) (by decide +kernel), List.mem_of_getElem? (i := 316) (by decide +kernel), List.mem_of_getElem? (i := 317) (by decide +kernel)⟩
theorem lw_p23 : lw_okq (⟨"VotedCore$Registers", "operand", "(I)I"⟩, 2) := ⟨⟨by decide +kernel, by decide +kernel⟩, List.mem_of_getElem? (i := 52) (by decide +kernel), List.mem_of_getElem? (i := 326) (by decide +kernel), List.mem_of_getElem? (i := 327) (by decide +kernel)⟩
theorem lw_p24 : lw_okq (⟨"VotedCore", "branch", "(II)V"⟩, 11) := ⟨⟨by decide +kernel, by decide +kernel⟩, List.mem_of_getElem? (i := 13) (by decide +kernel), List.mem_of_getElem? (i := 333) (by decide +kernel), List.mem_of_getElem? (i := 334) (by decide +kernel)⟩
theorem lw_p25 : lw_okq (⟨"VotedCore", "load", "(II)V"⟩, 11) := ⟨⟨by decide +kernel, by decide +kernel⟩, List.mem_of_getElem? (i := 13) (by decide +kernel), List.mem_of_getElem? (i := 353) (by decide +kernel), List.mem_of_getElem? (i := 354) (by decide +kernel)⟩
theorem lw_p26 : lw_okq (⟨"VotedCore", "store", "(II)V"⟩, 11) := ⟨⟨by decide +kernel, by decide +kernel⟩, List.mem_of_getElem? (i := 13) (by decide +kernel), List.mem_of_getElem? (i := 367) (by decide +kernel), List.mem_of_getElem? (i := 368) (by decide +kernel)⟩
theorem lw_p27 : lw_okq (⟨"VotedCore", "save", "(II)V"⟩, 11) := ⟨⟨by decide +kernel, by decide +kernel⟩, List.mem_of_getElem? (i := 13) (by decide +kernel), List.mem_of_getElem? (i := 375) (by decide +kernel), List.mem_of_getElem? (i := 376) (by decide +kernel)⟩
theorem lw_p28 : lw_okq (⟨"VotedCore$Cache", "drop", "(I)V"⟩, 2) := ⟨⟨by decide +kernel, by decide +kernel⟩, List.mem_of_getElem? (i := 37) (by decide +kernel), List.mem_of_getElem? (i := 379) (by decide +kernel), List.mem_of_getElem? (i := 380) (by decide +kernel)⟩
theorem lw_p29 : lw_okq (⟨"VotedCore", "computeWithNumber", "(II)V"⟩, 11) := ⟨⟨by decide +kernel, by decide +kernel⟩, List.mem_of_getElem? (i := 13) (by decide +kernel), List.mem_of_getElem? (i := 384) (by decide +kernel), List.mem_of_getElem? (i := 385) (by decide +kernel)⟩
theorem lw_p30 : lw_okq (⟨"VotedCore", "computeWithRegister", "(II)V"⟩, 11) := ⟨⟨by decide +kernel, by decide +kernel⟩, List.mem_of_getElem? (i := 13) (by decide +kernel), List.mem_of_getElem? (i := 394) (by decide +kernel), List.mem_of_getElem? (i := 395) (by decide +kernel)⟩
theorem lw_p31 : lw_okq (⟨"VotedCore", "doNothing", "(II)V"⟩, 11) := ⟨⟨by decide +kernel, by decide +kernel⟩, List.mem_of_getElem? (i := 13) (by decide +kernel), List.mem_of_getElem? (i := 398) (by decide +kernel), List.mem_of_getElem? (i := 399) (by decide +kernel)⟩
def lw_privs_2 : List (MethodName × Nat) := [(⟨"VotedCore$Memory", "mend", "(I)J"⟩, 2), (⟨"VotedCore$Cache", "fill", "(II)V"⟩, 2), (⟨"VotedCore", "finish", "(III)V"⟩, 11), (⟨"VotedCore$Registers", "putResult", "(II)V"⟩, 2), (⟨"VotedCore", "goOn", "(I)V"⟩, 11), (⟨"VotedCore", "jump", "(III)V"⟩, 11), (⟨"VotedCore", "jumpByRegister", "(II)V"⟩, 11), (⟨"VotedCore$Registers", "operand", "(I)I"⟩, 2), (⟨"VotedCore", "branch", "(II)V"⟩, 11), (⟨"VotedCore", "load", "(II)V"⟩, 11), (⟨"VotedCore", "store", "(II)V"⟩, 11), (⟨"VotedCore", "save", "(II)V"⟩, 11), (⟨"VotedCore$Cache", "drop", "(I)V"⟩, 2), (⟨"VotedCore", "computeWithNumber", "(II)V"⟩, 11), (⟨"VotedCore", "computeWithRegister", "(II)V"⟩, 11), (⟨"VotedCore", "doNothing", "(II)V"⟩, 11)]
theorem lw_r2 : ∀ q ∈ lw_privs_2, lw_okq q := List.forall_mem_cons.mpr ⟨lw_p16, List.forall_mem_cons.mpr ⟨lw_p17, List.forall_mem_cons.mpr ⟨lw_p18, List.forall_mem_cons.mpr ⟨lw_p19, List.forall_mem_cons.mpr ⟨lw_p20, List.forall_mem_cons.mpr ⟨lw_p21, List.forall_mem_cons.mpr ⟨lw_p22, List.forall_mem_cons.mpr ⟨lw_p23, List.forall_mem_cons.mpr ⟨lw_p24, List.forall_mem_cons.mpr ⟨lw_p25, List.forall_mem_cons.mpr ⟨lw_p26, List.forall_mem_cons.mpr ⟨lw_p27, List.forall_mem_cons.mpr ⟨lw_p28, List.forall_mem_cons.mpr ⟨lw_p29, List.forall_mem_cons.mpr ⟨lw_p30, List.forall_mem_cons.mpr ⟨lw_p31, fun _ h => absurd h List.not_mem_nil⟩⟩⟩⟩⟩⟩⟩⟩⟩⟩⟩⟩⟩⟩⟩⟩
theorem lw_p32 : lw_okq (⟨"VotedCore", "callOrBreak", "(I)V"⟩, 11) := ⟨⟨by decide +kernel, by decide +kernel⟩, List.mem_of_getElem? (i := 13) (by decide +kernel), List.mem_of_getElem? (i := 402) (by decide +kernel), List.mem_of_getElem? (i := 403) (by decide +kernel)⟩
theorem lw_p33 : lw_okq (⟨"VotedCore", "scrub", "()V"⟩, 11) := ⟨⟨by decide +kernel, by decide +kernel⟩, List.mem_of_getElem? (i := 13) (by decide +kernel), List.mem_of_getElem? (i := 407) (by decide +kernel), List.mem_of_getElem? (i := 408) (by decide +kernel)⟩
theorem lw_p34 : lw_okq (⟨"VotedCoreModel", "makeFaults", "()V"⟩, 18) := ⟨⟨by decide +kernel, by decide +kernel⟩, List.mem_of_getElem? (i := 434) (by decide +kernel), List.mem_of_getElem? (i := 502) (by decide +kernel), List.mem_of_getElem? (i := 503) (by decide +kernel)⟩
theorem lw_p35 : lw_okq (⟨"VotedCoreModel", "change", "(II)V"⟩, 18) := ⟨⟨by decide +kernel, by decide +kernel⟩, List.mem_of_getElem? (i := 434) (by decide +kernel), List.mem_of_getElem? (i := 506) (by decide +kernel), List.mem_of_getElem? (i := 507) (by decide +kernel)⟩
theorem lw_p36 : lw_okq (⟨"VotedCoreModel", "vote", "()V"⟩, 18) := ⟨⟨by decide +kernel, by decide +kernel⟩, List.mem_of_getElem? (i := 434) (by decide +kernel), List.mem_of_getElem? (i := 510) (by decide +kernel), List.mem_of_getElem? (i := 511) (by decide +kernel)⟩
theorem lw_p37 : lw_okq (⟨"VotedCoreModel", "valueOf", "(I)I"⟩, 18) := ⟨⟨by decide +kernel, by decide +kernel⟩, List.mem_of_getElem? (i := 434) (by decide +kernel), List.mem_of_getElem? (i := 514) (by decide +kernel), List.mem_of_getElem? (i := 515) (by decide +kernel)⟩
theorem lw_p38 : lw_okq (⟨"VotedCoreModel", "put", "(II)V"⟩, 18) := ⟨⟨by decide +kernel, by decide +kernel⟩, List.mem_of_getElem? (i := 434) (by decide +kernel), List.mem_of_getElem? (i := 521) (by decide +kernel), List.mem_of_getElem? (i := 522) (by decide +kernel)⟩
theorem lw_p39 : lw_okq (⟨"VotedCoreModel", "instruct", "()V"⟩, 18) := ⟨⟨by decide +kernel, by decide +kernel⟩, List.mem_of_getElem? (i := 434) (by decide +kernel), List.mem_of_getElem? (i := 525) (by decide +kernel), List.mem_of_getElem? (i := 526) (by decide +kernel)⟩
theorem lw_p40 : lw_okq (⟨"VotedCoreModel", "stop", "(II)V"⟩, 18) := ⟨⟨by decide +kernel, by decide +kernel⟩, List.mem_of_getElem? (i := 434) (by decide +kernel), List.mem_of_getElem? (i := 529) (by decide +kernel), List.mem_of_getElem? (i := 530) (by decide +kernel)⟩
theorem lw_p41 : lw_okq (⟨"VotedCoreModel", "fetch", "(II)Z"⟩, 18) := ⟨⟨by decide +kernel, by decide +kernel⟩, List.mem_of_getElem? (i := 434) (by decide +kernel), List.mem_of_getElem? (i := 533) (by decide +kernel), List.mem_of_getElem? (i := 534) (by decide +kernel)⟩
theorem lw_p42 : lw_okq (⟨"VotedCoreModel", "holds", "(II)Z"⟩, 18) := ⟨⟨by decide +kernel, by decide +kernel⟩, List.mem_of_getElem? (i := 434) (by decide +kernel), List.mem_of_getElem? (i := 537) (by decide +kernel), List.mem_of_getElem? (i := 538) (by decide +kernel)⟩
theorem lw_p43 : lw_okq (⟨"VotedCoreModel", "mend", "(I)Z"⟩, 18) := ⟨⟨by decide +kernel, by decide +kernel⟩, List.mem_of_getElem? (i := 434) (by decide +kernel), List.mem_of_getElem? (i := 545) (by decide +kernel), List.mem_of_getElem? (i := 546) (by decide +kernel)⟩
theorem lw_p44 : lw_okq (⟨"VotedCoreModel", "execute", "()V"⟩, 18) := ⟨⟨by decide +kernel, by decide +kernel⟩, List.mem_of_getElem? (i := 434) (by decide +kernel), List.mem_of_getElem? (i := 567) (by decide +kernel), List.mem_of_getElem? (i := 568) (by decide +kernel)⟩
theorem lw_p45 : lw_okq (⟨"VotedCoreModel", "field", "(II)I"⟩, 18) := ⟨⟨by decide +kernel, by decide +kernel⟩, List.mem_of_getElem? (i := 434) (by decide +kernel), List.mem_of_getElem? (i := 571) (by decide +kernel), List.mem_of_getElem? (i := 572) (by decide +kernel)⟩
theorem lw_p46 : lw_okq (⟨"VotedCoreModel", "operand", "(I)I"⟩, 18) := ⟨⟨by decide +kernel, by decide +kernel⟩, List.mem_of_getElem? (i := 434) (by decide +kernel), List.mem_of_getElem? (i := 575) (by decide +kernel), List.mem_of_getElem? (i := 576) (by decide +kernel)⟩
theorem lw_p47 : lw_okq (⟨"VotedCoreModel", "give", "(I)V"⟩, 18) := ⟨⟨by decide +kernel, by decide +kernel⟩, List.mem_of_getElem? (i := 434) (by decide +kernel), List.mem_of_getElem? (i := 579) (by decide +kernel), List.mem_of_getElem? (i := 580) (by decide +kernel)⟩
def lw_privs_3 : List (MethodName × Nat) := [(⟨"VotedCore", "callOrBreak", "(I)V"⟩, 11), (⟨"VotedCore", "scrub", "()V"⟩, 11), (⟨"VotedCoreModel", "makeFaults", "()V"⟩, 18), (⟨"VotedCoreModel", "change", "(II)V"⟩, 18), (⟨"VotedCoreModel", "vote", "()V"⟩, 18), (⟨"VotedCoreModel", "valueOf", "(I)I"⟩, 18), (⟨"VotedCoreModel", "put", "(II)V"⟩, 18), (⟨"VotedCoreModel", "instruct", "()V"⟩, 18), (⟨"VotedCoreModel", "stop", "(II)V"⟩, 18), (⟨"VotedCoreModel", "fetch", "(II)Z"⟩, 18), (⟨"VotedCoreModel", "holds", "(II)Z"⟩, 18), (⟨"VotedCoreModel", "mend", "(I)Z"⟩, 18), (⟨"VotedCoreModel", "execute", "()V"⟩, 18), (⟨"VotedCoreModel", "field", "(II)I"⟩, 18), (⟨"VotedCoreModel", "operand", "(I)I"⟩, 18), (⟨"VotedCoreModel", "give", "(I)V"⟩, 18)]
theorem lw_r3 : ∀ q ∈ lw_privs_3, lw_okq q := List.forall_mem_cons.mpr ⟨lw_p32, List.forall_mem_cons.mpr ⟨lw_p33, List.forall_mem_cons.mpr ⟨lw_p34, List.forall_mem_cons.mpr ⟨lw_p35, List.forall_mem_cons.mpr ⟨lw_p36, List.forall_mem_cons.mpr ⟨lw_p37, List.forall_mem_cons.mpr ⟨lw_p38, List.forall_mem_cons.mpr ⟨lw_p39, List.forall_mem_cons.mpr ⟨lw_p40, List.forall_mem_cons.mpr ⟨lw_p41, List.forall_mem_cons.mpr ⟨lw_p42, List.forall_mem_cons.mpr ⟨lw_p43, List.forall_mem_cons.mpr ⟨lw_p44, List.forall_mem_cons.mpr ⟨lw_p45, List.forall_mem_cons.mpr ⟨lw_p46, List.forall_mem_cons.mpr ⟨lw_p47, fun _ h => absurd h List.not_mem_nil⟩⟩⟩⟩⟩⟩⟩⟩⟩⟩⟩⟩⟩⟩⟩⟩
theorem lw_p48 : lw_okq (⟨"VotedCoreModel", "numberL", "()I"⟩, 18) := ⟨⟨by decide +kernel, by decide +kernel⟩, List.mem_of_getElem? (i := 434) (by decide +kernel), List.mem_of_getElem? (i := 583) (by decide +kernel), List.mem_of_getElem? (i := 584) (by decide +kernel)⟩
theorem lw_p49 : lw_okq (⟨"VotedCoreModel", "go", "(I)V"⟩, 18) := ⟨⟨by decide +kernel, by decide +kernel⟩, List.mem_of_getElem? (i := 434) (by decide +kernel), List.mem_of_getElem? (i := 587) (by decide +kernel), List.mem_of_getElem? (i := 588) (by decide +kernel)⟩
theorem lw_p50 : lw_okq (⟨"VotedCoreModel", "jump", "(II)V"⟩, 18) := ⟨⟨by decide +kernel, by decide +kernel⟩, List.mem_of_getElem? (i := 434) (by decide +kernel), List.mem_of_getElem? (i := 591) (by decide +kernel), List.mem_of_getElem? (i := 592) (by decide +kernel)⟩
theorem lw_p51 : lw_okq (⟨"VotedCoreModel", "illegal", "()V"⟩, 18) := ⟨⟨by decide +kernel, by decide +kernel⟩, List.mem_of_getElem? (i := 434) (by decide +kernel), List.mem_of_getElem? (i := 595) (by decide +kernel), List.mem_of_getElem? (i := 596) (by decide +kernel)⟩
theorem lw_p52 : lw_okq (⟨"VotedCoreModel", "branch", "(III)V"⟩, 18) := ⟨⟨by decide +kernel, by decide +kernel⟩, List.mem_of_getElem? (i := 434) (by decide +kernel), List.mem_of_getElem? (i := 599) (by decide +kernel), List.mem_of_getElem? (i := 600) (by decide +kernel)⟩
theorem lw_p53 : lw_okq (⟨"VotedCoreModel", "numberK", "()I"⟩, 18) := ⟨⟨by decide +kernel, by decide +kernel⟩, List.mem_of_getElem? (i := 434) (by decide +kernel), List.mem_of_getElem? (i := 606) (by decide +kernel), List.mem_of_getElem? (i := 607) (by decide +kernel)⟩
theorem lw_p54 : lw_okq (⟨"VotedCoreModel", "load", "(II)V"⟩, 18) := ⟨⟨by decide +kernel, by decide +kernel⟩, List.mem_of_getElem? (i := 434) (by decide +kernel), List.mem_of_getElem? (i := 610) (by decide +kernel), List.mem_of_getElem? (i := 611) (by decide +kernel)⟩
theorem lw_p55 : lw_okq (⟨"VotedCoreModel", "reaches", "(II)Z"⟩, 18) := ⟨⟨by decide +kernel, by decide +kernel⟩, List.mem_of_getElem? (i := 434) (by decide +kernel), List.mem_of_getElem? (i := 614) (by decide +kernel), List.mem_of_getElem? (i := 615) (by decide +kernel)⟩
theorem lw_p56 : lw_okq (⟨"VotedCoreModel", "numberJ", "()I"⟩, 18) := ⟨⟨by decide +kernel, by decide +kernel⟩, List.mem_of_getElem? (i := 434) (by decide +kernel), List.mem_of_getElem? (i := 618) (by decide +kernel), List.mem_of_getElem? (i := 619) (by decide +kernel)⟩
theorem lw_p57 : lw_okq (⟨"VotedCoreModel", "store", "(III)V"⟩, 18) := ⟨⟨by decide +kernel, by decide +kernel⟩, List.mem_of_getElem? (i := 434) (by decide +kernel), List.mem_of_getElem? (i := 622) (by decide +kernel), List.mem_of_getElem? (i := 623) (by decide +kernel)⟩
theorem lw_p58 : lw_okq (⟨"VotedCoreModel", "save", "(II)V"⟩, 18) := ⟨⟨by decide +kernel, by decide +kernel⟩, List.mem_of_getElem? (i := 434) (by decide +kernel), List.mem_of_getElem? (i := 627) (by decide +kernel), List.mem_of_getElem? (i := 628) (by decide +kernel)⟩
theorem lw_p59 : lw_okq (⟨"VotedCoreModel", "keep", "(II)V"⟩, 18) := ⟨⟨by decide +kernel, by decide +kernel⟩, List.mem_of_getElem? (i := 434) (by decide +kernel), List.mem_of_getElem? (i := 631) (by decide +kernel), List.mem_of_getElem? (i := 632) (by decide +kernel)⟩
theorem lw_p60 : lw_okq (⟨"VotedCoreModel", "reckon", "(IIIIZ)V"⟩, 18) := ⟨⟨by decide +kernel, by decide +kernel⟩, List.mem_of_getElem? (i := 434) (by decide +kernel), List.mem_of_getElem? (i := 635) (by decide +kernel), List.mem_of_getElem? (i := 636) (by decide +kernel)⟩
theorem lw_p61 : lw_okq (⟨"VotedCoreModel", "reckoned", "(III)I"⟩, 18) := ⟨⟨by decide +kernel, by decide +kernel⟩, List.mem_of_getElem? (i := 434) (by decide +kernel), List.mem_of_getElem? (i := 639) (by decide +kernel), List.mem_of_getElem? (i := 640) (by decide +kernel)⟩
theorem lw_p62 : lw_okq (⟨"VotedCoreModel", "rest", "(I)V"⟩, 18) := ⟨⟨by decide +kernel, by decide +kernel⟩, List.mem_of_getElem? (i := 434) (by decide +kernel), List.mem_of_getElem? (i := 643) (by decide +kernel), List.mem_of_getElem? (i := 644) (by decide +kernel)⟩
theorem lw_p63 : lw_okq (⟨"VotedCoreModel", "scrub", "()V"⟩, 18) := ⟨⟨by decide +kernel, by decide +kernel⟩, List.mem_of_getElem? (i := 434) (by decide +kernel), List.mem_of_getElem? (i := 648) (by decide +kernel), List.mem_of_getElem? (i := 649) (by decide +kernel)⟩
def lw_privs_4 : List (MethodName × Nat) := [(⟨"VotedCoreModel", "numberL", "()I"⟩, 18), (⟨"VotedCoreModel", "go", "(I)V"⟩, 18), (⟨"VotedCoreModel", "jump", "(II)V"⟩, 18), (⟨"VotedCoreModel", "illegal", "()V"⟩, 18), (⟨"VotedCoreModel", "branch", "(III)V"⟩, 18), (⟨"VotedCoreModel", "numberK", "()I"⟩, 18), (⟨"VotedCoreModel", "load", "(II)V"⟩, 18), (⟨"VotedCoreModel", "reaches", "(II)Z"⟩, 18), (⟨"VotedCoreModel", "numberJ", "()I"⟩, 18), (⟨"VotedCoreModel", "store", "(III)V"⟩, 18), (⟨"VotedCoreModel", "save", "(II)V"⟩, 18), (⟨"VotedCoreModel", "keep", "(II)V"⟩, 18), (⟨"VotedCoreModel", "reckon", "(IIIIZ)V"⟩, 18), (⟨"VotedCoreModel", "reckoned", "(III)I"⟩, 18), (⟨"VotedCoreModel", "rest", "(I)V"⟩, 18), (⟨"VotedCoreModel", "scrub", "()V"⟩, 18)]
theorem lw_r4 : ∀ q ∈ lw_privs_4, lw_okq q := List.forall_mem_cons.mpr ⟨lw_p48, List.forall_mem_cons.mpr ⟨lw_p49, List.forall_mem_cons.mpr ⟨lw_p50, List.forall_mem_cons.mpr ⟨lw_p51, List.forall_mem_cons.mpr ⟨lw_p52, List.forall_mem_cons.mpr ⟨lw_p53, List.forall_mem_cons.mpr ⟨lw_p54, List.forall_mem_cons.mpr ⟨lw_p55, List.forall_mem_cons.mpr ⟨lw_p56, List.forall_mem_cons.mpr ⟨lw_p57, List.forall_mem_cons.mpr ⟨lw_p58, List.forall_mem_cons.mpr ⟨lw_p59, List.forall_mem_cons.mpr ⟨lw_p60, List.forall_mem_cons.mpr ⟨lw_p61, List.forall_mem_cons.mpr ⟨lw_p62, List.forall_mem_cons.mpr ⟨lw_p63, fun _ h => absurd h List.not_mem_nil⟩⟩⟩⟩⟩⟩⟩⟩⟩⟩⟩⟩⟩⟩⟩⟩
def lw_privs : List (MethodName × Nat) := lw_privs_1 ++ (lw_privs_2 ++ (lw_privs_3 ++ (lw_privs_4)))
def lw_tbl : List Cond := k2_sels lw_privs ++ tables_1
theorem lw_privs_ok : ∀ q ∈ lw_privs, lw_okq q := by
  show ∀ q ∈ lw_privs_1 ++ (lw_privs_2 ++ (lw_privs_3 ++ (lw_privs_4))), lw_okq q
  exact List.forall_mem_append.mpr ⟨lw_r1, List.forall_mem_append.mpr ⟨lw_r2, List.forall_mem_append.mpr ⟨lw_r3, lw_r4⟩⟩⟩
end
section
def R_V : String := "VotedCore"
def R_Me : String := "VotedCore$Memory"
def R_Ca : String := "VotedCore$Cache"
def R_Re : String := "VotedCore$Registers"
def R_Fa : String := "VotedCore$Faults"
def R_Co : String := "VotedCore$Code"
def R_Mo : String := "VotedCoreModel"
def R_Lw : String := "VotedCoreLaw"
def R_Lg : String := "java/lang/Long"
def R_In : String := "java/lang/Integer"
def R_Ar : String := "java/util/Arrays"
def F_V : u_T := fun k => match k with
  | 0 => (R_V, "every", "I", true)
  | 1 => (R_V, "memory", "LVotedCore$Memory;", true)
  | 2 => (R_V, "codeCache", "LVotedCore$Cache;", true)
  | 3 => (R_V, "dataCache", "LVotedCore$Cache;", true)
  | 4 => (R_V, "registers", "LVotedCore$Registers;", true)
  | 5 => (R_V, "faults", "LVotedCore$Faults;", true)
  | 6 => (R_V, "cyclesDone", "I", false)
  | 7 => (R_V, "scrubPlace", "I", false)
  | 8 => (R_V, "detected", "I", false)
  | 9 => (R_V, "stopCause", "I", false)
  | _ => (R_V, "stopValue", "I", false)
def t_V : Nat → FieldType := fun k => match k with
  | 0 => .int
  | 1 => .object "VotedCore$Memory"
  | 2 => .object "VotedCore$Cache"
  | 3 => .object "VotedCore$Cache"
  | 4 => .object "VotedCore$Registers"
  | 5 => .object "VotedCore$Faults"
  | 6 => .int
  | 7 => .int
  | 8 => .int
  | 9 => .int
  | _ => .int
theorem n_V : ∀ a, a < 11 → ∀ b, b < 11 → a ≠ b → (F_V a).2.1 ≠ (F_V b).2.1 := by decide +kernel
theorem t_V_ok : ∀ k, k < 11 → parseFieldDescriptor (F_V k).2.2.1 = some (t_V k) := by decide +kernel
def F_Me : u_T := fun k => match k with
  | 0 => (R_Me, "kept", "[J", true)
  | _ => (R_Me, "corrected", "I", false)
def t_Me : Nat → FieldType := fun k => match k with
  | 0 => .array .long
  | _ => .int
theorem n_Me : ∀ a, a < 2 → ∀ b, b < 2 → a ≠ b → (F_Me a).2.1 ≠ (F_Me b).2.1 := by decide +kernel
theorem t_Me_ok : ∀ k, k < 2 → parseFieldDescriptor (F_Me k).2.2.1 = some (t_Me k) := by decide +kernel
def F_Ca : u_T := fun k => match k with
  | 0 => (R_Ca, "lines", "[J", true)
  | _ => (R_Ca, "refetched", "I", false)
def t_Ca : Nat → FieldType := fun k => match k with
  | 0 => .array .long
  | _ => .int
theorem n_Ca : ∀ a, a < 2 → ∀ b, b < 2 → a ≠ b → (F_Ca a).2.1 ≠ (F_Ca b).2.1 := by decide +kernel
theorem t_Ca_ok : ∀ k, k < 2 → parseFieldDescriptor (F_Ca k).2.2.1 = some (t_Ca k) := by decide +kernel
def F_Re : u_T := fun k => match k with
  | 0 => (R_Re, "copies", "[I", true)
  | _ => (R_Re, "voted", "I", false)
def t_Re : Nat → FieldType := fun k => match k with
  | 0 => .array .int
  | _ => .int
theorem n_Re : ∀ a, a < 2 → ∀ b, b < 2 → a ≠ b → (F_Re a).2.1 ≠ (F_Re b).2.1 := by decide +kernel
theorem t_Re_ok : ∀ k, k < 2 → parseFieldDescriptor (F_Re k).2.2.1 = some (t_Re k) := by decide +kernel
def F_Fa : u_T := fun k => match k with
  | 0 => (R_Fa, "cycle", "[I", true)
  | 1 => (R_Fa, "part", "[I", true)
  | 2 => (R_Fa, "bit", "[I", true)
  | _ => (R_Fa, "size", "I", false)
def t_Fa : Nat → FieldType := fun k => match k with
  | 0 => .array .int
  | 1 => .array .int
  | 2 => .array .int
  | _ => .int
theorem n_Fa : ∀ a, a < 4 → ∀ b, b < 4 → a ≠ b → (F_Fa a).2.1 ≠ (F_Fa b).2.1 := by decide +kernel
theorem t_Fa_ok : ∀ k, k < 4 → parseFieldDescriptor (F_Fa k).2.2.1 = some (t_Fa k) := by decide +kernel
def F_Mo : u_T := fun k => match k with
  | 0 => (R_Mo, "every", "I", true)
  | 1 => (R_Mo, "written", "[I", true)
  | 2 => (R_Mo, "wrong", "[J", true)
  | 3 => (R_Mo, "kept", "[I", true)
  | 4 => (R_Mo, "mask", "[I", true)
  | 5 => (R_Mo, "lines", "[J", true)
  | 6 => (R_Mo, "plans", "I", false)
  | 7 => (R_Mo, "plan", "[I", true)
  | 8 => (R_Mo, "cycles", "I", false)
  | 9 => (R_Mo, "cause", "I", false)
  | 10 => (R_Mo, "value", "I", false)
  | 11 => (R_Mo, "counts", "[I", true)
  | 12 => (R_Mo, "p", "I", false)
  | 13 => (R_Mo, "x", "I", false)
  | 14 => (R_Mo, "got", "I", false)
  | 15 => (R_Mo, "next", "I", false)
  | 16 => (R_Mo, "gives", "Z", false)
  | _ => (R_Mo, "given", "I", false)
def t_Mo : Nat → FieldType := fun k => match k with
  | 0 => .int
  | 1 => .array .int
  | 2 => .array .long
  | 3 => .array .int
  | 4 => .array .int
  | 5 => .array .long
  | 6 => .int
  | 7 => .array .int
  | 8 => .int
  | 9 => .int
  | 10 => .int
  | 11 => .array .int
  | 12 => .int
  | 13 => .int
  | 14 => .int
  | 15 => .int
  | 16 => .boolean
  | _ => .int
theorem n_Mo : ∀ a, a < 18 → ∀ b, b < 18 → a ≠ b → (F_Mo a).2.1 ≠ (F_Mo b).2.1 := by decide +kernel
theorem t_Mo_ok : ∀ k, k < 18 → parseFieldDescriptor (F_Mo k).2.2.1 = some (t_Mo k) := by decide +kernel
abbrev classes : List vw_C := [(R_V, F_V, 11), (R_Me, F_Me, 2), (R_Ca, F_Ca, 2), (R_Re, F_Re, 2), (R_Fa, F_Fa, 4), (R_Mo, F_Mo, 18)]
abbrev b_Lg_bitCount : ByteArray := prog_10_method_50_code
def y_Lg_bitCount : MethodName := ⟨R_Lg, "bitCount", "(J)I"⟩
theorem hd_Lg_bitCount : y_Lg_bitCount.cls ≠ "java/lang/invoke/MethodHandle" ∧ y_Lg_bitCount.cls ≠ "java/lang/invoke/VarHandle" ∧ (parseMethodDescriptor y_Lg_bitCount.desc).map (fun d => d.parameters.length) = some 1 := by decide +kernel
abbrev b_In_compare : ByteArray := prog_9_method_40_code
def y_In_compare : MethodName := ⟨R_In, "compare", "(II)I"⟩
theorem hd_In_compare : y_In_compare.cls ≠ "java/lang/invoke/MethodHandle" ∧ y_In_compare.cls ≠ "java/lang/invoke/VarHandle" ∧ (parseMethodDescriptor y_In_compare.desc).map (fun d => d.parameters.length) = some 2 := by decide +kernel
abbrev b_In_compareUnsigned : ByteArray := prog_9_method_41_code
def y_In_compareUnsigned : MethodName := ⟨R_In, "compareUnsigned", "(II)I"⟩
theorem hd_In_compareUnsigned : y_In_compareUnsigned.cls ≠ "java/lang/invoke/MethodHandle" ∧ y_In_compareUnsigned.cls ≠ "java/lang/invoke/VarHandle" ∧ (parseMethodDescriptor y_In_compareUnsigned.desc).map (fun d => d.parameters.length) = some 2 := by decide +kernel
abbrev b_Ar_fill : ByteArray := prog_12_method_101_code
def y_Ar_fill : MethodName := ⟨R_Ar, "fill", "([JJ)V"⟩
theorem hd_Ar_fill : y_Ar_fill.cls ≠ "java/lang/invoke/MethodHandle" ∧ y_Ar_fill.cls ≠ "java/lang/invoke/VarHandle" ∧ (parseMethodDescriptor y_Ar_fill.desc).map (fun d => d.parameters.length) = some 2 := by decide +kernel
abbrev b_Co_op : ByteArray := prog_3_method_2_code
def y_Co_op : MethodName := ⟨R_Co, "op", "(I)I"⟩
theorem hd_Co_op : y_Co_op.cls ≠ "java/lang/invoke/MethodHandle" ∧ y_Co_op.cls ≠ "java/lang/invoke/VarHandle" ∧ (parseMethodDescriptor y_Co_op.desc).map (fun d => d.parameters.length) = some 1 := by decide +kernel
abbrev b_Co_d : ByteArray := prog_3_method_3_code
def y_Co_d : MethodName := ⟨R_Co, "d", "(I)I"⟩
theorem hd_Co_d : y_Co_d.cls ≠ "java/lang/invoke/MethodHandle" ∧ y_Co_d.cls ≠ "java/lang/invoke/VarHandle" ∧ (parseMethodDescriptor y_Co_d.desc).map (fun d => d.parameters.length) = some 1 := by decide +kernel
abbrev b_Co_f : ByteArray := prog_3_method_4_code
def y_Co_f : MethodName := ⟨R_Co, "f", "(I)I"⟩
theorem hd_Co_f : y_Co_f.cls ≠ "java/lang/invoke/MethodHandle" ∧ y_Co_f.cls ≠ "java/lang/invoke/VarHandle" ∧ (parseMethodDescriptor y_Co_f.desc).map (fun d => d.parameters.length) = some 1 := by decide +kernel
abbrev b_Co_s : ByteArray := prog_3_method_5_code
def y_Co_s : MethodName := ⟨R_Co, "s", "(I)I"⟩
theorem hd_Co_s : y_Co_s.cls ≠ "java/lang/invoke/MethodHandle" ∧ y_Co_s.cls ≠ "java/lang/invoke/VarHandle" ∧ (parseMethodDescriptor y_Co_s.desc).map (fun d => d.parameters.length) = some 1 := by decide +kernel
abbrev b_Co_t : ByteArray := prog_3_method_6_code
def y_Co_t : MethodName := ⟨R_Co, "t", "(I)I"⟩
theorem hd_Co_t : y_Co_t.cls ≠ "java/lang/invoke/MethodHandle" ∧ y_Co_t.cls ≠ "java/lang/invoke/VarHandle" ∧ (parseMethodDescriptor y_Co_t.desc).map (fun d => d.parameters.length) = some 1 := by decide +kernel
abbrev b_Co_g : ByteArray := prog_3_method_7_code
def y_Co_g : MethodName := ⟨R_Co, "g", "(I)I"⟩
theorem hd_Co_g : y_Co_g.cls ≠ "java/lang/invoke/MethodHandle" ∧ y_Co_g.cls ≠ "java/lang/invoke/VarHandle" ∧ (parseMethodDescriptor y_Co_g.desc).map (fun d => d.parameters.length) = some 1 := by decide +kernel
abbrev b_Co_i : ByteArray := prog_3_method_8_code
def y_Co_i : MethodName := ⟨R_Co, "i", "(I)I"⟩
theorem hd_Co_i : y_Co_i.cls ≠ "java/lang/invoke/MethodHandle" ∧ y_Co_i.cls ≠ "java/lang/invoke/VarHandle" ∧ (parseMethodDescriptor y_Co_i.desc).map (fun d => d.parameters.length) = some 1 := by decide +kernel
abbrev b_Co_j : ByteArray := prog_3_method_9_code
def y_Co_j : MethodName := ⟨R_Co, "j", "(I)I"⟩
theorem hd_Co_j : y_Co_j.cls ≠ "java/lang/invoke/MethodHandle" ∧ y_Co_j.cls ≠ "java/lang/invoke/VarHandle" ∧ (parseMethodDescriptor y_Co_j.desc).map (fun d => d.parameters.length) = some 1 := by decide +kernel
abbrev b_Co_k : ByteArray := prog_3_method_10_code
def y_Co_k : MethodName := ⟨R_Co, "k", "(I)I"⟩
theorem hd_Co_k : y_Co_k.cls ≠ "java/lang/invoke/MethodHandle" ∧ y_Co_k.cls ≠ "java/lang/invoke/VarHandle" ∧ (parseMethodDescriptor y_Co_k.desc).map (fun d => d.parameters.length) = some 1 := by decide +kernel
abbrev b_Co_u : ByteArray := prog_3_method_11_code
def y_Co_u : MethodName := ⟨R_Co, "u", "(I)I"⟩
theorem hd_Co_u : y_Co_u.cls ≠ "java/lang/invoke/MethodHandle" ∧ y_Co_u.cls ≠ "java/lang/invoke/VarHandle" ∧ (parseMethodDescriptor y_Co_u.desc).map (fun d => d.parameters.length) = some 1 := by decide +kernel
abbrev b_Co_l : ByteArray := prog_3_method_12_code
def y_Co_l : MethodName := ⟨R_Co, "l", "(I)I"⟩
theorem hd_Co_l : y_Co_l.cls ≠ "java/lang/invoke/MethodHandle" ∧ y_Co_l.cls ≠ "java/lang/invoke/VarHandle" ∧ (parseMethodDescriptor y_Co_l.desc).map (fun d => d.parameters.length) = some 1 := by decide +kernel
abbrev b_Co_size : ByteArray := prog_3_method_13_code
def y_Co_size : MethodName := ⟨R_Co, "size", "(I)I"⟩
theorem hd_Co_size : y_Co_size.cls ≠ "java/lang/invoke/MethodHandle" ∧ y_Co_size.cls ≠ "java/lang/invoke/VarHandle" ∧ (parseMethodDescriptor y_Co_size.desc).map (fun d => d.parameters.length) = some 1 := by decide +kernel
abbrev b_Co_shiftOf : ByteArray := prog_3_method_14_code
def y_Co_shiftOf : MethodName := ⟨R_Co, "shiftOf", "(I)I"⟩
theorem hd_Co_shiftOf : y_Co_shiftOf.cls ≠ "java/lang/invoke/MethodHandle" ∧ y_Co_shiftOf.cls ≠ "java/lang/invoke/VarHandle" ∧ (parseMethodDescriptor y_Co_shiftOf.desc).map (fun d => d.parameters.length) = some 1 := by decide +kernel
abbrev b_Co_loaded : ByteArray := prog_3_method_15_code
def y_Co_loaded : MethodName := ⟨R_Co, "loaded", "(II)I"⟩
theorem hd_Co_loaded : y_Co_loaded.cls ≠ "java/lang/invoke/MethodHandle" ∧ y_Co_loaded.cls ≠ "java/lang/invoke/VarHandle" ∧ (parseMethodDescriptor y_Co_loaded.desc).map (fun d => d.parameters.length) = some 2 := by decide +kernel
abbrev b_Co_isTaken : ByteArray := prog_3_method_16_code
def y_Co_isTaken : MethodName := ⟨R_Co, "isTaken", "(III)Z"⟩
theorem hd_Co_isTaken : y_Co_isTaken.cls ≠ "java/lang/invoke/MethodHandle" ∧ y_Co_isTaken.cls ≠ "java/lang/invoke/VarHandle" ∧ (parseMethodDescriptor y_Co_isTaken.desc).map (fun d => d.parameters.length) = some 3 := by decide +kernel
abbrev b_Co_computed : ByteArray := prog_3_method_17_code
def y_Co_computed : MethodName := ⟨R_Co, "computed", "(IZII)I"⟩
theorem hd_Co_computed : y_Co_computed.cls ≠ "java/lang/invoke/MethodHandle" ∧ y_Co_computed.cls ≠ "java/lang/invoke/VarHandle" ∧ (parseMethodDescriptor y_Co_computed.desc).map (fun d => d.parameters.length) = some 4 := by decide +kernel
abbrev b_Me_xorOfNumbers : ByteArray := prog_5_method_6_code
def y_Me_xorOfNumbers : MethodName := ⟨R_Me, "xorOfNumbers", "(J)I"⟩
theorem hd_Me_xorOfNumbers : y_Me_xorOfNumbers.cls ≠ "java/lang/invoke/MethodHandle" ∧ y_Me_xorOfNumbers.cls ≠ "java/lang/invoke/VarHandle" ∧ (parseMethodDescriptor y_Me_xorOfNumbers.desc).map (fun d => d.parameters.length) = some 1 := by decide +kernel
abbrev b_Me_spread : ByteArray := prog_5_method_7_code
def y_Me_spread : MethodName := ⟨R_Me, "spread", "(I)J"⟩
theorem hd_Me_spread : y_Me_spread.cls ≠ "java/lang/invoke/MethodHandle" ∧ y_Me_spread.cls ≠ "java/lang/invoke/VarHandle" ∧ (parseMethodDescriptor y_Me_spread.desc).map (fun d => d.parameters.length) = some 1 := by decide +kernel
abbrev b_Me_gathered : ByteArray := prog_5_method_8_code
def y_Me_gathered : MethodName := ⟨R_Me, "gathered", "(J)J"⟩
theorem hd_Me_gathered : y_Me_gathered.cls ≠ "java/lang/invoke/MethodHandle" ∧ y_Me_gathered.cls ≠ "java/lang/invoke/VarHandle" ∧ (parseMethodDescriptor y_Me_gathered.desc).map (fun d => d.parameters.length) = some 1 := by decide +kernel
abbrev b_Me_putRight : ByteArray := prog_5_method_5_code
def y_Me_putRight : MethodName := ⟨R_Me, "putRight", "(J)J"⟩
theorem hd_Me_putRight : y_Me_putRight.cls ≠ "java/lang/invoke/MethodHandle" ∧ y_Me_putRight.cls ≠ "java/lang/invoke/VarHandle" ∧ (parseMethodDescriptor y_Me_putRight.desc).map (fun d => d.parameters.length) = some 1 := by decide +kernel
abbrev b_Me_keep : ByteArray := prog_5_method_2_code
def y_Me_keep : MethodName := ⟨R_Me, "keep", "(II)V"⟩
theorem hd_Me_keep : y_Me_keep.cls ≠ "java/lang/invoke/MethodHandle" ∧ y_Me_keep.cls ≠ "java/lang/invoke/VarHandle" ∧ (parseMethodDescriptor y_Me_keep.desc).map (fun d => d.parameters.length) = some 2 := by decide +kernel
abbrev b_Me_inspect : ByteArray := prog_5_method_3_code
def y_Me_inspect : MethodName := ⟨R_Me, "inspect", "(I)J"⟩
theorem hd_Me_inspect : y_Me_inspect.cls ≠ "java/lang/invoke/MethodHandle" ∧ y_Me_inspect.cls ≠ "java/lang/invoke/VarHandle" ∧ (parseMethodDescriptor y_Me_inspect.desc).map (fun d => d.parameters.length) = some 1 := by decide +kernel
abbrev b_Me_mend : ByteArray := prog_5_method_4_code
def y_Me_mend : MethodName := ⟨R_Me, "mend", "(I)J"⟩
theorem hd_Me_mend : y_Me_mend.cls ≠ "java/lang/invoke/MethodHandle" ∧ y_Me_mend.cls ≠ "java/lang/invoke/VarHandle" ∧ (parseMethodDescriptor y_Me_mend.desc).map (fun d => d.parameters.length) = some 1 := by decide +kernel
abbrev b_Ca_dropAll : ByteArray := prog_2_method_2_code
def y_Ca_dropAll : MethodName := ⟨R_Ca, "dropAll", "()V"⟩
theorem hd_Ca_dropAll : y_Ca_dropAll.cls ≠ "java/lang/invoke/MethodHandle" ∧ y_Ca_dropAll.cls ≠ "java/lang/invoke/VarHandle" ∧ (parseMethodDescriptor y_Ca_dropAll.desc).map (fun d => d.parameters.length) = some 0 := by decide +kernel
abbrev b_Ca_drop : ByteArray := prog_2_method_3_code
def y_Ca_drop : MethodName := ⟨R_Ca, "drop", "(I)V"⟩
theorem hd_Ca_drop : y_Ca_drop.cls ≠ "java/lang/invoke/MethodHandle" ∧ y_Ca_drop.cls ≠ "java/lang/invoke/VarHandle" ∧ (parseMethodDescriptor y_Ca_drop.desc).map (fun d => d.parameters.length) = some 1 := by decide +kernel
abbrev b_Ca_dropIfWrong : ByteArray := prog_2_method_4_code
def y_Ca_dropIfWrong : MethodName := ⟨R_Ca, "dropIfWrong", "(I)V"⟩
theorem hd_Ca_dropIfWrong : y_Ca_dropIfWrong.cls ≠ "java/lang/invoke/MethodHandle" ∧ y_Ca_dropIfWrong.cls ≠ "java/lang/invoke/VarHandle" ∧ (parseMethodDescriptor y_Ca_dropIfWrong.desc).map (fun d => d.parameters.length) = some 1 := by decide +kernel
abbrev b_Ca_holds : ByteArray := prog_2_method_5_code
def y_Ca_holds : MethodName := ⟨R_Ca, "holds", "(I)Z"⟩
theorem hd_Ca_holds : y_Ca_holds.cls ≠ "java/lang/invoke/MethodHandle" ∧ y_Ca_holds.cls ≠ "java/lang/invoke/VarHandle" ∧ (parseMethodDescriptor y_Ca_holds.desc).map (fun d => d.parameters.length) = some 1 := by decide +kernel
abbrev b_Ca_held : ByteArray := prog_2_method_6_code
def y_Ca_held : MethodName := ⟨R_Ca, "held", "(I)J"⟩
theorem hd_Ca_held : y_Ca_held.cls ≠ "java/lang/invoke/MethodHandle" ∧ y_Ca_held.cls ≠ "java/lang/invoke/VarHandle" ∧ (parseMethodDescriptor y_Ca_held.desc).map (fun d => d.parameters.length) = some 1 := by decide +kernel
abbrev b_Ca_fill : ByteArray := prog_2_method_7_code
def y_Ca_fill : MethodName := ⟨R_Ca, "fill", "(II)V"⟩
theorem hd_Ca_fill : y_Ca_fill.cls ≠ "java/lang/invoke/MethodHandle" ∧ y_Ca_fill.cls ≠ "java/lang/invoke/VarHandle" ∧ (parseMethodDescriptor y_Ca_fill.desc).map (fun d => d.parameters.length) = some 2 := by decide +kernel
abbrev b_Re_agreed : ByteArray := prog_6_method_2_code
def y_Re_agreed : MethodName := ⟨R_Re, "agreed", "(I)I"⟩
theorem hd_Re_agreed : y_Re_agreed.cls ≠ "java/lang/invoke/MethodHandle" ∧ y_Re_agreed.cls ≠ "java/lang/invoke/VarHandle" ∧ (parseMethodDescriptor y_Re_agreed.desc).map (fun d => d.parameters.length) = some 1 := by decide +kernel
abbrev b_Re_put : ByteArray := prog_6_method_3_code
def y_Re_put : MethodName := ⟨R_Re, "put", "(II)V"⟩
theorem hd_Re_put : y_Re_put.cls ≠ "java/lang/invoke/MethodHandle" ∧ y_Re_put.cls ≠ "java/lang/invoke/VarHandle" ∧ (parseMethodDescriptor y_Re_put.desc).map (fun d => d.parameters.length) = some 2 := by decide +kernel
abbrev b_Re_operand : ByteArray := prog_6_method_4_code
def y_Re_operand : MethodName := ⟨R_Re, "operand", "(I)I"⟩
theorem hd_Re_operand : y_Re_operand.cls ≠ "java/lang/invoke/MethodHandle" ∧ y_Re_operand.cls ≠ "java/lang/invoke/VarHandle" ∧ (parseMethodDescriptor y_Re_operand.desc).map (fun d => d.parameters.length) = some 1 := by decide +kernel
abbrev b_Re_putResult : ByteArray := prog_6_method_5_code
def y_Re_putResult : MethodName := ⟨R_Re, "putResult", "(II)V"⟩
theorem hd_Re_putResult : y_Re_putResult.cls ≠ "java/lang/invoke/MethodHandle" ∧ y_Re_putResult.cls ≠ "java/lang/invoke/VarHandle" ∧ (parseMethodDescriptor y_Re_putResult.desc).map (fun d => d.parameters.length) = some 2 := by decide +kernel
abbrev b_Re_vote : ByteArray := prog_6_method_6_code
def y_Re_vote : MethodName := ⟨R_Re, "vote", "()V"⟩
theorem hd_Re_vote : y_Re_vote.cls ≠ "java/lang/invoke/MethodHandle" ∧ y_Re_vote.cls ≠ "java/lang/invoke/VarHandle" ∧ (parseMethodDescriptor y_Re_vote.desc).map (fun d => d.parameters.length) = some 0 := by decide +kernel
abbrev b_Fa_append : ByteArray := prog_4_method_2_code
def y_Fa_append : MethodName := ⟨R_Fa, "append", "(III)V"⟩
theorem hd_Fa_append : y_Fa_append.cls ≠ "java/lang/invoke/MethodHandle" ∧ y_Fa_append.cls ≠ "java/lang/invoke/VarHandle" ∧ (parseMethodDescriptor y_Fa_append.desc).map (fun d => d.parameters.length) = some 3 := by decide +kernel
abbrev b_Fa_move : ByteArray := prog_4_method_3_code
def y_Fa_move : MethodName := ⟨R_Fa, "move", "(II)V"⟩
theorem hd_Fa_move : y_Fa_move.cls ≠ "java/lang/invoke/MethodHandle" ∧ y_Fa_move.cls ≠ "java/lang/invoke/VarHandle" ∧ (parseMethodDescriptor y_Fa_move.desc).map (fun d => d.parameters.length) = some 2 := by decide +kernel
abbrev b_V_isWord : ByteArray := prog_1_method_16_code
def y_V_isWord : MethodName := ⟨R_V, "isWord", "(I)Z"⟩
theorem hd_V_isWord : y_V_isWord.cls ≠ "java/lang/invoke/MethodHandle" ∧ y_V_isWord.cls ≠ "java/lang/invoke/VarHandle" ∧ (parseMethodDescriptor y_V_isWord.desc).map (fun d => d.parameters.length) = some 1 := by decide +kernel
abbrev b_V_isRegister : ByteArray := prog_1_method_17_code
def y_V_isRegister : MethodName := ⟨R_V, "isRegister", "(I)Z"⟩
theorem hd_V_isRegister : y_V_isRegister.cls ≠ "java/lang/invoke/MethodHandle" ∧ y_V_isRegister.cls ≠ "java/lang/invoke/VarHandle" ∧ (parseMethodDescriptor y_V_isRegister.desc).map (fun d => d.parameters.length) = some 1 := by decide +kernel
abbrev b_V_isBit : ByteArray := prog_1_method_18_code
def y_V_isBit : MethodName := ⟨R_V, "isBit", "(II)Z"⟩
theorem hd_V_isBit : y_V_isBit.cls ≠ "java/lang/invoke/MethodHandle" ∧ y_V_isBit.cls ≠ "java/lang/invoke/VarHandle" ∧ (parseMethodDescriptor y_V_isBit.desc).map (fun d => d.parameters.length) = some 2 := by decide +kernel
abbrev b_V_isAddress : ByteArray := prog_1_method_19_code
def y_V_isAddress : MethodName := ⟨R_V, "isAddress", "(II)Z"⟩
theorem hd_V_isAddress : y_V_isAddress.cls ≠ "java/lang/invoke/MethodHandle" ∧ y_V_isAddress.cls ≠ "java/lang/invoke/VarHandle" ∧ (parseMethodDescriptor y_V_isAddress.desc).map (fun d => d.parameters.length) = some 2 := by decide +kernel
abbrev b_V_invert : ByteArray := prog_1_method_20_code
def y_V_invert : MethodName := ⟨R_V, "invert", "(II)V"⟩
theorem hd_V_invert : y_V_invert.cls ≠ "java/lang/invoke/MethodHandle" ∧ y_V_invert.cls ≠ "java/lang/invoke/VarHandle" ∧ (parseMethodDescriptor y_V_invert.desc).map (fun d => d.parameters.length) = some 2 := by decide +kernel
abbrev b_V_write : ByteArray := prog_1_method_2_code
def y_V_write : MethodName := ⟨R_V, "write", "(II)Z"⟩
theorem hd_V_write : y_V_write.cls ≠ "java/lang/invoke/MethodHandle" ∧ y_V_write.cls ≠ "java/lang/invoke/VarHandle" ∧ (parseMethodDescriptor y_V_write.desc).map (fun d => d.parameters.length) = some 2 := by decide +kernel
abbrev b_V_set : ByteArray := prog_1_method_3_code
def y_V_set : MethodName := ⟨R_V, "set", "(II)Z"⟩
theorem hd_V_set : y_V_set.cls ≠ "java/lang/invoke/MethodHandle" ∧ y_V_set.cls ≠ "java/lang/invoke/VarHandle" ∧ (parseMethodDescriptor y_V_set.desc).map (fun d => d.parameters.length) = some 2 := by decide +kernel
abbrev b_V_register : ByteArray := prog_1_method_4_code
def y_V_register : MethodName := ⟨R_V, "register", "(I)I"⟩
theorem hd_V_register : y_V_register.cls ≠ "java/lang/invoke/MethodHandle" ∧ y_V_register.cls ≠ "java/lang/invoke/VarHandle" ∧ (parseMethodDescriptor y_V_register.desc).map (fun d => d.parameters.length) = some 1 := by decide +kernel
abbrev b_V_look : ByteArray := prog_1_method_5_code
def y_V_look : MethodName := ⟨R_V, "look", "(I)J"⟩
theorem hd_V_look : y_V_look.cls ≠ "java/lang/invoke/MethodHandle" ∧ y_V_look.cls ≠ "java/lang/invoke/VarHandle" ∧ (parseMethodDescriptor y_V_look.desc).map (fun d => d.parameters.length) = some 1 := by decide +kernel
abbrev b_V_bits : ByteArray := prog_1_method_6_code
def y_V_bits : MethodName := ⟨R_V, "bits", "(I)J"⟩
theorem hd_V_bits : y_V_bits.cls ≠ "java/lang/invoke/MethodHandle" ∧ y_V_bits.cls ≠ "java/lang/invoke/VarHandle" ∧ (parseMethodDescriptor y_V_bits.desc).map (fun d => d.parameters.length) = some 1 := by decide +kernel
abbrev b_V_flip : ByteArray := prog_1_method_7_code
def y_V_flip : MethodName := ⟨R_V, "flip", "(II)Z"⟩
theorem hd_V_flip : y_V_flip.cls ≠ "java/lang/invoke/MethodHandle" ∧ y_V_flip.cls ≠ "java/lang/invoke/VarHandle" ∧ (parseMethodDescriptor y_V_flip.desc).map (fun d => d.parameters.length) = some 2 := by decide +kernel
abbrev b_V_plan : ByteArray := prog_1_method_8_code
def y_V_plan : MethodName := ⟨R_V, "plan", "(III)Z"⟩
theorem hd_V_plan : y_V_plan.cls ≠ "java/lang/invoke/MethodHandle" ∧ y_V_plan.cls ≠ "java/lang/invoke/VarHandle" ∧ (parseMethodDescriptor y_V_plan.desc).map (fun d => d.parameters.length) = some 3 := by decide +kernel
abbrev b_V_planned : ByteArray := prog_1_method_9_code
def y_V_planned : MethodName := ⟨R_V, "planned", "()I"⟩
theorem hd_V_planned : y_V_planned.cls ≠ "java/lang/invoke/MethodHandle" ∧ y_V_planned.cls ≠ "java/lang/invoke/VarHandle" ∧ (parseMethodDescriptor y_V_planned.desc).map (fun d => d.parameters.length) = some 0 := by decide +kernel
abbrev b_V_cause : ByteArray := prog_1_method_11_code
def y_V_cause : MethodName := ⟨R_V, "cause", "()I"⟩
theorem hd_V_cause : y_V_cause.cls ≠ "java/lang/invoke/MethodHandle" ∧ y_V_cause.cls ≠ "java/lang/invoke/VarHandle" ∧ (parseMethodDescriptor y_V_cause.desc).map (fun d => d.parameters.length) = some 0 := by decide +kernel
abbrev b_V_value : ByteArray := prog_1_method_12_code
def y_V_value : MethodName := ⟨R_V, "value", "()I"⟩
theorem hd_V_value : y_V_value.cls ≠ "java/lang/invoke/MethodHandle" ∧ y_V_value.cls ≠ "java/lang/invoke/VarHandle" ∧ (parseMethodDescriptor y_V_value.desc).map (fun d => d.parameters.length) = some 0 := by decide +kernel
abbrev b_V_cycles : ByteArray := prog_1_method_14_code
def y_V_cycles : MethodName := ⟨R_V, "cycles", "()I"⟩
theorem hd_V_cycles : y_V_cycles.cls ≠ "java/lang/invoke/MethodHandle" ∧ y_V_cycles.cls ≠ "java/lang/invoke/VarHandle" ∧ (parseMethodDescriptor y_V_cycles.desc).map (fun d => d.parameters.length) = some 0 := by decide +kernel
abbrev b_V_count : ByteArray := prog_1_method_15_code
def y_V_count : MethodName := ⟨R_V, "count", "(I)I"⟩
theorem hd_V_count : y_V_count.cls ≠ "java/lang/invoke/MethodHandle" ∧ y_V_count.cls ≠ "java/lang/invoke/VarHandle" ∧ (parseMethodDescriptor y_V_count.desc).map (fun d => d.parameters.length) = some 1 := by decide +kernel
abbrev b_V_stop : ByteArray := prog_1_method_23_code
def y_V_stop : MethodName := ⟨R_V, "stop", "(II)V"⟩
theorem hd_V_stop : y_V_stop.cls ≠ "java/lang/invoke/MethodHandle" ∧ y_V_stop.cls ≠ "java/lang/invoke/VarHandle" ∧ (parseMethodDescriptor y_V_stop.desc).map (fun d => d.parameters.length) = some 2 := by decide +kernel
abbrev b_V_resume : ByteArray := prog_1_method_13_code
def y_V_resume : MethodName := ⟨R_V, "resume", "(I)Z"⟩
theorem hd_V_resume : y_V_resume.cls ≠ "java/lang/invoke/MethodHandle" ∧ y_V_resume.cls ≠ "java/lang/invoke/VarHandle" ∧ (parseMethodDescriptor y_V_resume.desc).map (fun d => d.parameters.length) = some 1 := by decide +kernel
abbrev b_V_makePlannedFaults : ByteArray := prog_1_method_21_code
def y_V_makePlannedFaults : MethodName := ⟨R_V, "makePlannedFaults", "()V"⟩
theorem hd_V_makePlannedFaults : y_V_makePlannedFaults.cls ≠ "java/lang/invoke/MethodHandle" ∧ y_V_makePlannedFaults.cls ≠ "java/lang/invoke/VarHandle" ∧ (parseMethodDescriptor y_V_makePlannedFaults.desc).map (fun d => d.parameters.length) = some 0 := by decide +kernel
abbrev b_V_scrub : ByteArray := prog_1_method_22_code
def y_V_scrub : MethodName := ⟨R_V, "scrub", "()V"⟩
theorem hd_V_scrub : y_V_scrub.cls ≠ "java/lang/invoke/MethodHandle" ∧ y_V_scrub.cls ≠ "java/lang/invoke/VarHandle" ∧ (parseMethodDescriptor y_V_scrub.desc).map (fun d => d.parameters.length) = some 0 := by decide +kernel
abbrev b_V_fetch : ByteArray := prog_1_method_24_code
def y_V_fetch : MethodName := ⟨R_V, "fetch", "(LVotedCore$Cache;I)J"⟩
theorem hd_V_fetch : y_V_fetch.cls ≠ "java/lang/invoke/MethodHandle" ∧ y_V_fetch.cls ≠ "java/lang/invoke/VarHandle" ∧ (parseMethodDescriptor y_V_fetch.desc).map (fun d => d.parameters.length) = some 2 := by decide +kernel
abbrev b_V_save : ByteArray := prog_1_method_25_code
def y_V_save : MethodName := ⟨R_V, "save", "(II)V"⟩
theorem hd_V_save : y_V_save.cls ≠ "java/lang/invoke/MethodHandle" ∧ y_V_save.cls ≠ "java/lang/invoke/VarHandle" ∧ (parseMethodDescriptor y_V_save.desc).map (fun d => d.parameters.length) = some 2 := by decide +kernel
abbrev b_V_goOn : ByteArray := prog_1_method_28_code
def y_V_goOn : MethodName := ⟨R_V, "goOn", "(I)V"⟩
theorem hd_V_goOn : y_V_goOn.cls ≠ "java/lang/invoke/MethodHandle" ∧ y_V_goOn.cls ≠ "java/lang/invoke/VarHandle" ∧ (parseMethodDescriptor y_V_goOn.desc).map (fun d => d.parameters.length) = some 1 := by decide +kernel
abbrev b_V_finish : ByteArray := prog_1_method_27_code
def y_V_finish : MethodName := ⟨R_V, "finish", "(III)V"⟩
theorem hd_V_finish : y_V_finish.cls ≠ "java/lang/invoke/MethodHandle" ∧ y_V_finish.cls ≠ "java/lang/invoke/VarHandle" ∧ (parseMethodDescriptor y_V_finish.desc).map (fun d => d.parameters.length) = some 3 := by decide +kernel
abbrev b_V_jump : ByteArray := prog_1_method_29_code
def y_V_jump : MethodName := ⟨R_V, "jump", "(III)V"⟩
theorem hd_V_jump : y_V_jump.cls ≠ "java/lang/invoke/MethodHandle" ∧ y_V_jump.cls ≠ "java/lang/invoke/VarHandle" ∧ (parseMethodDescriptor y_V_jump.desc).map (fun d => d.parameters.length) = some 3 := by decide +kernel
abbrev b_V_jumpByRegister : ByteArray := prog_1_method_30_code
def y_V_jumpByRegister : MethodName := ⟨R_V, "jumpByRegister", "(II)V"⟩
theorem hd_V_jumpByRegister : y_V_jumpByRegister.cls ≠ "java/lang/invoke/MethodHandle" ∧ y_V_jumpByRegister.cls ≠ "java/lang/invoke/VarHandle" ∧ (parseMethodDescriptor y_V_jumpByRegister.desc).map (fun d => d.parameters.length) = some 2 := by decide +kernel
abbrev b_V_branch : ByteArray := prog_1_method_31_code
def y_V_branch : MethodName := ⟨R_V, "branch", "(II)V"⟩
theorem hd_V_branch : y_V_branch.cls ≠ "java/lang/invoke/MethodHandle" ∧ y_V_branch.cls ≠ "java/lang/invoke/VarHandle" ∧ (parseMethodDescriptor y_V_branch.desc).map (fun d => d.parameters.length) = some 2 := by decide +kernel
abbrev b_V_load : ByteArray := prog_1_method_32_code
def y_V_load : MethodName := ⟨R_V, "load", "(II)V"⟩
theorem hd_V_load : y_V_load.cls ≠ "java/lang/invoke/MethodHandle" ∧ y_V_load.cls ≠ "java/lang/invoke/VarHandle" ∧ (parseMethodDescriptor y_V_load.desc).map (fun d => d.parameters.length) = some 2 := by decide +kernel
abbrev b_V_store : ByteArray := prog_1_method_33_code
def y_V_store : MethodName := ⟨R_V, "store", "(II)V"⟩
theorem hd_V_store : y_V_store.cls ≠ "java/lang/invoke/MethodHandle" ∧ y_V_store.cls ≠ "java/lang/invoke/VarHandle" ∧ (parseMethodDescriptor y_V_store.desc).map (fun d => d.parameters.length) = some 2 := by decide +kernel
abbrev b_V_computeWithNumber : ByteArray := prog_1_method_34_code
def y_V_computeWithNumber : MethodName := ⟨R_V, "computeWithNumber", "(II)V"⟩
theorem hd_V_computeWithNumber : y_V_computeWithNumber.cls ≠ "java/lang/invoke/MethodHandle" ∧ y_V_computeWithNumber.cls ≠ "java/lang/invoke/VarHandle" ∧ (parseMethodDescriptor y_V_computeWithNumber.desc).map (fun d => d.parameters.length) = some 2 := by decide +kernel
abbrev b_V_computeWithRegister : ByteArray := prog_1_method_35_code
def y_V_computeWithRegister : MethodName := ⟨R_V, "computeWithRegister", "(II)V"⟩
theorem hd_V_computeWithRegister : y_V_computeWithRegister.cls ≠ "java/lang/invoke/MethodHandle" ∧ y_V_computeWithRegister.cls ≠ "java/lang/invoke/VarHandle" ∧ (parseMethodDescriptor y_V_computeWithRegister.desc).map (fun d => d.parameters.length) = some 2 := by decide +kernel
abbrev b_V_doNothing : ByteArray := prog_1_method_36_code
def y_V_doNothing : MethodName := ⟨R_V, "doNothing", "(II)V"⟩
theorem hd_V_doNothing : y_V_doNothing.cls ≠ "java/lang/invoke/MethodHandle" ∧ y_V_doNothing.cls ≠ "java/lang/invoke/VarHandle" ∧ (parseMethodDescriptor y_V_doNothing.desc).map (fun d => d.parameters.length) = some 2 := by decide +kernel
abbrev b_V_callOrBreak : ByteArray := prog_1_method_37_code
def y_V_callOrBreak : MethodName := ⟨R_V, "callOrBreak", "(I)V"⟩
theorem hd_V_callOrBreak : y_V_callOrBreak.cls ≠ "java/lang/invoke/MethodHandle" ∧ y_V_callOrBreak.cls ≠ "java/lang/invoke/VarHandle" ∧ (parseMethodDescriptor y_V_callOrBreak.desc).map (fun d => d.parameters.length) = some 1 := by decide +kernel
abbrev b_V_doInstruction : ByteArray := prog_1_method_26_code
def y_V_doInstruction : MethodName := ⟨R_V, "doInstruction", "()V"⟩
theorem hd_V_doInstruction : y_V_doInstruction.cls ≠ "java/lang/invoke/MethodHandle" ∧ y_V_doInstruction.cls ≠ "java/lang/invoke/VarHandle" ∧ (parseMethodDescriptor y_V_doInstruction.desc).map (fun d => d.parameters.length) = some 0 := by decide +kernel
abbrev b_Mo_outside : ByteArray := prog_8_method_2_code
def y_Mo_outside : MethodName := ⟨R_Mo, "outside", "(II)Z"⟩
theorem hd_Mo_outside : y_Mo_outside.cls ≠ "java/lang/invoke/MethodHandle" ∧ y_Mo_outside.cls ≠ "java/lang/invoke/VarHandle" ∧ (parseMethodDescriptor y_Mo_outside.desc).map (fun d => d.parameters.length) = some 2 := by decide +kernel
abbrev b_Mo_isData : ByteArray := prog_8_method_3_code
def y_Mo_isData : MethodName := ⟨R_Mo, "isData", "(I)Z"⟩
theorem hd_Mo_isData : y_Mo_isData.cls ≠ "java/lang/invoke/MethodHandle" ∧ y_Mo_isData.cls ≠ "java/lang/invoke/VarHandle" ∧ (parseMethodDescriptor y_Mo_isData.desc).map (fun d => d.parameters.length) = some 1 := by decide +kernel
abbrev b_Mo_syndrome : ByteArray := prog_8_method_4_code
def y_Mo_syndrome : MethodName := ⟨R_Mo, "syndrome", "(J)I"⟩
theorem hd_Mo_syndrome : y_Mo_syndrome.cls ≠ "java/lang/invoke/MethodHandle" ∧ y_Mo_syndrome.cls ≠ "java/lang/invoke/VarHandle" ∧ (parseMethodDescriptor y_Mo_syndrome.desc).map (fun d => d.parameters.length) = some 1 := by decide +kernel
abbrev b_Mo_isOdd : ByteArray := prog_8_method_5_code
def y_Mo_isOdd : MethodName := ⟨R_Mo, "isOdd", "(J)Z"⟩
theorem hd_Mo_isOdd : y_Mo_isOdd.cls ≠ "java/lang/invoke/MethodHandle" ∧ y_Mo_isOdd.cls ≠ "java/lang/invoke/VarHandle" ∧ (parseMethodDescriptor y_Mo_isOdd.desc).map (fun d => d.parameters.length) = some 1 := by decide +kernel
abbrev b_Mo_dataOf : ByteArray := prog_8_method_6_code
def y_Mo_dataOf : MethodName := ⟨R_Mo, "dataOf", "(J)I"⟩
theorem hd_Mo_dataOf : y_Mo_dataOf.cls ≠ "java/lang/invoke/MethodHandle" ∧ y_Mo_dataOf.cls ≠ "java/lang/invoke/VarHandle" ∧ (parseMethodDescriptor y_Mo_dataOf.desc).map (fun d => d.parameters.length) = some 1 := by decide +kernel
abbrev b_Mo_encoded : ByteArray := prog_8_method_7_code
def y_Mo_encoded : MethodName := ⟨R_Mo, "encoded", "(I)J"⟩
theorem hd_Mo_encoded : y_Mo_encoded.cls ≠ "java/lang/invoke/MethodHandle" ∧ y_Mo_encoded.cls ≠ "java/lang/invoke/VarHandle" ∧ (parseMethodDescriptor y_Mo_encoded.desc).map (fun d => d.parameters.length) = some 1 := by decide +kernel
abbrev b_Mo_wrongBit : ByteArray := prog_8_method_8_code
def y_Mo_wrongBit : MethodName := ⟨R_Mo, "wrongBit", "(J)I"⟩
theorem hd_Mo_wrongBit : y_Mo_wrongBit.cls ≠ "java/lang/invoke/MethodHandle" ∧ y_Mo_wrongBit.cls ≠ "java/lang/invoke/VarHandle" ∧ (parseMethodDescriptor y_Mo_wrongBit.desc).map (fun d => d.parameters.length) = some 1 := by decide +kernel
abbrev b_Mo_mend : ByteArray := prog_8_method_9_code
def y_Mo_mend : MethodName := ⟨R_Mo, "mend", "(I)Z"⟩
theorem hd_Mo_mend : y_Mo_mend.cls ≠ "java/lang/invoke/MethodHandle" ∧ y_Mo_mend.cls ≠ "java/lang/invoke/VarHandle" ∧ (parseMethodDescriptor y_Mo_mend.desc).map (fun d => d.parameters.length) = some 1 := by decide +kernel
abbrev b_Mo_keep : ByteArray := prog_8_method_10_code
def y_Mo_keep : MethodName := ⟨R_Mo, "keep", "(II)V"⟩
theorem hd_Mo_keep : y_Mo_keep.cls ≠ "java/lang/invoke/MethodHandle" ∧ y_Mo_keep.cls ≠ "java/lang/invoke/VarHandle" ∧ (parseMethodDescriptor y_Mo_keep.desc).map (fun d => d.parameters.length) = some 2 := by decide +kernel
abbrev b_Mo_line : ByteArray := prog_8_method_11_code
def y_Mo_line : MethodName := ⟨R_Mo, "line", "(II)J"⟩
theorem hd_Mo_line : y_Mo_line.cls ≠ "java/lang/invoke/MethodHandle" ∧ y_Mo_line.cls ≠ "java/lang/invoke/VarHandle" ∧ (parseMethodDescriptor y_Mo_line.desc).map (fun d => d.parameters.length) = some 2 := by decide +kernel
abbrev b_Mo_stop : ByteArray := prog_8_method_20_code
def y_Mo_stop : MethodName := ⟨R_Mo, "stop", "(II)V"⟩
theorem hd_Mo_stop : y_Mo_stop.cls ≠ "java/lang/invoke/MethodHandle" ∧ y_Mo_stop.cls ≠ "java/lang/invoke/VarHandle" ∧ (parseMethodDescriptor y_Mo_stop.desc).map (fun d => d.parameters.length) = some 2 := by decide +kernel
abbrev b_Mo_holds : ByteArray := prog_8_method_12_code
def y_Mo_holds : MethodName := ⟨R_Mo, "holds", "(II)Z"⟩
theorem hd_Mo_holds : y_Mo_holds.cls ≠ "java/lang/invoke/MethodHandle" ∧ y_Mo_holds.cls ≠ "java/lang/invoke/VarHandle" ∧ (parseMethodDescriptor y_Mo_holds.desc).map (fun d => d.parameters.length) = some 2 := by decide +kernel
abbrev b_Mo_fetch : ByteArray := prog_8_method_13_code
def y_Mo_fetch : MethodName := ⟨R_Mo, "fetch", "(II)Z"⟩
theorem hd_Mo_fetch : y_Mo_fetch.cls ≠ "java/lang/invoke/MethodHandle" ∧ y_Mo_fetch.cls ≠ "java/lang/invoke/VarHandle" ∧ (parseMethodDescriptor y_Mo_fetch.desc).map (fun d => d.parameters.length) = some 2 := by decide +kernel
abbrev b_Mo_save : ByteArray := prog_8_method_14_code
def y_Mo_save : MethodName := ⟨R_Mo, "save", "(II)V"⟩
theorem hd_Mo_save : y_Mo_save.cls ≠ "java/lang/invoke/MethodHandle" ∧ y_Mo_save.cls ≠ "java/lang/invoke/VarHandle" ∧ (parseMethodDescriptor y_Mo_save.desc).map (fun d => d.parameters.length) = some 2 := by decide +kernel
abbrev b_Mo_two : ByteArray := prog_8_method_15_code
def y_Mo_two : MethodName := ⟨R_Mo, "two", "(III)I"⟩
theorem hd_Mo_two : y_Mo_two.cls ≠ "java/lang/invoke/MethodHandle" ∧ y_Mo_two.cls ≠ "java/lang/invoke/VarHandle" ∧ (parseMethodDescriptor y_Mo_two.desc).map (fun d => d.parameters.length) = some 3 := by decide +kernel
abbrev b_Mo_valueOf : ByteArray := prog_8_method_16_code
def y_Mo_valueOf : MethodName := ⟨R_Mo, "valueOf", "(I)I"⟩
theorem hd_Mo_valueOf : y_Mo_valueOf.cls ≠ "java/lang/invoke/MethodHandle" ∧ y_Mo_valueOf.cls ≠ "java/lang/invoke/VarHandle" ∧ (parseMethodDescriptor y_Mo_valueOf.desc).map (fun d => d.parameters.length) = some 1 := by decide +kernel
abbrev b_Mo_operand : ByteArray := prog_8_method_17_code
def y_Mo_operand : MethodName := ⟨R_Mo, "operand", "(I)I"⟩
theorem hd_Mo_operand : y_Mo_operand.cls ≠ "java/lang/invoke/MethodHandle" ∧ y_Mo_operand.cls ≠ "java/lang/invoke/VarHandle" ∧ (parseMethodDescriptor y_Mo_operand.desc).map (fun d => d.parameters.length) = some 1 := by decide +kernel
abbrev b_Mo_put : ByteArray := prog_8_method_18_code
def y_Mo_put : MethodName := ⟨R_Mo, "put", "(II)V"⟩
theorem hd_Mo_put : y_Mo_put.cls ≠ "java/lang/invoke/MethodHandle" ∧ y_Mo_put.cls ≠ "java/lang/invoke/VarHandle" ∧ (parseMethodDescriptor y_Mo_put.desc).map (fun d => d.parameters.length) = some 2 := by decide +kernel
abbrev b_Mo_vote : ByteArray := prog_8_method_19_code
def y_Mo_vote : MethodName := ⟨R_Mo, "vote", "()V"⟩
theorem hd_Mo_vote : y_Mo_vote.cls ≠ "java/lang/invoke/MethodHandle" ∧ y_Mo_vote.cls ≠ "java/lang/invoke/VarHandle" ∧ (parseMethodDescriptor y_Mo_vote.desc).map (fun d => d.parameters.length) = some 0 := by decide +kernel
abbrev b_Mo_field : ByteArray := prog_8_method_21_code
def y_Mo_field : MethodName := ⟨R_Mo, "field", "(II)I"⟩
theorem hd_Mo_field : y_Mo_field.cls ≠ "java/lang/invoke/MethodHandle" ∧ y_Mo_field.cls ≠ "java/lang/invoke/VarHandle" ∧ (parseMethodDescriptor y_Mo_field.desc).map (fun d => d.parameters.length) = some 2 := by decide +kernel
abbrev b_Mo_numberJ : ByteArray := prog_8_method_22_code
def y_Mo_numberJ : MethodName := ⟨R_Mo, "numberJ", "()I"⟩
theorem hd_Mo_numberJ : y_Mo_numberJ.cls ≠ "java/lang/invoke/MethodHandle" ∧ y_Mo_numberJ.cls ≠ "java/lang/invoke/VarHandle" ∧ (parseMethodDescriptor y_Mo_numberJ.desc).map (fun d => d.parameters.length) = some 0 := by decide +kernel
abbrev b_Mo_numberK : ByteArray := prog_8_method_23_code
def y_Mo_numberK : MethodName := ⟨R_Mo, "numberK", "()I"⟩
theorem hd_Mo_numberK : y_Mo_numberK.cls ≠ "java/lang/invoke/MethodHandle" ∧ y_Mo_numberK.cls ≠ "java/lang/invoke/VarHandle" ∧ (parseMethodDescriptor y_Mo_numberK.desc).map (fun d => d.parameters.length) = some 0 := by decide +kernel
abbrev b_Mo_numberL : ByteArray := prog_8_method_24_code
def y_Mo_numberL : MethodName := ⟨R_Mo, "numberL", "()I"⟩
theorem hd_Mo_numberL : y_Mo_numberL.cls ≠ "java/lang/invoke/MethodHandle" ∧ y_Mo_numberL.cls ≠ "java/lang/invoke/VarHandle" ∧ (parseMethodDescriptor y_Mo_numberL.desc).map (fun d => d.parameters.length) = some 0 := by decide +kernel
abbrev b_Mo_give : ByteArray := prog_8_method_25_code
def y_Mo_give : MethodName := ⟨R_Mo, "give", "(I)V"⟩
theorem hd_Mo_give : y_Mo_give.cls ≠ "java/lang/invoke/MethodHandle" ∧ y_Mo_give.cls ≠ "java/lang/invoke/VarHandle" ∧ (parseMethodDescriptor y_Mo_give.desc).map (fun d => d.parameters.length) = some 1 := by decide +kernel
abbrev b_Mo_go : ByteArray := prog_8_method_26_code
def y_Mo_go : MethodName := ⟨R_Mo, "go", "(I)V"⟩
theorem hd_Mo_go : y_Mo_go.cls ≠ "java/lang/invoke/MethodHandle" ∧ y_Mo_go.cls ≠ "java/lang/invoke/VarHandle" ∧ (parseMethodDescriptor y_Mo_go.desc).map (fun d => d.parameters.length) = some 1 := by decide +kernel
abbrev b_Mo_illegal : ByteArray := prog_8_method_27_code
def y_Mo_illegal : MethodName := ⟨R_Mo, "illegal", "()V"⟩
theorem hd_Mo_illegal : y_Mo_illegal.cls ≠ "java/lang/invoke/MethodHandle" ∧ y_Mo_illegal.cls ≠ "java/lang/invoke/VarHandle" ∧ (parseMethodDescriptor y_Mo_illegal.desc).map (fun d => d.parameters.length) = some 0 := by decide +kernel
abbrev b_Mo_isLess : ByteArray := prog_8_method_28_code
def y_Mo_isLess : MethodName := ⟨R_Mo, "isLess", "(IIZ)Z"⟩
theorem hd_Mo_isLess : y_Mo_isLess.cls ≠ "java/lang/invoke/MethodHandle" ∧ y_Mo_isLess.cls ≠ "java/lang/invoke/VarHandle" ∧ (parseMethodDescriptor y_Mo_isLess.desc).map (fun d => d.parameters.length) = some 3 := by decide +kernel
abbrev b_Mo_branch : ByteArray := prog_8_method_29_code
def y_Mo_branch : MethodName := ⟨R_Mo, "branch", "(III)V"⟩
theorem hd_Mo_branch : y_Mo_branch.cls ≠ "java/lang/invoke/MethodHandle" ∧ y_Mo_branch.cls ≠ "java/lang/invoke/VarHandle" ∧ (parseMethodDescriptor y_Mo_branch.desc).map (fun d => d.parameters.length) = some 3 := by decide +kernel
abbrev b_Mo_reaches : ByteArray := prog_8_method_30_code
def y_Mo_reaches : MethodName := ⟨R_Mo, "reaches", "(II)Z"⟩
theorem hd_Mo_reaches : y_Mo_reaches.cls ≠ "java/lang/invoke/MethodHandle" ∧ y_Mo_reaches.cls ≠ "java/lang/invoke/VarHandle" ∧ (parseMethodDescriptor y_Mo_reaches.desc).map (fun d => d.parameters.length) = some 2 := by decide +kernel
abbrev b_Mo_load : ByteArray := prog_8_method_31_code
def y_Mo_load : MethodName := ⟨R_Mo, "load", "(II)V"⟩
theorem hd_Mo_load : y_Mo_load.cls ≠ "java/lang/invoke/MethodHandle" ∧ y_Mo_load.cls ≠ "java/lang/invoke/VarHandle" ∧ (parseMethodDescriptor y_Mo_load.desc).map (fun d => d.parameters.length) = some 2 := by decide +kernel
abbrev b_Mo_store : ByteArray := prog_8_method_32_code
def y_Mo_store : MethodName := ⟨R_Mo, "store", "(III)V"⟩
theorem hd_Mo_store : y_Mo_store.cls ≠ "java/lang/invoke/MethodHandle" ∧ y_Mo_store.cls ≠ "java/lang/invoke/VarHandle" ∧ (parseMethodDescriptor y_Mo_store.desc).map (fun d => d.parameters.length) = some 3 := by decide +kernel
abbrev b_Mo_reckoned : ByteArray := prog_8_method_33_code
def y_Mo_reckoned : MethodName := ⟨R_Mo, "reckoned", "(III)I"⟩
theorem hd_Mo_reckoned : y_Mo_reckoned.cls ≠ "java/lang/invoke/MethodHandle" ∧ y_Mo_reckoned.cls ≠ "java/lang/invoke/VarHandle" ∧ (parseMethodDescriptor y_Mo_reckoned.desc).map (fun d => d.parameters.length) = some 3 := by decide +kernel
abbrev b_Mo_reckon : ByteArray := prog_8_method_34_code
def y_Mo_reckon : MethodName := ⟨R_Mo, "reckon", "(IIIIZ)V"⟩
theorem hd_Mo_reckon : y_Mo_reckon.cls ≠ "java/lang/invoke/MethodHandle" ∧ y_Mo_reckon.cls ≠ "java/lang/invoke/VarHandle" ∧ (parseMethodDescriptor y_Mo_reckon.desc).map (fun d => d.parameters.length) = some 5 := by decide +kernel
abbrev b_Mo_jump : ByteArray := prog_8_method_36_code
def y_Mo_jump : MethodName := ⟨R_Mo, "jump", "(II)V"⟩
theorem hd_Mo_jump : y_Mo_jump.cls ≠ "java/lang/invoke/MethodHandle" ∧ y_Mo_jump.cls ≠ "java/lang/invoke/VarHandle" ∧ (parseMethodDescriptor y_Mo_jump.desc).map (fun d => d.parameters.length) = some 2 := by decide +kernel
abbrev b_Mo_rest : ByteArray := prog_8_method_37_code
def y_Mo_rest : MethodName := ⟨R_Mo, "rest", "(I)V"⟩
theorem hd_Mo_rest : y_Mo_rest.cls ≠ "java/lang/invoke/MethodHandle" ∧ y_Mo_rest.cls ≠ "java/lang/invoke/VarHandle" ∧ (parseMethodDescriptor y_Mo_rest.desc).map (fun d => d.parameters.length) = some 1 := by decide +kernel
abbrev b_Mo_execute : ByteArray := prog_8_method_35_code
def y_Mo_execute : MethodName := ⟨R_Mo, "execute", "()V"⟩
theorem hd_Mo_execute : y_Mo_execute.cls ≠ "java/lang/invoke/MethodHandle" ∧ y_Mo_execute.cls ≠ "java/lang/invoke/VarHandle" ∧ (parseMethodDescriptor y_Mo_execute.desc).map (fun d => d.parameters.length) = some 0 := by decide +kernel
abbrev b_Mo_change : ByteArray := prog_8_method_39_code
def y_Mo_change : MethodName := ⟨R_Mo, "change", "(II)V"⟩
theorem hd_Mo_change : y_Mo_change.cls ≠ "java/lang/invoke/MethodHandle" ∧ y_Mo_change.cls ≠ "java/lang/invoke/VarHandle" ∧ (parseMethodDescriptor y_Mo_change.desc).map (fun d => d.parameters.length) = some 2 := by decide +kernel
abbrev b_Mo_makeFaults : ByteArray := prog_8_method_40_code
def y_Mo_makeFaults : MethodName := ⟨R_Mo, "makeFaults", "()V"⟩
theorem hd_Mo_makeFaults : y_Mo_makeFaults.cls ≠ "java/lang/invoke/MethodHandle" ∧ y_Mo_makeFaults.cls ≠ "java/lang/invoke/VarHandle" ∧ (parseMethodDescriptor y_Mo_makeFaults.desc).map (fun d => d.parameters.length) = some 0 := by decide +kernel
abbrev b_Mo_scrub : ByteArray := prog_8_method_41_code
def y_Mo_scrub : MethodName := ⟨R_Mo, "scrub", "()V"⟩
theorem hd_Mo_scrub : y_Mo_scrub.cls ≠ "java/lang/invoke/MethodHandle" ∧ y_Mo_scrub.cls ≠ "java/lang/invoke/VarHandle" ∧ (parseMethodDescriptor y_Mo_scrub.desc).map (fun d => d.parameters.length) = some 0 := by decide +kernel
abbrev b_Mo_resume : ByteArray := prog_8_method_43_code
def y_Mo_resume : MethodName := ⟨R_Mo, "resume", "(I)Z"⟩
theorem hd_Mo_resume : y_Mo_resume.cls ≠ "java/lang/invoke/MethodHandle" ∧ y_Mo_resume.cls ≠ "java/lang/invoke/VarHandle" ∧ (parseMethodDescriptor y_Mo_resume.desc).map (fun d => d.parameters.length) = some 1 := by decide +kernel
abbrev b_Mo_write : ByteArray := prog_8_method_44_code
def y_Mo_write : MethodName := ⟨R_Mo, "write", "(II)Z"⟩
theorem hd_Mo_write : y_Mo_write.cls ≠ "java/lang/invoke/MethodHandle" ∧ y_Mo_write.cls ≠ "java/lang/invoke/VarHandle" ∧ (parseMethodDescriptor y_Mo_write.desc).map (fun d => d.parameters.length) = some 2 := by decide +kernel
abbrev b_Mo_set : ByteArray := prog_8_method_45_code
def y_Mo_set : MethodName := ⟨R_Mo, "set", "(II)Z"⟩
theorem hd_Mo_set : y_Mo_set.cls ≠ "java/lang/invoke/MethodHandle" ∧ y_Mo_set.cls ≠ "java/lang/invoke/VarHandle" ∧ (parseMethodDescriptor y_Mo_set.desc).map (fun d => d.parameters.length) = some 2 := by decide +kernel
abbrev b_Mo_noBit : ByteArray := prog_8_method_46_code
def y_Mo_noBit : MethodName := ⟨R_Mo, "noBit", "(II)Z"⟩
theorem hd_Mo_noBit : y_Mo_noBit.cls ≠ "java/lang/invoke/MethodHandle" ∧ y_Mo_noBit.cls ≠ "java/lang/invoke/VarHandle" ∧ (parseMethodDescriptor y_Mo_noBit.desc).map (fun d => d.parameters.length) = some 2 := by decide +kernel
abbrev b_Mo_flip : ByteArray := prog_8_method_47_code
def y_Mo_flip : MethodName := ⟨R_Mo, "flip", "(II)Z"⟩
theorem hd_Mo_flip : y_Mo_flip.cls ≠ "java/lang/invoke/MethodHandle" ∧ y_Mo_flip.cls ≠ "java/lang/invoke/VarHandle" ∧ (parseMethodDescriptor y_Mo_flip.desc).map (fun d => d.parameters.length) = some 2 := by decide +kernel
abbrev b_Mo_plan : ByteArray := prog_8_method_48_code
def y_Mo_plan : MethodName := ⟨R_Mo, "plan", "(III)Z"⟩
theorem hd_Mo_plan : y_Mo_plan.cls ≠ "java/lang/invoke/MethodHandle" ∧ y_Mo_plan.cls ≠ "java/lang/invoke/VarHandle" ∧ (parseMethodDescriptor y_Mo_plan.desc).map (fun d => d.parameters.length) = some 3 := by decide +kernel
abbrev b_Mo_planned : ByteArray := prog_8_method_49_code
def y_Mo_planned : MethodName := ⟨R_Mo, "planned", "()I"⟩
theorem hd_Mo_planned : y_Mo_planned.cls ≠ "java/lang/invoke/MethodHandle" ∧ y_Mo_planned.cls ≠ "java/lang/invoke/VarHandle" ∧ (parseMethodDescriptor y_Mo_planned.desc).map (fun d => d.parameters.length) = some 0 := by decide +kernel
abbrev b_Mo_register : ByteArray := prog_8_method_50_code
def y_Mo_register : MethodName := ⟨R_Mo, "register", "(I)I"⟩
theorem hd_Mo_register : y_Mo_register.cls ≠ "java/lang/invoke/MethodHandle" ∧ y_Mo_register.cls ≠ "java/lang/invoke/VarHandle" ∧ (parseMethodDescriptor y_Mo_register.desc).map (fun d => d.parameters.length) = some 1 := by decide +kernel
abbrev b_Mo_look : ByteArray := prog_8_method_51_code
def y_Mo_look : MethodName := ⟨R_Mo, "look", "(I)J"⟩
theorem hd_Mo_look : y_Mo_look.cls ≠ "java/lang/invoke/MethodHandle" ∧ y_Mo_look.cls ≠ "java/lang/invoke/VarHandle" ∧ (parseMethodDescriptor y_Mo_look.desc).map (fun d => d.parameters.length) = some 1 := by decide +kernel
abbrev b_Mo_bits : ByteArray := prog_8_method_52_code
def y_Mo_bits : MethodName := ⟨R_Mo, "bits", "(I)J"⟩
theorem hd_Mo_bits : y_Mo_bits.cls ≠ "java/lang/invoke/MethodHandle" ∧ y_Mo_bits.cls ≠ "java/lang/invoke/VarHandle" ∧ (parseMethodDescriptor y_Mo_bits.desc).map (fun d => d.parameters.length) = some 1 := by decide +kernel
abbrev b_Mo_cause : ByteArray := prog_8_method_53_code
def y_Mo_cause : MethodName := ⟨R_Mo, "cause", "()I"⟩
theorem hd_Mo_cause : y_Mo_cause.cls ≠ "java/lang/invoke/MethodHandle" ∧ y_Mo_cause.cls ≠ "java/lang/invoke/VarHandle" ∧ (parseMethodDescriptor y_Mo_cause.desc).map (fun d => d.parameters.length) = some 0 := by decide +kernel
abbrev b_Mo_value : ByteArray := prog_8_method_54_code
def y_Mo_value : MethodName := ⟨R_Mo, "value", "()I"⟩
theorem hd_Mo_value : y_Mo_value.cls ≠ "java/lang/invoke/MethodHandle" ∧ y_Mo_value.cls ≠ "java/lang/invoke/VarHandle" ∧ (parseMethodDescriptor y_Mo_value.desc).map (fun d => d.parameters.length) = some 0 := by decide +kernel
abbrev b_Mo_cycles : ByteArray := prog_8_method_55_code
def y_Mo_cycles : MethodName := ⟨R_Mo, "cycles", "()I"⟩
theorem hd_Mo_cycles : y_Mo_cycles.cls ≠ "java/lang/invoke/MethodHandle" ∧ y_Mo_cycles.cls ≠ "java/lang/invoke/VarHandle" ∧ (parseMethodDescriptor y_Mo_cycles.desc).map (fun d => d.parameters.length) = some 0 := by decide +kernel
abbrev b_Mo_count : ByteArray := prog_8_method_56_code
def y_Mo_count : MethodName := ⟨R_Mo, "count", "(I)I"⟩
theorem hd_Mo_count : y_Mo_count.cls ≠ "java/lang/invoke/MethodHandle" ∧ y_Mo_count.cls ≠ "java/lang/invoke/VarHandle" ∧ (parseMethodDescriptor y_Mo_count.desc).map (fun d => d.parameters.length) = some 1 := by decide +kernel
abbrev b_Mo_instruct : ByteArray := prog_8_method_38_code
def y_Mo_instruct : MethodName := ⟨R_Mo, "instruct", "()V"⟩
theorem hd_Mo_instruct : y_Mo_instruct.cls ≠ "java/lang/invoke/MethodHandle" ∧ y_Mo_instruct.cls ≠ "java/lang/invoke/VarHandle" ∧ (parseMethodDescriptor y_Mo_instruct.desc).map (fun d => d.parameters.length) = some 0 := by decide +kernel
abbrev b_V_run : ByteArray := prog_1_method_10_code
def y_V_run : MethodName := ⟨R_V, "run", "(I)I"⟩
theorem hd_V_run : y_V_run.cls ≠ "java/lang/invoke/MethodHandle" ∧ y_V_run.cls ≠ "java/lang/invoke/VarHandle" ∧ (parseMethodDescriptor y_V_run.desc).map (fun d => d.parameters.length) = some 1 := by decide +kernel
abbrev b_Mo_run : ByteArray := prog_8_method_42_code
def y_Mo_run : MethodName := ⟨R_Mo, "run", "(I)I"⟩
theorem hd_Mo_run : y_Mo_run.cls ≠ "java/lang/invoke/MethodHandle" ∧ y_Mo_run.cls ≠ "java/lang/invoke/VarHandle" ∧ (parseMethodDescriptor y_Mo_run.desc).map (fun d => d.parameters.length) = some 1 := by decide +kernel
abbrev b_V_init : ByteArray := prog_1_method_1_code
def y_V_init : MethodName := ⟨R_V, "<init>", "(I)V"⟩
theorem hd_V_init : y_V_init.cls ≠ "java/lang/invoke/MethodHandle" ∧ y_V_init.cls ≠ "java/lang/invoke/VarHandle" ∧ (parseMethodDescriptor y_V_init.desc).map (fun d => d.parameters.length) = some 1 := by decide +kernel
abbrev b_Me_init : ByteArray := prog_5_method_1_code
def y_Me_init : MethodName := ⟨R_Me, "<init>", "()V"⟩
theorem hd_Me_init : y_Me_init.cls ≠ "java/lang/invoke/MethodHandle" ∧ y_Me_init.cls ≠ "java/lang/invoke/VarHandle" ∧ (parseMethodDescriptor y_Me_init.desc).map (fun d => d.parameters.length) = some 0 := by decide +kernel
abbrev b_Ca_init : ByteArray := prog_2_method_1_code
def y_Ca_init : MethodName := ⟨R_Ca, "<init>", "()V"⟩
theorem hd_Ca_init : y_Ca_init.cls ≠ "java/lang/invoke/MethodHandle" ∧ y_Ca_init.cls ≠ "java/lang/invoke/VarHandle" ∧ (parseMethodDescriptor y_Ca_init.desc).map (fun d => d.parameters.length) = some 0 := by decide +kernel
abbrev b_Re_init : ByteArray := prog_6_method_1_code
def y_Re_init : MethodName := ⟨R_Re, "<init>", "()V"⟩
theorem hd_Re_init : y_Re_init.cls ≠ "java/lang/invoke/MethodHandle" ∧ y_Re_init.cls ≠ "java/lang/invoke/VarHandle" ∧ (parseMethodDescriptor y_Re_init.desc).map (fun d => d.parameters.length) = some 0 := by decide +kernel
abbrev b_Fa_init : ByteArray := prog_4_method_1_code
def y_Fa_init : MethodName := ⟨R_Fa, "<init>", "()V"⟩
theorem hd_Fa_init : y_Fa_init.cls ≠ "java/lang/invoke/MethodHandle" ∧ y_Fa_init.cls ≠ "java/lang/invoke/VarHandle" ∧ (parseMethodDescriptor y_Fa_init.desc).map (fun d => d.parameters.length) = some 0 := by decide +kernel
abbrev b_Lw_cell : ByteArray := method_2_code
def y_Lw_cell : MethodName := ⟨R_Lw, "cell", "([II)I"⟩
theorem hd_Lw_cell : y_Lw_cell.cls ≠ "java/lang/invoke/MethodHandle" ∧ y_Lw_cell.cls ≠ "java/lang/invoke/VarHandle" ∧ (parseMethodDescriptor y_Lw_cell.desc).map (fun d => d.parameters.length) = some 2 := by decide +kernel
abbrev b_Mo_init : ByteArray := prog_8_method_1_code
def y_Mo_init : MethodName := ⟨R_Mo, "<init>", "(I)V"⟩
theorem hd_Mo_init : y_Mo_init.cls ≠ "java/lang/invoke/MethodHandle" ∧ y_Mo_init.cls ≠ "java/lang/invoke/VarHandle" ∧ (parseMethodDescriptor y_Mo_init.desc).map (fun d => d.parameters.length) = some 1 := by decide +kernel
def GW : List Cond := lw_tbl.filter goodWord
theorem gw_in {w : Cond} (h : w ∈ lw_tbl) (hg : goodWord w = true) : w ∈ GW := List.mem_filter.mpr ⟨h, hg⟩
def nw_is : Cond → Bool
  | .fieldLinkNest .. => true
  | .methodLinkNest .. => true
  | _ => false
def nestW : List Cond := lw_tbl.filter nw_is
theorem nest_in {w : Cond} (h : w ∈ lw_tbl) (hg : nw_is w = true) : w ∈ nestW := List.mem_filter.mpr ⟨h, hg⟩
def w_V_init : List Cond := Cond.code y_V_init b_V_init 2 none :: GW
def w_V_bits : List Cond := Cond.code y_V_bits b_V_bits 2 (some .long) :: GW
def w_V_branch : List Cond := Cond.code y_V_branch b_V_branch 6 none :: GW
def w_V_callOrBreak : List Cond := Cond.code y_V_callOrBreak b_V_callOrBreak 2 none :: GW
def w_V_cause : List Cond := Cond.code y_V_cause b_V_cause 1 (some .int) :: GW
def w_V_computeWithNumber : List Cond := Cond.code y_V_computeWithNumber b_V_computeWithNumber 8 none :: GW
def w_V_computeWithRegister : List Cond := Cond.code y_V_computeWithRegister b_V_computeWithRegister 8 none :: GW
def w_V_count : List Cond := Cond.code y_V_count b_V_count 2 (some .int) :: GW
def w_V_cycles : List Cond := Cond.code y_V_cycles b_V_cycles 1 (some .int) :: GW
def w_V_doInstruction : List Cond := Cond.code y_V_doInstruction b_V_doInstruction 5 none :: GW
def w_V_doNothing : List Cond := Cond.code y_V_doNothing b_V_doNothing 3 none :: GW
def w_V_fetch : List Cond := Cond.code y_V_fetch b_V_fetch 5 (some .long) :: GW
def w_V_finish : List Cond := Cond.code y_V_finish b_V_finish 4 none :: GW
def w_V_flip : List Cond := Cond.code y_V_flip b_V_flip 3 (some .boolean) :: GW
def w_V_goOn : List Cond := Cond.code y_V_goOn b_V_goOn 2 none :: GW
def w_V_invert : List Cond := Cond.code y_V_invert b_V_invert 3 none :: GW
def w_V_isAddress : List Cond := Cond.code y_V_isAddress b_V_isAddress 2 (some .boolean) :: GW
def w_V_isBit : List Cond := Cond.code y_V_isBit b_V_isBit 2 (some .boolean) :: GW
def w_V_isRegister : List Cond := Cond.code y_V_isRegister b_V_isRegister 1 (some .boolean) :: GW
def w_V_isWord : List Cond := Cond.code y_V_isWord b_V_isWord 1 (some .boolean) :: GW
def w_V_jump : List Cond := Cond.code y_V_jump b_V_jump 4 none :: GW
def w_V_jumpByRegister : List Cond := Cond.code y_V_jumpByRegister b_V_jumpByRegister 4 none :: GW
def w_V_load : List Cond := Cond.code y_V_load b_V_load 7 none :: GW
def w_V_look : List Cond := Cond.code y_V_look b_V_look 2 (some .long) :: GW
def w_V_makePlannedFaults : List Cond := Cond.code y_V_makePlannedFaults b_V_makePlannedFaults 3 none :: GW
def w_V_plan : List Cond := Cond.code y_V_plan b_V_plan 4 (some .boolean) :: GW
def w_V_planned : List Cond := Cond.code y_V_planned b_V_planned 1 (some .int) :: GW
def w_V_register : List Cond := Cond.code y_V_register b_V_register 2 (some .int) :: GW
def w_V_resume : List Cond := Cond.code y_V_resume b_V_resume 2 (some .boolean) :: GW
def w_V_run : List Cond := Cond.code y_V_run b_V_run 3 (some .int) :: GW
def w_V_save : List Cond := Cond.code y_V_save b_V_save 3 none :: GW
def w_V_scrub : List Cond := Cond.code y_V_scrub b_V_scrub 1 none :: GW
def w_V_set : List Cond := Cond.code y_V_set b_V_set 3 (some .boolean) :: GW
def w_V_stop : List Cond := Cond.code y_V_stop b_V_stop 3 none :: GW
def w_V_store : List Cond := Cond.code y_V_store b_V_store 10 none :: GW
def w_V_value : List Cond := Cond.code y_V_value b_V_value 1 (some .int) :: GW
def w_V_write : List Cond := Cond.code y_V_write b_V_write 3 (some .boolean) :: GW
def w_Ca_init : List Cond := Cond.code y_Ca_init b_Ca_init 1 none :: GW
def w_Ca_drop : List Cond := Cond.code y_Ca_drop b_Ca_drop 2 none :: GW
def w_Ca_dropAll : List Cond := Cond.code y_Ca_dropAll b_Ca_dropAll 1 none :: GW
def w_Ca_dropIfWrong : List Cond := Cond.code y_Ca_dropIfWrong b_Ca_dropIfWrong 2 none :: GW
def w_Ca_fill : List Cond := Cond.code y_Ca_fill b_Ca_fill 5 none :: GW
def w_Ca_held : List Cond := Cond.code y_Ca_held b_Ca_held 2 (some .long) :: GW
def w_Ca_holds : List Cond := Cond.code y_Ca_holds b_Ca_holds 2 (some .boolean) :: GW
def w_Co_computed : List Cond := Cond.code y_Co_computed b_Co_computed 4 (some .int) :: GW
def w_Co_d : List Cond := Cond.code y_Co_d b_Co_d 1 (some .int) :: GW
def w_Co_f : List Cond := Cond.code y_Co_f b_Co_f 1 (some .int) :: GW
def w_Co_g : List Cond := Cond.code y_Co_g b_Co_g 1 (some .int) :: GW
def w_Co_i : List Cond := Cond.code y_Co_i b_Co_i 1 (some .int) :: GW
def w_Co_isTaken : List Cond := Cond.code y_Co_isTaken b_Co_isTaken 3 (some .boolean) :: GW
def w_Co_j : List Cond := Cond.code y_Co_j b_Co_j 1 (some .int) :: GW
def w_Co_k : List Cond := Cond.code y_Co_k b_Co_k 1 (some .int) :: GW
def w_Co_l : List Cond := Cond.code y_Co_l b_Co_l 1 (some .int) :: GW
def w_Co_loaded : List Cond := Cond.code y_Co_loaded b_Co_loaded 2 (some .int) :: GW
def w_Co_op : List Cond := Cond.code y_Co_op b_Co_op 1 (some .int) :: GW
def w_Co_s : List Cond := Cond.code y_Co_s b_Co_s 1 (some .int) :: GW
def w_Co_shiftOf : List Cond := Cond.code y_Co_shiftOf b_Co_shiftOf 1 (some .int) :: GW
def w_Co_size : List Cond := Cond.code y_Co_size b_Co_size 1 (some .int) :: GW
def w_Co_t : List Cond := Cond.code y_Co_t b_Co_t 1 (some .int) :: GW
def w_Co_u : List Cond := Cond.code y_Co_u b_Co_u 1 (some .int) :: GW
def w_Fa_init : List Cond := Cond.code y_Fa_init b_Fa_init 1 none :: GW
def w_Fa_append : List Cond := Cond.code y_Fa_append b_Fa_append 4 none :: GW
def w_Fa_move : List Cond := Cond.code y_Fa_move b_Fa_move 3 none :: GW
def w_Me_init : List Cond := Cond.code y_Me_init b_Me_init 1 none :: GW
def w_Me_gathered : List Cond := Cond.code y_Me_gathered b_Me_gathered 2 (some .long) :: GW
def w_Me_inspect : List Cond := Cond.code y_Me_inspect b_Me_inspect 4 (some .long) :: GW
def w_Me_keep : List Cond := Cond.code y_Me_keep b_Me_keep 7 none :: GW
def w_Me_mend : List Cond := Cond.code y_Me_mend b_Me_mend 4 (some .long) :: GW
def w_Me_putRight : List Cond := Cond.code y_Me_putRight b_Me_putRight 4 (some .long) :: GW
def w_Me_spread : List Cond := Cond.code y_Me_spread b_Me_spread 1 (some .long) :: GW
def w_Me_xorOfNumbers : List Cond := Cond.code y_Me_xorOfNumbers b_Me_xorOfNumbers 4 (some .int) :: GW
def w_Re_init : List Cond := Cond.code y_Re_init b_Re_init 1 none :: GW
def w_Re_agreed : List Cond := Cond.code y_Re_agreed b_Re_agreed 5 (some .int) :: GW
def w_Re_operand : List Cond := Cond.code y_Re_operand b_Re_operand 2 (some .int) :: GW
def w_Re_put : List Cond := Cond.code y_Re_put b_Re_put 3 none :: GW
def w_Re_putResult : List Cond := Cond.code y_Re_putResult b_Re_putResult 3 none :: GW
def w_Re_vote : List Cond := Cond.code y_Re_vote b_Re_vote 3 none :: GW
def w_Lw_cell : List Cond := Cond.code y_Lw_cell b_Lw_cell 2 (some .int) :: GW
def w_Mo_init : List Cond := Cond.code y_Mo_init b_Mo_init 2 none :: GW
def w_Mo_bits : List Cond := Cond.code y_Mo_bits b_Mo_bits 2 (some .long) :: GW
def w_Mo_branch : List Cond := Cond.code y_Mo_branch b_Mo_branch 5 none :: GW
def w_Mo_cause : List Cond := Cond.code y_Mo_cause b_Mo_cause 1 (some .int) :: GW
def w_Mo_change : List Cond := Cond.code y_Mo_change b_Mo_change 3 none :: GW
def w_Mo_count : List Cond := Cond.code y_Mo_count b_Mo_count 2 (some .int) :: GW
def w_Mo_cycles : List Cond := Cond.code y_Mo_cycles b_Mo_cycles 1 (some .int) :: GW
def w_Mo_dataOf : List Cond := Cond.code y_Mo_dataOf b_Mo_dataOf 5 (some .int) :: GW
def w_Mo_encoded : List Cond := Cond.code y_Mo_encoded b_Mo_encoded 6 (some .long) :: GW
def w_Mo_execute : List Cond := Cond.code y_Mo_execute b_Mo_execute 5 none :: GW
def w_Mo_fetch : List Cond := Cond.code y_Mo_fetch b_Mo_fetch 4 (some .boolean) :: GW
def w_Mo_field : List Cond := Cond.code y_Mo_field b_Mo_field 3 (some .int) :: GW
def w_Mo_flip : List Cond := Cond.code y_Mo_flip b_Mo_flip 3 (some .boolean) :: GW
def w_Mo_give : List Cond := Cond.code y_Mo_give b_Mo_give 2 none :: GW
def w_Mo_go : List Cond := Cond.code y_Mo_go b_Mo_go 2 none :: GW
def w_Mo_holds : List Cond := Cond.code y_Mo_holds b_Mo_holds 4 (some .boolean) :: GW
def w_Mo_illegal : List Cond := Cond.code y_Mo_illegal b_Mo_illegal 1 none :: GW
def w_Mo_instruct : List Cond := Cond.code y_Mo_instruct b_Mo_instruct 2 none :: GW
def w_Mo_isData : List Cond := Cond.code y_Mo_isData b_Mo_isData 1 (some .boolean) :: GW
def w_Mo_isLess : List Cond := Cond.code y_Mo_isLess b_Mo_isLess 3 (some .boolean) :: GW
def w_Mo_isOdd : List Cond := Cond.code y_Mo_isOdd b_Mo_isOdd 4 (some .boolean) :: GW
def w_Mo_jump : List Cond := Cond.code y_Mo_jump b_Mo_jump 3 none :: GW
def w_Mo_keep : List Cond := Cond.code y_Mo_keep b_Mo_keep 3 none :: GW
def w_Mo_line : List Cond := Cond.code y_Mo_line b_Mo_line 4 (some .long) :: GW
def w_Mo_load : List Cond := Cond.code y_Mo_load b_Mo_load 6 none :: GW
def w_Mo_look : List Cond := Cond.code y_Mo_look b_Mo_look 5 (some .long) :: GW
def w_Mo_makeFaults : List Cond := Cond.code y_Mo_makeFaults b_Mo_makeFaults 4 none :: GW
def w_Mo_mend : List Cond := Cond.code y_Mo_mend b_Mo_mend 3 (some .boolean) :: GW
def w_Mo_noBit : List Cond := Cond.code y_Mo_noBit b_Mo_noBit 2 (some .boolean) :: GW
def w_Mo_numberJ : List Cond := Cond.code y_Mo_numberJ b_Mo_numberJ 1 (some .int) :: GW
def w_Mo_numberK : List Cond := Cond.code y_Mo_numberK b_Mo_numberK 1 (some .int) :: GW
def w_Mo_numberL : List Cond := Cond.code y_Mo_numberL b_Mo_numberL 1 (some .int) :: GW
def w_Mo_operand : List Cond := Cond.code y_Mo_operand b_Mo_operand 2 (some .int) :: GW
def w_Mo_outside : List Cond := Cond.code y_Mo_outside b_Mo_outside 2 (some .boolean) :: GW
def w_Mo_plan : List Cond := Cond.code y_Mo_plan b_Mo_plan 4 (some .boolean) :: GW
def w_Mo_planned : List Cond := Cond.code y_Mo_planned b_Mo_planned 1 (some .int) :: GW
def w_Mo_put : List Cond := Cond.code y_Mo_put b_Mo_put 4 none :: GW
def w_Mo_reaches : List Cond := Cond.code y_Mo_reaches b_Mo_reaches 3 (some .boolean) :: GW
def w_Mo_reckon : List Cond := Cond.code y_Mo_reckon b_Mo_reckon 7 none :: GW
def w_Mo_reckoned : List Cond := Cond.code y_Mo_reckoned b_Mo_reckoned 4 (some .int) :: GW
def w_Mo_register : List Cond := Cond.code y_Mo_register b_Mo_register 2 (some .int) :: GW
def w_Mo_rest : List Cond := Cond.code y_Mo_rest b_Mo_rest 2 none :: GW
def w_Mo_resume : List Cond := Cond.code y_Mo_resume b_Mo_resume 2 (some .boolean) :: GW
def w_Mo_run : List Cond := Cond.code y_Mo_run b_Mo_run 3 (some .int) :: GW
def w_Mo_save : List Cond := Cond.code y_Mo_save b_Mo_save 3 none :: GW
def w_Mo_scrub : List Cond := Cond.code y_Mo_scrub b_Mo_scrub 1 none :: GW
def w_Mo_set : List Cond := Cond.code y_Mo_set b_Mo_set 3 (some .boolean) :: GW
def w_Mo_stop : List Cond := Cond.code y_Mo_stop b_Mo_stop 3 none :: GW
def w_Mo_store : List Cond := Cond.code y_Mo_store b_Mo_store 7 none :: GW
def w_Mo_syndrome : List Cond := Cond.code y_Mo_syndrome b_Mo_syndrome 4 (some .int) :: GW
def w_Mo_two : List Cond := Cond.code y_Mo_two b_Mo_two 3 (some .int) :: GW
def w_Mo_value : List Cond := Cond.code y_Mo_value b_Mo_value 1 (some .int) :: GW
def w_Mo_valueOf : List Cond := Cond.code y_Mo_valueOf b_Mo_valueOf 2 (some .int) :: GW
def w_Mo_vote : List Cond := Cond.code y_Mo_vote b_Mo_vote 3 none :: GW
def w_Mo_write : List Cond := Cond.code y_Mo_write b_Mo_write 4 (some .boolean) :: GW
def w_Mo_wrongBit : List Cond := Cond.code y_Mo_wrongBit b_Mo_wrongBit 3 (some .int) :: GW
def w_In_compare : List Cond := Cond.code y_In_compare b_In_compare 2 (some .int) :: GW
def w_In_compareUnsigned : List Cond := Cond.code y_In_compareUnsigned b_In_compareUnsigned 2 (some .int) :: GW
def w_Lg_bitCount : List Cond := Cond.code y_Lg_bitCount b_Lg_bitCount 2 (some .int) :: GW
def w_Ar_fill : List Cond := Cond.code y_Ar_fill b_Ar_fill 5 none :: GW
end
section
set_option maxRecDepth 100000 in
theorem m_0 : (Cond.selects R_Me y_Me_keep y_Me_keep) ∈ GW := gw_in (List.mem_of_getElem? (i := 0) (by decide +kernel)) rfl
set_option maxRecDepth 100000 in
theorem m_1 : (Cond.selects R_Ca y_Ca_dropAll y_Ca_dropAll) ∈ GW := gw_in (List.mem_of_getElem? (i := 1) (by decide +kernel)) rfl
set_option maxRecDepth 100000 in
theorem m_2 : (Cond.selects R_Re y_Re_put y_Re_put) ∈ GW := gw_in (List.mem_of_getElem? (i := 2) (by decide +kernel)) rfl
set_option maxRecDepth 100000 in
theorem m_3 : (Cond.selects R_Re y_Re_agreed y_Re_agreed) ∈ GW := gw_in (List.mem_of_getElem? (i := 3) (by decide +kernel)) rfl
set_option maxRecDepth 100000 in
theorem m_4 : (Cond.selects R_Me y_Me_inspect y_Me_inspect) ∈ GW := gw_in (List.mem_of_getElem? (i := 4) (by decide +kernel)) rfl
set_option maxRecDepth 100000 in
theorem m_5 : (Cond.selects R_V y_V_invert y_V_invert) ∈ GW := gw_in (List.mem_of_getElem? (i := 5) (by decide +kernel)) rfl
set_option maxRecDepth 100000 in
theorem m_6 : (Cond.selects R_Fa y_Fa_append y_Fa_append) ∈ GW := gw_in (List.mem_of_getElem? (i := 6) (by decide +kernel)) rfl
set_option maxRecDepth 100000 in
theorem m_7 : (Cond.selects R_V y_V_makePlannedFaults y_V_makePlannedFaults) ∈ GW := gw_in (List.mem_of_getElem? (i := 7) (by decide +kernel)) rfl
set_option maxRecDepth 100000 in
theorem m_8 : (Cond.selects R_Fa y_Fa_move y_Fa_move) ∈ GW := gw_in (List.mem_of_getElem? (i := 8) (by decide +kernel)) rfl
set_option maxRecDepth 100000 in
theorem m_9 : (Cond.selects R_Re y_Re_vote y_Re_vote) ∈ GW := gw_in (List.mem_of_getElem? (i := 9) (by decide +kernel)) rfl
set_option maxRecDepth 100000 in
theorem m_10 : (Cond.selects R_V y_V_doInstruction y_V_doInstruction) ∈ GW := gw_in (List.mem_of_getElem? (i := 10) (by decide +kernel)) rfl
set_option maxRecDepth 100000 in
theorem m_11 : (Cond.selects R_V y_V_stop y_V_stop) ∈ GW := gw_in (List.mem_of_getElem? (i := 11) (by decide +kernel)) rfl
set_option maxRecDepth 100000 in
theorem m_12 : (Cond.selects R_V y_V_fetch y_V_fetch) ∈ GW := gw_in (List.mem_of_getElem? (i := 12) (by decide +kernel)) rfl
set_option maxRecDepth 100000 in
theorem m_13 : (Cond.selects R_Ca y_Ca_dropIfWrong y_Ca_dropIfWrong) ∈ GW := gw_in (List.mem_of_getElem? (i := 13) (by decide +kernel)) rfl
set_option maxRecDepth 100000 in
theorem m_14 : (Cond.selects R_Ca y_Ca_holds y_Ca_holds) ∈ GW := gw_in (List.mem_of_getElem? (i := 14) (by decide +kernel)) rfl
set_option maxRecDepth 100000 in
theorem m_15 : (Cond.selects R_Ca y_Ca_held y_Ca_held) ∈ GW := gw_in (List.mem_of_getElem? (i := 15) (by decide +kernel)) rfl
set_option maxRecDepth 100000 in
theorem m_16 : (Cond.selects R_Me y_Me_mend y_Me_mend) ∈ GW := gw_in (List.mem_of_getElem? (i := 16) (by decide +kernel)) rfl
set_option maxRecDepth 100000 in
theorem m_17 : (Cond.selects R_Ca y_Ca_fill y_Ca_fill) ∈ GW := gw_in (List.mem_of_getElem? (i := 17) (by decide +kernel)) rfl
set_option maxRecDepth 100000 in
theorem m_18 : (Cond.selects R_V y_V_finish y_V_finish) ∈ GW := gw_in (List.mem_of_getElem? (i := 18) (by decide +kernel)) rfl
set_option maxRecDepth 100000 in
theorem m_19 : (Cond.selects R_Re y_Re_putResult y_Re_putResult) ∈ GW := gw_in (List.mem_of_getElem? (i := 19) (by decide +kernel)) rfl
set_option maxRecDepth 100000 in
theorem m_20 : (Cond.selects R_V y_V_goOn y_V_goOn) ∈ GW := gw_in (List.mem_of_getElem? (i := 20) (by decide +kernel)) rfl
set_option maxRecDepth 100000 in
theorem m_21 : (Cond.selects R_V y_V_jump y_V_jump) ∈ GW := gw_in (List.mem_of_getElem? (i := 21) (by decide +kernel)) rfl
set_option maxRecDepth 100000 in
theorem m_22 : (Cond.selects R_V y_V_jumpByRegister y_V_jumpByRegister) ∈ GW := gw_in (List.mem_of_getElem? (i := 22) (by decide +kernel)) rfl
set_option maxRecDepth 100000 in
theorem m_23 : (Cond.selects R_Re y_Re_operand y_Re_operand) ∈ GW := gw_in (List.mem_of_getElem? (i := 23) (by decide +kernel)) rfl
set_option maxRecDepth 100000 in
theorem m_24 : (Cond.selects R_V y_V_branch y_V_branch) ∈ GW := gw_in (List.mem_of_getElem? (i := 24) (by decide +kernel)) rfl
set_option maxRecDepth 100000 in
theorem m_25 : (Cond.selects R_V y_V_load y_V_load) ∈ GW := gw_in (List.mem_of_getElem? (i := 25) (by decide +kernel)) rfl
set_option maxRecDepth 100000 in
theorem m_26 : (Cond.selects R_V y_V_store y_V_store) ∈ GW := gw_in (List.mem_of_getElem? (i := 26) (by decide +kernel)) rfl
set_option maxRecDepth 100000 in
theorem m_27 : (Cond.selects R_V y_V_save y_V_save) ∈ GW := gw_in (List.mem_of_getElem? (i := 27) (by decide +kernel)) rfl
set_option maxRecDepth 100000 in
theorem m_28 : (Cond.selects R_Ca y_Ca_drop y_Ca_drop) ∈ GW := gw_in (List.mem_of_getElem? (i := 28) (by decide +kernel)) rfl
set_option maxRecDepth 100000 in
theorem m_29 : (Cond.selects R_V y_V_computeWithNumber y_V_computeWithNumber) ∈ GW := gw_in (List.mem_of_getElem? (i := 29) (by decide +kernel)) rfl
set_option maxRecDepth 100000 in
theorem m_30 : (Cond.selects R_V y_V_computeWithRegister y_V_computeWithRegister) ∈ GW := gw_in (List.mem_of_getElem? (i := 30) (by decide +kernel)) rfl
set_option maxRecDepth 100000 in
theorem m_31 : (Cond.selects R_V y_V_doNothing y_V_doNothing) ∈ GW := gw_in (List.mem_of_getElem? (i := 31) (by decide +kernel)) rfl
set_option maxRecDepth 100000 in
theorem m_32 : (Cond.selects R_V y_V_callOrBreak y_V_callOrBreak) ∈ GW := gw_in (List.mem_of_getElem? (i := 32) (by decide +kernel)) rfl
set_option maxRecDepth 100000 in
theorem m_33 : (Cond.selects R_V y_V_scrub y_V_scrub) ∈ GW := gw_in (List.mem_of_getElem? (i := 33) (by decide +kernel)) rfl
set_option maxRecDepth 100000 in
theorem m_34 : (Cond.selects R_Mo y_Mo_makeFaults y_Mo_makeFaults) ∈ GW := gw_in (List.mem_of_getElem? (i := 34) (by decide +kernel)) rfl
set_option maxRecDepth 100000 in
theorem m_35 : (Cond.selects R_Mo y_Mo_change y_Mo_change) ∈ GW := gw_in (List.mem_of_getElem? (i := 35) (by decide +kernel)) rfl
set_option maxRecDepth 100000 in
theorem m_36 : (Cond.selects R_Mo y_Mo_vote y_Mo_vote) ∈ GW := gw_in (List.mem_of_getElem? (i := 36) (by decide +kernel)) rfl
set_option maxRecDepth 100000 in
theorem m_37 : (Cond.selects R_Mo y_Mo_valueOf y_Mo_valueOf) ∈ GW := gw_in (List.mem_of_getElem? (i := 37) (by decide +kernel)) rfl
set_option maxRecDepth 100000 in
theorem m_38 : (Cond.selects R_Mo y_Mo_put y_Mo_put) ∈ GW := gw_in (List.mem_of_getElem? (i := 38) (by decide +kernel)) rfl
set_option maxRecDepth 100000 in
theorem m_39 : (Cond.selects R_Mo y_Mo_instruct y_Mo_instruct) ∈ GW := gw_in (List.mem_of_getElem? (i := 39) (by decide +kernel)) rfl
set_option maxRecDepth 100000 in
theorem m_40 : (Cond.selects R_Mo y_Mo_stop y_Mo_stop) ∈ GW := gw_in (List.mem_of_getElem? (i := 40) (by decide +kernel)) rfl
set_option maxRecDepth 100000 in
theorem m_41 : (Cond.selects R_Mo y_Mo_fetch y_Mo_fetch) ∈ GW := gw_in (List.mem_of_getElem? (i := 41) (by decide +kernel)) rfl
set_option maxRecDepth 100000 in
theorem m_42 : (Cond.selects R_Mo y_Mo_holds y_Mo_holds) ∈ GW := gw_in (List.mem_of_getElem? (i := 42) (by decide +kernel)) rfl
set_option maxRecDepth 100000 in
theorem m_43 : (Cond.selects R_Mo y_Mo_mend y_Mo_mend) ∈ GW := gw_in (List.mem_of_getElem? (i := 43) (by decide +kernel)) rfl
set_option maxRecDepth 100000 in
theorem m_44 : (Cond.selects R_Mo y_Mo_execute y_Mo_execute) ∈ GW := gw_in (List.mem_of_getElem? (i := 44) (by decide +kernel)) rfl
set_option maxRecDepth 100000 in
theorem m_45 : (Cond.selects R_Mo y_Mo_field y_Mo_field) ∈ GW := gw_in (List.mem_of_getElem? (i := 45) (by decide +kernel)) rfl
set_option maxRecDepth 100000 in
theorem m_46 : (Cond.selects R_Mo y_Mo_operand y_Mo_operand) ∈ GW := gw_in (List.mem_of_getElem? (i := 46) (by decide +kernel)) rfl
set_option maxRecDepth 100000 in
theorem m_47 : (Cond.selects R_Mo y_Mo_give y_Mo_give) ∈ GW := gw_in (List.mem_of_getElem? (i := 47) (by decide +kernel)) rfl
set_option maxRecDepth 100000 in
theorem m_48 : (Cond.selects R_Mo y_Mo_numberL y_Mo_numberL) ∈ GW := gw_in (List.mem_of_getElem? (i := 48) (by decide +kernel)) rfl
set_option maxRecDepth 100000 in
theorem m_49 : (Cond.selects R_Mo y_Mo_go y_Mo_go) ∈ GW := gw_in (List.mem_of_getElem? (i := 49) (by decide +kernel)) rfl
set_option maxRecDepth 100000 in
theorem m_50 : (Cond.selects R_Mo y_Mo_jump y_Mo_jump) ∈ GW := gw_in (List.mem_of_getElem? (i := 50) (by decide +kernel)) rfl
set_option maxRecDepth 100000 in
theorem m_51 : (Cond.selects R_Mo y_Mo_illegal y_Mo_illegal) ∈ GW := gw_in (List.mem_of_getElem? (i := 51) (by decide +kernel)) rfl
set_option maxRecDepth 100000 in
theorem m_52 : (Cond.selects R_Mo y_Mo_branch y_Mo_branch) ∈ GW := gw_in (List.mem_of_getElem? (i := 52) (by decide +kernel)) rfl
set_option maxRecDepth 100000 in
theorem m_53 : (Cond.selects R_Mo y_Mo_numberK y_Mo_numberK) ∈ GW := gw_in (List.mem_of_getElem? (i := 53) (by decide +kernel)) rfl
set_option maxRecDepth 100000 in
theorem m_54 : (Cond.selects R_Mo y_Mo_load y_Mo_load) ∈ GW := gw_in (List.mem_of_getElem? (i := 54) (by decide +kernel)) rfl
set_option maxRecDepth 100000 in
theorem m_55 : (Cond.selects R_Mo y_Mo_reaches y_Mo_reaches) ∈ GW := gw_in (List.mem_of_getElem? (i := 55) (by decide +kernel)) rfl
set_option maxRecDepth 100000 in
theorem m_56 : (Cond.selects R_Mo y_Mo_numberJ y_Mo_numberJ) ∈ GW := gw_in (List.mem_of_getElem? (i := 56) (by decide +kernel)) rfl
set_option maxRecDepth 100000 in
theorem m_57 : (Cond.selects R_Mo y_Mo_store y_Mo_store) ∈ GW := gw_in (List.mem_of_getElem? (i := 57) (by decide +kernel)) rfl
set_option maxRecDepth 100000 in
theorem m_58 : (Cond.selects R_Mo y_Mo_save y_Mo_save) ∈ GW := gw_in (List.mem_of_getElem? (i := 58) (by decide +kernel)) rfl
set_option maxRecDepth 100000 in
theorem m_59 : (Cond.selects R_Mo y_Mo_keep y_Mo_keep) ∈ GW := gw_in (List.mem_of_getElem? (i := 59) (by decide +kernel)) rfl
set_option maxRecDepth 100000 in
theorem m_60 : (Cond.selects R_Mo y_Mo_reckon y_Mo_reckon) ∈ GW := gw_in (List.mem_of_getElem? (i := 60) (by decide +kernel)) rfl
set_option maxRecDepth 100000 in
theorem m_61 : (Cond.selects R_Mo y_Mo_reckoned y_Mo_reckoned) ∈ GW := gw_in (List.mem_of_getElem? (i := 61) (by decide +kernel)) rfl
set_option maxRecDepth 100000 in
theorem m_62 : (Cond.selects R_Mo y_Mo_rest y_Mo_rest) ∈ GW := gw_in (List.mem_of_getElem? (i := 62) (by decide +kernel)) rfl
set_option maxRecDepth 100000 in
theorem m_63 : (Cond.selects R_Mo y_Mo_scrub y_Mo_scrub) ∈ GW := gw_in (List.mem_of_getElem? (i := 63) (by decide +kernel)) rfl
set_option maxRecDepth 100000 in
theorem m_65 : (Cond.initialized R_V) ∈ GW := gw_in (List.mem_of_getElem? (i := 65) (by decide +kernel)) rfl
set_option maxRecDepth 100000 in
theorem m_66 : (Cond.initialized R_Me) ∈ GW := gw_in (List.mem_of_getElem? (i := 66) (by decide +kernel)) rfl
set_option maxRecDepth 100000 in
theorem m_67 : (Cond.initialized R_Ca) ∈ GW := gw_in (List.mem_of_getElem? (i := 67) (by decide +kernel)) rfl
set_option maxRecDepth 100000 in
theorem m_68 : (Cond.initialized R_Re) ∈ GW := gw_in (List.mem_of_getElem? (i := 68) (by decide +kernel)) rfl
set_option maxRecDepth 100000 in
theorem m_69 : (Cond.initialized R_Fa) ∈ GW := gw_in (List.mem_of_getElem? (i := 69) (by decide +kernel)) rfl
set_option maxRecDepth 100000 in
theorem m_71 : (Cond.initialized R_Mo) ∈ GW := gw_in (List.mem_of_getElem? (i := 71) (by decide +kernel)) rfl
set_option maxRecDepth 100000 in
theorem m_72 : (Cond.initialized R_Lg) ∈ GW := gw_in (List.mem_of_getElem? (i := 72) (by decide +kernel)) rfl
set_option maxRecDepth 100000 in
theorem m_73 : (Cond.initialized R_Ar) ∈ GW := gw_in (List.mem_of_getElem? (i := 73) (by decide +kernel)) rfl
set_option maxRecDepth 100000 in
theorem m_74 : (Cond.initialized R_Co) ∈ GW := gw_in (List.mem_of_getElem? (i := 74) (by decide +kernel)) rfl
set_option maxRecDepth 100000 in
theorem m_75 : (Cond.initialized R_In) ∈ GW := gw_in (List.mem_of_getElem? (i := 75) (by decide +kernel)) rfl
set_option maxRecDepth 100000 in
theorem m_90 : (Cond.fieldLink R_Me 9 R_Me "kept" "[J") ∈ GW := gw_in (List.mem_of_getElem? (i := 90) (by decide +kernel)) rfl
set_option maxRecDepth 100000 in
theorem m_91 : (Cond.fieldLinkNest R_V 80 R_Me "kept" "[J" R_V) ∈ nestW := nest_in (List.mem_of_getElem? (i := 91) (by decide +kernel)) rfl
set_option maxRecDepth 100000 in
theorem m_92 : (Cond.fieldLink R_Me 40 R_Me "corrected" "I") ∈ GW := gw_in (List.mem_of_getElem? (i := 92) (by decide +kernel)) rfl
set_option maxRecDepth 100000 in
theorem m_93 : (Cond.fieldLinkNest R_V 131 R_Me "corrected" "I" R_V) ∈ nestW := nest_in (List.mem_of_getElem? (i := 93) (by decide +kernel)) rfl
set_option maxRecDepth 100000 in
theorem m_106 : (Cond.fieldLink R_Ca 9 R_Ca "lines" "[J") ∈ GW := gw_in (List.mem_of_getElem? (i := 106) (by decide +kernel)) rfl
set_option maxRecDepth 100000 in
theorem m_107 : (Cond.fieldLinkNest R_V 90 R_Ca "lines" "[J" R_V) ∈ nestW := nest_in (List.mem_of_getElem? (i := 107) (by decide +kernel)) rfl
set_option maxRecDepth 100000 in
theorem m_108 : (Cond.fieldLink R_Ca 27 R_Ca "refetched" "I") ∈ GW := gw_in (List.mem_of_getElem? (i := 108) (by decide +kernel)) rfl
set_option maxRecDepth 100000 in
theorem m_109 : (Cond.fieldLinkNest R_V 140 R_Ca "refetched" "I" R_V) ∈ nestW := nest_in (List.mem_of_getElem? (i := 109) (by decide +kernel)) rfl
set_option maxRecDepth 100000 in
theorem m_121 : (Cond.fieldLink R_Re 9 R_Re "copies" "[I") ∈ GW := gw_in (List.mem_of_getElem? (i := 121) (by decide +kernel)) rfl
set_option maxRecDepth 100000 in
theorem m_122 : (Cond.fieldLinkNest R_V 84 R_Re "copies" "[I" R_V) ∈ nestW := nest_in (List.mem_of_getElem? (i := 122) (by decide +kernel)) rfl
set_option maxRecDepth 100000 in
theorem m_123 : (Cond.fieldLink R_Re 23 R_Re "voted" "I") ∈ GW := gw_in (List.mem_of_getElem? (i := 123) (by decide +kernel)) rfl
set_option maxRecDepth 100000 in
theorem m_124 : (Cond.fieldLinkNest R_V 137 R_Re "voted" "I" R_V) ∈ nestW := nest_in (List.mem_of_getElem? (i := 124) (by decide +kernel)) rfl
set_option maxRecDepth 100000 in
theorem m_137 : (Cond.fieldLink R_Fa 9 R_Fa "cycle" "[I") ∈ GW := gw_in (List.mem_of_getElem? (i := 137) (by decide +kernel)) rfl
set_option maxRecDepth 100000 in
theorem m_138 : (Cond.fieldLinkNest R_V 146 R_Fa "cycle" "[I" R_V) ∈ nestW := nest_in (List.mem_of_getElem? (i := 138) (by decide +kernel)) rfl
set_option maxRecDepth 100000 in
theorem m_139 : (Cond.fieldLink R_Fa 15 R_Fa "part" "[I") ∈ GW := gw_in (List.mem_of_getElem? (i := 139) (by decide +kernel)) rfl
set_option maxRecDepth 100000 in
theorem m_140 : (Cond.fieldLinkNest R_V 149 R_Fa "part" "[I" R_V) ∈ nestW := nest_in (List.mem_of_getElem? (i := 140) (by decide +kernel)) rfl
set_option maxRecDepth 100000 in
theorem m_141 : (Cond.fieldLink R_Fa 18 R_Fa "bit" "[I") ∈ GW := gw_in (List.mem_of_getElem? (i := 141) (by decide +kernel)) rfl
set_option maxRecDepth 100000 in
theorem m_142 : (Cond.fieldLinkNest R_V 152 R_Fa "bit" "[I" R_V) ∈ nestW := nest_in (List.mem_of_getElem? (i := 142) (by decide +kernel)) rfl
set_option maxRecDepth 100000 in
theorem m_143 : (Cond.fieldLink R_Fa 21 R_Fa "size" "I") ∈ GW := gw_in (List.mem_of_getElem? (i := 143) (by decide +kernel)) rfl
set_option maxRecDepth 100000 in
theorem m_144 : (Cond.fieldLinkNest R_V 100 R_Fa "size" "I" R_V) ∈ nestW := nest_in (List.mem_of_getElem? (i := 144) (by decide +kernel)) rfl
set_option maxRecDepth 100000 in
theorem m_160 : (Cond.fieldLink R_V 49 R_V "every" "I") ∈ GW := gw_in (List.mem_of_getElem? (i := 160) (by decide +kernel)) rfl
set_option maxRecDepth 100000 in
theorem m_161 : (Cond.fieldLink R_V 12 R_V "memory" "LVotedCore$Memory;") ∈ GW := gw_in (List.mem_of_getElem? (i := 161) (by decide +kernel)) rfl
set_option maxRecDepth 100000 in
theorem m_162 : (Cond.fieldLink R_V 19 R_V "codeCache" "LVotedCore$Cache;") ∈ GW := gw_in (List.mem_of_getElem? (i := 162) (by decide +kernel)) rfl
set_option maxRecDepth 100000 in
theorem m_163 : (Cond.fieldLink R_V 23 R_V "dataCache" "LVotedCore$Cache;") ∈ GW := gw_in (List.mem_of_getElem? (i := 163) (by decide +kernel)) rfl
set_option maxRecDepth 100000 in
theorem m_164 : (Cond.fieldLink R_V 29 R_V "registers" "LVotedCore$Registers;") ∈ GW := gw_in (List.mem_of_getElem? (i := 164) (by decide +kernel)) rfl
set_option maxRecDepth 100000 in
theorem m_165 : (Cond.fieldLink R_V 36 R_V "faults" "LVotedCore$Faults;") ∈ GW := gw_in (List.mem_of_getElem? (i := 165) (by decide +kernel)) rfl
set_option maxRecDepth 100000 in
theorem m_166 : (Cond.fieldLink R_V 103 R_V "cyclesDone" "I") ∈ GW := gw_in (List.mem_of_getElem? (i := 166) (by decide +kernel)) rfl
set_option maxRecDepth 100000 in
theorem m_167 : (Cond.fieldLink R_V 143 R_V "scrubPlace" "I") ∈ GW := gw_in (List.mem_of_getElem? (i := 167) (by decide +kernel)) rfl
set_option maxRecDepth 100000 in
theorem m_168 : (Cond.fieldLink R_V 134 R_V "detected" "I") ∈ GW := gw_in (List.mem_of_getElem? (i := 168) (by decide +kernel)) rfl
set_option maxRecDepth 100000 in
theorem m_169 : (Cond.fieldLink R_V 110 R_V "stopCause" "I") ∈ GW := gw_in (List.mem_of_getElem? (i := 169) (by decide +kernel)) rfl
set_option maxRecDepth 100000 in
theorem m_170 : (Cond.fieldLink R_V 125 R_V "stopValue" "I") ∈ GW := gw_in (List.mem_of_getElem? (i := 170) (by decide +kernel)) rfl
set_option maxRecDepth 100000 in
theorem m_198 : (Cond.methodLink R_V 53 y_V_isWord) ∈ GW := gw_in (List.mem_of_getElem? (i := 198) (by decide +kernel)) rfl
set_option maxRecDepth 100000 in
theorem m_199 : (Cond.static y_V_isWord) ∈ GW := gw_in (List.mem_of_getElem? (i := 199) (by decide +kernel)) rfl
set_option maxRecDepth 100000 in
theorem m_200 : (Cond.code y_V_isWord prog_1_method_16_code 1 (some .boolean)) ∈ GW := gw_in (List.mem_of_getElem? (i := 200) rfl) rfl
set_option maxRecDepth 100000 in
theorem m_201 : (Cond.methodLinkNest R_V 57 y_Me_keep R_V) ∈ nestW := nest_in (List.mem_of_getElem? (i := 201) (by decide +kernel)) rfl
set_option maxRecDepth 100000 in
theorem m_203 : (Cond.instanceMethod y_Me_keep) ∈ GW := gw_in (List.mem_of_getElem? (i := 203) (by decide +kernel)) rfl
set_option maxRecDepth 100000 in
theorem m_204 : (Cond.code y_Me_keep prog_5_method_2_code 7 none) ∈ GW := gw_in (List.mem_of_getElem? (i := 204) rfl) rfl
set_option maxRecDepth 100000 in
theorem m_205 : (Cond.methodLink R_Me 15 y_Me_spread) ∈ GW := gw_in (List.mem_of_getElem? (i := 205) (by decide +kernel)) rfl
set_option maxRecDepth 100000 in
theorem m_206 : (Cond.static y_Me_spread) ∈ GW := gw_in (List.mem_of_getElem? (i := 206) (by decide +kernel)) rfl
set_option maxRecDepth 100000 in
theorem m_207 : (Cond.code y_Me_spread prog_5_method_7_code 1 (some .long)) ∈ GW := gw_in (List.mem_of_getElem? (i := 207) rfl) rfl
set_option maxRecDepth 100000 in
theorem m_208 : (Cond.constantLong R_Me 44 14) ∈ GW := gw_in (List.mem_of_getElem? (i := 208) (by decide +kernel)) rfl
set_option maxRecDepth 100000 in
theorem m_209 : (Cond.constantLong R_Me 46 2032) ∈ GW := gw_in (List.mem_of_getElem? (i := 209) (by decide +kernel)) rfl
set_option maxRecDepth 100000 in
theorem m_210 : (Cond.constantLong R_Me 48 67106816) ∈ GW := gw_in (List.mem_of_getElem? (i := 210) (by decide +kernel)) rfl
set_option maxRecDepth 100000 in
theorem m_211 : (Cond.constantLong R_Me 50 4227858432) ∈ GW := gw_in (List.mem_of_getElem? (i := 211) (by decide +kernel)) rfl
set_option maxRecDepth 100000 in
theorem m_212 : (Cond.methodLink R_Me 19 y_Me_xorOfNumbers) ∈ GW := gw_in (List.mem_of_getElem? (i := 212) (by decide +kernel)) rfl
set_option maxRecDepth 100000 in
theorem m_213 : (Cond.static y_Me_xorOfNumbers) ∈ GW := gw_in (List.mem_of_getElem? (i := 213) (by decide +kernel)) rfl
set_option maxRecDepth 100000 in
theorem m_214 : (Cond.code y_Me_xorOfNumbers prog_5_method_6_code 4 (some .int)) ∈ GW := gw_in (List.mem_of_getElem? (i := 214) rfl) rfl
set_option maxRecDepth 100000 in
theorem m_215 : (Cond.fieldLink R_Me 23 R_Me "NUMBERED" "[J") ∈ GW := gw_in (List.mem_of_getElem? (i := 215) (by decide +kernel)) rfl
set_option maxRecDepth 100000 in
theorem m_217 : (Cond.methodLink R_Me 26 y_Lg_bitCount) ∈ GW := gw_in (List.mem_of_getElem? (i := 217) (by decide +kernel)) rfl
set_option maxRecDepth 100000 in
theorem m_218 : (Cond.static y_Lg_bitCount) ∈ GW := gw_in (List.mem_of_getElem? (i := 218) (by decide +kernel)) rfl
set_option maxRecDepth 100000 in
theorem m_219 : (Cond.code y_Lg_bitCount prog_10_method_50_code 2 (some .int)) ∈ GW := gw_in (List.mem_of_getElem? (i := 219) rfl) rfl
set_option maxRecDepth 100000 in
theorem m_220 : (Cond.constantLong R_Lg 314 6148914691236517205) ∈ GW := gw_in (List.mem_of_getElem? (i := 220) (by decide +kernel)) rfl
set_option maxRecDepth 100000 in
theorem m_221 : (Cond.constantLong R_Lg 316 3689348814741910323) ∈ GW := gw_in (List.mem_of_getElem? (i := 221) (by decide +kernel)) rfl
set_option maxRecDepth 100000 in
theorem m_222 : (Cond.constantLong R_Lg 318 1085102592571150095) ∈ GW := gw_in (List.mem_of_getElem? (i := 222) (by decide +kernel)) rfl
set_option maxRecDepth 100000 in
theorem m_223 : (Cond.methodLinkNest R_V 61 y_Ca_dropAll R_V) ∈ nestW := nest_in (List.mem_of_getElem? (i := 223) (by decide +kernel)) rfl
set_option maxRecDepth 100000 in
theorem m_225 : (Cond.instanceMethod y_Ca_dropAll) ∈ GW := gw_in (List.mem_of_getElem? (i := 225) (by decide +kernel)) rfl
set_option maxRecDepth 100000 in
theorem m_226 : (Cond.code y_Ca_dropAll prog_2_method_2_code 1 none) ∈ GW := gw_in (List.mem_of_getElem? (i := 226) rfl) rfl
set_option maxRecDepth 100000 in
theorem m_227 : (Cond.methodLink R_Ca 15 y_Ar_fill) ∈ GW := gw_in (List.mem_of_getElem? (i := 227) (by decide +kernel)) rfl
set_option maxRecDepth 100000 in
theorem m_228 : (Cond.static y_Ar_fill) ∈ GW := gw_in (List.mem_of_getElem? (i := 228) (by decide +kernel)) rfl
set_option maxRecDepth 100000 in
theorem m_229 : (Cond.code y_Ar_fill prog_12_method_101_code 5 none) ∈ GW := gw_in (List.mem_of_getElem? (i := 229) rfl) rfl
set_option maxRecDepth 100000 in
theorem m_234 : (Cond.methodLink R_V 64 y_V_isRegister) ∈ GW := gw_in (List.mem_of_getElem? (i := 234) (by decide +kernel)) rfl
set_option maxRecDepth 100000 in
theorem m_235 : (Cond.static y_V_isRegister) ∈ GW := gw_in (List.mem_of_getElem? (i := 235) (by decide +kernel)) rfl
set_option maxRecDepth 100000 in
theorem m_236 : (Cond.code y_V_isRegister prog_1_method_17_code 1 (some .boolean)) ∈ GW := gw_in (List.mem_of_getElem? (i := 236) rfl) rfl
set_option maxRecDepth 100000 in
theorem m_237 : (Cond.methodLinkNest R_V 67 y_Re_put R_V) ∈ nestW := nest_in (List.mem_of_getElem? (i := 237) (by decide +kernel)) rfl
set_option maxRecDepth 100000 in
theorem m_239 : (Cond.instanceMethod y_Re_put) ∈ GW := gw_in (List.mem_of_getElem? (i := 239) (by decide +kernel)) rfl
set_option maxRecDepth 100000 in
theorem m_240 : (Cond.code y_Re_put prog_6_method_3_code 3 none) ∈ GW := gw_in (List.mem_of_getElem? (i := 240) rfl) rfl
set_option maxRecDepth 100000 in
theorem m_245 : (Cond.methodLinkNest R_V 70 y_Re_agreed R_V) ∈ nestW := nest_in (List.mem_of_getElem? (i := 245) (by decide +kernel)) rfl
set_option maxRecDepth 100000 in
theorem m_247 : (Cond.instanceMethod y_Re_agreed) ∈ GW := gw_in (List.mem_of_getElem? (i := 247) (by decide +kernel)) rfl
set_option maxRecDepth 100000 in
theorem m_248 : (Cond.code y_Re_agreed prog_6_method_2_code 5 (some .int)) ∈ GW := gw_in (List.mem_of_getElem? (i := 248) rfl) rfl
set_option maxRecDepth 100000 in
theorem m_253 : (Cond.methodLinkNest R_V 74 y_Me_inspect R_V) ∈ nestW := nest_in (List.mem_of_getElem? (i := 253) (by decide +kernel)) rfl
set_option maxRecDepth 100000 in
theorem m_255 : (Cond.instanceMethod y_Me_inspect) ∈ GW := gw_in (List.mem_of_getElem? (i := 255) (by decide +kernel)) rfl
set_option maxRecDepth 100000 in
theorem m_256 : (Cond.code y_Me_inspect prog_5_method_3_code 4 (some .long)) ∈ GW := gw_in (List.mem_of_getElem? (i := 256) rfl) rfl
set_option maxRecDepth 100000 in
theorem m_257 : (Cond.methodLink R_Me 31 y_Me_putRight) ∈ GW := gw_in (List.mem_of_getElem? (i := 257) (by decide +kernel)) rfl
set_option maxRecDepth 100000 in
theorem m_258 : (Cond.static y_Me_putRight) ∈ GW := gw_in (List.mem_of_getElem? (i := 258) (by decide +kernel)) rfl
set_option maxRecDepth 100000 in
theorem m_259 : (Cond.code y_Me_putRight prog_5_method_5_code 4 (some .long)) ∈ GW := gw_in (List.mem_of_getElem? (i := 259) rfl) rfl
set_option maxRecDepth 100000 in
theorem m_260 : (Cond.constantLong R_Me 35 (-2)) ∈ GW := gw_in (List.mem_of_getElem? (i := 260) (by decide +kernel)) rfl
set_option maxRecDepth 100000 in
theorem m_261 : (Cond.methodLink R_Me 37 y_Me_gathered) ∈ GW := gw_in (List.mem_of_getElem? (i := 261) (by decide +kernel)) rfl
set_option maxRecDepth 100000 in
theorem m_262 : (Cond.static y_Me_gathered) ∈ GW := gw_in (List.mem_of_getElem? (i := 262) (by decide +kernel)) rfl
set_option maxRecDepth 100000 in
theorem m_263 : (Cond.code y_Me_gathered prog_5_method_8_code 2 (some .long)) ∈ GW := gw_in (List.mem_of_getElem? (i := 263) rfl) rfl
set_option maxRecDepth 100000 in
theorem m_264 : (Cond.constantLong R_V 78 (-1)) ∈ GW := gw_in (List.mem_of_getElem? (i := 264) (by decide +kernel)) rfl
set_option maxRecDepth 100000 in
theorem m_269 : (Cond.constantLong R_V 88 4294967295) ∈ GW := gw_in (List.mem_of_getElem? (i := 269) (by decide +kernel)) rfl
set_option maxRecDepth 100000 in
theorem m_274 : (Cond.methodLink R_V 93 y_V_isBit) ∈ GW := gw_in (List.mem_of_getElem? (i := 274) (by decide +kernel)) rfl
set_option maxRecDepth 100000 in
theorem m_275 : (Cond.static y_V_isBit) ∈ GW := gw_in (List.mem_of_getElem? (i := 275) (by decide +kernel)) rfl
set_option maxRecDepth 100000 in
theorem m_276 : (Cond.code y_V_isBit prog_1_method_18_code 2 (some .boolean)) ∈ GW := gw_in (List.mem_of_getElem? (i := 276) rfl) rfl
set_option maxRecDepth 100000 in
theorem m_277 : (Cond.methodLink R_V 97 y_V_invert) ∈ GW := gw_in (List.mem_of_getElem? (i := 277) (by decide +kernel)) rfl
set_option maxRecDepth 100000 in
theorem m_279 : (Cond.instanceMethod y_V_invert) ∈ GW := gw_in (List.mem_of_getElem? (i := 279) (by decide +kernel)) rfl
set_option maxRecDepth 100000 in
theorem m_280 : (Cond.code y_V_invert prog_1_method_20_code 3 none) ∈ GW := gw_in (List.mem_of_getElem? (i := 280) rfl) rfl
set_option maxRecDepth 100000 in
theorem m_285 : (Cond.methodLinkNest R_V 106 y_Fa_append R_V) ∈ nestW := nest_in (List.mem_of_getElem? (i := 285) (by decide +kernel)) rfl
set_option maxRecDepth 100000 in
theorem m_287 : (Cond.instanceMethod y_Fa_append) ∈ GW := gw_in (List.mem_of_getElem? (i := 287) (by decide +kernel)) rfl
set_option maxRecDepth 100000 in
theorem m_288 : (Cond.code y_Fa_append prog_4_method_2_code 4 none) ∈ GW := gw_in (List.mem_of_getElem? (i := 288) rfl) rfl
set_option maxRecDepth 100000 in
theorem m_297 : (Cond.methodLink R_V 113 y_V_makePlannedFaults) ∈ GW := gw_in (List.mem_of_getElem? (i := 297) (by decide +kernel)) rfl
set_option maxRecDepth 100000 in
theorem m_299 : (Cond.instanceMethod y_V_makePlannedFaults) ∈ GW := gw_in (List.mem_of_getElem? (i := 299) (by decide +kernel)) rfl
set_option maxRecDepth 100000 in
theorem m_300 : (Cond.code y_V_makePlannedFaults prog_1_method_21_code 3 none) ∈ GW := gw_in (List.mem_of_getElem? (i := 300) rfl) rfl
set_option maxRecDepth 100000 in
theorem m_301 : (Cond.methodLinkNest R_V 155 y_Fa_move R_V) ∈ nestW := nest_in (List.mem_of_getElem? (i := 301) (by decide +kernel)) rfl
set_option maxRecDepth 100000 in
theorem m_303 : (Cond.instanceMethod y_Fa_move) ∈ GW := gw_in (List.mem_of_getElem? (i := 303) (by decide +kernel)) rfl
set_option maxRecDepth 100000 in
theorem m_304 : (Cond.code y_Fa_move prog_4_method_3_code 3 none) ∈ GW := gw_in (List.mem_of_getElem? (i := 304) rfl) rfl
set_option maxRecDepth 100000 in
theorem m_305 : (Cond.methodLinkNest R_V 116 y_Re_vote R_V) ∈ nestW := nest_in (List.mem_of_getElem? (i := 305) (by decide +kernel)) rfl
set_option maxRecDepth 100000 in
theorem m_307 : (Cond.instanceMethod y_Re_vote) ∈ GW := gw_in (List.mem_of_getElem? (i := 307) (by decide +kernel)) rfl
set_option maxRecDepth 100000 in
theorem m_308 : (Cond.code y_Re_vote prog_6_method_6_code 3 none) ∈ GW := gw_in (List.mem_of_getElem? (i := 308) rfl) rfl
set_option maxRecDepth 100000 in
theorem m_309 : (Cond.methodLink R_Re 15 y_Re_agreed) ∈ GW := gw_in (List.mem_of_getElem? (i := 309) (by decide +kernel)) rfl
set_option maxRecDepth 100000 in
theorem m_310 : (Cond.methodLink R_Re 19 y_Re_put) ∈ GW := gw_in (List.mem_of_getElem? (i := 310) (by decide +kernel)) rfl
set_option maxRecDepth 100000 in
theorem m_311 : (Cond.methodLink R_V 119 y_V_doInstruction) ∈ GW := gw_in (List.mem_of_getElem? (i := 311) (by decide +kernel)) rfl
set_option maxRecDepth 100000 in
theorem m_313 : (Cond.instanceMethod y_V_doInstruction) ∈ GW := gw_in (List.mem_of_getElem? (i := 313) (by decide +kernel)) rfl
set_option maxRecDepth 100000 in
theorem m_314 : (Cond.code y_V_doInstruction prog_1_method_26_code 5 none) ∈ GW := gw_in (List.mem_of_getElem? (i := 314) rfl) rfl
set_option maxRecDepth 100000 in
theorem m_315 : (Cond.methodLink R_V 179 y_V_isAddress) ∈ GW := gw_in (List.mem_of_getElem? (i := 315) (by decide +kernel)) rfl
set_option maxRecDepth 100000 in
theorem m_316 : (Cond.static y_V_isAddress) ∈ GW := gw_in (List.mem_of_getElem? (i := 316) (by decide +kernel)) rfl
set_option maxRecDepth 100000 in
theorem m_317 : (Cond.code y_V_isAddress prog_1_method_19_code 2 (some .boolean)) ∈ GW := gw_in (List.mem_of_getElem? (i := 317) rfl) rfl
set_option maxRecDepth 100000 in
theorem m_318 : (Cond.methodLink R_V 128 y_V_stop) ∈ GW := gw_in (List.mem_of_getElem? (i := 318) (by decide +kernel)) rfl
set_option maxRecDepth 100000 in
theorem m_320 : (Cond.instanceMethod y_V_stop) ∈ GW := gw_in (List.mem_of_getElem? (i := 320) (by decide +kernel)) rfl
set_option maxRecDepth 100000 in
theorem m_321 : (Cond.code y_V_stop prog_1_method_23_code 3 none) ∈ GW := gw_in (List.mem_of_getElem? (i := 321) rfl) rfl
set_option maxRecDepth 100000 in
theorem m_322 : (Cond.methodLink R_V 182 y_V_fetch) ∈ GW := gw_in (List.mem_of_getElem? (i := 322) (by decide +kernel)) rfl
set_option maxRecDepth 100000 in
theorem m_324 : (Cond.instanceMethod y_V_fetch) ∈ GW := gw_in (List.mem_of_getElem? (i := 324) (by decide +kernel)) rfl
set_option maxRecDepth 100000 in
theorem m_325 : (Cond.code y_V_fetch prog_1_method_24_code 5 (some .long)) ∈ GW := gw_in (List.mem_of_getElem? (i := 325) rfl) rfl
set_option maxRecDepth 100000 in
theorem m_326 : (Cond.methodLinkNest R_V 163 y_Ca_dropIfWrong R_V) ∈ nestW := nest_in (List.mem_of_getElem? (i := 326) (by decide +kernel)) rfl
set_option maxRecDepth 100000 in
theorem m_328 : (Cond.instanceMethod y_Ca_dropIfWrong) ∈ GW := gw_in (List.mem_of_getElem? (i := 328) (by decide +kernel)) rfl
set_option maxRecDepth 100000 in
theorem m_329 : (Cond.code y_Ca_dropIfWrong prog_2_method_4_code 2 none) ∈ GW := gw_in (List.mem_of_getElem? (i := 329) rfl) rfl
set_option maxRecDepth 100000 in
theorem m_330 : (Cond.methodLink R_Ca 21 y_Lg_bitCount) ∈ GW := gw_in (List.mem_of_getElem? (i := 330) (by decide +kernel)) rfl
set_option maxRecDepth 100000 in
theorem m_331 : (Cond.methodLinkNest R_V 167 y_Ca_holds R_V) ∈ nestW := nest_in (List.mem_of_getElem? (i := 331) (by decide +kernel)) rfl
set_option maxRecDepth 100000 in
theorem m_333 : (Cond.instanceMethod y_Ca_holds) ∈ GW := gw_in (List.mem_of_getElem? (i := 333) (by decide +kernel)) rfl
set_option maxRecDepth 100000 in
theorem m_334 : (Cond.code y_Ca_holds prog_2_method_5_code 2 (some .boolean)) ∈ GW := gw_in (List.mem_of_getElem? (i := 334) rfl) rfl
set_option maxRecDepth 100000 in
theorem m_335 : (Cond.constantLong R_Ca 31 31) ∈ GW := gw_in (List.mem_of_getElem? (i := 335) (by decide +kernel)) rfl
set_option maxRecDepth 100000 in
theorem m_336 : (Cond.methodLinkNest R_V 170 y_Ca_held R_V) ∈ nestW := nest_in (List.mem_of_getElem? (i := 336) (by decide +kernel)) rfl
set_option maxRecDepth 100000 in
theorem m_338 : (Cond.instanceMethod y_Ca_held) ∈ GW := gw_in (List.mem_of_getElem? (i := 338) (by decide +kernel)) rfl
set_option maxRecDepth 100000 in
theorem m_339 : (Cond.code y_Ca_held prog_2_method_6_code 2 (some .long)) ∈ GW := gw_in (List.mem_of_getElem? (i := 339) rfl) rfl
set_option maxRecDepth 100000 in
theorem m_340 : (Cond.constantLong R_Ca 33 4294967295) ∈ GW := gw_in (List.mem_of_getElem? (i := 340) (by decide +kernel)) rfl
set_option maxRecDepth 100000 in
theorem m_341 : (Cond.methodLinkNest R_V 158 y_Me_mend R_V) ∈ nestW := nest_in (List.mem_of_getElem? (i := 341) (by decide +kernel)) rfl
set_option maxRecDepth 100000 in
theorem m_343 : (Cond.instanceMethod y_Me_mend) ∈ GW := gw_in (List.mem_of_getElem? (i := 343) (by decide +kernel)) rfl
set_option maxRecDepth 100000 in
theorem m_344 : (Cond.code y_Me_mend prog_5_method_4_code 4 (some .long)) ∈ GW := gw_in (List.mem_of_getElem? (i := 344) rfl) rfl
set_option maxRecDepth 100000 in
theorem m_345 : (Cond.constantLong R_V 161 (-2)) ∈ GW := gw_in (List.mem_of_getElem? (i := 345) (by decide +kernel)) rfl
set_option maxRecDepth 100000 in
theorem m_346 : (Cond.methodLinkNest R_V 173 y_Ca_fill R_V) ∈ nestW := nest_in (List.mem_of_getElem? (i := 346) (by decide +kernel)) rfl
set_option maxRecDepth 100000 in
theorem m_348 : (Cond.instanceMethod y_Ca_fill) ∈ GW := gw_in (List.mem_of_getElem? (i := 348) (by decide +kernel)) rfl
set_option maxRecDepth 100000 in
theorem m_349 : (Cond.code y_Ca_fill prog_2_method_7_code 5 none) ∈ GW := gw_in (List.mem_of_getElem? (i := 349) rfl) rfl
set_option maxRecDepth 100000 in
theorem m_350 : (Cond.methodLinkNest R_V 186 y_Co_op R_V) ∈ nestW := nest_in (List.mem_of_getElem? (i := 350) (by decide +kernel)) rfl
set_option maxRecDepth 100000 in
theorem m_351 : (Cond.static y_Co_op) ∈ GW := gw_in (List.mem_of_getElem? (i := 351) (by decide +kernel)) rfl
set_option maxRecDepth 100000 in
theorem m_352 : (Cond.code y_Co_op prog_3_method_2_code 1 (some .int)) ∈ GW := gw_in (List.mem_of_getElem? (i := 352) rfl) rfl
set_option maxRecDepth 100000 in
theorem m_353 : (Cond.methodLinkNest R_V 191 y_Co_d R_V) ∈ nestW := nest_in (List.mem_of_getElem? (i := 353) (by decide +kernel)) rfl
set_option maxRecDepth 100000 in
theorem m_354 : (Cond.static y_Co_d) ∈ GW := gw_in (List.mem_of_getElem? (i := 354) (by decide +kernel)) rfl
set_option maxRecDepth 100000 in
theorem m_355 : (Cond.code y_Co_d prog_3_method_3_code 1 (some .int)) ∈ GW := gw_in (List.mem_of_getElem? (i := 355) rfl) rfl
set_option maxRecDepth 100000 in
theorem m_356 : (Cond.methodLinkNest R_V 194 y_Co_u R_V) ∈ nestW := nest_in (List.mem_of_getElem? (i := 356) (by decide +kernel)) rfl
set_option maxRecDepth 100000 in
theorem m_357 : (Cond.static y_Co_u) ∈ GW := gw_in (List.mem_of_getElem? (i := 357) (by decide +kernel)) rfl
set_option maxRecDepth 100000 in
theorem m_358 : (Cond.code y_Co_u prog_3_method_11_code 1 (some .int)) ∈ GW := gw_in (List.mem_of_getElem? (i := 358) rfl) rfl
set_option maxRecDepth 100000 in
theorem m_359 : (Cond.methodLink R_V 197 y_V_finish) ∈ GW := gw_in (List.mem_of_getElem? (i := 359) (by decide +kernel)) rfl
set_option maxRecDepth 100000 in
theorem m_361 : (Cond.instanceMethod y_V_finish) ∈ GW := gw_in (List.mem_of_getElem? (i := 361) (by decide +kernel)) rfl
set_option maxRecDepth 100000 in
theorem m_362 : (Cond.code y_V_finish prog_1_method_27_code 4 none) ∈ GW := gw_in (List.mem_of_getElem? (i := 362) rfl) rfl
set_option maxRecDepth 100000 in
theorem m_363 : (Cond.methodLinkNest R_V 230 y_Re_putResult R_V) ∈ nestW := nest_in (List.mem_of_getElem? (i := 363) (by decide +kernel)) rfl
set_option maxRecDepth 100000 in
theorem m_365 : (Cond.instanceMethod y_Re_putResult) ∈ GW := gw_in (List.mem_of_getElem? (i := 365) (by decide +kernel)) rfl
set_option maxRecDepth 100000 in
theorem m_366 : (Cond.code y_Re_putResult prog_6_method_5_code 3 none) ∈ GW := gw_in (List.mem_of_getElem? (i := 366) rfl) rfl
set_option maxRecDepth 100000 in
theorem m_367 : (Cond.methodLink R_V 233 y_V_goOn) ∈ GW := gw_in (List.mem_of_getElem? (i := 367) (by decide +kernel)) rfl
set_option maxRecDepth 100000 in
theorem m_369 : (Cond.instanceMethod y_V_goOn) ∈ GW := gw_in (List.mem_of_getElem? (i := 369) (by decide +kernel)) rfl
set_option maxRecDepth 100000 in
theorem m_370 : (Cond.code y_V_goOn prog_1_method_28_code 2 none) ∈ GW := gw_in (List.mem_of_getElem? (i := 370) rfl) rfl
set_option maxRecDepth 100000 in
theorem m_371 : (Cond.methodLinkNest R_V 200 y_Co_l R_V) ∈ nestW := nest_in (List.mem_of_getElem? (i := 371) (by decide +kernel)) rfl
set_option maxRecDepth 100000 in
theorem m_372 : (Cond.static y_Co_l) ∈ GW := gw_in (List.mem_of_getElem? (i := 372) (by decide +kernel)) rfl
set_option maxRecDepth 100000 in
theorem m_373 : (Cond.code y_Co_l prog_3_method_12_code 1 (some .int)) ∈ GW := gw_in (List.mem_of_getElem? (i := 373) rfl) rfl
set_option maxRecDepth 100000 in
theorem m_374 : (Cond.constant R_Co 13 1044480) ∈ GW := gw_in (List.mem_of_getElem? (i := 374) (by decide +kernel)) rfl
set_option maxRecDepth 100000 in
theorem m_375 : (Cond.methodLink R_V 203 y_V_jump) ∈ GW := gw_in (List.mem_of_getElem? (i := 375) (by decide +kernel)) rfl
set_option maxRecDepth 100000 in
theorem m_377 : (Cond.instanceMethod y_V_jump) ∈ GW := gw_in (List.mem_of_getElem? (i := 377) (by decide +kernel)) rfl
set_option maxRecDepth 100000 in
theorem m_378 : (Cond.code y_V_jump prog_1_method_29_code 4 none) ∈ GW := gw_in (List.mem_of_getElem? (i := 378) rfl) rfl
set_option maxRecDepth 100000 in
theorem m_379 : (Cond.methodLink R_V 206 y_V_jumpByRegister) ∈ GW := gw_in (List.mem_of_getElem? (i := 379) (by decide +kernel)) rfl
set_option maxRecDepth 100000 in
theorem m_381 : (Cond.instanceMethod y_V_jumpByRegister) ∈ GW := gw_in (List.mem_of_getElem? (i := 381) (by decide +kernel)) rfl
set_option maxRecDepth 100000 in
theorem m_382 : (Cond.code y_V_jumpByRegister prog_1_method_30_code 4 none) ∈ GW := gw_in (List.mem_of_getElem? (i := 382) rfl) rfl
set_option maxRecDepth 100000 in
theorem m_383 : (Cond.methodLinkNest R_V 236 y_Co_f R_V) ∈ nestW := nest_in (List.mem_of_getElem? (i := 383) (by decide +kernel)) rfl
set_option maxRecDepth 100000 in
theorem m_384 : (Cond.static y_Co_f) ∈ GW := gw_in (List.mem_of_getElem? (i := 384) (by decide +kernel)) rfl
set_option maxRecDepth 100000 in
theorem m_385 : (Cond.code y_Co_f prog_3_method_4_code 1 (some .int)) ∈ GW := gw_in (List.mem_of_getElem? (i := 385) rfl) rfl
set_option maxRecDepth 100000 in
theorem m_386 : (Cond.methodLinkNest R_V 239 y_Co_s R_V) ∈ nestW := nest_in (List.mem_of_getElem? (i := 386) (by decide +kernel)) rfl
set_option maxRecDepth 100000 in
theorem m_387 : (Cond.static y_Co_s) ∈ GW := gw_in (List.mem_of_getElem? (i := 387) (by decide +kernel)) rfl
set_option maxRecDepth 100000 in
theorem m_388 : (Cond.code y_Co_s prog_3_method_5_code 1 (some .int)) ∈ GW := gw_in (List.mem_of_getElem? (i := 388) rfl) rfl
set_option maxRecDepth 100000 in
theorem m_389 : (Cond.methodLinkNest R_V 242 y_Re_operand R_V) ∈ nestW := nest_in (List.mem_of_getElem? (i := 389) (by decide +kernel)) rfl
set_option maxRecDepth 100000 in
theorem m_391 : (Cond.instanceMethod y_Re_operand) ∈ GW := gw_in (List.mem_of_getElem? (i := 391) (by decide +kernel)) rfl
set_option maxRecDepth 100000 in
theorem m_392 : (Cond.code y_Re_operand prog_6_method_4_code 2 (some .int)) ∈ GW := gw_in (List.mem_of_getElem? (i := 392) rfl) rfl
set_option maxRecDepth 100000 in
theorem m_393 : (Cond.methodLinkNest R_V 245 y_Co_i R_V) ∈ nestW := nest_in (List.mem_of_getElem? (i := 393) (by decide +kernel)) rfl
set_option maxRecDepth 100000 in
theorem m_394 : (Cond.static y_Co_i) ∈ GW := gw_in (List.mem_of_getElem? (i := 394) (by decide +kernel)) rfl
set_option maxRecDepth 100000 in
theorem m_395 : (Cond.code y_Co_i prog_3_method_8_code 1 (some .int)) ∈ GW := gw_in (List.mem_of_getElem? (i := 395) rfl) rfl
set_option maxRecDepth 100000 in
theorem m_396 : (Cond.methodLink R_V 209 y_V_branch) ∈ GW := gw_in (List.mem_of_getElem? (i := 396) (by decide +kernel)) rfl
set_option maxRecDepth 100000 in
theorem m_398 : (Cond.instanceMethod y_V_branch) ∈ GW := gw_in (List.mem_of_getElem? (i := 398) (by decide +kernel)) rfl
set_option maxRecDepth 100000 in
theorem m_399 : (Cond.code y_V_branch prog_1_method_31_code 6 none) ∈ GW := gw_in (List.mem_of_getElem? (i := 399) rfl) rfl
set_option maxRecDepth 100000 in
theorem m_400 : (Cond.methodLinkNest R_V 248 y_Co_t R_V) ∈ nestW := nest_in (List.mem_of_getElem? (i := 400) (by decide +kernel)) rfl
set_option maxRecDepth 100000 in
theorem m_401 : (Cond.static y_Co_t) ∈ GW := gw_in (List.mem_of_getElem? (i := 401) (by decide +kernel)) rfl
set_option maxRecDepth 100000 in
theorem m_402 : (Cond.code y_Co_t prog_3_method_6_code 1 (some .int)) ∈ GW := gw_in (List.mem_of_getElem? (i := 402) rfl) rfl
set_option maxRecDepth 100000 in
theorem m_403 : (Cond.methodLinkNest R_V 251 y_Co_isTaken R_V) ∈ nestW := nest_in (List.mem_of_getElem? (i := 403) (by decide +kernel)) rfl
set_option maxRecDepth 100000 in
theorem m_404 : (Cond.static y_Co_isTaken) ∈ GW := gw_in (List.mem_of_getElem? (i := 404) (by decide +kernel)) rfl
set_option maxRecDepth 100000 in
theorem m_405 : (Cond.code y_Co_isTaken prog_3_method_16_code 3 (some .boolean)) ∈ GW := gw_in (List.mem_of_getElem? (i := 405) rfl) rfl
set_option maxRecDepth 100000 in
theorem m_406 : (Cond.methodLink R_Co 15 y_In_compareUnsigned) ∈ GW := gw_in (List.mem_of_getElem? (i := 406) (by decide +kernel)) rfl
set_option maxRecDepth 100000 in
theorem m_407 : (Cond.static y_In_compareUnsigned) ∈ GW := gw_in (List.mem_of_getElem? (i := 407) (by decide +kernel)) rfl
set_option maxRecDepth 100000 in
theorem m_408 : (Cond.code y_In_compareUnsigned prog_9_method_41_code 2 (some .int)) ∈ GW := gw_in (List.mem_of_getElem? (i := 408) rfl) rfl
set_option maxRecDepth 100000 in
theorem m_409 : (Cond.constant R_In 127 (-2147483648)) ∈ GW := gw_in (List.mem_of_getElem? (i := 409) (by decide +kernel)) rfl
set_option maxRecDepth 100000 in
theorem m_410 : (Cond.methodLink R_In 259 y_In_compare) ∈ GW := gw_in (List.mem_of_getElem? (i := 410) (by decide +kernel)) rfl
set_option maxRecDepth 100000 in
theorem m_411 : (Cond.static y_In_compare) ∈ GW := gw_in (List.mem_of_getElem? (i := 411) (by decide +kernel)) rfl
set_option maxRecDepth 100000 in
theorem m_412 : (Cond.code y_In_compare prog_9_method_40_code 2 (some .int)) ∈ GW := gw_in (List.mem_of_getElem? (i := 412) rfl) rfl
set_option maxRecDepth 100000 in
theorem m_413 : (Cond.methodLinkNest R_V 255 y_Co_k R_V) ∈ nestW := nest_in (List.mem_of_getElem? (i := 413) (by decide +kernel)) rfl
set_option maxRecDepth 100000 in
theorem m_414 : (Cond.static y_Co_k) ∈ GW := gw_in (List.mem_of_getElem? (i := 414) (by decide +kernel)) rfl
set_option maxRecDepth 100000 in
theorem m_415 : (Cond.code y_Co_k prog_3_method_10_code 1 (some .int)) ∈ GW := gw_in (List.mem_of_getElem? (i := 415) rfl) rfl
set_option maxRecDepth 100000 in
theorem m_416 : (Cond.methodLink R_V 212 y_V_load) ∈ GW := gw_in (List.mem_of_getElem? (i := 416) (by decide +kernel)) rfl
set_option maxRecDepth 100000 in
theorem m_418 : (Cond.instanceMethod y_V_load) ∈ GW := gw_in (List.mem_of_getElem? (i := 418) (by decide +kernel)) rfl
set_option maxRecDepth 100000 in
theorem m_419 : (Cond.code y_V_load prog_1_method_32_code 7 none) ∈ GW := gw_in (List.mem_of_getElem? (i := 419) rfl) rfl
set_option maxRecDepth 100000 in
theorem m_420 : (Cond.methodLinkNest R_V 258 y_Co_size R_V) ∈ nestW := nest_in (List.mem_of_getElem? (i := 420) (by decide +kernel)) rfl
set_option maxRecDepth 100000 in
theorem m_421 : (Cond.static y_Co_size) ∈ GW := gw_in (List.mem_of_getElem? (i := 421) (by decide +kernel)) rfl
set_option maxRecDepth 100000 in
theorem m_422 : (Cond.code y_Co_size prog_3_method_13_code 1 (some .int)) ∈ GW := gw_in (List.mem_of_getElem? (i := 422) rfl) rfl
set_option maxRecDepth 100000 in
theorem m_423 : (Cond.methodLinkNest R_V 260 y_Co_shiftOf R_V) ∈ nestW := nest_in (List.mem_of_getElem? (i := 423) (by decide +kernel)) rfl
set_option maxRecDepth 100000 in
theorem m_424 : (Cond.static y_Co_shiftOf) ∈ GW := gw_in (List.mem_of_getElem? (i := 424) (by decide +kernel)) rfl
set_option maxRecDepth 100000 in
theorem m_425 : (Cond.code y_Co_shiftOf prog_3_method_14_code 1 (some .int)) ∈ GW := gw_in (List.mem_of_getElem? (i := 425) rfl) rfl
set_option maxRecDepth 100000 in
theorem m_426 : (Cond.methodLinkNest R_V 263 y_Co_loaded R_V) ∈ nestW := nest_in (List.mem_of_getElem? (i := 426) (by decide +kernel)) rfl
set_option maxRecDepth 100000 in
theorem m_427 : (Cond.static y_Co_loaded) ∈ GW := gw_in (List.mem_of_getElem? (i := 427) (by decide +kernel)) rfl
set_option maxRecDepth 100000 in
theorem m_428 : (Cond.code y_Co_loaded prog_3_method_15_code 2 (some .int)) ∈ GW := gw_in (List.mem_of_getElem? (i := 428) rfl) rfl
set_option maxRecDepth 100000 in
theorem m_429 : (Cond.constant R_Co 14 65535) ∈ GW := gw_in (List.mem_of_getElem? (i := 429) (by decide +kernel)) rfl
set_option maxRecDepth 100000 in
theorem m_430 : (Cond.methodLink R_V 215 y_V_store) ∈ GW := gw_in (List.mem_of_getElem? (i := 430) (by decide +kernel)) rfl
set_option maxRecDepth 100000 in
theorem m_432 : (Cond.instanceMethod y_V_store) ∈ GW := gw_in (List.mem_of_getElem? (i := 432) (by decide +kernel)) rfl
set_option maxRecDepth 100000 in
theorem m_433 : (Cond.code y_V_store prog_1_method_33_code 10 none) ∈ GW := gw_in (List.mem_of_getElem? (i := 433) rfl) rfl
set_option maxRecDepth 100000 in
theorem m_434 : (Cond.methodLinkNest R_V 266 y_Co_j R_V) ∈ nestW := nest_in (List.mem_of_getElem? (i := 434) (by decide +kernel)) rfl
set_option maxRecDepth 100000 in
theorem m_435 : (Cond.static y_Co_j) ∈ GW := gw_in (List.mem_of_getElem? (i := 435) (by decide +kernel)) rfl
set_option maxRecDepth 100000 in
theorem m_436 : (Cond.code y_Co_j prog_3_method_9_code 1 (some .int)) ∈ GW := gw_in (List.mem_of_getElem? (i := 436) rfl) rfl
set_option maxRecDepth 100000 in
theorem m_437 : (Cond.methodLink R_Co 7 y_Co_d) ∈ GW := gw_in (List.mem_of_getElem? (i := 437) (by decide +kernel)) rfl
set_option maxRecDepth 100000 in
theorem m_438 : (Cond.methodLink R_V 269 y_V_save) ∈ GW := gw_in (List.mem_of_getElem? (i := 438) (by decide +kernel)) rfl
set_option maxRecDepth 100000 in
theorem m_440 : (Cond.instanceMethod y_V_save) ∈ GW := gw_in (List.mem_of_getElem? (i := 440) (by decide +kernel)) rfl
set_option maxRecDepth 100000 in
theorem m_441 : (Cond.code y_V_save prog_1_method_25_code 3 none) ∈ GW := gw_in (List.mem_of_getElem? (i := 441) rfl) rfl
set_option maxRecDepth 100000 in
theorem m_442 : (Cond.methodLinkNest R_V 176 y_Ca_drop R_V) ∈ nestW := nest_in (List.mem_of_getElem? (i := 442) (by decide +kernel)) rfl
set_option maxRecDepth 100000 in
theorem m_444 : (Cond.instanceMethod y_Ca_drop) ∈ GW := gw_in (List.mem_of_getElem? (i := 444) (by decide +kernel)) rfl
set_option maxRecDepth 100000 in
theorem m_445 : (Cond.code y_Ca_drop prog_2_method_3_code 2 none) ∈ GW := gw_in (List.mem_of_getElem? (i := 445) rfl) rfl
set_option maxRecDepth 100000 in
theorem m_446 : (Cond.constant R_V 272 65535) ∈ GW := gw_in (List.mem_of_getElem? (i := 446) (by decide +kernel)) rfl
set_option maxRecDepth 100000 in
theorem m_447 : (Cond.methodLink R_V 218 y_V_computeWithNumber) ∈ GW := gw_in (List.mem_of_getElem? (i := 447) (by decide +kernel)) rfl
set_option maxRecDepth 100000 in
theorem m_449 : (Cond.instanceMethod y_V_computeWithNumber) ∈ GW := gw_in (List.mem_of_getElem? (i := 449) (by decide +kernel)) rfl
set_option maxRecDepth 100000 in
theorem m_450 : (Cond.code y_V_computeWithNumber prog_1_method_34_code 8 none) ∈ GW := gw_in (List.mem_of_getElem? (i := 450) rfl) rfl
set_option maxRecDepth 100000 in
theorem m_451 : (Cond.methodLinkNest R_V 273 y_Co_g R_V) ∈ nestW := nest_in (List.mem_of_getElem? (i := 451) (by decide +kernel)) rfl
set_option maxRecDepth 100000 in
theorem m_452 : (Cond.static y_Co_g) ∈ GW := gw_in (List.mem_of_getElem? (i := 452) (by decide +kernel)) rfl
set_option maxRecDepth 100000 in
theorem m_453 : (Cond.code y_Co_g prog_3_method_7_code 1 (some .int)) ∈ GW := gw_in (List.mem_of_getElem? (i := 453) rfl) rfl
set_option maxRecDepth 100000 in
theorem m_454 : (Cond.methodLinkNest R_V 276 y_Co_computed R_V) ∈ nestW := nest_in (List.mem_of_getElem? (i := 454) (by decide +kernel)) rfl
set_option maxRecDepth 100000 in
theorem m_455 : (Cond.static y_Co_computed) ∈ GW := gw_in (List.mem_of_getElem? (i := 455) (by decide +kernel)) rfl
set_option maxRecDepth 100000 in
theorem m_456 : (Cond.code y_Co_computed prog_3_method_17_code 4 (some .int)) ∈ GW := gw_in (List.mem_of_getElem? (i := 456) rfl) rfl
set_option maxRecDepth 100000 in
theorem m_457 : (Cond.methodLink R_V 221 y_V_computeWithRegister) ∈ GW := gw_in (List.mem_of_getElem? (i := 457) (by decide +kernel)) rfl
set_option maxRecDepth 100000 in
theorem m_459 : (Cond.instanceMethod y_V_computeWithRegister) ∈ GW := gw_in (List.mem_of_getElem? (i := 459) (by decide +kernel)) rfl
set_option maxRecDepth 100000 in
theorem m_460 : (Cond.code y_V_computeWithRegister prog_1_method_35_code 8 none) ∈ GW := gw_in (List.mem_of_getElem? (i := 460) rfl) rfl
set_option maxRecDepth 100000 in
theorem m_461 : (Cond.methodLink R_V 224 y_V_doNothing) ∈ GW := gw_in (List.mem_of_getElem? (i := 461) (by decide +kernel)) rfl
set_option maxRecDepth 100000 in
theorem m_463 : (Cond.instanceMethod y_V_doNothing) ∈ GW := gw_in (List.mem_of_getElem? (i := 463) (by decide +kernel)) rfl
set_option maxRecDepth 100000 in
theorem m_464 : (Cond.code y_V_doNothing prog_1_method_36_code 3 none) ∈ GW := gw_in (List.mem_of_getElem? (i := 464) rfl) rfl
set_option maxRecDepth 100000 in
theorem m_465 : (Cond.methodLink R_V 227 y_V_callOrBreak) ∈ GW := gw_in (List.mem_of_getElem? (i := 465) (by decide +kernel)) rfl
set_option maxRecDepth 100000 in
theorem m_467 : (Cond.instanceMethod y_V_callOrBreak) ∈ GW := gw_in (List.mem_of_getElem? (i := 467) (by decide +kernel)) rfl
set_option maxRecDepth 100000 in
theorem m_468 : (Cond.code y_V_callOrBreak prog_1_method_37_code 2 none) ∈ GW := gw_in (List.mem_of_getElem? (i := 468) rfl) rfl
set_option maxRecDepth 100000 in
theorem m_469 : (Cond.constant R_V 280 1048691) ∈ GW := gw_in (List.mem_of_getElem? (i := 469) (by decide +kernel)) rfl
set_option maxRecDepth 100000 in
theorem m_470 : (Cond.methodLink R_V 122 y_V_scrub) ∈ GW := gw_in (List.mem_of_getElem? (i := 470) (by decide +kernel)) rfl
set_option maxRecDepth 100000 in
theorem m_472 : (Cond.instanceMethod y_V_scrub) ∈ GW := gw_in (List.mem_of_getElem? (i := 472) (by decide +kernel)) rfl
set_option maxRecDepth 100000 in
theorem m_473 : (Cond.code y_V_scrub prog_1_method_22_code 1 none) ∈ GW := gw_in (List.mem_of_getElem? (i := 473) rfl) rfl
set_option maxRecDepth 100000 in
theorem m_503 : (Cond.fieldLink R_Mo 32 R_Mo "every" "I") ∈ GW := gw_in (List.mem_of_getElem? (i := 503) (by decide +kernel)) rfl
set_option maxRecDepth 100000 in
theorem m_504 : (Cond.fieldLink R_Mo 7 R_Mo "written" "[I") ∈ GW := gw_in (List.mem_of_getElem? (i := 504) (by decide +kernel)) rfl
set_option maxRecDepth 100000 in
theorem m_505 : (Cond.fieldLink R_Mo 13 R_Mo "wrong" "[J") ∈ GW := gw_in (List.mem_of_getElem? (i := 505) (by decide +kernel)) rfl
set_option maxRecDepth 100000 in
theorem m_506 : (Cond.fieldLink R_Mo 17 R_Mo "kept" "[I") ∈ GW := gw_in (List.mem_of_getElem? (i := 506) (by decide +kernel)) rfl
set_option maxRecDepth 100000 in
theorem m_507 : (Cond.fieldLink R_Mo 20 R_Mo "mask" "[I") ∈ GW := gw_in (List.mem_of_getElem? (i := 507) (by decide +kernel)) rfl
set_option maxRecDepth 100000 in
theorem m_508 : (Cond.fieldLink R_Mo 23 R_Mo "lines" "[J") ∈ GW := gw_in (List.mem_of_getElem? (i := 508) (by decide +kernel)) rfl
set_option maxRecDepth 100000 in
theorem m_509 : (Cond.fieldLink R_Mo 187 R_Mo "plans" "I") ∈ GW := gw_in (List.mem_of_getElem? (i := 509) (by decide +kernel)) rfl
set_option maxRecDepth 100000 in
theorem m_510 : (Cond.fieldLink R_Mo 26 R_Mo "plan" "[I") ∈ GW := gw_in (List.mem_of_getElem? (i := 510) (by decide +kernel)) rfl
set_option maxRecDepth 100000 in
theorem m_511 : (Cond.fieldLink R_Mo 190 R_Mo "cycles" "I") ∈ GW := gw_in (List.mem_of_getElem? (i := 511) (by decide +kernel)) rfl
set_option maxRecDepth 100000 in
theorem m_512 : (Cond.fieldLink R_Mo 94 R_Mo "cause" "I") ∈ GW := gw_in (List.mem_of_getElem? (i := 512) (by decide +kernel)) rfl
set_option maxRecDepth 100000 in
theorem m_513 : (Cond.fieldLink R_Mo 97 R_Mo "value" "I") ∈ GW := gw_in (List.mem_of_getElem? (i := 513) (by decide +kernel)) rfl
set_option maxRecDepth 100000 in
theorem m_514 : (Cond.fieldLink R_Mo 29 R_Mo "counts" "[I") ∈ GW := gw_in (List.mem_of_getElem? (i := 514) (by decide +kernel)) rfl
set_option maxRecDepth 100000 in
theorem m_515 : (Cond.fieldLink R_Mo 124 R_Mo "p" "I") ∈ GW := gw_in (List.mem_of_getElem? (i := 515) (by decide +kernel)) rfl
set_option maxRecDepth 100000 in
theorem m_516 : (Cond.fieldLink R_Mo 100 R_Mo "x" "I") ∈ GW := gw_in (List.mem_of_getElem? (i := 516) (by decide +kernel)) rfl
set_option maxRecDepth 100000 in
theorem m_517 : (Cond.fieldLink R_Mo 77 R_Mo "got" "I") ∈ GW := gw_in (List.mem_of_getElem? (i := 517) (by decide +kernel)) rfl
set_option maxRecDepth 100000 in
theorem m_518 : (Cond.fieldLink R_Mo 114 R_Mo "next" "I") ∈ GW := gw_in (List.mem_of_getElem? (i := 518) (by decide +kernel)) rfl
set_option maxRecDepth 100000 in
theorem m_519 : (Cond.fieldLink R_Mo 107 R_Mo "gives" "Z") ∈ GW := gw_in (List.mem_of_getElem? (i := 519) (by decide +kernel)) rfl
set_option maxRecDepth 100000 in
theorem m_520 : (Cond.fieldLink R_Mo 111 R_Mo "given" "I") ∈ GW := gw_in (List.mem_of_getElem? (i := 520) (by decide +kernel)) rfl
set_option maxRecDepth 100000 in
theorem m_562 : (Cond.methodLink R_Mo 135 y_Mo_outside) ∈ GW := gw_in (List.mem_of_getElem? (i := 562) (by decide +kernel)) rfl
set_option maxRecDepth 100000 in
theorem m_563 : (Cond.static y_Mo_outside) ∈ GW := gw_in (List.mem_of_getElem? (i := 563) (by decide +kernel)) rfl
set_option maxRecDepth 100000 in
theorem m_564 : (Cond.code y_Mo_outside prog_8_method_2_code 2 (some .boolean)) ∈ GW := gw_in (List.mem_of_getElem? (i := 564) rfl) rfl
set_option maxRecDepth 100000 in
theorem m_565 : (Cond.methodLink R_Mo 196 y_Mo_makeFaults) ∈ GW := gw_in (List.mem_of_getElem? (i := 565) (by decide +kernel)) rfl
set_option maxRecDepth 100000 in
theorem m_567 : (Cond.instanceMethod y_Mo_makeFaults) ∈ GW := gw_in (List.mem_of_getElem? (i := 567) (by decide +kernel)) rfl
set_option maxRecDepth 100000 in
theorem m_568 : (Cond.code y_Mo_makeFaults prog_8_method_40_code 4 none) ∈ GW := gw_in (List.mem_of_getElem? (i := 568) rfl) rfl
set_option maxRecDepth 100000 in
theorem m_569 : (Cond.methodLink R_Mo 193 y_Mo_change) ∈ GW := gw_in (List.mem_of_getElem? (i := 569) (by decide +kernel)) rfl
set_option maxRecDepth 100000 in
theorem m_571 : (Cond.instanceMethod y_Mo_change) ∈ GW := gw_in (List.mem_of_getElem? (i := 571) (by decide +kernel)) rfl
set_option maxRecDepth 100000 in
theorem m_572 : (Cond.code y_Mo_change prog_8_method_39_code 3 none) ∈ GW := gw_in (List.mem_of_getElem? (i := 572) rfl) rfl
set_option maxRecDepth 100000 in
theorem m_573 : (Cond.methodLink R_Mo 199 y_Mo_vote) ∈ GW := gw_in (List.mem_of_getElem? (i := 573) (by decide +kernel)) rfl
set_option maxRecDepth 100000 in
theorem m_575 : (Cond.instanceMethod y_Mo_vote) ∈ GW := gw_in (List.mem_of_getElem? (i := 575) (by decide +kernel)) rfl
set_option maxRecDepth 100000 in
theorem m_576 : (Cond.code y_Mo_vote prog_8_method_19_code 3 none) ∈ GW := gw_in (List.mem_of_getElem? (i := 576) rfl) rfl
set_option maxRecDepth 100000 in
theorem m_577 : (Cond.methodLink R_Mo 87 y_Mo_valueOf) ∈ GW := gw_in (List.mem_of_getElem? (i := 577) (by decide +kernel)) rfl
set_option maxRecDepth 100000 in
theorem m_579 : (Cond.instanceMethod y_Mo_valueOf) ∈ GW := gw_in (List.mem_of_getElem? (i := 579) (by decide +kernel)) rfl
set_option maxRecDepth 100000 in
theorem m_580 : (Cond.code y_Mo_valueOf prog_8_method_16_code 2 (some .int)) ∈ GW := gw_in (List.mem_of_getElem? (i := 580) rfl) rfl
set_option maxRecDepth 100000 in
theorem m_581 : (Cond.methodLink R_Mo 83 y_Mo_two) ∈ GW := gw_in (List.mem_of_getElem? (i := 581) (by decide +kernel)) rfl
set_option maxRecDepth 100000 in
theorem m_582 : (Cond.static y_Mo_two) ∈ GW := gw_in (List.mem_of_getElem? (i := 582) (by decide +kernel)) rfl
set_option maxRecDepth 100000 in
theorem m_583 : (Cond.code y_Mo_two prog_8_method_15_code 3 (some .int)) ∈ GW := gw_in (List.mem_of_getElem? (i := 583) rfl) rfl
set_option maxRecDepth 100000 in
theorem m_584 : (Cond.methodLink R_Mo 91 y_Mo_put) ∈ GW := gw_in (List.mem_of_getElem? (i := 584) (by decide +kernel)) rfl
set_option maxRecDepth 100000 in
theorem m_586 : (Cond.instanceMethod y_Mo_put) ∈ GW := gw_in (List.mem_of_getElem? (i := 586) (by decide +kernel)) rfl
set_option maxRecDepth 100000 in
theorem m_587 : (Cond.code y_Mo_put prog_8_method_18_code 4 none) ∈ GW := gw_in (List.mem_of_getElem? (i := 587) rfl) rfl
set_option maxRecDepth 100000 in
theorem m_588 : (Cond.methodLink R_Mo 202 y_Mo_instruct) ∈ GW := gw_in (List.mem_of_getElem? (i := 588) (by decide +kernel)) rfl
set_option maxRecDepth 100000 in
theorem m_590 : (Cond.instanceMethod y_Mo_instruct) ∈ GW := gw_in (List.mem_of_getElem? (i := 590) (by decide +kernel)) rfl
set_option maxRecDepth 100000 in
theorem m_591 : (Cond.code y_Mo_instruct prog_8_method_38_code 2 none) ∈ GW := gw_in (List.mem_of_getElem? (i := 591) rfl) rfl
set_option maxRecDepth 100000 in
theorem m_592 : (Cond.methodLink R_Mo 66 y_Mo_stop) ∈ GW := gw_in (List.mem_of_getElem? (i := 592) (by decide +kernel)) rfl
set_option maxRecDepth 100000 in
theorem m_594 : (Cond.instanceMethod y_Mo_stop) ∈ GW := gw_in (List.mem_of_getElem? (i := 594) (by decide +kernel)) rfl
set_option maxRecDepth 100000 in
theorem m_595 : (Cond.code y_Mo_stop prog_8_method_20_code 3 none) ∈ GW := gw_in (List.mem_of_getElem? (i := 595) rfl) rfl
set_option maxRecDepth 100000 in
theorem m_596 : (Cond.methodLink R_Mo 141 y_Mo_fetch) ∈ GW := gw_in (List.mem_of_getElem? (i := 596) (by decide +kernel)) rfl
set_option maxRecDepth 100000 in
theorem m_598 : (Cond.instanceMethod y_Mo_fetch) ∈ GW := gw_in (List.mem_of_getElem? (i := 598) (by decide +kernel)) rfl
set_option maxRecDepth 100000 in
theorem m_599 : (Cond.code y_Mo_fetch prog_8_method_13_code 4 (some .boolean)) ∈ GW := gw_in (List.mem_of_getElem? (i := 599) rfl) rfl
set_option maxRecDepth 100000 in
theorem m_600 : (Cond.methodLink R_Mo 59 y_Mo_holds) ∈ GW := gw_in (List.mem_of_getElem? (i := 600) (by decide +kernel)) rfl
set_option maxRecDepth 100000 in
theorem m_602 : (Cond.instanceMethod y_Mo_holds) ∈ GW := gw_in (List.mem_of_getElem? (i := 602) (by decide +kernel)) rfl
set_option maxRecDepth 100000 in
theorem m_603 : (Cond.code y_Mo_holds prog_8_method_12_code 4 (some .boolean)) ∈ GW := gw_in (List.mem_of_getElem? (i := 603) rfl) rfl
set_option maxRecDepth 100000 in
theorem m_604 : (Cond.methodLink R_Mo 44 y_Mo_isOdd) ∈ GW := gw_in (List.mem_of_getElem? (i := 604) (by decide +kernel)) rfl
set_option maxRecDepth 100000 in
theorem m_605 : (Cond.static y_Mo_isOdd) ∈ GW := gw_in (List.mem_of_getElem? (i := 605) (by decide +kernel)) rfl
set_option maxRecDepth 100000 in
theorem m_606 : (Cond.code y_Mo_isOdd prog_8_method_5_code 4 (some .boolean)) ∈ GW := gw_in (List.mem_of_getElem? (i := 606) rfl) rfl
set_option maxRecDepth 100000 in
theorem m_607 : (Cond.constantLong R_Mo 57 15) ∈ GW := gw_in (List.mem_of_getElem? (i := 607) (by decide +kernel)) rfl
set_option maxRecDepth 100000 in
theorem m_608 : (Cond.methodLink R_Mo 63 y_Mo_mend) ∈ GW := gw_in (List.mem_of_getElem? (i := 608) (by decide +kernel)) rfl
set_option maxRecDepth 100000 in
theorem m_610 : (Cond.instanceMethod y_Mo_mend) ∈ GW := gw_in (List.mem_of_getElem? (i := 610) (by decide +kernel)) rfl
set_option maxRecDepth 100000 in
theorem m_611 : (Cond.code y_Mo_mend prog_8_method_9_code 3 (some .boolean)) ∈ GW := gw_in (List.mem_of_getElem? (i := 611) rfl) rfl
set_option maxRecDepth 100000 in
theorem m_612 : (Cond.methodLink R_Mo 48 y_Mo_wrongBit) ∈ GW := gw_in (List.mem_of_getElem? (i := 612) (by decide +kernel)) rfl
set_option maxRecDepth 100000 in
theorem m_613 : (Cond.static y_Mo_wrongBit) ∈ GW := gw_in (List.mem_of_getElem? (i := 613) (by decide +kernel)) rfl
set_option maxRecDepth 100000 in
theorem m_614 : (Cond.code y_Mo_wrongBit prog_8_method_8_code 3 (some .int)) ∈ GW := gw_in (List.mem_of_getElem? (i := 614) rfl) rfl
set_option maxRecDepth 100000 in
theorem m_615 : (Cond.methodLink R_Mo 40 y_Mo_syndrome) ∈ GW := gw_in (List.mem_of_getElem? (i := 615) (by decide +kernel)) rfl
set_option maxRecDepth 100000 in
theorem m_616 : (Cond.static y_Mo_syndrome) ∈ GW := gw_in (List.mem_of_getElem? (i := 616) (by decide +kernel)) rfl
set_option maxRecDepth 100000 in
theorem m_617 : (Cond.code y_Mo_syndrome prog_8_method_4_code 4 (some .int)) ∈ GW := gw_in (List.mem_of_getElem? (i := 617) rfl) rfl
set_option maxRecDepth 100000 in
theorem m_618 : (Cond.methodLink R_Mo 70 y_Mo_dataOf) ∈ GW := gw_in (List.mem_of_getElem? (i := 618) (by decide +kernel)) rfl
set_option maxRecDepth 100000 in
theorem m_619 : (Cond.static y_Mo_dataOf) ∈ GW := gw_in (List.mem_of_getElem? (i := 619) (by decide +kernel)) rfl
set_option maxRecDepth 100000 in
theorem m_620 : (Cond.code y_Mo_dataOf prog_8_method_6_code 5 (some .int)) ∈ GW := gw_in (List.mem_of_getElem? (i := 620) rfl) rfl
set_option maxRecDepth 100000 in
theorem m_621 : (Cond.methodLink R_Mo 36 y_Mo_isData) ∈ GW := gw_in (List.mem_of_getElem? (i := 621) (by decide +kernel)) rfl
set_option maxRecDepth 100000 in
theorem m_622 : (Cond.static y_Mo_isData) ∈ GW := gw_in (List.mem_of_getElem? (i := 622) (by decide +kernel)) rfl
set_option maxRecDepth 100000 in
theorem m_623 : (Cond.code y_Mo_isData prog_8_method_3_code 1 (some .boolean)) ∈ GW := gw_in (List.mem_of_getElem? (i := 623) rfl) rfl
set_option maxRecDepth 100000 in
theorem m_624 : (Cond.methodLink R_Mo 73 y_Mo_line) ∈ GW := gw_in (List.mem_of_getElem? (i := 624) (by decide +kernel)) rfl
set_option maxRecDepth 100000 in
theorem m_625 : (Cond.static y_Mo_line) ∈ GW := gw_in (List.mem_of_getElem? (i := 625) (by decide +kernel)) rfl
set_option maxRecDepth 100000 in
theorem m_626 : (Cond.code y_Mo_line prog_8_method_11_code 4 (some .long)) ∈ GW := gw_in (List.mem_of_getElem? (i := 626) rfl) rfl
set_option maxRecDepth 100000 in
theorem m_627 : (Cond.constantLong R_Mo 51 4294967295) ∈ GW := gw_in (List.mem_of_getElem? (i := 627) (by decide +kernel)) rfl
set_option maxRecDepth 100000 in
theorem m_628 : (Cond.constantLong R_Mo 53 68719476736) ∈ GW := gw_in (List.mem_of_getElem? (i := 628) (by decide +kernel)) rfl
set_option maxRecDepth 100000 in
theorem m_629 : (Cond.constantLong R_Mo 55 137438953472) ∈ GW := gw_in (List.mem_of_getElem? (i := 629) (by decide +kernel)) rfl
set_option maxRecDepth 100000 in
theorem m_630 : (Cond.methodLink R_Mo 184 y_Mo_execute) ∈ GW := gw_in (List.mem_of_getElem? (i := 630) (by decide +kernel)) rfl
set_option maxRecDepth 100000 in
theorem m_632 : (Cond.instanceMethod y_Mo_execute) ∈ GW := gw_in (List.mem_of_getElem? (i := 632) (by decide +kernel)) rfl
set_option maxRecDepth 100000 in
theorem m_633 : (Cond.code y_Mo_execute prog_8_method_35_code 5 none) ∈ GW := gw_in (List.mem_of_getElem? (i := 633) rfl) rfl
set_option maxRecDepth 100000 in
theorem m_634 : (Cond.methodLink R_Mo 103 y_Mo_field) ∈ GW := gw_in (List.mem_of_getElem? (i := 634) (by decide +kernel)) rfl
set_option maxRecDepth 100000 in
theorem m_636 : (Cond.instanceMethod y_Mo_field) ∈ GW := gw_in (List.mem_of_getElem? (i := 636) (by decide +kernel)) rfl
set_option maxRecDepth 100000 in
theorem m_637 : (Cond.code y_Mo_field prog_8_method_21_code 3 (some .int)) ∈ GW := gw_in (List.mem_of_getElem? (i := 637) rfl) rfl
set_option maxRecDepth 100000 in
theorem m_638 : (Cond.methodLink R_Mo 154 y_Mo_operand) ∈ GW := gw_in (List.mem_of_getElem? (i := 638) (by decide +kernel)) rfl
set_option maxRecDepth 100000 in
theorem m_640 : (Cond.instanceMethod y_Mo_operand) ∈ GW := gw_in (List.mem_of_getElem? (i := 640) (by decide +kernel)) rfl
set_option maxRecDepth 100000 in
theorem m_641 : (Cond.code y_Mo_operand prog_8_method_17_code 2 (some .int)) ∈ GW := gw_in (List.mem_of_getElem? (i := 641) rfl) rfl
set_option maxRecDepth 100000 in
theorem m_642 : (Cond.methodLink R_Mo 144 y_Mo_give) ∈ GW := gw_in (List.mem_of_getElem? (i := 642) (by decide +kernel)) rfl
set_option maxRecDepth 100000 in
theorem m_644 : (Cond.instanceMethod y_Mo_give) ∈ GW := gw_in (List.mem_of_getElem? (i := 644) (by decide +kernel)) rfl
set_option maxRecDepth 100000 in
theorem m_645 : (Cond.code y_Mo_give prog_8_method_25_code 2 none) ∈ GW := gw_in (List.mem_of_getElem? (i := 645) rfl) rfl
set_option maxRecDepth 100000 in
theorem m_646 : (Cond.methodLink R_Mo 157 y_Mo_numberL) ∈ GW := gw_in (List.mem_of_getElem? (i := 646) (by decide +kernel)) rfl
set_option maxRecDepth 100000 in
theorem m_648 : (Cond.instanceMethod y_Mo_numberL) ∈ GW := gw_in (List.mem_of_getElem? (i := 648) (by decide +kernel)) rfl
set_option maxRecDepth 100000 in
theorem m_649 : (Cond.code y_Mo_numberL prog_8_method_24_code 1 (some .int)) ∈ GW := gw_in (List.mem_of_getElem? (i := 649) rfl) rfl
set_option maxRecDepth 100000 in
theorem m_650 : (Cond.methodLink R_Mo 131 y_Mo_go) ∈ GW := gw_in (List.mem_of_getElem? (i := 650) (by decide +kernel)) rfl
set_option maxRecDepth 100000 in
theorem m_652 : (Cond.instanceMethod y_Mo_go) ∈ GW := gw_in (List.mem_of_getElem? (i := 652) (by decide +kernel)) rfl
set_option maxRecDepth 100000 in
theorem m_653 : (Cond.code y_Mo_go prog_8_method_26_code 2 none) ∈ GW := gw_in (List.mem_of_getElem? (i := 653) rfl) rfl
set_option maxRecDepth 100000 in
theorem m_654 : (Cond.methodLink R_Mo 160 y_Mo_jump) ∈ GW := gw_in (List.mem_of_getElem? (i := 654) (by decide +kernel)) rfl
set_option maxRecDepth 100000 in
theorem m_656 : (Cond.instanceMethod y_Mo_jump) ∈ GW := gw_in (List.mem_of_getElem? (i := 656) (by decide +kernel)) rfl
set_option maxRecDepth 100000 in
theorem m_657 : (Cond.code y_Mo_jump prog_8_method_36_code 3 none) ∈ GW := gw_in (List.mem_of_getElem? (i := 657) rfl) rfl
set_option maxRecDepth 100000 in
theorem m_658 : (Cond.methodLink R_Mo 121 y_Mo_illegal) ∈ GW := gw_in (List.mem_of_getElem? (i := 658) (by decide +kernel)) rfl
set_option maxRecDepth 100000 in
theorem m_660 : (Cond.instanceMethod y_Mo_illegal) ∈ GW := gw_in (List.mem_of_getElem? (i := 660) (by decide +kernel)) rfl
set_option maxRecDepth 100000 in
theorem m_661 : (Cond.code y_Mo_illegal prog_8_method_27_code 1 none) ∈ GW := gw_in (List.mem_of_getElem? (i := 661) rfl) rfl
set_option maxRecDepth 100000 in
theorem m_662 : (Cond.methodLink R_Mo 163 y_Mo_branch) ∈ GW := gw_in (List.mem_of_getElem? (i := 662) (by decide +kernel)) rfl
set_option maxRecDepth 100000 in
theorem m_664 : (Cond.instanceMethod y_Mo_branch) ∈ GW := gw_in (List.mem_of_getElem? (i := 664) (by decide +kernel)) rfl
set_option maxRecDepth 100000 in
theorem m_665 : (Cond.code y_Mo_branch prog_8_method_29_code 5 none) ∈ GW := gw_in (List.mem_of_getElem? (i := 665) rfl) rfl
set_option maxRecDepth 100000 in
theorem m_666 : (Cond.methodLink R_Mo 117 y_Mo_isLess) ∈ GW := gw_in (List.mem_of_getElem? (i := 666) (by decide +kernel)) rfl
set_option maxRecDepth 100000 in
theorem m_667 : (Cond.static y_Mo_isLess) ∈ GW := gw_in (List.mem_of_getElem? (i := 667) (by decide +kernel)) rfl
set_option maxRecDepth 100000 in
theorem m_668 : (Cond.code y_Mo_isLess prog_8_method_28_code 3 (some .boolean)) ∈ GW := gw_in (List.mem_of_getElem? (i := 668) rfl) rfl
set_option maxRecDepth 100000 in
theorem m_669 : (Cond.methodLink R_Mo 127 y_Mo_numberK) ∈ GW := gw_in (List.mem_of_getElem? (i := 669) (by decide +kernel)) rfl
set_option maxRecDepth 100000 in
theorem m_671 : (Cond.instanceMethod y_Mo_numberK) ∈ GW := gw_in (List.mem_of_getElem? (i := 671) (by decide +kernel)) rfl
set_option maxRecDepth 100000 in
theorem m_672 : (Cond.code y_Mo_numberK prog_8_method_23_code 1 (some .int)) ∈ GW := gw_in (List.mem_of_getElem? (i := 672) rfl) rfl
set_option maxRecDepth 100000 in
theorem m_673 : (Cond.methodLink R_Mo 167 y_Mo_load) ∈ GW := gw_in (List.mem_of_getElem? (i := 673) (by decide +kernel)) rfl
set_option maxRecDepth 100000 in
theorem m_675 : (Cond.instanceMethod y_Mo_load) ∈ GW := gw_in (List.mem_of_getElem? (i := 675) (by decide +kernel)) rfl
set_option maxRecDepth 100000 in
theorem m_676 : (Cond.code y_Mo_load prog_8_method_31_code 6 none) ∈ GW := gw_in (List.mem_of_getElem? (i := 676) rfl) rfl
set_option maxRecDepth 100000 in
theorem m_677 : (Cond.methodLink R_Mo 138 y_Mo_reaches) ∈ GW := gw_in (List.mem_of_getElem? (i := 677) (by decide +kernel)) rfl
set_option maxRecDepth 100000 in
theorem m_679 : (Cond.instanceMethod y_Mo_reaches) ∈ GW := gw_in (List.mem_of_getElem? (i := 679) (by decide +kernel)) rfl
set_option maxRecDepth 100000 in
theorem m_680 : (Cond.code y_Mo_reaches prog_8_method_30_code 3 (some .boolean)) ∈ GW := gw_in (List.mem_of_getElem? (i := 680) rfl) rfl
set_option maxRecDepth 100000 in
theorem m_681 : (Cond.methodLink R_Mo 170 y_Mo_numberJ) ∈ GW := gw_in (List.mem_of_getElem? (i := 681) (by decide +kernel)) rfl
set_option maxRecDepth 100000 in
theorem m_683 : (Cond.instanceMethod y_Mo_numberJ) ∈ GW := gw_in (List.mem_of_getElem? (i := 683) (by decide +kernel)) rfl
set_option maxRecDepth 100000 in
theorem m_684 : (Cond.code y_Mo_numberJ prog_8_method_22_code 1 (some .int)) ∈ GW := gw_in (List.mem_of_getElem? (i := 684) rfl) rfl
set_option maxRecDepth 100000 in
theorem m_685 : (Cond.methodLink R_Mo 173 y_Mo_store) ∈ GW := gw_in (List.mem_of_getElem? (i := 685) (by decide +kernel)) rfl
set_option maxRecDepth 100000 in
theorem m_687 : (Cond.instanceMethod y_Mo_store) ∈ GW := gw_in (List.mem_of_getElem? (i := 687) (by decide +kernel)) rfl
set_option maxRecDepth 100000 in
theorem m_688 : (Cond.code y_Mo_store prog_8_method_32_code 7 none) ∈ GW := gw_in (List.mem_of_getElem? (i := 688) rfl) rfl
set_option maxRecDepth 100000 in
theorem m_689 : (Cond.constant R_Mo 147 65535) ∈ GW := gw_in (List.mem_of_getElem? (i := 689) (by decide +kernel)) rfl
set_option maxRecDepth 100000 in
theorem m_690 : (Cond.methodLink R_Mo 148 y_Mo_save) ∈ GW := gw_in (List.mem_of_getElem? (i := 690) (by decide +kernel)) rfl
set_option maxRecDepth 100000 in
theorem m_692 : (Cond.instanceMethod y_Mo_save) ∈ GW := gw_in (List.mem_of_getElem? (i := 692) (by decide +kernel)) rfl
set_option maxRecDepth 100000 in
theorem m_693 : (Cond.code y_Mo_save prog_8_method_14_code 3 none) ∈ GW := gw_in (List.mem_of_getElem? (i := 693) rfl) rfl
set_option maxRecDepth 100000 in
theorem m_694 : (Cond.methodLink R_Mo 80 y_Mo_keep) ∈ GW := gw_in (List.mem_of_getElem? (i := 694) (by decide +kernel)) rfl
set_option maxRecDepth 100000 in
theorem m_696 : (Cond.instanceMethod y_Mo_keep) ∈ GW := gw_in (List.mem_of_getElem? (i := 696) (by decide +kernel)) rfl
set_option maxRecDepth 100000 in
theorem m_697 : (Cond.code y_Mo_keep prog_8_method_10_code 3 none) ∈ GW := gw_in (List.mem_of_getElem? (i := 697) rfl) rfl
set_option maxRecDepth 100000 in
theorem m_698 : (Cond.methodLink R_Mo 176 y_Mo_reckon) ∈ GW := gw_in (List.mem_of_getElem? (i := 698) (by decide +kernel)) rfl
set_option maxRecDepth 100000 in
theorem m_700 : (Cond.instanceMethod y_Mo_reckon) ∈ GW := gw_in (List.mem_of_getElem? (i := 700) (by decide +kernel)) rfl
set_option maxRecDepth 100000 in
theorem m_701 : (Cond.code y_Mo_reckon prog_8_method_34_code 7 none) ∈ GW := gw_in (List.mem_of_getElem? (i := 701) rfl) rfl
set_option maxRecDepth 100000 in
theorem m_702 : (Cond.methodLink R_Mo 151 y_Mo_reckoned) ∈ GW := gw_in (List.mem_of_getElem? (i := 702) (by decide +kernel)) rfl
set_option maxRecDepth 100000 in
theorem m_704 : (Cond.instanceMethod y_Mo_reckoned) ∈ GW := gw_in (List.mem_of_getElem? (i := 704) (by decide +kernel)) rfl
set_option maxRecDepth 100000 in
theorem m_705 : (Cond.code y_Mo_reckoned prog_8_method_33_code 4 (some .int)) ∈ GW := gw_in (List.mem_of_getElem? (i := 705) rfl) rfl
set_option maxRecDepth 100000 in
theorem m_706 : (Cond.methodLink R_Mo 180 y_Mo_rest) ∈ GW := gw_in (List.mem_of_getElem? (i := 706) (by decide +kernel)) rfl
set_option maxRecDepth 100000 in
theorem m_708 : (Cond.instanceMethod y_Mo_rest) ∈ GW := gw_in (List.mem_of_getElem? (i := 708) (by decide +kernel)) rfl
set_option maxRecDepth 100000 in
theorem m_709 : (Cond.code y_Mo_rest prog_8_method_37_code 2 none) ∈ GW := gw_in (List.mem_of_getElem? (i := 709) rfl) rfl
set_option maxRecDepth 100000 in
theorem m_710 : (Cond.constant R_Mo 183 1048691) ∈ GW := gw_in (List.mem_of_getElem? (i := 710) (by decide +kernel)) rfl
set_option maxRecDepth 100000 in
theorem m_711 : (Cond.methodLink R_Mo 205 y_Mo_scrub) ∈ GW := gw_in (List.mem_of_getElem? (i := 711) (by decide +kernel)) rfl
set_option maxRecDepth 100000 in
theorem m_713 : (Cond.instanceMethod y_Mo_scrub) ∈ GW := gw_in (List.mem_of_getElem? (i := 713) (by decide +kernel)) rfl
set_option maxRecDepth 100000 in
theorem m_714 : (Cond.code y_Mo_scrub prog_8_method_41_code 1 none) ∈ GW := gw_in (List.mem_of_getElem? (i := 714) rfl) rfl
set_option maxRecDepth 100000 in
theorem m_731 : (Cond.methodLink R_Mo 208 y_Mo_noBit) ∈ GW := gw_in (List.mem_of_getElem? (i := 731) (by decide +kernel)) rfl
set_option maxRecDepth 100000 in
theorem m_732 : (Cond.static y_Mo_noBit) ∈ GW := gw_in (List.mem_of_getElem? (i := 732) (by decide +kernel)) rfl
set_option maxRecDepth 100000 in
theorem m_733 : (Cond.code y_Mo_noBit prog_8_method_46_code 2 (some .boolean)) ∈ GW := gw_in (List.mem_of_getElem? (i := 733) rfl) rfl
set_option maxRecDepth 100000 in
theorem m_750 : (Cond.constantLong R_Mo 211 (-1)) ∈ GW := gw_in (List.mem_of_getElem? (i := 750) (by decide +kernel)) rfl
set_option maxRecDepth 100000 in
theorem m_751 : (Cond.constantLong R_Mo 213 (-2)) ∈ GW := gw_in (List.mem_of_getElem? (i := 751) (by decide +kernel)) rfl
set_option maxRecDepth 100000 in
theorem m_756 : (Cond.methodLink R_Mo 215 y_Mo_encoded) ∈ GW := gw_in (List.mem_of_getElem? (i := 756) (by decide +kernel)) rfl
set_option maxRecDepth 100000 in
theorem m_757 : (Cond.static y_Mo_encoded) ∈ GW := gw_in (List.mem_of_getElem? (i := 757) (by decide +kernel)) rfl
set_option maxRecDepth 100000 in
theorem m_758 : (Cond.code y_Mo_encoded prog_8_method_7_code 6 (some .long)) ∈ GW := gw_in (List.mem_of_getElem? (i := 758) rfl) rfl
set_option maxRecDepth 100000 in
theorem in_V : ∀ w ∈ u_ws R_V F_V 11, w ∈ GW := by decide +kernel
set_option maxRecDepth 100000 in
theorem in_Me : ∀ w ∈ u_ws R_Me F_Me 2, w ∈ GW := by decide +kernel
set_option maxRecDepth 100000 in
theorem in_Ca : ∀ w ∈ u_ws R_Ca F_Ca 2, w ∈ GW := by decide +kernel
set_option maxRecDepth 100000 in
theorem in_Re : ∀ w ∈ u_ws R_Re F_Re 2, w ∈ GW := by decide +kernel
set_option maxRecDepth 100000 in
theorem in_Fa : ∀ w ∈ u_ws R_Fa F_Fa 4, w ∈ GW := by decide +kernel
set_option maxRecDepth 100000 in
theorem in_Mo : ∀ w ∈ u_ws R_Mo F_Mo 18, w ∈ GW := by decide +kernel
end
section
theorem d_Lg_bitCount_0 : decode b_Lg_bitCount 0 = .ok (.lload_n 0, 1) := by decide +kernel
theorem d_Lg_bitCount_1 : decode b_Lg_bitCount 1 = .ok (.lload_n 0, 1) := by decide +kernel
theorem d_Lg_bitCount_2 : decode b_Lg_bitCount 2 = .ok (.iconst 1, 1) := by decide +kernel
theorem d_Lg_bitCount_3 : decode b_Lg_bitCount 3 = .ok (.lushr, 1) := by decide +kernel
theorem d_Lg_bitCount_4 : decode b_Lg_bitCount 4 = .ok (.ldc2_w 314, 3) := by decide +kernel
theorem d_Lg_bitCount_7 : decode b_Lg_bitCount 7 = .ok (.land, 1) := by decide +kernel
theorem d_Lg_bitCount_8 : decode b_Lg_bitCount 8 = .ok (.lsub, 1) := by decide +kernel
theorem d_Lg_bitCount_9 : decode b_Lg_bitCount 9 = .ok (.lstore_n 0, 1) := by decide +kernel
theorem d_Lg_bitCount_10 : decode b_Lg_bitCount 10 = .ok (.lload_n 0, 1) := by decide +kernel
theorem d_Lg_bitCount_11 : decode b_Lg_bitCount 11 = .ok (.ldc2_w 316, 3) := by decide +kernel
theorem d_Lg_bitCount_14 : decode b_Lg_bitCount 14 = .ok (.land, 1) := by decide +kernel
theorem d_Lg_bitCount_15 : decode b_Lg_bitCount 15 = .ok (.lload_n 0, 1) := by decide +kernel
theorem d_Lg_bitCount_16 : decode b_Lg_bitCount 16 = .ok (.iconst 2, 1) := by decide +kernel
theorem d_Lg_bitCount_17 : decode b_Lg_bitCount 17 = .ok (.lushr, 1) := by decide +kernel
theorem d_Lg_bitCount_18 : decode b_Lg_bitCount 18 = .ok (.ldc2_w 316, 3) := by decide +kernel
theorem d_Lg_bitCount_21 : decode b_Lg_bitCount 21 = .ok (.land, 1) := by decide +kernel
theorem d_Lg_bitCount_22 : decode b_Lg_bitCount 22 = .ok (.ladd, 1) := by decide +kernel
theorem d_Lg_bitCount_23 : decode b_Lg_bitCount 23 = .ok (.lstore_n 0, 1) := by decide +kernel
theorem d_Lg_bitCount_24 : decode b_Lg_bitCount 24 = .ok (.lload_n 0, 1) := by decide +kernel
theorem d_Lg_bitCount_25 : decode b_Lg_bitCount 25 = .ok (.lload_n 0, 1) := by decide +kernel
theorem d_Lg_bitCount_26 : decode b_Lg_bitCount 26 = .ok (.iconst 4, 1) := by decide +kernel
theorem d_Lg_bitCount_27 : decode b_Lg_bitCount 27 = .ok (.lushr, 1) := by decide +kernel
theorem d_Lg_bitCount_28 : decode b_Lg_bitCount 28 = .ok (.ladd, 1) := by decide +kernel
theorem d_Lg_bitCount_29 : decode b_Lg_bitCount 29 = .ok (.ldc2_w 318, 3) := by decide +kernel
theorem d_Lg_bitCount_32 : decode b_Lg_bitCount 32 = .ok (.land, 1) := by decide +kernel
theorem d_Lg_bitCount_33 : decode b_Lg_bitCount 33 = .ok (.lstore_n 0, 1) := by decide +kernel
theorem d_Lg_bitCount_34 : decode b_Lg_bitCount 34 = .ok (.lload_n 0, 1) := by decide +kernel
theorem d_Lg_bitCount_35 : decode b_Lg_bitCount 35 = .ok (.lload_n 0, 1) := by decide +kernel
theorem d_Lg_bitCount_36 : decode b_Lg_bitCount 36 = .ok (.bipush 8, 2) := by decide +kernel
theorem d_Lg_bitCount_38 : decode b_Lg_bitCount 38 = .ok (.lushr, 1) := by decide +kernel
theorem d_Lg_bitCount_39 : decode b_Lg_bitCount 39 = .ok (.ladd, 1) := by decide +kernel
theorem d_Lg_bitCount_40 : decode b_Lg_bitCount 40 = .ok (.lstore_n 0, 1) := by decide +kernel
theorem d_Lg_bitCount_41 : decode b_Lg_bitCount 41 = .ok (.lload_n 0, 1) := by decide +kernel
theorem d_Lg_bitCount_42 : decode b_Lg_bitCount 42 = .ok (.lload_n 0, 1) := by decide +kernel
theorem d_Lg_bitCount_43 : decode b_Lg_bitCount 43 = .ok (.bipush 16, 2) := by decide +kernel
theorem d_Lg_bitCount_45 : decode b_Lg_bitCount 45 = .ok (.lushr, 1) := by decide +kernel
theorem d_Lg_bitCount_46 : decode b_Lg_bitCount 46 = .ok (.ladd, 1) := by decide +kernel
theorem d_Lg_bitCount_47 : decode b_Lg_bitCount 47 = .ok (.lstore_n 0, 1) := by decide +kernel
theorem d_Lg_bitCount_48 : decode b_Lg_bitCount 48 = .ok (.lload_n 0, 1) := by decide +kernel
theorem d_Lg_bitCount_49 : decode b_Lg_bitCount 49 = .ok (.lload_n 0, 1) := by decide +kernel
theorem d_Lg_bitCount_50 : decode b_Lg_bitCount 50 = .ok (.bipush 32, 2) := by decide +kernel
theorem d_Lg_bitCount_52 : decode b_Lg_bitCount 52 = .ok (.lushr, 1) := by decide +kernel
theorem d_Lg_bitCount_53 : decode b_Lg_bitCount 53 = .ok (.ladd, 1) := by decide +kernel
theorem d_Lg_bitCount_54 : decode b_Lg_bitCount 54 = .ok (.lstore_n 0, 1) := by decide +kernel
theorem d_Lg_bitCount_55 : decode b_Lg_bitCount 55 = .ok (.lload_n 0, 1) := by decide +kernel
theorem d_Lg_bitCount_56 : decode b_Lg_bitCount 56 = .ok (.l2i, 1) := by decide +kernel
theorem d_Lg_bitCount_57 : decode b_Lg_bitCount 57 = .ok (.bipush 127, 2) := by decide +kernel
theorem d_Lg_bitCount_59 : decode b_Lg_bitCount 59 = .ok (.iand, 1) := by decide +kernel
theorem d_Lg_bitCount_60 : decode b_Lg_bitCount 60 = .ok (.ireturn, 1) := by decide +kernel
theorem d_In_compare_0 : decode b_In_compare 0 = .ok (.iload_n 0, 1) := by decide +kernel
theorem d_In_compare_1 : decode b_In_compare 1 = .ok (.iload_n 1, 1) := by decide +kernel
theorem d_In_compare_2 : decode b_In_compare 2 = .ok (.if_icmp .ge 7, 3) := by decide +kernel
theorem d_In_compare_9 : decode b_In_compare 9 = .ok (.iload_n 0, 1) := by decide +kernel
theorem d_In_compare_10 : decode b_In_compare 10 = .ok (.iload_n 1, 1) := by decide +kernel
theorem d_In_compare_11 : decode b_In_compare 11 = .ok (.if_icmp .ne 7, 3) := by decide +kernel
theorem d_In_compare_18 : decode b_In_compare 18 = .ok (.iconst 1, 1) := by decide +kernel
theorem d_In_compare_19 : decode b_In_compare 19 = .ok (.ireturn, 1) := by decide +kernel
theorem d_In_compare_14 : decode b_In_compare 14 = .ok (.iconst 0, 1) := by decide +kernel
theorem d_In_compare_15 : decode b_In_compare 15 = .ok (.goto 4, 3) := by decide +kernel
theorem d_In_compare_5 : decode b_In_compare 5 = .ok (.iconst (-1), 1) := by decide +kernel
theorem d_In_compare_6 : decode b_In_compare 6 = .ok (.goto 13, 3) := by decide +kernel
theorem d_In_compareUnsigned_0 : decode b_In_compareUnsigned 0 = .ok (.iload_n 0, 1) := by decide +kernel
theorem d_In_compareUnsigned_1 : decode b_In_compareUnsigned 1 = .ok (.ldc 127, 2) := by decide +kernel
theorem d_In_compareUnsigned_3 : decode b_In_compareUnsigned 3 = .ok (.iadd, 1) := by decide +kernel
theorem d_In_compareUnsigned_4 : decode b_In_compareUnsigned 4 = .ok (.iload_n 1, 1) := by decide +kernel
theorem d_In_compareUnsigned_5 : decode b_In_compareUnsigned 5 = .ok (.ldc 127, 2) := by decide +kernel
theorem d_In_compareUnsigned_7 : decode b_In_compareUnsigned 7 = .ok (.iadd, 1) := by decide +kernel
theorem d_In_compareUnsigned_8 : decode b_In_compareUnsigned 8 = .ok (.invokestatic 259, 3) := by decide +kernel
theorem d_In_compareUnsigned_11 : decode b_In_compareUnsigned 11 = .ok (.ireturn, 1) := by decide +kernel
theorem d_Ar_fill_0 : decode b_Ar_fill 0 = .ok (.iconst 0, 1) := by decide +kernel
theorem d_Ar_fill_1 : decode b_Ar_fill 1 = .ok (.istore_n 3, 1) := by decide +kernel
theorem d_Ar_fill_2 : decode b_Ar_fill 2 = .ok (.aload_n 0, 1) := by decide +kernel
theorem d_Ar_fill_3 : decode b_Ar_fill 3 = .ok (.arraylength, 1) := by decide +kernel
theorem d_Ar_fill_4 : decode b_Ar_fill 4 = .ok (.istore 4, 2) := by decide +kernel
theorem d_Ar_fill_6 : decode b_Ar_fill 6 = .ok (.iload_n 3, 1) := by decide +kernel
theorem d_Ar_fill_7 : decode b_Ar_fill 7 = .ok (.iload 4, 2) := by decide +kernel
theorem d_Ar_fill_9 : decode b_Ar_fill 9 = .ok (.if_icmp .ge 13, 3) := by decide +kernel
theorem d_Ar_fill_12 : decode b_Ar_fill 12 = .ok (.aload_n 0, 1) := by decide +kernel
theorem d_Ar_fill_13 : decode b_Ar_fill 13 = .ok (.iload_n 3, 1) := by decide +kernel
theorem d_Ar_fill_14 : decode b_Ar_fill 14 = .ok (.lload_n 1, 1) := by decide +kernel
theorem d_Ar_fill_15 : decode b_Ar_fill 15 = .ok (.lastore, 1) := by decide +kernel
theorem d_Ar_fill_16 : decode b_Ar_fill 16 = .ok (.iinc 3 1, 3) := by decide +kernel
theorem d_Ar_fill_19 : decode b_Ar_fill 19 = .ok (.goto (-13), 3) := by decide +kernel
theorem d_Ar_fill_22 : decode b_Ar_fill 22 = .ok (.return_, 1) := by decide +kernel
theorem d_Co_op_0 : decode b_Co_op 0 = .ok (.iload_n 0, 1) := by decide +kernel
theorem d_Co_op_1 : decode b_Co_op 1 = .ok (.bipush 127, 2) := by decide +kernel
theorem d_Co_op_3 : decode b_Co_op 3 = .ok (.iand, 1) := by decide +kernel
theorem d_Co_op_4 : decode b_Co_op 4 = .ok (.ireturn, 1) := by decide +kernel
theorem d_Co_d_0 : decode b_Co_d 0 = .ok (.iload_n 0, 1) := by decide +kernel
theorem d_Co_d_1 : decode b_Co_d 1 = .ok (.bipush 7, 2) := by decide +kernel
theorem d_Co_d_3 : decode b_Co_d 3 = .ok (.iushr, 1) := by decide +kernel
theorem d_Co_d_4 : decode b_Co_d 4 = .ok (.bipush 31, 2) := by decide +kernel
theorem d_Co_d_6 : decode b_Co_d 6 = .ok (.iand, 1) := by decide +kernel
theorem d_Co_d_7 : decode b_Co_d 7 = .ok (.ireturn, 1) := by decide +kernel
theorem d_Co_f_0 : decode b_Co_f 0 = .ok (.iload_n 0, 1) := by decide +kernel
theorem d_Co_f_1 : decode b_Co_f 1 = .ok (.bipush 12, 2) := by decide +kernel
theorem d_Co_f_3 : decode b_Co_f 3 = .ok (.iushr, 1) := by decide +kernel
theorem d_Co_f_4 : decode b_Co_f 4 = .ok (.bipush 7, 2) := by decide +kernel
theorem d_Co_f_6 : decode b_Co_f 6 = .ok (.iand, 1) := by decide +kernel
theorem d_Co_f_7 : decode b_Co_f 7 = .ok (.ireturn, 1) := by decide +kernel
theorem d_Co_s_0 : decode b_Co_s 0 = .ok (.iload_n 0, 1) := by decide +kernel
theorem d_Co_s_1 : decode b_Co_s 1 = .ok (.bipush 15, 2) := by decide +kernel
theorem d_Co_s_3 : decode b_Co_s 3 = .ok (.iushr, 1) := by decide +kernel
theorem d_Co_s_4 : decode b_Co_s 4 = .ok (.bipush 31, 2) := by decide +kernel
theorem d_Co_s_6 : decode b_Co_s 6 = .ok (.iand, 1) := by decide +kernel
theorem d_Co_s_7 : decode b_Co_s 7 = .ok (.ireturn, 1) := by decide +kernel
theorem d_Co_t_0 : decode b_Co_t 0 = .ok (.iload_n 0, 1) := by decide +kernel
theorem d_Co_t_1 : decode b_Co_t 1 = .ok (.bipush 20, 2) := by decide +kernel
theorem d_Co_t_3 : decode b_Co_t 3 = .ok (.iushr, 1) := by decide +kernel
theorem d_Co_t_4 : decode b_Co_t 4 = .ok (.bipush 31, 2) := by decide +kernel
theorem d_Co_t_6 : decode b_Co_t 6 = .ok (.iand, 1) := by decide +kernel
theorem d_Co_t_7 : decode b_Co_t 7 = .ok (.ireturn, 1) := by decide +kernel
theorem d_Co_g_0 : decode b_Co_g 0 = .ok (.iload_n 0, 1) := by decide +kernel
theorem d_Co_g_1 : decode b_Co_g 1 = .ok (.bipush 25, 2) := by decide +kernel
theorem d_Co_g_3 : decode b_Co_g 3 = .ok (.iushr, 1) := by decide +kernel
theorem d_Co_g_4 : decode b_Co_g 4 = .ok (.ireturn, 1) := by decide +kernel
theorem d_Co_i_0 : decode b_Co_i 0 = .ok (.iload_n 0, 1) := by decide +kernel
theorem d_Co_i_1 : decode b_Co_i 1 = .ok (.bipush 20, 2) := by decide +kernel
theorem d_Co_i_3 : decode b_Co_i 3 = .ok (.ishr, 1) := by decide +kernel
theorem d_Co_i_4 : decode b_Co_i 4 = .ok (.ireturn, 1) := by decide +kernel
theorem d_Co_j_0 : decode b_Co_j 0 = .ok (.iload_n 0, 1) := by decide +kernel
theorem d_Co_j_1 : decode b_Co_j 1 = .ok (.bipush 25, 2) := by decide +kernel
theorem d_Co_j_3 : decode b_Co_j 3 = .ok (.ishr, 1) := by decide +kernel
theorem d_Co_j_4 : decode b_Co_j 4 = .ok (.iconst 5, 1) := by decide +kernel
theorem d_Co_j_5 : decode b_Co_j 5 = .ok (.ishl, 1) := by decide +kernel
theorem d_Co_j_6 : decode b_Co_j 6 = .ok (.iload_n 0, 1) := by decide +kernel
theorem d_Co_j_7 : decode b_Co_j 7 = .ok (.invokestatic 7, 3) := by decide +kernel
theorem d_Co_j_10 : decode b_Co_j 10 = .ok (.ior, 1) := by decide +kernel
theorem d_Co_j_11 : decode b_Co_j 11 = .ok (.ireturn, 1) := by decide +kernel
theorem d_Co_k_0 : decode b_Co_k 0 = .ok (.iload_n 0, 1) := by decide +kernel
theorem d_Co_k_1 : decode b_Co_k 1 = .ok (.bipush 31, 2) := by decide +kernel
theorem d_Co_k_3 : decode b_Co_k 3 = .ok (.ishr, 1) := by decide +kernel
theorem d_Co_k_4 : decode b_Co_k 4 = .ok (.bipush 12, 2) := by decide +kernel
theorem d_Co_k_6 : decode b_Co_k 6 = .ok (.ishl, 1) := by decide +kernel
theorem d_Co_k_7 : decode b_Co_k 7 = .ok (.iload_n 0, 1) := by decide +kernel
theorem d_Co_k_8 : decode b_Co_k 8 = .ok (.bipush 7, 2) := by decide +kernel
theorem d_Co_k_10 : decode b_Co_k 10 = .ok (.iushr, 1) := by decide +kernel
theorem d_Co_k_11 : decode b_Co_k 11 = .ok (.iconst 1, 1) := by decide +kernel
theorem d_Co_k_12 : decode b_Co_k 12 = .ok (.iand, 1) := by decide +kernel
theorem d_Co_k_13 : decode b_Co_k 13 = .ok (.bipush 11, 2) := by decide +kernel
theorem d_Co_k_15 : decode b_Co_k 15 = .ok (.ishl, 1) := by decide +kernel
theorem d_Co_k_16 : decode b_Co_k 16 = .ok (.ior, 1) := by decide +kernel
theorem d_Co_k_17 : decode b_Co_k 17 = .ok (.iload_n 0, 1) := by decide +kernel
theorem d_Co_k_18 : decode b_Co_k 18 = .ok (.bipush 25, 2) := by decide +kernel
theorem d_Co_k_20 : decode b_Co_k 20 = .ok (.iushr, 1) := by decide +kernel
theorem d_Co_k_21 : decode b_Co_k 21 = .ok (.bipush 63, 2) := by decide +kernel
theorem d_Co_k_23 : decode b_Co_k 23 = .ok (.iand, 1) := by decide +kernel
theorem d_Co_k_24 : decode b_Co_k 24 = .ok (.iconst 5, 1) := by decide +kernel
theorem d_Co_k_25 : decode b_Co_k 25 = .ok (.ishl, 1) := by decide +kernel
theorem d_Co_k_26 : decode b_Co_k 26 = .ok (.ior, 1) := by decide +kernel
theorem d_Co_k_27 : decode b_Co_k 27 = .ok (.iload_n 0, 1) := by decide +kernel
theorem d_Co_k_28 : decode b_Co_k 28 = .ok (.bipush 8, 2) := by decide +kernel
theorem d_Co_k_30 : decode b_Co_k 30 = .ok (.iushr, 1) := by decide +kernel
theorem d_Co_k_31 : decode b_Co_k 31 = .ok (.bipush 15, 2) := by decide +kernel
theorem d_Co_k_33 : decode b_Co_k 33 = .ok (.iand, 1) := by decide +kernel
theorem d_Co_k_34 : decode b_Co_k 34 = .ok (.iconst 1, 1) := by decide +kernel
theorem d_Co_k_35 : decode b_Co_k 35 = .ok (.ishl, 1) := by decide +kernel
theorem d_Co_k_36 : decode b_Co_k 36 = .ok (.ior, 1) := by decide +kernel
theorem d_Co_k_37 : decode b_Co_k 37 = .ok (.ireturn, 1) := by decide +kernel
theorem d_Co_u_0 : decode b_Co_u 0 = .ok (.iload_n 0, 1) := by decide +kernel
theorem d_Co_u_1 : decode b_Co_u 1 = .ok (.sipush (-4096), 3) := by decide +kernel
theorem d_Co_u_4 : decode b_Co_u 4 = .ok (.iand, 1) := by decide +kernel
theorem d_Co_u_5 : decode b_Co_u 5 = .ok (.ireturn, 1) := by decide +kernel
theorem d_Co_l_0 : decode b_Co_l 0 = .ok (.iload_n 0, 1) := by decide +kernel
theorem d_Co_l_1 : decode b_Co_l 1 = .ok (.bipush 31, 2) := by decide +kernel
theorem d_Co_l_3 : decode b_Co_l 3 = .ok (.ishr, 1) := by decide +kernel
theorem d_Co_l_4 : decode b_Co_l 4 = .ok (.bipush 20, 2) := by decide +kernel
theorem d_Co_l_6 : decode b_Co_l 6 = .ok (.ishl, 1) := by decide +kernel
theorem d_Co_l_7 : decode b_Co_l 7 = .ok (.iload_n 0, 1) := by decide +kernel
theorem d_Co_l_8 : decode b_Co_l 8 = .ok (.ldc 13, 2) := by decide +kernel
theorem d_Co_l_10 : decode b_Co_l 10 = .ok (.iand, 1) := by decide +kernel
theorem d_Co_l_11 : decode b_Co_l 11 = .ok (.ior, 1) := by decide +kernel
theorem d_Co_l_12 : decode b_Co_l 12 = .ok (.iload_n 0, 1) := by decide +kernel
theorem d_Co_l_13 : decode b_Co_l 13 = .ok (.bipush 20, 2) := by decide +kernel
theorem d_Co_l_15 : decode b_Co_l 15 = .ok (.iushr, 1) := by decide +kernel
theorem d_Co_l_16 : decode b_Co_l 16 = .ok (.iconst 1, 1) := by decide +kernel
theorem d_Co_l_17 : decode b_Co_l 17 = .ok (.iand, 1) := by decide +kernel
theorem d_Co_l_18 : decode b_Co_l 18 = .ok (.bipush 11, 2) := by decide +kernel
theorem d_Co_l_20 : decode b_Co_l 20 = .ok (.ishl, 1) := by decide +kernel
theorem d_Co_l_21 : decode b_Co_l 21 = .ok (.ior, 1) := by decide +kernel
theorem d_Co_l_22 : decode b_Co_l 22 = .ok (.iload_n 0, 1) := by decide +kernel
theorem d_Co_l_23 : decode b_Co_l 23 = .ok (.bipush 21, 2) := by decide +kernel
theorem d_Co_l_25 : decode b_Co_l 25 = .ok (.iushr, 1) := by decide +kernel
theorem d_Co_l_26 : decode b_Co_l 26 = .ok (.sipush 1023, 3) := by decide +kernel
theorem d_Co_l_29 : decode b_Co_l 29 = .ok (.iand, 1) := by decide +kernel
theorem d_Co_l_30 : decode b_Co_l 30 = .ok (.iconst 1, 1) := by decide +kernel
theorem d_Co_l_31 : decode b_Co_l 31 = .ok (.ishl, 1) := by decide +kernel
theorem d_Co_l_32 : decode b_Co_l 32 = .ok (.ior, 1) := by decide +kernel
theorem d_Co_l_33 : decode b_Co_l 33 = .ok (.ireturn, 1) := by decide +kernel
theorem d_Co_size_0 : decode b_Co_size 0 = .ok (.iconst 1, 1) := by decide +kernel
theorem d_Co_size_1 : decode b_Co_size 1 = .ok (.iload_n 0, 1) := by decide +kernel
theorem d_Co_size_2 : decode b_Co_size 2 = .ok (.iconst 3, 1) := by decide +kernel
theorem d_Co_size_3 : decode b_Co_size 3 = .ok (.iand, 1) := by decide +kernel
theorem d_Co_size_4 : decode b_Co_size 4 = .ok (.ishl, 1) := by decide +kernel
theorem d_Co_size_5 : decode b_Co_size 5 = .ok (.ireturn, 1) := by decide +kernel
theorem d_Co_shiftOf_0 : decode b_Co_shiftOf 0 = .ok (.iload_n 0, 1) := by decide +kernel
theorem d_Co_shiftOf_1 : decode b_Co_shiftOf 1 = .ok (.iconst 3, 1) := by decide +kernel
theorem d_Co_shiftOf_2 : decode b_Co_shiftOf 2 = .ok (.iand, 1) := by decide +kernel
theorem d_Co_shiftOf_3 : decode b_Co_shiftOf 3 = .ok (.iconst 3, 1) := by decide +kernel
theorem d_Co_shiftOf_4 : decode b_Co_shiftOf 4 = .ok (.ishl, 1) := by decide +kernel
theorem d_Co_shiftOf_5 : decode b_Co_shiftOf 5 = .ok (.ireturn, 1) := by decide +kernel
theorem d_Co_loaded_0 : decode b_Co_loaded 0 = .ok (.iload_n 0, 1) := by decide +kernel
theorem d_Co_loaded_1 : decode b_Co_loaded 1 = .ok (.tableswitch 56 0 5 #[39, 42, 56, 56, 45, 51], 39) := by decide +kernel
theorem d_Co_loaded_40 : decode b_Co_loaded 40 = .ok (.iload_n 1, 1) := by decide +kernel
theorem d_Co_loaded_41 : decode b_Co_loaded 41 = .ok (.i2b, 1) := by decide +kernel
theorem d_Co_loaded_42 : decode b_Co_loaded 42 = .ok (.ireturn, 1) := by decide +kernel
theorem d_Co_loaded_43 : decode b_Co_loaded 43 = .ok (.iload_n 1, 1) := by decide +kernel
theorem d_Co_loaded_44 : decode b_Co_loaded 44 = .ok (.i2s, 1) := by decide +kernel
theorem d_Co_loaded_45 : decode b_Co_loaded 45 = .ok (.ireturn, 1) := by decide +kernel
theorem d_Co_loaded_57 : decode b_Co_loaded 57 = .ok (.iload_n 1, 1) := by decide +kernel
theorem d_Co_loaded_58 : decode b_Co_loaded 58 = .ok (.ireturn, 1) := by decide +kernel
theorem d_Co_loaded_46 : decode b_Co_loaded 46 = .ok (.iload_n 1, 1) := by decide +kernel
theorem d_Co_loaded_47 : decode b_Co_loaded 47 = .ok (.sipush 255, 3) := by decide +kernel
theorem d_Co_loaded_50 : decode b_Co_loaded 50 = .ok (.iand, 1) := by decide +kernel
theorem d_Co_loaded_51 : decode b_Co_loaded 51 = .ok (.ireturn, 1) := by decide +kernel
theorem d_Co_loaded_52 : decode b_Co_loaded 52 = .ok (.iload_n 1, 1) := by decide +kernel
theorem d_Co_loaded_53 : decode b_Co_loaded 53 = .ok (.ldc 14, 2) := by decide +kernel
theorem d_Co_loaded_55 : decode b_Co_loaded 55 = .ok (.iand, 1) := by decide +kernel
theorem d_Co_loaded_56 : decode b_Co_loaded 56 = .ok (.ireturn, 1) := by decide +kernel
theorem d_Co_isTaken_0 : decode b_Co_isTaken 0 = .ok (.iload_n 0, 1) := by decide +kernel
theorem d_Co_isTaken_1 : decode b_Co_isTaken 1 = .ok (.tableswitch 101 0 6 #[43, 54, 101, 101, 65, 76, 87], 43) := by decide +kernel
theorem d_Co_isTaken_44 : decode b_Co_isTaken 44 = .ok (.iload_n 1, 1) := by decide +kernel
theorem d_Co_isTaken_45 : decode b_Co_isTaken 45 = .ok (.iload_n 2, 1) := by decide +kernel
theorem d_Co_isTaken_46 : decode b_Co_isTaken 46 = .ok (.if_icmp .ne 7, 3) := by decide +kernel
theorem d_Co_isTaken_53 : decode b_Co_isTaken 53 = .ok (.iconst 0, 1) := by decide +kernel
theorem d_Co_isTaken_54 : decode b_Co_isTaken 54 = .ok (.ireturn, 1) := by decide +kernel
theorem d_Co_isTaken_49 : decode b_Co_isTaken 49 = .ok (.iconst 1, 1) := by decide +kernel
theorem d_Co_isTaken_50 : decode b_Co_isTaken 50 = .ok (.goto 4, 3) := by decide +kernel
theorem d_Co_isTaken_55 : decode b_Co_isTaken 55 = .ok (.iload_n 1, 1) := by decide +kernel
theorem d_Co_isTaken_56 : decode b_Co_isTaken 56 = .ok (.iload_n 2, 1) := by decide +kernel
theorem d_Co_isTaken_57 : decode b_Co_isTaken 57 = .ok (.if_icmp .eq 7, 3) := by decide +kernel
theorem d_Co_isTaken_64 : decode b_Co_isTaken 64 = .ok (.iconst 0, 1) := by decide +kernel
theorem d_Co_isTaken_65 : decode b_Co_isTaken 65 = .ok (.ireturn, 1) := by decide +kernel
theorem d_Co_isTaken_60 : decode b_Co_isTaken 60 = .ok (.iconst 1, 1) := by decide +kernel
theorem d_Co_isTaken_61 : decode b_Co_isTaken 61 = .ok (.goto 4, 3) := by decide +kernel
theorem d_Co_isTaken_102 : decode b_Co_isTaken 102 = .ok (.iload_n 1, 1) := by decide +kernel
theorem d_Co_isTaken_103 : decode b_Co_isTaken 103 = .ok (.iload_n 2, 1) := by decide +kernel
theorem d_Co_isTaken_104 : decode b_Co_isTaken 104 = .ok (.invokestatic 15, 3) := by decide +kernel
theorem d_Co_isTaken_107 : decode b_Co_isTaken 107 = .ok (.ifCond .lt 7, 3) := by decide +kernel
theorem d_Co_isTaken_114 : decode b_Co_isTaken 114 = .ok (.iconst 0, 1) := by decide +kernel
theorem d_Co_isTaken_115 : decode b_Co_isTaken 115 = .ok (.ireturn, 1) := by decide +kernel
theorem d_Co_isTaken_110 : decode b_Co_isTaken 110 = .ok (.iconst 1, 1) := by decide +kernel
theorem d_Co_isTaken_111 : decode b_Co_isTaken 111 = .ok (.goto 4, 3) := by decide +kernel
theorem d_Co_isTaken_66 : decode b_Co_isTaken 66 = .ok (.iload_n 1, 1) := by decide +kernel
theorem d_Co_isTaken_67 : decode b_Co_isTaken 67 = .ok (.iload_n 2, 1) := by decide +kernel
theorem d_Co_isTaken_68 : decode b_Co_isTaken 68 = .ok (.if_icmp .ge 7, 3) := by decide +kernel
theorem d_Co_isTaken_75 : decode b_Co_isTaken 75 = .ok (.iconst 0, 1) := by decide +kernel
theorem d_Co_isTaken_76 : decode b_Co_isTaken 76 = .ok (.ireturn, 1) := by decide +kernel
theorem d_Co_isTaken_71 : decode b_Co_isTaken 71 = .ok (.iconst 1, 1) := by decide +kernel
theorem d_Co_isTaken_72 : decode b_Co_isTaken 72 = .ok (.goto 4, 3) := by decide +kernel
theorem d_Co_isTaken_77 : decode b_Co_isTaken 77 = .ok (.iload_n 1, 1) := by decide +kernel
theorem d_Co_isTaken_78 : decode b_Co_isTaken 78 = .ok (.iload_n 2, 1) := by decide +kernel
theorem d_Co_isTaken_79 : decode b_Co_isTaken 79 = .ok (.if_icmp .lt 7, 3) := by decide +kernel
theorem d_Co_isTaken_86 : decode b_Co_isTaken 86 = .ok (.iconst 0, 1) := by decide +kernel
theorem d_Co_isTaken_87 : decode b_Co_isTaken 87 = .ok (.ireturn, 1) := by decide +kernel
theorem d_Co_isTaken_82 : decode b_Co_isTaken 82 = .ok (.iconst 1, 1) := by decide +kernel
theorem d_Co_isTaken_83 : decode b_Co_isTaken 83 = .ok (.goto 4, 3) := by decide +kernel
theorem d_Co_isTaken_88 : decode b_Co_isTaken 88 = .ok (.iload_n 1, 1) := by decide +kernel
theorem d_Co_isTaken_89 : decode b_Co_isTaken 89 = .ok (.iload_n 2, 1) := by decide +kernel
theorem d_Co_isTaken_90 : decode b_Co_isTaken 90 = .ok (.invokestatic 15, 3) := by decide +kernel
theorem d_Co_isTaken_93 : decode b_Co_isTaken 93 = .ok (.ifCond .ge 7, 3) := by decide +kernel
theorem d_Co_isTaken_100 : decode b_Co_isTaken 100 = .ok (.iconst 0, 1) := by decide +kernel
theorem d_Co_isTaken_101 : decode b_Co_isTaken 101 = .ok (.ireturn, 1) := by decide +kernel
theorem d_Co_isTaken_96 : decode b_Co_isTaken 96 = .ok (.iconst 1, 1) := by decide +kernel
theorem d_Co_isTaken_97 : decode b_Co_isTaken 97 = .ok (.goto 4, 3) := by decide +kernel
theorem d_Co_computed_0 : decode b_Co_computed 0 = .ok (.iload_n 0, 1) := by decide +kernel
theorem d_Co_computed_1 : decode b_Co_computed 1 = .ok (.tableswitch 117 0 6 #[43, 57, 64, 75, 89, 93, 113], 43) := by decide +kernel
theorem d_Co_computed_44 : decode b_Co_computed 44 = .ok (.iload_n 1, 1) := by decide +kernel
theorem d_Co_computed_45 : decode b_Co_computed 45 = .ok (.ifCond .eq 9, 3) := by decide +kernel
theorem d_Co_computed_54 : decode b_Co_computed 54 = .ok (.iload_n 2, 1) := by decide +kernel
theorem d_Co_computed_55 : decode b_Co_computed 55 = .ok (.iload_n 3, 1) := by decide +kernel
theorem d_Co_computed_56 : decode b_Co_computed 56 = .ok (.iadd, 1) := by decide +kernel
theorem d_Co_computed_57 : decode b_Co_computed 57 = .ok (.ireturn, 1) := by decide +kernel
theorem d_Co_computed_48 : decode b_Co_computed 48 = .ok (.iload_n 2, 1) := by decide +kernel
theorem d_Co_computed_49 : decode b_Co_computed 49 = .ok (.iload_n 3, 1) := by decide +kernel
theorem d_Co_computed_50 : decode b_Co_computed 50 = .ok (.isub, 1) := by decide +kernel
theorem d_Co_computed_51 : decode b_Co_computed 51 = .ok (.goto 6, 3) := by decide +kernel
theorem d_Co_computed_58 : decode b_Co_computed 58 = .ok (.iload_n 2, 1) := by decide +kernel
theorem d_Co_computed_59 : decode b_Co_computed 59 = .ok (.iload_n 3, 1) := by decide +kernel
theorem d_Co_computed_60 : decode b_Co_computed 60 = .ok (.bipush 31, 2) := by decide +kernel
theorem d_Co_computed_62 : decode b_Co_computed 62 = .ok (.iand, 1) := by decide +kernel
theorem d_Co_computed_63 : decode b_Co_computed 63 = .ok (.ishl, 1) := by decide +kernel
theorem d_Co_computed_64 : decode b_Co_computed 64 = .ok (.ireturn, 1) := by decide +kernel
theorem d_Co_computed_65 : decode b_Co_computed 65 = .ok (.iload_n 2, 1) := by decide +kernel
theorem d_Co_computed_66 : decode b_Co_computed 66 = .ok (.iload_n 3, 1) := by decide +kernel
theorem d_Co_computed_67 : decode b_Co_computed 67 = .ok (.if_icmp .ge 7, 3) := by decide +kernel
theorem d_Co_computed_74 : decode b_Co_computed 74 = .ok (.iconst 0, 1) := by decide +kernel
theorem d_Co_computed_75 : decode b_Co_computed 75 = .ok (.ireturn, 1) := by decide +kernel
theorem d_Co_computed_70 : decode b_Co_computed 70 = .ok (.iconst 1, 1) := by decide +kernel
theorem d_Co_computed_71 : decode b_Co_computed 71 = .ok (.goto 4, 3) := by decide +kernel
theorem d_Co_computed_76 : decode b_Co_computed 76 = .ok (.iload_n 2, 1) := by decide +kernel
theorem d_Co_computed_77 : decode b_Co_computed 77 = .ok (.iload_n 3, 1) := by decide +kernel
theorem d_Co_computed_78 : decode b_Co_computed 78 = .ok (.invokestatic 15, 3) := by decide +kernel
theorem d_Co_computed_81 : decode b_Co_computed 81 = .ok (.ifCond .ge 7, 3) := by decide +kernel
theorem d_Co_computed_88 : decode b_Co_computed 88 = .ok (.iconst 0, 1) := by decide +kernel
theorem d_Co_computed_89 : decode b_Co_computed 89 = .ok (.ireturn, 1) := by decide +kernel
theorem d_Co_computed_84 : decode b_Co_computed 84 = .ok (.iconst 1, 1) := by decide +kernel
theorem d_Co_computed_85 : decode b_Co_computed 85 = .ok (.goto 4, 3) := by decide +kernel
theorem d_Co_computed_90 : decode b_Co_computed 90 = .ok (.iload_n 2, 1) := by decide +kernel
theorem d_Co_computed_91 : decode b_Co_computed 91 = .ok (.iload_n 3, 1) := by decide +kernel
end
section
theorem d_Co_computed_92 : decode b_Co_computed 92 = .ok (.ixor, 1) := by decide +kernel
theorem d_Co_computed_93 : decode b_Co_computed 93 = .ok (.ireturn, 1) := by decide +kernel
theorem d_Co_computed_94 : decode b_Co_computed 94 = .ok (.iload_n 1, 1) := by decide +kernel
theorem d_Co_computed_95 : decode b_Co_computed 95 = .ok (.ifCond .eq 12, 3) := by decide +kernel
theorem d_Co_computed_107 : decode b_Co_computed 107 = .ok (.iload_n 2, 1) := by decide +kernel
theorem d_Co_computed_108 : decode b_Co_computed 108 = .ok (.iload_n 3, 1) := by decide +kernel
theorem d_Co_computed_109 : decode b_Co_computed 109 = .ok (.bipush 31, 2) := by decide +kernel
theorem d_Co_computed_111 : decode b_Co_computed 111 = .ok (.iand, 1) := by decide +kernel
theorem d_Co_computed_112 : decode b_Co_computed 112 = .ok (.iushr, 1) := by decide +kernel
theorem d_Co_computed_113 : decode b_Co_computed 113 = .ok (.ireturn, 1) := by decide +kernel
theorem d_Co_computed_98 : decode b_Co_computed 98 = .ok (.iload_n 2, 1) := by decide +kernel
theorem d_Co_computed_99 : decode b_Co_computed 99 = .ok (.iload_n 3, 1) := by decide +kernel
theorem d_Co_computed_100 : decode b_Co_computed 100 = .ok (.bipush 31, 2) := by decide +kernel
theorem d_Co_computed_102 : decode b_Co_computed 102 = .ok (.iand, 1) := by decide +kernel
theorem d_Co_computed_103 : decode b_Co_computed 103 = .ok (.ishr, 1) := by decide +kernel
theorem d_Co_computed_104 : decode b_Co_computed 104 = .ok (.goto 9, 3) := by decide +kernel
theorem d_Co_computed_114 : decode b_Co_computed 114 = .ok (.iload_n 2, 1) := by decide +kernel
theorem d_Co_computed_115 : decode b_Co_computed 115 = .ok (.iload_n 3, 1) := by decide +kernel
theorem d_Co_computed_116 : decode b_Co_computed 116 = .ok (.ior, 1) := by decide +kernel
theorem d_Co_computed_117 : decode b_Co_computed 117 = .ok (.ireturn, 1) := by decide +kernel
theorem d_Co_computed_118 : decode b_Co_computed 118 = .ok (.iload_n 2, 1) := by decide +kernel
theorem d_Co_computed_119 : decode b_Co_computed 119 = .ok (.iload_n 3, 1) := by decide +kernel
theorem d_Co_computed_120 : decode b_Co_computed 120 = .ok (.iand, 1) := by decide +kernel
theorem d_Co_computed_121 : decode b_Co_computed 121 = .ok (.ireturn, 1) := by decide +kernel
theorem d_Me_xorOfNumbers_0 : decode b_Me_xorOfNumbers 0 = .ok (.iconst 0, 1) := by decide +kernel
theorem d_Me_xorOfNumbers_1 : decode b_Me_xorOfNumbers 1 = .ok (.istore_n 2, 1) := by decide +kernel
theorem d_Me_xorOfNumbers_2 : decode b_Me_xorOfNumbers 2 = .ok (.iconst 0, 1) := by decide +kernel
theorem d_Me_xorOfNumbers_3 : decode b_Me_xorOfNumbers 3 = .ok (.istore_n 3, 1) := by decide +kernel
theorem d_Me_xorOfNumbers_4 : decode b_Me_xorOfNumbers 4 = .ok (.iload_n 3, 1) := by decide +kernel
theorem d_Me_xorOfNumbers_5 : decode b_Me_xorOfNumbers 5 = .ok (.getstatic 23, 3) := by decide +kernel
theorem d_Me_xorOfNumbers_8 : decode b_Me_xorOfNumbers 8 = .ok (.arraylength, 1) := by decide +kernel
theorem d_Me_xorOfNumbers_9 : decode b_Me_xorOfNumbers 9 = .ok (.if_icmp .ge 26, 3) := by decide +kernel
theorem d_Me_xorOfNumbers_12 : decode b_Me_xorOfNumbers 12 = .ok (.iload_n 2, 1) := by decide +kernel
theorem d_Me_xorOfNumbers_13 : decode b_Me_xorOfNumbers 13 = .ok (.lload_n 0, 1) := by decide +kernel
theorem d_Me_xorOfNumbers_14 : decode b_Me_xorOfNumbers 14 = .ok (.getstatic 23, 3) := by decide +kernel
theorem d_Me_xorOfNumbers_17 : decode b_Me_xorOfNumbers 17 = .ok (.iload_n 3, 1) := by decide +kernel
theorem d_Me_xorOfNumbers_18 : decode b_Me_xorOfNumbers 18 = .ok (.laload, 1) := by decide +kernel
theorem d_Me_xorOfNumbers_19 : decode b_Me_xorOfNumbers 19 = .ok (.land, 1) := by decide +kernel
theorem d_Me_xorOfNumbers_20 : decode b_Me_xorOfNumbers 20 = .ok (.invokestatic 26, 3) := by decide +kernel
theorem d_Me_xorOfNumbers_23 : decode b_Me_xorOfNumbers 23 = .ok (.iconst 1, 1) := by decide +kernel
theorem d_Me_xorOfNumbers_24 : decode b_Me_xorOfNumbers 24 = .ok (.iand, 1) := by decide +kernel
theorem d_Me_xorOfNumbers_25 : decode b_Me_xorOfNumbers 25 = .ok (.iload_n 3, 1) := by decide +kernel
theorem d_Me_xorOfNumbers_26 : decode b_Me_xorOfNumbers 26 = .ok (.ishl, 1) := by decide +kernel
theorem d_Me_xorOfNumbers_27 : decode b_Me_xorOfNumbers 27 = .ok (.ior, 1) := by decide +kernel
theorem d_Me_xorOfNumbers_28 : decode b_Me_xorOfNumbers 28 = .ok (.istore_n 2, 1) := by decide +kernel
theorem d_Me_xorOfNumbers_29 : decode b_Me_xorOfNumbers 29 = .ok (.iinc 3 1, 3) := by decide +kernel
theorem d_Me_xorOfNumbers_32 : decode b_Me_xorOfNumbers 32 = .ok (.goto (-28), 3) := by decide +kernel
theorem d_Me_xorOfNumbers_35 : decode b_Me_xorOfNumbers 35 = .ok (.iload_n 2, 1) := by decide +kernel
theorem d_Me_xorOfNumbers_36 : decode b_Me_xorOfNumbers 36 = .ok (.ireturn, 1) := by decide +kernel
theorem d_Me_spread_0 : decode b_Me_spread 0 = .ok (.iload_n 0, 1) := by decide +kernel
theorem d_Me_spread_1 : decode b_Me_spread 1 = .ok (.i2l, 1) := by decide +kernel
theorem d_Me_spread_2 : decode b_Me_spread 2 = .ok (.lconst 1, 1) := by decide +kernel
theorem d_Me_spread_3 : decode b_Me_spread 3 = .ok (.land, 1) := by decide +kernel
theorem d_Me_spread_4 : decode b_Me_spread 4 = .ok (.iconst 3, 1) := by decide +kernel
theorem d_Me_spread_5 : decode b_Me_spread 5 = .ok (.lshl, 1) := by decide +kernel
theorem d_Me_spread_6 : decode b_Me_spread 6 = .ok (.iload_n 0, 1) := by decide +kernel
theorem d_Me_spread_7 : decode b_Me_spread 7 = .ok (.i2l, 1) := by decide +kernel
theorem d_Me_spread_8 : decode b_Me_spread 8 = .ok (.ldc2_w 44, 3) := by decide +kernel
theorem d_Me_spread_11 : decode b_Me_spread 11 = .ok (.land, 1) := by decide +kernel
theorem d_Me_spread_12 : decode b_Me_spread 12 = .ok (.iconst 4, 1) := by decide +kernel
theorem d_Me_spread_13 : decode b_Me_spread 13 = .ok (.lshl, 1) := by decide +kernel
theorem d_Me_spread_14 : decode b_Me_spread 14 = .ok (.lor, 1) := by decide +kernel
theorem d_Me_spread_15 : decode b_Me_spread 15 = .ok (.iload_n 0, 1) := by decide +kernel
theorem d_Me_spread_16 : decode b_Me_spread 16 = .ok (.i2l, 1) := by decide +kernel
theorem d_Me_spread_17 : decode b_Me_spread 17 = .ok (.ldc2_w 46, 3) := by decide +kernel
theorem d_Me_spread_20 : decode b_Me_spread 20 = .ok (.land, 1) := by decide +kernel
theorem d_Me_spread_21 : decode b_Me_spread 21 = .ok (.iconst 5, 1) := by decide +kernel
theorem d_Me_spread_22 : decode b_Me_spread 22 = .ok (.lshl, 1) := by decide +kernel
theorem d_Me_spread_23 : decode b_Me_spread 23 = .ok (.lor, 1) := by decide +kernel
theorem d_Me_spread_24 : decode b_Me_spread 24 = .ok (.iload_n 0, 1) := by decide +kernel
theorem d_Me_spread_25 : decode b_Me_spread 25 = .ok (.i2l, 1) := by decide +kernel
theorem d_Me_spread_26 : decode b_Me_spread 26 = .ok (.ldc2_w 48, 3) := by decide +kernel
theorem d_Me_spread_29 : decode b_Me_spread 29 = .ok (.land, 1) := by decide +kernel
theorem d_Me_spread_30 : decode b_Me_spread 30 = .ok (.bipush 6, 2) := by decide +kernel
theorem d_Me_spread_32 : decode b_Me_spread 32 = .ok (.lshl, 1) := by decide +kernel
theorem d_Me_spread_33 : decode b_Me_spread 33 = .ok (.lor, 1) := by decide +kernel
theorem d_Me_spread_34 : decode b_Me_spread 34 = .ok (.iload_n 0, 1) := by decide +kernel
theorem d_Me_spread_35 : decode b_Me_spread 35 = .ok (.i2l, 1) := by decide +kernel
theorem d_Me_spread_36 : decode b_Me_spread 36 = .ok (.ldc2_w 50, 3) := by decide +kernel
theorem d_Me_spread_39 : decode b_Me_spread 39 = .ok (.land, 1) := by decide +kernel
theorem d_Me_spread_40 : decode b_Me_spread 40 = .ok (.bipush 7, 2) := by decide +kernel
theorem d_Me_spread_42 : decode b_Me_spread 42 = .ok (.lshl, 1) := by decide +kernel
theorem d_Me_spread_43 : decode b_Me_spread 43 = .ok (.lor, 1) := by decide +kernel
theorem d_Me_spread_44 : decode b_Me_spread 44 = .ok (.lreturn, 1) := by decide +kernel
theorem d_Me_gathered_0 : decode b_Me_gathered 0 = .ok (.lload_n 0, 1) := by decide +kernel
theorem d_Me_gathered_1 : decode b_Me_gathered 1 = .ok (.iconst 3, 1) := by decide +kernel
theorem d_Me_gathered_2 : decode b_Me_gathered 2 = .ok (.lushr, 1) := by decide +kernel
theorem d_Me_gathered_3 : decode b_Me_gathered 3 = .ok (.lconst 1, 1) := by decide +kernel
theorem d_Me_gathered_4 : decode b_Me_gathered 4 = .ok (.land, 1) := by decide +kernel
theorem d_Me_gathered_5 : decode b_Me_gathered 5 = .ok (.lload_n 0, 1) := by decide +kernel
theorem d_Me_gathered_6 : decode b_Me_gathered 6 = .ok (.iconst 4, 1) := by decide +kernel
theorem d_Me_gathered_7 : decode b_Me_gathered 7 = .ok (.lushr, 1) := by decide +kernel
theorem d_Me_gathered_8 : decode b_Me_gathered 8 = .ok (.ldc2_w 44, 3) := by decide +kernel
theorem d_Me_gathered_11 : decode b_Me_gathered 11 = .ok (.land, 1) := by decide +kernel
theorem d_Me_gathered_12 : decode b_Me_gathered 12 = .ok (.lor, 1) := by decide +kernel
theorem d_Me_gathered_13 : decode b_Me_gathered 13 = .ok (.lload_n 0, 1) := by decide +kernel
theorem d_Me_gathered_14 : decode b_Me_gathered 14 = .ok (.iconst 5, 1) := by decide +kernel
theorem d_Me_gathered_15 : decode b_Me_gathered 15 = .ok (.lushr, 1) := by decide +kernel
theorem d_Me_gathered_16 : decode b_Me_gathered 16 = .ok (.ldc2_w 46, 3) := by decide +kernel
theorem d_Me_gathered_19 : decode b_Me_gathered 19 = .ok (.land, 1) := by decide +kernel
theorem d_Me_gathered_20 : decode b_Me_gathered 20 = .ok (.lor, 1) := by decide +kernel
theorem d_Me_gathered_21 : decode b_Me_gathered 21 = .ok (.lload_n 0, 1) := by decide +kernel
theorem d_Me_gathered_22 : decode b_Me_gathered 22 = .ok (.bipush 6, 2) := by decide +kernel
theorem d_Me_gathered_24 : decode b_Me_gathered 24 = .ok (.lushr, 1) := by decide +kernel
theorem d_Me_gathered_25 : decode b_Me_gathered 25 = .ok (.ldc2_w 48, 3) := by decide +kernel
theorem d_Me_gathered_28 : decode b_Me_gathered 28 = .ok (.land, 1) := by decide +kernel
theorem d_Me_gathered_29 : decode b_Me_gathered 29 = .ok (.lor, 1) := by decide +kernel
theorem d_Me_gathered_30 : decode b_Me_gathered 30 = .ok (.lload_n 0, 1) := by decide +kernel
theorem d_Me_gathered_31 : decode b_Me_gathered 31 = .ok (.bipush 7, 2) := by decide +kernel
theorem d_Me_gathered_33 : decode b_Me_gathered 33 = .ok (.lushr, 1) := by decide +kernel
theorem d_Me_gathered_34 : decode b_Me_gathered 34 = .ok (.ldc2_w 50, 3) := by decide +kernel
theorem d_Me_gathered_37 : decode b_Me_gathered 37 = .ok (.land, 1) := by decide +kernel
theorem d_Me_gathered_38 : decode b_Me_gathered 38 = .ok (.lor, 1) := by decide +kernel
theorem d_Me_gathered_39 : decode b_Me_gathered 39 = .ok (.lreturn, 1) := by decide +kernel
theorem d_Me_putRight_0 : decode b_Me_putRight 0 = .ok (.lload_n 0, 1) := by decide +kernel
theorem d_Me_putRight_1 : decode b_Me_putRight 1 = .ok (.invokestatic 19, 3) := by decide +kernel
theorem d_Me_putRight_4 : decode b_Me_putRight 4 = .ok (.istore_n 2, 1) := by decide +kernel
theorem d_Me_putRight_5 : decode b_Me_putRight 5 = .ok (.lload_n 0, 1) := by decide +kernel
theorem d_Me_putRight_6 : decode b_Me_putRight 6 = .ok (.invokestatic 26, 3) := by decide +kernel
theorem d_Me_putRight_9 : decode b_Me_putRight 9 = .ok (.iconst 1, 1) := by decide +kernel
theorem d_Me_putRight_10 : decode b_Me_putRight 10 = .ok (.iand, 1) := by decide +kernel
theorem d_Me_putRight_11 : decode b_Me_putRight 11 = .ok (.iconst 1, 1) := by decide +kernel
theorem d_Me_putRight_12 : decode b_Me_putRight 12 = .ok (.if_icmp .ne 7, 3) := by decide +kernel
theorem d_Me_putRight_19 : decode b_Me_putRight 19 = .ok (.iconst 0, 1) := by decide +kernel
theorem d_Me_putRight_20 : decode b_Me_putRight 20 = .ok (.istore_n 3, 1) := by decide +kernel
theorem d_Me_putRight_21 : decode b_Me_putRight 21 = .ok (.iload_n 3, 1) := by decide +kernel
theorem d_Me_putRight_22 : decode b_Me_putRight 22 = .ok (.ifCond .ne 15, 3) := by decide +kernel
theorem d_Me_putRight_25 : decode b_Me_putRight 25 = .ok (.iload_n 2, 1) := by decide +kernel
theorem d_Me_putRight_26 : decode b_Me_putRight 26 = .ok (.ifCond .ne 7, 3) := by decide +kernel
theorem d_Me_putRight_33 : decode b_Me_putRight 33 = .ok (.ldc2_w 35, 3) := by decide +kernel
theorem d_Me_putRight_36 : decode b_Me_putRight 36 = .ok (.lreturn, 1) := by decide +kernel
theorem d_Me_putRight_29 : decode b_Me_putRight 29 = .ok (.lload_n 0, 1) := by decide +kernel
theorem d_Me_putRight_30 : decode b_Me_putRight 30 = .ok (.goto 6, 3) := by decide +kernel
theorem d_Me_putRight_15 : decode b_Me_putRight 15 = .ok (.iconst 1, 1) := by decide +kernel
theorem d_Me_putRight_16 : decode b_Me_putRight 16 = .ok (.goto 4, 3) := by decide +kernel
theorem d_Me_putRight_37 : decode b_Me_putRight 37 = .ok (.iload_n 2, 1) := by decide +kernel
theorem d_Me_putRight_38 : decode b_Me_putRight 38 = .ok (.bipush 39, 2) := by decide +kernel
theorem d_Me_putRight_40 : decode b_Me_putRight 40 = .ok (.if_icmp .ge 11, 3) := by decide +kernel
theorem d_Me_putRight_51 : decode b_Me_putRight 51 = .ok (.ldc2_w 35, 3) := by decide +kernel
theorem d_Me_putRight_54 : decode b_Me_putRight 54 = .ok (.lreturn, 1) := by decide +kernel
theorem d_Me_putRight_43 : decode b_Me_putRight 43 = .ok (.lload_n 0, 1) := by decide +kernel
theorem d_Me_putRight_44 : decode b_Me_putRight 44 = .ok (.lconst 1, 1) := by decide +kernel
theorem d_Me_putRight_45 : decode b_Me_putRight 45 = .ok (.iload_n 2, 1) := by decide +kernel
theorem d_Me_putRight_46 : decode b_Me_putRight 46 = .ok (.lshl, 1) := by decide +kernel
theorem d_Me_putRight_47 : decode b_Me_putRight 47 = .ok (.lxor, 1) := by decide +kernel
theorem d_Me_putRight_48 : decode b_Me_putRight 48 = .ok (.goto 6, 3) := by decide +kernel
theorem d_Me_keep_0 : decode b_Me_keep 0 = .ok (.iload_n 2, 1) := by decide +kernel
theorem d_Me_keep_1 : decode b_Me_keep 1 = .ok (.invokestatic 15, 3) := by decide +kernel
theorem d_Me_keep_4 : decode b_Me_keep 4 = .ok (.lstore_n 3, 1) := by decide +kernel
theorem d_Me_keep_5 : decode b_Me_keep 5 = .ok (.lload_n 3, 1) := by decide +kernel
theorem d_Me_keep_6 : decode b_Me_keep 6 = .ok (.invokestatic 19, 3) := by decide +kernel
theorem d_Me_keep_9 : decode b_Me_keep 9 = .ok (.istore 5, 2) := by decide +kernel
theorem d_Me_keep_11 : decode b_Me_keep 11 = .ok (.iconst 0, 1) := by decide +kernel
theorem d_Me_keep_12 : decode b_Me_keep 12 = .ok (.istore 6, 2) := by decide +kernel
theorem d_Me_keep_14 : decode b_Me_keep 14 = .ok (.iload 6, 2) := by decide +kernel
theorem d_Me_keep_16 : decode b_Me_keep 16 = .ok (.getstatic 23, 3) := by decide +kernel
theorem d_Me_keep_19 : decode b_Me_keep 19 = .ok (.arraylength, 1) := by decide +kernel
theorem d_Me_keep_20 : decode b_Me_keep 20 = .ok (.if_icmp .ge 25, 3) := by decide +kernel
theorem d_Me_keep_23 : decode b_Me_keep 23 = .ok (.lload_n 3, 1) := by decide +kernel
theorem d_Me_keep_24 : decode b_Me_keep 24 = .ok (.iload 5, 2) := by decide +kernel
theorem d_Me_keep_26 : decode b_Me_keep 26 = .ok (.iload 6, 2) := by decide +kernel
theorem d_Me_keep_28 : decode b_Me_keep 28 = .ok (.iushr, 1) := by decide +kernel
theorem d_Me_keep_29 : decode b_Me_keep 29 = .ok (.i2l, 1) := by decide +kernel
theorem d_Me_keep_30 : decode b_Me_keep 30 = .ok (.lconst 1, 1) := by decide +kernel
theorem d_Me_keep_31 : decode b_Me_keep 31 = .ok (.land, 1) := by decide +kernel
theorem d_Me_keep_32 : decode b_Me_keep 32 = .ok (.iconst 1, 1) := by decide +kernel
theorem d_Me_keep_33 : decode b_Me_keep 33 = .ok (.iload 6, 2) := by decide +kernel
theorem d_Me_keep_35 : decode b_Me_keep 35 = .ok (.ishl, 1) := by decide +kernel
theorem d_Me_keep_36 : decode b_Me_keep 36 = .ok (.lshl, 1) := by decide +kernel
theorem d_Me_keep_37 : decode b_Me_keep 37 = .ok (.lor, 1) := by decide +kernel
theorem d_Me_keep_38 : decode b_Me_keep 38 = .ok (.lstore_n 3, 1) := by decide +kernel
theorem d_Me_keep_39 : decode b_Me_keep 39 = .ok (.iinc 6 1, 3) := by decide +kernel
theorem d_Me_keep_42 : decode b_Me_keep 42 = .ok (.goto (-28), 3) := by decide +kernel
theorem d_Me_keep_45 : decode b_Me_keep 45 = .ok (.aload_n 0, 1) := by decide +kernel
theorem d_Me_keep_46 : decode b_Me_keep 46 = .ok (.getfield 9, 3) := by decide +kernel
theorem d_Me_keep_49 : decode b_Me_keep 49 = .ok (.iload_n 1, 1) := by decide +kernel
theorem d_Me_keep_50 : decode b_Me_keep 50 = .ok (.lload_n 3, 1) := by decide +kernel
theorem d_Me_keep_51 : decode b_Me_keep 51 = .ok (.lload_n 3, 1) := by decide +kernel
theorem d_Me_keep_52 : decode b_Me_keep 52 = .ok (.invokestatic 26, 3) := by decide +kernel
theorem d_Me_keep_55 : decode b_Me_keep 55 = .ok (.iconst 1, 1) := by decide +kernel
theorem d_Me_keep_56 : decode b_Me_keep 56 = .ok (.iand, 1) := by decide +kernel
theorem d_Me_keep_57 : decode b_Me_keep 57 = .ok (.i2l, 1) := by decide +kernel
theorem d_Me_keep_58 : decode b_Me_keep 58 = .ok (.lor, 1) := by decide +kernel
theorem d_Me_keep_59 : decode b_Me_keep 59 = .ok (.lastore, 1) := by decide +kernel
theorem d_Me_keep_60 : decode b_Me_keep 60 = .ok (.return_, 1) := by decide +kernel
theorem d_Me_inspect_0 : decode b_Me_inspect 0 = .ok (.aload_n 0, 1) := by decide +kernel
theorem d_Me_inspect_1 : decode b_Me_inspect 1 = .ok (.getfield 9, 3) := by decide +kernel
theorem d_Me_inspect_4 : decode b_Me_inspect 4 = .ok (.iload_n 1, 1) := by decide +kernel
theorem d_Me_inspect_5 : decode b_Me_inspect 5 = .ok (.laload, 1) := by decide +kernel
theorem d_Me_inspect_6 : decode b_Me_inspect 6 = .ok (.invokestatic 31, 3) := by decide +kernel
theorem d_Me_inspect_9 : decode b_Me_inspect 9 = .ok (.lstore_n 2, 1) := by decide +kernel
theorem d_Me_inspect_10 : decode b_Me_inspect 10 = .ok (.lload_n 2, 1) := by decide +kernel
theorem d_Me_inspect_11 : decode b_Me_inspect 11 = .ok (.ldc2_w 35, 3) := by decide +kernel
theorem d_Me_inspect_14 : decode b_Me_inspect 14 = .ok (.lcmp, 1) := by decide +kernel
theorem d_Me_inspect_15 : decode b_Me_inspect 15 = .ok (.ifCond .ne 9, 3) := by decide +kernel
theorem d_Me_inspect_24 : decode b_Me_inspect 24 = .ok (.lload_n 2, 1) := by decide +kernel
theorem d_Me_inspect_25 : decode b_Me_inspect 25 = .ok (.invokestatic 37, 3) := by decide +kernel
theorem d_Me_inspect_28 : decode b_Me_inspect 28 = .ok (.lreturn, 1) := by decide +kernel
theorem d_Me_inspect_18 : decode b_Me_inspect 18 = .ok (.ldc2_w 35, 3) := by decide +kernel
theorem d_Me_inspect_21 : decode b_Me_inspect 21 = .ok (.goto 7, 3) := by decide +kernel
theorem d_Me_mend_0 : decode b_Me_mend 0 = .ok (.aload_n 0, 1) := by decide +kernel
theorem d_Me_mend_1 : decode b_Me_mend 1 = .ok (.getfield 9, 3) := by decide +kernel
theorem d_Me_mend_4 : decode b_Me_mend 4 = .ok (.iload_n 1, 1) := by decide +kernel
theorem d_Me_mend_5 : decode b_Me_mend 5 = .ok (.laload, 1) := by decide +kernel
theorem d_Me_mend_6 : decode b_Me_mend 6 = .ok (.invokestatic 31, 3) := by decide +kernel
theorem d_Me_mend_9 : decode b_Me_mend 9 = .ok (.lstore_n 2, 1) := by decide +kernel
theorem d_Me_mend_10 : decode b_Me_mend 10 = .ok (.lload_n 2, 1) := by decide +kernel
theorem d_Me_mend_11 : decode b_Me_mend 11 = .ok (.ldc2_w 35, 3) := by decide +kernel
theorem d_Me_mend_14 : decode b_Me_mend 14 = .ok (.lcmp, 1) := by decide +kernel
theorem d_Me_mend_15 : decode b_Me_mend 15 = .ok (.ifCond .ne 7, 3) := by decide +kernel
theorem d_Me_mend_22 : decode b_Me_mend 22 = .ok (.lload_n 2, 1) := by decide +kernel
theorem d_Me_mend_23 : decode b_Me_mend 23 = .ok (.aload_n 0, 1) := by decide +kernel
theorem d_Me_mend_24 : decode b_Me_mend 24 = .ok (.getfield 9, 3) := by decide +kernel
theorem d_Me_mend_27 : decode b_Me_mend 27 = .ok (.iload_n 1, 1) := by decide +kernel
theorem d_Me_mend_28 : decode b_Me_mend 28 = .ok (.laload, 1) := by decide +kernel
theorem d_Me_mend_29 : decode b_Me_mend 29 = .ok (.lcmp, 1) := by decide +kernel
theorem d_Me_mend_30 : decode b_Me_mend 30 = .ok (.ifCond .eq 20, 3) := by decide +kernel
theorem d_Me_mend_50 : decode b_Me_mend 50 = .ok (.lload_n 2, 1) := by decide +kernel
theorem d_Me_mend_51 : decode b_Me_mend 51 = .ok (.invokestatic 37, 3) := by decide +kernel
theorem d_Me_mend_54 : decode b_Me_mend 54 = .ok (.lreturn, 1) := by decide +kernel
theorem d_Me_mend_33 : decode b_Me_mend 33 = .ok (.aload_n 0, 1) := by decide +kernel
theorem d_Me_mend_34 : decode b_Me_mend 34 = .ok (.getfield 9, 3) := by decide +kernel
theorem d_Me_mend_37 : decode b_Me_mend 37 = .ok (.iload_n 1, 1) := by decide +kernel
theorem d_Me_mend_38 : decode b_Me_mend 38 = .ok (.lload_n 2, 1) := by decide +kernel
theorem d_Me_mend_39 : decode b_Me_mend 39 = .ok (.lastore, 1) := by decide +kernel
theorem d_Me_mend_40 : decode b_Me_mend 40 = .ok (.aload_n 0, 1) := by decide +kernel
theorem d_Me_mend_41 : decode b_Me_mend 41 = .ok (.dup, 1) := by decide +kernel
theorem d_Me_mend_42 : decode b_Me_mend 42 = .ok (.getfield 40, 3) := by decide +kernel
theorem d_Me_mend_45 : decode b_Me_mend 45 = .ok (.iconst 1, 1) := by decide +kernel
theorem d_Me_mend_46 : decode b_Me_mend 46 = .ok (.iadd, 1) := by decide +kernel
theorem d_Me_mend_47 : decode b_Me_mend 47 = .ok (.putfield 40, 3) := by decide +kernel
theorem d_Me_mend_18 : decode b_Me_mend 18 = .ok (.ldc2_w 35, 3) := by decide +kernel
theorem d_Me_mend_21 : decode b_Me_mend 21 = .ok (.lreturn, 1) := by decide +kernel
theorem d_Ca_dropAll_0 : decode b_Ca_dropAll 0 = .ok (.aload_n 0, 1) := by decide +kernel
theorem d_Ca_dropAll_1 : decode b_Ca_dropAll 1 = .ok (.getfield 9, 3) := by decide +kernel
theorem d_Ca_dropAll_4 : decode b_Ca_dropAll 4 = .ok (.lconst 0, 1) := by decide +kernel
theorem d_Ca_dropAll_5 : decode b_Ca_dropAll 5 = .ok (.invokestatic 15, 3) := by decide +kernel
theorem d_Ca_dropAll_8 : decode b_Ca_dropAll 8 = .ok (.return_, 1) := by decide +kernel
theorem d_Ca_drop_0 : decode b_Ca_drop 0 = .ok (.aload_n 0, 1) := by decide +kernel
theorem d_Ca_drop_1 : decode b_Ca_drop 1 = .ok (.getfield 9, 3) := by decide +kernel
theorem d_Ca_drop_4 : decode b_Ca_drop 4 = .ok (.iload_n 1, 1) := by decide +kernel
theorem d_Ca_drop_5 : decode b_Ca_drop 5 = .ok (.iconst 3, 1) := by decide +kernel
theorem d_Ca_drop_6 : decode b_Ca_drop 6 = .ok (.iand, 1) := by decide +kernel
theorem d_Ca_drop_7 : decode b_Ca_drop 7 = .ok (.lconst 0, 1) := by decide +kernel
theorem d_Ca_drop_8 : decode b_Ca_drop 8 = .ok (.lastore, 1) := by decide +kernel
theorem d_Ca_drop_9 : decode b_Ca_drop 9 = .ok (.return_, 1) := by decide +kernel
theorem d_Ca_dropIfWrong_0 : decode b_Ca_dropIfWrong 0 = .ok (.aload_n 0, 1) := by decide +kernel
theorem d_Ca_dropIfWrong_1 : decode b_Ca_dropIfWrong 1 = .ok (.getfield 9, 3) := by decide +kernel
theorem d_Ca_dropIfWrong_4 : decode b_Ca_dropIfWrong 4 = .ok (.iload_n 1, 1) := by decide +kernel
theorem d_Ca_dropIfWrong_5 : decode b_Ca_dropIfWrong 5 = .ok (.iconst 3, 1) := by decide +kernel
theorem d_Ca_dropIfWrong_6 : decode b_Ca_dropIfWrong 6 = .ok (.iand, 1) := by decide +kernel
theorem d_Ca_dropIfWrong_7 : decode b_Ca_dropIfWrong 7 = .ok (.laload, 1) := by decide +kernel
theorem d_Ca_dropIfWrong_8 : decode b_Ca_dropIfWrong 8 = .ok (.invokestatic 21, 3) := by decide +kernel
theorem d_Ca_dropIfWrong_11 : decode b_Ca_dropIfWrong 11 = .ok (.iconst 1, 1) := by decide +kernel
theorem d_Ca_dropIfWrong_12 : decode b_Ca_dropIfWrong 12 = .ok (.iand, 1) := by decide +kernel
theorem d_Ca_dropIfWrong_13 : decode b_Ca_dropIfWrong 13 = .ok (.iconst 1, 1) := by decide +kernel
theorem d_Ca_dropIfWrong_14 : decode b_Ca_dropIfWrong 14 = .ok (.if_icmp .ne 22, 3) := by decide +kernel
theorem d_Ca_dropIfWrong_36 : decode b_Ca_dropIfWrong 36 = .ok (.return_, 1) := by decide +kernel
theorem d_Ca_dropIfWrong_17 : decode b_Ca_dropIfWrong 17 = .ok (.aload_n 0, 1) := by decide +kernel
theorem d_Ca_dropIfWrong_18 : decode b_Ca_dropIfWrong 18 = .ok (.getfield 9, 3) := by decide +kernel
theorem d_Ca_dropIfWrong_21 : decode b_Ca_dropIfWrong 21 = .ok (.iload_n 1, 1) := by decide +kernel
theorem d_Ca_dropIfWrong_22 : decode b_Ca_dropIfWrong 22 = .ok (.iconst 3, 1) := by decide +kernel
theorem d_Ca_dropIfWrong_23 : decode b_Ca_dropIfWrong 23 = .ok (.iand, 1) := by decide +kernel
theorem d_Ca_dropIfWrong_24 : decode b_Ca_dropIfWrong 24 = .ok (.lconst 0, 1) := by decide +kernel
theorem d_Ca_dropIfWrong_25 : decode b_Ca_dropIfWrong 25 = .ok (.lastore, 1) := by decide +kernel
theorem d_Ca_dropIfWrong_26 : decode b_Ca_dropIfWrong 26 = .ok (.aload_n 0, 1) := by decide +kernel
theorem d_Ca_dropIfWrong_27 : decode b_Ca_dropIfWrong 27 = .ok (.dup, 1) := by decide +kernel
theorem d_Ca_dropIfWrong_28 : decode b_Ca_dropIfWrong 28 = .ok (.getfield 27, 3) := by decide +kernel
theorem d_Ca_dropIfWrong_31 : decode b_Ca_dropIfWrong 31 = .ok (.iconst 1, 1) := by decide +kernel
theorem d_Ca_dropIfWrong_32 : decode b_Ca_dropIfWrong 32 = .ok (.iadd, 1) := by decide +kernel
theorem d_Ca_dropIfWrong_33 : decode b_Ca_dropIfWrong 33 = .ok (.putfield 27, 3) := by decide +kernel
theorem d_Ca_holds_0 : decode b_Ca_holds 0 = .ok (.aload_n 0, 1) := by decide +kernel
theorem d_Ca_holds_1 : decode b_Ca_holds 1 = .ok (.getfield 9, 3) := by decide +kernel
theorem d_Ca_holds_4 : decode b_Ca_holds 4 = .ok (.iload_n 1, 1) := by decide +kernel
theorem d_Ca_holds_5 : decode b_Ca_holds 5 = .ok (.iconst 3, 1) := by decide +kernel
theorem d_Ca_holds_6 : decode b_Ca_holds 6 = .ok (.iand, 1) := by decide +kernel
theorem d_Ca_holds_7 : decode b_Ca_holds 7 = .ok (.laload, 1) := by decide +kernel
theorem d_Ca_holds_8 : decode b_Ca_holds 8 = .ok (.bipush 32, 2) := by decide +kernel
theorem d_Ca_holds_10 : decode b_Ca_holds 10 = .ok (.lushr, 1) := by decide +kernel
theorem d_Ca_holds_11 : decode b_Ca_holds 11 = .ok (.ldc2_w 31, 3) := by decide +kernel
theorem d_Ca_holds_14 : decode b_Ca_holds 14 = .ok (.land, 1) := by decide +kernel
theorem d_Ca_holds_15 : decode b_Ca_holds 15 = .ok (.bipush 16, 2) := by decide +kernel
theorem d_Ca_holds_17 : decode b_Ca_holds 17 = .ok (.iload_n 1, 1) := by decide +kernel
theorem d_Ca_holds_18 : decode b_Ca_holds 18 = .ok (.iconst 2, 1) := by decide +kernel
theorem d_Ca_holds_19 : decode b_Ca_holds 19 = .ok (.iushr, 1) := by decide +kernel
theorem d_Ca_holds_20 : decode b_Ca_holds 20 = .ok (.ior, 1) := by decide +kernel
theorem d_Ca_holds_21 : decode b_Ca_holds 21 = .ok (.i2l, 1) := by decide +kernel
theorem d_Ca_holds_22 : decode b_Ca_holds 22 = .ok (.lcmp, 1) := by decide +kernel
theorem d_Ca_holds_23 : decode b_Ca_holds 23 = .ok (.ifCond .ne 7, 3) := by decide +kernel
theorem d_Ca_holds_30 : decode b_Ca_holds 30 = .ok (.iconst 0, 1) := by decide +kernel
theorem d_Ca_holds_31 : decode b_Ca_holds 31 = .ok (.ireturn, 1) := by decide +kernel
theorem d_Ca_holds_26 : decode b_Ca_holds 26 = .ok (.iconst 1, 1) := by decide +kernel
theorem d_Ca_holds_27 : decode b_Ca_holds 27 = .ok (.goto 4, 3) := by decide +kernel
theorem d_Ca_held_0 : decode b_Ca_held 0 = .ok (.aload_n 0, 1) := by decide +kernel
theorem d_Ca_held_1 : decode b_Ca_held 1 = .ok (.getfield 9, 3) := by decide +kernel
theorem d_Ca_held_4 : decode b_Ca_held 4 = .ok (.iload_n 1, 1) := by decide +kernel
theorem d_Ca_held_5 : decode b_Ca_held 5 = .ok (.iconst 3, 1) := by decide +kernel
theorem d_Ca_held_6 : decode b_Ca_held 6 = .ok (.iand, 1) := by decide +kernel
theorem d_Ca_held_7 : decode b_Ca_held 7 = .ok (.laload, 1) := by decide +kernel
theorem d_Ca_held_8 : decode b_Ca_held 8 = .ok (.ldc2_w 33, 3) := by decide +kernel
end
section
theorem d_Ca_held_11 : decode b_Ca_held 11 = .ok (.land, 1) := by decide +kernel
theorem d_Ca_held_12 : decode b_Ca_held 12 = .ok (.lreturn, 1) := by decide +kernel
theorem d_Ca_fill_0 : decode b_Ca_fill 0 = .ok (.iload_n 2, 1) := by decide +kernel
theorem d_Ca_fill_1 : decode b_Ca_fill 1 = .ok (.i2l, 1) := by decide +kernel
theorem d_Ca_fill_2 : decode b_Ca_fill 2 = .ok (.ldc2_w 33, 3) := by decide +kernel
theorem d_Ca_fill_5 : decode b_Ca_fill 5 = .ok (.land, 1) := by decide +kernel
theorem d_Ca_fill_6 : decode b_Ca_fill 6 = .ok (.bipush 16, 2) := by decide +kernel
theorem d_Ca_fill_8 : decode b_Ca_fill 8 = .ok (.iload_n 1, 1) := by decide +kernel
theorem d_Ca_fill_9 : decode b_Ca_fill 9 = .ok (.iconst 2, 1) := by decide +kernel
theorem d_Ca_fill_10 : decode b_Ca_fill 10 = .ok (.iushr, 1) := by decide +kernel
theorem d_Ca_fill_11 : decode b_Ca_fill 11 = .ok (.ior, 1) := by decide +kernel
theorem d_Ca_fill_12 : decode b_Ca_fill 12 = .ok (.i2l, 1) := by decide +kernel
theorem d_Ca_fill_13 : decode b_Ca_fill 13 = .ok (.bipush 32, 2) := by decide +kernel
theorem d_Ca_fill_15 : decode b_Ca_fill 15 = .ok (.lshl, 1) := by decide +kernel
theorem d_Ca_fill_16 : decode b_Ca_fill 16 = .ok (.lor, 1) := by decide +kernel
theorem d_Ca_fill_17 : decode b_Ca_fill 17 = .ok (.lstore_n 3, 1) := by decide +kernel
theorem d_Ca_fill_18 : decode b_Ca_fill 18 = .ok (.aload_n 0, 1) := by decide +kernel
theorem d_Ca_fill_19 : decode b_Ca_fill 19 = .ok (.getfield 9, 3) := by decide +kernel
theorem d_Ca_fill_22 : decode b_Ca_fill 22 = .ok (.iload_n 1, 1) := by decide +kernel
theorem d_Ca_fill_23 : decode b_Ca_fill 23 = .ok (.iconst 3, 1) := by decide +kernel
theorem d_Ca_fill_24 : decode b_Ca_fill 24 = .ok (.iand, 1) := by decide +kernel
theorem d_Ca_fill_25 : decode b_Ca_fill 25 = .ok (.lload_n 3, 1) := by decide +kernel
theorem d_Ca_fill_26 : decode b_Ca_fill 26 = .ok (.lload_n 3, 1) := by decide +kernel
theorem d_Ca_fill_27 : decode b_Ca_fill 27 = .ok (.invokestatic 21, 3) := by decide +kernel
theorem d_Ca_fill_30 : decode b_Ca_fill 30 = .ok (.i2l, 1) := by decide +kernel
theorem d_Ca_fill_31 : decode b_Ca_fill 31 = .ok (.lconst 1, 1) := by decide +kernel
theorem d_Ca_fill_32 : decode b_Ca_fill 32 = .ok (.land, 1) := by decide +kernel
theorem d_Ca_fill_33 : decode b_Ca_fill 33 = .ok (.bipush 37, 2) := by decide +kernel
theorem d_Ca_fill_35 : decode b_Ca_fill 35 = .ok (.lshl, 1) := by decide +kernel
theorem d_Ca_fill_36 : decode b_Ca_fill 36 = .ok (.lor, 1) := by decide +kernel
theorem d_Ca_fill_37 : decode b_Ca_fill 37 = .ok (.lastore, 1) := by decide +kernel
theorem d_Ca_fill_38 : decode b_Ca_fill 38 = .ok (.return_, 1) := by decide +kernel
theorem d_Re_agreed_0 : decode b_Re_agreed 0 = .ok (.aload_n 0, 1) := by decide +kernel
theorem d_Re_agreed_1 : decode b_Re_agreed 1 = .ok (.getfield 9, 3) := by decide +kernel
theorem d_Re_agreed_4 : decode b_Re_agreed 4 = .ok (.iconst 3, 1) := by decide +kernel
theorem d_Re_agreed_5 : decode b_Re_agreed 5 = .ok (.iload_n 1, 1) := by decide +kernel
theorem d_Re_agreed_6 : decode b_Re_agreed 6 = .ok (.imul, 1) := by decide +kernel
theorem d_Re_agreed_7 : decode b_Re_agreed 7 = .ok (.iaload, 1) := by decide +kernel
theorem d_Re_agreed_8 : decode b_Re_agreed 8 = .ok (.istore_n 2, 1) := by decide +kernel
theorem d_Re_agreed_9 : decode b_Re_agreed 9 = .ok (.aload_n 0, 1) := by decide +kernel
theorem d_Re_agreed_10 : decode b_Re_agreed 10 = .ok (.getfield 9, 3) := by decide +kernel
theorem d_Re_agreed_13 : decode b_Re_agreed 13 = .ok (.iconst 3, 1) := by decide +kernel
theorem d_Re_agreed_14 : decode b_Re_agreed 14 = .ok (.iload_n 1, 1) := by decide +kernel
theorem d_Re_agreed_15 : decode b_Re_agreed 15 = .ok (.imul, 1) := by decide +kernel
theorem d_Re_agreed_16 : decode b_Re_agreed 16 = .ok (.iconst 1, 1) := by decide +kernel
theorem d_Re_agreed_17 : decode b_Re_agreed 17 = .ok (.iadd, 1) := by decide +kernel
theorem d_Re_agreed_18 : decode b_Re_agreed 18 = .ok (.iaload, 1) := by decide +kernel
theorem d_Re_agreed_19 : decode b_Re_agreed 19 = .ok (.istore_n 3, 1) := by decide +kernel
theorem d_Re_agreed_20 : decode b_Re_agreed 20 = .ok (.aload_n 0, 1) := by decide +kernel
theorem d_Re_agreed_21 : decode b_Re_agreed 21 = .ok (.getfield 9, 3) := by decide +kernel
theorem d_Re_agreed_24 : decode b_Re_agreed 24 = .ok (.iconst 3, 1) := by decide +kernel
theorem d_Re_agreed_25 : decode b_Re_agreed 25 = .ok (.iload_n 1, 1) := by decide +kernel
theorem d_Re_agreed_26 : decode b_Re_agreed 26 = .ok (.imul, 1) := by decide +kernel
theorem d_Re_agreed_27 : decode b_Re_agreed 27 = .ok (.iconst 2, 1) := by decide +kernel
theorem d_Re_agreed_28 : decode b_Re_agreed 28 = .ok (.iadd, 1) := by decide +kernel
theorem d_Re_agreed_29 : decode b_Re_agreed 29 = .ok (.iaload, 1) := by decide +kernel
theorem d_Re_agreed_30 : decode b_Re_agreed 30 = .ok (.istore 4, 2) := by decide +kernel
theorem d_Re_agreed_32 : decode b_Re_agreed 32 = .ok (.iload_n 2, 1) := by decide +kernel
theorem d_Re_agreed_33 : decode b_Re_agreed 33 = .ok (.iload_n 3, 1) := by decide +kernel
theorem d_Re_agreed_34 : decode b_Re_agreed 34 = .ok (.iand, 1) := by decide +kernel
theorem d_Re_agreed_35 : decode b_Re_agreed 35 = .ok (.iload_n 2, 1) := by decide +kernel
theorem d_Re_agreed_36 : decode b_Re_agreed 36 = .ok (.iload 4, 2) := by decide +kernel
theorem d_Re_agreed_38 : decode b_Re_agreed 38 = .ok (.iand, 1) := by decide +kernel
theorem d_Re_agreed_39 : decode b_Re_agreed 39 = .ok (.ior, 1) := by decide +kernel
theorem d_Re_agreed_40 : decode b_Re_agreed 40 = .ok (.iload_n 3, 1) := by decide +kernel
theorem d_Re_agreed_41 : decode b_Re_agreed 41 = .ok (.iload 4, 2) := by decide +kernel
theorem d_Re_agreed_43 : decode b_Re_agreed 43 = .ok (.iand, 1) := by decide +kernel
theorem d_Re_agreed_44 : decode b_Re_agreed 44 = .ok (.ior, 1) := by decide +kernel
theorem d_Re_agreed_45 : decode b_Re_agreed 45 = .ok (.ireturn, 1) := by decide +kernel
theorem d_Re_put_0 : decode b_Re_put 0 = .ok (.aload_n 0, 1) := by decide +kernel
theorem d_Re_put_1 : decode b_Re_put 1 = .ok (.getfield 9, 3) := by decide +kernel
theorem d_Re_put_4 : decode b_Re_put 4 = .ok (.iconst 3, 1) := by decide +kernel
theorem d_Re_put_5 : decode b_Re_put 5 = .ok (.iload_n 1, 1) := by decide +kernel
theorem d_Re_put_6 : decode b_Re_put 6 = .ok (.imul, 1) := by decide +kernel
theorem d_Re_put_7 : decode b_Re_put 7 = .ok (.iload_n 2, 1) := by decide +kernel
theorem d_Re_put_8 : decode b_Re_put 8 = .ok (.iastore, 1) := by decide +kernel
theorem d_Re_put_9 : decode b_Re_put 9 = .ok (.aload_n 0, 1) := by decide +kernel
theorem d_Re_put_10 : decode b_Re_put 10 = .ok (.getfield 9, 3) := by decide +kernel
theorem d_Re_put_13 : decode b_Re_put 13 = .ok (.iconst 3, 1) := by decide +kernel
theorem d_Re_put_14 : decode b_Re_put 14 = .ok (.iload_n 1, 1) := by decide +kernel
theorem d_Re_put_15 : decode b_Re_put 15 = .ok (.imul, 1) := by decide +kernel
theorem d_Re_put_16 : decode b_Re_put 16 = .ok (.iconst 1, 1) := by decide +kernel
theorem d_Re_put_17 : decode b_Re_put 17 = .ok (.iadd, 1) := by decide +kernel
theorem d_Re_put_18 : decode b_Re_put 18 = .ok (.iload_n 2, 1) := by decide +kernel
theorem d_Re_put_19 : decode b_Re_put 19 = .ok (.iastore, 1) := by decide +kernel
theorem d_Re_put_20 : decode b_Re_put 20 = .ok (.aload_n 0, 1) := by decide +kernel
theorem d_Re_put_21 : decode b_Re_put 21 = .ok (.getfield 9, 3) := by decide +kernel
theorem d_Re_put_24 : decode b_Re_put 24 = .ok (.iconst 3, 1) := by decide +kernel
theorem d_Re_put_25 : decode b_Re_put 25 = .ok (.iload_n 1, 1) := by decide +kernel
theorem d_Re_put_26 : decode b_Re_put 26 = .ok (.imul, 1) := by decide +kernel
theorem d_Re_put_27 : decode b_Re_put 27 = .ok (.iconst 2, 1) := by decide +kernel
theorem d_Re_put_28 : decode b_Re_put 28 = .ok (.iadd, 1) := by decide +kernel
theorem d_Re_put_29 : decode b_Re_put 29 = .ok (.iload_n 2, 1) := by decide +kernel
theorem d_Re_put_30 : decode b_Re_put 30 = .ok (.iastore, 1) := by decide +kernel
theorem d_Re_put_31 : decode b_Re_put 31 = .ok (.return_, 1) := by decide +kernel
theorem d_Re_operand_0 : decode b_Re_operand 0 = .ok (.iload_n 1, 1) := by decide +kernel
theorem d_Re_operand_1 : decode b_Re_operand 1 = .ok (.ifCond .ne 7, 3) := by decide +kernel
theorem d_Re_operand_8 : decode b_Re_operand 8 = .ok (.aload_n 0, 1) := by decide +kernel
theorem d_Re_operand_9 : decode b_Re_operand 9 = .ok (.iload_n 1, 1) := by decide +kernel
theorem d_Re_operand_10 : decode b_Re_operand 10 = .ok (.invokevirtual 15, 3) := by decide +kernel
theorem d_Re_operand_13 : decode b_Re_operand 13 = .ok (.ireturn, 1) := by decide +kernel
theorem d_Re_operand_4 : decode b_Re_operand 4 = .ok (.iconst 0, 1) := by decide +kernel
theorem d_Re_operand_5 : decode b_Re_operand 5 = .ok (.goto 8, 3) := by decide +kernel
theorem d_Re_putResult_0 : decode b_Re_putResult 0 = .ok (.iload_n 1, 1) := by decide +kernel
theorem d_Re_putResult_1 : decode b_Re_putResult 1 = .ok (.ifCond .eq 9, 3) := by decide +kernel
theorem d_Re_putResult_10 : decode b_Re_putResult 10 = .ok (.return_, 1) := by decide +kernel
theorem d_Re_putResult_4 : decode b_Re_putResult 4 = .ok (.aload_n 0, 1) := by decide +kernel
theorem d_Re_putResult_5 : decode b_Re_putResult 5 = .ok (.iload_n 1, 1) := by decide +kernel
theorem d_Re_putResult_6 : decode b_Re_putResult 6 = .ok (.iload_n 2, 1) := by decide +kernel
theorem d_Re_putResult_7 : decode b_Re_putResult 7 = .ok (.invokevirtual 19, 3) := by decide +kernel
theorem d_Re_vote_0 : decode b_Re_vote 0 = .ok (.iconst 0, 1) := by decide +kernel
theorem d_Re_vote_1 : decode b_Re_vote 1 = .ok (.istore_n 1, 1) := by decide +kernel
theorem d_Re_vote_2 : decode b_Re_vote 2 = .ok (.iload_n 1, 1) := by decide +kernel
theorem d_Re_vote_3 : decode b_Re_vote 3 = .ok (.bipush 32, 2) := by decide +kernel
theorem d_Re_vote_5 : decode b_Re_vote 5 = .ok (.if_icmp .ge 66, 3) := by decide +kernel
theorem d_Re_vote_71 : decode b_Re_vote 71 = .ok (.return_, 1) := by decide +kernel
theorem d_Re_vote_8 : decode b_Re_vote 8 = .ok (.aload_n 0, 1) := by decide +kernel
theorem d_Re_vote_9 : decode b_Re_vote 9 = .ok (.getfield 9, 3) := by decide +kernel
theorem d_Re_vote_12 : decode b_Re_vote 12 = .ok (.iconst 3, 1) := by decide +kernel
theorem d_Re_vote_13 : decode b_Re_vote 13 = .ok (.iload_n 1, 1) := by decide +kernel
theorem d_Re_vote_14 : decode b_Re_vote 14 = .ok (.imul, 1) := by decide +kernel
theorem d_Re_vote_15 : decode b_Re_vote 15 = .ok (.iaload, 1) := by decide +kernel
theorem d_Re_vote_16 : decode b_Re_vote 16 = .ok (.istore_n 2, 1) := by decide +kernel
theorem d_Re_vote_17 : decode b_Re_vote 17 = .ok (.iload_n 2, 1) := by decide +kernel
theorem d_Re_vote_18 : decode b_Re_vote 18 = .ok (.aload_n 0, 1) := by decide +kernel
theorem d_Re_vote_19 : decode b_Re_vote 19 = .ok (.getfield 9, 3) := by decide +kernel
theorem d_Re_vote_22 : decode b_Re_vote 22 = .ok (.iconst 3, 1) := by decide +kernel
theorem d_Re_vote_23 : decode b_Re_vote 23 = .ok (.iload_n 1, 1) := by decide +kernel
theorem d_Re_vote_24 : decode b_Re_vote 24 = .ok (.imul, 1) := by decide +kernel
theorem d_Re_vote_25 : decode b_Re_vote 25 = .ok (.iconst 1, 1) := by decide +kernel
theorem d_Re_vote_26 : decode b_Re_vote 26 = .ok (.iadd, 1) := by decide +kernel
theorem d_Re_vote_27 : decode b_Re_vote 27 = .ok (.iaload, 1) := by decide +kernel
theorem d_Re_vote_28 : decode b_Re_vote 28 = .ok (.if_icmp .ne 17, 3) := by decide +kernel
theorem d_Re_vote_45 : decode b_Re_vote 45 = .ok (.aload_n 0, 1) := by decide +kernel
theorem d_Re_vote_46 : decode b_Re_vote 46 = .ok (.iload_n 1, 1) := by decide +kernel
theorem d_Re_vote_47 : decode b_Re_vote 47 = .ok (.aload_n 0, 1) := by decide +kernel
theorem d_Re_vote_48 : decode b_Re_vote 48 = .ok (.iload_n 1, 1) := by decide +kernel
theorem d_Re_vote_49 : decode b_Re_vote 49 = .ok (.invokevirtual 15, 3) := by decide +kernel
theorem d_Re_vote_52 : decode b_Re_vote 52 = .ok (.invokevirtual 19, 3) := by decide +kernel
theorem d_Re_vote_55 : decode b_Re_vote 55 = .ok (.aload_n 0, 1) := by decide +kernel
theorem d_Re_vote_56 : decode b_Re_vote 56 = .ok (.dup, 1) := by decide +kernel
theorem d_Re_vote_57 : decode b_Re_vote 57 = .ok (.getfield 23, 3) := by decide +kernel
theorem d_Re_vote_60 : decode b_Re_vote 60 = .ok (.iconst 1, 1) := by decide +kernel
theorem d_Re_vote_61 : decode b_Re_vote 61 = .ok (.iadd, 1) := by decide +kernel
theorem d_Re_vote_62 : decode b_Re_vote 62 = .ok (.putfield 23, 3) := by decide +kernel
theorem d_Re_vote_65 : decode b_Re_vote 65 = .ok (.iinc 1 1, 3) := by decide +kernel
theorem d_Re_vote_68 : decode b_Re_vote 68 = .ok (.goto (-66), 3) := by decide +kernel
theorem d_Re_vote_31 : decode b_Re_vote 31 = .ok (.iload_n 2, 1) := by decide +kernel
theorem d_Re_vote_32 : decode b_Re_vote 32 = .ok (.aload_n 0, 1) := by decide +kernel
theorem d_Re_vote_33 : decode b_Re_vote 33 = .ok (.getfield 9, 3) := by decide +kernel
theorem d_Re_vote_36 : decode b_Re_vote 36 = .ok (.iconst 3, 1) := by decide +kernel
theorem d_Re_vote_37 : decode b_Re_vote 37 = .ok (.iload_n 1, 1) := by decide +kernel
theorem d_Re_vote_38 : decode b_Re_vote 38 = .ok (.imul, 1) := by decide +kernel
theorem d_Re_vote_39 : decode b_Re_vote 39 = .ok (.iconst 2, 1) := by decide +kernel
theorem d_Re_vote_40 : decode b_Re_vote 40 = .ok (.iadd, 1) := by decide +kernel
theorem d_Re_vote_41 : decode b_Re_vote 41 = .ok (.iaload, 1) := by decide +kernel
theorem d_Re_vote_42 : decode b_Re_vote 42 = .ok (.if_icmp .eq 23, 3) := by decide +kernel
theorem d_Fa_append_0 : decode b_Fa_append 0 = .ok (.aload_n 0, 1) := by decide +kernel
theorem d_Fa_append_1 : decode b_Fa_append 1 = .ok (.getfield 9, 3) := by decide +kernel
theorem d_Fa_append_4 : decode b_Fa_append 4 = .ok (.aload_n 0, 1) := by decide +kernel
theorem d_Fa_append_5 : decode b_Fa_append 5 = .ok (.getfield 21, 3) := by decide +kernel
theorem d_Fa_append_8 : decode b_Fa_append 8 = .ok (.iload_n 1, 1) := by decide +kernel
theorem d_Fa_append_9 : decode b_Fa_append 9 = .ok (.iastore, 1) := by decide +kernel
theorem d_Fa_append_10 : decode b_Fa_append 10 = .ok (.aload_n 0, 1) := by decide +kernel
theorem d_Fa_append_11 : decode b_Fa_append 11 = .ok (.getfield 15, 3) := by decide +kernel
theorem d_Fa_append_14 : decode b_Fa_append 14 = .ok (.aload_n 0, 1) := by decide +kernel
theorem d_Fa_append_15 : decode b_Fa_append 15 = .ok (.getfield 21, 3) := by decide +kernel
theorem d_Fa_append_18 : decode b_Fa_append 18 = .ok (.iload_n 2, 1) := by decide +kernel
theorem d_Fa_append_19 : decode b_Fa_append 19 = .ok (.iastore, 1) := by decide +kernel
theorem d_Fa_append_20 : decode b_Fa_append 20 = .ok (.aload_n 0, 1) := by decide +kernel
theorem d_Fa_append_21 : decode b_Fa_append 21 = .ok (.getfield 18, 3) := by decide +kernel
theorem d_Fa_append_24 : decode b_Fa_append 24 = .ok (.aload_n 0, 1) := by decide +kernel
theorem d_Fa_append_25 : decode b_Fa_append 25 = .ok (.getfield 21, 3) := by decide +kernel
theorem d_Fa_append_28 : decode b_Fa_append 28 = .ok (.iload_n 3, 1) := by decide +kernel
theorem d_Fa_append_29 : decode b_Fa_append 29 = .ok (.iastore, 1) := by decide +kernel
theorem d_Fa_append_30 : decode b_Fa_append 30 = .ok (.aload_n 0, 1) := by decide +kernel
theorem d_Fa_append_31 : decode b_Fa_append 31 = .ok (.dup, 1) := by decide +kernel
theorem d_Fa_append_32 : decode b_Fa_append 32 = .ok (.getfield 21, 3) := by decide +kernel
theorem d_Fa_append_35 : decode b_Fa_append 35 = .ok (.iconst 1, 1) := by decide +kernel
theorem d_Fa_append_36 : decode b_Fa_append 36 = .ok (.iadd, 1) := by decide +kernel
theorem d_Fa_append_37 : decode b_Fa_append 37 = .ok (.putfield 21, 3) := by decide +kernel
theorem d_Fa_append_40 : decode b_Fa_append 40 = .ok (.return_, 1) := by decide +kernel
theorem d_Fa_move_0 : decode b_Fa_move 0 = .ok (.aload_n 0, 1) := by decide +kernel
theorem d_Fa_move_1 : decode b_Fa_move 1 = .ok (.getfield 9, 3) := by decide +kernel
theorem d_Fa_move_4 : decode b_Fa_move 4 = .ok (.iload_n 2, 1) := by decide +kernel
theorem d_Fa_move_5 : decode b_Fa_move 5 = .ok (.aload_n 0, 1) := by decide +kernel
theorem d_Fa_move_6 : decode b_Fa_move 6 = .ok (.getfield 9, 3) := by decide +kernel
theorem d_Fa_move_9 : decode b_Fa_move 9 = .ok (.iload_n 1, 1) := by decide +kernel
theorem d_Fa_move_10 : decode b_Fa_move 10 = .ok (.iaload, 1) := by decide +kernel
theorem d_Fa_move_11 : decode b_Fa_move 11 = .ok (.iastore, 1) := by decide +kernel
theorem d_Fa_move_12 : decode b_Fa_move 12 = .ok (.aload_n 0, 1) := by decide +kernel
theorem d_Fa_move_13 : decode b_Fa_move 13 = .ok (.getfield 15, 3) := by decide +kernel
theorem d_Fa_move_16 : decode b_Fa_move 16 = .ok (.iload_n 2, 1) := by decide +kernel
theorem d_Fa_move_17 : decode b_Fa_move 17 = .ok (.aload_n 0, 1) := by decide +kernel
theorem d_Fa_move_18 : decode b_Fa_move 18 = .ok (.getfield 15, 3) := by decide +kernel
theorem d_Fa_move_21 : decode b_Fa_move 21 = .ok (.iload_n 1, 1) := by decide +kernel
theorem d_Fa_move_22 : decode b_Fa_move 22 = .ok (.iaload, 1) := by decide +kernel
theorem d_Fa_move_23 : decode b_Fa_move 23 = .ok (.iastore, 1) := by decide +kernel
theorem d_Fa_move_24 : decode b_Fa_move 24 = .ok (.aload_n 0, 1) := by decide +kernel
theorem d_Fa_move_25 : decode b_Fa_move 25 = .ok (.getfield 18, 3) := by decide +kernel
theorem d_Fa_move_28 : decode b_Fa_move 28 = .ok (.iload_n 2, 1) := by decide +kernel
theorem d_Fa_move_29 : decode b_Fa_move 29 = .ok (.aload_n 0, 1) := by decide +kernel
theorem d_Fa_move_30 : decode b_Fa_move 30 = .ok (.getfield 18, 3) := by decide +kernel
theorem d_Fa_move_33 : decode b_Fa_move 33 = .ok (.iload_n 1, 1) := by decide +kernel
theorem d_Fa_move_34 : decode b_Fa_move 34 = .ok (.iaload, 1) := by decide +kernel
theorem d_Fa_move_35 : decode b_Fa_move 35 = .ok (.iastore, 1) := by decide +kernel
theorem d_Fa_move_36 : decode b_Fa_move 36 = .ok (.return_, 1) := by decide +kernel
theorem d_V_isWord_0 : decode b_V_isWord 0 = .ok (.iload_n 0, 1) := by decide +kernel
theorem d_V_isWord_1 : decode b_V_isWord 1 = .ok (.ifCond .lt 13, 3) := by decide +kernel
theorem d_V_isWord_14 : decode b_V_isWord 14 = .ok (.iconst 0, 1) := by decide +kernel
theorem d_V_isWord_15 : decode b_V_isWord 15 = .ok (.ireturn, 1) := by decide +kernel
theorem d_V_isWord_4 : decode b_V_isWord 4 = .ok (.iload_n 0, 1) := by decide +kernel
theorem d_V_isWord_5 : decode b_V_isWord 5 = .ok (.bipush 64, 2) := by decide +kernel
theorem d_V_isWord_7 : decode b_V_isWord 7 = .ok (.if_icmp .ge 7, 3) := by decide +kernel
theorem d_V_isWord_10 : decode b_V_isWord 10 = .ok (.iconst 1, 1) := by decide +kernel
theorem d_V_isWord_11 : decode b_V_isWord 11 = .ok (.goto 4, 3) := by decide +kernel
theorem d_V_isRegister_0 : decode b_V_isRegister 0 = .ok (.iload_n 0, 1) := by decide +kernel
theorem d_V_isRegister_1 : decode b_V_isRegister 1 = .ok (.ifCond .lt 13, 3) := by decide +kernel
theorem d_V_isRegister_14 : decode b_V_isRegister 14 = .ok (.iconst 0, 1) := by decide +kernel
theorem d_V_isRegister_15 : decode b_V_isRegister 15 = .ok (.ireturn, 1) := by decide +kernel
theorem d_V_isRegister_4 : decode b_V_isRegister 4 = .ok (.iload_n 0, 1) := by decide +kernel
theorem d_V_isRegister_5 : decode b_V_isRegister 5 = .ok (.bipush 32, 2) := by decide +kernel
theorem d_V_isRegister_7 : decode b_V_isRegister 7 = .ok (.if_icmp .ge 7, 3) := by decide +kernel
theorem d_V_isRegister_10 : decode b_V_isRegister 10 = .ok (.iconst 1, 1) := by decide +kernel
theorem d_V_isRegister_11 : decode b_V_isRegister 11 = .ok (.goto 4, 3) := by decide +kernel
theorem d_V_isBit_0 : decode b_V_isBit 0 = .ok (.iload_n 0, 1) := by decide +kernel
theorem d_V_isBit_1 : decode b_V_isBit 1 = .ok (.ifCond .lt 14, 3) := by decide +kernel
theorem d_V_isBit_15 : decode b_V_isBit 15 = .ok (.iconst 0, 1) := by decide +kernel
theorem d_V_isBit_16 : decode b_V_isBit 16 = .ok (.ireturn, 1) := by decide +kernel
theorem d_V_isBit_4 : decode b_V_isBit 4 = .ok (.iload_n 0, 1) := by decide +kernel
theorem d_V_isBit_5 : decode b_V_isBit 5 = .ok (.sipush 168, 3) := by decide +kernel
theorem d_V_isBit_8 : decode b_V_isBit 8 = .ok (.if_icmp .ge 7, 3) := by decide +kernel
theorem d_V_isBit_11 : decode b_V_isBit 11 = .ok (.iload_n 1, 1) := by decide +kernel
theorem d_V_isBit_12 : decode b_V_isBit 12 = .ok (.ifCond .ge 5, 3) := by decide +kernel
theorem d_V_isBit_17 : decode b_V_isBit 17 = .ok (.iload_n 0, 1) := by decide +kernel
theorem d_V_isBit_18 : decode b_V_isBit 18 = .ok (.bipush 64, 2) := by decide +kernel
theorem d_V_isBit_20 : decode b_V_isBit 20 = .ok (.if_icmp .ge 15, 3) := by decide +kernel
theorem d_V_isBit_35 : decode b_V_isBit 35 = .ok (.iload_n 1, 1) := by decide +kernel
theorem d_V_isBit_36 : decode b_V_isBit 36 = .ok (.iload_n 0, 1) := by decide +kernel
theorem d_V_isBit_37 : decode b_V_isBit 37 = .ok (.sipush 160, 3) := by decide +kernel
theorem d_V_isBit_40 : decode b_V_isBit 40 = .ok (.if_icmp .ge 8, 3) := by decide +kernel
theorem d_V_isBit_48 : decode b_V_isBit 48 = .ok (.bipush 38, 2) := by decide +kernel
theorem d_V_isBit_50 : decode b_V_isBit 50 = .ok (.if_icmp .ge 7, 3) := by decide +kernel
theorem d_V_isBit_57 : decode b_V_isBit 57 = .ok (.iconst 0, 1) := by decide +kernel
theorem d_V_isBit_58 : decode b_V_isBit 58 = .ok (.ireturn, 1) := by decide +kernel
theorem d_V_isBit_53 : decode b_V_isBit 53 = .ok (.iconst 1, 1) := by decide +kernel
theorem d_V_isBit_54 : decode b_V_isBit 54 = .ok (.goto 4, 3) := by decide +kernel
theorem d_V_isBit_43 : decode b_V_isBit 43 = .ok (.bipush 32, 2) := by decide +kernel
theorem d_V_isBit_45 : decode b_V_isBit 45 = .ok (.goto 5, 3) := by decide +kernel
theorem d_V_isBit_23 : decode b_V_isBit 23 = .ok (.iload_n 1, 1) := by decide +kernel
theorem d_V_isBit_24 : decode b_V_isBit 24 = .ok (.bipush 39, 2) := by decide +kernel
theorem d_V_isBit_26 : decode b_V_isBit 26 = .ok (.if_icmp .ge 7, 3) := by decide +kernel
theorem d_V_isBit_33 : decode b_V_isBit 33 = .ok (.iconst 0, 1) := by decide +kernel
theorem d_V_isBit_34 : decode b_V_isBit 34 = .ok (.ireturn, 1) := by decide +kernel
theorem d_V_isBit_29 : decode b_V_isBit 29 = .ok (.iconst 1, 1) := by decide +kernel
theorem d_V_isBit_30 : decode b_V_isBit 30 = .ok (.goto 4, 3) := by decide +kernel
theorem d_V_isAddress_0 : decode b_V_isAddress 0 = .ok (.iload_n 0, 1) := by decide +kernel
theorem d_V_isAddress_1 : decode b_V_isAddress 1 = .ok (.ifCond .lt 22, 3) := by decide +kernel
theorem d_V_isAddress_23 : decode b_V_isAddress 23 = .ok (.iconst 0, 1) := by decide +kernel
theorem d_V_isAddress_24 : decode b_V_isAddress 24 = .ok (.ireturn, 1) := by decide +kernel
theorem d_V_isAddress_4 : decode b_V_isAddress 4 = .ok (.iload_n 0, 1) := by decide +kernel
theorem d_V_isAddress_5 : decode b_V_isAddress 5 = .ok (.sipush 255, 3) := by decide +kernel
theorem d_V_isAddress_8 : decode b_V_isAddress 8 = .ok (.if_icmp .gt 15, 3) := by decide +kernel
theorem d_V_isAddress_11 : decode b_V_isAddress 11 = .ok (.iload_n 0, 1) := by decide +kernel
theorem d_V_isAddress_12 : decode b_V_isAddress 12 = .ok (.iload_n 1, 1) := by decide +kernel
theorem d_V_isAddress_13 : decode b_V_isAddress 13 = .ok (.iconst 1, 1) := by decide +kernel
theorem d_V_isAddress_14 : decode b_V_isAddress 14 = .ok (.isub, 1) := by decide +kernel
theorem d_V_isAddress_15 : decode b_V_isAddress 15 = .ok (.iand, 1) := by decide +kernel
theorem d_V_isAddress_16 : decode b_V_isAddress 16 = .ok (.ifCond .ne 7, 3) := by decide +kernel
theorem d_V_isAddress_19 : decode b_V_isAddress 19 = .ok (.iconst 1, 1) := by decide +kernel
theorem d_V_isAddress_20 : decode b_V_isAddress 20 = .ok (.goto 4, 3) := by decide +kernel
theorem d_V_invert_0 : decode b_V_invert 0 = .ok (.iload_n 1, 1) := by decide +kernel
theorem d_V_invert_1 : decode b_V_invert 1 = .ok (.bipush 64, 2) := by decide +kernel
theorem d_V_invert_3 : decode b_V_invert 3 = .ok (.if_icmp .ge 21, 3) := by decide +kernel
theorem d_V_invert_24 : decode b_V_invert 24 = .ok (.iload_n 1, 1) := by decide +kernel
theorem d_V_invert_25 : decode b_V_invert 25 = .ok (.sipush 160, 3) := by decide +kernel
theorem d_V_invert_28 : decode b_V_invert 28 = .ok (.if_icmp .ge 24, 3) := by decide +kernel
theorem d_V_invert_52 : decode b_V_invert 52 = .ok (.iload_n 1, 1) := by decide +kernel
theorem d_V_invert_53 : decode b_V_invert 53 = .ok (.sipush 164, 3) := by decide +kernel
theorem d_V_invert_56 : decode b_V_invert 56 = .ok (.if_icmp .ge 25, 3) := by decide +kernel
theorem d_V_invert_81 : decode b_V_invert 81 = .ok (.aload_n 0, 1) := by decide +kernel
theorem d_V_invert_82 : decode b_V_invert 82 = .ok (.getfield 23, 3) := by decide +kernel
theorem d_V_invert_85 : decode b_V_invert 85 = .ok (.getfield 90, 3) := by decide +kernel
theorem d_V_invert_88 : decode b_V_invert 88 = .ok (.iload_n 1, 1) := by decide +kernel
theorem d_V_invert_89 : decode b_V_invert 89 = .ok (.sipush 164, 3) := by decide +kernel
theorem d_V_invert_92 : decode b_V_invert 92 = .ok (.isub, 1) := by decide +kernel
theorem d_V_invert_93 : decode b_V_invert 93 = .ok (.dup2, 1) := by decide +kernel
theorem d_V_invert_94 : decode b_V_invert 94 = .ok (.laload, 1) := by decide +kernel
theorem d_V_invert_95 : decode b_V_invert 95 = .ok (.lconst 1, 1) := by decide +kernel
theorem d_V_invert_96 : decode b_V_invert 96 = .ok (.iload_n 2, 1) := by decide +kernel
theorem d_V_invert_97 : decode b_V_invert 97 = .ok (.lshl, 1) := by decide +kernel
theorem d_V_invert_98 : decode b_V_invert 98 = .ok (.lxor, 1) := by decide +kernel
theorem d_V_invert_99 : decode b_V_invert 99 = .ok (.lastore, 1) := by decide +kernel
theorem d_V_invert_100 : decode b_V_invert 100 = .ok (.return_, 1) := by decide +kernel
theorem d_V_invert_59 : decode b_V_invert 59 = .ok (.aload_n 0, 1) := by decide +kernel
theorem d_V_invert_60 : decode b_V_invert 60 = .ok (.getfield 19, 3) := by decide +kernel
theorem d_V_invert_63 : decode b_V_invert 63 = .ok (.getfield 90, 3) := by decide +kernel
theorem d_V_invert_66 : decode b_V_invert 66 = .ok (.iload_n 1, 1) := by decide +kernel
theorem d_V_invert_67 : decode b_V_invert 67 = .ok (.sipush 160, 3) := by decide +kernel
theorem d_V_invert_70 : decode b_V_invert 70 = .ok (.isub, 1) := by decide +kernel
end
section
theorem d_V_invert_71 : decode b_V_invert 71 = .ok (.dup2, 1) := by decide +kernel
theorem d_V_invert_72 : decode b_V_invert 72 = .ok (.laload, 1) := by decide +kernel
theorem d_V_invert_73 : decode b_V_invert 73 = .ok (.lconst 1, 1) := by decide +kernel
theorem d_V_invert_74 : decode b_V_invert 74 = .ok (.iload_n 2, 1) := by decide +kernel
theorem d_V_invert_75 : decode b_V_invert 75 = .ok (.lshl, 1) := by decide +kernel
theorem d_V_invert_76 : decode b_V_invert 76 = .ok (.lxor, 1) := by decide +kernel
theorem d_V_invert_77 : decode b_V_invert 77 = .ok (.lastore, 1) := by decide +kernel
theorem d_V_invert_78 : decode b_V_invert 78 = .ok (.goto 22, 3) := by decide +kernel
theorem d_V_invert_31 : decode b_V_invert 31 = .ok (.aload_n 0, 1) := by decide +kernel
theorem d_V_invert_32 : decode b_V_invert 32 = .ok (.getfield 29, 3) := by decide +kernel
theorem d_V_invert_35 : decode b_V_invert 35 = .ok (.getfield 84, 3) := by decide +kernel
theorem d_V_invert_38 : decode b_V_invert 38 = .ok (.iload_n 1, 1) := by decide +kernel
theorem d_V_invert_39 : decode b_V_invert 39 = .ok (.bipush 64, 2) := by decide +kernel
theorem d_V_invert_41 : decode b_V_invert 41 = .ok (.isub, 1) := by decide +kernel
theorem d_V_invert_42 : decode b_V_invert 42 = .ok (.dup2, 1) := by decide +kernel
theorem d_V_invert_43 : decode b_V_invert 43 = .ok (.iaload, 1) := by decide +kernel
theorem d_V_invert_44 : decode b_V_invert 44 = .ok (.iconst 1, 1) := by decide +kernel
theorem d_V_invert_45 : decode b_V_invert 45 = .ok (.iload_n 2, 1) := by decide +kernel
theorem d_V_invert_46 : decode b_V_invert 46 = .ok (.ishl, 1) := by decide +kernel
theorem d_V_invert_47 : decode b_V_invert 47 = .ok (.ixor, 1) := by decide +kernel
theorem d_V_invert_48 : decode b_V_invert 48 = .ok (.iastore, 1) := by decide +kernel
theorem d_V_invert_49 : decode b_V_invert 49 = .ok (.goto 51, 3) := by decide +kernel
theorem d_V_invert_6 : decode b_V_invert 6 = .ok (.aload_n 0, 1) := by decide +kernel
theorem d_V_invert_7 : decode b_V_invert 7 = .ok (.getfield 12, 3) := by decide +kernel
theorem d_V_invert_10 : decode b_V_invert 10 = .ok (.getfield 80, 3) := by decide +kernel
theorem d_V_invert_13 : decode b_V_invert 13 = .ok (.iload_n 1, 1) := by decide +kernel
theorem d_V_invert_14 : decode b_V_invert 14 = .ok (.dup2, 1) := by decide +kernel
theorem d_V_invert_15 : decode b_V_invert 15 = .ok (.laload, 1) := by decide +kernel
theorem d_V_invert_16 : decode b_V_invert 16 = .ok (.lconst 1, 1) := by decide +kernel
theorem d_V_invert_17 : decode b_V_invert 17 = .ok (.iload_n 2, 1) := by decide +kernel
theorem d_V_invert_18 : decode b_V_invert 18 = .ok (.lshl, 1) := by decide +kernel
theorem d_V_invert_19 : decode b_V_invert 19 = .ok (.lxor, 1) := by decide +kernel
theorem d_V_invert_20 : decode b_V_invert 20 = .ok (.lastore, 1) := by decide +kernel
theorem d_V_invert_21 : decode b_V_invert 21 = .ok (.goto 79, 3) := by decide +kernel
theorem d_V_write_0 : decode b_V_write 0 = .ok (.iload_n 1, 1) := by decide +kernel
theorem d_V_write_1 : decode b_V_write 1 = .ok (.invokestatic 53, 3) := by decide +kernel
theorem d_V_write_4 : decode b_V_write 4 = .ok (.ifCond .ne 5, 3) := by decide +kernel
theorem d_V_write_9 : decode b_V_write 9 = .ok (.aload_n 0, 1) := by decide +kernel
theorem d_V_write_10 : decode b_V_write 10 = .ok (.getfield 12, 3) := by decide +kernel
theorem d_V_write_13 : decode b_V_write 13 = .ok (.iload_n 1, 1) := by decide +kernel
theorem d_V_write_14 : decode b_V_write 14 = .ok (.iload_n 2, 1) := by decide +kernel
theorem d_V_write_15 : decode b_V_write 15 = .ok (.invokevirtual 57, 3) := by decide +kernel
theorem d_V_write_18 : decode b_V_write 18 = .ok (.aload_n 0, 1) := by decide +kernel
theorem d_V_write_19 : decode b_V_write 19 = .ok (.getfield 19, 3) := by decide +kernel
theorem d_V_write_22 : decode b_V_write 22 = .ok (.invokevirtual 61, 3) := by decide +kernel
theorem d_V_write_25 : decode b_V_write 25 = .ok (.aload_n 0, 1) := by decide +kernel
theorem d_V_write_26 : decode b_V_write 26 = .ok (.getfield 23, 3) := by decide +kernel
theorem d_V_write_29 : decode b_V_write 29 = .ok (.invokevirtual 61, 3) := by decide +kernel
theorem d_V_write_32 : decode b_V_write 32 = .ok (.iconst 1, 1) := by decide +kernel
theorem d_V_write_33 : decode b_V_write 33 = .ok (.ireturn, 1) := by decide +kernel
theorem d_V_write_7 : decode b_V_write 7 = .ok (.iconst 0, 1) := by decide +kernel
theorem d_V_write_8 : decode b_V_write 8 = .ok (.ireturn, 1) := by decide +kernel
theorem d_V_set_0 : decode b_V_set 0 = .ok (.iload_n 1, 1) := by decide +kernel
theorem d_V_set_1 : decode b_V_set 1 = .ok (.invokestatic 64, 3) := by decide +kernel
theorem d_V_set_4 : decode b_V_set 4 = .ok (.ifCond .ne 5, 3) := by decide +kernel
theorem d_V_set_9 : decode b_V_set 9 = .ok (.aload_n 0, 1) := by decide +kernel
theorem d_V_set_10 : decode b_V_set 10 = .ok (.getfield 29, 3) := by decide +kernel
theorem d_V_set_13 : decode b_V_set 13 = .ok (.iload_n 1, 1) := by decide +kernel
theorem d_V_set_14 : decode b_V_set 14 = .ok (.iload_n 2, 1) := by decide +kernel
theorem d_V_set_15 : decode b_V_set 15 = .ok (.invokevirtual 67, 3) := by decide +kernel
theorem d_V_set_18 : decode b_V_set 18 = .ok (.iconst 1, 1) := by decide +kernel
theorem d_V_set_19 : decode b_V_set 19 = .ok (.ireturn, 1) := by decide +kernel
theorem d_V_set_7 : decode b_V_set 7 = .ok (.iconst 0, 1) := by decide +kernel
theorem d_V_set_8 : decode b_V_set 8 = .ok (.ireturn, 1) := by decide +kernel
theorem d_V_register_0 : decode b_V_register 0 = .ok (.iload_n 1, 1) := by decide +kernel
theorem d_V_register_1 : decode b_V_register 1 = .ok (.invokestatic 64, 3) := by decide +kernel
theorem d_V_register_4 : decode b_V_register 4 = .ok (.ifCond .eq 14, 3) := by decide +kernel
theorem d_V_register_18 : decode b_V_register 18 = .ok (.iconst 0, 1) := by decide +kernel
theorem d_V_register_19 : decode b_V_register 19 = .ok (.ireturn, 1) := by decide +kernel
theorem d_V_register_7 : decode b_V_register 7 = .ok (.aload_n 0, 1) := by decide +kernel
theorem d_V_register_8 : decode b_V_register 8 = .ok (.getfield 29, 3) := by decide +kernel
theorem d_V_register_11 : decode b_V_register 11 = .ok (.iload_n 1, 1) := by decide +kernel
theorem d_V_register_12 : decode b_V_register 12 = .ok (.invokevirtual 70, 3) := by decide +kernel
theorem d_V_register_15 : decode b_V_register 15 = .ok (.goto 4, 3) := by decide +kernel
theorem d_V_look_0 : decode b_V_look 0 = .ok (.iload_n 1, 1) := by decide +kernel
theorem d_V_look_1 : decode b_V_look 1 = .ok (.invokestatic 53, 3) := by decide +kernel
theorem d_V_look_4 : decode b_V_look 4 = .ok (.ifCond .eq 14, 3) := by decide +kernel
theorem d_V_look_18 : decode b_V_look 18 = .ok (.ldc2_w 78, 3) := by decide +kernel
theorem d_V_look_21 : decode b_V_look 21 = .ok (.lreturn, 1) := by decide +kernel
theorem d_V_look_7 : decode b_V_look 7 = .ok (.aload_n 0, 1) := by decide +kernel
theorem d_V_look_8 : decode b_V_look 8 = .ok (.getfield 12, 3) := by decide +kernel
theorem d_V_look_11 : decode b_V_look 11 = .ok (.iload_n 1, 1) := by decide +kernel
theorem d_V_look_12 : decode b_V_look 12 = .ok (.invokevirtual 74, 3) := by decide +kernel
theorem d_V_look_15 : decode b_V_look 15 = .ok (.goto 6, 3) := by decide +kernel
theorem d_V_bits_0 : decode b_V_bits 0 = .ok (.iload_n 1, 1) := by decide +kernel
theorem d_V_bits_1 : decode b_V_bits 1 = .ok (.ifCond .lt 10, 3) := by decide +kernel
theorem d_V_bits_11 : decode b_V_bits 11 = .ok (.ldc2_w 78, 3) := by decide +kernel
theorem d_V_bits_14 : decode b_V_bits 14 = .ok (.lreturn, 1) := by decide +kernel
theorem d_V_bits_4 : decode b_V_bits 4 = .ok (.iload_n 1, 1) := by decide +kernel
theorem d_V_bits_5 : decode b_V_bits 5 = .ok (.sipush 168, 3) := by decide +kernel
theorem d_V_bits_8 : decode b_V_bits 8 = .ok (.if_icmp .lt 7, 3) := by decide +kernel
theorem d_V_bits_15 : decode b_V_bits 15 = .ok (.iload_n 1, 1) := by decide +kernel
theorem d_V_bits_16 : decode b_V_bits 16 = .ok (.bipush 64, 2) := by decide +kernel
theorem d_V_bits_18 : decode b_V_bits 18 = .ok (.if_icmp .ge 13, 3) := by decide +kernel
theorem d_V_bits_31 : decode b_V_bits 31 = .ok (.iload_n 1, 1) := by decide +kernel
theorem d_V_bits_32 : decode b_V_bits 32 = .ok (.sipush 160, 3) := by decide +kernel
theorem d_V_bits_35 : decode b_V_bits 35 = .ok (.if_icmp .ge 21, 3) := by decide +kernel
theorem d_V_bits_56 : decode b_V_bits 56 = .ok (.iload_n 1, 1) := by decide +kernel
theorem d_V_bits_57 : decode b_V_bits 57 = .ok (.sipush 164, 3) := by decide +kernel
theorem d_V_bits_60 : decode b_V_bits 60 = .ok (.if_icmp .ge 17, 3) := by decide +kernel
theorem d_V_bits_77 : decode b_V_bits 77 = .ok (.aload_n 0, 1) := by decide +kernel
theorem d_V_bits_78 : decode b_V_bits 78 = .ok (.getfield 23, 3) := by decide +kernel
theorem d_V_bits_81 : decode b_V_bits 81 = .ok (.getfield 90, 3) := by decide +kernel
theorem d_V_bits_84 : decode b_V_bits 84 = .ok (.iload_n 1, 1) := by decide +kernel
theorem d_V_bits_85 : decode b_V_bits 85 = .ok (.sipush 164, 3) := by decide +kernel
theorem d_V_bits_88 : decode b_V_bits 88 = .ok (.isub, 1) := by decide +kernel
theorem d_V_bits_89 : decode b_V_bits 89 = .ok (.laload, 1) := by decide +kernel
theorem d_V_bits_90 : decode b_V_bits 90 = .ok (.lreturn, 1) := by decide +kernel
theorem d_V_bits_63 : decode b_V_bits 63 = .ok (.aload_n 0, 1) := by decide +kernel
theorem d_V_bits_64 : decode b_V_bits 64 = .ok (.getfield 19, 3) := by decide +kernel
theorem d_V_bits_67 : decode b_V_bits 67 = .ok (.getfield 90, 3) := by decide +kernel
theorem d_V_bits_70 : decode b_V_bits 70 = .ok (.iload_n 1, 1) := by decide +kernel
theorem d_V_bits_71 : decode b_V_bits 71 = .ok (.sipush 160, 3) := by decide +kernel
theorem d_V_bits_74 : decode b_V_bits 74 = .ok (.isub, 1) := by decide +kernel
theorem d_V_bits_75 : decode b_V_bits 75 = .ok (.laload, 1) := by decide +kernel
theorem d_V_bits_76 : decode b_V_bits 76 = .ok (.lreturn, 1) := by decide +kernel
theorem d_V_bits_38 : decode b_V_bits 38 = .ok (.aload_n 0, 1) := by decide +kernel
theorem d_V_bits_39 : decode b_V_bits 39 = .ok (.getfield 29, 3) := by decide +kernel
theorem d_V_bits_42 : decode b_V_bits 42 = .ok (.getfield 84, 3) := by decide +kernel
theorem d_V_bits_45 : decode b_V_bits 45 = .ok (.iload_n 1, 1) := by decide +kernel
theorem d_V_bits_46 : decode b_V_bits 46 = .ok (.bipush 64, 2) := by decide +kernel
theorem d_V_bits_48 : decode b_V_bits 48 = .ok (.isub, 1) := by decide +kernel
theorem d_V_bits_49 : decode b_V_bits 49 = .ok (.iaload, 1) := by decide +kernel
theorem d_V_bits_50 : decode b_V_bits 50 = .ok (.i2l, 1) := by decide +kernel
theorem d_V_bits_51 : decode b_V_bits 51 = .ok (.ldc2_w 88, 3) := by decide +kernel
theorem d_V_bits_54 : decode b_V_bits 54 = .ok (.land, 1) := by decide +kernel
theorem d_V_bits_55 : decode b_V_bits 55 = .ok (.lreturn, 1) := by decide +kernel
theorem d_V_bits_21 : decode b_V_bits 21 = .ok (.aload_n 0, 1) := by decide +kernel
theorem d_V_bits_22 : decode b_V_bits 22 = .ok (.getfield 12, 3) := by decide +kernel
theorem d_V_bits_25 : decode b_V_bits 25 = .ok (.getfield 80, 3) := by decide +kernel
theorem d_V_bits_28 : decode b_V_bits 28 = .ok (.iload_n 1, 1) := by decide +kernel
theorem d_V_bits_29 : decode b_V_bits 29 = .ok (.laload, 1) := by decide +kernel
theorem d_V_bits_30 : decode b_V_bits 30 = .ok (.lreturn, 1) := by decide +kernel
theorem d_V_flip_0 : decode b_V_flip 0 = .ok (.iload_n 1, 1) := by decide +kernel
theorem d_V_flip_1 : decode b_V_flip 1 = .ok (.iload_n 2, 1) := by decide +kernel
theorem d_V_flip_2 : decode b_V_flip 2 = .ok (.invokestatic 93, 3) := by decide +kernel
theorem d_V_flip_5 : decode b_V_flip 5 = .ok (.ifCond .ne 5, 3) := by decide +kernel
theorem d_V_flip_10 : decode b_V_flip 10 = .ok (.aload_n 0, 1) := by decide +kernel
theorem d_V_flip_11 : decode b_V_flip 11 = .ok (.iload_n 1, 1) := by decide +kernel
theorem d_V_flip_12 : decode b_V_flip 12 = .ok (.iload_n 2, 1) := by decide +kernel
theorem d_V_flip_13 : decode b_V_flip 13 = .ok (.invokevirtual 97, 3) := by decide +kernel
theorem d_V_flip_16 : decode b_V_flip 16 = .ok (.iconst 1, 1) := by decide +kernel
theorem d_V_flip_17 : decode b_V_flip 17 = .ok (.ireturn, 1) := by decide +kernel
theorem d_V_flip_8 : decode b_V_flip 8 = .ok (.iconst 0, 1) := by decide +kernel
theorem d_V_flip_9 : decode b_V_flip 9 = .ok (.ireturn, 1) := by decide +kernel
theorem d_V_plan_0 : decode b_V_plan 0 = .ok (.iload_n 1, 1) := by decide +kernel
theorem d_V_plan_1 : decode b_V_plan 1 = .ok (.iconst 1, 1) := by decide +kernel
theorem d_V_plan_2 : decode b_V_plan 2 = .ok (.if_icmp .lt 30, 3) := by decide +kernel
theorem d_V_plan_32 : decode b_V_plan 32 = .ok (.iconst 0, 1) := by decide +kernel
theorem d_V_plan_33 : decode b_V_plan 33 = .ok (.ireturn, 1) := by decide +kernel
theorem d_V_plan_5 : decode b_V_plan 5 = .ok (.iload_n 1, 1) := by decide +kernel
theorem d_V_plan_6 : decode b_V_plan 6 = .ok (.sipush 1000, 3) := by decide +kernel
theorem d_V_plan_9 : decode b_V_plan 9 = .ok (.if_icmp .gt 23, 3) := by decide +kernel
theorem d_V_plan_12 : decode b_V_plan 12 = .ok (.iload_n 2, 1) := by decide +kernel
theorem d_V_plan_13 : decode b_V_plan 13 = .ok (.iload_n 3, 1) := by decide +kernel
theorem d_V_plan_14 : decode b_V_plan 14 = .ok (.invokestatic 93, 3) := by decide +kernel
theorem d_V_plan_17 : decode b_V_plan 17 = .ok (.ifCond .eq 15, 3) := by decide +kernel
theorem d_V_plan_20 : decode b_V_plan 20 = .ok (.aload_n 0, 1) := by decide +kernel
theorem d_V_plan_21 : decode b_V_plan 21 = .ok (.getfield 36, 3) := by decide +kernel
theorem d_V_plan_24 : decode b_V_plan 24 = .ok (.getfield 100, 3) := by decide +kernel
theorem d_V_plan_27 : decode b_V_plan 27 = .ok (.bipush 16, 2) := by decide +kernel
theorem d_V_plan_29 : decode b_V_plan 29 = .ok (.if_icmp .ne 5, 3) := by decide +kernel
theorem d_V_plan_34 : decode b_V_plan 34 = .ok (.aload_n 0, 1) := by decide +kernel
theorem d_V_plan_35 : decode b_V_plan 35 = .ok (.getfield 36, 3) := by decide +kernel
theorem d_V_plan_38 : decode b_V_plan 38 = .ok (.aload_n 0, 1) := by decide +kernel
theorem d_V_plan_39 : decode b_V_plan 39 = .ok (.getfield 103, 3) := by decide +kernel
theorem d_V_plan_42 : decode b_V_plan 42 = .ok (.iload_n 1, 1) := by decide +kernel
theorem d_V_plan_43 : decode b_V_plan 43 = .ok (.iadd, 1) := by decide +kernel
theorem d_V_plan_44 : decode b_V_plan 44 = .ok (.iload_n 2, 1) := by decide +kernel
theorem d_V_plan_45 : decode b_V_plan 45 = .ok (.iload_n 3, 1) := by decide +kernel
theorem d_V_plan_46 : decode b_V_plan 46 = .ok (.invokevirtual 106, 3) := by decide +kernel
theorem d_V_plan_49 : decode b_V_plan 49 = .ok (.iconst 1, 1) := by decide +kernel
theorem d_V_plan_50 : decode b_V_plan 50 = .ok (.ireturn, 1) := by decide +kernel
theorem d_V_planned_0 : decode b_V_planned 0 = .ok (.aload_n 0, 1) := by decide +kernel
theorem d_V_planned_1 : decode b_V_planned 1 = .ok (.getfield 36, 3) := by decide +kernel
theorem d_V_planned_4 : decode b_V_planned 4 = .ok (.getfield 100, 3) := by decide +kernel
theorem d_V_planned_7 : decode b_V_planned 7 = .ok (.ireturn, 1) := by decide +kernel
theorem d_V_cause_0 : decode b_V_cause 0 = .ok (.aload_n 0, 1) := by decide +kernel
theorem d_V_cause_1 : decode b_V_cause 1 = .ok (.getfield 110, 3) := by decide +kernel
theorem d_V_cause_4 : decode b_V_cause 4 = .ok (.ireturn, 1) := by decide +kernel
theorem d_V_value_0 : decode b_V_value 0 = .ok (.aload_n 0, 1) := by decide +kernel
theorem d_V_value_1 : decode b_V_value 1 = .ok (.getfield 125, 3) := by decide +kernel
theorem d_V_value_4 : decode b_V_value 4 = .ok (.ireturn, 1) := by decide +kernel
theorem d_V_cycles_0 : decode b_V_cycles 0 = .ok (.aload_n 0, 1) := by decide +kernel
theorem d_V_cycles_1 : decode b_V_cycles 1 = .ok (.getfield 103, 3) := by decide +kernel
theorem d_V_cycles_4 : decode b_V_cycles 4 = .ok (.ireturn, 1) := by decide +kernel
theorem d_V_count_0 : decode b_V_count 0 = .ok (.iload_n 1, 1) := by decide +kernel
theorem d_V_count_1 : decode b_V_count 1 = .ok (.tableswitch 81 0 5 #[39, 47, 52, 60, 68, 76], 39) := by decide +kernel
theorem d_V_count_40 : decode b_V_count 40 = .ok (.aload_n 0, 1) := by decide +kernel
theorem d_V_count_41 : decode b_V_count 41 = .ok (.getfield 12, 3) := by decide +kernel
theorem d_V_count_44 : decode b_V_count 44 = .ok (.getfield 131, 3) := by decide +kernel
theorem d_V_count_47 : decode b_V_count 47 = .ok (.ireturn, 1) := by decide +kernel
theorem d_V_count_48 : decode b_V_count 48 = .ok (.aload_n 0, 1) := by decide +kernel
theorem d_V_count_49 : decode b_V_count 49 = .ok (.getfield 134, 3) := by decide +kernel
theorem d_V_count_52 : decode b_V_count 52 = .ok (.ireturn, 1) := by decide +kernel
theorem d_V_count_53 : decode b_V_count 53 = .ok (.aload_n 0, 1) := by decide +kernel
theorem d_V_count_54 : decode b_V_count 54 = .ok (.getfield 29, 3) := by decide +kernel
theorem d_V_count_57 : decode b_V_count 57 = .ok (.getfield 137, 3) := by decide +kernel
theorem d_V_count_60 : decode b_V_count 60 = .ok (.ireturn, 1) := by decide +kernel
theorem d_V_count_61 : decode b_V_count 61 = .ok (.aload_n 0, 1) := by decide +kernel
theorem d_V_count_62 : decode b_V_count 62 = .ok (.getfield 19, 3) := by decide +kernel
theorem d_V_count_65 : decode b_V_count 65 = .ok (.getfield 140, 3) := by decide +kernel
theorem d_V_count_68 : decode b_V_count 68 = .ok (.ireturn, 1) := by decide +kernel
theorem d_V_count_69 : decode b_V_count 69 = .ok (.aload_n 0, 1) := by decide +kernel
theorem d_V_count_70 : decode b_V_count 70 = .ok (.getfield 23, 3) := by decide +kernel
theorem d_V_count_73 : decode b_V_count 73 = .ok (.getfield 140, 3) := by decide +kernel
theorem d_V_count_76 : decode b_V_count 76 = .ok (.ireturn, 1) := by decide +kernel
theorem d_V_count_77 : decode b_V_count 77 = .ok (.aload_n 0, 1) := by decide +kernel
theorem d_V_count_78 : decode b_V_count 78 = .ok (.getfield 143, 3) := by decide +kernel
theorem d_V_count_81 : decode b_V_count 81 = .ok (.ireturn, 1) := by decide +kernel
theorem d_V_count_82 : decode b_V_count 82 = .ok (.iconst (-1), 1) := by decide +kernel
theorem d_V_count_83 : decode b_V_count 83 = .ok (.ireturn, 1) := by decide +kernel
theorem d_V_stop_0 : decode b_V_stop 0 = .ok (.aload_n 0, 1) := by decide +kernel
theorem d_V_stop_1 : decode b_V_stop 1 = .ok (.iload_n 1, 1) := by decide +kernel
theorem d_V_stop_2 : decode b_V_stop 2 = .ok (.putfield 110, 3) := by decide +kernel
theorem d_V_stop_5 : decode b_V_stop 5 = .ok (.aload_n 0, 1) := by decide +kernel
theorem d_V_stop_6 : decode b_V_stop 6 = .ok (.iload_n 2, 1) := by decide +kernel
theorem d_V_stop_7 : decode b_V_stop 7 = .ok (.putfield 125, 3) := by decide +kernel
theorem d_V_stop_10 : decode b_V_stop 10 = .ok (.return_, 1) := by decide +kernel
theorem d_V_resume_0 : decode b_V_resume 0 = .ok (.aload_n 0, 1) := by decide +kernel
theorem d_V_resume_1 : decode b_V_resume 1 = .ok (.getfield 110, 3) := by decide +kernel
theorem d_V_resume_4 : decode b_V_resume 4 = .ok (.ifCond .ne 5, 3) := by decide +kernel
theorem d_V_resume_9 : decode b_V_resume 9 = .ok (.aload_n 0, 1) := by decide +kernel
theorem d_V_resume_10 : decode b_V_resume 10 = .ok (.iconst 0, 1) := by decide +kernel
theorem d_V_resume_11 : decode b_V_resume 11 = .ok (.iconst 0, 1) := by decide +kernel
theorem d_V_resume_12 : decode b_V_resume 12 = .ok (.invokevirtual 128, 3) := by decide +kernel
theorem d_V_resume_15 : decode b_V_resume 15 = .ok (.aload_n 0, 1) := by decide +kernel
theorem d_V_resume_16 : decode b_V_resume 16 = .ok (.getfield 29, 3) := by decide +kernel
theorem d_V_resume_19 : decode b_V_resume 19 = .ok (.iconst 0, 1) := by decide +kernel
theorem d_V_resume_20 : decode b_V_resume 20 = .ok (.iload_n 1, 1) := by decide +kernel
theorem d_V_resume_21 : decode b_V_resume 21 = .ok (.invokevirtual 67, 3) := by decide +kernel
theorem d_V_resume_24 : decode b_V_resume 24 = .ok (.iconst 1, 1) := by decide +kernel
theorem d_V_resume_25 : decode b_V_resume 25 = .ok (.ireturn, 1) := by decide +kernel
theorem d_V_resume_7 : decode b_V_resume 7 = .ok (.iconst 0, 1) := by decide +kernel
theorem d_V_resume_8 : decode b_V_resume 8 = .ok (.ireturn, 1) := by decide +kernel
theorem d_V_makePlannedFaults_0 : decode b_V_makePlannedFaults 0 = .ok (.iconst 0, 1) := by decide +kernel
theorem d_V_makePlannedFaults_1 : decode b_V_makePlannedFaults 1 = .ok (.istore_n 1, 1) := by decide +kernel
theorem d_V_makePlannedFaults_2 : decode b_V_makePlannedFaults 2 = .ok (.iconst 0, 1) := by decide +kernel
theorem d_V_makePlannedFaults_3 : decode b_V_makePlannedFaults 3 = .ok (.istore_n 2, 1) := by decide +kernel
theorem d_V_makePlannedFaults_4 : decode b_V_makePlannedFaults 4 = .ok (.iload_n 2, 1) := by decide +kernel
theorem d_V_makePlannedFaults_5 : decode b_V_makePlannedFaults 5 = .ok (.aload_n 0, 1) := by decide +kernel
theorem d_V_makePlannedFaults_6 : decode b_V_makePlannedFaults 6 = .ok (.getfield 36, 3) := by decide +kernel
theorem d_V_makePlannedFaults_9 : decode b_V_makePlannedFaults 9 = .ok (.getfield 100, 3) := by decide +kernel
theorem d_V_makePlannedFaults_12 : decode b_V_makePlannedFaults 12 = .ok (.if_icmp .ge 62, 3) := by decide +kernel
theorem d_V_makePlannedFaults_74 : decode b_V_makePlannedFaults 74 = .ok (.aload_n 0, 1) := by decide +kernel
theorem d_V_makePlannedFaults_75 : decode b_V_makePlannedFaults 75 = .ok (.getfield 36, 3) := by decide +kernel
theorem d_V_makePlannedFaults_78 : decode b_V_makePlannedFaults 78 = .ok (.iload_n 1, 1) := by decide +kernel
theorem d_V_makePlannedFaults_79 : decode b_V_makePlannedFaults 79 = .ok (.putfield 100, 3) := by decide +kernel
theorem d_V_makePlannedFaults_82 : decode b_V_makePlannedFaults 82 = .ok (.return_, 1) := by decide +kernel
theorem d_V_makePlannedFaults_15 : decode b_V_makePlannedFaults 15 = .ok (.aload_n 0, 1) := by decide +kernel
theorem d_V_makePlannedFaults_16 : decode b_V_makePlannedFaults 16 = .ok (.getfield 36, 3) := by decide +kernel
theorem d_V_makePlannedFaults_19 : decode b_V_makePlannedFaults 19 = .ok (.getfield 146, 3) := by decide +kernel
theorem d_V_makePlannedFaults_22 : decode b_V_makePlannedFaults 22 = .ok (.iload_n 2, 1) := by decide +kernel
theorem d_V_makePlannedFaults_23 : decode b_V_makePlannedFaults 23 = .ok (.iaload, 1) := by decide +kernel
theorem d_V_makePlannedFaults_24 : decode b_V_makePlannedFaults 24 = .ok (.aload_n 0, 1) := by decide +kernel
theorem d_V_makePlannedFaults_25 : decode b_V_makePlannedFaults 25 = .ok (.getfield 103, 3) := by decide +kernel
theorem d_V_makePlannedFaults_28 : decode b_V_makePlannedFaults 28 = .ok (.if_icmp .ne 28, 3) := by decide +kernel
theorem d_V_makePlannedFaults_56 : decode b_V_makePlannedFaults 56 = .ok (.aload_n 0, 1) := by decide +kernel
theorem d_V_makePlannedFaults_57 : decode b_V_makePlannedFaults 57 = .ok (.getfield 36, 3) := by decide +kernel
theorem d_V_makePlannedFaults_60 : decode b_V_makePlannedFaults 60 = .ok (.iload_n 2, 1) := by decide +kernel
theorem d_V_makePlannedFaults_61 : decode b_V_makePlannedFaults 61 = .ok (.iload_n 1, 1) := by decide +kernel
theorem d_V_makePlannedFaults_62 : decode b_V_makePlannedFaults 62 = .ok (.invokevirtual 155, 3) := by decide +kernel
theorem d_V_makePlannedFaults_65 : decode b_V_makePlannedFaults 65 = .ok (.iinc 1 1, 3) := by decide +kernel
theorem d_V_makePlannedFaults_68 : decode b_V_makePlannedFaults 68 = .ok (.iinc 2 1, 3) := by decide +kernel
theorem d_V_makePlannedFaults_71 : decode b_V_makePlannedFaults 71 = .ok (.goto (-67), 3) := by decide +kernel
theorem d_V_makePlannedFaults_31 : decode b_V_makePlannedFaults 31 = .ok (.aload_n 0, 1) := by decide +kernel
theorem d_V_makePlannedFaults_32 : decode b_V_makePlannedFaults 32 = .ok (.aload_n 0, 1) := by decide +kernel
theorem d_V_makePlannedFaults_33 : decode b_V_makePlannedFaults 33 = .ok (.getfield 36, 3) := by decide +kernel
theorem d_V_makePlannedFaults_36 : decode b_V_makePlannedFaults 36 = .ok (.getfield 149, 3) := by decide +kernel
theorem d_V_makePlannedFaults_39 : decode b_V_makePlannedFaults 39 = .ok (.iload_n 2, 1) := by decide +kernel
theorem d_V_makePlannedFaults_40 : decode b_V_makePlannedFaults 40 = .ok (.iaload, 1) := by decide +kernel
theorem d_V_makePlannedFaults_41 : decode b_V_makePlannedFaults 41 = .ok (.aload_n 0, 1) := by decide +kernel
theorem d_V_makePlannedFaults_42 : decode b_V_makePlannedFaults 42 = .ok (.getfield 36, 3) := by decide +kernel
theorem d_V_makePlannedFaults_45 : decode b_V_makePlannedFaults 45 = .ok (.getfield 152, 3) := by decide +kernel
theorem d_V_makePlannedFaults_48 : decode b_V_makePlannedFaults 48 = .ok (.iload_n 2, 1) := by decide +kernel
theorem d_V_makePlannedFaults_49 : decode b_V_makePlannedFaults 49 = .ok (.iaload, 1) := by decide +kernel
theorem d_V_makePlannedFaults_50 : decode b_V_makePlannedFaults 50 = .ok (.invokevirtual 97, 3) := by decide +kernel
theorem d_V_makePlannedFaults_53 : decode b_V_makePlannedFaults 53 = .ok (.goto 15, 3) := by decide +kernel
theorem d_V_scrub_0 : decode b_V_scrub 0 = .ok (.aload_n 0, 1) := by decide +kernel
theorem d_V_scrub_1 : decode b_V_scrub 1 = .ok (.getfield 12, 3) := by decide +kernel
theorem d_V_scrub_4 : decode b_V_scrub 4 = .ok (.aload_n 0, 1) := by decide +kernel
theorem d_V_scrub_5 : decode b_V_scrub 5 = .ok (.getfield 143, 3) := by decide +kernel
theorem d_V_scrub_8 : decode b_V_scrub 8 = .ok (.invokevirtual 158, 3) := by decide +kernel
theorem d_V_scrub_11 : decode b_V_scrub 11 = .ok (.ldc2_w 161, 3) := by decide +kernel
theorem d_V_scrub_14 : decode b_V_scrub 14 = .ok (.lcmp, 1) := by decide +kernel
theorem d_V_scrub_15 : decode b_V_scrub 15 = .ok (.ifCond .ne 13, 3) := by decide +kernel
theorem d_V_scrub_28 : decode b_V_scrub 28 = .ok (.aload_n 0, 1) := by decide +kernel
theorem d_V_scrub_29 : decode b_V_scrub 29 = .ok (.aload_n 0, 1) := by decide +kernel
theorem d_V_scrub_30 : decode b_V_scrub 30 = .ok (.getfield 143, 3) := by decide +kernel
theorem d_V_scrub_33 : decode b_V_scrub 33 = .ok (.iconst 1, 1) := by decide +kernel
theorem d_V_scrub_34 : decode b_V_scrub 34 = .ok (.iadd, 1) := by decide +kernel
theorem d_V_scrub_35 : decode b_V_scrub 35 = .ok (.bipush 64, 2) := by decide +kernel
theorem d_V_scrub_37 : decode b_V_scrub 37 = .ok (.irem, 1) := by decide +kernel
theorem d_V_scrub_38 : decode b_V_scrub 38 = .ok (.putfield 143, 3) := by decide +kernel
theorem d_V_scrub_41 : decode b_V_scrub 41 = .ok (.return_, 1) := by decide +kernel
theorem d_V_scrub_18 : decode b_V_scrub 18 = .ok (.aload_n 0, 1) := by decide +kernel
theorem d_V_scrub_19 : decode b_V_scrub 19 = .ok (.dup, 1) := by decide +kernel
theorem d_V_scrub_20 : decode b_V_scrub 20 = .ok (.getfield 134, 3) := by decide +kernel
theorem d_V_scrub_23 : decode b_V_scrub 23 = .ok (.iconst 1, 1) := by decide +kernel
theorem d_V_scrub_24 : decode b_V_scrub 24 = .ok (.iadd, 1) := by decide +kernel
end
section
theorem d_V_scrub_25 : decode b_V_scrub 25 = .ok (.putfield 134, 3) := by decide +kernel
theorem d_V_fetch_0 : decode b_V_fetch 0 = .ok (.aload_n 1, 1) := by decide +kernel
theorem d_V_fetch_1 : decode b_V_fetch 1 = .ok (.iload_n 2, 1) := by decide +kernel
theorem d_V_fetch_2 : decode b_V_fetch 2 = .ok (.invokevirtual 163, 3) := by decide +kernel
theorem d_V_fetch_5 : decode b_V_fetch 5 = .ok (.aload_n 1, 1) := by decide +kernel
theorem d_V_fetch_6 : decode b_V_fetch 6 = .ok (.iload_n 2, 1) := by decide +kernel
theorem d_V_fetch_7 : decode b_V_fetch 7 = .ok (.invokevirtual 167, 3) := by decide +kernel
theorem d_V_fetch_10 : decode b_V_fetch 10 = .ok (.ifCond .eq 9, 3) := by decide +kernel
theorem d_V_fetch_19 : decode b_V_fetch 19 = .ok (.aload_n 0, 1) := by decide +kernel
theorem d_V_fetch_20 : decode b_V_fetch 20 = .ok (.getfield 12, 3) := by decide +kernel
theorem d_V_fetch_23 : decode b_V_fetch 23 = .ok (.iload_n 2, 1) := by decide +kernel
theorem d_V_fetch_24 : decode b_V_fetch 24 = .ok (.invokevirtual 158, 3) := by decide +kernel
theorem d_V_fetch_27 : decode b_V_fetch 27 = .ok (.lstore_n 3, 1) := by decide +kernel
theorem d_V_fetch_28 : decode b_V_fetch 28 = .ok (.lload_n 3, 1) := by decide +kernel
theorem d_V_fetch_29 : decode b_V_fetch 29 = .ok (.ldc2_w 161, 3) := by decide +kernel
theorem d_V_fetch_32 : decode b_V_fetch 32 = .ok (.lcmp, 1) := by decide +kernel
theorem d_V_fetch_33 : decode b_V_fetch 33 = .ok (.ifCond .eq 10, 3) := by decide +kernel
theorem d_V_fetch_43 : decode b_V_fetch 43 = .ok (.lload_n 3, 1) := by decide +kernel
theorem d_V_fetch_44 : decode b_V_fetch 44 = .ok (.lreturn, 1) := by decide +kernel
theorem d_V_fetch_36 : decode b_V_fetch 36 = .ok (.aload_n 1, 1) := by decide +kernel
theorem d_V_fetch_37 : decode b_V_fetch 37 = .ok (.iload_n 2, 1) := by decide +kernel
theorem d_V_fetch_38 : decode b_V_fetch 38 = .ok (.lload_n 3, 1) := by decide +kernel
theorem d_V_fetch_39 : decode b_V_fetch 39 = .ok (.l2i, 1) := by decide +kernel
theorem d_V_fetch_40 : decode b_V_fetch 40 = .ok (.invokevirtual 173, 3) := by decide +kernel
theorem d_V_fetch_13 : decode b_V_fetch 13 = .ok (.aload_n 1, 1) := by decide +kernel
theorem d_V_fetch_14 : decode b_V_fetch 14 = .ok (.iload_n 2, 1) := by decide +kernel
theorem d_V_fetch_15 : decode b_V_fetch 15 = .ok (.invokevirtual 170, 3) := by decide +kernel
theorem d_V_fetch_18 : decode b_V_fetch 18 = .ok (.lreturn, 1) := by decide +kernel
theorem d_V_save_0 : decode b_V_save 0 = .ok (.aload_n 0, 1) := by decide +kernel
theorem d_V_save_1 : decode b_V_save 1 = .ok (.getfield 12, 3) := by decide +kernel
theorem d_V_save_4 : decode b_V_save 4 = .ok (.iload_n 1, 1) := by decide +kernel
theorem d_V_save_5 : decode b_V_save 5 = .ok (.iload_n 2, 1) := by decide +kernel
theorem d_V_save_6 : decode b_V_save 6 = .ok (.invokevirtual 57, 3) := by decide +kernel
theorem d_V_save_9 : decode b_V_save 9 = .ok (.aload_n 0, 1) := by decide +kernel
theorem d_V_save_10 : decode b_V_save 10 = .ok (.getfield 19, 3) := by decide +kernel
theorem d_V_save_13 : decode b_V_save 13 = .ok (.iload_n 1, 1) := by decide +kernel
theorem d_V_save_14 : decode b_V_save 14 = .ok (.invokevirtual 163, 3) := by decide +kernel
theorem d_V_save_17 : decode b_V_save 17 = .ok (.aload_n 0, 1) := by decide +kernel
theorem d_V_save_18 : decode b_V_save 18 = .ok (.getfield 23, 3) := by decide +kernel
theorem d_V_save_21 : decode b_V_save 21 = .ok (.iload_n 1, 1) := by decide +kernel
theorem d_V_save_22 : decode b_V_save 22 = .ok (.invokevirtual 163, 3) := by decide +kernel
theorem d_V_save_25 : decode b_V_save 25 = .ok (.aload_n 0, 1) := by decide +kernel
theorem d_V_save_26 : decode b_V_save 26 = .ok (.getfield 19, 3) := by decide +kernel
theorem d_V_save_29 : decode b_V_save 29 = .ok (.iload_n 1, 1) := by decide +kernel
theorem d_V_save_30 : decode b_V_save 30 = .ok (.invokevirtual 167, 3) := by decide +kernel
theorem d_V_save_33 : decode b_V_save 33 = .ok (.ifCond .eq 11, 3) := by decide +kernel
theorem d_V_save_44 : decode b_V_save 44 = .ok (.aload_n 0, 1) := by decide +kernel
theorem d_V_save_45 : decode b_V_save 45 = .ok (.getfield 23, 3) := by decide +kernel
theorem d_V_save_48 : decode b_V_save 48 = .ok (.iload_n 1, 1) := by decide +kernel
theorem d_V_save_49 : decode b_V_save 49 = .ok (.invokevirtual 167, 3) := by decide +kernel
theorem d_V_save_52 : decode b_V_save 52 = .ok (.ifCond .eq 12, 3) := by decide +kernel
theorem d_V_save_64 : decode b_V_save 64 = .ok (.return_, 1) := by decide +kernel
theorem d_V_save_55 : decode b_V_save 55 = .ok (.aload_n 0, 1) := by decide +kernel
theorem d_V_save_56 : decode b_V_save 56 = .ok (.getfield 23, 3) := by decide +kernel
theorem d_V_save_59 : decode b_V_save 59 = .ok (.iload_n 1, 1) := by decide +kernel
theorem d_V_save_60 : decode b_V_save 60 = .ok (.iload_n 2, 1) := by decide +kernel
theorem d_V_save_61 : decode b_V_save 61 = .ok (.invokevirtual 173, 3) := by decide +kernel
theorem d_V_save_36 : decode b_V_save 36 = .ok (.aload_n 0, 1) := by decide +kernel
theorem d_V_save_37 : decode b_V_save 37 = .ok (.getfield 19, 3) := by decide +kernel
theorem d_V_save_40 : decode b_V_save 40 = .ok (.iload_n 1, 1) := by decide +kernel
theorem d_V_save_41 : decode b_V_save 41 = .ok (.invokevirtual 176, 3) := by decide +kernel
theorem d_V_goOn_0 : decode b_V_goOn 0 = .ok (.aload_n 0, 1) := by decide +kernel
theorem d_V_goOn_1 : decode b_V_goOn 1 = .ok (.getfield 29, 3) := by decide +kernel
theorem d_V_goOn_4 : decode b_V_goOn 4 = .ok (.iconst 0, 1) := by decide +kernel
theorem d_V_goOn_5 : decode b_V_goOn 5 = .ok (.iload_n 1, 1) := by decide +kernel
theorem d_V_goOn_6 : decode b_V_goOn 6 = .ok (.iconst 4, 1) := by decide +kernel
theorem d_V_goOn_7 : decode b_V_goOn 7 = .ok (.iadd, 1) := by decide +kernel
theorem d_V_goOn_8 : decode b_V_goOn 8 = .ok (.invokevirtual 67, 3) := by decide +kernel
theorem d_V_goOn_11 : decode b_V_goOn 11 = .ok (.return_, 1) := by decide +kernel
theorem d_V_finish_0 : decode b_V_finish 0 = .ok (.aload_n 0, 1) := by decide +kernel
theorem d_V_finish_1 : decode b_V_finish 1 = .ok (.getfield 29, 3) := by decide +kernel
theorem d_V_finish_4 : decode b_V_finish 4 = .ok (.iload_n 2, 1) := by decide +kernel
theorem d_V_finish_5 : decode b_V_finish 5 = .ok (.iload_n 3, 1) := by decide +kernel
theorem d_V_finish_6 : decode b_V_finish 6 = .ok (.invokevirtual 230, 3) := by decide +kernel
theorem d_V_finish_9 : decode b_V_finish 9 = .ok (.aload_n 0, 1) := by decide +kernel
theorem d_V_finish_10 : decode b_V_finish 10 = .ok (.iload_n 1, 1) := by decide +kernel
theorem d_V_finish_11 : decode b_V_finish 11 = .ok (.invokevirtual 233, 3) := by decide +kernel
theorem d_V_finish_14 : decode b_V_finish 14 = .ok (.return_, 1) := by decide +kernel
theorem d_V_jump_0 : decode b_V_jump 0 = .ok (.iload_n 3, 1) := by decide +kernel
theorem d_V_jump_1 : decode b_V_jump 1 = .ok (.iconst 3, 1) := by decide +kernel
theorem d_V_jump_2 : decode b_V_jump 2 = .ok (.iand, 1) := by decide +kernel
theorem d_V_jump_3 : decode b_V_jump 3 = .ok (.ifCond .eq 10, 3) := by decide +kernel
theorem d_V_jump_13 : decode b_V_jump 13 = .ok (.aload_n 0, 1) := by decide +kernel
theorem d_V_jump_14 : decode b_V_jump 14 = .ok (.getfield 29, 3) := by decide +kernel
theorem d_V_jump_17 : decode b_V_jump 17 = .ok (.iload_n 2, 1) := by decide +kernel
theorem d_V_jump_18 : decode b_V_jump 18 = .ok (.iload_n 1, 1) := by decide +kernel
theorem d_V_jump_19 : decode b_V_jump 19 = .ok (.iconst 4, 1) := by decide +kernel
theorem d_V_jump_20 : decode b_V_jump 20 = .ok (.iadd, 1) := by decide +kernel
theorem d_V_jump_21 : decode b_V_jump 21 = .ok (.invokevirtual 230, 3) := by decide +kernel
theorem d_V_jump_24 : decode b_V_jump 24 = .ok (.aload_n 0, 1) := by decide +kernel
theorem d_V_jump_25 : decode b_V_jump 25 = .ok (.getfield 29, 3) := by decide +kernel
theorem d_V_jump_28 : decode b_V_jump 28 = .ok (.iconst 0, 1) := by decide +kernel
theorem d_V_jump_29 : decode b_V_jump 29 = .ok (.iload_n 3, 1) := by decide +kernel
theorem d_V_jump_30 : decode b_V_jump 30 = .ok (.invokevirtual 67, 3) := by decide +kernel
theorem d_V_jump_33 : decode b_V_jump 33 = .ok (.return_, 1) := by decide +kernel
theorem d_V_jump_6 : decode b_V_jump 6 = .ok (.aload_n 0, 1) := by decide +kernel
theorem d_V_jump_7 : decode b_V_jump 7 = .ok (.iconst 1, 1) := by decide +kernel
theorem d_V_jump_8 : decode b_V_jump 8 = .ok (.iload_n 3, 1) := by decide +kernel
theorem d_V_jump_9 : decode b_V_jump 9 = .ok (.invokevirtual 128, 3) := by decide +kernel
theorem d_V_jump_12 : decode b_V_jump 12 = .ok (.return_, 1) := by decide +kernel
theorem d_V_jumpByRegister_0 : decode b_V_jumpByRegister 0 = .ok (.iload_n 2, 1) := by decide +kernel
theorem d_V_jumpByRegister_1 : decode b_V_jumpByRegister 1 = .ok (.invokestatic 236, 3) := by decide +kernel
theorem d_V_jumpByRegister_4 : decode b_V_jumpByRegister 4 = .ok (.ifCond .eq 10, 3) := by decide +kernel
theorem d_V_jumpByRegister_14 : decode b_V_jumpByRegister 14 = .ok (.aload_n 0, 1) := by decide +kernel
theorem d_V_jumpByRegister_15 : decode b_V_jumpByRegister 15 = .ok (.getfield 29, 3) := by decide +kernel
theorem d_V_jumpByRegister_18 : decode b_V_jumpByRegister 18 = .ok (.iload_n 2, 1) := by decide +kernel
theorem d_V_jumpByRegister_19 : decode b_V_jumpByRegister 19 = .ok (.invokestatic 239, 3) := by decide +kernel
theorem d_V_jumpByRegister_22 : decode b_V_jumpByRegister 22 = .ok (.invokevirtual 242, 3) := by decide +kernel
theorem d_V_jumpByRegister_25 : decode b_V_jumpByRegister 25 = .ok (.istore_n 3, 1) := by decide +kernel
theorem d_V_jumpByRegister_26 : decode b_V_jumpByRegister 26 = .ok (.aload_n 0, 1) := by decide +kernel
theorem d_V_jumpByRegister_27 : decode b_V_jumpByRegister 27 = .ok (.iload_n 1, 1) := by decide +kernel
theorem d_V_jumpByRegister_28 : decode b_V_jumpByRegister 28 = .ok (.iload_n 2, 1) := by decide +kernel
theorem d_V_jumpByRegister_29 : decode b_V_jumpByRegister 29 = .ok (.invokestatic 191, 3) := by decide +kernel
theorem d_V_jumpByRegister_32 : decode b_V_jumpByRegister 32 = .ok (.iload_n 3, 1) := by decide +kernel
theorem d_V_jumpByRegister_33 : decode b_V_jumpByRegister 33 = .ok (.iload_n 2, 1) := by decide +kernel
theorem d_V_jumpByRegister_34 : decode b_V_jumpByRegister 34 = .ok (.invokestatic 245, 3) := by decide +kernel
theorem d_V_jumpByRegister_37 : decode b_V_jumpByRegister 37 = .ok (.iadd, 1) := by decide +kernel
theorem d_V_jumpByRegister_38 : decode b_V_jumpByRegister 38 = .ok (.bipush (-2), 2) := by decide +kernel
theorem d_V_jumpByRegister_40 : decode b_V_jumpByRegister 40 = .ok (.iand, 1) := by decide +kernel
theorem d_V_jumpByRegister_41 : decode b_V_jumpByRegister 41 = .ok (.invokevirtual 203, 3) := by decide +kernel
theorem d_V_jumpByRegister_44 : decode b_V_jumpByRegister 44 = .ok (.return_, 1) := by decide +kernel
theorem d_V_jumpByRegister_7 : decode b_V_jumpByRegister 7 = .ok (.aload_n 0, 1) := by decide +kernel
theorem d_V_jumpByRegister_8 : decode b_V_jumpByRegister 8 = .ok (.iconst 2, 1) := by decide +kernel
theorem d_V_jumpByRegister_9 : decode b_V_jumpByRegister 9 = .ok (.iload_n 2, 1) := by decide +kernel
theorem d_V_jumpByRegister_10 : decode b_V_jumpByRegister 10 = .ok (.invokevirtual 128, 3) := by decide +kernel
theorem d_V_jumpByRegister_13 : decode b_V_jumpByRegister 13 = .ok (.return_, 1) := by decide +kernel
theorem d_V_branch_0 : decode b_V_branch 0 = .ok (.iload_n 2, 1) := by decide +kernel
theorem d_V_branch_1 : decode b_V_branch 1 = .ok (.invokestatic 236, 3) := by decide +kernel
theorem d_V_branch_4 : decode b_V_branch 4 = .ok (.istore_n 3, 1) := by decide +kernel
theorem d_V_branch_5 : decode b_V_branch 5 = .ok (.iload_n 3, 1) := by decide +kernel
theorem d_V_branch_6 : decode b_V_branch 6 = .ok (.iconst 2, 1) := by decide +kernel
theorem d_V_branch_7 : decode b_V_branch 7 = .ok (.if_icmp .eq 8, 3) := by decide +kernel
theorem d_V_branch_15 : decode b_V_branch 15 = .ok (.aload_n 0, 1) := by decide +kernel
theorem d_V_branch_16 : decode b_V_branch 16 = .ok (.iconst 2, 1) := by decide +kernel
theorem d_V_branch_17 : decode b_V_branch 17 = .ok (.iload_n 2, 1) := by decide +kernel
theorem d_V_branch_18 : decode b_V_branch 18 = .ok (.invokevirtual 128, 3) := by decide +kernel
theorem d_V_branch_21 : decode b_V_branch 21 = .ok (.return_, 1) := by decide +kernel
theorem d_V_branch_10 : decode b_V_branch 10 = .ok (.iload_n 3, 1) := by decide +kernel
theorem d_V_branch_11 : decode b_V_branch 11 = .ok (.iconst 3, 1) := by decide +kernel
theorem d_V_branch_12 : decode b_V_branch 12 = .ok (.if_icmp .ne 10, 3) := by decide +kernel
theorem d_V_branch_22 : decode b_V_branch 22 = .ok (.aload_n 0, 1) := by decide +kernel
theorem d_V_branch_23 : decode b_V_branch 23 = .ok (.getfield 29, 3) := by decide +kernel
theorem d_V_branch_26 : decode b_V_branch 26 = .ok (.iload_n 2, 1) := by decide +kernel
theorem d_V_branch_27 : decode b_V_branch 27 = .ok (.invokestatic 239, 3) := by decide +kernel
theorem d_V_branch_30 : decode b_V_branch 30 = .ok (.invokevirtual 242, 3) := by decide +kernel
theorem d_V_branch_33 : decode b_V_branch 33 = .ok (.istore 4, 2) := by decide +kernel
theorem d_V_branch_35 : decode b_V_branch 35 = .ok (.aload_n 0, 1) := by decide +kernel
theorem d_V_branch_36 : decode b_V_branch 36 = .ok (.getfield 29, 3) := by decide +kernel
theorem d_V_branch_39 : decode b_V_branch 39 = .ok (.iload_n 2, 1) := by decide +kernel
theorem d_V_branch_40 : decode b_V_branch 40 = .ok (.invokestatic 248, 3) := by decide +kernel
theorem d_V_branch_43 : decode b_V_branch 43 = .ok (.invokevirtual 242, 3) := by decide +kernel
theorem d_V_branch_46 : decode b_V_branch 46 = .ok (.istore 5, 2) := by decide +kernel
theorem d_V_branch_48 : decode b_V_branch 48 = .ok (.iload_n 3, 1) := by decide +kernel
theorem d_V_branch_49 : decode b_V_branch 49 = .ok (.iload 4, 2) := by decide +kernel
theorem d_V_branch_51 : decode b_V_branch 51 = .ok (.iload 5, 2) := by decide +kernel
theorem d_V_branch_53 : decode b_V_branch 53 = .ok (.invokestatic 251, 3) := by decide +kernel
theorem d_V_branch_56 : decode b_V_branch 56 = .ok (.ifCond .eq 18, 3) := by decide +kernel
theorem d_V_branch_74 : decode b_V_branch 74 = .ok (.aload_n 0, 1) := by decide +kernel
theorem d_V_branch_75 : decode b_V_branch 75 = .ok (.iload_n 1, 1) := by decide +kernel
theorem d_V_branch_76 : decode b_V_branch 76 = .ok (.invokevirtual 233, 3) := by decide +kernel
theorem d_V_branch_79 : decode b_V_branch 79 = .ok (.return_, 1) := by decide +kernel
theorem d_V_branch_59 : decode b_V_branch 59 = .ok (.aload_n 0, 1) := by decide +kernel
theorem d_V_branch_60 : decode b_V_branch 60 = .ok (.iload_n 1, 1) := by decide +kernel
theorem d_V_branch_61 : decode b_V_branch 61 = .ok (.iconst 0, 1) := by decide +kernel
theorem d_V_branch_62 : decode b_V_branch 62 = .ok (.iload_n 1, 1) := by decide +kernel
theorem d_V_branch_63 : decode b_V_branch 63 = .ok (.iload_n 2, 1) := by decide +kernel
theorem d_V_branch_64 : decode b_V_branch 64 = .ok (.invokestatic 255, 3) := by decide +kernel
theorem d_V_branch_67 : decode b_V_branch 67 = .ok (.iadd, 1) := by decide +kernel
theorem d_V_branch_68 : decode b_V_branch 68 = .ok (.invokevirtual 203, 3) := by decide +kernel
theorem d_V_branch_71 : decode b_V_branch 71 = .ok (.goto 8, 3) := by decide +kernel
theorem d_V_load_0 : decode b_V_load 0 = .ok (.iload_n 2, 1) := by decide +kernel
theorem d_V_load_1 : decode b_V_load 1 = .ok (.invokestatic 236, 3) := by decide +kernel
theorem d_V_load_4 : decode b_V_load 4 = .ok (.istore_n 3, 1) := by decide +kernel
theorem d_V_load_5 : decode b_V_load 5 = .ok (.iload_n 3, 1) := by decide +kernel
theorem d_V_load_6 : decode b_V_load 6 = .ok (.iconst 3, 1) := by decide +kernel
theorem d_V_load_7 : decode b_V_load 7 = .ok (.if_icmp .eq 8, 3) := by decide +kernel
theorem d_V_load_15 : decode b_V_load 15 = .ok (.aload_n 0, 1) := by decide +kernel
theorem d_V_load_16 : decode b_V_load 16 = .ok (.iconst 2, 1) := by decide +kernel
theorem d_V_load_17 : decode b_V_load 17 = .ok (.iload_n 2, 1) := by decide +kernel
theorem d_V_load_18 : decode b_V_load 18 = .ok (.invokevirtual 128, 3) := by decide +kernel
theorem d_V_load_21 : decode b_V_load 21 = .ok (.return_, 1) := by decide +kernel
theorem d_V_load_10 : decode b_V_load 10 = .ok (.iload_n 3, 1) := by decide +kernel
theorem d_V_load_11 : decode b_V_load 11 = .ok (.iconst 5, 1) := by decide +kernel
theorem d_V_load_12 : decode b_V_load 12 = .ok (.if_icmp .le 10, 3) := by decide +kernel
theorem d_V_load_22 : decode b_V_load 22 = .ok (.aload_n 0, 1) := by decide +kernel
theorem d_V_load_23 : decode b_V_load 23 = .ok (.getfield 29, 3) := by decide +kernel
theorem d_V_load_26 : decode b_V_load 26 = .ok (.iload_n 2, 1) := by decide +kernel
theorem d_V_load_27 : decode b_V_load 27 = .ok (.invokestatic 239, 3) := by decide +kernel
theorem d_V_load_30 : decode b_V_load 30 = .ok (.invokevirtual 242, 3) := by decide +kernel
theorem d_V_load_33 : decode b_V_load 33 = .ok (.iload_n 2, 1) := by decide +kernel
theorem d_V_load_34 : decode b_V_load 34 = .ok (.invokestatic 245, 3) := by decide +kernel
theorem d_V_load_37 : decode b_V_load 37 = .ok (.iadd, 1) := by decide +kernel
theorem d_V_load_38 : decode b_V_load 38 = .ok (.istore 4, 2) := by decide +kernel
theorem d_V_load_40 : decode b_V_load 40 = .ok (.iload 4, 2) := by decide +kernel
theorem d_V_load_42 : decode b_V_load 42 = .ok (.iload_n 3, 1) := by decide +kernel
theorem d_V_load_43 : decode b_V_load 43 = .ok (.invokestatic 258, 3) := by decide +kernel
theorem d_V_load_46 : decode b_V_load 46 = .ok (.invokestatic 179, 3) := by decide +kernel
theorem d_V_load_49 : decode b_V_load 49 = .ok (.ifCond .ne 11, 3) := by decide +kernel
theorem d_V_load_60 : decode b_V_load 60 = .ok (.aload_n 0, 1) := by decide +kernel
theorem d_V_load_61 : decode b_V_load 61 = .ok (.aload_n 0, 1) := by decide +kernel
theorem d_V_load_62 : decode b_V_load 62 = .ok (.getfield 23, 3) := by decide +kernel
theorem d_V_load_65 : decode b_V_load 65 = .ok (.iload 4, 2) := by decide +kernel
theorem d_V_load_67 : decode b_V_load 67 = .ok (.iconst 2, 1) := by decide +kernel
theorem d_V_load_68 : decode b_V_load 68 = .ok (.iushr, 1) := by decide +kernel
theorem d_V_load_69 : decode b_V_load 69 = .ok (.invokevirtual 182, 3) := by decide +kernel
theorem d_V_load_72 : decode b_V_load 72 = .ok (.lstore 5, 2) := by decide +kernel
theorem d_V_load_74 : decode b_V_load 74 = .ok (.lload 5, 2) := by decide +kernel
theorem d_V_load_76 : decode b_V_load 76 = .ok (.ldc2_w 161, 3) := by decide +kernel
theorem d_V_load_79 : decode b_V_load 79 = .ok (.lcmp, 1) := by decide +kernel
theorem d_V_load_80 : decode b_V_load 80 = .ok (.ifCond .ne 13, 3) := by decide +kernel
theorem d_V_load_93 : decode b_V_load 93 = .ok (.aload_n 0, 1) := by decide +kernel
theorem d_V_load_94 : decode b_V_load 94 = .ok (.iload_n 1, 1) := by decide +kernel
theorem d_V_load_95 : decode b_V_load 95 = .ok (.iload_n 2, 1) := by decide +kernel
theorem d_V_load_96 : decode b_V_load 96 = .ok (.invokestatic 191, 3) := by decide +kernel
theorem d_V_load_99 : decode b_V_load 99 = .ok (.iload_n 3, 1) := by decide +kernel
theorem d_V_load_100 : decode b_V_load 100 = .ok (.lload 5, 2) := by decide +kernel
theorem d_V_load_102 : decode b_V_load 102 = .ok (.l2i, 1) := by decide +kernel
theorem d_V_load_103 : decode b_V_load 103 = .ok (.iload 4, 2) := by decide +kernel
theorem d_V_load_105 : decode b_V_load 105 = .ok (.invokestatic 260, 3) := by decide +kernel
theorem d_V_load_108 : decode b_V_load 108 = .ok (.iushr, 1) := by decide +kernel
theorem d_V_load_109 : decode b_V_load 109 = .ok (.invokestatic 263, 3) := by decide +kernel
theorem d_V_load_112 : decode b_V_load 112 = .ok (.invokevirtual 197, 3) := by decide +kernel
theorem d_V_load_115 : decode b_V_load 115 = .ok (.return_, 1) := by decide +kernel
theorem d_V_load_83 : decode b_V_load 83 = .ok (.aload_n 0, 1) := by decide +kernel
theorem d_V_load_84 : decode b_V_load 84 = .ok (.iconst 5, 1) := by decide +kernel
theorem d_V_load_85 : decode b_V_load 85 = .ok (.iload 4, 2) := by decide +kernel
theorem d_V_load_87 : decode b_V_load 87 = .ok (.iconst 2, 1) := by decide +kernel
theorem d_V_load_88 : decode b_V_load 88 = .ok (.iushr, 1) := by decide +kernel
theorem d_V_load_89 : decode b_V_load 89 = .ok (.invokevirtual 128, 3) := by decide +kernel
theorem d_V_load_92 : decode b_V_load 92 = .ok (.return_, 1) := by decide +kernel
theorem d_V_load_52 : decode b_V_load 52 = .ok (.aload_n 0, 1) := by decide +kernel
theorem d_V_load_53 : decode b_V_load 53 = .ok (.iconst 1, 1) := by decide +kernel
theorem d_V_load_54 : decode b_V_load 54 = .ok (.iload 4, 2) := by decide +kernel
theorem d_V_load_56 : decode b_V_load 56 = .ok (.invokevirtual 128, 3) := by decide +kernel
theorem d_V_load_59 : decode b_V_load 59 = .ok (.return_, 1) := by decide +kernel
theorem d_V_store_0 : decode b_V_store 0 = .ok (.iload_n 2, 1) := by decide +kernel
theorem d_V_store_1 : decode b_V_store 1 = .ok (.invokestatic 236, 3) := by decide +kernel
theorem d_V_store_4 : decode b_V_store 4 = .ok (.istore_n 3, 1) := by decide +kernel
theorem d_V_store_5 : decode b_V_store 5 = .ok (.iload_n 3, 1) := by decide +kernel
theorem d_V_store_6 : decode b_V_store 6 = .ok (.iconst 2, 1) := by decide +kernel
theorem d_V_store_7 : decode b_V_store 7 = .ok (.if_icmp .le 10, 3) := by decide +kernel
theorem d_V_store_17 : decode b_V_store 17 = .ok (.aload_n 0, 1) := by decide +kernel
theorem d_V_store_18 : decode b_V_store 18 = .ok (.getfield 29, 3) := by decide +kernel
theorem d_V_store_21 : decode b_V_store 21 = .ok (.iload_n 2, 1) := by decide +kernel
theorem d_V_store_22 : decode b_V_store 22 = .ok (.invokestatic 239, 3) := by decide +kernel
theorem d_V_store_25 : decode b_V_store 25 = .ok (.invokevirtual 242, 3) := by decide +kernel
theorem d_V_store_28 : decode b_V_store 28 = .ok (.iload_n 2, 1) := by decide +kernel
theorem d_V_store_29 : decode b_V_store 29 = .ok (.invokestatic 266, 3) := by decide +kernel
theorem d_V_store_32 : decode b_V_store 32 = .ok (.iadd, 1) := by decide +kernel
theorem d_V_store_33 : decode b_V_store 33 = .ok (.istore 4, 2) := by decide +kernel
theorem d_V_store_35 : decode b_V_store 35 = .ok (.iload 4, 2) := by decide +kernel
theorem d_V_store_37 : decode b_V_store 37 = .ok (.iload_n 3, 1) := by decide +kernel
theorem d_V_store_38 : decode b_V_store 38 = .ok (.invokestatic 258, 3) := by decide +kernel
theorem d_V_store_41 : decode b_V_store 41 = .ok (.invokestatic 179, 3) := by decide +kernel
theorem d_V_store_44 : decode b_V_store 44 = .ok (.ifCond .ne 11, 3) := by decide +kernel
theorem d_V_store_55 : decode b_V_store 55 = .ok (.aload_n 0, 1) := by decide +kernel
theorem d_V_store_56 : decode b_V_store 56 = .ok (.getfield 29, 3) := by decide +kernel
theorem d_V_store_59 : decode b_V_store 59 = .ok (.iload_n 2, 1) := by decide +kernel
theorem d_V_store_60 : decode b_V_store 60 = .ok (.invokestatic 248, 3) := by decide +kernel
theorem d_V_store_63 : decode b_V_store 63 = .ok (.invokevirtual 242, 3) := by decide +kernel
theorem d_V_store_66 : decode b_V_store 66 = .ok (.istore 5, 2) := by decide +kernel
theorem d_V_store_68 : decode b_V_store 68 = .ok (.iload 4, 2) := by decide +kernel
theorem d_V_store_70 : decode b_V_store 70 = .ok (.iconst 2, 1) := by decide +kernel
theorem d_V_store_71 : decode b_V_store 71 = .ok (.iushr, 1) := by decide +kernel
theorem d_V_store_72 : decode b_V_store 72 = .ok (.istore 6, 2) := by decide +kernel
theorem d_V_store_74 : decode b_V_store 74 = .ok (.iload_n 3, 1) := by decide +kernel
theorem d_V_store_75 : decode b_V_store 75 = .ok (.iconst 2, 1) := by decide +kernel
theorem d_V_store_76 : decode b_V_store 76 = .ok (.if_icmp .ne 17, 3) := by decide +kernel
theorem d_V_store_93 : decode b_V_store 93 = .ok (.aload_n 0, 1) := by decide +kernel
theorem d_V_store_94 : decode b_V_store 94 = .ok (.aload_n 0, 1) := by decide +kernel
theorem d_V_store_95 : decode b_V_store 95 = .ok (.getfield 23, 3) := by decide +kernel
theorem d_V_store_98 : decode b_V_store 98 = .ok (.iload 6, 2) := by decide +kernel
theorem d_V_store_100 : decode b_V_store 100 = .ok (.invokevirtual 182, 3) := by decide +kernel
theorem d_V_store_103 : decode b_V_store 103 = .ok (.lstore 7, 2) := by decide +kernel
theorem d_V_store_105 : decode b_V_store 105 = .ok (.lload 7, 2) := by decide +kernel
theorem d_V_store_107 : decode b_V_store 107 = .ok (.ldc2_w 161, 3) := by decide +kernel
theorem d_V_store_110 : decode b_V_store 110 = .ok (.lcmp, 1) := by decide +kernel
theorem d_V_store_111 : decode b_V_store 111 = .ok (.ifCond .ne 11, 3) := by decide +kernel
theorem d_V_store_122 : decode b_V_store 122 = .ok (.iload_n 3, 1) := by decide +kernel
theorem d_V_store_123 : decode b_V_store 123 = .ok (.ifCond .ne 9, 3) := by decide +kernel
theorem d_V_store_132 : decode b_V_store 132 = .ok (.ldc_w 272, 3) := by decide +kernel
theorem d_V_store_135 : decode b_V_store 135 = .ok (.iload 4, 2) := by decide +kernel
theorem d_V_store_137 : decode b_V_store 137 = .ok (.invokestatic 260, 3) := by decide +kernel
theorem d_V_store_140 : decode b_V_store 140 = .ok (.ishl, 1) := by decide +kernel
theorem d_V_store_141 : decode b_V_store 141 = .ok (.istore 9, 2) := by decide +kernel
theorem d_V_store_143 : decode b_V_store 143 = .ok (.aload_n 0, 1) := by decide +kernel
theorem d_V_store_144 : decode b_V_store 144 = .ok (.iload 6, 2) := by decide +kernel
theorem d_V_store_146 : decode b_V_store 146 = .ok (.lload 7, 2) := by decide +kernel
theorem d_V_store_148 : decode b_V_store 148 = .ok (.l2i, 1) := by decide +kernel
theorem d_V_store_149 : decode b_V_store 149 = .ok (.iload 9, 2) := by decide +kernel
theorem d_V_store_151 : decode b_V_store 151 = .ok (.iconst (-1), 1) := by decide +kernel
theorem d_V_store_152 : decode b_V_store 152 = .ok (.ixor, 1) := by decide +kernel
theorem d_V_store_153 : decode b_V_store 153 = .ok (.iand, 1) := by decide +kernel
theorem d_V_store_154 : decode b_V_store 154 = .ok (.iload 5, 2) := by decide +kernel
theorem d_V_store_156 : decode b_V_store 156 = .ok (.iload 4, 2) := by decide +kernel
theorem d_V_store_158 : decode b_V_store 158 = .ok (.invokestatic 260, 3) := by decide +kernel
theorem d_V_store_161 : decode b_V_store 161 = .ok (.ishl, 1) := by decide +kernel
theorem d_V_store_162 : decode b_V_store 162 = .ok (.iload 9, 2) := by decide +kernel
theorem d_V_store_164 : decode b_V_store 164 = .ok (.iand, 1) := by decide +kernel
theorem d_V_store_165 : decode b_V_store 165 = .ok (.ior, 1) := by decide +kernel
end
section
theorem d_V_store_166 : decode b_V_store 166 = .ok (.invokevirtual 269, 3) := by decide +kernel
theorem d_V_store_169 : decode b_V_store 169 = .ok (.aload_n 0, 1) := by decide +kernel
theorem d_V_store_170 : decode b_V_store 170 = .ok (.iload_n 1, 1) := by decide +kernel
theorem d_V_store_171 : decode b_V_store 171 = .ok (.invokevirtual 233, 3) := by decide +kernel
theorem d_V_store_174 : decode b_V_store 174 = .ok (.return_, 1) := by decide +kernel
theorem d_V_store_126 : decode b_V_store 126 = .ok (.sipush 255, 3) := by decide +kernel
theorem d_V_store_129 : decode b_V_store 129 = .ok (.goto 6, 3) := by decide +kernel
theorem d_V_store_114 : decode b_V_store 114 = .ok (.aload_n 0, 1) := by decide +kernel
theorem d_V_store_115 : decode b_V_store 115 = .ok (.iconst 5, 1) := by decide +kernel
theorem d_V_store_116 : decode b_V_store 116 = .ok (.iload 6, 2) := by decide +kernel
theorem d_V_store_118 : decode b_V_store 118 = .ok (.invokevirtual 128, 3) := by decide +kernel
theorem d_V_store_121 : decode b_V_store 121 = .ok (.return_, 1) := by decide +kernel
theorem d_V_store_79 : decode b_V_store 79 = .ok (.aload_n 0, 1) := by decide +kernel
theorem d_V_store_80 : decode b_V_store 80 = .ok (.iload 6, 2) := by decide +kernel
theorem d_V_store_82 : decode b_V_store 82 = .ok (.iload 5, 2) := by decide +kernel
theorem d_V_store_84 : decode b_V_store 84 = .ok (.invokevirtual 269, 3) := by decide +kernel
theorem d_V_store_87 : decode b_V_store 87 = .ok (.aload_n 0, 1) := by decide +kernel
theorem d_V_store_88 : decode b_V_store 88 = .ok (.iload_n 1, 1) := by decide +kernel
theorem d_V_store_89 : decode b_V_store 89 = .ok (.invokevirtual 233, 3) := by decide +kernel
theorem d_V_store_92 : decode b_V_store 92 = .ok (.return_, 1) := by decide +kernel
theorem d_V_store_47 : decode b_V_store 47 = .ok (.aload_n 0, 1) := by decide +kernel
theorem d_V_store_48 : decode b_V_store 48 = .ok (.iconst 1, 1) := by decide +kernel
theorem d_V_store_49 : decode b_V_store 49 = .ok (.iload 4, 2) := by decide +kernel
theorem d_V_store_51 : decode b_V_store 51 = .ok (.invokevirtual 128, 3) := by decide +kernel
theorem d_V_store_54 : decode b_V_store 54 = .ok (.return_, 1) := by decide +kernel
theorem d_V_store_10 : decode b_V_store 10 = .ok (.aload_n 0, 1) := by decide +kernel
theorem d_V_store_11 : decode b_V_store 11 = .ok (.iconst 2, 1) := by decide +kernel
theorem d_V_store_12 : decode b_V_store 12 = .ok (.iload_n 2, 1) := by decide +kernel
theorem d_V_store_13 : decode b_V_store 13 = .ok (.invokevirtual 128, 3) := by decide +kernel
theorem d_V_store_16 : decode b_V_store 16 = .ok (.return_, 1) := by decide +kernel
theorem d_V_computeWithNumber_0 : decode b_V_computeWithNumber 0 = .ok (.iload_n 2, 1) := by decide +kernel
theorem d_V_computeWithNumber_1 : decode b_V_computeWithNumber 1 = .ok (.invokestatic 236, 3) := by decide +kernel
theorem d_V_computeWithNumber_4 : decode b_V_computeWithNumber 4 = .ok (.istore_n 3, 1) := by decide +kernel
theorem d_V_computeWithNumber_5 : decode b_V_computeWithNumber 5 = .ok (.iload_n 2, 1) := by decide +kernel
theorem d_V_computeWithNumber_6 : decode b_V_computeWithNumber 6 = .ok (.invokestatic 273, 3) := by decide +kernel
theorem d_V_computeWithNumber_9 : decode b_V_computeWithNumber 9 = .ok (.istore 4, 2) := by decide +kernel
theorem d_V_computeWithNumber_11 : decode b_V_computeWithNumber 11 = .ok (.iload_n 3, 1) := by decide +kernel
theorem d_V_computeWithNumber_12 : decode b_V_computeWithNumber 12 = .ok (.iconst 5, 1) := by decide +kernel
theorem d_V_computeWithNumber_13 : decode b_V_computeWithNumber 13 = .ok (.if_icmp .ne 14, 3) := by decide +kernel
theorem d_V_computeWithNumber_27 : decode b_V_computeWithNumber 27 = .ok (.iconst 0, 1) := by decide +kernel
theorem d_V_computeWithNumber_28 : decode b_V_computeWithNumber 28 = .ok (.istore 5, 2) := by decide +kernel
theorem d_V_computeWithNumber_30 : decode b_V_computeWithNumber 30 = .ok (.iload_n 3, 1) := by decide +kernel
theorem d_V_computeWithNumber_31 : decode b_V_computeWithNumber 31 = .ok (.iconst 1, 1) := by decide +kernel
theorem d_V_computeWithNumber_32 : decode b_V_computeWithNumber 32 = .ok (.if_icmp .eq 8, 3) := by decide +kernel
theorem d_V_computeWithNumber_40 : decode b_V_computeWithNumber 40 = .ok (.iconst 1, 1) := by decide +kernel
theorem d_V_computeWithNumber_41 : decode b_V_computeWithNumber 41 = .ok (.goto 4, 3) := by decide +kernel
theorem d_V_computeWithNumber_45 : decode b_V_computeWithNumber 45 = .ok (.istore 6, 2) := by decide +kernel
theorem d_V_computeWithNumber_47 : decode b_V_computeWithNumber 47 = .ok (.iload 6, 2) := by decide +kernel
theorem d_V_computeWithNumber_49 : decode b_V_computeWithNumber 49 = .ok (.ifCond .eq 20, 3) := by decide +kernel
theorem d_V_computeWithNumber_52 : decode b_V_computeWithNumber 52 = .ok (.iload 4, 2) := by decide +kernel
theorem d_V_computeWithNumber_54 : decode b_V_computeWithNumber 54 = .ok (.ifCond .eq 15, 3) := by decide +kernel
theorem d_V_computeWithNumber_69 : decode b_V_computeWithNumber 69 = .ok (.aload_n 0, 1) := by decide +kernel
theorem d_V_computeWithNumber_70 : decode b_V_computeWithNumber 70 = .ok (.getfield 29, 3) := by decide +kernel
theorem d_V_computeWithNumber_73 : decode b_V_computeWithNumber 73 = .ok (.iload_n 2, 1) := by decide +kernel
theorem d_V_computeWithNumber_74 : decode b_V_computeWithNumber 74 = .ok (.invokestatic 239, 3) := by decide +kernel
theorem d_V_computeWithNumber_77 : decode b_V_computeWithNumber 77 = .ok (.invokevirtual 242, 3) := by decide +kernel
theorem d_V_computeWithNumber_80 : decode b_V_computeWithNumber 80 = .ok (.istore 7, 2) := by decide +kernel
theorem d_V_computeWithNumber_82 : decode b_V_computeWithNumber 82 = .ok (.aload_n 0, 1) := by decide +kernel
theorem d_V_computeWithNumber_83 : decode b_V_computeWithNumber 83 = .ok (.iload_n 1, 1) := by decide +kernel
theorem d_V_computeWithNumber_84 : decode b_V_computeWithNumber 84 = .ok (.iload_n 2, 1) := by decide +kernel
theorem d_V_computeWithNumber_85 : decode b_V_computeWithNumber 85 = .ok (.invokestatic 191, 3) := by decide +kernel
theorem d_V_computeWithNumber_88 : decode b_V_computeWithNumber 88 = .ok (.iload_n 3, 1) := by decide +kernel
theorem d_V_computeWithNumber_89 : decode b_V_computeWithNumber 89 = .ok (.iload 5, 2) := by decide +kernel
theorem d_V_computeWithNumber_91 : decode b_V_computeWithNumber 91 = .ok (.iload 7, 2) := by decide +kernel
theorem d_V_computeWithNumber_93 : decode b_V_computeWithNumber 93 = .ok (.iload_n 2, 1) := by decide +kernel
theorem d_V_computeWithNumber_94 : decode b_V_computeWithNumber 94 = .ok (.invokestatic 245, 3) := by decide +kernel
theorem d_V_computeWithNumber_97 : decode b_V_computeWithNumber 97 = .ok (.invokestatic 276, 3) := by decide +kernel
theorem d_V_computeWithNumber_100 : decode b_V_computeWithNumber 100 = .ok (.invokevirtual 197, 3) := by decide +kernel
theorem d_V_computeWithNumber_103 : decode b_V_computeWithNumber 103 = .ok (.return_, 1) := by decide +kernel
theorem d_V_computeWithNumber_57 : decode b_V_computeWithNumber 57 = .ok (.iload 5, 2) := by decide +kernel
theorem d_V_computeWithNumber_59 : decode b_V_computeWithNumber 59 = .ok (.ifCond .ne 10, 3) := by decide +kernel
theorem d_V_computeWithNumber_62 : decode b_V_computeWithNumber 62 = .ok (.aload_n 0, 1) := by decide +kernel
theorem d_V_computeWithNumber_63 : decode b_V_computeWithNumber 63 = .ok (.iconst 2, 1) := by decide +kernel
theorem d_V_computeWithNumber_64 : decode b_V_computeWithNumber 64 = .ok (.iload_n 2, 1) := by decide +kernel
theorem d_V_computeWithNumber_65 : decode b_V_computeWithNumber 65 = .ok (.invokevirtual 128, 3) := by decide +kernel
theorem d_V_computeWithNumber_68 : decode b_V_computeWithNumber 68 = .ok (.return_, 1) := by decide +kernel
theorem d_V_computeWithNumber_35 : decode b_V_computeWithNumber 35 = .ok (.iload_n 3, 1) := by decide +kernel
theorem d_V_computeWithNumber_36 : decode b_V_computeWithNumber 36 = .ok (.iconst 5, 1) := by decide +kernel
theorem d_V_computeWithNumber_37 : decode b_V_computeWithNumber 37 = .ok (.if_icmp .ne 7, 3) := by decide +kernel
theorem d_V_computeWithNumber_44 : decode b_V_computeWithNumber 44 = .ok (.iconst 0, 1) := by decide +kernel
theorem d_V_computeWithNumber_16 : decode b_V_computeWithNumber 16 = .ok (.iload 4, 2) := by decide +kernel
theorem d_V_computeWithNumber_18 : decode b_V_computeWithNumber 18 = .ok (.bipush 32, 2) := by decide +kernel
theorem d_V_computeWithNumber_20 : decode b_V_computeWithNumber 20 = .ok (.if_icmp .ne 7, 3) := by decide +kernel
theorem d_V_computeWithNumber_23 : decode b_V_computeWithNumber 23 = .ok (.iconst 1, 1) := by decide +kernel
theorem d_V_computeWithNumber_24 : decode b_V_computeWithNumber 24 = .ok (.goto 4, 3) := by decide +kernel
theorem d_V_computeWithRegister_0 : decode b_V_computeWithRegister 0 = .ok (.iload_n 2, 1) := by decide +kernel
theorem d_V_computeWithRegister_1 : decode b_V_computeWithRegister 1 = .ok (.invokestatic 236, 3) := by decide +kernel
theorem d_V_computeWithRegister_4 : decode b_V_computeWithRegister 4 = .ok (.istore_n 3, 1) := by decide +kernel
theorem d_V_computeWithRegister_5 : decode b_V_computeWithRegister 5 = .ok (.iload_n 2, 1) := by decide +kernel
theorem d_V_computeWithRegister_6 : decode b_V_computeWithRegister 6 = .ok (.invokestatic 273, 3) := by decide +kernel
theorem d_V_computeWithRegister_9 : decode b_V_computeWithRegister 9 = .ok (.istore 4, 2) := by decide +kernel
theorem d_V_computeWithRegister_11 : decode b_V_computeWithRegister 11 = .ok (.iload 4, 2) := by decide +kernel
theorem d_V_computeWithRegister_13 : decode b_V_computeWithRegister 13 = .ok (.bipush 32, 2) := by decide +kernel
theorem d_V_computeWithRegister_15 : decode b_V_computeWithRegister 15 = .ok (.if_icmp .ne 16, 3) := by decide +kernel
theorem d_V_computeWithRegister_31 : decode b_V_computeWithRegister 31 = .ok (.iconst 0, 1) := by decide +kernel
theorem d_V_computeWithRegister_32 : decode b_V_computeWithRegister 32 = .ok (.istore 5, 2) := by decide +kernel
theorem d_V_computeWithRegister_34 : decode b_V_computeWithRegister 34 = .ok (.iload 4, 2) := by decide +kernel
theorem d_V_computeWithRegister_36 : decode b_V_computeWithRegister 36 = .ok (.ifCond .eq 15, 3) := by decide +kernel
theorem d_V_computeWithRegister_51 : decode b_V_computeWithRegister 51 = .ok (.aload_n 0, 1) := by decide +kernel
theorem d_V_computeWithRegister_52 : decode b_V_computeWithRegister 52 = .ok (.getfield 29, 3) := by decide +kernel
theorem d_V_computeWithRegister_55 : decode b_V_computeWithRegister 55 = .ok (.iload_n 2, 1) := by decide +kernel
theorem d_V_computeWithRegister_56 : decode b_V_computeWithRegister 56 = .ok (.invokestatic 239, 3) := by decide +kernel
theorem d_V_computeWithRegister_59 : decode b_V_computeWithRegister 59 = .ok (.invokevirtual 242, 3) := by decide +kernel
theorem d_V_computeWithRegister_62 : decode b_V_computeWithRegister 62 = .ok (.istore 6, 2) := by decide +kernel
theorem d_V_computeWithRegister_64 : decode b_V_computeWithRegister 64 = .ok (.aload_n 0, 1) := by decide +kernel
theorem d_V_computeWithRegister_65 : decode b_V_computeWithRegister 65 = .ok (.getfield 29, 3) := by decide +kernel
theorem d_V_computeWithRegister_68 : decode b_V_computeWithRegister 68 = .ok (.iload_n 2, 1) := by decide +kernel
theorem d_V_computeWithRegister_69 : decode b_V_computeWithRegister 69 = .ok (.invokestatic 248, 3) := by decide +kernel
theorem d_V_computeWithRegister_72 : decode b_V_computeWithRegister 72 = .ok (.invokevirtual 242, 3) := by decide +kernel
theorem d_V_computeWithRegister_75 : decode b_V_computeWithRegister 75 = .ok (.istore 7, 2) := by decide +kernel
theorem d_V_computeWithRegister_77 : decode b_V_computeWithRegister 77 = .ok (.aload_n 0, 1) := by decide +kernel
theorem d_V_computeWithRegister_78 : decode b_V_computeWithRegister 78 = .ok (.iload_n 1, 1) := by decide +kernel
theorem d_V_computeWithRegister_79 : decode b_V_computeWithRegister 79 = .ok (.iload_n 2, 1) := by decide +kernel
theorem d_V_computeWithRegister_80 : decode b_V_computeWithRegister 80 = .ok (.invokestatic 191, 3) := by decide +kernel
theorem d_V_computeWithRegister_83 : decode b_V_computeWithRegister 83 = .ok (.iload_n 3, 1) := by decide +kernel
theorem d_V_computeWithRegister_84 : decode b_V_computeWithRegister 84 = .ok (.iload 5, 2) := by decide +kernel
theorem d_V_computeWithRegister_86 : decode b_V_computeWithRegister 86 = .ok (.iload 6, 2) := by decide +kernel
theorem d_V_computeWithRegister_88 : decode b_V_computeWithRegister 88 = .ok (.iload 7, 2) := by decide +kernel
theorem d_V_computeWithRegister_90 : decode b_V_computeWithRegister 90 = .ok (.invokestatic 276, 3) := by decide +kernel
theorem d_V_computeWithRegister_93 : decode b_V_computeWithRegister 93 = .ok (.invokevirtual 197, 3) := by decide +kernel
theorem d_V_computeWithRegister_96 : decode b_V_computeWithRegister 96 = .ok (.return_, 1) := by decide +kernel
theorem d_V_computeWithRegister_39 : decode b_V_computeWithRegister 39 = .ok (.iload 5, 2) := by decide +kernel
theorem d_V_computeWithRegister_41 : decode b_V_computeWithRegister 41 = .ok (.ifCond .ne 10, 3) := by decide +kernel
theorem d_V_computeWithRegister_44 : decode b_V_computeWithRegister 44 = .ok (.aload_n 0, 1) := by decide +kernel
theorem d_V_computeWithRegister_45 : decode b_V_computeWithRegister 45 = .ok (.iconst 2, 1) := by decide +kernel
theorem d_V_computeWithRegister_46 : decode b_V_computeWithRegister 46 = .ok (.iload_n 2, 1) := by decide +kernel
theorem d_V_computeWithRegister_47 : decode b_V_computeWithRegister 47 = .ok (.invokevirtual 128, 3) := by decide +kernel
theorem d_V_computeWithRegister_50 : decode b_V_computeWithRegister 50 = .ok (.return_, 1) := by decide +kernel
theorem d_V_computeWithRegister_18 : decode b_V_computeWithRegister 18 = .ok (.iload_n 3, 1) := by decide +kernel
theorem d_V_computeWithRegister_19 : decode b_V_computeWithRegister 19 = .ok (.ifCond .eq 8, 3) := by decide +kernel
theorem d_V_computeWithRegister_27 : decode b_V_computeWithRegister 27 = .ok (.iconst 1, 1) := by decide +kernel
theorem d_V_computeWithRegister_28 : decode b_V_computeWithRegister 28 = .ok (.goto 4, 3) := by decide +kernel
theorem d_V_computeWithRegister_22 : decode b_V_computeWithRegister 22 = .ok (.iload_n 3, 1) := by decide +kernel
theorem d_V_computeWithRegister_23 : decode b_V_computeWithRegister 23 = .ok (.iconst 5, 1) := by decide +kernel
theorem d_V_computeWithRegister_24 : decode b_V_computeWithRegister 24 = .ok (.if_icmp .ne 7, 3) := by decide +kernel
theorem d_V_doNothing_0 : decode b_V_doNothing 0 = .ok (.iload_n 2, 1) := by decide +kernel
theorem d_V_doNothing_1 : decode b_V_doNothing 1 = .ok (.invokestatic 236, 3) := by decide +kernel
theorem d_V_doNothing_4 : decode b_V_doNothing 4 = .ok (.ifCond .eq 10, 3) := by decide +kernel
theorem d_V_doNothing_14 : decode b_V_doNothing 14 = .ok (.aload_n 0, 1) := by decide +kernel
theorem d_V_doNothing_15 : decode b_V_doNothing 15 = .ok (.iload_n 1, 1) := by decide +kernel
theorem d_V_doNothing_16 : decode b_V_doNothing 16 = .ok (.invokevirtual 233, 3) := by decide +kernel
theorem d_V_doNothing_19 : decode b_V_doNothing 19 = .ok (.return_, 1) := by decide +kernel
theorem d_V_doNothing_7 : decode b_V_doNothing 7 = .ok (.aload_n 0, 1) := by decide +kernel
theorem d_V_doNothing_8 : decode b_V_doNothing 8 = .ok (.iconst 2, 1) := by decide +kernel
theorem d_V_doNothing_9 : decode b_V_doNothing 9 = .ok (.iload_n 2, 1) := by decide +kernel
theorem d_V_doNothing_10 : decode b_V_doNothing 10 = .ok (.invokevirtual 128, 3) := by decide +kernel
theorem d_V_doNothing_13 : decode b_V_doNothing 13 = .ok (.return_, 1) := by decide +kernel
theorem d_V_callOrBreak_0 : decode b_V_callOrBreak 0 = .ok (.iload_n 1, 1) := by decide +kernel
theorem d_V_callOrBreak_1 : decode b_V_callOrBreak 1 = .ok (.bipush 115, 2) := by decide +kernel
theorem d_V_callOrBreak_3 : decode b_V_callOrBreak 3 = .ok (.if_icmp .ne 12, 3) := by decide +kernel
theorem d_V_callOrBreak_15 : decode b_V_callOrBreak 15 = .ok (.iload_n 1, 1) := by decide +kernel
theorem d_V_callOrBreak_16 : decode b_V_callOrBreak 16 = .ok (.ldc_w 280, 3) := by decide +kernel
theorem d_V_callOrBreak_19 : decode b_V_callOrBreak 19 = .ok (.if_icmp .ne 12, 3) := by decide +kernel
theorem d_V_callOrBreak_31 : decode b_V_callOrBreak 31 = .ok (.aload_n 0, 1) := by decide +kernel
theorem d_V_callOrBreak_32 : decode b_V_callOrBreak 32 = .ok (.iconst 2, 1) := by decide +kernel
theorem d_V_callOrBreak_33 : decode b_V_callOrBreak 33 = .ok (.iload_n 1, 1) := by decide +kernel
theorem d_V_callOrBreak_34 : decode b_V_callOrBreak 34 = .ok (.invokevirtual 128, 3) := by decide +kernel
theorem d_V_callOrBreak_37 : decode b_V_callOrBreak 37 = .ok (.return_, 1) := by decide +kernel
theorem d_V_callOrBreak_22 : decode b_V_callOrBreak 22 = .ok (.aload_n 0, 1) := by decide +kernel
theorem d_V_callOrBreak_23 : decode b_V_callOrBreak 23 = .ok (.iconst 4, 1) := by decide +kernel
theorem d_V_callOrBreak_24 : decode b_V_callOrBreak 24 = .ok (.iconst 0, 1) := by decide +kernel
theorem d_V_callOrBreak_25 : decode b_V_callOrBreak 25 = .ok (.invokevirtual 128, 3) := by decide +kernel
theorem d_V_callOrBreak_28 : decode b_V_callOrBreak 28 = .ok (.goto 9, 3) := by decide +kernel
theorem d_V_callOrBreak_6 : decode b_V_callOrBreak 6 = .ok (.aload_n 0, 1) := by decide +kernel
theorem d_V_callOrBreak_7 : decode b_V_callOrBreak 7 = .ok (.iconst 3, 1) := by decide +kernel
theorem d_V_callOrBreak_8 : decode b_V_callOrBreak 8 = .ok (.iconst 0, 1) := by decide +kernel
theorem d_V_callOrBreak_9 : decode b_V_callOrBreak 9 = .ok (.invokevirtual 128, 3) := by decide +kernel
theorem d_V_callOrBreak_12 : decode b_V_callOrBreak 12 = .ok (.goto 25, 3) := by decide +kernel
theorem d_V_doInstruction_0 : decode b_V_doInstruction 0 = .ok (.aload_n 0, 1) := by decide +kernel
theorem d_V_doInstruction_1 : decode b_V_doInstruction 1 = .ok (.getfield 29, 3) := by decide +kernel
theorem d_V_doInstruction_4 : decode b_V_doInstruction 4 = .ok (.iconst 0, 1) := by decide +kernel
theorem d_V_doInstruction_5 : decode b_V_doInstruction 5 = .ok (.invokevirtual 70, 3) := by decide +kernel
theorem d_V_doInstruction_8 : decode b_V_doInstruction 8 = .ok (.istore_n 1, 1) := by decide +kernel
theorem d_V_doInstruction_9 : decode b_V_doInstruction 9 = .ok (.iload_n 1, 1) := by decide +kernel
theorem d_V_doInstruction_10 : decode b_V_doInstruction 10 = .ok (.iconst 4, 1) := by decide +kernel
theorem d_V_doInstruction_11 : decode b_V_doInstruction 11 = .ok (.invokestatic 179, 3) := by decide +kernel
theorem d_V_doInstruction_14 : decode b_V_doInstruction 14 = .ok (.ifCond .ne 10, 3) := by decide +kernel
theorem d_V_doInstruction_24 : decode b_V_doInstruction 24 = .ok (.aload_n 0, 1) := by decide +kernel
theorem d_V_doInstruction_25 : decode b_V_doInstruction 25 = .ok (.aload_n 0, 1) := by decide +kernel
theorem d_V_doInstruction_26 : decode b_V_doInstruction 26 = .ok (.getfield 19, 3) := by decide +kernel
theorem d_V_doInstruction_29 : decode b_V_doInstruction 29 = .ok (.iload_n 1, 1) := by decide +kernel
theorem d_V_doInstruction_30 : decode b_V_doInstruction 30 = .ok (.iconst 2, 1) := by decide +kernel
theorem d_V_doInstruction_31 : decode b_V_doInstruction 31 = .ok (.iushr, 1) := by decide +kernel
theorem d_V_doInstruction_32 : decode b_V_doInstruction 32 = .ok (.invokevirtual 182, 3) := by decide +kernel
theorem d_V_doInstruction_35 : decode b_V_doInstruction 35 = .ok (.lstore_n 2, 1) := by decide +kernel
theorem d_V_doInstruction_36 : decode b_V_doInstruction 36 = .ok (.lload_n 2, 1) := by decide +kernel
theorem d_V_doInstruction_37 : decode b_V_doInstruction 37 = .ok (.ldc2_w 161, 3) := by decide +kernel
theorem d_V_doInstruction_40 : decode b_V_doInstruction 40 = .ok (.lcmp, 1) := by decide +kernel
theorem d_V_doInstruction_41 : decode b_V_doInstruction 41 = .ok (.ifCond .ne 12, 3) := by decide +kernel
theorem d_V_doInstruction_53 : decode b_V_doInstruction 53 = .ok (.lload_n 2, 1) := by decide +kernel
theorem d_V_doInstruction_54 : decode b_V_doInstruction 54 = .ok (.l2i, 1) := by decide +kernel
theorem d_V_doInstruction_55 : decode b_V_doInstruction 55 = .ok (.istore 4, 2) := by decide +kernel
theorem d_V_doInstruction_57 : decode b_V_doInstruction 57 = .ok (.iload 4, 2) := by decide +kernel
theorem d_V_doInstruction_59 : decode b_V_doInstruction 59 = .ok (.invokestatic 186, 3) := by decide +kernel
theorem d_V_doInstruction_62 : decode b_V_doInstruction 62 = .ok (.lookupswitch 218 #[(3, 168), (15, 208), (19, 188), (23, 108), (35, 178), (51, 198), (55, 90), (99, 158), (103, 148), (111, 128)], 90) := by decide +kernel
theorem d_V_doInstruction_230 : decode b_V_doInstruction 230 = .ok (.aload_n 0, 1) := by decide +kernel
theorem d_V_doInstruction_231 : decode b_V_doInstruction 231 = .ok (.iload_n 1, 1) := by decide +kernel
theorem d_V_doInstruction_232 : decode b_V_doInstruction 232 = .ok (.iload 4, 2) := by decide +kernel
theorem d_V_doInstruction_234 : decode b_V_doInstruction 234 = .ok (.invokevirtual 212, 3) := by decide +kernel
theorem d_V_doInstruction_237 : decode b_V_doInstruction 237 = .ok (.goto 49, 3) := by decide +kernel
theorem d_V_doInstruction_286 : decode b_V_doInstruction 286 = .ok (.return_, 1) := by decide +kernel
theorem d_V_doInstruction_270 : decode b_V_doInstruction 270 = .ok (.aload_n 0, 1) := by decide +kernel
theorem d_V_doInstruction_271 : decode b_V_doInstruction 271 = .ok (.iload_n 1, 1) := by decide +kernel
theorem d_V_doInstruction_272 : decode b_V_doInstruction 272 = .ok (.iload 4, 2) := by decide +kernel
theorem d_V_doInstruction_274 : decode b_V_doInstruction 274 = .ok (.invokevirtual 224, 3) := by decide +kernel
theorem d_V_doInstruction_277 : decode b_V_doInstruction 277 = .ok (.goto 9, 3) := by decide +kernel
theorem d_V_doInstruction_250 : decode b_V_doInstruction 250 = .ok (.aload_n 0, 1) := by decide +kernel
theorem d_V_doInstruction_251 : decode b_V_doInstruction 251 = .ok (.iload_n 1, 1) := by decide +kernel
theorem d_V_doInstruction_252 : decode b_V_doInstruction 252 = .ok (.iload 4, 2) := by decide +kernel
theorem d_V_doInstruction_254 : decode b_V_doInstruction 254 = .ok (.invokevirtual 218, 3) := by decide +kernel
theorem d_V_doInstruction_257 : decode b_V_doInstruction 257 = .ok (.goto 29, 3) := by decide +kernel
theorem d_V_doInstruction_170 : decode b_V_doInstruction 170 = .ok (.aload_n 0, 1) := by decide +kernel
theorem d_V_doInstruction_171 : decode b_V_doInstruction 171 = .ok (.iload_n 1, 1) := by decide +kernel
theorem d_V_doInstruction_172 : decode b_V_doInstruction 172 = .ok (.iload 4, 2) := by decide +kernel
theorem d_V_doInstruction_174 : decode b_V_doInstruction 174 = .ok (.invokestatic 191, 3) := by decide +kernel
theorem d_V_doInstruction_177 : decode b_V_doInstruction 177 = .ok (.iload_n 1, 1) := by decide +kernel
theorem d_V_doInstruction_178 : decode b_V_doInstruction 178 = .ok (.iload 4, 2) := by decide +kernel
theorem d_V_doInstruction_180 : decode b_V_doInstruction 180 = .ok (.invokestatic 194, 3) := by decide +kernel
theorem d_V_doInstruction_183 : decode b_V_doInstruction 183 = .ok (.iadd, 1) := by decide +kernel
theorem d_V_doInstruction_184 : decode b_V_doInstruction 184 = .ok (.invokevirtual 197, 3) := by decide +kernel
theorem d_V_doInstruction_187 : decode b_V_doInstruction 187 = .ok (.goto 99, 3) := by decide +kernel
theorem d_V_doInstruction_240 : decode b_V_doInstruction 240 = .ok (.aload_n 0, 1) := by decide +kernel
theorem d_V_doInstruction_241 : decode b_V_doInstruction 241 = .ok (.iload_n 1, 1) := by decide +kernel
theorem d_V_doInstruction_242 : decode b_V_doInstruction 242 = .ok (.iload 4, 2) := by decide +kernel
theorem d_V_doInstruction_244 : decode b_V_doInstruction 244 = .ok (.invokevirtual 215, 3) := by decide +kernel
theorem d_V_doInstruction_247 : decode b_V_doInstruction 247 = .ok (.goto 39, 3) := by decide +kernel
theorem d_V_doInstruction_260 : decode b_V_doInstruction 260 = .ok (.aload_n 0, 1) := by decide +kernel
theorem d_V_doInstruction_261 : decode b_V_doInstruction 261 = .ok (.iload_n 1, 1) := by decide +kernel
theorem d_V_doInstruction_262 : decode b_V_doInstruction 262 = .ok (.iload 4, 2) := by decide +kernel
theorem d_V_doInstruction_264 : decode b_V_doInstruction 264 = .ok (.invokevirtual 221, 3) := by decide +kernel
theorem d_V_doInstruction_267 : decode b_V_doInstruction 267 = .ok (.goto 19, 3) := by decide +kernel
theorem d_V_doInstruction_152 : decode b_V_doInstruction 152 = .ok (.aload_n 0, 1) := by decide +kernel
theorem d_V_doInstruction_153 : decode b_V_doInstruction 153 = .ok (.iload_n 1, 1) := by decide +kernel
theorem d_V_doInstruction_154 : decode b_V_doInstruction 154 = .ok (.iload 4, 2) := by decide +kernel
theorem d_V_doInstruction_156 : decode b_V_doInstruction 156 = .ok (.invokestatic 191, 3) := by decide +kernel
theorem d_V_doInstruction_159 : decode b_V_doInstruction 159 = .ok (.iload 4, 2) := by decide +kernel
theorem d_V_doInstruction_161 : decode b_V_doInstruction 161 = .ok (.invokestatic 194, 3) := by decide +kernel
theorem d_V_doInstruction_164 : decode b_V_doInstruction 164 = .ok (.invokevirtual 197, 3) := by decide +kernel
theorem d_V_doInstruction_167 : decode b_V_doInstruction 167 = .ok (.goto 119, 3) := by decide +kernel
theorem d_V_doInstruction_220 : decode b_V_doInstruction 220 = .ok (.aload_n 0, 1) := by decide +kernel
theorem d_V_doInstruction_221 : decode b_V_doInstruction 221 = .ok (.iload_n 1, 1) := by decide +kernel
theorem d_V_doInstruction_222 : decode b_V_doInstruction 222 = .ok (.iload 4, 2) := by decide +kernel
theorem d_V_doInstruction_224 : decode b_V_doInstruction 224 = .ok (.invokevirtual 209, 3) := by decide +kernel
theorem d_V_doInstruction_227 : decode b_V_doInstruction 227 = .ok (.goto 59, 3) := by decide +kernel
theorem d_V_doInstruction_210 : decode b_V_doInstruction 210 = .ok (.aload_n 0, 1) := by decide +kernel
theorem d_V_doInstruction_211 : decode b_V_doInstruction 211 = .ok (.iload_n 1, 1) := by decide +kernel
theorem d_V_doInstruction_212 : decode b_V_doInstruction 212 = .ok (.iload 4, 2) := by decide +kernel
theorem d_V_doInstruction_214 : decode b_V_doInstruction 214 = .ok (.invokevirtual 206, 3) := by decide +kernel
theorem d_V_doInstruction_217 : decode b_V_doInstruction 217 = .ok (.goto 69, 3) := by decide +kernel
theorem d_V_doInstruction_190 : decode b_V_doInstruction 190 = .ok (.aload_n 0, 1) := by decide +kernel
theorem d_V_doInstruction_191 : decode b_V_doInstruction 191 = .ok (.iload_n 1, 1) := by decide +kernel
theorem d_V_doInstruction_192 : decode b_V_doInstruction 192 = .ok (.iload 4, 2) := by decide +kernel
theorem d_V_doInstruction_194 : decode b_V_doInstruction 194 = .ok (.invokestatic 191, 3) := by decide +kernel
theorem d_V_doInstruction_197 : decode b_V_doInstruction 197 = .ok (.iload_n 1, 1) := by decide +kernel
theorem d_V_doInstruction_198 : decode b_V_doInstruction 198 = .ok (.iload 4, 2) := by decide +kernel
theorem d_V_doInstruction_200 : decode b_V_doInstruction 200 = .ok (.invokestatic 200, 3) := by decide +kernel
theorem d_V_doInstruction_203 : decode b_V_doInstruction 203 = .ok (.iadd, 1) := by decide +kernel
theorem d_V_doInstruction_204 : decode b_V_doInstruction 204 = .ok (.invokevirtual 203, 3) := by decide +kernel
theorem d_V_doInstruction_207 : decode b_V_doInstruction 207 = .ok (.goto 79, 3) := by decide +kernel
theorem d_V_doInstruction_280 : decode b_V_doInstruction 280 = .ok (.aload_n 0, 1) := by decide +kernel
theorem d_V_doInstruction_281 : decode b_V_doInstruction 281 = .ok (.iload 4, 2) := by decide +kernel
theorem d_V_doInstruction_283 : decode b_V_doInstruction 283 = .ok (.invokevirtual 227, 3) := by decide +kernel
theorem d_V_doInstruction_44 : decode b_V_doInstruction 44 = .ok (.aload_n 0, 1) := by decide +kernel
theorem d_V_doInstruction_45 : decode b_V_doInstruction 45 = .ok (.iconst 5, 1) := by decide +kernel
theorem d_V_doInstruction_46 : decode b_V_doInstruction 46 = .ok (.iload_n 1, 1) := by decide +kernel
theorem d_V_doInstruction_47 : decode b_V_doInstruction 47 = .ok (.iconst 2, 1) := by decide +kernel
theorem d_V_doInstruction_48 : decode b_V_doInstruction 48 = .ok (.iushr, 1) := by decide +kernel
theorem d_V_doInstruction_49 : decode b_V_doInstruction 49 = .ok (.invokevirtual 128, 3) := by decide +kernel
theorem d_V_doInstruction_52 : decode b_V_doInstruction 52 = .ok (.return_, 1) := by decide +kernel
theorem d_V_doInstruction_17 : decode b_V_doInstruction 17 = .ok (.aload_n 0, 1) := by decide +kernel
theorem d_V_doInstruction_18 : decode b_V_doInstruction 18 = .ok (.iconst 1, 1) := by decide +kernel
theorem d_V_doInstruction_19 : decode b_V_doInstruction 19 = .ok (.iload_n 1, 1) := by decide +kernel
theorem d_V_doInstruction_20 : decode b_V_doInstruction 20 = .ok (.invokevirtual 128, 3) := by decide +kernel
theorem d_V_doInstruction_23 : decode b_V_doInstruction 23 = .ok (.return_, 1) := by decide +kernel
theorem d_Mo_outside_0 : decode b_Mo_outside 0 = .ok (.iload_n 0, 1) := by decide +kernel
theorem d_Mo_outside_1 : decode b_Mo_outside 1 = .ok (.ifCond .lt 8, 3) := by decide +kernel
theorem d_Mo_outside_9 : decode b_Mo_outside 9 = .ok (.iconst 1, 1) := by decide +kernel
theorem d_Mo_outside_10 : decode b_Mo_outside 10 = .ok (.goto 4, 3) := by decide +kernel
theorem d_Mo_outside_14 : decode b_Mo_outside 14 = .ok (.ireturn, 1) := by decide +kernel
theorem d_Mo_outside_4 : decode b_Mo_outside 4 = .ok (.iload_n 0, 1) := by decide +kernel
theorem d_Mo_outside_5 : decode b_Mo_outside 5 = .ok (.iload_n 1, 1) := by decide +kernel
theorem d_Mo_outside_6 : decode b_Mo_outside 6 = .ok (.if_icmp .le 7, 3) := by decide +kernel
theorem d_Mo_outside_13 : decode b_Mo_outside 13 = .ok (.iconst 0, 1) := by decide +kernel
theorem d_Mo_isData_0 : decode b_Mo_isData 0 = .ok (.iload_n 0, 1) := by decide +kernel
theorem d_Mo_isData_1 : decode b_Mo_isData 1 = .ok (.iload_n 0, 1) := by decide +kernel
theorem d_Mo_isData_2 : decode b_Mo_isData 2 = .ok (.iconst 1, 1) := by decide +kernel
theorem d_Mo_isData_3 : decode b_Mo_isData 3 = .ok (.isub, 1) := by decide +kernel
theorem d_Mo_isData_4 : decode b_Mo_isData 4 = .ok (.iand, 1) := by decide +kernel
theorem d_Mo_isData_5 : decode b_Mo_isData 5 = .ok (.ifCond .eq 7, 3) := by decide +kernel
theorem d_Mo_isData_12 : decode b_Mo_isData 12 = .ok (.iconst 0, 1) := by decide +kernel
theorem d_Mo_isData_13 : decode b_Mo_isData 13 = .ok (.ireturn, 1) := by decide +kernel
theorem d_Mo_isData_8 : decode b_Mo_isData 8 = .ok (.iconst 1, 1) := by decide +kernel
theorem d_Mo_isData_9 : decode b_Mo_isData 9 = .ok (.goto 4, 3) := by decide +kernel
theorem d_Mo_syndrome_0 : decode b_Mo_syndrome 0 = .ok (.iconst 0, 1) := by decide +kernel
theorem d_Mo_syndrome_1 : decode b_Mo_syndrome 1 = .ok (.istore_n 2, 1) := by decide +kernel
theorem d_Mo_syndrome_2 : decode b_Mo_syndrome 2 = .ok (.iconst 1, 1) := by decide +kernel
theorem d_Mo_syndrome_3 : decode b_Mo_syndrome 3 = .ok (.istore_n 3, 1) := by decide +kernel
theorem d_Mo_syndrome_4 : decode b_Mo_syndrome 4 = .ok (.iload_n 3, 1) := by decide +kernel
theorem d_Mo_syndrome_5 : decode b_Mo_syndrome 5 = .ok (.bipush 39, 2) := by decide +kernel
theorem d_Mo_syndrome_7 : decode b_Mo_syndrome 7 = .ok (.if_icmp .ge 27, 3) := by decide +kernel
end
section
theorem d_Mo_syndrome_34 : decode b_Mo_syndrome 34 = .ok (.iload_n 2, 1) := by decide +kernel
theorem d_Mo_syndrome_35 : decode b_Mo_syndrome 35 = .ok (.ireturn, 1) := by decide +kernel
theorem d_Mo_syndrome_10 : decode b_Mo_syndrome 10 = .ok (.lload_n 0, 1) := by decide +kernel
theorem d_Mo_syndrome_11 : decode b_Mo_syndrome 11 = .ok (.iload_n 3, 1) := by decide +kernel
theorem d_Mo_syndrome_12 : decode b_Mo_syndrome 12 = .ok (.lshr, 1) := by decide +kernel
theorem d_Mo_syndrome_13 : decode b_Mo_syndrome 13 = .ok (.lconst 1, 1) := by decide +kernel
theorem d_Mo_syndrome_14 : decode b_Mo_syndrome 14 = .ok (.land, 1) := by decide +kernel
theorem d_Mo_syndrome_15 : decode b_Mo_syndrome 15 = .ok (.lconst 1, 1) := by decide +kernel
theorem d_Mo_syndrome_16 : decode b_Mo_syndrome 16 = .ok (.lcmp, 1) := by decide +kernel
theorem d_Mo_syndrome_17 : decode b_Mo_syndrome 17 = .ok (.ifCond .ne 9, 3) := by decide +kernel
theorem d_Mo_syndrome_26 : decode b_Mo_syndrome 26 = .ok (.iload_n 2, 1) := by decide +kernel
theorem d_Mo_syndrome_27 : decode b_Mo_syndrome 27 = .ok (.istore_n 2, 1) := by decide +kernel
theorem d_Mo_syndrome_28 : decode b_Mo_syndrome 28 = .ok (.iinc 3 1, 3) := by decide +kernel
theorem d_Mo_syndrome_31 : decode b_Mo_syndrome 31 = .ok (.goto (-27), 3) := by decide +kernel
theorem d_Mo_syndrome_20 : decode b_Mo_syndrome 20 = .ok (.iload_n 2, 1) := by decide +kernel
theorem d_Mo_syndrome_21 : decode b_Mo_syndrome 21 = .ok (.iload_n 3, 1) := by decide +kernel
theorem d_Mo_syndrome_22 : decode b_Mo_syndrome 22 = .ok (.ixor, 1) := by decide +kernel
theorem d_Mo_syndrome_23 : decode b_Mo_syndrome 23 = .ok (.goto 4, 3) := by decide +kernel
theorem d_Mo_isOdd_0 : decode b_Mo_isOdd 0 = .ok (.iconst 0, 1) := by decide +kernel
theorem d_Mo_isOdd_1 : decode b_Mo_isOdd 1 = .ok (.istore_n 2, 1) := by decide +kernel
theorem d_Mo_isOdd_2 : decode b_Mo_isOdd 2 = .ok (.iconst 0, 1) := by decide +kernel
theorem d_Mo_isOdd_3 : decode b_Mo_isOdd 3 = .ok (.istore_n 3, 1) := by decide +kernel
theorem d_Mo_isOdd_4 : decode b_Mo_isOdd 4 = .ok (.iload_n 3, 1) := by decide +kernel
theorem d_Mo_isOdd_5 : decode b_Mo_isOdd 5 = .ok (.bipush 39, 2) := by decide +kernel
theorem d_Mo_isOdd_7 : decode b_Mo_isOdd 7 = .ok (.if_icmp .ge 34, 3) := by decide +kernel
theorem d_Mo_isOdd_41 : decode b_Mo_isOdd 41 = .ok (.iload_n 2, 1) := by decide +kernel
theorem d_Mo_isOdd_42 : decode b_Mo_isOdd 42 = .ok (.ireturn, 1) := by decide +kernel
theorem d_Mo_isOdd_10 : decode b_Mo_isOdd 10 = .ok (.iload_n 2, 1) := by decide +kernel
theorem d_Mo_isOdd_11 : decode b_Mo_isOdd 11 = .ok (.lload_n 0, 1) := by decide +kernel
theorem d_Mo_isOdd_12 : decode b_Mo_isOdd 12 = .ok (.iload_n 3, 1) := by decide +kernel
theorem d_Mo_isOdd_13 : decode b_Mo_isOdd 13 = .ok (.lshr, 1) := by decide +kernel
theorem d_Mo_isOdd_14 : decode b_Mo_isOdd 14 = .ok (.lconst 1, 1) := by decide +kernel
theorem d_Mo_isOdd_15 : decode b_Mo_isOdd 15 = .ok (.land, 1) := by decide +kernel
theorem d_Mo_isOdd_16 : decode b_Mo_isOdd 16 = .ok (.lconst 1, 1) := by decide +kernel
theorem d_Mo_isOdd_17 : decode b_Mo_isOdd 17 = .ok (.lcmp, 1) := by decide +kernel
theorem d_Mo_isOdd_18 : decode b_Mo_isOdd 18 = .ok (.ifCond .ne 7, 3) := by decide +kernel
theorem d_Mo_isOdd_25 : decode b_Mo_isOdd 25 = .ok (.iconst 0, 1) := by decide +kernel
theorem d_Mo_isOdd_26 : decode b_Mo_isOdd 26 = .ok (.if_icmp .eq 7, 3) := by decide +kernel
theorem d_Mo_isOdd_33 : decode b_Mo_isOdd 33 = .ok (.iconst 0, 1) := by decide +kernel
theorem d_Mo_isOdd_34 : decode b_Mo_isOdd 34 = .ok (.istore_n 2, 1) := by decide +kernel
theorem d_Mo_isOdd_35 : decode b_Mo_isOdd 35 = .ok (.iinc 3 1, 3) := by decide +kernel
theorem d_Mo_isOdd_38 : decode b_Mo_isOdd 38 = .ok (.goto (-34), 3) := by decide +kernel
theorem d_Mo_isOdd_29 : decode b_Mo_isOdd 29 = .ok (.iconst 1, 1) := by decide +kernel
theorem d_Mo_isOdd_30 : decode b_Mo_isOdd 30 = .ok (.goto 4, 3) := by decide +kernel
theorem d_Mo_isOdd_21 : decode b_Mo_isOdd 21 = .ok (.iconst 1, 1) := by decide +kernel
theorem d_Mo_isOdd_22 : decode b_Mo_isOdd 22 = .ok (.goto 4, 3) := by decide +kernel
theorem d_Mo_dataOf_0 : decode b_Mo_dataOf 0 = .ok (.iconst 0, 1) := by decide +kernel
theorem d_Mo_dataOf_1 : decode b_Mo_dataOf 1 = .ok (.istore_n 2, 1) := by decide +kernel
theorem d_Mo_dataOf_2 : decode b_Mo_dataOf 2 = .ok (.iconst 0, 1) := by decide +kernel
theorem d_Mo_dataOf_3 : decode b_Mo_dataOf 3 = .ok (.istore_n 3, 1) := by decide +kernel
theorem d_Mo_dataOf_4 : decode b_Mo_dataOf 4 = .ok (.iconst 3, 1) := by decide +kernel
theorem d_Mo_dataOf_5 : decode b_Mo_dataOf 5 = .ok (.istore 4, 2) := by decide +kernel
theorem d_Mo_dataOf_7 : decode b_Mo_dataOf 7 = .ok (.iload 4, 2) := by decide +kernel
theorem d_Mo_dataOf_9 : decode b_Mo_dataOf 9 = .ok (.bipush 39, 2) := by decide +kernel
theorem d_Mo_dataOf_11 : decode b_Mo_dataOf 11 = .ok (.if_icmp .ge 41, 3) := by decide +kernel
theorem d_Mo_dataOf_52 : decode b_Mo_dataOf 52 = .ok (.iload_n 2, 1) := by decide +kernel
theorem d_Mo_dataOf_53 : decode b_Mo_dataOf 53 = .ok (.ireturn, 1) := by decide +kernel
theorem d_Mo_dataOf_14 : decode b_Mo_dataOf 14 = .ok (.iload 4, 2) := by decide +kernel
theorem d_Mo_dataOf_16 : decode b_Mo_dataOf 16 = .ok (.invokestatic 36, 3) := by decide +kernel
theorem d_Mo_dataOf_19 : decode b_Mo_dataOf 19 = .ok (.ifCond .eq 27, 3) := by decide +kernel
theorem d_Mo_dataOf_46 : decode b_Mo_dataOf 46 = .ok (.iinc 4 1, 3) := by decide +kernel
theorem d_Mo_dataOf_49 : decode b_Mo_dataOf 49 = .ok (.goto (-42), 3) := by decide +kernel
theorem d_Mo_dataOf_22 : decode b_Mo_dataOf 22 = .ok (.lload_n 0, 1) := by decide +kernel
theorem d_Mo_dataOf_23 : decode b_Mo_dataOf 23 = .ok (.iload 4, 2) := by decide +kernel
theorem d_Mo_dataOf_25 : decode b_Mo_dataOf 25 = .ok (.lshr, 1) := by decide +kernel
theorem d_Mo_dataOf_26 : decode b_Mo_dataOf 26 = .ok (.lconst 1, 1) := by decide +kernel
theorem d_Mo_dataOf_27 : decode b_Mo_dataOf 27 = .ok (.land, 1) := by decide +kernel
theorem d_Mo_dataOf_28 : decode b_Mo_dataOf 28 = .ok (.lconst 1, 1) := by decide +kernel
theorem d_Mo_dataOf_29 : decode b_Mo_dataOf 29 = .ok (.lcmp, 1) := by decide +kernel
theorem d_Mo_dataOf_30 : decode b_Mo_dataOf 30 = .ok (.ifCond .ne 11, 3) := by decide +kernel
theorem d_Mo_dataOf_41 : decode b_Mo_dataOf 41 = .ok (.iload_n 2, 1) := by decide +kernel
theorem d_Mo_dataOf_42 : decode b_Mo_dataOf 42 = .ok (.istore_n 2, 1) := by decide +kernel
theorem d_Mo_dataOf_43 : decode b_Mo_dataOf 43 = .ok (.iinc 3 1, 3) := by decide +kernel
theorem d_Mo_dataOf_33 : decode b_Mo_dataOf 33 = .ok (.iload_n 2, 1) := by decide +kernel
theorem d_Mo_dataOf_34 : decode b_Mo_dataOf 34 = .ok (.iconst 1, 1) := by decide +kernel
theorem d_Mo_dataOf_35 : decode b_Mo_dataOf 35 = .ok (.iload_n 3, 1) := by decide +kernel
theorem d_Mo_dataOf_36 : decode b_Mo_dataOf 36 = .ok (.ishl, 1) := by decide +kernel
theorem d_Mo_dataOf_37 : decode b_Mo_dataOf 37 = .ok (.ior, 1) := by decide +kernel
theorem d_Mo_dataOf_38 : decode b_Mo_dataOf 38 = .ok (.goto 4, 3) := by decide +kernel
theorem d_Mo_encoded_0 : decode b_Mo_encoded 0 = .ok (.lconst 0, 1) := by decide +kernel
theorem d_Mo_encoded_1 : decode b_Mo_encoded 1 = .ok (.lstore_n 1, 1) := by decide +kernel
theorem d_Mo_encoded_2 : decode b_Mo_encoded 2 = .ok (.iconst 0, 1) := by decide +kernel
theorem d_Mo_encoded_3 : decode b_Mo_encoded 3 = .ok (.istore_n 3, 1) := by decide +kernel
theorem d_Mo_encoded_4 : decode b_Mo_encoded 4 = .ok (.iconst 3, 1) := by decide +kernel
theorem d_Mo_encoded_5 : decode b_Mo_encoded 5 = .ok (.istore 4, 2) := by decide +kernel
theorem d_Mo_encoded_7 : decode b_Mo_encoded 7 = .ok (.iload 4, 2) := by decide +kernel
theorem d_Mo_encoded_9 : decode b_Mo_encoded 9 = .ok (.bipush 39, 2) := by decide +kernel
theorem d_Mo_encoded_11 : decode b_Mo_encoded 11 = .ok (.if_icmp .ge 40, 3) := by decide +kernel
theorem d_Mo_encoded_51 : decode b_Mo_encoded 51 = .ok (.lload_n 1, 1) := by decide +kernel
theorem d_Mo_encoded_52 : decode b_Mo_encoded 52 = .ok (.invokestatic 40, 3) := by decide +kernel
theorem d_Mo_encoded_55 : decode b_Mo_encoded 55 = .ok (.istore 4, 2) := by decide +kernel
theorem d_Mo_encoded_57 : decode b_Mo_encoded 57 = .ok (.iconst 0, 1) := by decide +kernel
theorem d_Mo_encoded_58 : decode b_Mo_encoded 58 = .ok (.istore 5, 2) := by decide +kernel
theorem d_Mo_encoded_60 : decode b_Mo_encoded 60 = .ok (.iload 5, 2) := by decide +kernel
theorem d_Mo_encoded_62 : decode b_Mo_encoded 62 = .ok (.bipush 6, 2) := by decide +kernel
theorem d_Mo_encoded_64 : decode b_Mo_encoded 64 = .ok (.if_icmp .ge 33, 3) := by decide +kernel
theorem d_Mo_encoded_97 : decode b_Mo_encoded 97 = .ok (.lload_n 1, 1) := by decide +kernel
theorem d_Mo_encoded_98 : decode b_Mo_encoded 98 = .ok (.invokestatic 44, 3) := by decide +kernel
theorem d_Mo_encoded_101 : decode b_Mo_encoded 101 = .ok (.ifCond .eq 9, 3) := by decide +kernel
theorem d_Mo_encoded_110 : decode b_Mo_encoded 110 = .ok (.lload_n 1, 1) := by decide +kernel
theorem d_Mo_encoded_111 : decode b_Mo_encoded 111 = .ok (.lreturn, 1) := by decide +kernel
theorem d_Mo_encoded_104 : decode b_Mo_encoded 104 = .ok (.lload_n 1, 1) := by decide +kernel
theorem d_Mo_encoded_105 : decode b_Mo_encoded 105 = .ok (.lconst 1, 1) := by decide +kernel
theorem d_Mo_encoded_106 : decode b_Mo_encoded 106 = .ok (.lor, 1) := by decide +kernel
theorem d_Mo_encoded_107 : decode b_Mo_encoded 107 = .ok (.goto 4, 3) := by decide +kernel
theorem d_Mo_encoded_67 : decode b_Mo_encoded 67 = .ok (.iload 4, 2) := by decide +kernel
theorem d_Mo_encoded_69 : decode b_Mo_encoded 69 = .ok (.iload 5, 2) := by decide +kernel
theorem d_Mo_encoded_71 : decode b_Mo_encoded 71 = .ok (.ishr, 1) := by decide +kernel
theorem d_Mo_encoded_72 : decode b_Mo_encoded 72 = .ok (.iconst 1, 1) := by decide +kernel
theorem d_Mo_encoded_73 : decode b_Mo_encoded 73 = .ok (.iand, 1) := by decide +kernel
theorem d_Mo_encoded_74 : decode b_Mo_encoded 74 = .ok (.iconst 1, 1) := by decide +kernel
theorem d_Mo_encoded_75 : decode b_Mo_encoded 75 = .ok (.if_icmp .ne 14, 3) := by decide +kernel
theorem d_Mo_encoded_89 : decode b_Mo_encoded 89 = .ok (.lload_n 1, 1) := by decide +kernel
theorem d_Mo_encoded_90 : decode b_Mo_encoded 90 = .ok (.lstore_n 1, 1) := by decide +kernel
theorem d_Mo_encoded_91 : decode b_Mo_encoded 91 = .ok (.iinc 5 1, 3) := by decide +kernel
theorem d_Mo_encoded_94 : decode b_Mo_encoded 94 = .ok (.goto (-34), 3) := by decide +kernel
theorem d_Mo_encoded_78 : decode b_Mo_encoded 78 = .ok (.lload_n 1, 1) := by decide +kernel
theorem d_Mo_encoded_79 : decode b_Mo_encoded 79 = .ok (.lconst 1, 1) := by decide +kernel
theorem d_Mo_encoded_80 : decode b_Mo_encoded 80 = .ok (.iconst 1, 1) := by decide +kernel
theorem d_Mo_encoded_81 : decode b_Mo_encoded 81 = .ok (.iload 5, 2) := by decide +kernel
theorem d_Mo_encoded_83 : decode b_Mo_encoded 83 = .ok (.ishl, 1) := by decide +kernel
theorem d_Mo_encoded_84 : decode b_Mo_encoded 84 = .ok (.lshl, 1) := by decide +kernel
theorem d_Mo_encoded_85 : decode b_Mo_encoded 85 = .ok (.lor, 1) := by decide +kernel
theorem d_Mo_encoded_86 : decode b_Mo_encoded 86 = .ok (.goto 4, 3) := by decide +kernel
theorem d_Mo_encoded_14 : decode b_Mo_encoded 14 = .ok (.iload 4, 2) := by decide +kernel
theorem d_Mo_encoded_16 : decode b_Mo_encoded 16 = .ok (.invokestatic 36, 3) := by decide +kernel
theorem d_Mo_encoded_19 : decode b_Mo_encoded 19 = .ok (.ifCond .eq 26, 3) := by decide +kernel
theorem d_Mo_encoded_45 : decode b_Mo_encoded 45 = .ok (.iinc 4 1, 3) := by decide +kernel
theorem d_Mo_encoded_48 : decode b_Mo_encoded 48 = .ok (.goto (-41), 3) := by decide +kernel
theorem d_Mo_encoded_22 : decode b_Mo_encoded 22 = .ok (.iload_n 0, 1) := by decide +kernel
theorem d_Mo_encoded_23 : decode b_Mo_encoded 23 = .ok (.iload_n 3, 1) := by decide +kernel
theorem d_Mo_encoded_24 : decode b_Mo_encoded 24 = .ok (.ishr, 1) := by decide +kernel
theorem d_Mo_encoded_25 : decode b_Mo_encoded 25 = .ok (.iconst 1, 1) := by decide +kernel
theorem d_Mo_encoded_26 : decode b_Mo_encoded 26 = .ok (.iand, 1) := by decide +kernel
theorem d_Mo_encoded_27 : decode b_Mo_encoded 27 = .ok (.iconst 1, 1) := by decide +kernel
theorem d_Mo_encoded_28 : decode b_Mo_encoded 28 = .ok (.if_icmp .ne 12, 3) := by decide +kernel
theorem d_Mo_encoded_40 : decode b_Mo_encoded 40 = .ok (.lload_n 1, 1) := by decide +kernel
theorem d_Mo_encoded_41 : decode b_Mo_encoded 41 = .ok (.lstore_n 1, 1) := by decide +kernel
theorem d_Mo_encoded_42 : decode b_Mo_encoded 42 = .ok (.iinc 3 1, 3) := by decide +kernel
theorem d_Mo_encoded_31 : decode b_Mo_encoded 31 = .ok (.lload_n 1, 1) := by decide +kernel
theorem d_Mo_encoded_32 : decode b_Mo_encoded 32 = .ok (.lconst 1, 1) := by decide +kernel
theorem d_Mo_encoded_33 : decode b_Mo_encoded 33 = .ok (.iload 4, 2) := by decide +kernel
theorem d_Mo_encoded_35 : decode b_Mo_encoded 35 = .ok (.lshl, 1) := by decide +kernel
theorem d_Mo_encoded_36 : decode b_Mo_encoded 36 = .ok (.lor, 1) := by decide +kernel
theorem d_Mo_encoded_37 : decode b_Mo_encoded 37 = .ok (.goto 4, 3) := by decide +kernel
theorem d_Mo_wrongBit_0 : decode b_Mo_wrongBit 0 = .ok (.lload_n 0, 1) := by decide +kernel
theorem d_Mo_wrongBit_1 : decode b_Mo_wrongBit 1 = .ok (.invokestatic 40, 3) := by decide +kernel
theorem d_Mo_wrongBit_4 : decode b_Mo_wrongBit 4 = .ok (.istore_n 2, 1) := by decide +kernel
theorem d_Mo_wrongBit_5 : decode b_Mo_wrongBit 5 = .ok (.lload_n 0, 1) := by decide +kernel
theorem d_Mo_wrongBit_6 : decode b_Mo_wrongBit 6 = .ok (.invokestatic 44, 3) := by decide +kernel
theorem d_Mo_wrongBit_9 : decode b_Mo_wrongBit 9 = .ok (.ifCond .eq 18, 3) := by decide +kernel
theorem d_Mo_wrongBit_27 : decode b_Mo_wrongBit 27 = .ok (.iload_n 2, 1) := by decide +kernel
theorem d_Mo_wrongBit_28 : decode b_Mo_wrongBit 28 = .ok (.ifCond .ne 7, 3) := by decide +kernel
theorem d_Mo_wrongBit_35 : decode b_Mo_wrongBit 35 = .ok (.bipush (-2), 2) := by decide +kernel
theorem d_Mo_wrongBit_37 : decode b_Mo_wrongBit 37 = .ok (.ireturn, 1) := by decide +kernel
theorem d_Mo_wrongBit_31 : decode b_Mo_wrongBit 31 = .ok (.iconst (-1), 1) := by decide +kernel
theorem d_Mo_wrongBit_32 : decode b_Mo_wrongBit 32 = .ok (.goto 5, 3) := by decide +kernel
theorem d_Mo_wrongBit_12 : decode b_Mo_wrongBit 12 = .ok (.iload_n 2, 1) := by decide +kernel
theorem d_Mo_wrongBit_13 : decode b_Mo_wrongBit 13 = .ok (.bipush 39, 2) := by decide +kernel
theorem d_Mo_wrongBit_15 : decode b_Mo_wrongBit 15 = .ok (.if_icmp .ge 7, 3) := by decide +kernel
theorem d_Mo_wrongBit_22 : decode b_Mo_wrongBit 22 = .ok (.bipush (-2), 2) := by decide +kernel
theorem d_Mo_wrongBit_24 : decode b_Mo_wrongBit 24 = .ok (.goto 13, 3) := by decide +kernel
theorem d_Mo_wrongBit_18 : decode b_Mo_wrongBit 18 = .ok (.iload_n 2, 1) := by decide +kernel
theorem d_Mo_wrongBit_19 : decode b_Mo_wrongBit 19 = .ok (.goto 18, 3) := by decide +kernel
theorem d_Mo_mend_0 : decode b_Mo_mend 0 = .ok (.aload_n 0, 1) := by decide +kernel
theorem d_Mo_mend_1 : decode b_Mo_mend 1 = .ok (.getfield 13, 3) := by decide +kernel
theorem d_Mo_mend_4 : decode b_Mo_mend 4 = .ok (.iload_n 1, 1) := by decide +kernel
theorem d_Mo_mend_5 : decode b_Mo_mend 5 = .ok (.laload, 1) := by decide +kernel
theorem d_Mo_mend_6 : decode b_Mo_mend 6 = .ok (.invokestatic 48, 3) := by decide +kernel
theorem d_Mo_mend_9 : decode b_Mo_mend 9 = .ok (.istore_n 2, 1) := by decide +kernel
theorem d_Mo_mend_10 : decode b_Mo_mend 10 = .ok (.iload_n 2, 1) := by decide +kernel
theorem d_Mo_mend_11 : decode b_Mo_mend 11 = .ok (.ifCond .lt 29, 3) := by decide +kernel
theorem d_Mo_mend_40 : decode b_Mo_mend 40 = .ok (.iload_n 2, 1) := by decide +kernel
theorem d_Mo_mend_41 : decode b_Mo_mend 41 = .ok (.bipush (-2), 2) := by decide +kernel
theorem d_Mo_mend_43 : decode b_Mo_mend 43 = .ok (.if_icmp .eq 7, 3) := by decide +kernel
theorem d_Mo_mend_50 : decode b_Mo_mend 50 = .ok (.iconst 0, 1) := by decide +kernel
theorem d_Mo_mend_51 : decode b_Mo_mend 51 = .ok (.ireturn, 1) := by decide +kernel
theorem d_Mo_mend_46 : decode b_Mo_mend 46 = .ok (.iconst 1, 1) := by decide +kernel
theorem d_Mo_mend_47 : decode b_Mo_mend 47 = .ok (.goto 4, 3) := by decide +kernel
theorem d_Mo_mend_14 : decode b_Mo_mend 14 = .ok (.aload_n 0, 1) := by decide +kernel
theorem d_Mo_mend_15 : decode b_Mo_mend 15 = .ok (.getfield 13, 3) := by decide +kernel
theorem d_Mo_mend_18 : decode b_Mo_mend 18 = .ok (.iload_n 1, 1) := by decide +kernel
theorem d_Mo_mend_19 : decode b_Mo_mend 19 = .ok (.aload_n 0, 1) := by decide +kernel
theorem d_Mo_mend_20 : decode b_Mo_mend 20 = .ok (.getfield 13, 3) := by decide +kernel
theorem d_Mo_mend_23 : decode b_Mo_mend 23 = .ok (.iload_n 1, 1) := by decide +kernel
theorem d_Mo_mend_24 : decode b_Mo_mend 24 = .ok (.laload, 1) := by decide +kernel
theorem d_Mo_mend_25 : decode b_Mo_mend 25 = .ok (.lconst 1, 1) := by decide +kernel
theorem d_Mo_mend_26 : decode b_Mo_mend 26 = .ok (.iload_n 2, 1) := by decide +kernel
theorem d_Mo_mend_27 : decode b_Mo_mend 27 = .ok (.lshl, 1) := by decide +kernel
theorem d_Mo_mend_28 : decode b_Mo_mend 28 = .ok (.lxor, 1) := by decide +kernel
theorem d_Mo_mend_29 : decode b_Mo_mend 29 = .ok (.lastore, 1) := by decide +kernel
theorem d_Mo_mend_30 : decode b_Mo_mend 30 = .ok (.aload_n 0, 1) := by decide +kernel
theorem d_Mo_mend_31 : decode b_Mo_mend 31 = .ok (.getfield 29, 3) := by decide +kernel
theorem d_Mo_mend_34 : decode b_Mo_mend 34 = .ok (.iconst 0, 1) := by decide +kernel
theorem d_Mo_mend_35 : decode b_Mo_mend 35 = .ok (.dup2, 1) := by decide +kernel
theorem d_Mo_mend_36 : decode b_Mo_mend 36 = .ok (.iaload, 1) := by decide +kernel
theorem d_Mo_mend_37 : decode b_Mo_mend 37 = .ok (.iconst 1, 1) := by decide +kernel
theorem d_Mo_mend_38 : decode b_Mo_mend 38 = .ok (.iadd, 1) := by decide +kernel
theorem d_Mo_mend_39 : decode b_Mo_mend 39 = .ok (.iastore, 1) := by decide +kernel
theorem d_Mo_keep_0 : decode b_Mo_keep 0 = .ok (.aload_n 0, 1) := by decide +kernel
theorem d_Mo_keep_1 : decode b_Mo_keep 1 = .ok (.getfield 7, 3) := by decide +kernel
theorem d_Mo_keep_4 : decode b_Mo_keep 4 = .ok (.iload_n 1, 1) := by decide +kernel
theorem d_Mo_keep_5 : decode b_Mo_keep 5 = .ok (.iload_n 2, 1) := by decide +kernel
theorem d_Mo_keep_6 : decode b_Mo_keep 6 = .ok (.iastore, 1) := by decide +kernel
theorem d_Mo_keep_7 : decode b_Mo_keep 7 = .ok (.aload_n 0, 1) := by decide +kernel
theorem d_Mo_keep_8 : decode b_Mo_keep 8 = .ok (.getfield 13, 3) := by decide +kernel
theorem d_Mo_keep_11 : decode b_Mo_keep 11 = .ok (.iload_n 1, 1) := by decide +kernel
theorem d_Mo_keep_12 : decode b_Mo_keep 12 = .ok (.lconst 0, 1) := by decide +kernel
theorem d_Mo_keep_13 : decode b_Mo_keep 13 = .ok (.lastore, 1) := by decide +kernel
theorem d_Mo_keep_14 : decode b_Mo_keep 14 = .ok (.return_, 1) := by decide +kernel
theorem d_Mo_line_0 : decode b_Mo_line 0 = .ok (.iload_n 0, 1) := by decide +kernel
theorem d_Mo_line_1 : decode b_Mo_line 1 = .ok (.i2l, 1) := by decide +kernel
theorem d_Mo_line_2 : decode b_Mo_line 2 = .ok (.ldc2_w 51, 3) := by decide +kernel
theorem d_Mo_line_5 : decode b_Mo_line 5 = .ok (.land, 1) := by decide +kernel
theorem d_Mo_line_6 : decode b_Mo_line 6 = .ok (.iload_n 1, 1) := by decide +kernel
theorem d_Mo_line_7 : decode b_Mo_line 7 = .ok (.i2l, 1) := by decide +kernel
theorem d_Mo_line_8 : decode b_Mo_line 8 = .ok (.bipush 32, 2) := by decide +kernel
theorem d_Mo_line_10 : decode b_Mo_line 10 = .ok (.lshl, 1) := by decide +kernel
theorem d_Mo_line_11 : decode b_Mo_line 11 = .ok (.lor, 1) := by decide +kernel
theorem d_Mo_line_12 : decode b_Mo_line 12 = .ok (.ldc2_w 53, 3) := by decide +kernel
theorem d_Mo_line_15 : decode b_Mo_line 15 = .ok (.lor, 1) := by decide +kernel
theorem d_Mo_line_16 : decode b_Mo_line 16 = .ok (.lstore_n 2, 1) := by decide +kernel
theorem d_Mo_line_17 : decode b_Mo_line 17 = .ok (.lload_n 2, 1) := by decide +kernel
theorem d_Mo_line_18 : decode b_Mo_line 18 = .ok (.invokestatic 44, 3) := by decide +kernel
theorem d_Mo_line_21 : decode b_Mo_line 21 = .ok (.ifCond .eq 11, 3) := by decide +kernel
theorem d_Mo_line_32 : decode b_Mo_line 32 = .ok (.lload_n 2, 1) := by decide +kernel
theorem d_Mo_line_33 : decode b_Mo_line 33 = .ok (.lreturn, 1) := by decide +kernel
theorem d_Mo_line_24 : decode b_Mo_line 24 = .ok (.lload_n 2, 1) := by decide +kernel
theorem d_Mo_line_25 : decode b_Mo_line 25 = .ok (.ldc2_w 55, 3) := by decide +kernel
theorem d_Mo_line_28 : decode b_Mo_line 28 = .ok (.lor, 1) := by decide +kernel
theorem d_Mo_line_29 : decode b_Mo_line 29 = .ok (.goto 4, 3) := by decide +kernel
theorem d_Mo_stop_0 : decode b_Mo_stop 0 = .ok (.aload_n 0, 1) := by decide +kernel
theorem d_Mo_stop_1 : decode b_Mo_stop 1 = .ok (.iload_n 1, 1) := by decide +kernel
theorem d_Mo_stop_2 : decode b_Mo_stop 2 = .ok (.putfield 94, 3) := by decide +kernel
theorem d_Mo_stop_5 : decode b_Mo_stop 5 = .ok (.aload_n 0, 1) := by decide +kernel
theorem d_Mo_stop_6 : decode b_Mo_stop 6 = .ok (.iload_n 2, 1) := by decide +kernel
theorem d_Mo_stop_7 : decode b_Mo_stop 7 = .ok (.putfield 97, 3) := by decide +kernel
theorem d_Mo_stop_10 : decode b_Mo_stop 10 = .ok (.return_, 1) := by decide +kernel
theorem d_Mo_holds_0 : decode b_Mo_holds 0 = .ok (.iconst 4, 1) := by decide +kernel
theorem d_Mo_holds_1 : decode b_Mo_holds 1 = .ok (.iload_n 1, 1) := by decide +kernel
theorem d_Mo_holds_2 : decode b_Mo_holds 2 = .ok (.imul, 1) := by decide +kernel
theorem d_Mo_holds_3 : decode b_Mo_holds 3 = .ok (.iload_n 2, 1) := by decide +kernel
theorem d_Mo_holds_4 : decode b_Mo_holds 4 = .ok (.iconst 4, 1) := by decide +kernel
theorem d_Mo_holds_5 : decode b_Mo_holds 5 = .ok (.irem, 1) := by decide +kernel
theorem d_Mo_holds_6 : decode b_Mo_holds 6 = .ok (.iadd, 1) := by decide +kernel
theorem d_Mo_holds_7 : decode b_Mo_holds 7 = .ok (.istore_n 3, 1) := by decide +kernel
theorem d_Mo_holds_8 : decode b_Mo_holds 8 = .ok (.aload_n 0, 1) := by decide +kernel
theorem d_Mo_holds_9 : decode b_Mo_holds 9 = .ok (.getfield 23, 3) := by decide +kernel
theorem d_Mo_holds_12 : decode b_Mo_holds 12 = .ok (.iload_n 3, 1) := by decide +kernel
theorem d_Mo_holds_13 : decode b_Mo_holds 13 = .ok (.laload, 1) := by decide +kernel
theorem d_Mo_holds_14 : decode b_Mo_holds 14 = .ok (.invokestatic 44, 3) := by decide +kernel
theorem d_Mo_holds_17 : decode b_Mo_holds 17 = .ok (.ifCond .eq 22, 3) := by decide +kernel
theorem d_Mo_holds_39 : decode b_Mo_holds 39 = .ok (.aload_n 0, 1) := by decide +kernel
theorem d_Mo_holds_40 : decode b_Mo_holds 40 = .ok (.getfield 23, 3) := by decide +kernel
theorem d_Mo_holds_43 : decode b_Mo_holds 43 = .ok (.iload_n 3, 1) := by decide +kernel
theorem d_Mo_holds_44 : decode b_Mo_holds 44 = .ok (.laload, 1) := by decide +kernel
theorem d_Mo_holds_45 : decode b_Mo_holds 45 = .ok (.bipush 36, 2) := by decide +kernel
theorem d_Mo_holds_47 : decode b_Mo_holds 47 = .ok (.lshr, 1) := by decide +kernel
theorem d_Mo_holds_48 : decode b_Mo_holds 48 = .ok (.lconst 1, 1) := by decide +kernel
theorem d_Mo_holds_49 : decode b_Mo_holds 49 = .ok (.land, 1) := by decide +kernel
theorem d_Mo_holds_50 : decode b_Mo_holds 50 = .ok (.lconst 1, 1) := by decide +kernel
theorem d_Mo_holds_51 : decode b_Mo_holds 51 = .ok (.lcmp, 1) := by decide +kernel
theorem d_Mo_holds_52 : decode b_Mo_holds 52 = .ok (.ifCond .ne 27, 3) := by decide +kernel
theorem d_Mo_holds_79 : decode b_Mo_holds 79 = .ok (.iconst 0, 1) := by decide +kernel
theorem d_Mo_holds_80 : decode b_Mo_holds 80 = .ok (.ireturn, 1) := by decide +kernel
theorem d_Mo_holds_55 : decode b_Mo_holds 55 = .ok (.aload_n 0, 1) := by decide +kernel
theorem d_Mo_holds_56 : decode b_Mo_holds 56 = .ok (.getfield 23, 3) := by decide +kernel
theorem d_Mo_holds_59 : decode b_Mo_holds 59 = .ok (.iload_n 3, 1) := by decide +kernel
theorem d_Mo_holds_60 : decode b_Mo_holds 60 = .ok (.laload, 1) := by decide +kernel
theorem d_Mo_holds_61 : decode b_Mo_holds 61 = .ok (.bipush 32, 2) := by decide +kernel
theorem d_Mo_holds_63 : decode b_Mo_holds 63 = .ok (.lshr, 1) := by decide +kernel
theorem d_Mo_holds_64 : decode b_Mo_holds 64 = .ok (.ldc2_w 57, 3) := by decide +kernel
theorem d_Mo_holds_67 : decode b_Mo_holds 67 = .ok (.land, 1) := by decide +kernel
theorem d_Mo_holds_68 : decode b_Mo_holds 68 = .ok (.l2i, 1) := by decide +kernel
theorem d_Mo_holds_69 : decode b_Mo_holds 69 = .ok (.iload_n 2, 1) := by decide +kernel
theorem d_Mo_holds_70 : decode b_Mo_holds 70 = .ok (.iconst 4, 1) := by decide +kernel
theorem d_Mo_holds_71 : decode b_Mo_holds 71 = .ok (.idiv, 1) := by decide +kernel
theorem d_Mo_holds_72 : decode b_Mo_holds 72 = .ok (.if_icmp .ne 7, 3) := by decide +kernel
theorem d_Mo_holds_75 : decode b_Mo_holds 75 = .ok (.iconst 1, 1) := by decide +kernel
theorem d_Mo_holds_76 : decode b_Mo_holds 76 = .ok (.goto 4, 3) := by decide +kernel
theorem d_Mo_holds_20 : decode b_Mo_holds 20 = .ok (.aload_n 0, 1) := by decide +kernel
theorem d_Mo_holds_21 : decode b_Mo_holds 21 = .ok (.getfield 23, 3) := by decide +kernel
theorem d_Mo_holds_24 : decode b_Mo_holds 24 = .ok (.iload_n 3, 1) := by decide +kernel
theorem d_Mo_holds_25 : decode b_Mo_holds 25 = .ok (.lconst 0, 1) := by decide +kernel
theorem d_Mo_holds_26 : decode b_Mo_holds 26 = .ok (.lastore, 1) := by decide +kernel
theorem d_Mo_holds_27 : decode b_Mo_holds 27 = .ok (.aload_n 0, 1) := by decide +kernel
theorem d_Mo_holds_28 : decode b_Mo_holds 28 = .ok (.getfield 29, 3) := by decide +kernel
theorem d_Mo_holds_31 : decode b_Mo_holds 31 = .ok (.iconst 3, 1) := by decide +kernel
theorem d_Mo_holds_32 : decode b_Mo_holds 32 = .ok (.iload_n 1, 1) := by decide +kernel
theorem d_Mo_holds_33 : decode b_Mo_holds 33 = .ok (.iadd, 1) := by decide +kernel
theorem d_Mo_holds_34 : decode b_Mo_holds 34 = .ok (.dup2, 1) := by decide +kernel
theorem d_Mo_holds_35 : decode b_Mo_holds 35 = .ok (.iaload, 1) := by decide +kernel
theorem d_Mo_holds_36 : decode b_Mo_holds 36 = .ok (.iconst 1, 1) := by decide +kernel
theorem d_Mo_holds_37 : decode b_Mo_holds 37 = .ok (.iadd, 1) := by decide +kernel
theorem d_Mo_holds_38 : decode b_Mo_holds 38 = .ok (.iastore, 1) := by decide +kernel
theorem d_Mo_fetch_0 : decode b_Mo_fetch 0 = .ok (.iconst 4, 1) := by decide +kernel
theorem d_Mo_fetch_1 : decode b_Mo_fetch 1 = .ok (.iload_n 1, 1) := by decide +kernel
theorem d_Mo_fetch_2 : decode b_Mo_fetch 2 = .ok (.imul, 1) := by decide +kernel
theorem d_Mo_fetch_3 : decode b_Mo_fetch 3 = .ok (.iload_n 2, 1) := by decide +kernel
theorem d_Mo_fetch_4 : decode b_Mo_fetch 4 = .ok (.iconst 4, 1) := by decide +kernel
end
section
theorem d_Mo_fetch_5 : decode b_Mo_fetch 5 = .ok (.irem, 1) := by decide +kernel
theorem d_Mo_fetch_6 : decode b_Mo_fetch 6 = .ok (.iadd, 1) := by decide +kernel
theorem d_Mo_fetch_7 : decode b_Mo_fetch 7 = .ok (.istore_n 3, 1) := by decide +kernel
theorem d_Mo_fetch_8 : decode b_Mo_fetch 8 = .ok (.aload_n 0, 1) := by decide +kernel
theorem d_Mo_fetch_9 : decode b_Mo_fetch 9 = .ok (.iload_n 1, 1) := by decide +kernel
theorem d_Mo_fetch_10 : decode b_Mo_fetch 10 = .ok (.iload_n 2, 1) := by decide +kernel
theorem d_Mo_fetch_11 : decode b_Mo_fetch 11 = .ok (.invokevirtual 59, 3) := by decide +kernel
theorem d_Mo_fetch_14 : decode b_Mo_fetch 14 = .ok (.ifCond .ne 47, 3) := by decide +kernel
theorem d_Mo_fetch_61 : decode b_Mo_fetch 61 = .ok (.aload_n 0, 1) := by decide +kernel
theorem d_Mo_fetch_62 : decode b_Mo_fetch 62 = .ok (.aload_n 0, 1) := by decide +kernel
theorem d_Mo_fetch_63 : decode b_Mo_fetch 63 = .ok (.getfield 23, 3) := by decide +kernel
theorem d_Mo_fetch_66 : decode b_Mo_fetch 66 = .ok (.iload_n 3, 1) := by decide +kernel
theorem d_Mo_fetch_67 : decode b_Mo_fetch 67 = .ok (.laload, 1) := by decide +kernel
theorem d_Mo_fetch_68 : decode b_Mo_fetch 68 = .ok (.l2i, 1) := by decide +kernel
theorem d_Mo_fetch_69 : decode b_Mo_fetch 69 = .ok (.putfield 77, 3) := by decide +kernel
theorem d_Mo_fetch_72 : decode b_Mo_fetch 72 = .ok (.iconst 1, 1) := by decide +kernel
theorem d_Mo_fetch_73 : decode b_Mo_fetch 73 = .ok (.ireturn, 1) := by decide +kernel
theorem d_Mo_fetch_17 : decode b_Mo_fetch 17 = .ok (.aload_n 0, 1) := by decide +kernel
theorem d_Mo_fetch_18 : decode b_Mo_fetch 18 = .ok (.iload_n 2, 1) := by decide +kernel
theorem d_Mo_fetch_19 : decode b_Mo_fetch 19 = .ok (.invokevirtual 63, 3) := by decide +kernel
theorem d_Mo_fetch_22 : decode b_Mo_fetch 22 = .ok (.ifCond .ne 11, 3) := by decide +kernel
theorem d_Mo_fetch_33 : decode b_Mo_fetch 33 = .ok (.aload_n 0, 1) := by decide +kernel
theorem d_Mo_fetch_34 : decode b_Mo_fetch 34 = .ok (.getfield 23, 3) := by decide +kernel
theorem d_Mo_fetch_37 : decode b_Mo_fetch 37 = .ok (.iload_n 3, 1) := by decide +kernel
theorem d_Mo_fetch_38 : decode b_Mo_fetch 38 = .ok (.aload_n 0, 1) := by decide +kernel
theorem d_Mo_fetch_39 : decode b_Mo_fetch 39 = .ok (.getfield 7, 3) := by decide +kernel
theorem d_Mo_fetch_42 : decode b_Mo_fetch 42 = .ok (.iload_n 2, 1) := by decide +kernel
theorem d_Mo_fetch_43 : decode b_Mo_fetch 43 = .ok (.iaload, 1) := by decide +kernel
theorem d_Mo_fetch_44 : decode b_Mo_fetch 44 = .ok (.aload_n 0, 1) := by decide +kernel
theorem d_Mo_fetch_45 : decode b_Mo_fetch 45 = .ok (.getfield 13, 3) := by decide +kernel
theorem d_Mo_fetch_48 : decode b_Mo_fetch 48 = .ok (.iload_n 2, 1) := by decide +kernel
theorem d_Mo_fetch_49 : decode b_Mo_fetch 49 = .ok (.laload, 1) := by decide +kernel
theorem d_Mo_fetch_50 : decode b_Mo_fetch 50 = .ok (.invokestatic 70, 3) := by decide +kernel
theorem d_Mo_fetch_53 : decode b_Mo_fetch 53 = .ok (.ixor, 1) := by decide +kernel
theorem d_Mo_fetch_54 : decode b_Mo_fetch 54 = .ok (.iload_n 2, 1) := by decide +kernel
theorem d_Mo_fetch_55 : decode b_Mo_fetch 55 = .ok (.iconst 4, 1) := by decide +kernel
theorem d_Mo_fetch_56 : decode b_Mo_fetch 56 = .ok (.idiv, 1) := by decide +kernel
theorem d_Mo_fetch_57 : decode b_Mo_fetch 57 = .ok (.invokestatic 73, 3) := by decide +kernel
theorem d_Mo_fetch_60 : decode b_Mo_fetch 60 = .ok (.lastore, 1) := by decide +kernel
theorem d_Mo_fetch_25 : decode b_Mo_fetch 25 = .ok (.aload_n 0, 1) := by decide +kernel
theorem d_Mo_fetch_26 : decode b_Mo_fetch 26 = .ok (.iconst 5, 1) := by decide +kernel
theorem d_Mo_fetch_27 : decode b_Mo_fetch 27 = .ok (.iload_n 2, 1) := by decide +kernel
theorem d_Mo_fetch_28 : decode b_Mo_fetch 28 = .ok (.invokevirtual 66, 3) := by decide +kernel
theorem d_Mo_fetch_31 : decode b_Mo_fetch 31 = .ok (.iconst 0, 1) := by decide +kernel
theorem d_Mo_fetch_32 : decode b_Mo_fetch 32 = .ok (.ireturn, 1) := by decide +kernel
theorem d_Mo_save_0 : decode b_Mo_save 0 = .ok (.aload_n 0, 1) := by decide +kernel
theorem d_Mo_save_1 : decode b_Mo_save 1 = .ok (.iload_n 1, 1) := by decide +kernel
theorem d_Mo_save_2 : decode b_Mo_save 2 = .ok (.iload_n 2, 1) := by decide +kernel
theorem d_Mo_save_3 : decode b_Mo_save 3 = .ok (.invokevirtual 80, 3) := by decide +kernel
theorem d_Mo_save_6 : decode b_Mo_save 6 = .ok (.aload_n 0, 1) := by decide +kernel
theorem d_Mo_save_7 : decode b_Mo_save 7 = .ok (.iconst 0, 1) := by decide +kernel
theorem d_Mo_save_8 : decode b_Mo_save 8 = .ok (.iload_n 1, 1) := by decide +kernel
theorem d_Mo_save_9 : decode b_Mo_save 9 = .ok (.invokevirtual 59, 3) := by decide +kernel
theorem d_Mo_save_12 : decode b_Mo_save 12 = .ok (.ifCond .eq 12, 3) := by decide +kernel
theorem d_Mo_save_24 : decode b_Mo_save 24 = .ok (.aload_n 0, 1) := by decide +kernel
theorem d_Mo_save_25 : decode b_Mo_save 25 = .ok (.iconst 1, 1) := by decide +kernel
theorem d_Mo_save_26 : decode b_Mo_save 26 = .ok (.iload_n 1, 1) := by decide +kernel
theorem d_Mo_save_27 : decode b_Mo_save 27 = .ok (.invokevirtual 59, 3) := by decide +kernel
theorem d_Mo_save_30 : decode b_Mo_save 30 = .ok (.ifCond .eq 20, 3) := by decide +kernel
theorem d_Mo_save_50 : decode b_Mo_save 50 = .ok (.return_, 1) := by decide +kernel
theorem d_Mo_save_33 : decode b_Mo_save 33 = .ok (.aload_n 0, 1) := by decide +kernel
theorem d_Mo_save_34 : decode b_Mo_save 34 = .ok (.getfield 23, 3) := by decide +kernel
theorem d_Mo_save_37 : decode b_Mo_save 37 = .ok (.iconst 4, 1) := by decide +kernel
theorem d_Mo_save_38 : decode b_Mo_save 38 = .ok (.iload_n 1, 1) := by decide +kernel
theorem d_Mo_save_39 : decode b_Mo_save 39 = .ok (.iconst 4, 1) := by decide +kernel
theorem d_Mo_save_40 : decode b_Mo_save 40 = .ok (.irem, 1) := by decide +kernel
theorem d_Mo_save_41 : decode b_Mo_save 41 = .ok (.iadd, 1) := by decide +kernel
theorem d_Mo_save_42 : decode b_Mo_save 42 = .ok (.iload_n 2, 1) := by decide +kernel
theorem d_Mo_save_43 : decode b_Mo_save 43 = .ok (.iload_n 1, 1) := by decide +kernel
theorem d_Mo_save_44 : decode b_Mo_save 44 = .ok (.iconst 4, 1) := by decide +kernel
theorem d_Mo_save_45 : decode b_Mo_save 45 = .ok (.idiv, 1) := by decide +kernel
theorem d_Mo_save_46 : decode b_Mo_save 46 = .ok (.invokestatic 73, 3) := by decide +kernel
theorem d_Mo_save_49 : decode b_Mo_save 49 = .ok (.lastore, 1) := by decide +kernel
theorem d_Mo_save_15 : decode b_Mo_save 15 = .ok (.aload_n 0, 1) := by decide +kernel
theorem d_Mo_save_16 : decode b_Mo_save 16 = .ok (.getfield 23, 3) := by decide +kernel
theorem d_Mo_save_19 : decode b_Mo_save 19 = .ok (.iload_n 1, 1) := by decide +kernel
theorem d_Mo_save_20 : decode b_Mo_save 20 = .ok (.iconst 4, 1) := by decide +kernel
theorem d_Mo_save_21 : decode b_Mo_save 21 = .ok (.irem, 1) := by decide +kernel
theorem d_Mo_save_22 : decode b_Mo_save 22 = .ok (.lconst 0, 1) := by decide +kernel
theorem d_Mo_save_23 : decode b_Mo_save 23 = .ok (.lastore, 1) := by decide +kernel
theorem d_Mo_two_0 : decode b_Mo_two 0 = .ok (.iload_n 0, 1) := by decide +kernel
theorem d_Mo_two_1 : decode b_Mo_two 1 = .ok (.iload_n 1, 1) := by decide +kernel
theorem d_Mo_two_2 : decode b_Mo_two 2 = .ok (.iand, 1) := by decide +kernel
theorem d_Mo_two_3 : decode b_Mo_two 3 = .ok (.iload_n 0, 1) := by decide +kernel
theorem d_Mo_two_4 : decode b_Mo_two 4 = .ok (.iload_n 2, 1) := by decide +kernel
theorem d_Mo_two_5 : decode b_Mo_two 5 = .ok (.iand, 1) := by decide +kernel
theorem d_Mo_two_6 : decode b_Mo_two 6 = .ok (.ior, 1) := by decide +kernel
theorem d_Mo_two_7 : decode b_Mo_two 7 = .ok (.iload_n 1, 1) := by decide +kernel
theorem d_Mo_two_8 : decode b_Mo_two 8 = .ok (.iload_n 2, 1) := by decide +kernel
theorem d_Mo_two_9 : decode b_Mo_two 9 = .ok (.iand, 1) := by decide +kernel
theorem d_Mo_two_10 : decode b_Mo_two 10 = .ok (.ior, 1) := by decide +kernel
theorem d_Mo_two_11 : decode b_Mo_two 11 = .ok (.ireturn, 1) := by decide +kernel
theorem d_Mo_valueOf_0 : decode b_Mo_valueOf 0 = .ok (.aload_n 0, 1) := by decide +kernel
theorem d_Mo_valueOf_1 : decode b_Mo_valueOf 1 = .ok (.getfield 17, 3) := by decide +kernel
theorem d_Mo_valueOf_4 : decode b_Mo_valueOf 4 = .ok (.iload_n 1, 1) := by decide +kernel
theorem d_Mo_valueOf_5 : decode b_Mo_valueOf 5 = .ok (.iaload, 1) := by decide +kernel
theorem d_Mo_valueOf_6 : decode b_Mo_valueOf 6 = .ok (.aload_n 0, 1) := by decide +kernel
theorem d_Mo_valueOf_7 : decode b_Mo_valueOf 7 = .ok (.getfield 20, 3) := by decide +kernel
theorem d_Mo_valueOf_10 : decode b_Mo_valueOf 10 = .ok (.iconst 3, 1) := by decide +kernel
theorem d_Mo_valueOf_11 : decode b_Mo_valueOf 11 = .ok (.iload_n 1, 1) := by decide +kernel
theorem d_Mo_valueOf_12 : decode b_Mo_valueOf 12 = .ok (.imul, 1) := by decide +kernel
theorem d_Mo_valueOf_13 : decode b_Mo_valueOf 13 = .ok (.iaload, 1) := by decide +kernel
theorem d_Mo_valueOf_14 : decode b_Mo_valueOf 14 = .ok (.aload_n 0, 1) := by decide +kernel
theorem d_Mo_valueOf_15 : decode b_Mo_valueOf 15 = .ok (.getfield 20, 3) := by decide +kernel
theorem d_Mo_valueOf_18 : decode b_Mo_valueOf 18 = .ok (.iconst 3, 1) := by decide +kernel
theorem d_Mo_valueOf_19 : decode b_Mo_valueOf 19 = .ok (.iload_n 1, 1) := by decide +kernel
theorem d_Mo_valueOf_20 : decode b_Mo_valueOf 20 = .ok (.imul, 1) := by decide +kernel
theorem d_Mo_valueOf_21 : decode b_Mo_valueOf 21 = .ok (.iconst 1, 1) := by decide +kernel
theorem d_Mo_valueOf_22 : decode b_Mo_valueOf 22 = .ok (.iadd, 1) := by decide +kernel
theorem d_Mo_valueOf_23 : decode b_Mo_valueOf 23 = .ok (.iaload, 1) := by decide +kernel
theorem d_Mo_valueOf_24 : decode b_Mo_valueOf 24 = .ok (.aload_n 0, 1) := by decide +kernel
theorem d_Mo_valueOf_25 : decode b_Mo_valueOf 25 = .ok (.getfield 20, 3) := by decide +kernel
theorem d_Mo_valueOf_28 : decode b_Mo_valueOf 28 = .ok (.iconst 3, 1) := by decide +kernel
theorem d_Mo_valueOf_29 : decode b_Mo_valueOf 29 = .ok (.iload_n 1, 1) := by decide +kernel
theorem d_Mo_valueOf_30 : decode b_Mo_valueOf 30 = .ok (.imul, 1) := by decide +kernel
theorem d_Mo_valueOf_31 : decode b_Mo_valueOf 31 = .ok (.iconst 2, 1) := by decide +kernel
theorem d_Mo_valueOf_32 : decode b_Mo_valueOf 32 = .ok (.iadd, 1) := by decide +kernel
theorem d_Mo_valueOf_33 : decode b_Mo_valueOf 33 = .ok (.iaload, 1) := by decide +kernel
theorem d_Mo_valueOf_34 : decode b_Mo_valueOf 34 = .ok (.invokestatic 83, 3) := by decide +kernel
theorem d_Mo_valueOf_37 : decode b_Mo_valueOf 37 = .ok (.ixor, 1) := by decide +kernel
theorem d_Mo_valueOf_38 : decode b_Mo_valueOf 38 = .ok (.ireturn, 1) := by decide +kernel
theorem d_Mo_operand_0 : decode b_Mo_operand 0 = .ok (.iload_n 1, 1) := by decide +kernel
theorem d_Mo_operand_1 : decode b_Mo_operand 1 = .ok (.ifCond .ne 7, 3) := by decide +kernel
theorem d_Mo_operand_8 : decode b_Mo_operand 8 = .ok (.aload_n 0, 1) := by decide +kernel
theorem d_Mo_operand_9 : decode b_Mo_operand 9 = .ok (.iload_n 1, 1) := by decide +kernel
theorem d_Mo_operand_10 : decode b_Mo_operand 10 = .ok (.invokevirtual 87, 3) := by decide +kernel
theorem d_Mo_operand_13 : decode b_Mo_operand 13 = .ok (.ireturn, 1) := by decide +kernel
theorem d_Mo_operand_4 : decode b_Mo_operand 4 = .ok (.iconst 0, 1) := by decide +kernel
theorem d_Mo_operand_5 : decode b_Mo_operand 5 = .ok (.goto 8, 3) := by decide +kernel
theorem d_Mo_put_0 : decode b_Mo_put 0 = .ok (.aload_n 0, 1) := by decide +kernel
theorem d_Mo_put_1 : decode b_Mo_put 1 = .ok (.getfield 17, 3) := by decide +kernel
theorem d_Mo_put_4 : decode b_Mo_put 4 = .ok (.iload_n 1, 1) := by decide +kernel
theorem d_Mo_put_5 : decode b_Mo_put 5 = .ok (.iload_n 2, 1) := by decide +kernel
theorem d_Mo_put_6 : decode b_Mo_put 6 = .ok (.iastore, 1) := by decide +kernel
theorem d_Mo_put_7 : decode b_Mo_put 7 = .ok (.iconst 0, 1) := by decide +kernel
theorem d_Mo_put_8 : decode b_Mo_put 8 = .ok (.istore_n 3, 1) := by decide +kernel
theorem d_Mo_put_9 : decode b_Mo_put 9 = .ok (.iload_n 3, 1) := by decide +kernel
theorem d_Mo_put_10 : decode b_Mo_put 10 = .ok (.iconst 3, 1) := by decide +kernel
theorem d_Mo_put_11 : decode b_Mo_put 11 = .ok (.if_icmp .ge 20, 3) := by decide +kernel
theorem d_Mo_put_14 : decode b_Mo_put 14 = .ok (.aload_n 0, 1) := by decide +kernel
theorem d_Mo_put_15 : decode b_Mo_put 15 = .ok (.getfield 20, 3) := by decide +kernel
theorem d_Mo_put_18 : decode b_Mo_put 18 = .ok (.iconst 3, 1) := by decide +kernel
theorem d_Mo_put_19 : decode b_Mo_put 19 = .ok (.iload_n 1, 1) := by decide +kernel
theorem d_Mo_put_20 : decode b_Mo_put 20 = .ok (.imul, 1) := by decide +kernel
theorem d_Mo_put_21 : decode b_Mo_put 21 = .ok (.iload_n 3, 1) := by decide +kernel
theorem d_Mo_put_22 : decode b_Mo_put 22 = .ok (.iadd, 1) := by decide +kernel
theorem d_Mo_put_23 : decode b_Mo_put 23 = .ok (.iconst 0, 1) := by decide +kernel
theorem d_Mo_put_24 : decode b_Mo_put 24 = .ok (.iastore, 1) := by decide +kernel
theorem d_Mo_put_25 : decode b_Mo_put 25 = .ok (.iinc 3 1, 3) := by decide +kernel
theorem d_Mo_put_28 : decode b_Mo_put 28 = .ok (.goto (-19), 3) := by decide +kernel
theorem d_Mo_put_31 : decode b_Mo_put 31 = .ok (.return_, 1) := by decide +kernel
theorem d_Mo_vote_0 : decode b_Mo_vote 0 = .ok (.iconst 0, 1) := by decide +kernel
theorem d_Mo_vote_1 : decode b_Mo_vote 1 = .ok (.istore_n 1, 1) := by decide +kernel
theorem d_Mo_vote_2 : decode b_Mo_vote 2 = .ok (.iload_n 1, 1) := by decide +kernel
theorem d_Mo_vote_3 : decode b_Mo_vote 3 = .ok (.bipush 32, 2) := by decide +kernel
theorem d_Mo_vote_5 : decode b_Mo_vote 5 = .ok (.if_icmp .ge 94, 3) := by decide +kernel
theorem d_Mo_vote_99 : decode b_Mo_vote 99 = .ok (.return_, 1) := by decide +kernel
theorem d_Mo_vote_8 : decode b_Mo_vote 8 = .ok (.aload_n 0, 1) := by decide +kernel
theorem d_Mo_vote_9 : decode b_Mo_vote 9 = .ok (.getfield 20, 3) := by decide +kernel
theorem d_Mo_vote_12 : decode b_Mo_vote 12 = .ok (.iconst 3, 1) := by decide +kernel
theorem d_Mo_vote_13 : decode b_Mo_vote 13 = .ok (.iload_n 1, 1) := by decide +kernel
theorem d_Mo_vote_14 : decode b_Mo_vote 14 = .ok (.imul, 1) := by decide +kernel
theorem d_Mo_vote_15 : decode b_Mo_vote 15 = .ok (.iaload, 1) := by decide +kernel
theorem d_Mo_vote_16 : decode b_Mo_vote 16 = .ok (.aload_n 0, 1) := by decide +kernel
theorem d_Mo_vote_17 : decode b_Mo_vote 17 = .ok (.getfield 20, 3) := by decide +kernel
theorem d_Mo_vote_20 : decode b_Mo_vote 20 = .ok (.iconst 3, 1) := by decide +kernel
theorem d_Mo_vote_21 : decode b_Mo_vote 21 = .ok (.iload_n 1, 1) := by decide +kernel
theorem d_Mo_vote_22 : decode b_Mo_vote 22 = .ok (.imul, 1) := by decide +kernel
theorem d_Mo_vote_23 : decode b_Mo_vote 23 = .ok (.iconst 1, 1) := by decide +kernel
theorem d_Mo_vote_24 : decode b_Mo_vote 24 = .ok (.iadd, 1) := by decide +kernel
theorem d_Mo_vote_25 : decode b_Mo_vote 25 = .ok (.iaload, 1) := by decide +kernel
theorem d_Mo_vote_26 : decode b_Mo_vote 26 = .ok (.if_icmp .ne 28, 3) := by decide +kernel
theorem d_Mo_vote_54 : decode b_Mo_vote 54 = .ok (.iconst 0, 1) := by decide +kernel
theorem d_Mo_vote_55 : decode b_Mo_vote 55 = .ok (.istore_n 2, 1) := by decide +kernel
theorem d_Mo_vote_56 : decode b_Mo_vote 56 = .ok (.aload_n 0, 1) := by decide +kernel
theorem d_Mo_vote_57 : decode b_Mo_vote 57 = .ok (.getfield 29, 3) := by decide +kernel
theorem d_Mo_vote_60 : decode b_Mo_vote 60 = .ok (.iconst 2, 1) := by decide +kernel
theorem d_Mo_vote_61 : decode b_Mo_vote 61 = .ok (.iload_n 2, 1) := by decide +kernel
theorem d_Mo_vote_62 : decode b_Mo_vote 62 = .ok (.ifCond .eq 12, 3) := by decide +kernel
theorem d_Mo_vote_74 : decode b_Mo_vote 74 = .ok (.aload_n 0, 1) := by decide +kernel
theorem d_Mo_vote_75 : decode b_Mo_vote 75 = .ok (.getfield 29, 3) := by decide +kernel
theorem d_Mo_vote_78 : decode b_Mo_vote 78 = .ok (.iconst 2, 1) := by decide +kernel
theorem d_Mo_vote_79 : decode b_Mo_vote 79 = .ok (.iaload, 1) := by decide +kernel
theorem d_Mo_vote_80 : decode b_Mo_vote 80 = .ok (.iconst 1, 1) := by decide +kernel
theorem d_Mo_vote_81 : decode b_Mo_vote 81 = .ok (.iadd, 1) := by decide +kernel
theorem d_Mo_vote_82 : decode b_Mo_vote 82 = .ok (.iastore, 1) := by decide +kernel
theorem d_Mo_vote_83 : decode b_Mo_vote 83 = .ok (.aload_n 0, 1) := by decide +kernel
theorem d_Mo_vote_84 : decode b_Mo_vote 84 = .ok (.iload_n 1, 1) := by decide +kernel
theorem d_Mo_vote_85 : decode b_Mo_vote 85 = .ok (.aload_n 0, 1) := by decide +kernel
theorem d_Mo_vote_86 : decode b_Mo_vote 86 = .ok (.iload_n 1, 1) := by decide +kernel
theorem d_Mo_vote_87 : decode b_Mo_vote 87 = .ok (.invokevirtual 87, 3) := by decide +kernel
theorem d_Mo_vote_90 : decode b_Mo_vote 90 = .ok (.invokevirtual 91, 3) := by decide +kernel
theorem d_Mo_vote_93 : decode b_Mo_vote 93 = .ok (.iinc 1 1, 3) := by decide +kernel
theorem d_Mo_vote_96 : decode b_Mo_vote 96 = .ok (.goto (-94), 3) := by decide +kernel
theorem d_Mo_vote_29 : decode b_Mo_vote 29 = .ok (.aload_n 0, 1) := by decide +kernel
theorem d_Mo_vote_30 : decode b_Mo_vote 30 = .ok (.getfield 20, 3) := by decide +kernel
theorem d_Mo_vote_33 : decode b_Mo_vote 33 = .ok (.iconst 3, 1) := by decide +kernel
theorem d_Mo_vote_34 : decode b_Mo_vote 34 = .ok (.iload_n 1, 1) := by decide +kernel
theorem d_Mo_vote_35 : decode b_Mo_vote 35 = .ok (.imul, 1) := by decide +kernel
theorem d_Mo_vote_36 : decode b_Mo_vote 36 = .ok (.iaload, 1) := by decide +kernel
theorem d_Mo_vote_37 : decode b_Mo_vote 37 = .ok (.aload_n 0, 1) := by decide +kernel
theorem d_Mo_vote_38 : decode b_Mo_vote 38 = .ok (.getfield 20, 3) := by decide +kernel
theorem d_Mo_vote_41 : decode b_Mo_vote 41 = .ok (.iconst 3, 1) := by decide +kernel
theorem d_Mo_vote_42 : decode b_Mo_vote 42 = .ok (.iload_n 1, 1) := by decide +kernel
theorem d_Mo_vote_43 : decode b_Mo_vote 43 = .ok (.imul, 1) := by decide +kernel
theorem d_Mo_vote_44 : decode b_Mo_vote 44 = .ok (.iconst 2, 1) := by decide +kernel
theorem d_Mo_vote_45 : decode b_Mo_vote 45 = .ok (.iadd, 1) := by decide +kernel
theorem d_Mo_vote_46 : decode b_Mo_vote 46 = .ok (.iaload, 1) := by decide +kernel
theorem d_Mo_vote_47 : decode b_Mo_vote 47 = .ok (.if_icmp .ne 7, 3) := by decide +kernel
theorem d_Mo_vote_50 : decode b_Mo_vote 50 = .ok (.iconst 1, 1) := by decide +kernel
theorem d_Mo_vote_51 : decode b_Mo_vote 51 = .ok (.goto 4, 3) := by decide +kernel
theorem d_Mo_vote_65 : decode b_Mo_vote 65 = .ok (.aload_n 0, 1) := by decide +kernel
theorem d_Mo_vote_66 : decode b_Mo_vote 66 = .ok (.getfield 29, 3) := by decide +kernel
theorem d_Mo_vote_69 : decode b_Mo_vote 69 = .ok (.iconst 2, 1) := by decide +kernel
theorem d_Mo_vote_70 : decode b_Mo_vote 70 = .ok (.iaload, 1) := by decide +kernel
theorem d_Mo_vote_71 : decode b_Mo_vote 71 = .ok (.goto 11, 3) := by decide +kernel
theorem d_Mo_field_0 : decode b_Mo_field 0 = .ok (.aload_n 0, 1) := by decide +kernel
theorem d_Mo_field_1 : decode b_Mo_field 1 = .ok (.getfield 100, 3) := by decide +kernel
theorem d_Mo_field_4 : decode b_Mo_field 4 = .ok (.iload_n 1, 1) := by decide +kernel
theorem d_Mo_field_5 : decode b_Mo_field 5 = .ok (.iushr, 1) := by decide +kernel
theorem d_Mo_field_6 : decode b_Mo_field 6 = .ok (.iconst 1, 1) := by decide +kernel
theorem d_Mo_field_7 : decode b_Mo_field 7 = .ok (.iload_n 2, 1) := by decide +kernel
theorem d_Mo_field_8 : decode b_Mo_field 8 = .ok (.ishl, 1) := by decide +kernel
theorem d_Mo_field_9 : decode b_Mo_field 9 = .ok (.iconst 1, 1) := by decide +kernel
theorem d_Mo_field_10 : decode b_Mo_field 10 = .ok (.isub, 1) := by decide +kernel
theorem d_Mo_field_11 : decode b_Mo_field 11 = .ok (.iand, 1) := by decide +kernel
theorem d_Mo_field_12 : decode b_Mo_field 12 = .ok (.ireturn, 1) := by decide +kernel
theorem d_Mo_numberJ_0 : decode b_Mo_numberJ 0 = .ok (.aload_n 0, 1) := by decide +kernel
theorem d_Mo_numberJ_1 : decode b_Mo_numberJ 1 = .ok (.getfield 100, 3) := by decide +kernel
theorem d_Mo_numberJ_4 : decode b_Mo_numberJ 4 = .ok (.bipush 25, 2) := by decide +kernel
theorem d_Mo_numberJ_6 : decode b_Mo_numberJ 6 = .ok (.ishr, 1) := by decide +kernel
theorem d_Mo_numberJ_7 : decode b_Mo_numberJ 7 = .ok (.iconst 5, 1) := by decide +kernel
theorem d_Mo_numberJ_8 : decode b_Mo_numberJ 8 = .ok (.ishl, 1) := by decide +kernel
theorem d_Mo_numberJ_9 : decode b_Mo_numberJ 9 = .ok (.aload_n 0, 1) := by decide +kernel
theorem d_Mo_numberJ_10 : decode b_Mo_numberJ 10 = .ok (.bipush 7, 2) := by decide +kernel
theorem d_Mo_numberJ_12 : decode b_Mo_numberJ 12 = .ok (.iconst 5, 1) := by decide +kernel
theorem d_Mo_numberJ_13 : decode b_Mo_numberJ 13 = .ok (.invokevirtual 103, 3) := by decide +kernel
theorem d_Mo_numberJ_16 : decode b_Mo_numberJ 16 = .ok (.ior, 1) := by decide +kernel
theorem d_Mo_numberJ_17 : decode b_Mo_numberJ 17 = .ok (.ireturn, 1) := by decide +kernel
theorem d_Mo_numberK_0 : decode b_Mo_numberK 0 = .ok (.aload_n 0, 1) := by decide +kernel
theorem d_Mo_numberK_1 : decode b_Mo_numberK 1 = .ok (.getfield 100, 3) := by decide +kernel
theorem d_Mo_numberK_4 : decode b_Mo_numberK 4 = .ok (.bipush 31, 2) := by decide +kernel
theorem d_Mo_numberK_6 : decode b_Mo_numberK 6 = .ok (.ishr, 1) := by decide +kernel
theorem d_Mo_numberK_7 : decode b_Mo_numberK 7 = .ok (.bipush 12, 2) := by decide +kernel
theorem d_Mo_numberK_9 : decode b_Mo_numberK 9 = .ok (.ishl, 1) := by decide +kernel
theorem d_Mo_numberK_10 : decode b_Mo_numberK 10 = .ok (.aload_n 0, 1) := by decide +kernel
theorem d_Mo_numberK_11 : decode b_Mo_numberK 11 = .ok (.bipush 7, 2) := by decide +kernel
theorem d_Mo_numberK_13 : decode b_Mo_numberK 13 = .ok (.iconst 1, 1) := by decide +kernel
theorem d_Mo_numberK_14 : decode b_Mo_numberK 14 = .ok (.invokevirtual 103, 3) := by decide +kernel
theorem d_Mo_numberK_17 : decode b_Mo_numberK 17 = .ok (.bipush 11, 2) := by decide +kernel
theorem d_Mo_numberK_19 : decode b_Mo_numberK 19 = .ok (.ishl, 1) := by decide +kernel
theorem d_Mo_numberK_20 : decode b_Mo_numberK 20 = .ok (.ior, 1) := by decide +kernel
theorem d_Mo_numberK_21 : decode b_Mo_numberK 21 = .ok (.aload_n 0, 1) := by decide +kernel
theorem d_Mo_numberK_22 : decode b_Mo_numberK 22 = .ok (.bipush 25, 2) := by decide +kernel
theorem d_Mo_numberK_24 : decode b_Mo_numberK 24 = .ok (.bipush 6, 2) := by decide +kernel
theorem d_Mo_numberK_26 : decode b_Mo_numberK 26 = .ok (.invokevirtual 103, 3) := by decide +kernel
theorem d_Mo_numberK_29 : decode b_Mo_numberK 29 = .ok (.iconst 5, 1) := by decide +kernel
theorem d_Mo_numberK_30 : decode b_Mo_numberK 30 = .ok (.ishl, 1) := by decide +kernel
theorem d_Mo_numberK_31 : decode b_Mo_numberK 31 = .ok (.ior, 1) := by decide +kernel
theorem d_Mo_numberK_32 : decode b_Mo_numberK 32 = .ok (.aload_n 0, 1) := by decide +kernel
theorem d_Mo_numberK_33 : decode b_Mo_numberK 33 = .ok (.bipush 8, 2) := by decide +kernel
theorem d_Mo_numberK_35 : decode b_Mo_numberK 35 = .ok (.iconst 4, 1) := by decide +kernel
theorem d_Mo_numberK_36 : decode b_Mo_numberK 36 = .ok (.invokevirtual 103, 3) := by decide +kernel
theorem d_Mo_numberK_39 : decode b_Mo_numberK 39 = .ok (.iconst 1, 1) := by decide +kernel
theorem d_Mo_numberK_40 : decode b_Mo_numberK 40 = .ok (.ishl, 1) := by decide +kernel
theorem d_Mo_numberK_41 : decode b_Mo_numberK 41 = .ok (.ior, 1) := by decide +kernel
theorem d_Mo_numberK_42 : decode b_Mo_numberK 42 = .ok (.ireturn, 1) := by decide +kernel
theorem d_Mo_numberL_0 : decode b_Mo_numberL 0 = .ok (.aload_n 0, 1) := by decide +kernel
theorem d_Mo_numberL_1 : decode b_Mo_numberL 1 = .ok (.getfield 100, 3) := by decide +kernel
theorem d_Mo_numberL_4 : decode b_Mo_numberL 4 = .ok (.bipush 31, 2) := by decide +kernel
theorem d_Mo_numberL_6 : decode b_Mo_numberL 6 = .ok (.ishr, 1) := by decide +kernel
theorem d_Mo_numberL_7 : decode b_Mo_numberL 7 = .ok (.bipush 20, 2) := by decide +kernel
theorem d_Mo_numberL_9 : decode b_Mo_numberL 9 = .ok (.ishl, 1) := by decide +kernel
theorem d_Mo_numberL_10 : decode b_Mo_numberL 10 = .ok (.aload_n 0, 1) := by decide +kernel
theorem d_Mo_numberL_11 : decode b_Mo_numberL 11 = .ok (.bipush 12, 2) := by decide +kernel
theorem d_Mo_numberL_13 : decode b_Mo_numberL 13 = .ok (.bipush 8, 2) := by decide +kernel
theorem d_Mo_numberL_15 : decode b_Mo_numberL 15 = .ok (.invokevirtual 103, 3) := by decide +kernel
theorem d_Mo_numberL_18 : decode b_Mo_numberL 18 = .ok (.bipush 12, 2) := by decide +kernel
theorem d_Mo_numberL_20 : decode b_Mo_numberL 20 = .ok (.ishl, 1) := by decide +kernel
theorem d_Mo_numberL_21 : decode b_Mo_numberL 21 = .ok (.ior, 1) := by decide +kernel
theorem d_Mo_numberL_22 : decode b_Mo_numberL 22 = .ok (.aload_n 0, 1) := by decide +kernel
theorem d_Mo_numberL_23 : decode b_Mo_numberL 23 = .ok (.bipush 20, 2) := by decide +kernel
theorem d_Mo_numberL_25 : decode b_Mo_numberL 25 = .ok (.iconst 1, 1) := by decide +kernel
theorem d_Mo_numberL_26 : decode b_Mo_numberL 26 = .ok (.invokevirtual 103, 3) := by decide +kernel
theorem d_Mo_numberL_29 : decode b_Mo_numberL 29 = .ok (.bipush 11, 2) := by decide +kernel
theorem d_Mo_numberL_31 : decode b_Mo_numberL 31 = .ok (.ishl, 1) := by decide +kernel
theorem d_Mo_numberL_32 : decode b_Mo_numberL 32 = .ok (.ior, 1) := by decide +kernel
theorem d_Mo_numberL_33 : decode b_Mo_numberL 33 = .ok (.aload_n 0, 1) := by decide +kernel
theorem d_Mo_numberL_34 : decode b_Mo_numberL 34 = .ok (.bipush 21, 2) := by decide +kernel
theorem d_Mo_numberL_36 : decode b_Mo_numberL 36 = .ok (.bipush 10, 2) := by decide +kernel
theorem d_Mo_numberL_38 : decode b_Mo_numberL 38 = .ok (.invokevirtual 103, 3) := by decide +kernel
theorem d_Mo_numberL_41 : decode b_Mo_numberL 41 = .ok (.iconst 1, 1) := by decide +kernel
theorem d_Mo_numberL_42 : decode b_Mo_numberL 42 = .ok (.ishl, 1) := by decide +kernel
theorem d_Mo_numberL_43 : decode b_Mo_numberL 43 = .ok (.ior, 1) := by decide +kernel
theorem d_Mo_numberL_44 : decode b_Mo_numberL 44 = .ok (.ireturn, 1) := by decide +kernel
theorem d_Mo_give_0 : decode b_Mo_give 0 = .ok (.aload_n 0, 1) := by decide +kernel
theorem d_Mo_give_1 : decode b_Mo_give 1 = .ok (.iconst 1, 1) := by decide +kernel
theorem d_Mo_give_2 : decode b_Mo_give 2 = .ok (.putfield 107, 3) := by decide +kernel
theorem d_Mo_give_5 : decode b_Mo_give 5 = .ok (.aload_n 0, 1) := by decide +kernel
theorem d_Mo_give_6 : decode b_Mo_give 6 = .ok (.iload_n 1, 1) := by decide +kernel
end
section
theorem d_Mo_give_7 : decode b_Mo_give 7 = .ok (.putfield 111, 3) := by decide +kernel
theorem d_Mo_give_10 : decode b_Mo_give 10 = .ok (.return_, 1) := by decide +kernel
theorem d_Mo_go_0 : decode b_Mo_go 0 = .ok (.iload_n 1, 1) := by decide +kernel
theorem d_Mo_go_1 : decode b_Mo_go 1 = .ok (.iconst 3, 1) := by decide +kernel
theorem d_Mo_go_2 : decode b_Mo_go 2 = .ok (.iand, 1) := by decide +kernel
theorem d_Mo_go_3 : decode b_Mo_go 3 = .ok (.ifCond .eq 9, 3) := by decide +kernel
theorem d_Mo_go_12 : decode b_Mo_go 12 = .ok (.aload_n 0, 1) := by decide +kernel
theorem d_Mo_go_13 : decode b_Mo_go 13 = .ok (.iload_n 1, 1) := by decide +kernel
theorem d_Mo_go_14 : decode b_Mo_go 14 = .ok (.putfield 114, 3) := by decide +kernel
theorem d_Mo_go_17 : decode b_Mo_go 17 = .ok (.return_, 1) := by decide +kernel
theorem d_Mo_go_6 : decode b_Mo_go 6 = .ok (.aload_n 0, 1) := by decide +kernel
theorem d_Mo_go_7 : decode b_Mo_go 7 = .ok (.iconst 1, 1) := by decide +kernel
theorem d_Mo_go_8 : decode b_Mo_go 8 = .ok (.iload_n 1, 1) := by decide +kernel
theorem d_Mo_go_9 : decode b_Mo_go 9 = .ok (.invokevirtual 66, 3) := by decide +kernel
theorem d_Mo_illegal_0 : decode b_Mo_illegal 0 = .ok (.aload_n 0, 1) := by decide +kernel
theorem d_Mo_illegal_1 : decode b_Mo_illegal 1 = .ok (.iconst 2, 1) := by decide +kernel
theorem d_Mo_illegal_2 : decode b_Mo_illegal 2 = .ok (.aload_n 0, 1) := by decide +kernel
theorem d_Mo_illegal_3 : decode b_Mo_illegal 3 = .ok (.getfield 100, 3) := by decide +kernel
theorem d_Mo_illegal_6 : decode b_Mo_illegal 6 = .ok (.invokevirtual 66, 3) := by decide +kernel
theorem d_Mo_illegal_9 : decode b_Mo_illegal 9 = .ok (.return_, 1) := by decide +kernel
theorem d_Mo_isLess_0 : decode b_Mo_isLess 0 = .ok (.iload_n 2, 1) := by decide +kernel
theorem d_Mo_isLess_1 : decode b_Mo_isLess 1 = .ok (.ifCond .eq 16, 3) := by decide +kernel
theorem d_Mo_isLess_17 : decode b_Mo_isLess 17 = .ok (.iload_n 0, 1) := by decide +kernel
theorem d_Mo_isLess_18 : decode b_Mo_isLess 18 = .ok (.iload_n 1, 1) := by decide +kernel
theorem d_Mo_isLess_19 : decode b_Mo_isLess 19 = .ok (.if_icmp .ge 7, 3) := by decide +kernel
theorem d_Mo_isLess_26 : decode b_Mo_isLess 26 = .ok (.iconst 0, 1) := by decide +kernel
theorem d_Mo_isLess_27 : decode b_Mo_isLess 27 = .ok (.iload_n 0, 1) := by decide +kernel
theorem d_Mo_isLess_28 : decode b_Mo_isLess 28 = .ok (.ifCond .ge 7, 3) := by decide +kernel
theorem d_Mo_isLess_35 : decode b_Mo_isLess 35 = .ok (.iconst 0, 1) := by decide +kernel
theorem d_Mo_isLess_36 : decode b_Mo_isLess 36 = .ok (.iload_n 1, 1) := by decide +kernel
theorem d_Mo_isLess_37 : decode b_Mo_isLess 37 = .ok (.ifCond .ge 7, 3) := by decide +kernel
theorem d_Mo_isLess_44 : decode b_Mo_isLess 44 = .ok (.iconst 0, 1) := by decide +kernel
theorem d_Mo_isLess_45 : decode b_Mo_isLess 45 = .ok (.if_icmp .eq 7, 3) := by decide +kernel
theorem d_Mo_isLess_52 : decode b_Mo_isLess 52 = .ok (.iconst 0, 1) := by decide +kernel
theorem d_Mo_isLess_53 : decode b_Mo_isLess 53 = .ok (.if_icmp .eq 7, 3) := by decide +kernel
theorem d_Mo_isLess_60 : decode b_Mo_isLess 60 = .ok (.iconst 0, 1) := by decide +kernel
theorem d_Mo_isLess_61 : decode b_Mo_isLess 61 = .ok (.ireturn, 1) := by decide +kernel
theorem d_Mo_isLess_40 : decode b_Mo_isLess 40 = .ok (.iconst 1, 1) := by decide +kernel
theorem d_Mo_isLess_41 : decode b_Mo_isLess 41 = .ok (.goto 4, 3) := by decide +kernel
theorem d_Mo_isLess_48 : decode b_Mo_isLess 48 = .ok (.iconst 1, 1) := by decide +kernel
theorem d_Mo_isLess_49 : decode b_Mo_isLess 49 = .ok (.goto 4, 3) := by decide +kernel
theorem d_Mo_isLess_56 : decode b_Mo_isLess 56 = .ok (.iconst 1, 1) := by decide +kernel
theorem d_Mo_isLess_57 : decode b_Mo_isLess 57 = .ok (.goto 4, 3) := by decide +kernel
theorem d_Mo_isLess_31 : decode b_Mo_isLess 31 = .ok (.iconst 1, 1) := by decide +kernel
theorem d_Mo_isLess_32 : decode b_Mo_isLess 32 = .ok (.goto 4, 3) := by decide +kernel
theorem d_Mo_isLess_22 : decode b_Mo_isLess 22 = .ok (.iconst 1, 1) := by decide +kernel
theorem d_Mo_isLess_23 : decode b_Mo_isLess 23 = .ok (.goto 4, 3) := by decide +kernel
theorem d_Mo_isLess_4 : decode b_Mo_isLess 4 = .ok (.iload_n 0, 1) := by decide +kernel
theorem d_Mo_isLess_5 : decode b_Mo_isLess 5 = .ok (.iload_n 1, 1) := by decide +kernel
theorem d_Mo_isLess_6 : decode b_Mo_isLess 6 = .ok (.if_icmp .ge 7, 3) := by decide +kernel
theorem d_Mo_isLess_13 : decode b_Mo_isLess 13 = .ok (.iconst 0, 1) := by decide +kernel
theorem d_Mo_isLess_14 : decode b_Mo_isLess 14 = .ok (.goto 47, 3) := by decide +kernel
theorem d_Mo_isLess_9 : decode b_Mo_isLess 9 = .ok (.iconst 1, 1) := by decide +kernel
theorem d_Mo_isLess_10 : decode b_Mo_isLess 10 = .ok (.goto 51, 3) := by decide +kernel
theorem d_Mo_branch_0 : decode b_Mo_branch 0 = .ok (.iload_n 1, 1) := by decide +kernel
theorem d_Mo_branch_1 : decode b_Mo_branch 1 = .ok (.iconst 2, 1) := by decide +kernel
theorem d_Mo_branch_2 : decode b_Mo_branch 2 = .ok (.if_icmp .ge 16, 3) := by decide +kernel
theorem d_Mo_branch_18 : decode b_Mo_branch 18 = .ok (.iload_n 2, 1) := by decide +kernel
theorem d_Mo_branch_19 : decode b_Mo_branch 19 = .ok (.iload_n 3, 1) := by decide +kernel
theorem d_Mo_branch_20 : decode b_Mo_branch 20 = .ok (.iload_n 1, 1) := by decide +kernel
theorem d_Mo_branch_21 : decode b_Mo_branch 21 = .ok (.bipush 6, 2) := by decide +kernel
theorem d_Mo_branch_23 : decode b_Mo_branch 23 = .ok (.if_icmp .ge 7, 3) := by decide +kernel
theorem d_Mo_branch_30 : decode b_Mo_branch 30 = .ok (.iconst 0, 1) := by decide +kernel
theorem d_Mo_branch_31 : decode b_Mo_branch 31 = .ok (.invokestatic 117, 3) := by decide +kernel
theorem d_Mo_branch_34 : decode b_Mo_branch 34 = .ok (.istore 4, 2) := by decide +kernel
theorem d_Mo_branch_36 : decode b_Mo_branch 36 = .ok (.iload_n 1, 1) := by decide +kernel
theorem d_Mo_branch_37 : decode b_Mo_branch 37 = .ok (.iconst 2, 1) := by decide +kernel
theorem d_Mo_branch_38 : decode b_Mo_branch 38 = .ok (.if_icmp .eq 8, 3) := by decide +kernel
theorem d_Mo_branch_46 : decode b_Mo_branch 46 = .ok (.aload_n 0, 1) := by decide +kernel
theorem d_Mo_branch_47 : decode b_Mo_branch 47 = .ok (.invokevirtual 121, 3) := by decide +kernel
theorem d_Mo_branch_50 : decode b_Mo_branch 50 = .ok (.goto 33, 3) := by decide +kernel
theorem d_Mo_branch_83 : decode b_Mo_branch 83 = .ok (.return_, 1) := by decide +kernel
theorem d_Mo_branch_41 : decode b_Mo_branch 41 = .ok (.iload_n 1, 1) := by decide +kernel
theorem d_Mo_branch_42 : decode b_Mo_branch 42 = .ok (.iconst 3, 1) := by decide +kernel
theorem d_Mo_branch_43 : decode b_Mo_branch 43 = .ok (.if_icmp .ne 10, 3) := by decide +kernel
theorem d_Mo_branch_53 : decode b_Mo_branch 53 = .ok (.iload 4, 2) := by decide +kernel
theorem d_Mo_branch_55 : decode b_Mo_branch 55 = .ok (.iload_n 1, 1) := by decide +kernel
theorem d_Mo_branch_56 : decode b_Mo_branch 56 = .ok (.iconst 2, 1) := by decide +kernel
theorem d_Mo_branch_57 : decode b_Mo_branch 57 = .ok (.irem, 1) := by decide +kernel
theorem d_Mo_branch_58 : decode b_Mo_branch 58 = .ok (.iconst 1, 1) := by decide +kernel
theorem d_Mo_branch_59 : decode b_Mo_branch 59 = .ok (.if_icmp .ne 7, 3) := by decide +kernel
theorem d_Mo_branch_66 : decode b_Mo_branch 66 = .ok (.iconst 0, 1) := by decide +kernel
theorem d_Mo_branch_67 : decode b_Mo_branch 67 = .ok (.if_icmp .eq 16, 3) := by decide +kernel
theorem d_Mo_branch_70 : decode b_Mo_branch 70 = .ok (.aload_n 0, 1) := by decide +kernel
theorem d_Mo_branch_71 : decode b_Mo_branch 71 = .ok (.aload_n 0, 1) := by decide +kernel
theorem d_Mo_branch_72 : decode b_Mo_branch 72 = .ok (.getfield 124, 3) := by decide +kernel
theorem d_Mo_branch_75 : decode b_Mo_branch 75 = .ok (.aload_n 0, 1) := by decide +kernel
theorem d_Mo_branch_76 : decode b_Mo_branch 76 = .ok (.invokevirtual 127, 3) := by decide +kernel
theorem d_Mo_branch_79 : decode b_Mo_branch 79 = .ok (.iadd, 1) := by decide +kernel
theorem d_Mo_branch_80 : decode b_Mo_branch 80 = .ok (.invokevirtual 131, 3) := by decide +kernel
theorem d_Mo_branch_62 : decode b_Mo_branch 62 = .ok (.iconst 1, 1) := by decide +kernel
theorem d_Mo_branch_63 : decode b_Mo_branch 63 = .ok (.goto 4, 3) := by decide +kernel
theorem d_Mo_branch_26 : decode b_Mo_branch 26 = .ok (.iconst 1, 1) := by decide +kernel
theorem d_Mo_branch_27 : decode b_Mo_branch 27 = .ok (.goto 4, 3) := by decide +kernel
theorem d_Mo_branch_5 : decode b_Mo_branch 5 = .ok (.iload_n 2, 1) := by decide +kernel
theorem d_Mo_branch_6 : decode b_Mo_branch 6 = .ok (.iload_n 3, 1) := by decide +kernel
theorem d_Mo_branch_7 : decode b_Mo_branch 7 = .ok (.if_icmp .ne 7, 3) := by decide +kernel
theorem d_Mo_branch_14 : decode b_Mo_branch 14 = .ok (.iconst 0, 1) := by decide +kernel
theorem d_Mo_branch_15 : decode b_Mo_branch 15 = .ok (.goto 19, 3) := by decide +kernel
theorem d_Mo_branch_10 : decode b_Mo_branch 10 = .ok (.iconst 1, 1) := by decide +kernel
theorem d_Mo_branch_11 : decode b_Mo_branch 11 = .ok (.goto 23, 3) := by decide +kernel
theorem d_Mo_reaches_0 : decode b_Mo_reaches 0 = .ok (.iload_n 1, 1) := by decide +kernel
theorem d_Mo_reaches_1 : decode b_Mo_reaches 1 = .ok (.iload_n 2, 1) := by decide +kernel
theorem d_Mo_reaches_2 : decode b_Mo_reaches 2 = .ok (.irem, 1) := by decide +kernel
theorem d_Mo_reaches_3 : decode b_Mo_reaches 3 = .ok (.ifCond .ne 13, 3) := by decide +kernel
theorem d_Mo_reaches_16 : decode b_Mo_reaches 16 = .ok (.aload_n 0, 1) := by decide +kernel
theorem d_Mo_reaches_17 : decode b_Mo_reaches 17 = .ok (.iconst 1, 1) := by decide +kernel
theorem d_Mo_reaches_18 : decode b_Mo_reaches 18 = .ok (.iload_n 1, 1) := by decide +kernel
theorem d_Mo_reaches_19 : decode b_Mo_reaches 19 = .ok (.invokevirtual 66, 3) := by decide +kernel
theorem d_Mo_reaches_22 : decode b_Mo_reaches 22 = .ok (.iconst 0, 1) := by decide +kernel
theorem d_Mo_reaches_23 : decode b_Mo_reaches 23 = .ok (.ireturn, 1) := by decide +kernel
theorem d_Mo_reaches_6 : decode b_Mo_reaches 6 = .ok (.iload_n 1, 1) := by decide +kernel
theorem d_Mo_reaches_7 : decode b_Mo_reaches 7 = .ok (.sipush 255, 3) := by decide +kernel
theorem d_Mo_reaches_10 : decode b_Mo_reaches 10 = .ok (.invokestatic 135, 3) := by decide +kernel
theorem d_Mo_reaches_13 : decode b_Mo_reaches 13 = .ok (.ifCond .eq 11, 3) := by decide +kernel
theorem d_Mo_reaches_24 : decode b_Mo_reaches 24 = .ok (.iconst 1, 1) := by decide +kernel
theorem d_Mo_reaches_25 : decode b_Mo_reaches 25 = .ok (.ireturn, 1) := by decide +kernel
theorem d_Mo_load_0 : decode b_Mo_load 0 = .ok (.iload_n 1, 1) := by decide +kernel
theorem d_Mo_load_1 : decode b_Mo_load 1 = .ok (.iconst 4, 1) := by decide +kernel
theorem d_Mo_load_2 : decode b_Mo_load 2 = .ok (.irem, 1) := by decide +kernel
theorem d_Mo_load_3 : decode b_Mo_load 3 = .ok (.ifCond .ne 7, 3) := by decide +kernel
theorem d_Mo_load_10 : decode b_Mo_load 10 = .ok (.iload_n 1, 1) := by decide +kernel
theorem d_Mo_load_11 : decode b_Mo_load 11 = .ok (.iconst 4, 1) := by decide +kernel
theorem d_Mo_load_12 : decode b_Mo_load 12 = .ok (.irem, 1) := by decide +kernel
theorem d_Mo_load_13 : decode b_Mo_load 13 = .ok (.iconst 1, 1) := by decide +kernel
theorem d_Mo_load_14 : decode b_Mo_load 14 = .ok (.if_icmp .ne 7, 3) := by decide +kernel
theorem d_Mo_load_21 : decode b_Mo_load 21 = .ok (.iconst 4, 1) := by decide +kernel
theorem d_Mo_load_22 : decode b_Mo_load 22 = .ok (.istore_n 3, 1) := by decide +kernel
theorem d_Mo_load_23 : decode b_Mo_load 23 = .ok (.iload_n 1, 1) := by decide +kernel
theorem d_Mo_load_24 : decode b_Mo_load 24 = .ok (.iconst 3, 1) := by decide +kernel
theorem d_Mo_load_25 : decode b_Mo_load 25 = .ok (.if_icmp .eq 8, 3) := by decide +kernel
theorem d_Mo_load_33 : decode b_Mo_load 33 = .ok (.aload_n 0, 1) := by decide +kernel
theorem d_Mo_load_34 : decode b_Mo_load 34 = .ok (.invokevirtual 121, 3) := by decide +kernel
theorem d_Mo_load_37 : decode b_Mo_load 37 = .ok (.goto 70, 3) := by decide +kernel
theorem d_Mo_load_107 : decode b_Mo_load 107 = .ok (.return_, 1) := by decide +kernel
theorem d_Mo_load_28 : decode b_Mo_load 28 = .ok (.iload_n 1, 1) := by decide +kernel
theorem d_Mo_load_29 : decode b_Mo_load 29 = .ok (.iconst 5, 1) := by decide +kernel
theorem d_Mo_load_30 : decode b_Mo_load 30 = .ok (.if_icmp .le 10, 3) := by decide +kernel
theorem d_Mo_load_40 : decode b_Mo_load 40 = .ok (.aload_n 0, 1) := by decide +kernel
theorem d_Mo_load_41 : decode b_Mo_load 41 = .ok (.iload_n 2, 1) := by decide +kernel
theorem d_Mo_load_42 : decode b_Mo_load 42 = .ok (.iload_n 3, 1) := by decide +kernel
theorem d_Mo_load_43 : decode b_Mo_load 43 = .ok (.invokevirtual 138, 3) := by decide +kernel
theorem d_Mo_load_46 : decode b_Mo_load 46 = .ok (.ifCond .eq 61, 3) := by decide +kernel
theorem d_Mo_load_49 : decode b_Mo_load 49 = .ok (.aload_n 0, 1) := by decide +kernel
theorem d_Mo_load_50 : decode b_Mo_load 50 = .ok (.iconst 1, 1) := by decide +kernel
theorem d_Mo_load_51 : decode b_Mo_load 51 = .ok (.iload_n 2, 1) := by decide +kernel
theorem d_Mo_load_52 : decode b_Mo_load 52 = .ok (.iconst 4, 1) := by decide +kernel
theorem d_Mo_load_53 : decode b_Mo_load 53 = .ok (.idiv, 1) := by decide +kernel
theorem d_Mo_load_54 : decode b_Mo_load 54 = .ok (.invokevirtual 141, 3) := by decide +kernel
theorem d_Mo_load_57 : decode b_Mo_load 57 = .ok (.ifCond .eq 50, 3) := by decide +kernel
theorem d_Mo_load_60 : decode b_Mo_load 60 = .ok (.bipush 32, 2) := by decide +kernel
theorem d_Mo_load_62 : decode b_Mo_load 62 = .ok (.bipush 8, 2) := by decide +kernel
theorem d_Mo_load_64 : decode b_Mo_load 64 = .ok (.iload_n 3, 1) := by decide +kernel
theorem d_Mo_load_65 : decode b_Mo_load 65 = .ok (.imul, 1) := by decide +kernel
theorem d_Mo_load_66 : decode b_Mo_load 66 = .ok (.isub, 1) := by decide +kernel
theorem d_Mo_load_67 : decode b_Mo_load 67 = .ok (.istore 4, 2) := by decide +kernel
theorem d_Mo_load_69 : decode b_Mo_load 69 = .ok (.aload_n 0, 1) := by decide +kernel
theorem d_Mo_load_70 : decode b_Mo_load 70 = .ok (.getfield 77, 3) := by decide +kernel
theorem d_Mo_load_73 : decode b_Mo_load 73 = .ok (.bipush 8, 2) := by decide +kernel
theorem d_Mo_load_75 : decode b_Mo_load 75 = .ok (.iload_n 2, 1) := by decide +kernel
theorem d_Mo_load_76 : decode b_Mo_load 76 = .ok (.iconst 4, 1) := by decide +kernel
theorem d_Mo_load_77 : decode b_Mo_load 77 = .ok (.irem, 1) := by decide +kernel
theorem d_Mo_load_78 : decode b_Mo_load 78 = .ok (.imul, 1) := by decide +kernel
theorem d_Mo_load_79 : decode b_Mo_load 79 = .ok (.ishr, 1) := by decide +kernel
theorem d_Mo_load_80 : decode b_Mo_load 80 = .ok (.iload 4, 2) := by decide +kernel
theorem d_Mo_load_82 : decode b_Mo_load 82 = .ok (.ishl, 1) := by decide +kernel
theorem d_Mo_load_83 : decode b_Mo_load 83 = .ok (.istore 5, 2) := by decide +kernel
theorem d_Mo_load_85 : decode b_Mo_load 85 = .ok (.aload_n 0, 1) := by decide +kernel
theorem d_Mo_load_86 : decode b_Mo_load 86 = .ok (.iload_n 1, 1) := by decide +kernel
theorem d_Mo_load_87 : decode b_Mo_load 87 = .ok (.iconst 4, 1) := by decide +kernel
theorem d_Mo_load_88 : decode b_Mo_load 88 = .ok (.if_icmp .ge 11, 3) := by decide +kernel
theorem d_Mo_load_99 : decode b_Mo_load 99 = .ok (.iload 5, 2) := by decide +kernel
theorem d_Mo_load_101 : decode b_Mo_load 101 = .ok (.iload 4, 2) := by decide +kernel
theorem d_Mo_load_103 : decode b_Mo_load 103 = .ok (.iushr, 1) := by decide +kernel
theorem d_Mo_load_104 : decode b_Mo_load 104 = .ok (.invokevirtual 144, 3) := by decide +kernel
theorem d_Mo_load_91 : decode b_Mo_load 91 = .ok (.iload 5, 2) := by decide +kernel
theorem d_Mo_load_93 : decode b_Mo_load 93 = .ok (.iload 4, 2) := by decide +kernel
theorem d_Mo_load_95 : decode b_Mo_load 95 = .ok (.ishr, 1) := by decide +kernel
theorem d_Mo_load_96 : decode b_Mo_load 96 = .ok (.goto 8, 3) := by decide +kernel
theorem d_Mo_load_17 : decode b_Mo_load 17 = .ok (.iconst 2, 1) := by decide +kernel
theorem d_Mo_load_18 : decode b_Mo_load 18 = .ok (.goto 4, 3) := by decide +kernel
theorem d_Mo_load_6 : decode b_Mo_load 6 = .ok (.iconst 1, 1) := by decide +kernel
theorem d_Mo_load_7 : decode b_Mo_load 7 = .ok (.goto 15, 3) := by decide +kernel
theorem d_Mo_store_0 : decode b_Mo_store 0 = .ok (.iload_n 1, 1) := by decide +kernel
theorem d_Mo_store_1 : decode b_Mo_store 1 = .ok (.iconst 2, 1) := by decide +kernel
theorem d_Mo_store_2 : decode b_Mo_store 2 = .ok (.if_icmp .le 10, 3) := by decide +kernel
theorem d_Mo_store_12 : decode b_Mo_store 12 = .ok (.aload_n 0, 1) := by decide +kernel
theorem d_Mo_store_13 : decode b_Mo_store 13 = .ok (.iload_n 2, 1) := by decide +kernel
theorem d_Mo_store_14 : decode b_Mo_store 14 = .ok (.iconst 1, 1) := by decide +kernel
theorem d_Mo_store_15 : decode b_Mo_store 15 = .ok (.iload_n 1, 1) := by decide +kernel
theorem d_Mo_store_16 : decode b_Mo_store 16 = .ok (.ishl, 1) := by decide +kernel
theorem d_Mo_store_17 : decode b_Mo_store 17 = .ok (.invokevirtual 138, 3) := by decide +kernel
theorem d_Mo_store_20 : decode b_Mo_store 20 = .ok (.ifCond .eq 90, 3) := by decide +kernel
theorem d_Mo_store_110 : decode b_Mo_store 110 = .ok (.return_, 1) := by decide +kernel
theorem d_Mo_store_23 : decode b_Mo_store 23 = .ok (.iload_n 1, 1) := by decide +kernel
theorem d_Mo_store_24 : decode b_Mo_store 24 = .ok (.iconst 2, 1) := by decide +kernel
theorem d_Mo_store_25 : decode b_Mo_store 25 = .ok (.if_icmp .eq 14, 3) := by decide +kernel
theorem d_Mo_store_39 : decode b_Mo_store 39 = .ok (.bipush 8, 2) := by decide +kernel
theorem d_Mo_store_41 : decode b_Mo_store 41 = .ok (.iload_n 2, 1) := by decide +kernel
theorem d_Mo_store_42 : decode b_Mo_store 42 = .ok (.iconst 4, 1) := by decide +kernel
theorem d_Mo_store_43 : decode b_Mo_store 43 = .ok (.irem, 1) := by decide +kernel
theorem d_Mo_store_44 : decode b_Mo_store 44 = .ok (.imul, 1) := by decide +kernel
theorem d_Mo_store_45 : decode b_Mo_store 45 = .ok (.istore 4, 2) := by decide +kernel
theorem d_Mo_store_47 : decode b_Mo_store 47 = .ok (.iload_n 1, 1) := by decide +kernel
theorem d_Mo_store_48 : decode b_Mo_store 48 = .ok (.ifCond .ne 9, 3) := by decide +kernel
theorem d_Mo_store_57 : decode b_Mo_store 57 = .ok (.iload_n 1, 1) := by decide +kernel
theorem d_Mo_store_58 : decode b_Mo_store 58 = .ok (.iconst 1, 1) := by decide +kernel
theorem d_Mo_store_59 : decode b_Mo_store 59 = .ok (.if_icmp .ne 8, 3) := by decide +kernel
theorem d_Mo_store_67 : decode b_Mo_store 67 = .ok (.iconst (-1), 1) := by decide +kernel
theorem d_Mo_store_68 : decode b_Mo_store 68 = .ok (.istore 5, 2) := by decide +kernel
theorem d_Mo_store_70 : decode b_Mo_store 70 = .ok (.iload_n 1, 1) := by decide +kernel
theorem d_Mo_store_71 : decode b_Mo_store 71 = .ok (.iconst 2, 1) := by decide +kernel
theorem d_Mo_store_72 : decode b_Mo_store 72 = .ok (.if_icmp .ne 7, 3) := by decide +kernel
theorem d_Mo_store_75 : decode b_Mo_store 75 = .ok (.iconst 0, 1) := by decide +kernel
theorem d_Mo_store_76 : decode b_Mo_store 76 = .ok (.goto 7, 3) := by decide +kernel
theorem d_Mo_store_83 : decode b_Mo_store 83 = .ok (.istore 6, 2) := by decide +kernel
theorem d_Mo_store_85 : decode b_Mo_store 85 = .ok (.aload_n 0, 1) := by decide +kernel
theorem d_Mo_store_86 : decode b_Mo_store 86 = .ok (.iload_n 2, 1) := by decide +kernel
theorem d_Mo_store_87 : decode b_Mo_store 87 = .ok (.iconst 4, 1) := by decide +kernel
theorem d_Mo_store_88 : decode b_Mo_store 88 = .ok (.idiv, 1) := by decide +kernel
theorem d_Mo_store_89 : decode b_Mo_store 89 = .ok (.iload 6, 2) := by decide +kernel
theorem d_Mo_store_91 : decode b_Mo_store 91 = .ok (.iload 5, 2) := by decide +kernel
theorem d_Mo_store_93 : decode b_Mo_store 93 = .ok (.iload 4, 2) := by decide +kernel
theorem d_Mo_store_95 : decode b_Mo_store 95 = .ok (.ishl, 1) := by decide +kernel
theorem d_Mo_store_96 : decode b_Mo_store 96 = .ok (.iconst (-1), 1) := by decide +kernel
theorem d_Mo_store_97 : decode b_Mo_store 97 = .ok (.ixor, 1) := by decide +kernel
theorem d_Mo_store_98 : decode b_Mo_store 98 = .ok (.iand, 1) := by decide +kernel
theorem d_Mo_store_99 : decode b_Mo_store 99 = .ok (.iload_n 3, 1) := by decide +kernel
theorem d_Mo_store_100 : decode b_Mo_store 100 = .ok (.iload 5, 2) := by decide +kernel
theorem d_Mo_store_102 : decode b_Mo_store 102 = .ok (.iand, 1) := by decide +kernel
theorem d_Mo_store_103 : decode b_Mo_store 103 = .ok (.iload 4, 2) := by decide +kernel
theorem d_Mo_store_105 : decode b_Mo_store 105 = .ok (.ishl, 1) := by decide +kernel
theorem d_Mo_store_106 : decode b_Mo_store 106 = .ok (.ior, 1) := by decide +kernel
theorem d_Mo_store_107 : decode b_Mo_store 107 = .ok (.invokevirtual 148, 3) := by decide +kernel
theorem d_Mo_store_62 : decode b_Mo_store 62 = .ok (.ldc 147, 2) := by decide +kernel
theorem d_Mo_store_64 : decode b_Mo_store 64 = .ok (.goto 4, 3) := by decide +kernel
theorem d_Mo_store_51 : decode b_Mo_store 51 = .ok (.sipush 255, 3) := by decide +kernel
theorem d_Mo_store_54 : decode b_Mo_store 54 = .ok (.goto 14, 3) := by decide +kernel
theorem d_Mo_store_28 : decode b_Mo_store 28 = .ok (.aload_n 0, 1) := by decide +kernel
theorem d_Mo_store_29 : decode b_Mo_store 29 = .ok (.iconst 1, 1) := by decide +kernel
theorem d_Mo_store_30 : decode b_Mo_store 30 = .ok (.iload_n 2, 1) := by decide +kernel
theorem d_Mo_store_31 : decode b_Mo_store 31 = .ok (.iconst 4, 1) := by decide +kernel
theorem d_Mo_store_32 : decode b_Mo_store 32 = .ok (.idiv, 1) := by decide +kernel
theorem d_Mo_store_33 : decode b_Mo_store 33 = .ok (.invokevirtual 141, 3) := by decide +kernel
theorem d_Mo_store_36 : decode b_Mo_store 36 = .ok (.ifCond .eq 74, 3) := by decide +kernel
theorem d_Mo_store_79 : decode b_Mo_store 79 = .ok (.aload_n 0, 1) := by decide +kernel
theorem d_Mo_store_80 : decode b_Mo_store 80 = .ok (.getfield 77, 3) := by decide +kernel
theorem d_Mo_store_5 : decode b_Mo_store 5 = .ok (.aload_n 0, 1) := by decide +kernel
theorem d_Mo_store_6 : decode b_Mo_store 6 = .ok (.invokevirtual 121, 3) := by decide +kernel
theorem d_Mo_store_9 : decode b_Mo_store 9 = .ok (.goto 101, 3) := by decide +kernel
theorem d_Mo_reckoned_0 : decode b_Mo_reckoned 0 = .ok (.iload_n 1, 1) := by decide +kernel
theorem d_Mo_reckoned_1 : decode b_Mo_reckoned 1 = .ok (.tableswitch 99 0 6 #[43, 47, 54, 69, 84, 88, 95], 43) := by decide +kernel
theorem d_Mo_reckoned_44 : decode b_Mo_reckoned 44 = .ok (.iload_n 2, 1) := by decide +kernel
theorem d_Mo_reckoned_45 : decode b_Mo_reckoned 45 = .ok (.iload_n 3, 1) := by decide +kernel
theorem d_Mo_reckoned_46 : decode b_Mo_reckoned 46 = .ok (.iadd, 1) := by decide +kernel
theorem d_Mo_reckoned_47 : decode b_Mo_reckoned 47 = .ok (.ireturn, 1) := by decide +kernel
theorem d_Mo_reckoned_48 : decode b_Mo_reckoned 48 = .ok (.iload_n 2, 1) := by decide +kernel
theorem d_Mo_reckoned_49 : decode b_Mo_reckoned 49 = .ok (.iload_n 3, 1) := by decide +kernel
theorem d_Mo_reckoned_50 : decode b_Mo_reckoned 50 = .ok (.bipush 31, 2) := by decide +kernel
theorem d_Mo_reckoned_52 : decode b_Mo_reckoned 52 = .ok (.iand, 1) := by decide +kernel
theorem d_Mo_reckoned_53 : decode b_Mo_reckoned 53 = .ok (.ishl, 1) := by decide +kernel
theorem d_Mo_reckoned_54 : decode b_Mo_reckoned 54 = .ok (.ireturn, 1) := by decide +kernel
theorem d_Mo_reckoned_55 : decode b_Mo_reckoned 55 = .ok (.iload_n 2, 1) := by decide +kernel
theorem d_Mo_reckoned_56 : decode b_Mo_reckoned 56 = .ok (.iload_n 3, 1) := by decide +kernel
theorem d_Mo_reckoned_57 : decode b_Mo_reckoned 57 = .ok (.iconst 1, 1) := by decide +kernel
theorem d_Mo_reckoned_58 : decode b_Mo_reckoned 58 = .ok (.invokestatic 117, 3) := by decide +kernel
theorem d_Mo_reckoned_61 : decode b_Mo_reckoned 61 = .ok (.ifCond .eq 7, 3) := by decide +kernel
theorem d_Mo_reckoned_68 : decode b_Mo_reckoned 68 = .ok (.iconst 0, 1) := by decide +kernel
theorem d_Mo_reckoned_69 : decode b_Mo_reckoned 69 = .ok (.ireturn, 1) := by decide +kernel
theorem d_Mo_reckoned_64 : decode b_Mo_reckoned 64 = .ok (.iconst 1, 1) := by decide +kernel
theorem d_Mo_reckoned_65 : decode b_Mo_reckoned 65 = .ok (.goto 4, 3) := by decide +kernel
theorem d_Mo_reckoned_70 : decode b_Mo_reckoned 70 = .ok (.iload_n 2, 1) := by decide +kernel
theorem d_Mo_reckoned_71 : decode b_Mo_reckoned 71 = .ok (.iload_n 3, 1) := by decide +kernel
theorem d_Mo_reckoned_72 : decode b_Mo_reckoned 72 = .ok (.iconst 0, 1) := by decide +kernel
theorem d_Mo_reckoned_73 : decode b_Mo_reckoned 73 = .ok (.invokestatic 117, 3) := by decide +kernel
theorem d_Mo_reckoned_76 : decode b_Mo_reckoned 76 = .ok (.ifCond .eq 7, 3) := by decide +kernel
theorem d_Mo_reckoned_83 : decode b_Mo_reckoned 83 = .ok (.iconst 0, 1) := by decide +kernel
theorem d_Mo_reckoned_84 : decode b_Mo_reckoned 84 = .ok (.ireturn, 1) := by decide +kernel
theorem d_Mo_reckoned_79 : decode b_Mo_reckoned 79 = .ok (.iconst 1, 1) := by decide +kernel
theorem d_Mo_reckoned_80 : decode b_Mo_reckoned 80 = .ok (.goto 4, 3) := by decide +kernel
theorem d_Mo_reckoned_85 : decode b_Mo_reckoned 85 = .ok (.iload_n 2, 1) := by decide +kernel
theorem d_Mo_reckoned_86 : decode b_Mo_reckoned 86 = .ok (.iload_n 3, 1) := by decide +kernel
theorem d_Mo_reckoned_87 : decode b_Mo_reckoned 87 = .ok (.ixor, 1) := by decide +kernel
theorem d_Mo_reckoned_88 : decode b_Mo_reckoned 88 = .ok (.ireturn, 1) := by decide +kernel
theorem d_Mo_reckoned_89 : decode b_Mo_reckoned 89 = .ok (.iload_n 2, 1) := by decide +kernel
theorem d_Mo_reckoned_90 : decode b_Mo_reckoned 90 = .ok (.iload_n 3, 1) := by decide +kernel
theorem d_Mo_reckoned_91 : decode b_Mo_reckoned 91 = .ok (.bipush 31, 2) := by decide +kernel
theorem d_Mo_reckoned_93 : decode b_Mo_reckoned 93 = .ok (.iand, 1) := by decide +kernel
theorem d_Mo_reckoned_94 : decode b_Mo_reckoned 94 = .ok (.iushr, 1) := by decide +kernel
theorem d_Mo_reckoned_95 : decode b_Mo_reckoned 95 = .ok (.ireturn, 1) := by decide +kernel
theorem d_Mo_reckoned_96 : decode b_Mo_reckoned 96 = .ok (.iload_n 2, 1) := by decide +kernel
theorem d_Mo_reckoned_97 : decode b_Mo_reckoned 97 = .ok (.iload_n 3, 1) := by decide +kernel
theorem d_Mo_reckoned_98 : decode b_Mo_reckoned 98 = .ok (.ior, 1) := by decide +kernel
theorem d_Mo_reckoned_99 : decode b_Mo_reckoned 99 = .ok (.ireturn, 1) := by decide +kernel
theorem d_Mo_reckoned_100 : decode b_Mo_reckoned 100 = .ok (.iload_n 2, 1) := by decide +kernel
theorem d_Mo_reckoned_101 : decode b_Mo_reckoned 101 = .ok (.iload_n 3, 1) := by decide +kernel
theorem d_Mo_reckoned_102 : decode b_Mo_reckoned 102 = .ok (.iand, 1) := by decide +kernel
theorem d_Mo_reckoned_103 : decode b_Mo_reckoned 103 = .ok (.ireturn, 1) := by decide +kernel
theorem d_Mo_reckon_0 : decode b_Mo_reckon 0 = .ok (.iload_n 2, 1) := by decide +kernel
theorem d_Mo_reckon_1 : decode b_Mo_reckon 1 = .ok (.ifCond .eq 18, 3) := by decide +kernel
end
section
theorem d_Mo_reckon_19 : decode b_Mo_reckon 19 = .ok (.iconst 1, 1) := by decide +kernel
theorem d_Mo_reckon_20 : decode b_Mo_reckon 20 = .ok (.goto 4, 3) := by decide +kernel
theorem d_Mo_reckon_24 : decode b_Mo_reckon 24 = .ok (.istore 6, 2) := by decide +kernel
theorem d_Mo_reckon_26 : decode b_Mo_reckon 26 = .ok (.iload 6, 2) := by decide +kernel
theorem d_Mo_reckon_28 : decode b_Mo_reckon 28 = .ok (.ifCond .eq 18, 3) := by decide +kernel
theorem d_Mo_reckon_31 : decode b_Mo_reckon 31 = .ok (.aload_n 0, 1) := by decide +kernel
theorem d_Mo_reckon_32 : decode b_Mo_reckon 32 = .ok (.aload_n 0, 1) := by decide +kernel
theorem d_Mo_reckon_33 : decode b_Mo_reckon 33 = .ok (.iload_n 1, 1) := by decide +kernel
theorem d_Mo_reckon_34 : decode b_Mo_reckon 34 = .ok (.iload_n 3, 1) := by decide +kernel
theorem d_Mo_reckon_35 : decode b_Mo_reckon 35 = .ok (.iload 4, 2) := by decide +kernel
theorem d_Mo_reckon_37 : decode b_Mo_reckon 37 = .ok (.invokevirtual 151, 3) := by decide +kernel
theorem d_Mo_reckon_40 : decode b_Mo_reckon 40 = .ok (.invokevirtual 144, 3) := by decide +kernel
theorem d_Mo_reckon_43 : decode b_Mo_reckon 43 = .ok (.goto 53, 3) := by decide +kernel
theorem d_Mo_reckon_96 : decode b_Mo_reckon 96 = .ok (.return_, 1) := by decide +kernel
theorem d_Mo_reckon_4 : decode b_Mo_reckon 4 = .ok (.iload 5, 2) := by decide +kernel
theorem d_Mo_reckon_6 : decode b_Mo_reckon 6 = .ok (.ifCond .eq 17, 3) := by decide +kernel
theorem d_Mo_reckon_23 : decode b_Mo_reckon 23 = .ok (.iconst 0, 1) := by decide +kernel
theorem d_Mo_reckon_46 : decode b_Mo_reckon 46 = .ok (.iload_n 2, 1) := by decide +kernel
theorem d_Mo_reckon_47 : decode b_Mo_reckon 47 = .ok (.bipush 32, 2) := by decide +kernel
theorem d_Mo_reckon_49 : decode b_Mo_reckon 49 = .ok (.if_icmp .ne 22, 3) := by decide +kernel
theorem d_Mo_reckon_71 : decode b_Mo_reckon 71 = .ok (.iload_n 2, 1) := by decide +kernel
theorem d_Mo_reckon_72 : decode b_Mo_reckon 72 = .ok (.bipush 32, 2) := by decide +kernel
theorem d_Mo_reckon_74 : decode b_Mo_reckon 74 = .ok (.if_icmp .ne 18, 3) := by decide +kernel
theorem d_Mo_reckon_92 : decode b_Mo_reckon 92 = .ok (.aload_n 0, 1) := by decide +kernel
theorem d_Mo_reckon_93 : decode b_Mo_reckon 93 = .ok (.invokevirtual 121, 3) := by decide +kernel
theorem d_Mo_reckon_52 : decode b_Mo_reckon 52 = .ok (.iload_n 1, 1) := by decide +kernel
theorem d_Mo_reckon_53 : decode b_Mo_reckon 53 = .ok (.iconst 5, 1) := by decide +kernel
theorem d_Mo_reckon_54 : decode b_Mo_reckon 54 = .ok (.if_icmp .ne 17, 3) := by decide +kernel
theorem d_Mo_reckon_77 : decode b_Mo_reckon 77 = .ok (.iload_n 1, 1) := by decide +kernel
theorem d_Mo_reckon_78 : decode b_Mo_reckon 78 = .ok (.ifCond .ne 14, 3) := by decide +kernel
theorem d_Mo_reckon_81 : decode b_Mo_reckon 81 = .ok (.aload_n 0, 1) := by decide +kernel
theorem d_Mo_reckon_82 : decode b_Mo_reckon 82 = .ok (.iload_n 3, 1) := by decide +kernel
theorem d_Mo_reckon_83 : decode b_Mo_reckon 83 = .ok (.iload 4, 2) := by decide +kernel
theorem d_Mo_reckon_85 : decode b_Mo_reckon 85 = .ok (.isub, 1) := by decide +kernel
theorem d_Mo_reckon_86 : decode b_Mo_reckon 86 = .ok (.invokevirtual 144, 3) := by decide +kernel
theorem d_Mo_reckon_89 : decode b_Mo_reckon 89 = .ok (.goto 7, 3) := by decide +kernel
theorem d_Mo_reckon_57 : decode b_Mo_reckon 57 = .ok (.aload_n 0, 1) := by decide +kernel
theorem d_Mo_reckon_58 : decode b_Mo_reckon 58 = .ok (.iload_n 3, 1) := by decide +kernel
theorem d_Mo_reckon_59 : decode b_Mo_reckon 59 = .ok (.iload 4, 2) := by decide +kernel
theorem d_Mo_reckon_61 : decode b_Mo_reckon 61 = .ok (.bipush 31, 2) := by decide +kernel
theorem d_Mo_reckon_63 : decode b_Mo_reckon 63 = .ok (.iand, 1) := by decide +kernel
theorem d_Mo_reckon_64 : decode b_Mo_reckon 64 = .ok (.ishr, 1) := by decide +kernel
theorem d_Mo_reckon_65 : decode b_Mo_reckon 65 = .ok (.invokevirtual 144, 3) := by decide +kernel
theorem d_Mo_reckon_68 : decode b_Mo_reckon 68 = .ok (.goto 28, 3) := by decide +kernel
theorem d_Mo_reckon_9 : decode b_Mo_reckon 9 = .ok (.iload_n 1, 1) := by decide +kernel
theorem d_Mo_reckon_10 : decode b_Mo_reckon 10 = .ok (.iconst 1, 1) := by decide +kernel
theorem d_Mo_reckon_11 : decode b_Mo_reckon 11 = .ok (.if_icmp .eq 12, 3) := by decide +kernel
theorem d_Mo_reckon_14 : decode b_Mo_reckon 14 = .ok (.iload_n 1, 1) := by decide +kernel
theorem d_Mo_reckon_15 : decode b_Mo_reckon 15 = .ok (.iconst 5, 1) := by decide +kernel
theorem d_Mo_reckon_16 : decode b_Mo_reckon 16 = .ok (.if_icmp .eq 7, 3) := by decide +kernel
theorem d_Mo_jump_0 : decode b_Mo_jump 0 = .ok (.iload_n 1, 1) := by decide +kernel
theorem d_Mo_jump_1 : decode b_Mo_jump 1 = .ok (.ifCond .eq 10, 3) := by decide +kernel
theorem d_Mo_jump_11 : decode b_Mo_jump 11 = .ok (.aload_n 0, 1) := by decide +kernel
theorem d_Mo_jump_12 : decode b_Mo_jump 12 = .ok (.aload_n 0, 1) := by decide +kernel
theorem d_Mo_jump_13 : decode b_Mo_jump 13 = .ok (.getfield 124, 3) := by decide +kernel
theorem d_Mo_jump_16 : decode b_Mo_jump 16 = .ok (.iconst 4, 1) := by decide +kernel
theorem d_Mo_jump_17 : decode b_Mo_jump 17 = .ok (.iadd, 1) := by decide +kernel
theorem d_Mo_jump_18 : decode b_Mo_jump 18 = .ok (.invokevirtual 144, 3) := by decide +kernel
theorem d_Mo_jump_21 : decode b_Mo_jump 21 = .ok (.aload_n 0, 1) := by decide +kernel
theorem d_Mo_jump_22 : decode b_Mo_jump 22 = .ok (.iload_n 2, 1) := by decide +kernel
theorem d_Mo_jump_23 : decode b_Mo_jump 23 = .ok (.invokevirtual 131, 3) := by decide +kernel
theorem d_Mo_jump_26 : decode b_Mo_jump 26 = .ok (.return_, 1) := by decide +kernel
theorem d_Mo_jump_4 : decode b_Mo_jump 4 = .ok (.aload_n 0, 1) := by decide +kernel
theorem d_Mo_jump_5 : decode b_Mo_jump 5 = .ok (.invokevirtual 121, 3) := by decide +kernel
theorem d_Mo_jump_8 : decode b_Mo_jump 8 = .ok (.goto 18, 3) := by decide +kernel
theorem d_Mo_rest_0 : decode b_Mo_rest 0 = .ok (.aload_n 0, 1) := by decide +kernel
theorem d_Mo_rest_1 : decode b_Mo_rest 1 = .ok (.getfield 100, 3) := by decide +kernel
theorem d_Mo_rest_4 : decode b_Mo_rest 4 = .ok (.bipush 115, 2) := by decide +kernel
theorem d_Mo_rest_6 : decode b_Mo_rest 6 = .ok (.if_icmp .ne 12, 3) := by decide +kernel
theorem d_Mo_rest_18 : decode b_Mo_rest 18 = .ok (.aload_n 0, 1) := by decide +kernel
theorem d_Mo_rest_19 : decode b_Mo_rest 19 = .ok (.getfield 100, 3) := by decide +kernel
theorem d_Mo_rest_22 : decode b_Mo_rest 22 = .ok (.ldc 183, 2) := by decide +kernel
theorem d_Mo_rest_24 : decode b_Mo_rest 24 = .ok (.if_icmp .ne 12, 3) := by decide +kernel
theorem d_Mo_rest_36 : decode b_Mo_rest 36 = .ok (.aload_n 0, 1) := by decide +kernel
theorem d_Mo_rest_37 : decode b_Mo_rest 37 = .ok (.iconst 0, 1) := by decide +kernel
theorem d_Mo_rest_38 : decode b_Mo_rest 38 = .ok (.bipush 7, 2) := by decide +kernel
theorem d_Mo_rest_40 : decode b_Mo_rest 40 = .ok (.invokevirtual 103, 3) := by decide +kernel
theorem d_Mo_rest_43 : decode b_Mo_rest 43 = .ok (.bipush 15, 2) := by decide +kernel
theorem d_Mo_rest_45 : decode b_Mo_rest 45 = .ok (.if_icmp .ne 7, 3) := by decide +kernel
theorem d_Mo_rest_52 : decode b_Mo_rest 52 = .ok (.aload_n 0, 1) := by decide +kernel
theorem d_Mo_rest_53 : decode b_Mo_rest 53 = .ok (.invokevirtual 121, 3) := by decide +kernel
theorem d_Mo_rest_56 : decode b_Mo_rest 56 = .ok (.return_, 1) := by decide +kernel
theorem d_Mo_rest_48 : decode b_Mo_rest 48 = .ok (.iload_n 1, 1) := by decide +kernel
theorem d_Mo_rest_49 : decode b_Mo_rest 49 = .ok (.ifCond .eq 7, 3) := by decide +kernel
theorem d_Mo_rest_27 : decode b_Mo_rest 27 = .ok (.aload_n 0, 1) := by decide +kernel
theorem d_Mo_rest_28 : decode b_Mo_rest 28 = .ok (.iconst 4, 1) := by decide +kernel
theorem d_Mo_rest_29 : decode b_Mo_rest 29 = .ok (.iconst 0, 1) := by decide +kernel
theorem d_Mo_rest_30 : decode b_Mo_rest 30 = .ok (.invokevirtual 66, 3) := by decide +kernel
theorem d_Mo_rest_33 : decode b_Mo_rest 33 = .ok (.goto 23, 3) := by decide +kernel
theorem d_Mo_rest_9 : decode b_Mo_rest 9 = .ok (.aload_n 0, 1) := by decide +kernel
theorem d_Mo_rest_10 : decode b_Mo_rest 10 = .ok (.iconst 3, 1) := by decide +kernel
theorem d_Mo_rest_11 : decode b_Mo_rest 11 = .ok (.iconst 0, 1) := by decide +kernel
theorem d_Mo_rest_12 : decode b_Mo_rest 12 = .ok (.invokevirtual 66, 3) := by decide +kernel
theorem d_Mo_rest_15 : decode b_Mo_rest 15 = .ok (.goto 41, 3) := by decide +kernel
theorem d_Mo_execute_0 : decode b_Mo_execute 0 = .ok (.aload_n 0, 1) := by decide +kernel
theorem d_Mo_execute_1 : decode b_Mo_execute 1 = .ok (.bipush 12, 2) := by decide +kernel
theorem d_Mo_execute_3 : decode b_Mo_execute 3 = .ok (.iconst 3, 1) := by decide +kernel
theorem d_Mo_execute_4 : decode b_Mo_execute 4 = .ok (.invokevirtual 103, 3) := by decide +kernel
theorem d_Mo_execute_7 : decode b_Mo_execute 7 = .ok (.istore_n 1, 1) := by decide +kernel
theorem d_Mo_execute_8 : decode b_Mo_execute 8 = .ok (.aload_n 0, 1) := by decide +kernel
theorem d_Mo_execute_9 : decode b_Mo_execute 9 = .ok (.aload_n 0, 1) := by decide +kernel
theorem d_Mo_execute_10 : decode b_Mo_execute 10 = .ok (.bipush 15, 2) := by decide +kernel
theorem d_Mo_execute_12 : decode b_Mo_execute 12 = .ok (.iconst 5, 1) := by decide +kernel
theorem d_Mo_execute_13 : decode b_Mo_execute 13 = .ok (.invokevirtual 103, 3) := by decide +kernel
theorem d_Mo_execute_16 : decode b_Mo_execute 16 = .ok (.invokevirtual 154, 3) := by decide +kernel
theorem d_Mo_execute_19 : decode b_Mo_execute 19 = .ok (.istore_n 2, 1) := by decide +kernel
theorem d_Mo_execute_20 : decode b_Mo_execute 20 = .ok (.aload_n 0, 1) := by decide +kernel
theorem d_Mo_execute_21 : decode b_Mo_execute 21 = .ok (.aload_n 0, 1) := by decide +kernel
theorem d_Mo_execute_22 : decode b_Mo_execute 22 = .ok (.bipush 20, 2) := by decide +kernel
theorem d_Mo_execute_24 : decode b_Mo_execute 24 = .ok (.iconst 5, 1) := by decide +kernel
theorem d_Mo_execute_25 : decode b_Mo_execute 25 = .ok (.invokevirtual 103, 3) := by decide +kernel
theorem d_Mo_execute_28 : decode b_Mo_execute 28 = .ok (.invokevirtual 154, 3) := by decide +kernel
theorem d_Mo_execute_31 : decode b_Mo_execute 31 = .ok (.istore_n 3, 1) := by decide +kernel
theorem d_Mo_execute_32 : decode b_Mo_execute 32 = .ok (.aload_n 0, 1) := by decide +kernel
theorem d_Mo_execute_33 : decode b_Mo_execute 33 = .ok (.getfield 100, 3) := by decide +kernel
theorem d_Mo_execute_36 : decode b_Mo_execute 36 = .ok (.bipush 20, 2) := by decide +kernel
theorem d_Mo_execute_38 : decode b_Mo_execute 38 = .ok (.ishr, 1) := by decide +kernel
theorem d_Mo_execute_39 : decode b_Mo_execute 39 = .ok (.istore 4, 2) := by decide +kernel
theorem d_Mo_execute_41 : decode b_Mo_execute 41 = .ok (.aload_n 0, 1) := by decide +kernel
theorem d_Mo_execute_42 : decode b_Mo_execute 42 = .ok (.iconst 0, 1) := by decide +kernel
theorem d_Mo_execute_43 : decode b_Mo_execute 43 = .ok (.bipush 7, 2) := by decide +kernel
theorem d_Mo_execute_45 : decode b_Mo_execute 45 = .ok (.invokevirtual 103, 3) := by decide +kernel
theorem d_Mo_execute_48 : decode b_Mo_execute 48 = .ok (.lookupswitch 256 #[(3, 170), (19, 197), (23, 99), (35, 182), (51, 237), (55, 84), (99, 160), (103, 145), (111, 119)], 84) := by decide +kernel
theorem d_Mo_execute_218 : decode b_Mo_execute 218 = .ok (.aload_n 0, 1) := by decide +kernel
theorem d_Mo_execute_219 : decode b_Mo_execute 219 = .ok (.iload_n 1, 1) := by decide +kernel
theorem d_Mo_execute_220 : decode b_Mo_execute 220 = .ok (.iload_n 2, 1) := by decide +kernel
theorem d_Mo_execute_221 : decode b_Mo_execute 221 = .ok (.iload 4, 2) := by decide +kernel
theorem d_Mo_execute_223 : decode b_Mo_execute 223 = .ok (.iadd, 1) := by decide +kernel
theorem d_Mo_execute_224 : decode b_Mo_execute 224 = .ok (.invokevirtual 167, 3) := by decide +kernel
theorem d_Mo_execute_227 : decode b_Mo_execute 227 = .ok (.goto 82, 3) := by decide +kernel
theorem d_Mo_execute_309 : decode b_Mo_execute 309 = .ok (.return_, 1) := by decide +kernel
theorem d_Mo_execute_245 : decode b_Mo_execute 245 = .ok (.aload_n 0, 1) := by decide +kernel
theorem d_Mo_execute_246 : decode b_Mo_execute 246 = .ok (.iload_n 1, 1) := by decide +kernel
theorem d_Mo_execute_247 : decode b_Mo_execute 247 = .ok (.aload_n 0, 1) := by decide +kernel
theorem d_Mo_execute_248 : decode b_Mo_execute 248 = .ok (.bipush 25, 2) := by decide +kernel
theorem d_Mo_execute_250 : decode b_Mo_execute 250 = .ok (.bipush 7, 2) := by decide +kernel
theorem d_Mo_execute_252 : decode b_Mo_execute 252 = .ok (.invokevirtual 103, 3) := by decide +kernel
theorem d_Mo_execute_255 : decode b_Mo_execute 255 = .ok (.iload_n 2, 1) := by decide +kernel
theorem d_Mo_execute_256 : decode b_Mo_execute 256 = .ok (.iload_n 1, 1) := by decide +kernel
theorem d_Mo_execute_257 : decode b_Mo_execute 257 = .ok (.iconst 1, 1) := by decide +kernel
theorem d_Mo_execute_258 : decode b_Mo_execute 258 = .ok (.if_icmp .eq 8, 3) := by decide +kernel
theorem d_Mo_execute_266 : decode b_Mo_execute 266 = .ok (.aload_n 0, 1) := by decide +kernel
theorem d_Mo_execute_267 : decode b_Mo_execute 267 = .ok (.bipush 20, 2) := by decide +kernel
theorem d_Mo_execute_269 : decode b_Mo_execute 269 = .ok (.iconst 5, 1) := by decide +kernel
theorem d_Mo_execute_270 : decode b_Mo_execute 270 = .ok (.invokevirtual 103, 3) := by decide +kernel
theorem d_Mo_execute_273 : decode b_Mo_execute 273 = .ok (.goto 5, 3) := by decide +kernel
theorem d_Mo_execute_278 : decode b_Mo_execute 278 = .ok (.iconst 1, 1) := by decide +kernel
theorem d_Mo_execute_279 : decode b_Mo_execute 279 = .ok (.invokevirtual 176, 3) := by decide +kernel
theorem d_Mo_execute_282 : decode b_Mo_execute 282 = .ok (.goto 27, 3) := by decide +kernel
theorem d_Mo_execute_261 : decode b_Mo_execute 261 = .ok (.iload_n 1, 1) := by decide +kernel
theorem d_Mo_execute_262 : decode b_Mo_execute 262 = .ok (.iconst 5, 1) := by decide +kernel
theorem d_Mo_execute_263 : decode b_Mo_execute 263 = .ok (.if_icmp .ne 13, 3) := by decide +kernel
theorem d_Mo_execute_276 : decode b_Mo_execute 276 = .ok (.iload 4, 2) := by decide +kernel
theorem d_Mo_execute_147 : decode b_Mo_execute 147 = .ok (.aload_n 0, 1) := by decide +kernel
theorem d_Mo_execute_148 : decode b_Mo_execute 148 = .ok (.aload_n 0, 1) := by decide +kernel
theorem d_Mo_execute_149 : decode b_Mo_execute 149 = .ok (.getfield 124, 3) := by decide +kernel
theorem d_Mo_execute_152 : decode b_Mo_execute 152 = .ok (.aload_n 0, 1) := by decide +kernel
theorem d_Mo_execute_153 : decode b_Mo_execute 153 = .ok (.getfield 100, 3) := by decide +kernel
theorem d_Mo_execute_156 : decode b_Mo_execute 156 = .ok (.sipush (-4096), 3) := by decide +kernel
theorem d_Mo_execute_159 : decode b_Mo_execute 159 = .ok (.iand, 1) := by decide +kernel
theorem d_Mo_execute_160 : decode b_Mo_execute 160 = .ok (.iadd, 1) := by decide +kernel
theorem d_Mo_execute_161 : decode b_Mo_execute 161 = .ok (.invokevirtual 144, 3) := by decide +kernel
theorem d_Mo_execute_164 : decode b_Mo_execute 164 = .ok (.goto 145, 3) := by decide +kernel
theorem d_Mo_execute_230 : decode b_Mo_execute 230 = .ok (.aload_n 0, 1) := by decide +kernel
theorem d_Mo_execute_231 : decode b_Mo_execute 231 = .ok (.iload_n 1, 1) := by decide +kernel
theorem d_Mo_execute_232 : decode b_Mo_execute 232 = .ok (.iload_n 2, 1) := by decide +kernel
theorem d_Mo_execute_233 : decode b_Mo_execute 233 = .ok (.aload_n 0, 1) := by decide +kernel
theorem d_Mo_execute_234 : decode b_Mo_execute 234 = .ok (.invokevirtual 170, 3) := by decide +kernel
theorem d_Mo_execute_237 : decode b_Mo_execute 237 = .ok (.iadd, 1) := by decide +kernel
theorem d_Mo_execute_238 : decode b_Mo_execute 238 = .ok (.iload_n 3, 1) := by decide +kernel
theorem d_Mo_execute_239 : decode b_Mo_execute 239 = .ok (.invokevirtual 173, 3) := by decide +kernel
theorem d_Mo_execute_242 : decode b_Mo_execute 242 = .ok (.goto 67, 3) := by decide +kernel
theorem d_Mo_execute_285 : decode b_Mo_execute 285 = .ok (.aload_n 0, 1) := by decide +kernel
theorem d_Mo_execute_286 : decode b_Mo_execute 286 = .ok (.iload_n 1, 1) := by decide +kernel
theorem d_Mo_execute_287 : decode b_Mo_execute 287 = .ok (.aload_n 0, 1) := by decide +kernel
theorem d_Mo_execute_288 : decode b_Mo_execute 288 = .ok (.bipush 25, 2) := by decide +kernel
theorem d_Mo_execute_290 : decode b_Mo_execute 290 = .ok (.bipush 7, 2) := by decide +kernel
theorem d_Mo_execute_292 : decode b_Mo_execute 292 = .ok (.invokevirtual 103, 3) := by decide +kernel
theorem d_Mo_execute_295 : decode b_Mo_execute 295 = .ok (.iload_n 2, 1) := by decide +kernel
theorem d_Mo_execute_296 : decode b_Mo_execute 296 = .ok (.iload_n 3, 1) := by decide +kernel
theorem d_Mo_execute_297 : decode b_Mo_execute 297 = .ok (.iconst 0, 1) := by decide +kernel
theorem d_Mo_execute_298 : decode b_Mo_execute 298 = .ok (.invokevirtual 176, 3) := by decide +kernel
theorem d_Mo_execute_301 : decode b_Mo_execute 301 = .ok (.goto 8, 3) := by decide +kernel
theorem d_Mo_execute_132 : decode b_Mo_execute 132 = .ok (.aload_n 0, 1) := by decide +kernel
theorem d_Mo_execute_133 : decode b_Mo_execute 133 = .ok (.aload_n 0, 1) := by decide +kernel
theorem d_Mo_execute_134 : decode b_Mo_execute 134 = .ok (.getfield 100, 3) := by decide +kernel
theorem d_Mo_execute_137 : decode b_Mo_execute 137 = .ok (.sipush (-4096), 3) := by decide +kernel
theorem d_Mo_execute_140 : decode b_Mo_execute 140 = .ok (.iand, 1) := by decide +kernel
theorem d_Mo_execute_141 : decode b_Mo_execute 141 = .ok (.invokevirtual 144, 3) := by decide +kernel
theorem d_Mo_execute_144 : decode b_Mo_execute 144 = .ok (.goto 165, 3) := by decide +kernel
theorem d_Mo_execute_208 : decode b_Mo_execute 208 = .ok (.aload_n 0, 1) := by decide +kernel
theorem d_Mo_execute_209 : decode b_Mo_execute 209 = .ok (.iload_n 1, 1) := by decide +kernel
theorem d_Mo_execute_210 : decode b_Mo_execute 210 = .ok (.iload_n 2, 1) := by decide +kernel
theorem d_Mo_execute_211 : decode b_Mo_execute 211 = .ok (.iload_n 3, 1) := by decide +kernel
theorem d_Mo_execute_212 : decode b_Mo_execute 212 = .ok (.invokevirtual 163, 3) := by decide +kernel
theorem d_Mo_execute_215 : decode b_Mo_execute 215 = .ok (.goto 94, 3) := by decide +kernel
theorem d_Mo_execute_193 : decode b_Mo_execute 193 = .ok (.aload_n 0, 1) := by decide +kernel
theorem d_Mo_execute_194 : decode b_Mo_execute 194 = .ok (.iload_n 1, 1) := by decide +kernel
theorem d_Mo_execute_195 : decode b_Mo_execute 195 = .ok (.iload_n 2, 1) := by decide +kernel
theorem d_Mo_execute_196 : decode b_Mo_execute 196 = .ok (.iload 4, 2) := by decide +kernel
theorem d_Mo_execute_198 : decode b_Mo_execute 198 = .ok (.iadd, 1) := by decide +kernel
theorem d_Mo_execute_199 : decode b_Mo_execute 199 = .ok (.bipush (-2), 2) := by decide +kernel
theorem d_Mo_execute_201 : decode b_Mo_execute 201 = .ok (.iand, 1) := by decide +kernel
theorem d_Mo_execute_202 : decode b_Mo_execute 202 = .ok (.invokevirtual 160, 3) := by decide +kernel
theorem d_Mo_execute_205 : decode b_Mo_execute 205 = .ok (.goto 104, 3) := by decide +kernel
theorem d_Mo_execute_167 : decode b_Mo_execute 167 = .ok (.aload_n 0, 1) := by decide +kernel
theorem d_Mo_execute_168 : decode b_Mo_execute 168 = .ok (.aload_n 0, 1) := by decide +kernel
theorem d_Mo_execute_169 : decode b_Mo_execute 169 = .ok (.getfield 124, 3) := by decide +kernel
theorem d_Mo_execute_172 : decode b_Mo_execute 172 = .ok (.iconst 4, 1) := by decide +kernel
theorem d_Mo_execute_173 : decode b_Mo_execute 173 = .ok (.iadd, 1) := by decide +kernel
theorem d_Mo_execute_174 : decode b_Mo_execute 174 = .ok (.invokevirtual 144, 3) := by decide +kernel
theorem d_Mo_execute_177 : decode b_Mo_execute 177 = .ok (.aload_n 0, 1) := by decide +kernel
theorem d_Mo_execute_178 : decode b_Mo_execute 178 = .ok (.aload_n 0, 1) := by decide +kernel
theorem d_Mo_execute_179 : decode b_Mo_execute 179 = .ok (.getfield 124, 3) := by decide +kernel
theorem d_Mo_execute_182 : decode b_Mo_execute 182 = .ok (.aload_n 0, 1) := by decide +kernel
theorem d_Mo_execute_183 : decode b_Mo_execute 183 = .ok (.invokevirtual 157, 3) := by decide +kernel
theorem d_Mo_execute_186 : decode b_Mo_execute 186 = .ok (.iadd, 1) := by decide +kernel
theorem d_Mo_execute_187 : decode b_Mo_execute 187 = .ok (.invokevirtual 131, 3) := by decide +kernel
theorem d_Mo_execute_190 : decode b_Mo_execute 190 = .ok (.goto 119, 3) := by decide +kernel
theorem d_Mo_execute_304 : decode b_Mo_execute 304 = .ok (.aload_n 0, 1) := by decide +kernel
theorem d_Mo_execute_305 : decode b_Mo_execute 305 = .ok (.iload_n 1, 1) := by decide +kernel
theorem d_Mo_execute_306 : decode b_Mo_execute 306 = .ok (.invokevirtual 180, 3) := by decide +kernel
theorem d_Mo_change_0 : decode b_Mo_change 0 = .ok (.iload_n 1, 1) := by decide +kernel
theorem d_Mo_change_1 : decode b_Mo_change 1 = .ok (.bipush 64, 2) := by decide +kernel
theorem d_Mo_change_3 : decode b_Mo_change 3 = .ok (.if_icmp .ge 22, 3) := by decide +kernel
theorem d_Mo_change_25 : decode b_Mo_change 25 = .ok (.iload_n 1, 1) := by decide +kernel
theorem d_Mo_change_26 : decode b_Mo_change 26 = .ok (.sipush 160, 3) := by decide +kernel
theorem d_Mo_change_29 : decode b_Mo_change 29 = .ok (.if_icmp .ge 28, 3) := by decide +kernel
theorem d_Mo_change_57 : decode b_Mo_change 57 = .ok (.aload_n 0, 1) := by decide +kernel
theorem d_Mo_change_58 : decode b_Mo_change 58 = .ok (.getfield 23, 3) := by decide +kernel
theorem d_Mo_change_61 : decode b_Mo_change 61 = .ok (.iload_n 1, 1) := by decide +kernel
theorem d_Mo_change_62 : decode b_Mo_change 62 = .ok (.sipush 160, 3) := by decide +kernel
theorem d_Mo_change_65 : decode b_Mo_change 65 = .ok (.isub, 1) := by decide +kernel
theorem d_Mo_change_66 : decode b_Mo_change 66 = .ok (.aload_n 0, 1) := by decide +kernel
theorem d_Mo_change_67 : decode b_Mo_change 67 = .ok (.getfield 23, 3) := by decide +kernel
theorem d_Mo_change_70 : decode b_Mo_change 70 = .ok (.iload_n 1, 1) := by decide +kernel
theorem d_Mo_change_71 : decode b_Mo_change 71 = .ok (.sipush 160, 3) := by decide +kernel
theorem d_Mo_change_74 : decode b_Mo_change 74 = .ok (.isub, 1) := by decide +kernel
theorem d_Mo_change_75 : decode b_Mo_change 75 = .ok (.laload, 1) := by decide +kernel
theorem d_Mo_change_76 : decode b_Mo_change 76 = .ok (.lconst 1, 1) := by decide +kernel
theorem d_Mo_change_77 : decode b_Mo_change 77 = .ok (.iload_n 2, 1) := by decide +kernel
theorem d_Mo_change_78 : decode b_Mo_change 78 = .ok (.lshl, 1) := by decide +kernel
theorem d_Mo_change_79 : decode b_Mo_change 79 = .ok (.lxor, 1) := by decide +kernel
theorem d_Mo_change_80 : decode b_Mo_change 80 = .ok (.lastore, 1) := by decide +kernel
theorem d_Mo_change_81 : decode b_Mo_change 81 = .ok (.return_, 1) := by decide +kernel
theorem d_Mo_change_32 : decode b_Mo_change 32 = .ok (.aload_n 0, 1) := by decide +kernel
theorem d_Mo_change_33 : decode b_Mo_change 33 = .ok (.getfield 20, 3) := by decide +kernel
theorem d_Mo_change_36 : decode b_Mo_change 36 = .ok (.iload_n 1, 1) := by decide +kernel
theorem d_Mo_change_37 : decode b_Mo_change 37 = .ok (.bipush 64, 2) := by decide +kernel
theorem d_Mo_change_39 : decode b_Mo_change 39 = .ok (.isub, 1) := by decide +kernel
theorem d_Mo_change_40 : decode b_Mo_change 40 = .ok (.aload_n 0, 1) := by decide +kernel
theorem d_Mo_change_41 : decode b_Mo_change 41 = .ok (.getfield 20, 3) := by decide +kernel
theorem d_Mo_change_44 : decode b_Mo_change 44 = .ok (.iload_n 1, 1) := by decide +kernel
theorem d_Mo_change_45 : decode b_Mo_change 45 = .ok (.bipush 64, 2) := by decide +kernel
theorem d_Mo_change_47 : decode b_Mo_change 47 = .ok (.isub, 1) := by decide +kernel
theorem d_Mo_change_48 : decode b_Mo_change 48 = .ok (.iaload, 1) := by decide +kernel
theorem d_Mo_change_49 : decode b_Mo_change 49 = .ok (.iconst 1, 1) := by decide +kernel
theorem d_Mo_change_50 : decode b_Mo_change 50 = .ok (.iload_n 2, 1) := by decide +kernel
theorem d_Mo_change_51 : decode b_Mo_change 51 = .ok (.ishl, 1) := by decide +kernel
theorem d_Mo_change_52 : decode b_Mo_change 52 = .ok (.ixor, 1) := by decide +kernel
theorem d_Mo_change_53 : decode b_Mo_change 53 = .ok (.iastore, 1) := by decide +kernel
theorem d_Mo_change_54 : decode b_Mo_change 54 = .ok (.goto 27, 3) := by decide +kernel
theorem d_Mo_change_6 : decode b_Mo_change 6 = .ok (.aload_n 0, 1) := by decide +kernel
theorem d_Mo_change_7 : decode b_Mo_change 7 = .ok (.getfield 13, 3) := by decide +kernel
theorem d_Mo_change_10 : decode b_Mo_change 10 = .ok (.iload_n 1, 1) := by decide +kernel
theorem d_Mo_change_11 : decode b_Mo_change 11 = .ok (.aload_n 0, 1) := by decide +kernel
theorem d_Mo_change_12 : decode b_Mo_change 12 = .ok (.getfield 13, 3) := by decide +kernel
theorem d_Mo_change_15 : decode b_Mo_change 15 = .ok (.iload_n 1, 1) := by decide +kernel
theorem d_Mo_change_16 : decode b_Mo_change 16 = .ok (.laload, 1) := by decide +kernel
theorem d_Mo_change_17 : decode b_Mo_change 17 = .ok (.lconst 1, 1) := by decide +kernel
theorem d_Mo_change_18 : decode b_Mo_change 18 = .ok (.iload_n 2, 1) := by decide +kernel
theorem d_Mo_change_19 : decode b_Mo_change 19 = .ok (.lshl, 1) := by decide +kernel
theorem d_Mo_change_20 : decode b_Mo_change 20 = .ok (.lxor, 1) := by decide +kernel
theorem d_Mo_change_21 : decode b_Mo_change 21 = .ok (.lastore, 1) := by decide +kernel
theorem d_Mo_change_22 : decode b_Mo_change 22 = .ok (.goto 59, 3) := by decide +kernel
theorem d_Mo_makeFaults_0 : decode b_Mo_makeFaults 0 = .ok (.iconst 0, 1) := by decide +kernel
theorem d_Mo_makeFaults_1 : decode b_Mo_makeFaults 1 = .ok (.istore_n 1, 1) := by decide +kernel
theorem d_Mo_makeFaults_2 : decode b_Mo_makeFaults 2 = .ok (.iconst 0, 1) := by decide +kernel
theorem d_Mo_makeFaults_3 : decode b_Mo_makeFaults 3 = .ok (.istore_n 2, 1) := by decide +kernel
theorem d_Mo_makeFaults_4 : decode b_Mo_makeFaults 4 = .ok (.iload_n 2, 1) := by decide +kernel
theorem d_Mo_makeFaults_5 : decode b_Mo_makeFaults 5 = .ok (.aload_n 0, 1) := by decide +kernel
theorem d_Mo_makeFaults_6 : decode b_Mo_makeFaults 6 = .ok (.getfield 187, 3) := by decide +kernel
theorem d_Mo_makeFaults_9 : decode b_Mo_makeFaults 9 = .ok (.if_icmp .ge 87, 3) := by decide +kernel
theorem d_Mo_makeFaults_96 : decode b_Mo_makeFaults 96 = .ok (.aload_n 0, 1) := by decide +kernel
theorem d_Mo_makeFaults_97 : decode b_Mo_makeFaults 97 = .ok (.iload_n 1, 1) := by decide +kernel
theorem d_Mo_makeFaults_98 : decode b_Mo_makeFaults 98 = .ok (.putfield 187, 3) := by decide +kernel
theorem d_Mo_makeFaults_101 : decode b_Mo_makeFaults 101 = .ok (.return_, 1) := by decide +kernel
theorem d_Mo_makeFaults_12 : decode b_Mo_makeFaults 12 = .ok (.aload_n 0, 1) := by decide +kernel
theorem d_Mo_makeFaults_13 : decode b_Mo_makeFaults 13 = .ok (.getfield 26, 3) := by decide +kernel
theorem d_Mo_makeFaults_16 : decode b_Mo_makeFaults 16 = .ok (.iconst 3, 1) := by decide +kernel
theorem d_Mo_makeFaults_17 : decode b_Mo_makeFaults 17 = .ok (.iload_n 2, 1) := by decide +kernel
theorem d_Mo_makeFaults_18 : decode b_Mo_makeFaults 18 = .ok (.imul, 1) := by decide +kernel
theorem d_Mo_makeFaults_19 : decode b_Mo_makeFaults 19 = .ok (.iaload, 1) := by decide +kernel
theorem d_Mo_makeFaults_20 : decode b_Mo_makeFaults 20 = .ok (.aload_n 0, 1) := by decide +kernel
theorem d_Mo_makeFaults_21 : decode b_Mo_makeFaults 21 = .ok (.getfield 190, 3) := by decide +kernel
theorem d_Mo_makeFaults_24 : decode b_Mo_makeFaults 24 = .ok (.if_icmp .ne 30, 3) := by decide +kernel
theorem d_Mo_makeFaults_54 : decode b_Mo_makeFaults 54 = .ok (.iconst 0, 1) := by decide +kernel
theorem d_Mo_makeFaults_55 : decode b_Mo_makeFaults 55 = .ok (.istore_n 3, 1) := by decide +kernel
theorem d_Mo_makeFaults_56 : decode b_Mo_makeFaults 56 = .ok (.iload_n 3, 1) := by decide +kernel
theorem d_Mo_makeFaults_57 : decode b_Mo_makeFaults 57 = .ok (.iconst 3, 1) := by decide +kernel
end
section
theorem d_Mo_makeFaults_58 : decode b_Mo_makeFaults 58 = .ok (.if_icmp .ge 29, 3) := by decide +kernel
theorem d_Mo_makeFaults_61 : decode b_Mo_makeFaults 61 = .ok (.aload_n 0, 1) := by decide +kernel
theorem d_Mo_makeFaults_62 : decode b_Mo_makeFaults 62 = .ok (.getfield 26, 3) := by decide +kernel
theorem d_Mo_makeFaults_65 : decode b_Mo_makeFaults 65 = .ok (.iconst 3, 1) := by decide +kernel
theorem d_Mo_makeFaults_66 : decode b_Mo_makeFaults 66 = .ok (.iload_n 1, 1) := by decide +kernel
theorem d_Mo_makeFaults_67 : decode b_Mo_makeFaults 67 = .ok (.imul, 1) := by decide +kernel
theorem d_Mo_makeFaults_68 : decode b_Mo_makeFaults 68 = .ok (.iload_n 3, 1) := by decide +kernel
theorem d_Mo_makeFaults_69 : decode b_Mo_makeFaults 69 = .ok (.iadd, 1) := by decide +kernel
theorem d_Mo_makeFaults_70 : decode b_Mo_makeFaults 70 = .ok (.aload_n 0, 1) := by decide +kernel
theorem d_Mo_makeFaults_71 : decode b_Mo_makeFaults 71 = .ok (.getfield 26, 3) := by decide +kernel
theorem d_Mo_makeFaults_74 : decode b_Mo_makeFaults 74 = .ok (.iconst 3, 1) := by decide +kernel
theorem d_Mo_makeFaults_75 : decode b_Mo_makeFaults 75 = .ok (.iload_n 2, 1) := by decide +kernel
theorem d_Mo_makeFaults_76 : decode b_Mo_makeFaults 76 = .ok (.imul, 1) := by decide +kernel
theorem d_Mo_makeFaults_77 : decode b_Mo_makeFaults 77 = .ok (.iload_n 3, 1) := by decide +kernel
theorem d_Mo_makeFaults_78 : decode b_Mo_makeFaults 78 = .ok (.iadd, 1) := by decide +kernel
theorem d_Mo_makeFaults_79 : decode b_Mo_makeFaults 79 = .ok (.iaload, 1) := by decide +kernel
theorem d_Mo_makeFaults_80 : decode b_Mo_makeFaults 80 = .ok (.iastore, 1) := by decide +kernel
theorem d_Mo_makeFaults_81 : decode b_Mo_makeFaults 81 = .ok (.iinc 3 1, 3) := by decide +kernel
theorem d_Mo_makeFaults_84 : decode b_Mo_makeFaults 84 = .ok (.goto (-28), 3) := by decide +kernel
theorem d_Mo_makeFaults_87 : decode b_Mo_makeFaults 87 = .ok (.iinc 1 1, 3) := by decide +kernel
theorem d_Mo_makeFaults_90 : decode b_Mo_makeFaults 90 = .ok (.iinc 2 1, 3) := by decide +kernel
theorem d_Mo_makeFaults_93 : decode b_Mo_makeFaults 93 = .ok (.goto (-89), 3) := by decide +kernel
theorem d_Mo_makeFaults_27 : decode b_Mo_makeFaults 27 = .ok (.aload_n 0, 1) := by decide +kernel
theorem d_Mo_makeFaults_28 : decode b_Mo_makeFaults 28 = .ok (.aload_n 0, 1) := by decide +kernel
theorem d_Mo_makeFaults_29 : decode b_Mo_makeFaults 29 = .ok (.getfield 26, 3) := by decide +kernel
theorem d_Mo_makeFaults_32 : decode b_Mo_makeFaults 32 = .ok (.iconst 3, 1) := by decide +kernel
theorem d_Mo_makeFaults_33 : decode b_Mo_makeFaults 33 = .ok (.iload_n 2, 1) := by decide +kernel
theorem d_Mo_makeFaults_34 : decode b_Mo_makeFaults 34 = .ok (.imul, 1) := by decide +kernel
theorem d_Mo_makeFaults_35 : decode b_Mo_makeFaults 35 = .ok (.iconst 1, 1) := by decide +kernel
theorem d_Mo_makeFaults_36 : decode b_Mo_makeFaults 36 = .ok (.iadd, 1) := by decide +kernel
theorem d_Mo_makeFaults_37 : decode b_Mo_makeFaults 37 = .ok (.iaload, 1) := by decide +kernel
theorem d_Mo_makeFaults_38 : decode b_Mo_makeFaults 38 = .ok (.aload_n 0, 1) := by decide +kernel
theorem d_Mo_makeFaults_39 : decode b_Mo_makeFaults 39 = .ok (.getfield 26, 3) := by decide +kernel
theorem d_Mo_makeFaults_42 : decode b_Mo_makeFaults 42 = .ok (.iconst 3, 1) := by decide +kernel
theorem d_Mo_makeFaults_43 : decode b_Mo_makeFaults 43 = .ok (.iload_n 2, 1) := by decide +kernel
theorem d_Mo_makeFaults_44 : decode b_Mo_makeFaults 44 = .ok (.imul, 1) := by decide +kernel
theorem d_Mo_makeFaults_45 : decode b_Mo_makeFaults 45 = .ok (.iconst 2, 1) := by decide +kernel
theorem d_Mo_makeFaults_46 : decode b_Mo_makeFaults 46 = .ok (.iadd, 1) := by decide +kernel
theorem d_Mo_makeFaults_47 : decode b_Mo_makeFaults 47 = .ok (.iaload, 1) := by decide +kernel
theorem d_Mo_makeFaults_48 : decode b_Mo_makeFaults 48 = .ok (.invokevirtual 193, 3) := by decide +kernel
theorem d_Mo_makeFaults_51 : decode b_Mo_makeFaults 51 = .ok (.goto 39, 3) := by decide +kernel
theorem d_Mo_scrub_0 : decode b_Mo_scrub 0 = .ok (.aload_n 0, 1) := by decide +kernel
theorem d_Mo_scrub_1 : decode b_Mo_scrub 1 = .ok (.aload_n 0, 1) := by decide +kernel
theorem d_Mo_scrub_2 : decode b_Mo_scrub 2 = .ok (.getfield 29, 3) := by decide +kernel
theorem d_Mo_scrub_5 : decode b_Mo_scrub 5 = .ok (.iconst 5, 1) := by decide +kernel
theorem d_Mo_scrub_6 : decode b_Mo_scrub 6 = .ok (.iaload, 1) := by decide +kernel
theorem d_Mo_scrub_7 : decode b_Mo_scrub 7 = .ok (.invokevirtual 63, 3) := by decide +kernel
theorem d_Mo_scrub_10 : decode b_Mo_scrub 10 = .ok (.ifCond .ne 13, 3) := by decide +kernel
theorem d_Mo_scrub_23 : decode b_Mo_scrub 23 = .ok (.aload_n 0, 1) := by decide +kernel
theorem d_Mo_scrub_24 : decode b_Mo_scrub 24 = .ok (.getfield 29, 3) := by decide +kernel
theorem d_Mo_scrub_27 : decode b_Mo_scrub 27 = .ok (.iconst 5, 1) := by decide +kernel
theorem d_Mo_scrub_28 : decode b_Mo_scrub 28 = .ok (.aload_n 0, 1) := by decide +kernel
theorem d_Mo_scrub_29 : decode b_Mo_scrub 29 = .ok (.getfield 29, 3) := by decide +kernel
theorem d_Mo_scrub_32 : decode b_Mo_scrub 32 = .ok (.iconst 5, 1) := by decide +kernel
theorem d_Mo_scrub_33 : decode b_Mo_scrub 33 = .ok (.iaload, 1) := by decide +kernel
theorem d_Mo_scrub_34 : decode b_Mo_scrub 34 = .ok (.iconst 1, 1) := by decide +kernel
theorem d_Mo_scrub_35 : decode b_Mo_scrub 35 = .ok (.iadd, 1) := by decide +kernel
theorem d_Mo_scrub_36 : decode b_Mo_scrub 36 = .ok (.bipush 64, 2) := by decide +kernel
theorem d_Mo_scrub_38 : decode b_Mo_scrub 38 = .ok (.irem, 1) := by decide +kernel
theorem d_Mo_scrub_39 : decode b_Mo_scrub 39 = .ok (.iastore, 1) := by decide +kernel
theorem d_Mo_scrub_40 : decode b_Mo_scrub 40 = .ok (.return_, 1) := by decide +kernel
theorem d_Mo_scrub_13 : decode b_Mo_scrub 13 = .ok (.aload_n 0, 1) := by decide +kernel
theorem d_Mo_scrub_14 : decode b_Mo_scrub 14 = .ok (.getfield 29, 3) := by decide +kernel
theorem d_Mo_scrub_17 : decode b_Mo_scrub 17 = .ok (.iconst 1, 1) := by decide +kernel
theorem d_Mo_scrub_18 : decode b_Mo_scrub 18 = .ok (.dup2, 1) := by decide +kernel
theorem d_Mo_scrub_19 : decode b_Mo_scrub 19 = .ok (.iaload, 1) := by decide +kernel
theorem d_Mo_scrub_20 : decode b_Mo_scrub 20 = .ok (.iconst 1, 1) := by decide +kernel
theorem d_Mo_scrub_21 : decode b_Mo_scrub 21 = .ok (.iadd, 1) := by decide +kernel
theorem d_Mo_scrub_22 : decode b_Mo_scrub 22 = .ok (.iastore, 1) := by decide +kernel
theorem d_Mo_resume_0 : decode b_Mo_resume 0 = .ok (.aload_n 0, 1) := by decide +kernel
theorem d_Mo_resume_1 : decode b_Mo_resume 1 = .ok (.getfield 94, 3) := by decide +kernel
theorem d_Mo_resume_4 : decode b_Mo_resume 4 = .ok (.ifCond .ne 5, 3) := by decide +kernel
theorem d_Mo_resume_9 : decode b_Mo_resume 9 = .ok (.aload_n 0, 1) := by decide +kernel
theorem d_Mo_resume_10 : decode b_Mo_resume 10 = .ok (.iconst 0, 1) := by decide +kernel
theorem d_Mo_resume_11 : decode b_Mo_resume 11 = .ok (.iload_n 1, 1) := by decide +kernel
theorem d_Mo_resume_12 : decode b_Mo_resume 12 = .ok (.invokevirtual 91, 3) := by decide +kernel
theorem d_Mo_resume_15 : decode b_Mo_resume 15 = .ok (.aload_n 0, 1) := by decide +kernel
theorem d_Mo_resume_16 : decode b_Mo_resume 16 = .ok (.iconst 0, 1) := by decide +kernel
theorem d_Mo_resume_17 : decode b_Mo_resume 17 = .ok (.iconst 0, 1) := by decide +kernel
theorem d_Mo_resume_18 : decode b_Mo_resume 18 = .ok (.invokevirtual 66, 3) := by decide +kernel
theorem d_Mo_resume_21 : decode b_Mo_resume 21 = .ok (.iconst 1, 1) := by decide +kernel
theorem d_Mo_resume_22 : decode b_Mo_resume 22 = .ok (.ireturn, 1) := by decide +kernel
theorem d_Mo_resume_7 : decode b_Mo_resume 7 = .ok (.iconst 0, 1) := by decide +kernel
theorem d_Mo_resume_8 : decode b_Mo_resume 8 = .ok (.ireturn, 1) := by decide +kernel
theorem d_Mo_write_0 : decode b_Mo_write 0 = .ok (.iload_n 1, 1) := by decide +kernel
theorem d_Mo_write_1 : decode b_Mo_write 1 = .ok (.bipush 63, 2) := by decide +kernel
theorem d_Mo_write_3 : decode b_Mo_write 3 = .ok (.invokestatic 135, 3) := by decide +kernel
theorem d_Mo_write_6 : decode b_Mo_write 6 = .ok (.ifCond .eq 5, 3) := by decide +kernel
theorem d_Mo_write_11 : decode b_Mo_write 11 = .ok (.aload_n 0, 1) := by decide +kernel
theorem d_Mo_write_12 : decode b_Mo_write 12 = .ok (.iload_n 1, 1) := by decide +kernel
theorem d_Mo_write_13 : decode b_Mo_write 13 = .ok (.iload_n 2, 1) := by decide +kernel
theorem d_Mo_write_14 : decode b_Mo_write 14 = .ok (.invokevirtual 80, 3) := by decide +kernel
theorem d_Mo_write_17 : decode b_Mo_write 17 = .ok (.iconst 0, 1) := by decide +kernel
theorem d_Mo_write_18 : decode b_Mo_write 18 = .ok (.istore_n 3, 1) := by decide +kernel
theorem d_Mo_write_19 : decode b_Mo_write 19 = .ok (.iload_n 3, 1) := by decide +kernel
theorem d_Mo_write_20 : decode b_Mo_write 20 = .ok (.bipush 8, 2) := by decide +kernel
theorem d_Mo_write_22 : decode b_Mo_write 22 = .ok (.if_icmp .ge 16, 3) := by decide +kernel
theorem d_Mo_write_25 : decode b_Mo_write 25 = .ok (.aload_n 0, 1) := by decide +kernel
theorem d_Mo_write_26 : decode b_Mo_write 26 = .ok (.getfield 23, 3) := by decide +kernel
theorem d_Mo_write_29 : decode b_Mo_write 29 = .ok (.iload_n 3, 1) := by decide +kernel
theorem d_Mo_write_30 : decode b_Mo_write 30 = .ok (.lconst 0, 1) := by decide +kernel
theorem d_Mo_write_31 : decode b_Mo_write 31 = .ok (.lastore, 1) := by decide +kernel
theorem d_Mo_write_32 : decode b_Mo_write 32 = .ok (.iinc 3 1, 3) := by decide +kernel
theorem d_Mo_write_35 : decode b_Mo_write 35 = .ok (.goto (-16), 3) := by decide +kernel
theorem d_Mo_write_38 : decode b_Mo_write 38 = .ok (.iconst 1, 1) := by decide +kernel
theorem d_Mo_write_39 : decode b_Mo_write 39 = .ok (.ireturn, 1) := by decide +kernel
theorem d_Mo_write_9 : decode b_Mo_write 9 = .ok (.iconst 0, 1) := by decide +kernel
theorem d_Mo_write_10 : decode b_Mo_write 10 = .ok (.ireturn, 1) := by decide +kernel
theorem d_Mo_set_0 : decode b_Mo_set 0 = .ok (.iload_n 1, 1) := by decide +kernel
theorem d_Mo_set_1 : decode b_Mo_set 1 = .ok (.bipush 31, 2) := by decide +kernel
theorem d_Mo_set_3 : decode b_Mo_set 3 = .ok (.invokestatic 135, 3) := by decide +kernel
theorem d_Mo_set_6 : decode b_Mo_set 6 = .ok (.ifCond .eq 5, 3) := by decide +kernel
theorem d_Mo_set_11 : decode b_Mo_set 11 = .ok (.aload_n 0, 1) := by decide +kernel
theorem d_Mo_set_12 : decode b_Mo_set 12 = .ok (.iload_n 1, 1) := by decide +kernel
theorem d_Mo_set_13 : decode b_Mo_set 13 = .ok (.iload_n 2, 1) := by decide +kernel
theorem d_Mo_set_14 : decode b_Mo_set 14 = .ok (.invokevirtual 91, 3) := by decide +kernel
theorem d_Mo_set_17 : decode b_Mo_set 17 = .ok (.iconst 1, 1) := by decide +kernel
theorem d_Mo_set_18 : decode b_Mo_set 18 = .ok (.ireturn, 1) := by decide +kernel
theorem d_Mo_set_9 : decode b_Mo_set 9 = .ok (.iconst 0, 1) := by decide +kernel
theorem d_Mo_set_10 : decode b_Mo_set 10 = .ok (.ireturn, 1) := by decide +kernel
theorem d_Mo_noBit_0 : decode b_Mo_noBit 0 = .ok (.iload_n 0, 1) := by decide +kernel
theorem d_Mo_noBit_1 : decode b_Mo_noBit 1 = .ok (.sipush 167, 3) := by decide +kernel
theorem d_Mo_noBit_4 : decode b_Mo_noBit 4 = .ok (.invokestatic 135, 3) := by decide +kernel
theorem d_Mo_noBit_7 : decode b_Mo_noBit 7 = .ok (.ifCond .ne 35, 3) := by decide +kernel
theorem d_Mo_noBit_42 : decode b_Mo_noBit 42 = .ok (.iconst 1, 1) := by decide +kernel
theorem d_Mo_noBit_43 : decode b_Mo_noBit 43 = .ok (.goto 4, 3) := by decide +kernel
theorem d_Mo_noBit_47 : decode b_Mo_noBit 47 = .ok (.ireturn, 1) := by decide +kernel
theorem d_Mo_noBit_10 : decode b_Mo_noBit 10 = .ok (.iload_n 1, 1) := by decide +kernel
theorem d_Mo_noBit_11 : decode b_Mo_noBit 11 = .ok (.iload_n 0, 1) := by decide +kernel
theorem d_Mo_noBit_12 : decode b_Mo_noBit 12 = .ok (.bipush 64, 2) := by decide +kernel
theorem d_Mo_noBit_14 : decode b_Mo_noBit 14 = .ok (.if_icmp .ge 8, 3) := by decide +kernel
theorem d_Mo_noBit_22 : decode b_Mo_noBit 22 = .ok (.iload_n 0, 1) := by decide +kernel
theorem d_Mo_noBit_23 : decode b_Mo_noBit 23 = .ok (.sipush 160, 3) := by decide +kernel
theorem d_Mo_noBit_26 : decode b_Mo_noBit 26 = .ok (.if_icmp .ge 8, 3) := by decide +kernel
theorem d_Mo_noBit_34 : decode b_Mo_noBit 34 = .ok (.bipush 37, 2) := by decide +kernel
theorem d_Mo_noBit_36 : decode b_Mo_noBit 36 = .ok (.invokestatic 135, 3) := by decide +kernel
theorem d_Mo_noBit_39 : decode b_Mo_noBit 39 = .ok (.ifCond .eq 7, 3) := by decide +kernel
theorem d_Mo_noBit_46 : decode b_Mo_noBit 46 = .ok (.iconst 0, 1) := by decide +kernel
theorem d_Mo_noBit_29 : decode b_Mo_noBit 29 = .ok (.bipush 31, 2) := by decide +kernel
theorem d_Mo_noBit_31 : decode b_Mo_noBit 31 = .ok (.goto 5, 3) := by decide +kernel
theorem d_Mo_noBit_17 : decode b_Mo_noBit 17 = .ok (.bipush 38, 2) := by decide +kernel
theorem d_Mo_noBit_19 : decode b_Mo_noBit 19 = .ok (.goto 17, 3) := by decide +kernel
theorem d_Mo_flip_0 : decode b_Mo_flip 0 = .ok (.iload_n 1, 1) := by decide +kernel
theorem d_Mo_flip_1 : decode b_Mo_flip 1 = .ok (.iload_n 2, 1) := by decide +kernel
theorem d_Mo_flip_2 : decode b_Mo_flip 2 = .ok (.invokestatic 208, 3) := by decide +kernel
theorem d_Mo_flip_5 : decode b_Mo_flip 5 = .ok (.ifCond .eq 5, 3) := by decide +kernel
theorem d_Mo_flip_10 : decode b_Mo_flip 10 = .ok (.aload_n 0, 1) := by decide +kernel
theorem d_Mo_flip_11 : decode b_Mo_flip 11 = .ok (.iload_n 1, 1) := by decide +kernel
theorem d_Mo_flip_12 : decode b_Mo_flip 12 = .ok (.iload_n 2, 1) := by decide +kernel
theorem d_Mo_flip_13 : decode b_Mo_flip 13 = .ok (.invokevirtual 193, 3) := by decide +kernel
theorem d_Mo_flip_16 : decode b_Mo_flip 16 = .ok (.iconst 1, 1) := by decide +kernel
theorem d_Mo_flip_17 : decode b_Mo_flip 17 = .ok (.ireturn, 1) := by decide +kernel
theorem d_Mo_flip_8 : decode b_Mo_flip 8 = .ok (.iconst 0, 1) := by decide +kernel
theorem d_Mo_flip_9 : decode b_Mo_flip 9 = .ok (.ireturn, 1) := by decide +kernel
theorem d_Mo_plan_0 : decode b_Mo_plan 0 = .ok (.iload_n 1, 1) := by decide +kernel
theorem d_Mo_plan_1 : decode b_Mo_plan 1 = .ok (.iconst 1, 1) := by decide +kernel
theorem d_Mo_plan_2 : decode b_Mo_plan 2 = .ok (.if_icmp .lt 27, 3) := by decide +kernel
theorem d_Mo_plan_29 : decode b_Mo_plan 29 = .ok (.iconst 0, 1) := by decide +kernel
theorem d_Mo_plan_30 : decode b_Mo_plan 30 = .ok (.ireturn, 1) := by decide +kernel
theorem d_Mo_plan_5 : decode b_Mo_plan 5 = .ok (.iload_n 1, 1) := by decide +kernel
theorem d_Mo_plan_6 : decode b_Mo_plan 6 = .ok (.sipush 1000, 3) := by decide +kernel
theorem d_Mo_plan_9 : decode b_Mo_plan 9 = .ok (.if_icmp .gt 20, 3) := by decide +kernel
theorem d_Mo_plan_12 : decode b_Mo_plan 12 = .ok (.iload_n 2, 1) := by decide +kernel
theorem d_Mo_plan_13 : decode b_Mo_plan 13 = .ok (.iload_n 3, 1) := by decide +kernel
theorem d_Mo_plan_14 : decode b_Mo_plan 14 = .ok (.invokestatic 208, 3) := by decide +kernel
theorem d_Mo_plan_17 : decode b_Mo_plan 17 = .ok (.ifCond .ne 12, 3) := by decide +kernel
theorem d_Mo_plan_20 : decode b_Mo_plan 20 = .ok (.aload_n 0, 1) := by decide +kernel
theorem d_Mo_plan_21 : decode b_Mo_plan 21 = .ok (.getfield 187, 3) := by decide +kernel
theorem d_Mo_plan_24 : decode b_Mo_plan 24 = .ok (.bipush 16, 2) := by decide +kernel
theorem d_Mo_plan_26 : decode b_Mo_plan 26 = .ok (.if_icmp .ne 5, 3) := by decide +kernel
theorem d_Mo_plan_31 : decode b_Mo_plan 31 = .ok (.aload_n 0, 1) := by decide +kernel
theorem d_Mo_plan_32 : decode b_Mo_plan 32 = .ok (.getfield 26, 3) := by decide +kernel
theorem d_Mo_plan_35 : decode b_Mo_plan 35 = .ok (.iconst 3, 1) := by decide +kernel
theorem d_Mo_plan_36 : decode b_Mo_plan 36 = .ok (.aload_n 0, 1) := by decide +kernel
theorem d_Mo_plan_37 : decode b_Mo_plan 37 = .ok (.getfield 187, 3) := by decide +kernel
theorem d_Mo_plan_40 : decode b_Mo_plan 40 = .ok (.imul, 1) := by decide +kernel
theorem d_Mo_plan_41 : decode b_Mo_plan 41 = .ok (.aload_n 0, 1) := by decide +kernel
theorem d_Mo_plan_42 : decode b_Mo_plan 42 = .ok (.getfield 190, 3) := by decide +kernel
theorem d_Mo_plan_45 : decode b_Mo_plan 45 = .ok (.iload_n 1, 1) := by decide +kernel
theorem d_Mo_plan_46 : decode b_Mo_plan 46 = .ok (.iadd, 1) := by decide +kernel
theorem d_Mo_plan_47 : decode b_Mo_plan 47 = .ok (.iastore, 1) := by decide +kernel
theorem d_Mo_plan_48 : decode b_Mo_plan 48 = .ok (.aload_n 0, 1) := by decide +kernel
theorem d_Mo_plan_49 : decode b_Mo_plan 49 = .ok (.getfield 26, 3) := by decide +kernel
theorem d_Mo_plan_52 : decode b_Mo_plan 52 = .ok (.iconst 3, 1) := by decide +kernel
theorem d_Mo_plan_53 : decode b_Mo_plan 53 = .ok (.aload_n 0, 1) := by decide +kernel
theorem d_Mo_plan_54 : decode b_Mo_plan 54 = .ok (.getfield 187, 3) := by decide +kernel
theorem d_Mo_plan_57 : decode b_Mo_plan 57 = .ok (.imul, 1) := by decide +kernel
theorem d_Mo_plan_58 : decode b_Mo_plan 58 = .ok (.iconst 1, 1) := by decide +kernel
theorem d_Mo_plan_59 : decode b_Mo_plan 59 = .ok (.iadd, 1) := by decide +kernel
theorem d_Mo_plan_60 : decode b_Mo_plan 60 = .ok (.iload_n 2, 1) := by decide +kernel
theorem d_Mo_plan_61 : decode b_Mo_plan 61 = .ok (.iastore, 1) := by decide +kernel
theorem d_Mo_plan_62 : decode b_Mo_plan 62 = .ok (.aload_n 0, 1) := by decide +kernel
theorem d_Mo_plan_63 : decode b_Mo_plan 63 = .ok (.getfield 26, 3) := by decide +kernel
theorem d_Mo_plan_66 : decode b_Mo_plan 66 = .ok (.iconst 3, 1) := by decide +kernel
theorem d_Mo_plan_67 : decode b_Mo_plan 67 = .ok (.aload_n 0, 1) := by decide +kernel
theorem d_Mo_plan_68 : decode b_Mo_plan 68 = .ok (.getfield 187, 3) := by decide +kernel
theorem d_Mo_plan_71 : decode b_Mo_plan 71 = .ok (.imul, 1) := by decide +kernel
theorem d_Mo_plan_72 : decode b_Mo_plan 72 = .ok (.iconst 2, 1) := by decide +kernel
theorem d_Mo_plan_73 : decode b_Mo_plan 73 = .ok (.iadd, 1) := by decide +kernel
theorem d_Mo_plan_74 : decode b_Mo_plan 74 = .ok (.iload_n 3, 1) := by decide +kernel
theorem d_Mo_plan_75 : decode b_Mo_plan 75 = .ok (.iastore, 1) := by decide +kernel
theorem d_Mo_plan_76 : decode b_Mo_plan 76 = .ok (.aload_n 0, 1) := by decide +kernel
theorem d_Mo_plan_77 : decode b_Mo_plan 77 = .ok (.dup, 1) := by decide +kernel
theorem d_Mo_plan_78 : decode b_Mo_plan 78 = .ok (.getfield 187, 3) := by decide +kernel
theorem d_Mo_plan_81 : decode b_Mo_plan 81 = .ok (.iconst 1, 1) := by decide +kernel
theorem d_Mo_plan_82 : decode b_Mo_plan 82 = .ok (.iadd, 1) := by decide +kernel
theorem d_Mo_plan_83 : decode b_Mo_plan 83 = .ok (.putfield 187, 3) := by decide +kernel
theorem d_Mo_plan_86 : decode b_Mo_plan 86 = .ok (.iconst 1, 1) := by decide +kernel
theorem d_Mo_plan_87 : decode b_Mo_plan 87 = .ok (.ireturn, 1) := by decide +kernel
theorem d_Mo_planned_0 : decode b_Mo_planned 0 = .ok (.aload_n 0, 1) := by decide +kernel
theorem d_Mo_planned_1 : decode b_Mo_planned 1 = .ok (.getfield 187, 3) := by decide +kernel
theorem d_Mo_planned_4 : decode b_Mo_planned 4 = .ok (.ireturn, 1) := by decide +kernel
theorem d_Mo_register_0 : decode b_Mo_register 0 = .ok (.iload_n 1, 1) := by decide +kernel
theorem d_Mo_register_1 : decode b_Mo_register 1 = .ok (.bipush 31, 2) := by decide +kernel
theorem d_Mo_register_3 : decode b_Mo_register 3 = .ok (.invokestatic 135, 3) := by decide +kernel
theorem d_Mo_register_6 : decode b_Mo_register 6 = .ok (.ifCond .eq 7, 3) := by decide +kernel
theorem d_Mo_register_13 : decode b_Mo_register 13 = .ok (.aload_n 0, 1) := by decide +kernel
theorem d_Mo_register_14 : decode b_Mo_register 14 = .ok (.iload_n 1, 1) := by decide +kernel
theorem d_Mo_register_15 : decode b_Mo_register 15 = .ok (.invokevirtual 87, 3) := by decide +kernel
theorem d_Mo_register_18 : decode b_Mo_register 18 = .ok (.ireturn, 1) := by decide +kernel
theorem d_Mo_register_9 : decode b_Mo_register 9 = .ok (.iconst 0, 1) := by decide +kernel
theorem d_Mo_register_10 : decode b_Mo_register 10 = .ok (.goto 8, 3) := by decide +kernel
theorem d_Mo_look_0 : decode b_Mo_look 0 = .ok (.iload_n 1, 1) := by decide +kernel
theorem d_Mo_look_1 : decode b_Mo_look 1 = .ok (.bipush 63, 2) := by decide +kernel
theorem d_Mo_look_3 : decode b_Mo_look 3 = .ok (.invokestatic 135, 3) := by decide +kernel
theorem d_Mo_look_6 : decode b_Mo_look 6 = .ok (.ifCond .eq 7, 3) := by decide +kernel
theorem d_Mo_look_13 : decode b_Mo_look 13 = .ok (.aload_n 0, 1) := by decide +kernel
theorem d_Mo_look_14 : decode b_Mo_look 14 = .ok (.getfield 13, 3) := by decide +kernel
theorem d_Mo_look_17 : decode b_Mo_look 17 = .ok (.iload_n 1, 1) := by decide +kernel
theorem d_Mo_look_18 : decode b_Mo_look 18 = .ok (.laload, 1) := by decide +kernel
theorem d_Mo_look_19 : decode b_Mo_look 19 = .ok (.invokestatic 48, 3) := by decide +kernel
theorem d_Mo_look_22 : decode b_Mo_look 22 = .ok (.istore_n 2, 1) := by decide +kernel
theorem d_Mo_look_23 : decode b_Mo_look 23 = .ok (.iload_n 2, 1) := by decide +kernel
theorem d_Mo_look_24 : decode b_Mo_look 24 = .ok (.ifCond .lt 16, 3) := by decide +kernel
theorem d_Mo_look_40 : decode b_Mo_look 40 = .ok (.aload_n 0, 1) := by decide +kernel
theorem d_Mo_look_41 : decode b_Mo_look 41 = .ok (.getfield 13, 3) := by decide +kernel
theorem d_Mo_look_44 : decode b_Mo_look 44 = .ok (.iload_n 1, 1) := by decide +kernel
theorem d_Mo_look_45 : decode b_Mo_look 45 = .ok (.laload, 1) := by decide +kernel
theorem d_Mo_look_46 : decode b_Mo_look 46 = .ok (.lstore_n 3, 1) := by decide +kernel
theorem d_Mo_look_47 : decode b_Mo_look 47 = .ok (.iload_n 2, 1) := by decide +kernel
theorem d_Mo_look_48 : decode b_Mo_look 48 = .ok (.bipush (-2), 2) := by decide +kernel
theorem d_Mo_look_50 : decode b_Mo_look 50 = .ok (.if_icmp .ne 9, 3) := by decide +kernel
theorem d_Mo_look_59 : decode b_Mo_look 59 = .ok (.aload_n 0, 1) := by decide +kernel
theorem d_Mo_look_60 : decode b_Mo_look 60 = .ok (.getfield 7, 3) := by decide +kernel
theorem d_Mo_look_63 : decode b_Mo_look 63 = .ok (.iload_n 1, 1) := by decide +kernel
theorem d_Mo_look_64 : decode b_Mo_look 64 = .ok (.iaload, 1) := by decide +kernel
theorem d_Mo_look_65 : decode b_Mo_look 65 = .ok (.lload_n 3, 1) := by decide +kernel
theorem d_Mo_look_66 : decode b_Mo_look 66 = .ok (.invokestatic 70, 3) := by decide +kernel
theorem d_Mo_look_69 : decode b_Mo_look 69 = .ok (.ixor, 1) := by decide +kernel
theorem d_Mo_look_70 : decode b_Mo_look 70 = .ok (.i2l, 1) := by decide +kernel
theorem d_Mo_look_71 : decode b_Mo_look 71 = .ok (.ldc2_w 51, 3) := by decide +kernel
theorem d_Mo_look_74 : decode b_Mo_look 74 = .ok (.land, 1) := by decide +kernel
theorem d_Mo_look_75 : decode b_Mo_look 75 = .ok (.lreturn, 1) := by decide +kernel
theorem d_Mo_look_53 : decode b_Mo_look 53 = .ok (.ldc2_w 213, 3) := by decide +kernel
theorem d_Mo_look_56 : decode b_Mo_look 56 = .ok (.goto 19, 3) := by decide +kernel
theorem d_Mo_look_27 : decode b_Mo_look 27 = .ok (.aload_n 0, 1) := by decide +kernel
theorem d_Mo_look_28 : decode b_Mo_look 28 = .ok (.getfield 13, 3) := by decide +kernel
theorem d_Mo_look_31 : decode b_Mo_look 31 = .ok (.iload_n 1, 1) := by decide +kernel
theorem d_Mo_look_32 : decode b_Mo_look 32 = .ok (.laload, 1) := by decide +kernel
theorem d_Mo_look_33 : decode b_Mo_look 33 = .ok (.lconst 1, 1) := by decide +kernel
theorem d_Mo_look_34 : decode b_Mo_look 34 = .ok (.iload_n 2, 1) := by decide +kernel
theorem d_Mo_look_35 : decode b_Mo_look 35 = .ok (.lshl, 1) := by decide +kernel
theorem d_Mo_look_36 : decode b_Mo_look 36 = .ok (.lxor, 1) := by decide +kernel
theorem d_Mo_look_37 : decode b_Mo_look 37 = .ok (.goto 9, 3) := by decide +kernel
theorem d_Mo_look_9 : decode b_Mo_look 9 = .ok (.ldc2_w 211, 3) := by decide +kernel
theorem d_Mo_look_12 : decode b_Mo_look 12 = .ok (.lreturn, 1) := by decide +kernel
theorem d_Mo_bits_0 : decode b_Mo_bits 0 = .ok (.iload_n 1, 1) := by decide +kernel
theorem d_Mo_bits_1 : decode b_Mo_bits 1 = .ok (.sipush 167, 3) := by decide +kernel
theorem d_Mo_bits_4 : decode b_Mo_bits 4 = .ok (.invokestatic 135, 3) := by decide +kernel
theorem d_Mo_bits_7 : decode b_Mo_bits 7 = .ok (.ifCond .eq 7, 3) := by decide +kernel
theorem d_Mo_bits_14 : decode b_Mo_bits 14 = .ok (.iload_n 1, 1) := by decide +kernel
theorem d_Mo_bits_15 : decode b_Mo_bits 15 = .ok (.sipush 159, 3) := by decide +kernel
theorem d_Mo_bits_18 : decode b_Mo_bits 18 = .ok (.if_icmp .le 14, 3) := by decide +kernel
theorem d_Mo_bits_32 : decode b_Mo_bits 32 = .ok (.iload_n 1, 1) := by decide +kernel
theorem d_Mo_bits_33 : decode b_Mo_bits 33 = .ok (.bipush 64, 2) := by decide +kernel
theorem d_Mo_bits_35 : decode b_Mo_bits 35 = .ok (.if_icmp .ge 22, 3) := by decide +kernel
theorem d_Mo_bits_57 : decode b_Mo_bits 57 = .ok (.aload_n 0, 1) := by decide +kernel
theorem d_Mo_bits_58 : decode b_Mo_bits 58 = .ok (.getfield 17, 3) := by decide +kernel
theorem d_Mo_bits_61 : decode b_Mo_bits 61 = .ok (.iload_n 1, 1) := by decide +kernel
theorem d_Mo_bits_62 : decode b_Mo_bits 62 = .ok (.bipush 64, 2) := by decide +kernel
theorem d_Mo_bits_64 : decode b_Mo_bits 64 = .ok (.isub, 1) := by decide +kernel
theorem d_Mo_bits_65 : decode b_Mo_bits 65 = .ok (.iconst 3, 1) := by decide +kernel
theorem d_Mo_bits_66 : decode b_Mo_bits 66 = .ok (.idiv, 1) := by decide +kernel
theorem d_Mo_bits_67 : decode b_Mo_bits 67 = .ok (.iaload, 1) := by decide +kernel
theorem d_Mo_bits_68 : decode b_Mo_bits 68 = .ok (.aload_n 0, 1) := by decide +kernel
theorem d_Mo_bits_69 : decode b_Mo_bits 69 = .ok (.getfield 20, 3) := by decide +kernel
theorem d_Mo_bits_72 : decode b_Mo_bits 72 = .ok (.iload_n 1, 1) := by decide +kernel
theorem d_Mo_bits_73 : decode b_Mo_bits 73 = .ok (.bipush 64, 2) := by decide +kernel
theorem d_Mo_bits_75 : decode b_Mo_bits 75 = .ok (.isub, 1) := by decide +kernel
theorem d_Mo_bits_76 : decode b_Mo_bits 76 = .ok (.iaload, 1) := by decide +kernel
theorem d_Mo_bits_77 : decode b_Mo_bits 77 = .ok (.ixor, 1) := by decide +kernel
theorem d_Mo_bits_78 : decode b_Mo_bits 78 = .ok (.i2l, 1) := by decide +kernel
theorem d_Mo_bits_79 : decode b_Mo_bits 79 = .ok (.ldc2_w 51, 3) := by decide +kernel
theorem d_Mo_bits_82 : decode b_Mo_bits 82 = .ok (.land, 1) := by decide +kernel
theorem d_Mo_bits_83 : decode b_Mo_bits 83 = .ok (.lreturn, 1) := by decide +kernel
theorem d_Mo_bits_38 : decode b_Mo_bits 38 = .ok (.aload_n 0, 1) := by decide +kernel
theorem d_Mo_bits_39 : decode b_Mo_bits 39 = .ok (.getfield 7, 3) := by decide +kernel
theorem d_Mo_bits_42 : decode b_Mo_bits 42 = .ok (.iload_n 1, 1) := by decide +kernel
theorem d_Mo_bits_43 : decode b_Mo_bits 43 = .ok (.iaload, 1) := by decide +kernel
theorem d_Mo_bits_44 : decode b_Mo_bits 44 = .ok (.invokestatic 215, 3) := by decide +kernel
end
section
theorem d_Mo_bits_47 : decode b_Mo_bits 47 = .ok (.aload_n 0, 1) := by decide +kernel
theorem d_Mo_bits_48 : decode b_Mo_bits 48 = .ok (.getfield 13, 3) := by decide +kernel
theorem d_Mo_bits_51 : decode b_Mo_bits 51 = .ok (.iload_n 1, 1) := by decide +kernel
theorem d_Mo_bits_52 : decode b_Mo_bits 52 = .ok (.laload, 1) := by decide +kernel
theorem d_Mo_bits_53 : decode b_Mo_bits 53 = .ok (.lxor, 1) := by decide +kernel
theorem d_Mo_bits_54 : decode b_Mo_bits 54 = .ok (.goto 29, 3) := by decide +kernel
theorem d_Mo_bits_21 : decode b_Mo_bits 21 = .ok (.aload_n 0, 1) := by decide +kernel
theorem d_Mo_bits_22 : decode b_Mo_bits 22 = .ok (.getfield 23, 3) := by decide +kernel
theorem d_Mo_bits_25 : decode b_Mo_bits 25 = .ok (.iload_n 1, 1) := by decide +kernel
theorem d_Mo_bits_26 : decode b_Mo_bits 26 = .ok (.sipush 160, 3) := by decide +kernel
theorem d_Mo_bits_29 : decode b_Mo_bits 29 = .ok (.isub, 1) := by decide +kernel
theorem d_Mo_bits_30 : decode b_Mo_bits 30 = .ok (.laload, 1) := by decide +kernel
theorem d_Mo_bits_31 : decode b_Mo_bits 31 = .ok (.lreturn, 1) := by decide +kernel
theorem d_Mo_bits_10 : decode b_Mo_bits 10 = .ok (.ldc2_w 211, 3) := by decide +kernel
theorem d_Mo_bits_13 : decode b_Mo_bits 13 = .ok (.lreturn, 1) := by decide +kernel
theorem d_Mo_cause_0 : decode b_Mo_cause 0 = .ok (.aload_n 0, 1) := by decide +kernel
theorem d_Mo_cause_1 : decode b_Mo_cause 1 = .ok (.getfield 94, 3) := by decide +kernel
theorem d_Mo_cause_4 : decode b_Mo_cause 4 = .ok (.ireturn, 1) := by decide +kernel
theorem d_Mo_value_0 : decode b_Mo_value 0 = .ok (.aload_n 0, 1) := by decide +kernel
theorem d_Mo_value_1 : decode b_Mo_value 1 = .ok (.getfield 97, 3) := by decide +kernel
theorem d_Mo_value_4 : decode b_Mo_value 4 = .ok (.ireturn, 1) := by decide +kernel
theorem d_Mo_cycles_0 : decode b_Mo_cycles 0 = .ok (.aload_n 0, 1) := by decide +kernel
theorem d_Mo_cycles_1 : decode b_Mo_cycles 1 = .ok (.getfield 190, 3) := by decide +kernel
theorem d_Mo_cycles_4 : decode b_Mo_cycles 4 = .ok (.ireturn, 1) := by decide +kernel
theorem d_Mo_count_0 : decode b_Mo_count 0 = .ok (.iload_n 1, 1) := by decide +kernel
theorem d_Mo_count_1 : decode b_Mo_count 1 = .ok (.iconst 5, 1) := by decide +kernel
theorem d_Mo_count_2 : decode b_Mo_count 2 = .ok (.invokestatic 135, 3) := by decide +kernel
theorem d_Mo_count_5 : decode b_Mo_count 5 = .ok (.ifCond .eq 7, 3) := by decide +kernel
theorem d_Mo_count_12 : decode b_Mo_count 12 = .ok (.aload_n 0, 1) := by decide +kernel
theorem d_Mo_count_13 : decode b_Mo_count 13 = .ok (.getfield 29, 3) := by decide +kernel
theorem d_Mo_count_16 : decode b_Mo_count 16 = .ok (.iload_n 1, 1) := by decide +kernel
theorem d_Mo_count_17 : decode b_Mo_count 17 = .ok (.iaload, 1) := by decide +kernel
theorem d_Mo_count_18 : decode b_Mo_count 18 = .ok (.ireturn, 1) := by decide +kernel
theorem d_Mo_count_8 : decode b_Mo_count 8 = .ok (.iconst (-1), 1) := by decide +kernel
theorem d_Mo_count_9 : decode b_Mo_count 9 = .ok (.goto 9, 3) := by decide +kernel
theorem d_Mo_instruct_0 : decode b_Mo_instruct 0 = .ok (.aload_n 0, 1) := by decide +kernel
theorem d_Mo_instruct_1 : decode b_Mo_instruct 1 = .ok (.aload_n 0, 1) := by decide +kernel
theorem d_Mo_instruct_2 : decode b_Mo_instruct 2 = .ok (.iconst 0, 1) := by decide +kernel
theorem d_Mo_instruct_3 : decode b_Mo_instruct 3 = .ok (.invokevirtual 87, 3) := by decide +kernel
theorem d_Mo_instruct_6 : decode b_Mo_instruct 6 = .ok (.putfield 124, 3) := by decide +kernel
theorem d_Mo_instruct_9 : decode b_Mo_instruct 9 = .ok (.aload_n 0, 1) := by decide +kernel
theorem d_Mo_instruct_10 : decode b_Mo_instruct 10 = .ok (.iconst 0, 1) := by decide +kernel
theorem d_Mo_instruct_11 : decode b_Mo_instruct 11 = .ok (.putfield 107, 3) := by decide +kernel
theorem d_Mo_instruct_14 : decode b_Mo_instruct 14 = .ok (.aload_n 0, 1) := by decide +kernel
theorem d_Mo_instruct_15 : decode b_Mo_instruct 15 = .ok (.aload_n 0, 1) := by decide +kernel
theorem d_Mo_instruct_16 : decode b_Mo_instruct 16 = .ok (.getfield 124, 3) := by decide +kernel
theorem d_Mo_instruct_19 : decode b_Mo_instruct 19 = .ok (.iconst 4, 1) := by decide +kernel
theorem d_Mo_instruct_20 : decode b_Mo_instruct 20 = .ok (.iadd, 1) := by decide +kernel
theorem d_Mo_instruct_21 : decode b_Mo_instruct 21 = .ok (.putfield 114, 3) := by decide +kernel
theorem d_Mo_instruct_24 : decode b_Mo_instruct 24 = .ok (.aload_n 0, 1) := by decide +kernel
theorem d_Mo_instruct_25 : decode b_Mo_instruct 25 = .ok (.getfield 124, 3) := by decide +kernel
theorem d_Mo_instruct_28 : decode b_Mo_instruct 28 = .ok (.iconst 4, 1) := by decide +kernel
theorem d_Mo_instruct_29 : decode b_Mo_instruct 29 = .ok (.irem, 1) := by decide +kernel
theorem d_Mo_instruct_30 : decode b_Mo_instruct 30 = .ok (.ifCond .ne 16, 3) := by decide +kernel
theorem d_Mo_instruct_46 : decode b_Mo_instruct 46 = .ok (.aload_n 0, 1) := by decide +kernel
theorem d_Mo_instruct_47 : decode b_Mo_instruct 47 = .ok (.iconst 1, 1) := by decide +kernel
theorem d_Mo_instruct_48 : decode b_Mo_instruct 48 = .ok (.aload_n 0, 1) := by decide +kernel
theorem d_Mo_instruct_49 : decode b_Mo_instruct 49 = .ok (.getfield 124, 3) := by decide +kernel
theorem d_Mo_instruct_52 : decode b_Mo_instruct 52 = .ok (.invokevirtual 66, 3) := by decide +kernel
theorem d_Mo_instruct_55 : decode b_Mo_instruct 55 = .ok (.goto 29, 3) := by decide +kernel
theorem d_Mo_instruct_84 : decode b_Mo_instruct 84 = .ok (.aload_n 0, 1) := by decide +kernel
theorem d_Mo_instruct_85 : decode b_Mo_instruct 85 = .ok (.getfield 94, 3) := by decide +kernel
theorem d_Mo_instruct_88 : decode b_Mo_instruct 88 = .ok (.ifCond .ne 40, 3) := by decide +kernel
theorem d_Mo_instruct_128 : decode b_Mo_instruct 128 = .ok (.return_, 1) := by decide +kernel
theorem d_Mo_instruct_91 : decode b_Mo_instruct 91 = .ok (.aload_n 0, 1) := by decide +kernel
theorem d_Mo_instruct_92 : decode b_Mo_instruct 92 = .ok (.bipush 7, 2) := by decide +kernel
theorem d_Mo_instruct_94 : decode b_Mo_instruct 94 = .ok (.iconst 5, 1) := by decide +kernel
theorem d_Mo_instruct_95 : decode b_Mo_instruct 95 = .ok (.invokevirtual 103, 3) := by decide +kernel
theorem d_Mo_instruct_98 : decode b_Mo_instruct 98 = .ok (.istore_n 1, 1) := by decide +kernel
theorem d_Mo_instruct_99 : decode b_Mo_instruct 99 = .ok (.aload_n 0, 1) := by decide +kernel
theorem d_Mo_instruct_100 : decode b_Mo_instruct 100 = .ok (.getfield 107, 3) := by decide +kernel
theorem d_Mo_instruct_103 : decode b_Mo_instruct 103 = .ok (.ifCond .eq 16, 3) := by decide +kernel
theorem d_Mo_instruct_119 : decode b_Mo_instruct 119 = .ok (.aload_n 0, 1) := by decide +kernel
theorem d_Mo_instruct_120 : decode b_Mo_instruct 120 = .ok (.iconst 0, 1) := by decide +kernel
theorem d_Mo_instruct_121 : decode b_Mo_instruct 121 = .ok (.aload_n 0, 1) := by decide +kernel
theorem d_Mo_instruct_122 : decode b_Mo_instruct 122 = .ok (.getfield 114, 3) := by decide +kernel
theorem d_Mo_instruct_125 : decode b_Mo_instruct 125 = .ok (.invokevirtual 91, 3) := by decide +kernel
theorem d_Mo_instruct_33 : decode b_Mo_instruct 33 = .ok (.aload_n 0, 1) := by decide +kernel
theorem d_Mo_instruct_34 : decode b_Mo_instruct 34 = .ok (.getfield 124, 3) := by decide +kernel
theorem d_Mo_instruct_37 : decode b_Mo_instruct 37 = .ok (.sipush 255, 3) := by decide +kernel
theorem d_Mo_instruct_40 : decode b_Mo_instruct 40 = .ok (.invokestatic 135, 3) := by decide +kernel
theorem d_Mo_instruct_43 : decode b_Mo_instruct 43 = .ok (.ifCond .eq 15, 3) := by decide +kernel
theorem d_Mo_instruct_58 : decode b_Mo_instruct 58 = .ok (.aload_n 0, 1) := by decide +kernel
theorem d_Mo_instruct_59 : decode b_Mo_instruct 59 = .ok (.iconst 0, 1) := by decide +kernel
theorem d_Mo_instruct_60 : decode b_Mo_instruct 60 = .ok (.aload_n 0, 1) := by decide +kernel
theorem d_Mo_instruct_61 : decode b_Mo_instruct 61 = .ok (.getfield 124, 3) := by decide +kernel
theorem d_Mo_instruct_64 : decode b_Mo_instruct 64 = .ok (.iconst 4, 1) := by decide +kernel
theorem d_Mo_instruct_65 : decode b_Mo_instruct 65 = .ok (.idiv, 1) := by decide +kernel
theorem d_Mo_instruct_66 : decode b_Mo_instruct 66 = .ok (.invokevirtual 141, 3) := by decide +kernel
theorem d_Mo_instruct_69 : decode b_Mo_instruct 69 = .ok (.ifCond .eq 15, 3) := by decide +kernel
theorem d_Mo_instruct_72 : decode b_Mo_instruct 72 = .ok (.aload_n 0, 1) := by decide +kernel
theorem d_Mo_instruct_73 : decode b_Mo_instruct 73 = .ok (.aload_n 0, 1) := by decide +kernel
theorem d_Mo_instruct_74 : decode b_Mo_instruct 74 = .ok (.getfield 77, 3) := by decide +kernel
theorem d_Mo_instruct_77 : decode b_Mo_instruct 77 = .ok (.putfield 100, 3) := by decide +kernel
theorem d_Mo_instruct_80 : decode b_Mo_instruct 80 = .ok (.aload_n 0, 1) := by decide +kernel
theorem d_Mo_instruct_81 : decode b_Mo_instruct 81 = .ok (.invokevirtual 184, 3) := by decide +kernel
theorem d_Mo_instruct_106 : decode b_Mo_instruct 106 = .ok (.iload_n 1, 1) := by decide +kernel
theorem d_Mo_instruct_107 : decode b_Mo_instruct 107 = .ok (.ifCond .le 12, 3) := by decide +kernel
theorem d_Mo_instruct_110 : decode b_Mo_instruct 110 = .ok (.aload_n 0, 1) := by decide +kernel
theorem d_Mo_instruct_111 : decode b_Mo_instruct 111 = .ok (.iload_n 1, 1) := by decide +kernel
theorem d_Mo_instruct_112 : decode b_Mo_instruct 112 = .ok (.aload_n 0, 1) := by decide +kernel
theorem d_Mo_instruct_113 : decode b_Mo_instruct 113 = .ok (.getfield 111, 3) := by decide +kernel
theorem d_Mo_instruct_116 : decode b_Mo_instruct 116 = .ok (.invokevirtual 91, 3) := by decide +kernel
theorem d_V_run_0 : decode b_V_run 0 = .ok (.iload_n 1, 1) := by decide +kernel
theorem d_V_run_1 : decode b_V_run 1 = .ok (.ifCond .lt 10, 3) := by decide +kernel
theorem d_V_run_11 : decode b_V_run 11 = .ok (.iconst (-1), 1) := by decide +kernel
theorem d_V_run_12 : decode b_V_run 12 = .ok (.ireturn, 1) := by decide +kernel
theorem d_V_run_4 : decode b_V_run 4 = .ok (.iload_n 1, 1) := by decide +kernel
theorem d_V_run_5 : decode b_V_run 5 = .ok (.sipush 500, 3) := by decide +kernel
theorem d_V_run_8 : decode b_V_run 8 = .ok (.if_icmp .le 5, 3) := by decide +kernel
theorem d_V_run_13 : decode b_V_run 13 = .ok (.iconst 0, 1) := by decide +kernel
theorem d_V_run_14 : decode b_V_run 14 = .ok (.istore_n 2, 1) := by decide +kernel
theorem d_V_run_15 : decode b_V_run 15 = .ok (.iload_n 2, 1) := by decide +kernel
theorem d_V_run_16 : decode b_V_run 16 = .ok (.iload_n 1, 1) := by decide +kernel
theorem d_V_run_17 : decode b_V_run 17 = .ok (.if_icmp .ge 57, 3) := by decide +kernel
theorem d_V_run_74 : decode b_V_run 74 = .ok (.iload_n 2, 1) := by decide +kernel
theorem d_V_run_75 : decode b_V_run 75 = .ok (.ireturn, 1) := by decide +kernel
theorem d_V_run_20 : decode b_V_run 20 = .ok (.aload_n 0, 1) := by decide +kernel
theorem d_V_run_21 : decode b_V_run 21 = .ok (.getfield 110, 3) := by decide +kernel
theorem d_V_run_24 : decode b_V_run 24 = .ok (.ifCond .ne 50, 3) := by decide +kernel
theorem d_V_run_27 : decode b_V_run 27 = .ok (.iinc 2 1, 3) := by decide +kernel
theorem d_V_run_30 : decode b_V_run 30 = .ok (.aload_n 0, 1) := by decide +kernel
theorem d_V_run_31 : decode b_V_run 31 = .ok (.dup, 1) := by decide +kernel
theorem d_V_run_32 : decode b_V_run 32 = .ok (.getfield 103, 3) := by decide +kernel
theorem d_V_run_35 : decode b_V_run 35 = .ok (.iconst 1, 1) := by decide +kernel
theorem d_V_run_36 : decode b_V_run 36 = .ok (.iadd, 1) := by decide +kernel
theorem d_V_run_37 : decode b_V_run 37 = .ok (.putfield 103, 3) := by decide +kernel
theorem d_V_run_40 : decode b_V_run 40 = .ok (.aload_n 0, 1) := by decide +kernel
theorem d_V_run_41 : decode b_V_run 41 = .ok (.invokevirtual 113, 3) := by decide +kernel
theorem d_V_run_44 : decode b_V_run 44 = .ok (.aload_n 0, 1) := by decide +kernel
theorem d_V_run_45 : decode b_V_run 45 = .ok (.getfield 29, 3) := by decide +kernel
theorem d_V_run_48 : decode b_V_run 48 = .ok (.invokevirtual 116, 3) := by decide +kernel
theorem d_V_run_51 : decode b_V_run 51 = .ok (.aload_n 0, 1) := by decide +kernel
theorem d_V_run_52 : decode b_V_run 52 = .ok (.invokevirtual 119, 3) := by decide +kernel
theorem d_V_run_55 : decode b_V_run 55 = .ok (.aload_n 0, 1) := by decide +kernel
theorem d_V_run_56 : decode b_V_run 56 = .ok (.getfield 103, 3) := by decide +kernel
theorem d_V_run_59 : decode b_V_run 59 = .ok (.aload_n 0, 1) := by decide +kernel
theorem d_V_run_60 : decode b_V_run 60 = .ok (.getfield 49, 3) := by decide +kernel
theorem d_V_run_63 : decode b_V_run 63 = .ok (.irem, 1) := by decide +kernel
theorem d_V_run_64 : decode b_V_run 64 = .ok (.ifCond .ne (-49), 3) := by decide +kernel
theorem d_V_run_67 : decode b_V_run 67 = .ok (.aload_n 0, 1) := by decide +kernel
theorem d_V_run_68 : decode b_V_run 68 = .ok (.invokevirtual 122, 3) := by decide +kernel
theorem d_V_run_71 : decode b_V_run 71 = .ok (.goto (-56), 3) := by decide +kernel
theorem d_Mo_run_0 : decode b_Mo_run 0 = .ok (.iload_n 1, 1) := by decide +kernel
theorem d_Mo_run_1 : decode b_Mo_run 1 = .ok (.sipush 500, 3) := by decide +kernel
theorem d_Mo_run_4 : decode b_Mo_run 4 = .ok (.invokestatic 135, 3) := by decide +kernel
theorem d_Mo_run_7 : decode b_Mo_run 7 = .ok (.ifCond .eq 5, 3) := by decide +kernel
theorem d_Mo_run_12 : decode b_Mo_run 12 = .ok (.iconst 0, 1) := by decide +kernel
theorem d_Mo_run_13 : decode b_Mo_run 13 = .ok (.istore_n 2, 1) := by decide +kernel
theorem d_Mo_run_14 : decode b_Mo_run 14 = .ok (.iload_n 2, 1) := by decide +kernel
theorem d_Mo_run_15 : decode b_Mo_run 15 = .ok (.iload_n 1, 1) := by decide +kernel
theorem d_Mo_run_16 : decode b_Mo_run 16 = .ok (.if_icmp .ge 54, 3) := by decide +kernel
theorem d_Mo_run_70 : decode b_Mo_run 70 = .ok (.iload_n 2, 1) := by decide +kernel
theorem d_Mo_run_71 : decode b_Mo_run 71 = .ok (.ireturn, 1) := by decide +kernel
theorem d_Mo_run_19 : decode b_Mo_run 19 = .ok (.aload_n 0, 1) := by decide +kernel
theorem d_Mo_run_20 : decode b_Mo_run 20 = .ok (.getfield 94, 3) := by decide +kernel
theorem d_Mo_run_23 : decode b_Mo_run 23 = .ok (.ifCond .ne 47, 3) := by decide +kernel
theorem d_Mo_run_26 : decode b_Mo_run 26 = .ok (.aload_n 0, 1) := by decide +kernel
theorem d_Mo_run_27 : decode b_Mo_run 27 = .ok (.dup, 1) := by decide +kernel
theorem d_Mo_run_28 : decode b_Mo_run 28 = .ok (.getfield 190, 3) := by decide +kernel
theorem d_Mo_run_31 : decode b_Mo_run 31 = .ok (.iconst 1, 1) := by decide +kernel
theorem d_Mo_run_32 : decode b_Mo_run 32 = .ok (.iadd, 1) := by decide +kernel
theorem d_Mo_run_33 : decode b_Mo_run 33 = .ok (.putfield 190, 3) := by decide +kernel
theorem d_Mo_run_36 : decode b_Mo_run 36 = .ok (.aload_n 0, 1) := by decide +kernel
theorem d_Mo_run_37 : decode b_Mo_run 37 = .ok (.invokevirtual 196, 3) := by decide +kernel
theorem d_Mo_run_40 : decode b_Mo_run 40 = .ok (.aload_n 0, 1) := by decide +kernel
theorem d_Mo_run_41 : decode b_Mo_run 41 = .ok (.invokevirtual 199, 3) := by decide +kernel
theorem d_Mo_run_44 : decode b_Mo_run 44 = .ok (.aload_n 0, 1) := by decide +kernel
theorem d_Mo_run_45 : decode b_Mo_run 45 = .ok (.invokevirtual 202, 3) := by decide +kernel
theorem d_Mo_run_48 : decode b_Mo_run 48 = .ok (.aload_n 0, 1) := by decide +kernel
theorem d_Mo_run_49 : decode b_Mo_run 49 = .ok (.getfield 190, 3) := by decide +kernel
theorem d_Mo_run_52 : decode b_Mo_run 52 = .ok (.aload_n 0, 1) := by decide +kernel
theorem d_Mo_run_53 : decode b_Mo_run 53 = .ok (.getfield 32, 3) := by decide +kernel
theorem d_Mo_run_56 : decode b_Mo_run 56 = .ok (.irem, 1) := by decide +kernel
theorem d_Mo_run_57 : decode b_Mo_run 57 = .ok (.ifCond .ne 7, 3) := by decide +kernel
theorem d_Mo_run_64 : decode b_Mo_run 64 = .ok (.iinc 2 1, 3) := by decide +kernel
theorem d_Mo_run_67 : decode b_Mo_run 67 = .ok (.goto (-53), 3) := by decide +kernel
theorem d_Mo_run_60 : decode b_Mo_run 60 = .ok (.aload_n 0, 1) := by decide +kernel
theorem d_Mo_run_61 : decode b_Mo_run 61 = .ok (.invokevirtual 205, 3) := by decide +kernel
theorem d_Mo_run_10 : decode b_Mo_run 10 = .ok (.iconst (-1), 1) := by decide +kernel
theorem d_Mo_run_11 : decode b_Mo_run 11 = .ok (.ireturn, 1) := by decide +kernel
end
section
def u_ush (x y : Int32) : Int32 := (x.toUInt32 >>> (y.toUInt32 &&& Int32.toUInt32 31)).toInt32
def u_lush (x : Int64) (y : Int32) : Int64 := (x.toUInt64 >>> (y.toInt64.toUInt64 &&& Int64.toUInt64 63)).toInt64
def u_lshl (x : Int64) (y : Int32) : Int64 := x <<< (y.toInt64 &&& 63)
def u_lshr (x : Int64) (y : Int32) : Int64 := x >>> (y.toInt64 &&& 63)
def u_rem (x y : Int32) : Int32 := x - x / y * y
def numL : Nat → Int64 := fun k => match k with
  | 0 => 183251937962
  | 1 => 329853488332
  | 2 => 485078659312
  | 3 => 4278255360
  | 4 => 4294901760
  | _ => 545460846592
def numV : Nat → Value := fun k => .long (numL k)
def f_Lg_bitCount (i : Int64) : Int32 :=
  let t1 := (((i - ((u_lush i (1 : Int32)) &&& (6148914691236517205 : Int64))) &&& (3689348814741910323 : Int64)) + ((u_lush (i - ((u_lush i (1 : Int32)) &&& (6148914691236517205 : Int64))) (2 : Int32)) &&& (3689348814741910323 : Int64)))
  let t2 := (((t1 + (u_lush t1 (4 : Int32))) &&& (1085102592571150095 : Int64)) + (u_lush ((t1 + (u_lush t1 (4 : Int32))) &&& (1085102592571150095 : Int64)) (8 : Int32)))
  (((((t2 + (u_lush t2 (16 : Int32))) + (u_lush (t2 + (u_lush t2 (16 : Int32))) (32 : Int32))).toInt32) &&& (127 : Int32)))
def f_In_compare (x : Int32) (y : Int32) : Int32 :=
  if y ≤ x then
    if x = y then
      ((0 : Int32))
    else
      ((1 : Int32))
  else
    ((-1 : Int32))
def f_In_compareUnsigned (x : Int32) (y : Int32) : Int32 :=
  ((f_In_compare (x + (-2147483648 : Int32)) (y + (-2147483648 : Int32))))
def f_Ar_fill (L : Nat → Int64) (v : Int64) : (Nat → Int64) :=
  ((vp_updL (vp_updL (vp_updL (vp_updL L (0 : Int32).toNatClampNeg v) (1 : Int32).toNatClampNeg v) (2 : Int32).toNatClampNeg v) (3 : Int32).toNatClampNeg v))
def f_Co_op (k : Int32) : Int32 :=
  ((k &&& (127 : Int32)))
def f_Co_d (k : Int32) : Int32 :=
  (((u_ush k (7 : Int32)) &&& (31 : Int32)))
def f_Co_f (k : Int32) : Int32 :=
  (((u_ush k (12 : Int32)) &&& (7 : Int32)))
def f_Co_s (k : Int32) : Int32 :=
  (((u_ush k (15 : Int32)) &&& (31 : Int32)))
def f_Co_t (k : Int32) : Int32 :=
  (((u_ush k (20 : Int32)) &&& (31 : Int32)))
def f_Co_g (k : Int32) : Int32 :=
  ((u_ush k (25 : Int32)))
def f_Co_i (k : Int32) : Int32 :=
  ((k >>> ((20 : Int32) &&& 31)))
def f_Co_j (k : Int32) : Int32 :=
  ((((k >>> ((25 : Int32) &&& 31)) <<< ((5 : Int32) &&& 31)) ||| (f_Co_d k)))
def f_Co_k (k : Int32) : Int32 :=
  ((((((k >>> ((31 : Int32) &&& 31)) <<< ((12 : Int32) &&& 31)) ||| (((u_ush k (7 : Int32)) &&& (1 : Int32)) <<< ((11 : Int32) &&& 31))) ||| (((u_ush k (25 : Int32)) &&& (63 : Int32)) <<< ((5 : Int32) &&& 31))) ||| (((u_ush k (8 : Int32)) &&& (15 : Int32)) <<< ((1 : Int32) &&& 31))))
def f_Co_u (k : Int32) : Int32 :=
  ((k &&& (-4096 : Int32)))
def f_Co_l (k : Int32) : Int32 :=
  ((((((k >>> ((31 : Int32) &&& 31)) <<< ((20 : Int32) &&& 31)) ||| (k &&& (1044480 : Int32))) ||| (((u_ush k (20 : Int32)) &&& (1 : Int32)) <<< ((11 : Int32) &&& 31))) ||| (((u_ush k (21 : Int32)) &&& (1023 : Int32)) <<< ((1 : Int32) &&& 31))))
def f_Co_size (k : Int32) : Int32 :=
  (((1 : Int32) <<< ((k &&& (3 : Int32)) &&& 31)))
def f_Co_shiftOf (a : Int32) : Int32 :=
  (((a &&& (3 : Int32)) <<< ((3 : Int32) &&& 31)))
def f_Co_loaded (f : Int32) (v : Int32) : Int32 :=
  if f = (0 : Int32) then
    ((v.toInt8.toInt32))
  else
    if f = (1 : Int32) then
      ((v.toInt16.toInt32))
    else
      if f = (2 : Int32) then
        (v)
      else
        if f = (3 : Int32) then
          (v)
        else
          if f = (4 : Int32) then
            ((v &&& (255 : Int32)))
          else
            if f = (5 : Int32) then
              ((v &&& (65535 : Int32)))
            else
              (v)
def f_Co_isTaken (f : Int32) (a : Int32) (b : Int32) : Int32 :=
  if f = (0 : Int32) then
    if a = b then
      ((1 : Int32))
    else
      ((0 : Int32))
  else
    if f = (1 : Int32) then
      if a = b then
        ((0 : Int32))
      else
        ((1 : Int32))
    else
      if f = (2 : Int32) then
        if (f_In_compareUnsigned a b) < 0 then
          ((0 : Int32))
        else
          ((1 : Int32))
      else
        if f = (3 : Int32) then
          if (f_In_compareUnsigned a b) < 0 then
            ((0 : Int32))
          else
            ((1 : Int32))
        else
          if f = (4 : Int32) then
            if b ≤ a then
              ((0 : Int32))
            else
              ((1 : Int32))
          else
            if f = (5 : Int32) then
              if a < b then
                ((0 : Int32))
              else
                ((1 : Int32))
            else
              if f = (6 : Int32) then
                if 0 ≤ (f_In_compareUnsigned a b) then
                  ((0 : Int32))
                else
                  ((1 : Int32))
              else
                if (f_In_compareUnsigned a b) < 0 then
                  ((0 : Int32))
                else
                  ((1 : Int32))
def f_Co_computed (f : Int32) (o : Int32) (a : Int32) (b : Int32) : Int32 :=
  if f = (0 : Int32) then
    if o = 0 then
      ((a + b))
    else
      ((a - b))
  else
    if f = (1 : Int32) then
      ((a <<< ((b &&& (31 : Int32)) &&& 31)))
    else
      if f = (2 : Int32) then
        if b ≤ a then
          ((0 : Int32))
        else
          ((1 : Int32))
      else
        if f = (3 : Int32) then
          if 0 ≤ (f_In_compareUnsigned a b) then
            ((0 : Int32))
          else
            ((1 : Int32))
        else
          if f = (4 : Int32) then
            ((a ^^^ b))
          else
            if f = (5 : Int32) then
              if o = 0 then
                ((u_ush a (b &&& (31 : Int32))))
              else
                ((a >>> ((b &&& (31 : Int32)) &&& 31)))
            else
              if f = (6 : Int32) then
                ((a ||| b))
              else
                ((a &&& b))
def f_Me_xorOfNumbers (x : Int64) : Int32 :=
  let t1 := ((0 : Int32) ||| (((f_Lg_bitCount (x &&& (numL (0 : Int32).toNatClampNeg))) &&& (1 : Int32)) <<< ((0 : Int32) &&& 31)))
  let t2 := (t1 ||| (((f_Lg_bitCount (x &&& (numL (1 : Int32).toNatClampNeg))) &&& (1 : Int32)) <<< ((1 : Int32) &&& 31)))
  let t3 := (t2 ||| (((f_Lg_bitCount (x &&& (numL (2 : Int32).toNatClampNeg))) &&& (1 : Int32)) <<< ((2 : Int32) &&& 31)))
  let t4 := (t3 ||| (((f_Lg_bitCount (x &&& (numL (3 : Int32).toNatClampNeg))) &&& (1 : Int32)) <<< ((3 : Int32) &&& 31)))
  let t5 := (t4 ||| (((f_Lg_bitCount (x &&& (numL (4 : Int32).toNatClampNeg))) &&& (1 : Int32)) <<< ((4 : Int32) &&& 31)))
  let t6 := (t5 ||| (((f_Lg_bitCount (x &&& (numL (5 : Int32).toNatClampNeg))) &&& (1 : Int32)) <<< ((5 : Int32) &&& 31)))
  (t6)
def f_Me_spread (v : Int32) : Int64 :=
  ((((((u_lshl ((v.toInt64) &&& (1 : Int64)) (3 : Int32)) ||| (u_lshl ((v.toInt64) &&& (14 : Int64)) (4 : Int32))) ||| (u_lshl ((v.toInt64) &&& (2032 : Int64)) (5 : Int32))) ||| (u_lshl ((v.toInt64) &&& (67106816 : Int64)) (6 : Int32))) ||| (u_lshl ((v.toInt64) &&& (4227858432 : Int64)) (7 : Int32))))
def f_Me_gathered (x : Int64) : Int64 :=
  (((((((u_lush x (3 : Int32)) &&& (1 : Int64)) ||| ((u_lush x (4 : Int32)) &&& (14 : Int64))) ||| ((u_lush x (5 : Int32)) &&& (2032 : Int64))) ||| ((u_lush x (6 : Int32)) &&& (67106816 : Int64))) ||| ((u_lush x (7 : Int32)) &&& (4227858432 : Int64))))
def f_Me_putRight (x : Int64) : Int64 :=
  if ((f_Lg_bitCount x) &&& (1 : Int32)) = (1 : Int32) then
    if (39 : Int32) ≤ (f_Me_xorOfNumbers x) then
      ((-2 : Int64))
    else
      ((x ^^^ (u_lshl (1 : Int64) (f_Me_xorOfNumbers x))))
  else
    if (f_Me_xorOfNumbers x) = 0 then
      (x)
    else
      ((-2 : Int64))
def f_Me_keep (K : Nat → Int64) (w : Int32) (v : Int32) : (Nat → Int64) :=
  let t1 := ((f_Me_spread v) ||| (u_lshl (((u_ush (f_Me_xorOfNumbers (f_Me_spread v)) (0 : Int32)).toInt64) &&& (1 : Int64)) ((1 : Int32) <<< ((0 : Int32) &&& 31))))
  let t2 := (t1 ||| (u_lshl (((u_ush (f_Me_xorOfNumbers (f_Me_spread v)) (1 : Int32)).toInt64) &&& (1 : Int64)) ((1 : Int32) <<< ((1 : Int32) &&& 31))))
  let t3 := (t2 ||| (u_lshl (((u_ush (f_Me_xorOfNumbers (f_Me_spread v)) (2 : Int32)).toInt64) &&& (1 : Int64)) ((1 : Int32) <<< ((2 : Int32) &&& 31))))
  let t4 := (t3 ||| (u_lshl (((u_ush (f_Me_xorOfNumbers (f_Me_spread v)) (3 : Int32)).toInt64) &&& (1 : Int64)) ((1 : Int32) <<< ((3 : Int32) &&& 31))))
  let t5 := (t4 ||| (u_lshl (((u_ush (f_Me_xorOfNumbers (f_Me_spread v)) (4 : Int32)).toInt64) &&& (1 : Int64)) ((1 : Int32) <<< ((4 : Int32) &&& 31))))
  let t6 := (t5 ||| (u_lshl (((u_ush (f_Me_xorOfNumbers (f_Me_spread v)) (5 : Int32)).toInt64) &&& (1 : Int64)) ((1 : Int32) <<< ((5 : Int32) &&& 31))))
  ((vp_updL K w.toNatClampNeg (t6 ||| (((f_Lg_bitCount t6) &&& (1 : Int32)).toInt64))))
def f_Me_inspect (K : Nat → Int64) (w : Int32) : Int64 :=
  if (lg_cmp (f_Me_putRight (K w.toNatClampNeg)) (-2 : Int64)) = 0 then
    ((-2 : Int64))
  else
    ((f_Me_gathered (f_Me_putRight (K w.toNatClampNeg))))
def f_Me_mend (K : Nat → Int64) (co : Int32) (w : Int32) : Int64 × (Nat → Int64) × Int32 :=
  if (lg_cmp (f_Me_putRight (K w.toNatClampNeg)) (-2 : Int64)) = 0 then
    ((-2 : Int64), K, co)
  else
    if (lg_cmp (f_Me_putRight (K w.toNatClampNeg)) (K w.toNatClampNeg)) = 0 then
      ((f_Me_gathered (f_Me_putRight (K w.toNatClampNeg))), K, co)
    else
      ((f_Me_gathered (f_Me_putRight (K w.toNatClampNeg))), (vp_updL K w.toNatClampNeg (f_Me_putRight (K w.toNatClampNeg))), (co + (1 : Int32)))
def f_Ca_dropAll (L : Nat → Int64) : (Nat → Int64) :=
  ((f_Ar_fill L (0 : Int64)))
def f_Ca_drop (L : Nat → Int64) (w : Int32) : (Nat → Int64) :=
  ((vp_updL L (w &&& (3 : Int32)).toNatClampNeg (0 : Int64)))
def f_Ca_dropIfWrong (L : Nat → Int64) (rf : Int32) (w : Int32) : (Nat → Int64) × Int32 :=
  if ((f_Lg_bitCount (L (w &&& (3 : Int32)).toNatClampNeg)) &&& (1 : Int32)) = (1 : Int32) then
    ((vp_updL L (w &&& (3 : Int32)).toNatClampNeg (0 : Int64)), (rf + (1 : Int32)))
  else
    (L, rf)
def f_Ca_holds (L : Nat → Int64) (w : Int32) : Int32 :=
  if (lg_cmp ((u_lush (L (w &&& (3 : Int32)).toNatClampNeg) (32 : Int32)) &&& (31 : Int64)) (((16 : Int32) ||| (u_ush w (2 : Int32))).toInt64)) = 0 then
    ((1 : Int32))
  else
    ((0 : Int32))
def f_Ca_held (L : Nat → Int64) (w : Int32) : Int64 :=
  (((L (w &&& (3 : Int32)).toNatClampNeg) &&& (4294967295 : Int64)))
def f_Ca_fill (L : Nat → Int64) (w : Int32) (v : Int32) : (Nat → Int64) :=
  let t1 := (((v.toInt64) &&& (4294967295 : Int64)) ||| (u_lshl (((16 : Int32) ||| (u_ush w (2 : Int32))).toInt64) (32 : Int32)))
  ((vp_updL L (w &&& (3 : Int32)).toNatClampNeg (t1 ||| (u_lshl (((f_Lg_bitCount t1).toInt64) &&& (1 : Int64)) (37 : Int32)))))
def f_Re_agreed (R : Nat → Int32) (r : Int32) : Int32 :=
  (((((R ((3 : Int32) * r).toNatClampNeg) &&& (R (((3 : Int32) * r) + (1 : Int32)).toNatClampNeg)) ||| ((R ((3 : Int32) * r).toNatClampNeg) &&& (R (((3 : Int32) * r) + (2 : Int32)).toNatClampNeg))) ||| ((R (((3 : Int32) * r) + (1 : Int32)).toNatClampNeg) &&& (R (((3 : Int32) * r) + (2 : Int32)).toNatClampNeg))))
def f_Re_put (R : Nat → Int32) (r : Int32) (v : Int32) : (Nat → Int32) :=
  ((upd (upd (upd R ((3 : Int32) * r).toNatClampNeg v) (((3 : Int32) * r) + (1 : Int32)).toNatClampNeg v) (((3 : Int32) * r) + (2 : Int32)).toNatClampNeg v))
def f_Re_operand (R : Nat → Int32) (r : Int32) : Int32 :=
  if r = 0 then
    ((0 : Int32))
  else
    ((f_Re_agreed R r))
def f_Re_putResult (R : Nat → Int32) (r : Int32) (v : Int32) : (Nat → Int32) :=
  if r = 0 then
    (R)
  else
    ((f_Re_put R r v))
def f_Re_vote_l2  : Nat → Nat → (Nat → Int32) → Int32 → (Nat → Int32) × Int32
  | 0, j, R_, vo_ =>
    (R_, vo_)
  | n + 1, j, R_, vo_ =>
    if (R_ ((3 : Int32) * (nI j)).toNatClampNeg) = (R_ (((3 : Int32) * (nI j)) + (1 : Int32)).toNatClampNeg) then
      if (R_ ((3 : Int32) * (nI j)).toNatClampNeg) = (R_ (((3 : Int32) * (nI j)) + (2 : Int32)).toNatClampNeg) then
        f_Re_vote_l2  n (j + 1) R_ vo_
      else
        f_Re_vote_l2  n (j + 1) (f_Re_put R_ (nI j) (f_Re_agreed R_ (nI j))) (vo_ + (1 : Int32))
    else
      f_Re_vote_l2  n (j + 1) (f_Re_put R_ (nI j) (f_Re_agreed R_ (nI j))) (vo_ + (1 : Int32))
def f_Re_vote (R : Nat → Int32) (vo : Int32) : (Nat → Int32) × Int32 :=
  f_Re_vote_l2  32 0 R vo
def f_Fa_append (FC : Nat → Int32) (FP : Nat → Int32) (FB : Nat → Int32) (fs : Int32) (dc : Int32) (dp : Int32) (db : Int32) : (Nat → Int32) × (Nat → Int32) × (Nat → Int32) × Int32 :=
  ((upd FC fs.toNatClampNeg dc), (upd FP fs.toNatClampNeg dp), (upd FB fs.toNatClampNeg db), (fs + (1 : Int32)))
def f_Fa_move (FC : Nat → Int32) (FP : Nat → Int32) (FB : Nat → Int32) (i : Int32) (j : Int32) : (Nat → Int32) × (Nat → Int32) × (Nat → Int32) :=
  ((upd FC j.toNatClampNeg (FC i.toNatClampNeg)), (upd FP j.toNatClampNeg (FP i.toNatClampNeg)), (upd FB j.toNatClampNeg (FB i.toNatClampNeg)))
def f_V_isWord (w : Int32) : Int32 :=
  if w < 0 then
    ((0 : Int32))
  else
    if (64 : Int32) ≤ w then
      ((0 : Int32))
    else
      ((1 : Int32))
def f_V_isRegister (w : Int32) : Int32 :=
  if w < 0 then
    ((0 : Int32))
  else
    if (32 : Int32) ≤ w then
      ((0 : Int32))
    else
      ((1 : Int32))
def f_V_isBit (part : Int32) (bit : Int32) : Int32 :=
  if part < 0 then
    ((0 : Int32))
  else
    if (168 : Int32) ≤ part then
      ((0 : Int32))
    else
      if 0 ≤ bit then
        if (64 : Int32) ≤ part then
          if (160 : Int32) ≤ part then
            if (38 : Int32) ≤ bit then
              ((0 : Int32))
            else
              ((1 : Int32))
          else
            if (32 : Int32) ≤ bit then
              ((0 : Int32))
            else
              ((1 : Int32))
        else
          if (39 : Int32) ≤ bit then
            ((0 : Int32))
          else
            ((1 : Int32))
      else
        ((0 : Int32))
def f_V_isAddress (a : Int32) (z : Int32) : Int32 :=
  if a < 0 then
    ((0 : Int32))
  else
    if (255 : Int32) < a then
      ((0 : Int32))
    else
      if (a &&& (z - (1 : Int32))) = 0 then
        ((1 : Int32))
      else
        ((0 : Int32))
def f_V_invert (K : Nat → Int64) (L1 : Nat → Int64) (L2 : Nat → Int64) (R : Nat → Int32) (part : Int32) (bit : Int32) : (Nat → Int64) × (Nat → Int64) × (Nat → Int64) × (Nat → Int32) :=
  if (64 : Int32) ≤ part then
    if (160 : Int32) ≤ part then
      if (164 : Int32) ≤ part then
        (K, L1, (vp_updL L2 (part - (164 : Int32)).toNatClampNeg ((L2 (part - (164 : Int32)).toNatClampNeg) ^^^ (u_lshl (1 : Int64) bit))), R)
      else
        (K, (vp_updL L1 (part - (160 : Int32)).toNatClampNeg ((L1 (part - (160 : Int32)).toNatClampNeg) ^^^ (u_lshl (1 : Int64) bit))), L2, R)
    else
      (K, L1, L2, (upd R (part - (64 : Int32)).toNatClampNeg ((R (part - (64 : Int32)).toNatClampNeg) ^^^ ((1 : Int32) <<< (bit &&& 31)))))
  else
    ((vp_updL K part.toNatClampNeg ((K part.toNatClampNeg) ^^^ (u_lshl (1 : Int64) bit))), L1, L2, R)
def f_V_write (K : Nat → Int64) (L1 : Nat → Int64) (L2 : Nat → Int64) (w : Int32) (v : Int32) : Int32 × (Nat → Int64) × (Nat → Int64) × (Nat → Int64) :=
  if (f_V_isWord w) = 0 then
    ((0 : Int32), K, L1, L2)
  else
    ((1 : Int32), (f_Me_keep K w v), (f_Ca_dropAll L1), (f_Ca_dropAll L2))
def f_V_set (R : Nat → Int32) (w : Int32) (v : Int32) : Int32 × (Nat → Int32) :=
  if (f_V_isRegister w) = 0 then
    ((0 : Int32), R)
  else
    ((1 : Int32), (f_Re_put R w v))
def f_V_register (R : Nat → Int32) (w : Int32) : Int32 :=
  if (f_V_isRegister w) = 0 then
    ((0 : Int32))
  else
    ((f_Re_agreed R w))
def f_V_look (K : Nat → Int64) (w : Int32) : Int64 :=
  if (f_V_isWord w) = 0 then
    ((-1 : Int64))
  else
    ((f_Me_inspect K w))
def f_V_bits (K : Nat → Int64) (L1 : Nat → Int64) (L2 : Nat → Int64) (R : Nat → Int32) (part : Int32) : Int64 :=
  if part < 0 then
    ((-1 : Int64))
  else
    if part < (168 : Int32) then
      if (64 : Int32) ≤ part then
        if (160 : Int32) ≤ part then
          if (164 : Int32) ≤ part then
            ((L2 (part - (164 : Int32)).toNatClampNeg))
          else
            ((L1 (part - (160 : Int32)).toNatClampNeg))
        else
          ((((R (part - (64 : Int32)).toNatClampNeg).toInt64) &&& (4294967295 : Int64)))
      else
        ((K part.toNatClampNeg))
    else
      ((-1 : Int64))
def f_V_flip (K : Nat → Int64) (L1 : Nat → Int64) (L2 : Nat → Int64) (R : Nat → Int32) (part : Int32) (bit : Int32) : Int32 × (Nat → Int64) × (Nat → Int64) × (Nat → Int64) × (Nat → Int32) :=
  if (f_V_isBit part bit) = 0 then
    ((0 : Int32), K, L1, L2, R)
  else
    let t1 := f_V_invert K L1 L2 R part bit
    ((1 : Int32), t1.1, t1.2.1, t1.2.2.1, t1.2.2.2)
def f_V_plan (FC : Nat → Int32) (FP : Nat → Int32) (FB : Nat → Int32) (fs : Int32) (cy : Int32) (n_ : Int32) (part : Int32) (bit : Int32) : Int32 × (Nat → Int32) × (Nat → Int32) × (Nat → Int32) × Int32 :=
  if n_ < (1 : Int32) then
    ((0 : Int32), FC, FP, FB, fs)
  else
    if (1000 : Int32) < n_ then
      ((0 : Int32), FC, FP, FB, fs)
    else
      if (f_V_isBit part bit) = 0 then
        ((0 : Int32), FC, FP, FB, fs)
      else
        if fs = (16 : Int32) then
          ((0 : Int32), FC, FP, FB, fs)
        else
          let t1 := f_Fa_append FC FP FB fs (cy + n_) part bit
          ((1 : Int32), t1.1, t1.2.1, t1.2.2.1, t1.2.2.2)
def f_V_planned (fs : Int32) : Int32 :=
  (fs)
def f_V_cause (ca : Int32) : Int32 :=
  (ca)
def f_V_value (va : Int32) : Int32 :=
  (va)
def f_V_cycles (cy : Int32) : Int32 :=
  (cy)
def f_V_count (co : Int32) (r1 : Int32) (r2 : Int32) (vo : Int32) (sp : Int32) (de : Int32) (w : Int32) : Int32 :=
  if w = (0 : Int32) then
    (co)
  else
    if w = (1 : Int32) then
      (de)
    else
      if w = (2 : Int32) then
        (vo)
      else
        if w = (3 : Int32) then
          (r1)
        else
          if w = (4 : Int32) then
            (r2)
          else
            if w = (5 : Int32) then
              (sp)
            else
              ((-1 : Int32))
def f_V_stop (ca : Int32) (va : Int32) (x : Int32) (v : Int32) : Int32 × Int32 :=
  (x, v)
def f_V_resume (R : Nat → Int32) (ca : Int32) (va : Int32) (v : Int32) : Int32 × (Nat → Int32) × Int32 × Int32 :=
  if ca = 0 then
    ((0 : Int32), R, ca, va)
  else
    let t1 := f_V_stop ca va (0 : Int32) (0 : Int32)
    ((1 : Int32), (f_Re_put R (0 : Int32) v), t1.1, t1.2)
def f_V_makePlannedFaults_l4 (cy : Int32) : Nat → Nat → Int32 → (Nat → Int64) → (Nat → Int64) → (Nat → Int64) → (Nat → Int32) → (Nat → Int32) → (Nat → Int32) → (Nat → Int32) → (Nat → Int64) × (Nat → Int64) × (Nat → Int64) × (Nat → Int32) × (Nat → Int32) × (Nat → Int32) × (Nat → Int32) × Int32
  | 0, j, le, K_, L1_, L2_, R_, FC_, FP_, FB_ =>
    (K_, L1_, L2_, R_, FC_, FP_, FB_, le)
  | n + 1, j, le, K_, L1_, L2_, R_, FC_, FP_, FB_ =>
    if (FC_ (nI j).toNatClampNeg) = cy then
      let t2 := f_V_invert K_ L1_ L2_ R_ (FP_ (nI j).toNatClampNeg) (FB_ (nI j).toNatClampNeg)
      f_V_makePlannedFaults_l4 cy n (j + 1) le t2.1 t2.2.1 t2.2.2.1 t2.2.2.2 FC_ FP_ FB_
    else
      let t1 := f_Fa_move FC_ FP_ FB_ (nI j) le
      f_V_makePlannedFaults_l4 cy n (j + 1) (le + 1) K_ L1_ L2_ R_ t1.1 t1.2.1 t1.2.2
def f_V_makePlannedFaults (K : Nat → Int64) (L1 : Nat → Int64) (L2 : Nat → Int64) (R : Nat → Int32) (FC : Nat → Int32) (FP : Nat → Int32) (FB : Nat → Int32) (fs : Int32) (cy : Int32) : (Nat → Int64) × (Nat → Int64) × (Nat → Int64) × (Nat → Int32) × (Nat → Int32) × (Nat → Int32) × (Nat → Int32) × Int32 :=
  f_V_makePlannedFaults_l4 cy fs.toNatClampNeg 0 (0 : Int32) K L1 L2 R FC FP FB
def f_V_scrub (K : Nat → Int64) (co : Int32) (sp : Int32) (de : Int32) : (Nat → Int64) × Int32 × Int32 × Int32 :=
  let t1 := f_Me_mend K co sp
  if (lg_cmp t1.1 (-2 : Int64)) = 0 then
    (t1.2.1, t1.2.2, (u_rem (sp + (1 : Int32)) (64 : Int32)), (de + (1 : Int32)))
  else
    (t1.2.1, t1.2.2, (u_rem (sp + (1 : Int32)) (64 : Int32)), de)
def f_V_fetch1 (K : Nat → Int64) (co : Int32) (L1 : Nat → Int64) (r1 : Int32) (w : Int32) : Int64 × (Nat → Int64) × Int32 × (Nat → Int64) × Int32 :=
  let t1 := f_Ca_dropIfWrong L1 r1 w
  if (f_Ca_holds t1.1 w) = 0 then
    let t2 := f_Me_mend K co w
    if (lg_cmp t2.1 (-2 : Int64)) = 0 then
      (t2.1, t2.2.1, t2.2.2, t1.1, t1.2)
    else
      (t2.1, t2.2.1, t2.2.2, (f_Ca_fill t1.1 w (t2.1.toInt32)), t1.2)
  else
    ((f_Ca_held t1.1 w), K, co, t1.1, t1.2)
def f_V_fetch2 (K : Nat → Int64) (co : Int32) (L2 : Nat → Int64) (r2 : Int32) (w : Int32) : Int64 × (Nat → Int64) × Int32 × (Nat → Int64) × Int32 :=
  let t1 := f_Ca_dropIfWrong L2 r2 w
  if (f_Ca_holds t1.1 w) = 0 then
    let t2 := f_Me_mend K co w
    if (lg_cmp t2.1 (-2 : Int64)) = 0 then
      (t2.1, t2.2.1, t2.2.2, t1.1, t1.2)
    else
      (t2.1, t2.2.1, t2.2.2, (f_Ca_fill t1.1 w (t2.1.toInt32)), t1.2)
  else
    ((f_Ca_held t1.1 w), K, co, t1.1, t1.2)
def f_V_save (K : Nat → Int64) (L1 : Nat → Int64) (r1 : Int32) (L2 : Nat → Int64) (r2 : Int32) (w : Int32) (v : Int32) : (Nat → Int64) × (Nat → Int64) × Int32 × (Nat → Int64) × Int32 :=
  let t1 := f_Ca_dropIfWrong L1 r1 w
  let t2 := f_Ca_dropIfWrong L2 r2 w
  if (f_Ca_holds t1.1 w) = 0 then
    if (f_Ca_holds t2.1 w) = 0 then
      ((f_Me_keep K w v), t1.1, t1.2, t2.1, t2.2)
    else
      ((f_Me_keep K w v), t1.1, t1.2, (f_Ca_fill t2.1 w v), t2.2)
  else
    if (f_Ca_holds t2.1 w) = 0 then
      ((f_Me_keep K w v), (f_Ca_drop t1.1 w), t1.2, t2.1, t2.2)
    else
      ((f_Me_keep K w v), (f_Ca_drop t1.1 w), t1.2, (f_Ca_fill t2.1 w v), t2.2)
def f_V_goOn (R : Nat → Int32) (pl : Int32) : (Nat → Int32) :=
  ((f_Re_put R (0 : Int32) (pl + (4 : Int32))))
def f_V_finish (R : Nat → Int32) (pl : Int32) (d : Int32) (v : Int32) : (Nat → Int32) :=
  ((f_V_goOn (f_Re_putResult R d v) pl))
def f_V_jump (R : Nat → Int32) (ca : Int32) (va : Int32) (pl : Int32) (d : Int32) (v : Int32) : (Nat → Int32) × Int32 × Int32 :=
  if (v &&& (3 : Int32)) = 0 then
    ((f_Re_put (f_Re_putResult R d (pl + (4 : Int32))) (0 : Int32) v), ca, va)
  else
    let t1 := f_V_stop ca va (1 : Int32) v
    (R, t1.1, t1.2)
def f_V_jumpByRegister (R : Nat → Int32) (ca : Int32) (va : Int32) (pl : Int32) (k : Int32) : (Nat → Int32) × Int32 × Int32 :=
  if (f_Co_f k) = 0 then
    let t1 := f_V_jump R ca va pl (f_Co_d k) (((f_Re_operand R (f_Co_s k)) + (f_Co_i k)) &&& (-2 : Int32))
    (t1.1, t1.2.1, t1.2.2)
  else
    let t2 := f_V_stop ca va (2 : Int32) k
    (R, t2.1, t2.2)
def f_V_branch (R : Nat → Int32) (ca : Int32) (va : Int32) (pl : Int32) (k : Int32) : (Nat → Int32) × Int32 × Int32 :=
  if (f_Co_f k) = (2 : Int32) then
    let t1 := f_V_stop ca va (2 : Int32) k
    (R, t1.1, t1.2)
  else
    if (f_Co_f k) = (3 : Int32) then
      let t3 := f_V_stop ca va (2 : Int32) k
      (R, t3.1, t3.2)
    else
      if (f_Co_isTaken (f_Co_f k) (f_Re_operand R (f_Co_s k)) (f_Re_operand R (f_Co_t k))) = 0 then
        ((f_V_goOn R pl), ca, va)
      else
        let t2 := f_V_jump R ca va pl (0 : Int32) (pl + (f_Co_k k))
        (t2.1, t2.2.1, t2.2.2)
def f_V_load (K : Nat → Int64) (co : Int32) (L2 : Nat → Int64) (r2 : Int32) (R : Nat → Int32) (ca : Int32) (va : Int32) (pl : Int32) (k : Int32) : (Nat → Int64) × Int32 × (Nat → Int64) × Int32 × (Nat → Int32) × Int32 × Int32 :=
  if (f_Co_f k) = (3 : Int32) then
    let t1 := f_V_stop ca va (2 : Int32) k
    (K, co, L2, r2, R, t1.1, t1.2)
  else
    if (f_Co_f k) ≤ (5 : Int32) then
      if (f_V_isAddress ((f_Re_operand R (f_Co_s k)) + (f_Co_i k)) (f_Co_size (f_Co_f k))) = 0 then
        let t4 := f_V_stop ca va (1 : Int32) ((f_Re_operand R (f_Co_s k)) + (f_Co_i k))
        (K, co, L2, r2, R, t4.1, t4.2)
      else
        let t2 := f_V_fetch2 K co L2 r2 (u_ush ((f_Re_operand R (f_Co_s k)) + (f_Co_i k)) (2 : Int32))
        if (lg_cmp t2.1 (-2 : Int64)) = 0 then
          let t3 := f_V_stop ca va (5 : Int32) (u_ush ((f_Re_operand R (f_Co_s k)) + (f_Co_i k)) (2 : Int32))
          (t2.2.1, t2.2.2.1, t2.2.2.2.1, t2.2.2.2.2, R, t3.1, t3.2)
        else
          (t2.2.1, t2.2.2.1, t2.2.2.2.1, t2.2.2.2.2, (f_V_finish R pl (f_Co_d k) (f_Co_loaded (f_Co_f k) (u_ush (t2.1.toInt32) (f_Co_shiftOf ((f_Re_operand R (f_Co_s k)) + (f_Co_i k)))))), ca, va)
    else
      let t5 := f_V_stop ca va (2 : Int32) k
      (K, co, L2, r2, R, t5.1, t5.2)
def f_V_store (K : Nat → Int64) (co : Int32) (L1 : Nat → Int64) (r1 : Int32) (L2 : Nat → Int64) (r2 : Int32) (R : Nat → Int32) (ca : Int32) (va : Int32) (pl : Int32) (k : Int32) : (Nat → Int64) × Int32 × (Nat → Int64) × Int32 × (Nat → Int64) × Int32 × (Nat → Int32) × Int32 × Int32 :=
  if (f_Co_f k) ≤ (2 : Int32) then
    if (f_V_isAddress ((f_Re_operand R (f_Co_s k)) + (f_Co_j k)) (f_Co_size (f_Co_f k))) = 0 then
      let t6 := f_V_stop ca va (1 : Int32) ((f_Re_operand R (f_Co_s k)) + (f_Co_j k))
      (K, co, L1, r1, L2, r2, R, t6.1, t6.2)
    else
      if (f_Co_f k) = (2 : Int32) then
        let t5 := f_V_save K L1 r1 L2 r2 (u_ush ((f_Re_operand R (f_Co_s k)) + (f_Co_j k)) (2 : Int32)) (f_Re_operand R (f_Co_t k))
        (t5.1, co, t5.2.1, t5.2.2.1, t5.2.2.2.1, t5.2.2.2.2, (f_V_goOn R pl), ca, va)
      else
        let t1 := f_V_fetch2 K co L2 r2 (u_ush ((f_Re_operand R (f_Co_s k)) + (f_Co_j k)) (2 : Int32))
        if (lg_cmp t1.1 (-2 : Int64)) = 0 then
          let t4 := f_V_stop ca va (5 : Int32) (u_ush ((f_Re_operand R (f_Co_s k)) + (f_Co_j k)) (2 : Int32))
          (t1.2.1, t1.2.2.1, L1, r1, t1.2.2.2.1, t1.2.2.2.2, R, t4.1, t4.2)
        else
          if (f_Co_f k) = 0 then
            let t3 := f_V_save t1.2.1 L1 r1 t1.2.2.2.1 t1.2.2.2.2 (u_ush ((f_Re_operand R (f_Co_s k)) + (f_Co_j k)) (2 : Int32)) (((t1.1.toInt32) &&& (((255 : Int32) <<< ((f_Co_shiftOf ((f_Re_operand R (f_Co_s k)) + (f_Co_j k))) &&& 31)) ^^^ (-1 : Int32))) ||| (((f_Re_operand R (f_Co_t k)) <<< ((f_Co_shiftOf ((f_Re_operand R (f_Co_s k)) + (f_Co_j k))) &&& 31)) &&& ((255 : Int32) <<< ((f_Co_shiftOf ((f_Re_operand R (f_Co_s k)) + (f_Co_j k))) &&& 31))))
            (t3.1, t1.2.2.1, t3.2.1, t3.2.2.1, t3.2.2.2.1, t3.2.2.2.2, (f_V_goOn R pl), ca, va)
          else
            let t2 := f_V_save t1.2.1 L1 r1 t1.2.2.2.1 t1.2.2.2.2 (u_ush ((f_Re_operand R (f_Co_s k)) + (f_Co_j k)) (2 : Int32)) (((t1.1.toInt32) &&& (((65535 : Int32) <<< ((f_Co_shiftOf ((f_Re_operand R (f_Co_s k)) + (f_Co_j k))) &&& 31)) ^^^ (-1 : Int32))) ||| (((f_Re_operand R (f_Co_t k)) <<< ((f_Co_shiftOf ((f_Re_operand R (f_Co_s k)) + (f_Co_j k))) &&& 31)) &&& ((65535 : Int32) <<< ((f_Co_shiftOf ((f_Re_operand R (f_Co_s k)) + (f_Co_j k))) &&& 31))))
            (t2.1, t1.2.2.1, t2.2.1, t2.2.2.1, t2.2.2.2.1, t2.2.2.2.2, (f_V_goOn R pl), ca, va)
  else
    let t7 := f_V_stop ca va (2 : Int32) k
    (K, co, L1, r1, L2, r2, R, t7.1, t7.2)
def f_V_computeWithNumber (R : Nat → Int32) (ca : Int32) (va : Int32) (pl : Int32) (k : Int32) : (Nat → Int32) × Int32 × Int32 :=
  if (f_Co_f k) = (5 : Int32) then
    if (f_Co_g k) = (32 : Int32) then
      if (f_Co_f k) = (1 : Int32) then
        if (f_Co_g k) = 0 then
          ((f_V_finish R pl (f_Co_d k) (f_Co_computed (f_Co_f k) (1 : Int32) (f_Re_operand R (f_Co_s k)) (f_Co_i k))), ca, va)
        else
          ((f_V_finish R pl (f_Co_d k) (f_Co_computed (f_Co_f k) (1 : Int32) (f_Re_operand R (f_Co_s k)) (f_Co_i k))), ca, va)
      else
        if (f_Co_g k) = 0 then
          ((f_V_finish R pl (f_Co_d k) (f_Co_computed (f_Co_f k) (1 : Int32) (f_Re_operand R (f_Co_s k)) (f_Co_i k))), ca, va)
        else
          ((f_V_finish R pl (f_Co_d k) (f_Co_computed (f_Co_f k) (1 : Int32) (f_Re_operand R (f_Co_s k)) (f_Co_i k))), ca, va)
    else
      if (f_Co_f k) = (1 : Int32) then
        if (f_Co_g k) = 0 then
          ((f_V_finish R pl (f_Co_d k) (f_Co_computed (f_Co_f k) (0 : Int32) (f_Re_operand R (f_Co_s k)) (f_Co_i k))), ca, va)
        else
          let t2 := f_V_stop ca va (2 : Int32) k
          (R, t2.1, t2.2)
      else
        if (f_Co_g k) = 0 then
          ((f_V_finish R pl (f_Co_d k) (f_Co_computed (f_Co_f k) (0 : Int32) (f_Re_operand R (f_Co_s k)) (f_Co_i k))), ca, va)
        else
          let t3 := f_V_stop ca va (2 : Int32) k
          (R, t3.1, t3.2)
  else
    if (f_Co_f k) = (1 : Int32) then
      if (f_Co_g k) = 0 then
        ((f_V_finish R pl (f_Co_d k) (f_Co_computed (f_Co_f k) (0 : Int32) (f_Re_operand R (f_Co_s k)) (f_Co_i k))), ca, va)
      else
        let t1 := f_V_stop ca va (2 : Int32) k
        (R, t1.1, t1.2)
    else
      ((f_V_finish R pl (f_Co_d k) (f_Co_computed (f_Co_f k) (0 : Int32) (f_Re_operand R (f_Co_s k)) (f_Co_i k))), ca, va)
def f_V_computeWithRegister (R : Nat → Int32) (ca : Int32) (va : Int32) (pl : Int32) (k : Int32) : (Nat → Int32) × Int32 × Int32 :=
  if (f_Co_g k) = (32 : Int32) then
    if (f_Co_f k) = 0 then
      if (f_Co_g k) = 0 then
        ((f_V_finish R pl (f_Co_d k) (f_Co_computed (f_Co_f k) (1 : Int32) (f_Re_operand R (f_Co_s k)) (f_Re_operand R (f_Co_t k)))), ca, va)
      else
        ((f_V_finish R pl (f_Co_d k) (f_Co_computed (f_Co_f k) (1 : Int32) (f_Re_operand R (f_Co_s k)) (f_Re_operand R (f_Co_t k)))), ca, va)
    else
      if (f_Co_f k) = (5 : Int32) then
        if (f_Co_g k) = 0 then
          ((f_V_finish R pl (f_Co_d k) (f_Co_computed (f_Co_f k) (1 : Int32) (f_Re_operand R (f_Co_s k)) (f_Re_operand R (f_Co_t k)))), ca, va)
        else
          ((f_V_finish R pl (f_Co_d k) (f_Co_computed (f_Co_f k) (1 : Int32) (f_Re_operand R (f_Co_s k)) (f_Re_operand R (f_Co_t k)))), ca, va)
      else
        if (f_Co_g k) = 0 then
          ((f_V_finish R pl (f_Co_d k) (f_Co_computed (f_Co_f k) (0 : Int32) (f_Re_operand R (f_Co_s k)) (f_Re_operand R (f_Co_t k)))), ca, va)
        else
          let t2 := f_V_stop ca va (2 : Int32) k
          (R, t2.1, t2.2)
  else
    if (f_Co_g k) = 0 then
      ((f_V_finish R pl (f_Co_d k) (f_Co_computed (f_Co_f k) (0 : Int32) (f_Re_operand R (f_Co_s k)) (f_Re_operand R (f_Co_t k)))), ca, va)
    else
      let t1 := f_V_stop ca va (2 : Int32) k
      (R, t1.1, t1.2)
def f_V_doNothing (R : Nat → Int32) (ca : Int32) (va : Int32) (pl : Int32) (k : Int32) : (Nat → Int32) × Int32 × Int32 :=
  if (f_Co_f k) = 0 then
    ((f_V_goOn R pl), ca, va)
  else
    let t1 := f_V_stop ca va (2 : Int32) k
    (R, t1.1, t1.2)
def f_V_callOrBreak (ca : Int32) (va : Int32) (k : Int32) : Int32 × Int32 :=
  if k = (115 : Int32) then
    let t3 := f_V_stop ca va (3 : Int32) (0 : Int32)
    (t3.1, t3.2)
  else
    if k = (1048691 : Int32) then
      let t2 := f_V_stop ca va (4 : Int32) (0 : Int32)
      (t2.1, t2.2)
    else
      let t1 := f_V_stop ca va (2 : Int32) k
      (t1.1, t1.2)
def f_V_doInstruction (K : Nat → Int64) (co : Int32) (L1 : Nat → Int64) (r1 : Int32) (L2 : Nat → Int64) (r2 : Int32) (R : Nat → Int32) (ca : Int32) (va : Int32) : (Nat → Int64) × Int32 × (Nat → Int64) × Int32 × (Nat → Int64) × Int32 × (Nat → Int32) × Int32 × Int32 :=
  if (f_V_isAddress (f_Re_agreed R (0 : Int32)) (4 : Int32)) = 0 then
    let t12 := f_V_stop ca va (1 : Int32) (f_Re_agreed R (0 : Int32))
    (K, co, L1, r1, L2, r2, R, t12.1, t12.2)
  else
    let t1 := f_V_fetch1 K co L1 r1 (u_ush (f_Re_agreed R (0 : Int32)) (2 : Int32))
    if (lg_cmp t1.1 (-2 : Int64)) = 0 then
      let t11 := f_V_stop ca va (5 : Int32) (u_ush (f_Re_agreed R (0 : Int32)) (2 : Int32))
      (t1.2.1, t1.2.2.1, t1.2.2.2.1, t1.2.2.2.2, L2, r2, R, t11.1, t11.2)
    else
      if (f_Co_op (t1.1.toInt32)) = (3 : Int32) then
        let t2 := f_V_load t1.2.1 t1.2.2.1 L2 r2 R ca va (f_Re_agreed R (0 : Int32)) (t1.1.toInt32)
        (t2.1, t2.2.1, t1.2.2.2.1, t1.2.2.2.2, t2.2.2.1, t2.2.2.2.1, t2.2.2.2.2.1, t2.2.2.2.2.2.1, t2.2.2.2.2.2.2)
      else
        if (f_Co_op (t1.1.toInt32)) = (15 : Int32) then
          let t3 := f_V_doNothing R ca va (f_Re_agreed R (0 : Int32)) (t1.1.toInt32)
          (t1.2.1, t1.2.2.1, t1.2.2.2.1, t1.2.2.2.2, L2, r2, t3.1, t3.2.1, t3.2.2)
        else
          if (f_Co_op (t1.1.toInt32)) = (19 : Int32) then
            let t4 := f_V_computeWithNumber R ca va (f_Re_agreed R (0 : Int32)) (t1.1.toInt32)
            (t1.2.1, t1.2.2.1, t1.2.2.2.1, t1.2.2.2.2, L2, r2, t4.1, t4.2.1, t4.2.2)
          else
            if (f_Co_op (t1.1.toInt32)) = (23 : Int32) then
              (t1.2.1, t1.2.2.1, t1.2.2.2.1, t1.2.2.2.2, L2, r2, (f_V_finish R (f_Re_agreed R (0 : Int32)) (f_Co_d (t1.1.toInt32)) ((f_Re_agreed R (0 : Int32)) + (f_Co_u (t1.1.toInt32)))), ca, va)
            else
              if (f_Co_op (t1.1.toInt32)) = (35 : Int32) then
                let t5 := f_V_store t1.2.1 t1.2.2.1 t1.2.2.2.1 t1.2.2.2.2 L2 r2 R ca va (f_Re_agreed R (0 : Int32)) (t1.1.toInt32)
                (t5.1, t5.2.1, t5.2.2.1, t5.2.2.2.1, t5.2.2.2.2.1, t5.2.2.2.2.2.1, t5.2.2.2.2.2.2.1, t5.2.2.2.2.2.2.2.1, t5.2.2.2.2.2.2.2.2)
              else
                if (f_Co_op (t1.1.toInt32)) = (51 : Int32) then
                  let t6 := f_V_computeWithRegister R ca va (f_Re_agreed R (0 : Int32)) (t1.1.toInt32)
                  (t1.2.1, t1.2.2.1, t1.2.2.2.1, t1.2.2.2.2, L2, r2, t6.1, t6.2.1, t6.2.2)
                else
                  if (f_Co_op (t1.1.toInt32)) = (55 : Int32) then
                    (t1.2.1, t1.2.2.1, t1.2.2.2.1, t1.2.2.2.2, L2, r2, (f_V_finish R (f_Re_agreed R (0 : Int32)) (f_Co_d (t1.1.toInt32)) (f_Co_u (t1.1.toInt32))), ca, va)
                  else
                    if (f_Co_op (t1.1.toInt32)) = (99 : Int32) then
                      let t7 := f_V_branch R ca va (f_Re_agreed R (0 : Int32)) (t1.1.toInt32)
                      (t1.2.1, t1.2.2.1, t1.2.2.2.1, t1.2.2.2.2, L2, r2, t7.1, t7.2.1, t7.2.2)
                    else
                      if (f_Co_op (t1.1.toInt32)) = (103 : Int32) then
                        let t8 := f_V_jumpByRegister R ca va (f_Re_agreed R (0 : Int32)) (t1.1.toInt32)
                        (t1.2.1, t1.2.2.1, t1.2.2.2.1, t1.2.2.2.2, L2, r2, t8.1, t8.2.1, t8.2.2)
                      else
                        if (f_Co_op (t1.1.toInt32)) = (111 : Int32) then
                          let t9 := f_V_jump R ca va (f_Re_agreed R (0 : Int32)) (f_Co_d (t1.1.toInt32)) ((f_Re_agreed R (0 : Int32)) + (f_Co_l (t1.1.toInt32)))
                          (t1.2.1, t1.2.2.1, t1.2.2.2.1, t1.2.2.2.2, L2, r2, t9.1, t9.2.1, t9.2.2)
                        else
                          let t10 := f_V_callOrBreak ca va (t1.1.toInt32)
                          (t1.2.1, t1.2.2.1, t1.2.2.2.1, t1.2.2.2.2, L2, r2, R, t10.1, t10.2)
def f_Mo_outside (v : Int32) (n_ : Int32) : Int32 :=
  if v < 0 then
    ((1 : Int32))
  else
    if v ≤ n_ then
      ((0 : Int32))
    else
      ((1 : Int32))
def f_Mo_isData (k : Int32) : Int32 :=
  if (k &&& (k - (1 : Int32))) = 0 then
    ((0 : Int32))
  else
    ((1 : Int32))
def f_Mo_syndrome_l4 (x : Int64) : Nat → Nat → Int32 → Int32
  | 0, j, sy =>
    (sy)
  | n + 1, j, sy =>
    if (lg_cmp ((u_lshr x (nI j)) &&& (1 : Int64)) (1 : Int64)) = 0 then
      f_Mo_syndrome_l4 x n (j + 1) (sy ^^^ (nI j))
    else
      f_Mo_syndrome_l4 x n (j + 1) sy
def f_Mo_syndrome (x : Int64) : Int32 :=
  f_Mo_syndrome_l4 x 38 1 (0 : Int32)
def f_Mo_isOdd_l4 (x : Int64) : Nat → Nat → Int32 → Int32
  | 0, j, o =>
    (o)
  | n + 1, j, o =>
    if (lg_cmp ((u_lshr x (nI j)) &&& (1 : Int64)) (1 : Int64)) = 0 then
      if o = (1 : Int32) then
        f_Mo_isOdd_l4 x n (j + 1) (0 : Int32)
      else
        f_Mo_isOdd_l4 x n (j + 1) (1 : Int32)
    else
      if o = (0 : Int32) then
        f_Mo_isOdd_l4 x n (j + 1) (0 : Int32)
      else
        f_Mo_isOdd_l4 x n (j + 1) (1 : Int32)
def f_Mo_isOdd (x : Int64) : Int32 :=
  f_Mo_isOdd_l4 x 39 0 (0 : Int32)
def f_Mo_dataOf_l7 (x : Int64) : Nat → Nat → Int32 → Int32 → Int32
  | 0, j, v_, i_ =>
    (v_)
  | n + 1, j, v_, i_ =>
    if (f_Mo_isData (nI j)) = 0 then
      f_Mo_dataOf_l7 x n (j + 1) v_ i_
    else
      if (lg_cmp ((u_lshr x (nI j)) &&& (1 : Int64)) (1 : Int64)) = 0 then
        f_Mo_dataOf_l7 x n (j + 1) (v_ ||| ((1 : Int32) <<< (i_ &&& 31))) (i_ + 1)
      else
        f_Mo_dataOf_l7 x n (j + 1) v_ (i_ + 1)
def f_Mo_dataOf (x : Int64) : Int32 :=
  f_Mo_dataOf_l7 x 36 3 (0 : Int32) (0 : Int32)
def f_Mo_encoded_l60  : Nat → Nat → Int64 → Int32 → Int64
  | 0, j2, b2, sy =>
    if (f_Mo_isOdd b2) = 0 then
      (b2)
    else
      ((b2 ||| (1 : Int64)))
  | n + 1, j2, b2, sy =>
    if ((sy >>> ((nI j2) &&& 31)) &&& (1 : Int32)) = (1 : Int32) then
      f_Mo_encoded_l60  n (j2 + 1) (b2 ||| (u_lshl (1 : Int64) ((1 : Int32) <<< ((nI j2) &&& 31)))) sy
    else
      f_Mo_encoded_l60  n (j2 + 1) b2 sy
def f_Mo_encoded_l7 (v : Int32) : Nat → Nat → Int64 → Int32 → Int64
  | 0, j, b_, i_ =>
    f_Mo_encoded_l60  6 0 b_ (f_Mo_syndrome b_)
  | n + 1, j, b_, i_ =>
    if (f_Mo_isData (nI j)) = 0 then
      f_Mo_encoded_l7 v n (j + 1) b_ i_
    else
      if ((v >>> (i_ &&& 31)) &&& (1 : Int32)) = (1 : Int32) then
        f_Mo_encoded_l7 v n (j + 1) (b_ ||| (u_lshl (1 : Int64) (nI j))) (i_ + 1)
      else
        f_Mo_encoded_l7 v n (j + 1) b_ (i_ + 1)
def f_Mo_encoded (v : Int32) : Int64 :=
  f_Mo_encoded_l7 v 36 3 (0 : Int64) (0 : Int32)
def f_Mo_wrongBit (x : Int64) : Int32 :=
  if (f_Mo_isOdd x) = 0 then
    if (f_Mo_syndrome x) = 0 then
      ((-1 : Int32))
    else
      ((-2 : Int32))
  else
    if (39 : Int32) ≤ (f_Mo_syndrome x) then
      ((-2 : Int32))
    else
      ((f_Mo_syndrome x))
def f_Mo_mend (wg : Nat → Int64) (cn : Nat → Int32) (w : Int32) : Int32 × (Nat → Int64) × (Nat → Int32) :=
  if (f_Mo_wrongBit (wg w.toNatClampNeg)) < 0 then
    if (f_Mo_wrongBit (wg w.toNatClampNeg)) = (-2 : Int32) then
      ((0 : Int32), wg, cn)
    else
      ((1 : Int32), wg, cn)
  else
    if (f_Mo_wrongBit (wg w.toNatClampNeg)) = (-2 : Int32) then
      ((0 : Int32), (vp_updL wg w.toNatClampNeg ((wg w.toNatClampNeg) ^^^ (u_lshl (1 : Int64) (f_Mo_wrongBit (wg w.toNatClampNeg))))), (upd cn (0 : Int32).toNatClampNeg ((cn (0 : Int32).toNatClampNeg) + (1 : Int32))))
    else
      ((1 : Int32), (vp_updL wg w.toNatClampNeg ((wg w.toNatClampNeg) ^^^ (u_lshl (1 : Int64) (f_Mo_wrongBit (wg w.toNatClampNeg))))), (upd cn (0 : Int32).toNatClampNeg ((cn (0 : Int32).toNatClampNeg) + (1 : Int32))))
def f_Mo_keep (wr : Nat → Int32) (wg : Nat → Int64) (w : Int32) (v : Int32) : (Nat → Int32) × (Nat → Int64) :=
  ((upd wr w.toNatClampNeg v), (vp_updL wg w.toNatClampNeg (0 : Int64)))
def f_Mo_line (v : Int32) (g : Int32) : Int64 :=
  let t1 := ((((v.toInt64) &&& (4294967295 : Int64)) ||| (u_lshl (g.toInt64) (32 : Int32))) ||| (68719476736 : Int64))
  if (f_Mo_isOdd t1) = 0 then
    (t1)
  else
    ((t1 ||| (137438953472 : Int64)))
def f_Mo_stop (ca : Int32) (va : Int32) (x : Int32) (v : Int32) : Int32 × Int32 :=
  (x, v)
def f_Mo_holds (li : Nat → Int64) (cn : Nat → Int32) (cc : Int32) (w : Int32) : Int32 × (Nat → Int64) × (Nat → Int32) :=
  if (f_Mo_isOdd (li (((4 : Int32) * cc) + (u_rem w (4 : Int32))).toNatClampNeg)) = 0 then
    if (lg_cmp ((u_lshr (li (((4 : Int32) * cc) + (u_rem w (4 : Int32))).toNatClampNeg) (36 : Int32)) &&& (1 : Int64)) (1 : Int64)) = 0 then
      if (((u_lshr (li (((4 : Int32) * cc) + (u_rem w (4 : Int32))).toNatClampNeg) (32 : Int32)) &&& (15 : Int64)).toInt32) = (w / (4 : Int32)) then
        ((1 : Int32), li, cn)
      else
        ((0 : Int32), li, cn)
    else
      ((0 : Int32), li, cn)
  else
    if (lg_cmp ((u_lshr ((vp_updL li (((4 : Int32) * cc) + (u_rem w (4 : Int32))).toNatClampNeg (0 : Int64)) (((4 : Int32) * cc) + (u_rem w (4 : Int32))).toNatClampNeg) (36 : Int32)) &&& (1 : Int64)) (1 : Int64)) = 0 then
      if (((u_lshr ((vp_updL li (((4 : Int32) * cc) + (u_rem w (4 : Int32))).toNatClampNeg (0 : Int64)) (((4 : Int32) * cc) + (u_rem w (4 : Int32))).toNatClampNeg) (32 : Int32)) &&& (15 : Int64)).toInt32) = (w / (4 : Int32)) then
        ((1 : Int32), (vp_updL li (((4 : Int32) * cc) + (u_rem w (4 : Int32))).toNatClampNeg (0 : Int64)), (upd cn ((3 : Int32) + cc).toNatClampNeg ((cn ((3 : Int32) + cc).toNatClampNeg) + (1 : Int32))))
      else
        ((0 : Int32), (vp_updL li (((4 : Int32) * cc) + (u_rem w (4 : Int32))).toNatClampNeg (0 : Int64)), (upd cn ((3 : Int32) + cc).toNatClampNeg ((cn ((3 : Int32) + cc).toNatClampNeg) + (1 : Int32))))
    else
      ((0 : Int32), (vp_updL li (((4 : Int32) * cc) + (u_rem w (4 : Int32))).toNatClampNeg (0 : Int64)), (upd cn ((3 : Int32) + cc).toNatClampNeg ((cn ((3 : Int32) + cc).toNatClampNeg) + (1 : Int32))))
def f_Mo_fetch (wr : Nat → Int32) (wg : Nat → Int64) (li : Nat → Int64) (ca : Int32) (va : Int32) (cn : Nat → Int32) (go : Int32) (cc : Int32) (w : Int32) : Int32 × (Nat → Int64) × (Nat → Int64) × Int32 × Int32 × (Nat → Int32) × Int32 :=
  let t1 := f_Mo_holds li cn cc w
  if t1.1 = 0 then
    let t2 := f_Mo_mend wg t1.2.2 w
    if t2.1 = 0 then
      let t3 := f_Mo_stop ca va (5 : Int32) w
      ((0 : Int32), t2.2.1, t1.2.1, t3.1, t3.2, t2.2.2, go)
    else
      ((1 : Int32), t2.2.1, (vp_updL t1.2.1 (((4 : Int32) * cc) + (u_rem w (4 : Int32))).toNatClampNeg (f_Mo_line ((wr w.toNatClampNeg) ^^^ (f_Mo_dataOf (t2.2.1 w.toNatClampNeg))) (w / (4 : Int32)))), ca, va, t2.2.2, (((vp_updL t1.2.1 (((4 : Int32) * cc) + (u_rem w (4 : Int32))).toNatClampNeg (f_Mo_line ((wr w.toNatClampNeg) ^^^ (f_Mo_dataOf (t2.2.1 w.toNatClampNeg))) (w / (4 : Int32)))) (((4 : Int32) * cc) + (u_rem w (4 : Int32))).toNatClampNeg).toInt32))
  else
    ((1 : Int32), wg, t1.2.1, ca, va, t1.2.2, ((t1.2.1 (((4 : Int32) * cc) + (u_rem w (4 : Int32))).toNatClampNeg).toInt32))
def f_Mo_save (wr : Nat → Int32) (wg : Nat → Int64) (li : Nat → Int64) (cn : Nat → Int32) (w : Int32) (v : Int32) : (Nat → Int32) × (Nat → Int64) × (Nat → Int64) × (Nat → Int32) :=
  let t1 := f_Mo_keep wr wg w v
  let t2 := f_Mo_holds li cn (0 : Int32) w
  if t2.1 = 0 then
    let t3 := f_Mo_holds t2.2.1 t2.2.2 (1 : Int32) w
    if t3.1 = 0 then
      (t1.1, t1.2, t3.2.1, t3.2.2)
    else
      (t1.1, t1.2, (vp_updL t3.2.1 ((4 : Int32) + (u_rem w (4 : Int32))).toNatClampNeg (f_Mo_line v (w / (4 : Int32)))), t3.2.2)
  else
    let t4 := f_Mo_holds (vp_updL t2.2.1 (u_rem w (4 : Int32)).toNatClampNeg (0 : Int64)) t2.2.2 (1 : Int32) w
    if t4.1 = 0 then
      (t1.1, t1.2, t4.2.1, t4.2.2)
    else
      (t1.1, t1.2, (vp_updL t4.2.1 ((4 : Int32) + (u_rem w (4 : Int32))).toNatClampNeg (f_Mo_line v (w / (4 : Int32)))), t4.2.2)
def f_Mo_two (a : Int32) (b : Int32) (d : Int32) : Int32 :=
  ((((a &&& b) ||| (a &&& d)) ||| (b &&& d)))
def f_Mo_valueOf (ke : Nat → Int32) (ma : Nat → Int32) (r : Int32) : Int32 :=
  (((ke r.toNatClampNeg) ^^^ (f_Mo_two (ma ((3 : Int32) * r).toNatClampNeg) (ma (((3 : Int32) * r) + (1 : Int32)).toNatClampNeg) (ma (((3 : Int32) * r) + (2 : Int32)).toNatClampNeg))))
def f_Mo_operand (ke : Nat → Int32) (ma : Nat → Int32) (r : Int32) : Int32 :=
  if r = 0 then
    ((0 : Int32))
  else
    ((f_Mo_valueOf ke ma r))
def f_Mo_put (ke : Nat → Int32) (ma : Nat → Int32) (r : Int32) (v : Int32) : (Nat → Int32) × (Nat → Int32) :=
  ((upd ke r.toNatClampNeg v), (upd (upd (upd ma (((3 : Int32) * r) + (0 : Int32)).toNatClampNeg (0 : Int32)) (((3 : Int32) * r) + (1 : Int32)).toNatClampNeg (0 : Int32)) (((3 : Int32) * r) + (2 : Int32)).toNatClampNeg (0 : Int32)))
def f_Mo_vote_l2  : Nat → Nat → (Nat → Int32) → (Nat → Int32) → (Nat → Int32) → (Nat → Int32) × (Nat → Int32) × (Nat → Int32)
  | 0, j, ke_, ma_, cn_ =>
    (ke_, ma_, cn_)
  | n + 1, j, ke_, ma_, cn_ =>
    if (ma_ ((3 : Int32) * (nI j)).toNatClampNeg) = (ma_ (((3 : Int32) * (nI j)) + (1 : Int32)).toNatClampNeg) then
      if (ma_ ((3 : Int32) * (nI j)).toNatClampNeg) = (ma_ (((3 : Int32) * (nI j)) + (2 : Int32)).toNatClampNeg) then
        let t3 := f_Mo_put ke_ ma_ (nI j) (f_Mo_valueOf ke_ ma_ (nI j))
        f_Mo_vote_l2  n (j + 1) t3.1 t3.2 (upd cn_ (2 : Int32).toNatClampNeg (cn_ (2 : Int32).toNatClampNeg))
      else
        let t2 := f_Mo_put ke_ ma_ (nI j) (f_Mo_valueOf ke_ ma_ (nI j))
        f_Mo_vote_l2  n (j + 1) t2.1 t2.2 (upd cn_ (2 : Int32).toNatClampNeg ((cn_ (2 : Int32).toNatClampNeg) + (1 : Int32)))
    else
      let t1 := f_Mo_put ke_ ma_ (nI j) (f_Mo_valueOf ke_ ma_ (nI j))
      f_Mo_vote_l2  n (j + 1) t1.1 t1.2 (upd cn_ (2 : Int32).toNatClampNeg ((cn_ (2 : Int32).toNatClampNeg) + (1 : Int32)))
def f_Mo_vote (ke : Nat → Int32) (ma : Nat → Int32) (cn : Nat → Int32) : (Nat → Int32) × (Nat → Int32) × (Nat → Int32) :=
  f_Mo_vote_l2  32 0 ke ma cn
def f_Mo_field (px : Int32) (fr : Int32) (bi : Int32) : Int32 :=
  (((u_ush px fr) &&& (((1 : Int32) <<< (bi &&& 31)) - (1 : Int32))))
def f_Mo_numberJ (px : Int32) : Int32 :=
  ((((px >>> ((25 : Int32) &&& 31)) <<< ((5 : Int32) &&& 31)) ||| (f_Mo_field px (7 : Int32) (5 : Int32))))
def f_Mo_numberK (px : Int32) : Int32 :=
  ((((((px >>> ((31 : Int32) &&& 31)) <<< ((12 : Int32) &&& 31)) ||| ((f_Mo_field px (7 : Int32) (1 : Int32)) <<< ((11 : Int32) &&& 31))) ||| ((f_Mo_field px (25 : Int32) (6 : Int32)) <<< ((5 : Int32) &&& 31))) ||| ((f_Mo_field px (8 : Int32) (4 : Int32)) <<< ((1 : Int32) &&& 31))))
def f_Mo_numberL (px : Int32) : Int32 :=
  ((((((px >>> ((31 : Int32) &&& 31)) <<< ((20 : Int32) &&& 31)) ||| ((f_Mo_field px (12 : Int32) (8 : Int32)) <<< ((12 : Int32) &&& 31))) ||| ((f_Mo_field px (20 : Int32) (1 : Int32)) <<< ((11 : Int32) &&& 31))) ||| ((f_Mo_field px (21 : Int32) (10 : Int32)) <<< ((1 : Int32) &&& 31))))
def f_Mo_give (gi : Int32) (gn : Int32) (v : Int32) : Int32 × Int32 :=
  ((1 : Int32), v)
def f_Mo_go (ca : Int32) (va : Int32) (ne : Int32) (v : Int32) : Int32 × Int32 × Int32 :=
  if (v &&& (3 : Int32)) = 0 then
    (ca, va, v)
  else
    let t1 := f_Mo_stop ca va (1 : Int32) v
    (t1.1, t1.2, v)
def f_Mo_illegal (ca : Int32) (va : Int32) (px : Int32) : Int32 × Int32 :=
  let t1 := f_Mo_stop ca va (2 : Int32) px
  (t1.1, t1.2)
def f_Mo_isLess (a : Int32) (b : Int32) (o : Int32) : Int32 :=
  if o = 0 then
    if b ≤ a then
      if 0 ≤ a then
        if 0 ≤ b then
          ((0 : Int32))
        else
          ((1 : Int32))
      else
        if 0 ≤ b then
          ((1 : Int32))
        else
          ((0 : Int32))
    else
      if 0 ≤ a then
        if 0 ≤ b then
          ((1 : Int32))
        else
          ((0 : Int32))
      else
        if 0 ≤ b then
          ((0 : Int32))
        else
          ((1 : Int32))
  else
    if b ≤ a then
      ((0 : Int32))
    else
      ((1 : Int32))
def f_Mo_branch (ca : Int32) (va : Int32) (pp : Int32) (px : Int32) (ne : Int32) (f : Int32) (a : Int32) (b : Int32) : Int32 × Int32 × Int32 :=
  if (2 : Int32) ≤ f then
    if (6 : Int32) ≤ f then
      if f = (2 : Int32) then
        let t1 := f_Mo_illegal ca va px
        (t1.1, t1.2, ne)
      else
        if f = (3 : Int32) then
          let t4 := f_Mo_illegal ca va px
          (t4.1, t4.2, ne)
        else
          if (u_rem f (2 : Int32)) = (1 : Int32) then
            if (f_Mo_isLess a b (0 : Int32)) = (1 : Int32) then
              (ca, va, ne)
            else
              let t3 := f_Mo_go ca va ne (pp + (f_Mo_numberK px))
              (t3.1, t3.2.1, t3.2.2)
          else
            if (f_Mo_isLess a b (0 : Int32)) = (0 : Int32) then
              (ca, va, ne)
            else
              let t2 := f_Mo_go ca va ne (pp + (f_Mo_numberK px))
              (t2.1, t2.2.1, t2.2.2)
    else
      if f = (2 : Int32) then
        let t5 := f_Mo_illegal ca va px
        (t5.1, t5.2, ne)
      else
        if f = (3 : Int32) then
          let t8 := f_Mo_illegal ca va px
          (t8.1, t8.2, ne)
        else
          if (u_rem f (2 : Int32)) = (1 : Int32) then
            if (f_Mo_isLess a b (1 : Int32)) = (1 : Int32) then
              (ca, va, ne)
            else
              let t7 := f_Mo_go ca va ne (pp + (f_Mo_numberK px))
              (t7.1, t7.2.1, t7.2.2)
          else
            if (f_Mo_isLess a b (1 : Int32)) = (0 : Int32) then
              (ca, va, ne)
            else
              let t6 := f_Mo_go ca va ne (pp + (f_Mo_numberK px))
              (t6.1, t6.2.1, t6.2.2)
  else
    if a = b then
      if f = (2 : Int32) then
        let t12 := f_Mo_illegal ca va px
        (t12.1, t12.2, ne)
      else
        if f = (3 : Int32) then
          let t14 := f_Mo_illegal ca va px
          (t14.1, t14.2, ne)
        else
          if (u_rem f (2 : Int32)) = (1 : Int32) then
            (ca, va, ne)
          else
            let t13 := f_Mo_go ca va ne (pp + (f_Mo_numberK px))
            (t13.1, t13.2.1, t13.2.2)
    else
      if f = (2 : Int32) then
        let t9 := f_Mo_illegal ca va px
        (t9.1, t9.2, ne)
      else
        if f = (3 : Int32) then
          let t11 := f_Mo_illegal ca va px
          (t11.1, t11.2, ne)
        else
          if (u_rem f (2 : Int32)) = (1 : Int32) then
            let t10 := f_Mo_go ca va ne (pp + (f_Mo_numberK px))
            (t10.1, t10.2.1, t10.2.2)
          else
            (ca, va, ne)
def f_Mo_reaches (ca : Int32) (va : Int32) (a : Int32) (z : Int32) : Int32 × Int32 × Int32 :=
  if (u_rem a z) = 0 then
    if (f_Mo_outside a (255 : Int32)) = 0 then
      ((1 : Int32), ca, va)
    else
      let t2 := f_Mo_stop ca va (1 : Int32) a
      ((0 : Int32), t2.1, t2.2)
  else
    let t1 := f_Mo_stop ca va (1 : Int32) a
    ((0 : Int32), t1.1, t1.2)
def f_Mo_load (wr : Nat → Int32) (wg : Nat → Int64) (li : Nat → Int64) (ca : Int32) (va : Int32) (cn : Nat → Int32) (px : Int32) (go : Int32) (gi : Int32) (gn : Int32) (f : Int32) (a : Int32) : (Nat → Int64) × (Nat → Int64) × Int32 × Int32 × (Nat → Int32) × Int32 × Int32 × Int32 :=
  if (u_rem f (4 : Int32)) = 0 then
    if f = (3 : Int32) then
      let t15 := f_Mo_illegal ca va px
      (wg, li, t15.1, t15.2, cn, go, gi, gn)
    else
      if f ≤ (5 : Int32) then
        let t16 := f_Mo_reaches ca va a (1 : Int32)
        if t16.1 = 0 then
          (wg, li, t16.2.1, t16.2.2, cn, go, gi, gn)
        else
          let t17 := f_Mo_fetch wr wg li t16.2.1 t16.2.2 cn go (1 : Int32) (a / (4 : Int32))
          if t17.1 = 0 then
            (t17.2.1, t17.2.2.1, t17.2.2.2.1, t17.2.2.2.2.1, t17.2.2.2.2.2.1, t17.2.2.2.2.2.2, gi, gn)
          else
            let t18 := ((t17.2.2.2.2.2.2 >>> (((8 : Int32) * (u_rem a (4 : Int32))) &&& 31)) <<< (((32 : Int32) - ((8 : Int32) * (1 : Int32))) &&& 31))
            if (4 : Int32) ≤ f then
              let t19 := f_Mo_give gi gn (u_ush t18 ((32 : Int32) - ((8 : Int32) * (1 : Int32))))
              (t17.2.1, t17.2.2.1, t17.2.2.2.1, t17.2.2.2.2.1, t17.2.2.2.2.2.1, t17.2.2.2.2.2.2, t19.1, t19.2)
            else
              let t20 := f_Mo_give gi gn (t18 >>> (((32 : Int32) - ((8 : Int32) * (1 : Int32))) &&& 31))
              (t17.2.1, t17.2.2.1, t17.2.2.2.1, t17.2.2.2.2.1, t17.2.2.2.2.2.1, t17.2.2.2.2.2.2, t20.1, t20.2)
      else
        let t21 := f_Mo_illegal ca va px
        (wg, li, t21.1, t21.2, cn, go, gi, gn)
  else
    if (u_rem f (4 : Int32)) = (1 : Int32) then
      if f = (3 : Int32) then
        let t8 := f_Mo_illegal ca va px
        (wg, li, t8.1, t8.2, cn, go, gi, gn)
      else
        if f ≤ (5 : Int32) then
          let t9 := f_Mo_reaches ca va a (2 : Int32)
          if t9.1 = 0 then
            (wg, li, t9.2.1, t9.2.2, cn, go, gi, gn)
          else
            let t10 := f_Mo_fetch wr wg li t9.2.1 t9.2.2 cn go (1 : Int32) (a / (4 : Int32))
            if t10.1 = 0 then
              (t10.2.1, t10.2.2.1, t10.2.2.2.1, t10.2.2.2.2.1, t10.2.2.2.2.2.1, t10.2.2.2.2.2.2, gi, gn)
            else
              let t11 := ((t10.2.2.2.2.2.2 >>> (((8 : Int32) * (u_rem a (4 : Int32))) &&& 31)) <<< (((32 : Int32) - ((8 : Int32) * (2 : Int32))) &&& 31))
              if (4 : Int32) ≤ f then
                let t12 := f_Mo_give gi gn (u_ush t11 ((32 : Int32) - ((8 : Int32) * (2 : Int32))))
                (t10.2.1, t10.2.2.1, t10.2.2.2.1, t10.2.2.2.2.1, t10.2.2.2.2.2.1, t10.2.2.2.2.2.2, t12.1, t12.2)
              else
                let t13 := f_Mo_give gi gn (t11 >>> (((32 : Int32) - ((8 : Int32) * (2 : Int32))) &&& 31))
                (t10.2.1, t10.2.2.1, t10.2.2.2.1, t10.2.2.2.2.1, t10.2.2.2.2.2.1, t10.2.2.2.2.2.2, t13.1, t13.2)
        else
          let t14 := f_Mo_illegal ca va px
          (wg, li, t14.1, t14.2, cn, go, gi, gn)
    else
      if f = (3 : Int32) then
        let t1 := f_Mo_illegal ca va px
        (wg, li, t1.1, t1.2, cn, go, gi, gn)
      else
        if f ≤ (5 : Int32) then
          let t2 := f_Mo_reaches ca va a (4 : Int32)
          if t2.1 = 0 then
            (wg, li, t2.2.1, t2.2.2, cn, go, gi, gn)
          else
            let t3 := f_Mo_fetch wr wg li t2.2.1 t2.2.2 cn go (1 : Int32) (a / (4 : Int32))
            if t3.1 = 0 then
              (t3.2.1, t3.2.2.1, t3.2.2.2.1, t3.2.2.2.2.1, t3.2.2.2.2.2.1, t3.2.2.2.2.2.2, gi, gn)
            else
              let t4 := ((t3.2.2.2.2.2.2 >>> (((8 : Int32) * (u_rem a (4 : Int32))) &&& 31)) <<< (((32 : Int32) - ((8 : Int32) * (4 : Int32))) &&& 31))
              if (4 : Int32) ≤ f then
                let t5 := f_Mo_give gi gn (u_ush t4 ((32 : Int32) - ((8 : Int32) * (4 : Int32))))
                (t3.2.1, t3.2.2.1, t3.2.2.2.1, t3.2.2.2.2.1, t3.2.2.2.2.2.1, t3.2.2.2.2.2.2, t5.1, t5.2)
              else
                let t6 := f_Mo_give gi gn (t4 >>> (((32 : Int32) - ((8 : Int32) * (4 : Int32))) &&& 31))
                (t3.2.1, t3.2.2.1, t3.2.2.2.1, t3.2.2.2.2.1, t3.2.2.2.2.2.1, t3.2.2.2.2.2.2, t6.1, t6.2)
        else
          let t7 := f_Mo_illegal ca va px
          (wg, li, t7.1, t7.2, cn, go, gi, gn)
def f_Mo_store (wr : Nat → Int32) (wg : Nat → Int64) (li : Nat → Int64) (ca : Int32) (va : Int32) (cn : Nat → Int32) (px : Int32) (go : Int32) (f : Int32) (a : Int32) (b : Int32) : (Nat → Int32) × (Nat → Int64) × (Nat → Int64) × Int32 × Int32 × (Nat → Int32) × Int32 :=
  if f ≤ (2 : Int32) then
    let t1 := f_Mo_reaches ca va a ((1 : Int32) <<< (f &&& 31))
    if t1.1 = 0 then
      (wr, wg, li, t1.2.1, t1.2.2, cn, go)
    else
      if f = (2 : Int32) then
        if f = 0 then
          let t4 := f_Mo_save wr wg li cn (a / (4 : Int32)) (((0 : Int32) &&& (((255 : Int32) <<< (((8 : Int32) * (u_rem a (4 : Int32))) &&& 31)) ^^^ (-1 : Int32))) ||| ((b &&& (255 : Int32)) <<< (((8 : Int32) * (u_rem a (4 : Int32))) &&& 31)))
          (t4.1, t4.2.1, t4.2.2.1, t1.2.1, t1.2.2, t4.2.2.2, go)
        else
          if f = (1 : Int32) then
            let t3 := f_Mo_save wr wg li cn (a / (4 : Int32)) (((0 : Int32) &&& (((65535 : Int32) <<< (((8 : Int32) * (u_rem a (4 : Int32))) &&& 31)) ^^^ (-1 : Int32))) ||| ((b &&& (65535 : Int32)) <<< (((8 : Int32) * (u_rem a (4 : Int32))) &&& 31)))
            (t3.1, t3.2.1, t3.2.2.1, t1.2.1, t1.2.2, t3.2.2.2, go)
          else
            let t2 := f_Mo_save wr wg li cn (a / (4 : Int32)) (((0 : Int32) &&& (((-1 : Int32) <<< (((8 : Int32) * (u_rem a (4 : Int32))) &&& 31)) ^^^ (-1 : Int32))) ||| ((b &&& (-1 : Int32)) <<< (((8 : Int32) * (u_rem a (4 : Int32))) &&& 31)))
            (t2.1, t2.2.1, t2.2.2.1, t1.2.1, t1.2.2, t2.2.2.2, go)
      else
        let t5 := f_Mo_fetch wr wg li t1.2.1 t1.2.2 cn go (1 : Int32) (a / (4 : Int32))
        if t5.1 = 0 then
          (wr, t5.2.1, t5.2.2.1, t5.2.2.2.1, t5.2.2.2.2.1, t5.2.2.2.2.2.1, t5.2.2.2.2.2.2)
        else
          if f = 0 then
            let t8 := f_Mo_save wr t5.2.1 t5.2.2.1 t5.2.2.2.2.2.1 (a / (4 : Int32)) ((t5.2.2.2.2.2.2 &&& (((255 : Int32) <<< (((8 : Int32) * (u_rem a (4 : Int32))) &&& 31)) ^^^ (-1 : Int32))) ||| ((b &&& (255 : Int32)) <<< (((8 : Int32) * (u_rem a (4 : Int32))) &&& 31)))
            (t8.1, t8.2.1, t8.2.2.1, t5.2.2.2.1, t5.2.2.2.2.1, t8.2.2.2, t5.2.2.2.2.2.2)
          else
            if f = (1 : Int32) then
              let t7 := f_Mo_save wr t5.2.1 t5.2.2.1 t5.2.2.2.2.2.1 (a / (4 : Int32)) ((t5.2.2.2.2.2.2 &&& (((65535 : Int32) <<< (((8 : Int32) * (u_rem a (4 : Int32))) &&& 31)) ^^^ (-1 : Int32))) ||| ((b &&& (65535 : Int32)) <<< (((8 : Int32) * (u_rem a (4 : Int32))) &&& 31)))
              (t7.1, t7.2.1, t7.2.2.1, t5.2.2.2.1, t5.2.2.2.2.1, t7.2.2.2, t5.2.2.2.2.2.2)
            else
              let t6 := f_Mo_save wr t5.2.1 t5.2.2.1 t5.2.2.2.2.2.1 (a / (4 : Int32)) ((t5.2.2.2.2.2.2 &&& (((-1 : Int32) <<< (((8 : Int32) * (u_rem a (4 : Int32))) &&& 31)) ^^^ (-1 : Int32))) ||| ((b &&& (-1 : Int32)) <<< (((8 : Int32) * (u_rem a (4 : Int32))) &&& 31)))
              (t6.1, t6.2.1, t6.2.2.1, t5.2.2.2.1, t5.2.2.2.2.1, t6.2.2.2, t5.2.2.2.2.2.2)
  else
    let t9 := f_Mo_illegal ca va px
    (wr, wg, li, t9.1, t9.2, cn, go)
def f_Mo_reckoned (f : Int32) (a : Int32) (b : Int32) : Int32 :=
  if f = (0 : Int32) then
    ((a + b))
  else
    if f = (1 : Int32) then
      ((a <<< ((b &&& (31 : Int32)) &&& 31)))
    else
      if f = (2 : Int32) then
        if (f_Mo_isLess a b (1 : Int32)) = 0 then
          ((0 : Int32))
        else
          ((1 : Int32))
      else
        if f = (3 : Int32) then
          if (f_Mo_isLess a b (0 : Int32)) = 0 then
            ((0 : Int32))
          else
            ((1 : Int32))
        else
          if f = (4 : Int32) then
            ((a ^^^ b))
          else
            if f = (5 : Int32) then
              ((u_ush a (b &&& (31 : Int32))))
            else
              if f = (6 : Int32) then
                ((a ||| b))
              else
                ((a &&& b))
def f_Mo_reckon (ca : Int32) (va : Int32) (px : Int32) (gi : Int32) (gn : Int32) (f : Int32) (g : Int32) (a : Int32) (b : Int32) (o : Int32) : Int32 × Int32 × Int32 × Int32 :=
  if g = 0 then
    let t1 := f_Mo_give gi gn (f_Mo_reckoned f a b)
    (ca, va, t1.1, t1.2)
  else
    if o = 0 then
      if g = (32 : Int32) then
        if f = (5 : Int32) then
          let t5 := f_Mo_give gi gn (a >>> ((b &&& (31 : Int32)) &&& 31))
          (ca, va, t5.1, t5.2)
        else
          if f = 0 then
            let t4 := f_Mo_give gi gn (a - b)
            (ca, va, t4.1, t4.2)
          else
            let t3 := f_Mo_illegal ca va px
            (t3.1, t3.2, gi, gn)
      else
        let t2 := f_Mo_illegal ca va px
        (t2.1, t2.2, gi, gn)
    else
      if f = (1 : Int32) then
        if g = (32 : Int32) then
          if f = (5 : Int32) then
            let t9 := f_Mo_give gi gn (a >>> ((b &&& (31 : Int32)) &&& 31))
            (ca, va, t9.1, t9.2)
          else
            if f = 0 then
              let t8 := f_Mo_give gi gn (a - b)
              (ca, va, t8.1, t8.2)
            else
              let t7 := f_Mo_illegal ca va px
              (t7.1, t7.2, gi, gn)
        else
          let t6 := f_Mo_illegal ca va px
          (t6.1, t6.2, gi, gn)
      else
        if f = (5 : Int32) then
          if g = (32 : Int32) then
            let t11 := f_Mo_give gi gn (a >>> ((b &&& (31 : Int32)) &&& 31))
            (ca, va, t11.1, t11.2)
          else
            let t10 := f_Mo_illegal ca va px
            (t10.1, t10.2, gi, gn)
        else
          let t12 := f_Mo_give gi gn (f_Mo_reckoned f a b)
          (ca, va, t12.1, t12.2)
def f_Mo_jump (ca : Int32) (va : Int32) (pp : Int32) (px : Int32) (ne : Int32) (gi : Int32) (gn : Int32) (f : Int32) (v : Int32) : Int32 × Int32 × Int32 × Int32 × Int32 :=
  if f = 0 then
    let t1 := f_Mo_give gi gn (pp + (4 : Int32))
    let t2 := f_Mo_go ca va ne v
    (t2.1, t2.2.1, t2.2.2, t1.1, t1.2)
  else
    let t3 := f_Mo_illegal ca va px
    (t3.1, t3.2, ne, gi, gn)
def f_Mo_rest (ca : Int32) (va : Int32) (px : Int32) (f : Int32) : Int32 × Int32 :=
  if px = (115 : Int32) then
    let t4 := f_Mo_stop ca va (3 : Int32) (0 : Int32)
    (t4.1, t4.2)
  else
    if px = (1048691 : Int32) then
      let t3 := f_Mo_stop ca va (4 : Int32) (0 : Int32)
      (t3.1, t3.2)
    else
      if (f_Mo_field px (0 : Int32) (7 : Int32)) = (15 : Int32) then
        if f = 0 then
          (ca, va)
        else
          let t2 := f_Mo_illegal ca va px
          (t2.1, t2.2)
      else
        let t1 := f_Mo_illegal ca va px
        (t1.1, t1.2)
def f_Mo_execute (wr : Nat → Int32) (wg : Nat → Int64) (ke : Nat → Int32) (ma : Nat → Int32) (li : Nat → Int64) (ca : Int32) (va : Int32) (cn : Nat → Int32) (pp : Int32) (px : Int32) (go : Int32) (ne : Int32) (gi : Int32) (gn : Int32) : (Nat → Int32) × (Nat → Int64) × (Nat → Int64) × Int32 × Int32 × (Nat → Int32) × Int32 × Int32 × Int32 × Int32 :=
  if (f_Mo_field px (0 : Int32) (7 : Int32)) = (3 : Int32) then
    let t1 := f_Mo_load wr wg li ca va cn px go gi gn (f_Mo_field px (12 : Int32) (3 : Int32)) ((f_Mo_operand ke ma (f_Mo_field px (15 : Int32) (5 : Int32))) + (px >>> ((20 : Int32) &&& 31)))
    (wr, t1.1, t1.2.1, t1.2.2.1, t1.2.2.2.1, t1.2.2.2.2.1, t1.2.2.2.2.2.1, ne, t1.2.2.2.2.2.2.1, t1.2.2.2.2.2.2.2)
  else
    if (f_Mo_field px (0 : Int32) (7 : Int32)) = (19 : Int32) then
      if (f_Mo_field px (12 : Int32) (3 : Int32)) = (1 : Int32) then
        let t2 := f_Mo_reckon ca va px gi gn (f_Mo_field px (12 : Int32) (3 : Int32)) (f_Mo_field px (25 : Int32) (7 : Int32)) (f_Mo_operand ke ma (f_Mo_field px (15 : Int32) (5 : Int32))) (f_Mo_field px (20 : Int32) (5 : Int32)) (1 : Int32)
        (wr, wg, li, t2.1, t2.2.1, cn, go, ne, t2.2.2.1, t2.2.2.2)
      else
        if (f_Mo_field px (12 : Int32) (3 : Int32)) = (5 : Int32) then
          let t4 := f_Mo_reckon ca va px gi gn (f_Mo_field px (12 : Int32) (3 : Int32)) (f_Mo_field px (25 : Int32) (7 : Int32)) (f_Mo_operand ke ma (f_Mo_field px (15 : Int32) (5 : Int32))) (f_Mo_field px (20 : Int32) (5 : Int32)) (1 : Int32)
          (wr, wg, li, t4.1, t4.2.1, cn, go, ne, t4.2.2.1, t4.2.2.2)
        else
          let t3 := f_Mo_reckon ca va px gi gn (f_Mo_field px (12 : Int32) (3 : Int32)) (f_Mo_field px (25 : Int32) (7 : Int32)) (f_Mo_operand ke ma (f_Mo_field px (15 : Int32) (5 : Int32))) (px >>> ((20 : Int32) &&& 31)) (1 : Int32)
          (wr, wg, li, t3.1, t3.2.1, cn, go, ne, t3.2.2.1, t3.2.2.2)
    else
      if (f_Mo_field px (0 : Int32) (7 : Int32)) = (23 : Int32) then
        let t5 := f_Mo_give gi gn (pp + (px &&& (-4096 : Int32)))
        (wr, wg, li, ca, va, cn, go, ne, t5.1, t5.2)
      else
        if (f_Mo_field px (0 : Int32) (7 : Int32)) = (35 : Int32) then
          let t6 := f_Mo_store wr wg li ca va cn px go (f_Mo_field px (12 : Int32) (3 : Int32)) ((f_Mo_operand ke ma (f_Mo_field px (15 : Int32) (5 : Int32))) + (f_Mo_numberJ px)) (f_Mo_operand ke ma (f_Mo_field px (20 : Int32) (5 : Int32)))
          (t6.1, t6.2.1, t6.2.2.1, t6.2.2.2.1, t6.2.2.2.2.1, t6.2.2.2.2.2.1, t6.2.2.2.2.2.2, ne, gi, gn)
        else
          if (f_Mo_field px (0 : Int32) (7 : Int32)) = (51 : Int32) then
            let t7 := f_Mo_reckon ca va px gi gn (f_Mo_field px (12 : Int32) (3 : Int32)) (f_Mo_field px (25 : Int32) (7 : Int32)) (f_Mo_operand ke ma (f_Mo_field px (15 : Int32) (5 : Int32))) (f_Mo_operand ke ma (f_Mo_field px (20 : Int32) (5 : Int32))) (0 : Int32)
            (wr, wg, li, t7.1, t7.2.1, cn, go, ne, t7.2.2.1, t7.2.2.2)
          else
            if (f_Mo_field px (0 : Int32) (7 : Int32)) = (55 : Int32) then
              let t8 := f_Mo_give gi gn (px &&& (-4096 : Int32))
              (wr, wg, li, ca, va, cn, go, ne, t8.1, t8.2)
            else
              if (f_Mo_field px (0 : Int32) (7 : Int32)) = (99 : Int32) then
                let t9 := f_Mo_branch ca va pp px ne (f_Mo_field px (12 : Int32) (3 : Int32)) (f_Mo_operand ke ma (f_Mo_field px (15 : Int32) (5 : Int32))) (f_Mo_operand ke ma (f_Mo_field px (20 : Int32) (5 : Int32)))
                (wr, wg, li, t9.1, t9.2.1, cn, go, t9.2.2, gi, gn)
              else
                if (f_Mo_field px (0 : Int32) (7 : Int32)) = (103 : Int32) then
                  let t10 := f_Mo_jump ca va pp px ne gi gn (f_Mo_field px (12 : Int32) (3 : Int32)) (((f_Mo_operand ke ma (f_Mo_field px (15 : Int32) (5 : Int32))) + (px >>> ((20 : Int32) &&& 31))) &&& (-2 : Int32))
                  (wr, wg, li, t10.1, t10.2.1, cn, go, t10.2.2.1, t10.2.2.2.1, t10.2.2.2.2)
                else
                  if (f_Mo_field px (0 : Int32) (7 : Int32)) = (111 : Int32) then
                    let t11 := f_Mo_give gi gn (pp + (4 : Int32))
                    let t12 := f_Mo_go ca va ne (pp + (f_Mo_numberL px))
                    (wr, wg, li, t12.1, t12.2.1, cn, go, t12.2.2, t11.1, t11.2)
                  else
                    let t13 := f_Mo_rest ca va px (f_Mo_field px (12 : Int32) (3 : Int32))
                    (wr, wg, li, t13.1, t13.2, cn, go, ne, gi, gn)
def f_Mo_change (wg : Nat → Int64) (ma : Nat → Int32) (li : Nat → Int64) (part : Int32) (bit : Int32) : (Nat → Int64) × (Nat → Int32) × (Nat → Int64) :=
  if (64 : Int32) ≤ part then
    if (160 : Int32) ≤ part then
      (wg, ma, (vp_updL li (part - (160 : Int32)).toNatClampNeg ((li (part - (160 : Int32)).toNatClampNeg) ^^^ (u_lshl (1 : Int64) bit))))
    else
      (wg, (upd ma (part - (64 : Int32)).toNatClampNeg ((ma (part - (64 : Int32)).toNatClampNeg) ^^^ ((1 : Int32) <<< (bit &&& 31)))), li)
  else
    ((vp_updL wg part.toNatClampNeg ((wg part.toNatClampNeg) ^^^ (u_lshl (1 : Int64) bit))), ma, li)
def f_Mo_makeFaults_l4 (cy : Int32) : Nat → Nat → Int32 → (Nat → Int64) → (Nat → Int32) → (Nat → Int64) → (Nat → Int32) → (Nat → Int64) × (Nat → Int32) × (Nat → Int64) × Int32 × (Nat → Int32)
  | 0, j, le, wg_, ma_, li_, pn_ =>
    (wg_, ma_, li_, le, pn_)
  | n + 1, j, le, wg_, ma_, li_, pn_ =>
    if (pn_ ((3 : Int32) * (nI j)).toNatClampNeg) = cy then
      let t1 := f_Mo_change wg_ ma_ li_ (pn_ (((3 : Int32) * (nI j)) + (1 : Int32)).toNatClampNeg) (pn_ (((3 : Int32) * (nI j)) + (2 : Int32)).toNatClampNeg)
      f_Mo_makeFaults_l4 cy n (j + 1) le t1.1 t1.2.1 t1.2.2 pn_
    else
      f_Mo_makeFaults_l4 cy n (j + 1) (le + 1) wg_ ma_ li_ (upd (upd (upd pn_ (((3 : Int32) * le) + (0 : Int32)).toNatClampNeg (pn_ (((3 : Int32) * (nI j)) + (0 : Int32)).toNatClampNeg)) (((3 : Int32) * le) + (1 : Int32)).toNatClampNeg ((upd pn_ (((3 : Int32) * le) + (0 : Int32)).toNatClampNeg (pn_ (((3 : Int32) * (nI j)) + (0 : Int32)).toNatClampNeg)) (((3 : Int32) * (nI j)) + (1 : Int32)).toNatClampNeg)) (((3 : Int32) * le) + (2 : Int32)).toNatClampNeg ((upd (upd pn_ (((3 : Int32) * le) + (0 : Int32)).toNatClampNeg (pn_ (((3 : Int32) * (nI j)) + (0 : Int32)).toNatClampNeg)) (((3 : Int32) * le) + (1 : Int32)).toNatClampNeg ((upd pn_ (((3 : Int32) * le) + (0 : Int32)).toNatClampNeg (pn_ (((3 : Int32) * (nI j)) + (0 : Int32)).toNatClampNeg)) (((3 : Int32) * (nI j)) + (1 : Int32)).toNatClampNeg)) (((3 : Int32) * (nI j)) + (2 : Int32)).toNatClampNeg))
def f_Mo_makeFaults (wg : Nat → Int64) (ma : Nat → Int32) (li : Nat → Int64) (ps : Int32) (pn : Nat → Int32) (cy : Int32) : (Nat → Int64) × (Nat → Int32) × (Nat → Int64) × Int32 × (Nat → Int32) :=
  f_Mo_makeFaults_l4 cy ps.toNatClampNeg 0 (0 : Int32) wg ma li pn
def f_Mo_scrub (wg : Nat → Int64) (cn : Nat → Int32) : (Nat → Int64) × (Nat → Int32) :=
  let t1 := f_Mo_mend wg cn (cn (5 : Int32).toNatClampNeg)
  if t1.1 = 0 then
    (t1.2.1, (upd (upd t1.2.2 (1 : Int32).toNatClampNeg ((t1.2.2 (1 : Int32).toNatClampNeg) + (1 : Int32))) (5 : Int32).toNatClampNeg (u_rem (((upd t1.2.2 (1 : Int32).toNatClampNeg ((t1.2.2 (1 : Int32).toNatClampNeg) + (1 : Int32))) (5 : Int32).toNatClampNeg) + (1 : Int32)) (64 : Int32))))
  else
    (t1.2.1, (upd t1.2.2 (5 : Int32).toNatClampNeg (u_rem ((t1.2.2 (5 : Int32).toNatClampNeg) + (1 : Int32)) (64 : Int32))))
def f_Mo_resume (ke : Nat → Int32) (ma : Nat → Int32) (ca : Int32) (va : Int32) (v : Int32) : Int32 × (Nat → Int32) × (Nat → Int32) × Int32 × Int32 :=
  if ca = 0 then
    ((0 : Int32), ke, ma, ca, va)
  else
    let t1 := f_Mo_put ke ma (0 : Int32) v
    let t2 := f_Mo_stop ca va (0 : Int32) (0 : Int32)
    ((1 : Int32), t1.1, t1.2, t2.1, t2.2)
def f_Mo_write (wr : Nat → Int32) (wg : Nat → Int64) (li : Nat → Int64) (w : Int32) (v : Int32) : Int32 × (Nat → Int32) × (Nat → Int64) × (Nat → Int64) :=
  if (f_Mo_outside w (63 : Int32)) = 0 then
    let t1 := f_Mo_keep wr wg w v
    ((1 : Int32), t1.1, t1.2, (vp_updL (vp_updL (vp_updL (vp_updL (vp_updL (vp_updL (vp_updL (vp_updL li (0 : Int32).toNatClampNeg (0 : Int64)) (1 : Int32).toNatClampNeg (0 : Int64)) (2 : Int32).toNatClampNeg (0 : Int64)) (3 : Int32).toNatClampNeg (0 : Int64)) (4 : Int32).toNatClampNeg (0 : Int64)) (5 : Int32).toNatClampNeg (0 : Int64)) (6 : Int32).toNatClampNeg (0 : Int64)) (7 : Int32).toNatClampNeg (0 : Int64)))
  else
    ((0 : Int32), wr, wg, li)
def f_Mo_set (ke : Nat → Int32) (ma : Nat → Int32) (w : Int32) (v : Int32) : Int32 × (Nat → Int32) × (Nat → Int32) :=
  if (f_Mo_outside w (31 : Int32)) = 0 then
    let t1 := f_Mo_put ke ma w v
    ((1 : Int32), t1.1, t1.2)
  else
    ((0 : Int32), ke, ma)
def f_Mo_noBit (part : Int32) (bit : Int32) : Int32 :=
  if (f_Mo_outside part (167 : Int32)) = 0 then
    if (64 : Int32) ≤ part then
      if (160 : Int32) ≤ part then
        if (f_Mo_outside bit (37 : Int32)) = 0 then
          ((0 : Int32))
        else
          ((1 : Int32))
      else
        if (f_Mo_outside bit (31 : Int32)) = 0 then
          ((0 : Int32))
        else
          ((1 : Int32))
    else
      if (f_Mo_outside bit (38 : Int32)) = 0 then
        ((0 : Int32))
      else
        ((1 : Int32))
  else
    ((1 : Int32))
def f_Mo_flip (wg : Nat → Int64) (ma : Nat → Int32) (li : Nat → Int64) (part : Int32) (bit : Int32) : Int32 × (Nat → Int64) × (Nat → Int32) × (Nat → Int64) :=
  if (f_Mo_noBit part bit) = 0 then
    let t1 := f_Mo_change wg ma li part bit
    ((1 : Int32), t1.1, t1.2.1, t1.2.2)
  else
    ((0 : Int32), wg, ma, li)
def f_Mo_plan (ps : Int32) (pn : Nat → Int32) (cy : Int32) (n_ : Int32) (part : Int32) (bit : Int32) : Int32 × Int32 × (Nat → Int32) :=
  if n_ < (1 : Int32) then
    ((0 : Int32), ps, pn)
  else
    if (1000 : Int32) < n_ then
      ((0 : Int32), ps, pn)
    else
      if (f_Mo_noBit part bit) = 0 then
        if ps = (16 : Int32) then
          ((0 : Int32), ps, pn)
        else
          ((1 : Int32), (ps + (1 : Int32)), (upd (upd (upd pn ((3 : Int32) * ps).toNatClampNeg (cy + n_)) (((3 : Int32) * ps) + (1 : Int32)).toNatClampNeg part) (((3 : Int32) * ps) + (2 : Int32)).toNatClampNeg bit))
      else
        ((0 : Int32), ps, pn)
def f_Mo_planned (ps : Int32) : Int32 :=
  (ps)
def f_Mo_register (ke : Nat → Int32) (ma : Nat → Int32) (w : Int32) : Int32 :=
  if (f_Mo_outside w (31 : Int32)) = 0 then
    ((f_Mo_valueOf ke ma w))
  else
    ((0 : Int32))
def f_Mo_look (wr : Nat → Int32) (wg : Nat → Int64) (w : Int32) : Int64 :=
  if (f_Mo_outside w (63 : Int32)) = 0 then
    if (f_Mo_wrongBit (wg w.toNatClampNeg)) < 0 then
      if (f_Mo_wrongBit (wg w.toNatClampNeg)) = (-2 : Int32) then
        ((-2 : Int64))
      else
        (((((wr w.toNatClampNeg) ^^^ (f_Mo_dataOf (wg w.toNatClampNeg))).toInt64) &&& (4294967295 : Int64)))
    else
      if (f_Mo_wrongBit (wg w.toNatClampNeg)) = (-2 : Int32) then
        ((-2 : Int64))
      else
        (((((wr w.toNatClampNeg) ^^^ (f_Mo_dataOf ((wg w.toNatClampNeg) ^^^ (u_lshl (1 : Int64) (f_Mo_wrongBit (wg w.toNatClampNeg)))))).toInt64) &&& (4294967295 : Int64)))
  else
    ((-1 : Int64))
def f_Mo_bits (wr : Nat → Int32) (wg : Nat → Int64) (ke : Nat → Int32) (ma : Nat → Int32) (li : Nat → Int64) (part : Int32) : Int64 :=
  if (f_Mo_outside part (167 : Int32)) = 0 then
    if part ≤ (159 : Int32) then
      if (64 : Int32) ≤ part then
        (((((ke ((part - (64 : Int32)) / (3 : Int32)).toNatClampNeg) ^^^ (ma (part - (64 : Int32)).toNatClampNeg)).toInt64) &&& (4294967295 : Int64)))
      else
        (((f_Mo_encoded (wr part.toNatClampNeg)) ^^^ (wg part.toNatClampNeg)))
    else
      ((li (part - (160 : Int32)).toNatClampNeg))
  else
    ((-1 : Int64))
def f_Mo_cause (ca : Int32) : Int32 :=
  (ca)
def f_Mo_value (va : Int32) : Int32 :=
  (va)
def f_Mo_cycles (cy : Int32) : Int32 :=
  (cy)
def f_Mo_count (cn : Nat → Int32) (w : Int32) : Int32 :=
  if (f_Mo_outside w (5 : Int32)) = 0 then
    ((cn w.toNatClampNeg))
  else
    ((-1 : Int32))
def f_Mo_instruct (wr : Nat → Int32) (wg : Nat → Int64) (ke : Nat → Int32) (ma : Nat → Int32) (li : Nat → Int64) (ca : Int32) (va : Int32) (cn : Nat → Int32) (pp : Int32) (px : Int32) (go : Int32) (ne : Int32) (gi : Int32) (gn : Int32) : (Nat → Int32) × (Nat → Int64) × (Nat → Int32) × (Nat → Int32) × (Nat → Int64) × Int32 × Int32 × (Nat → Int32) × Int32 × Int32 × Int32 × Int32 × Int32 × Int32 :=
  if (u_rem (f_Mo_valueOf ke ma (0 : Int32)) (4 : Int32)) = 0 then
    if (f_Mo_outside (f_Mo_valueOf ke ma (0 : Int32)) (255 : Int32)) = 0 then
      let t3 := f_Mo_fetch wr wg li ca va cn go (0 : Int32) ((f_Mo_valueOf ke ma (0 : Int32)) / (4 : Int32))
      if t3.1 = 0 then
        if t3.2.2.2.1 = 0 then
          let t4 := f_Mo_put ke ma (0 : Int32) ((f_Mo_valueOf ke ma (0 : Int32)) + (4 : Int32))
          (wr, t3.2.1, t4.1, t4.2, t3.2.2.1, t3.2.2.2.1, t3.2.2.2.2.1, t3.2.2.2.2.2.1, (f_Mo_valueOf ke ma (0 : Int32)), px, t3.2.2.2.2.2.2, ((f_Mo_valueOf ke ma (0 : Int32)) + (4 : Int32)), (0 : Int32), gn)
        else
          (wr, t3.2.1, ke, ma, t3.2.2.1, t3.2.2.2.1, t3.2.2.2.2.1, t3.2.2.2.2.2.1, (f_Mo_valueOf ke ma (0 : Int32)), px, t3.2.2.2.2.2.2, ((f_Mo_valueOf ke ma (0 : Int32)) + (4 : Int32)), (0 : Int32), gn)
      else
        let t5 := f_Mo_execute wr t3.2.1 ke ma t3.2.2.1 t3.2.2.2.1 t3.2.2.2.2.1 t3.2.2.2.2.2.1 (f_Mo_valueOf ke ma (0 : Int32)) t3.2.2.2.2.2.2 t3.2.2.2.2.2.2 ((f_Mo_valueOf ke ma (0 : Int32)) + (4 : Int32)) (0 : Int32) gn
        if t5.2.2.2.1 = 0 then
          if t5.2.2.2.2.2.2.2.2.1 = 0 then
            let t6 := f_Mo_put ke ma (0 : Int32) t5.2.2.2.2.2.2.2.1
            (t5.1, t5.2.1, t6.1, t6.2, t5.2.2.1, t5.2.2.2.1, t5.2.2.2.2.1, t5.2.2.2.2.2.1, (f_Mo_valueOf ke ma (0 : Int32)), t3.2.2.2.2.2.2, t5.2.2.2.2.2.2.1, t5.2.2.2.2.2.2.2.1, t5.2.2.2.2.2.2.2.2.1, t5.2.2.2.2.2.2.2.2.2)
          else
            if (f_Mo_field t3.2.2.2.2.2.2 (7 : Int32) (5 : Int32)) ≤ 0 then
              let t7 := f_Mo_put ke ma (0 : Int32) t5.2.2.2.2.2.2.2.1
              (t5.1, t5.2.1, t7.1, t7.2, t5.2.2.1, t5.2.2.2.1, t5.2.2.2.2.1, t5.2.2.2.2.2.1, (f_Mo_valueOf ke ma (0 : Int32)), t3.2.2.2.2.2.2, t5.2.2.2.2.2.2.1, t5.2.2.2.2.2.2.2.1, t5.2.2.2.2.2.2.2.2.1, t5.2.2.2.2.2.2.2.2.2)
            else
              let t8 := f_Mo_put ke ma (f_Mo_field t3.2.2.2.2.2.2 (7 : Int32) (5 : Int32)) t5.2.2.2.2.2.2.2.2.2
              let t9 := f_Mo_put t8.1 t8.2 (0 : Int32) t5.2.2.2.2.2.2.2.1
              (t5.1, t5.2.1, t9.1, t9.2, t5.2.2.1, t5.2.2.2.1, t5.2.2.2.2.1, t5.2.2.2.2.2.1, (f_Mo_valueOf ke ma (0 : Int32)), t3.2.2.2.2.2.2, t5.2.2.2.2.2.2.1, t5.2.2.2.2.2.2.2.1, t5.2.2.2.2.2.2.2.2.1, t5.2.2.2.2.2.2.2.2.2)
        else
          (t5.1, t5.2.1, ke, ma, t5.2.2.1, t5.2.2.2.1, t5.2.2.2.2.1, t5.2.2.2.2.2.1, (f_Mo_valueOf ke ma (0 : Int32)), t3.2.2.2.2.2.2, t5.2.2.2.2.2.2.1, t5.2.2.2.2.2.2.2.1, t5.2.2.2.2.2.2.2.2.1, t5.2.2.2.2.2.2.2.2.2)
    else
      let t10 := f_Mo_stop ca va (1 : Int32) (f_Mo_valueOf ke ma (0 : Int32))
      if t10.1 = 0 then
        let t11 := f_Mo_put ke ma (0 : Int32) ((f_Mo_valueOf ke ma (0 : Int32)) + (4 : Int32))
        (wr, wg, t11.1, t11.2, li, t10.1, t10.2, cn, (f_Mo_valueOf ke ma (0 : Int32)), px, go, ((f_Mo_valueOf ke ma (0 : Int32)) + (4 : Int32)), (0 : Int32), gn)
      else
        (wr, wg, ke, ma, li, t10.1, t10.2, cn, (f_Mo_valueOf ke ma (0 : Int32)), px, go, ((f_Mo_valueOf ke ma (0 : Int32)) + (4 : Int32)), (0 : Int32), gn)
  else
    let t1 := f_Mo_stop ca va (1 : Int32) (f_Mo_valueOf ke ma (0 : Int32))
    if t1.1 = 0 then
      let t2 := f_Mo_put ke ma (0 : Int32) ((f_Mo_valueOf ke ma (0 : Int32)) + (4 : Int32))
      (wr, wg, t2.1, t2.2, li, t1.1, t1.2, cn, (f_Mo_valueOf ke ma (0 : Int32)), px, go, ((f_Mo_valueOf ke ma (0 : Int32)) + (4 : Int32)), (0 : Int32), gn)
    else
      (wr, wg, ke, ma, li, t1.1, t1.2, cn, (f_Mo_valueOf ke ma (0 : Int32)), px, go, ((f_Mo_valueOf ke ma (0 : Int32)) + (4 : Int32)), (0 : Int32), gn)
def f_V_run_l15 (ev : Int32) : Nat → Nat → (Nat → Int64) → Int32 → (Nat → Int64) → Int32 → (Nat → Int64) → Int32 → (Nat → Int32) → Int32 → (Nat → Int32) → (Nat → Int32) → (Nat → Int32) → Int32 → Int32 → Int32 → Int32 → Int32 → Int32 → Int32 × (Nat → Int64) × Int32 × (Nat → Int64) × Int32 × (Nat → Int64) × Int32 × (Nat → Int32) × Int32 × (Nat → Int32) × (Nat → Int32) × (Nat → Int32) × Int32 × Int32 × Int32 × Int32 × Int32 × Int32
  | 0, j, K_, co_, L1_, r1_, L2_, r2_, R_, vo_, FC_, FP_, FB_, fs_, cy_, sp_, de_, ca_, va_ =>
    ((nI j), K_, co_, L1_, r1_, L2_, r2_, R_, vo_, FC_, FP_, FB_, fs_, cy_, sp_, de_, ca_, va_)
  | n + 1, j, K_, co_, L1_, r1_, L2_, r2_, R_, vo_, FC_, FP_, FB_, fs_, cy_, sp_, de_, ca_, va_ =>
    if ca_ = 0 then
      let t1 := f_V_makePlannedFaults K_ L1_ L2_ R_ FC_ FP_ FB_ fs_ (cy_ + (1 : Int32))
      let t2 := f_Re_vote t1.2.2.2.1 vo_
      let t3 := f_V_doInstruction t1.1 co_ t1.2.1 r1_ t1.2.2.1 r2_ t2.1 ca_ va_
      if (u_rem (cy_ + (1 : Int32)) ev) = 0 then
        let t4 := f_V_scrub t3.1 t3.2.1 sp_ de_
        f_V_run_l15 ev n (j + 1) t4.1 t4.2.1 t3.2.2.1 t3.2.2.2.1 t3.2.2.2.2.1 t3.2.2.2.2.2.1 t3.2.2.2.2.2.2.1 t2.2 t1.2.2.2.2.1 t1.2.2.2.2.2.1 t1.2.2.2.2.2.2.1 t1.2.2.2.2.2.2.2 (cy_ + (1 : Int32)) t4.2.2.1 t4.2.2.2 t3.2.2.2.2.2.2.2.1 t3.2.2.2.2.2.2.2.2
      else
        f_V_run_l15 ev n (j + 1) t3.1 t3.2.1 t3.2.2.1 t3.2.2.2.1 t3.2.2.2.2.1 t3.2.2.2.2.2.1 t3.2.2.2.2.2.2.1 t2.2 t1.2.2.2.2.1 t1.2.2.2.2.2.1 t1.2.2.2.2.2.2.1 t1.2.2.2.2.2.2.2 (cy_ + (1 : Int32)) sp_ de_ t3.2.2.2.2.2.2.2.1 t3.2.2.2.2.2.2.2.2
    else
      ((nI j), K_, co_, L1_, r1_, L2_, r2_, R_, vo_, FC_, FP_, FB_, fs_, cy_, sp_, de_, ca_, va_)
def f_V_run (ev : Int32) (K : Nat → Int64) (co : Int32) (L1 : Nat → Int64) (r1 : Int32) (L2 : Nat → Int64) (r2 : Int32) (R : Nat → Int32) (vo : Int32) (FC : Nat → Int32) (FP : Nat → Int32) (FB : Nat → Int32) (fs : Int32) (cy : Int32) (sp : Int32) (de : Int32) (ca : Int32) (va : Int32) (n_ : Int32) : Int32 × (Nat → Int64) × Int32 × (Nat → Int64) × Int32 × (Nat → Int64) × Int32 × (Nat → Int32) × Int32 × (Nat → Int32) × (Nat → Int32) × (Nat → Int32) × Int32 × Int32 × Int32 × Int32 × Int32 × Int32 :=
  if n_ < 0 then
    ((-1 : Int32), K, co, L1, r1, L2, r2, R, vo, FC, FP, FB, fs, cy, sp, de, ca, va)
  else
    if n_ ≤ (500 : Int32) then
      f_V_run_l15 ev n_.toNatClampNeg 0 K co L1 r1 L2 r2 R vo FC FP FB fs cy sp de ca va
    else
      ((-1 : Int32), K, co, L1, r1, L2, r2, R, vo, FC, FP, FB, fs, cy, sp, de, ca, va)
def f_Mo_run_l14 (ev : Int32) : Nat → Nat → (Nat → Int32) → (Nat → Int64) → (Nat → Int32) → (Nat → Int32) → (Nat → Int64) → Int32 → (Nat → Int32) → Int32 → Int32 → Int32 → (Nat → Int32) → Int32 → Int32 → Int32 → Int32 → Int32 → Int32 → Int32 × (Nat → Int32) × (Nat → Int64) × (Nat → Int32) × (Nat → Int32) × (Nat → Int64) × Int32 × (Nat → Int32) × Int32 × Int32 × Int32 × (Nat → Int32) × Int32 × Int32 × Int32 × Int32 × Int32 × Int32
  | 0, j, wr_, wg_, ke_, ma_, li_, ps_, pn_, cy_, ca_, va_, cn_, pp_, px_, go_, ne_, gi_, gn_ =>
    ((nI j), wr_, wg_, ke_, ma_, li_, ps_, pn_, cy_, ca_, va_, cn_, pp_, px_, go_, ne_, gi_, gn_)
  | n + 1, j, wr_, wg_, ke_, ma_, li_, ps_, pn_, cy_, ca_, va_, cn_, pp_, px_, go_, ne_, gi_, gn_ =>
    if ca_ = 0 then
      let t1 := f_Mo_makeFaults wg_ ma_ li_ ps_ pn_ (cy_ + (1 : Int32))
      let t2 := f_Mo_vote ke_ t1.2.1 cn_
      let t3 := f_Mo_instruct wr_ t1.1 t2.1 t2.2.1 t1.2.2.1 ca_ va_ t2.2.2 pp_ px_ go_ ne_ gi_ gn_
      if (u_rem (cy_ + (1 : Int32)) ev) = 0 then
        let t4 := f_Mo_scrub t3.2.1 t3.2.2.2.2.2.2.2.1
        f_Mo_run_l14 ev n (j + 1) t3.1 t4.1 t3.2.2.1 t3.2.2.2.1 t3.2.2.2.2.1 t1.2.2.2.1 t1.2.2.2.2 (cy_ + (1 : Int32)) t3.2.2.2.2.2.1 t3.2.2.2.2.2.2.1 t4.2 t3.2.2.2.2.2.2.2.2.1 t3.2.2.2.2.2.2.2.2.2.1 t3.2.2.2.2.2.2.2.2.2.2.1 t3.2.2.2.2.2.2.2.2.2.2.2.1 t3.2.2.2.2.2.2.2.2.2.2.2.2.1 t3.2.2.2.2.2.2.2.2.2.2.2.2.2
      else
        f_Mo_run_l14 ev n (j + 1) t3.1 t3.2.1 t3.2.2.1 t3.2.2.2.1 t3.2.2.2.2.1 t1.2.2.2.1 t1.2.2.2.2 (cy_ + (1 : Int32)) t3.2.2.2.2.2.1 t3.2.2.2.2.2.2.1 t3.2.2.2.2.2.2.2.1 t3.2.2.2.2.2.2.2.2.1 t3.2.2.2.2.2.2.2.2.2.1 t3.2.2.2.2.2.2.2.2.2.2.1 t3.2.2.2.2.2.2.2.2.2.2.2.1 t3.2.2.2.2.2.2.2.2.2.2.2.2.1 t3.2.2.2.2.2.2.2.2.2.2.2.2.2
    else
      ((nI j), wr_, wg_, ke_, ma_, li_, ps_, pn_, cy_, ca_, va_, cn_, pp_, px_, go_, ne_, gi_, gn_)
def f_Mo_run (ev : Int32) (wr : Nat → Int32) (wg : Nat → Int64) (ke : Nat → Int32) (ma : Nat → Int32) (li : Nat → Int64) (ps : Int32) (pn : Nat → Int32) (cy : Int32) (ca : Int32) (va : Int32) (cn : Nat → Int32) (pp : Int32) (px : Int32) (go : Int32) (ne : Int32) (gi : Int32) (gn : Int32) (n_ : Int32) : Int32 × (Nat → Int32) × (Nat → Int64) × (Nat → Int32) × (Nat → Int32) × (Nat → Int64) × Int32 × (Nat → Int32) × Int32 × Int32 × Int32 × (Nat → Int32) × Int32 × Int32 × Int32 × Int32 × Int32 × Int32 :=
  if (f_Mo_outside n_ (500 : Int32)) = 0 then
    f_Mo_run_l14 ev n_.toNatClampNeg 0 wr wg ke ma li ps pn cy ca va cn pp px go ne gi gn
  else
    ((-1 : Int32), wr, wg, ke, ma, li, ps, pn, cy, ca, va, cn, pp, px, go, ne, gi, gn)
end
section
/-! My own rows over the kit: one list of words for all methods (GW), one start for all contracts (PW), one row a call (cj_..). -/
theorem gw_good {c : Cond} (hc : c ∈ GW) : GoodIn GW (c :: GW) := by
  have h : ∀ w ∈ GW, (w.onTables && w.keeps) = true ∨ ∃ ty, w = .arrayClass ty := fun w hw => good_of_word (List.mem_filter.mp hw).2
  intro w hw
  rcases List.mem_cons.mp hw with rfl | hw
  · exact ⟨hc, h _ hc⟩
  · exact ⟨hw, h _ hw⟩
/-- the words of nest mates: carried beside the tables -/
def NW (U : State) : Prop := ∀ w ∈ nestW, va_Nw w U
theorem nw_one {w : Cond} (hw : nw_is w = true) {s U : State} (hW : s.WarmedH U.vm) (h : va_Nw w s) : va_Nw w U := by
  cases w <;> first | (simp [nw_is] at hw; done) | exact va_Nw.warmF hW h | exact va_Nw.warmM hW h
theorem nw_on {w : Cond} (hw : nw_is w = true) : w.onTables = true := by
  cases w <;> first | (simp [nw_is] at hw; done) | rfl
theorem NW.warm {s U : State} (hW : s.WarmedH U.vm) (h : NW s) : NW U := fun w hw => nw_one (List.mem_filter.mp hw).2 hW (h w hw)
theorem NW.same {s U : State} (hv : s.vm = U.vm) (h : NW s) : NW U := fun w hw => va_Nw.same (nw_on (List.mem_filter.mp hw).2) hv (h w hw)
theorem NW.use {s : State} {args : Array Value} {w : Cond} (h : NW s) (hw : w ∈ nestW) : w.before args s = true := va_Nw.use (nw_on (List.mem_filter.mp hw).2) (h w hw)
/-- the table NUMBERED of the class Memory -/
def ST (A : Nat → Prop) (U : State) (H : Heap) : Prop := ∃ t : Nat, va_Z "VotedCore$Memory" "NUMBERED" "[J" (.ref t) A U H ∧ va_T .long t 6 numV A U H
theorem ST.moved {A : Nat → Prop} {u U : State} {H : Heap} (hvm : u.vm.Alike U.vm) (h : ST A u H) : ST A U H := by
  obtain ⟨t, h1, h2⟩ := h
  exact ⟨t, h1.moved hvm, h2.moved hvm⟩
theorem ST.kept {A : Nat → Prop} {U : State} {H H1 : Heap} (h : ST A U H) (hq : ∀ a : Nat, a < H.size → ¬ A a → H1[a]? = H[a]?) : ST A U H1 := by
  obtain ⟨t, h1, h2⟩ := h
  exact ⟨t, h1.kept hq, h2.kept hq⟩
theorem ST.narrow {A B : Nat → Prop} {U : State} {H : Heap} (h : ST A U H) (hAB : ∀ q, B q → A q) : ST B U H := by
  obtain ⟨t, h1, h2⟩ := h
  exact ⟨t, h1.narrow hAB, h2.narrow hAB⟩
abbrev TY (cI cL : ClassId) : List (ClassId × FieldType) := [(cI, .int), (cL, .long)]
/-- every contract's start -/
def PW (D : va_G) (cI cL : ClassId) (ws : va_W) (sz : Nat) (U : State) : Prop :=
  U.heap.size = sz ∧ va_P D classes ws U.heap ∧ va_K D classes (TY cI cL) U ∧ NW U ∧ va_D (fun _ => True) ws ∧ ST (va_A ws sz) U U.heap
theorem pw_blind {D : va_G} {cI cL : ClassId} {ws : va_W} {sz : Nat} {As : List Value} : FrameBlind (va_Pc As (PW D cI cL ws sz)) := by
  intro a U g mk h
  obtain ⟨h0, h1, h2, h3, h4, h5, h6⟩ := h
  exact ⟨h0, h1, h2, va_K.moved (u := U) (U := U.calling g mk a) (Vm.Alike.refl U.vm) h3, NW.same (s := U) (U := U.calling g mk a) rfl h4, h5, ST.moved (u := U) (U := U.calling g mk a) (Vm.Alike.refl U.vm) h6⟩
section PWS
variable {s : State} {H : Heap} {D : va_G} {cI cL : ClassId} {ws wc : va_W} {A0 : Nat → Prop} {locs : List Loc} {As : List Value}
theorem pw_at (hK : va_K D classes (TY cI cL) s) (hN : NW s) (hT : ST A0 s s.heap) (hA : ∀ q, s.heap.size ≤ q → A0 q) (hP : va_P D classes ws H) (hD : va_D A0 ws) (hS : va_S A0 s.heap H locs) (isC : List Nat) (hC : isC.map (fun i => ws[i]?) = wc.map some) (hnd : va_nd isC = true) {U : State} (hU : U.heap = H) (hW : s.WarmedH U.vm) : PW D cI cL wc H.size U := by
  have hF := va_free (wc := wc) hD hS hA isC hC
  have hC' : isC.filterMap (fun i => ws[i]?) = wc := by
    have : ∀ (l : List Nat) (w : va_W), l.map (fun i => ws[i]?) = w.map some → l.filterMap (fun i => ws[i]?) = w := by
      intro l
      induction l with
      | nil => intro w h; cases w with
        | nil => rfl
        | cons a w => cases h
      | cons a l ih =>
        intro w h
        cases w with
        | nil => cases h
        | cons b w =>
          simp only [List.map_cons, List.cons.injEq] at h
          rw [List.filterMap_cons, h.1, ih w h.2]
    exact this isC wc hC
  refine ⟨by rw [hU], by rw [hU]; exact hP.sub isC hC', va_K.moved hW.alike hK, hN.warm hW, (hD.sub isC hnd hC).weaken (fun _ _ _ _ => trivial), ?_⟩
  rw [hU]
  exact ((hT.kept hS.2.1).narrow hF).moved hW.alike
theorem pw_S (hK : va_K D classes (TY cI cL) s) (hN : NW s) (hT : ST A0 s s.heap) (hA : ∀ q, s.heap.size ≤ q → A0 q) (hP : va_P D classes ws H) (hD : va_D A0 ws) (hS : va_S A0 s.heap H locs) (isC : List Nat) (hC : isC.map (fun i => ws[i]?) = wc.map some) (hnd : va_nd isC = true) : PreS s H (va_Pc As (PW D cI cL wc H.size)) As :=
  ⟨pw_blind, fun _ hU hW => ⟨rfl, pw_at hK hN hT hA hP hD hS isC hC hnd hU hW⟩⟩
theorem pw_V (hK : va_K D classes (TY cI cL) s) (hN : NW s) (hT : ST A0 s s.heap) (hA : ∀ q, s.heap.size ≤ q → A0 q) (hP : va_P D classes ws H) (hD : va_D A0 ws) (hS : va_S A0 s.heap H locs) (isC : List Nat) (hC : isC.map (fun i => ws[i]?) = wc.map some) (hnd : va_nd isC = true) {q0 ci b : Nat} {q : vw_C} {fs : List Value} (hc : classes[ci]? = some q) (he : ws[q0]? = some (b, .inr (ci, fs))) : PreV s H q.1 b (va_Pc (.ref b :: As) (PW D cI cL wc H.size)) As :=
  ⟨pw_blind, va_recv hK hP hc he, fun _ hU hW => ⟨rfl, pw_at hK hN hT hA hP hD hS isC hC hnd hU hW⟩⟩
end PWS
theorem va_D.adr {A : Nat → Prop} {wc w1 : va_W} (h : va_D A wc) (he : w1.map (·.1) = wc.map (·.1)) : va_D A w1 := by
  have key : ∀ (k : Nat) (q : Nat × va_E), w1[k]? = some q → ∃ q', wc[k]? = some q' ∧ q'.1 = q.1 := by
    intro k q hk
    have h1 : (w1.map (·.1))[k]? = some q.1 := by rw [List.getElem?_map, hk]; rfl
    rw [he, List.getElem?_map] at h1
    cases hc : wc[k]? with
    | none => rw [hc] at h1; cases h1
    | some q' => rw [hc] at h1; exact ⟨q', rfl, Option.some.inj h1⟩
  refine ⟨fun i j x y hi hj hxy => ?_, fun k q hk => ?_⟩
  · obtain ⟨x', hx, ex⟩ := key i x hi
    obtain ⟨y', hy, ey⟩ := key j y hj
    exact h.1 i j x' y' hx hy (by rw [ex, ey, hxy])
  · obtain ⟨q', hq, eq⟩ := key k q hk
    rw [← eq]
    exact h.2 k q' hq
/-- cells of a world replaced in place -/
def vj_set : va_W → List Nat → va_W → va_W
  | ws, i :: is, q :: w => vj_set (ws.set i q) is w
  | ws, _, _ => ws
theorem vj_at : ∀ (is : List Nat) (ws w1 : va_W), is.length = w1.length → ∀ (k : Nat) (q : Nat × va_E), (vj_set ws is w1)[k]? = some q → (k ∉ is ∧ ws[k]? = some q) ∨ ∃ j : Nat, is[j]? = some k ∧ w1[j]? = some q
  | [], ws, w1, _, k, q, h => by
    have h : ws[k]? = some q := by cases w1 <;> exact h
    exact Or.inl ⟨by simp, h⟩
  | i :: is, ws, [], hl, k, q, h => by simp at hl
  | i :: is, ws, q0 :: w1, hl, k, q, h => by
    have h : (vj_set (ws.set i q0) is w1)[k]? = some q := h
    rcases vj_at is (ws.set i q0) w1 (by simpa using hl) k q h with ⟨h1, h2⟩ | ⟨j, h1, h2⟩
    · by_cases hk : i = k
      · subst hk
        rw [List.getElem?_set] at h2
        by_cases hi : i < ws.length
        · simp [hi] at h2
          exact Or.inr ⟨0, rfl, by rw [← h2]; rfl⟩
        · simp [hi] at h2
      · rw [List.getElem?_set_ne hk] at h2
        exact Or.inl ⟨by simp [h1]; exact fun e => hk e.symm, h2⟩
    · exact Or.inr ⟨j + 1, h1, h2⟩
theorem vj_adr : ∀ (is : List Nat) (ws w1 : va_W), (∀ (j i : Nat) (q : Nat × va_E), is[j]? = some i → w1[j]? = some q → (ws[i]?).map (·.1) = some q.1) → (vj_set ws is w1).map (·.1) = ws.map (·.1)
  | [], ws, w1, _ => by cases w1 <;> rfl
  | i :: is, ws, [], _ => rfl
  | i :: is, ws, q0 :: w1, h => by
    have h0 : (ws[i]?).map (·.1) = some q0.1 := h 0 i q0 rfl rfl
    have hs : (ws.set i q0).map (·.1) = ws.map (·.1) := by
      apply List.ext_getElem?
      intro k
      rw [List.getElem?_map, List.getElem?_map, List.getElem?_set]
      by_cases hk : i = k
      · subst hk
        cases hw : ws[i]? with
        | none => rw [hw] at h0; cases h0
        | some x =>
          rw [hw] at h0
          have hlt : i < ws.length := (List.getElem?_eq_some_iff.mp hw).1
          simp [hlt]
          exact (Option.some.inj h0).symm
      · simp [hk]
    have := vj_adr is (ws.set i q0) w1 (fun j i' q hj hq => by
      have e : ((ws.set i q0)[i']?).map (·.1) = (ws[i']?).map (·.1) := by
        have h9 := congrArg (fun l => l[i']?) hs
        simp only [List.getElem?_map] at h9
        exact h9
      rw [e]
      exact h (j + 1) i' q hj hq)
    show (vj_set (ws.set i q0) is w1).map (·.1) = _
    rw [this, hs]
section CJ
variable {p : Program} {l : Launch} {e : Env} {R : Room} {s : State} {m : MethodId} {args : Array Value} {below : List Frame} {meth : Method} {c : Code} {H : Heap} {locs : List Loc} {cells slots mc ms : Nat} {Q : State → Prop}
variable {pc : Nat} {ls : Array Slot} {rest st0 : List Value} {a : Array Value} {A0 : Nat → Prop} {H0 : Heap} {D : va_G} {cl : List vw_C} {ws wc w1 : va_W}
theorem cj_w {H1 : Heap} (hP : va_P D cl ws H) (hD : va_D A0 ws) (isC : List Nat) (hC : isC.map (fun i => ws[i]?) = wc.map some) (hadr : w1.map (·.1) = wc.map (·.1))
    (hk : ∀ q : Nat, q < H.size → ¬ va_A wc H.size q → H1[q]? = H[q]?) (hP1 : va_P D cl w1 H1) : va_P D cl (vj_set ws isC w1) H1 ∧ va_D A0 (vj_set ws isC w1) := by
  have hl1 : isC.length = wc.length := by have := congrArg List.length hC; simpa using this
  have hl2 : w1.length = wc.length := by have := congrArg List.length hadr; simpa using this
  have hat : ∀ (k i : Nat), isC[k]? = some i → wc[k]? = ws[i]? := by
    intro k i hi
    have h1 : (isC.map (fun i => ws[i]?))[k]? = some (ws[i]?) := by rw [List.getElem?_map, hi]; rfl
    rw [hC, List.getElem?_map] at h1
    cases hw : wc[k]? with
    | none => rw [hw] at h1; cases h1
    | some x => rw [hw] at h1; exact Option.some.inj h1
  refine ⟨fun k q hq => ?_, hD.adr (vj_adr isC ws w1 (fun j i q hj hq => ?_))⟩
  · rcases vj_at isC ws w1 (hl1.trans hl2.symm) k q hq with ⟨h1, h2⟩ | ⟨j, -, h2⟩
    · refine (hP k q h2).kept (hk q.1 (hP k q h2).lt (fun h => ?_))
      rcases h with ⟨k2, e2, h⟩ | h
      · cases hi : isC[k2]? with
        | none =>
          have : k2 < wc.length := (List.getElem?_eq_some_iff.mp h).1
          have h3 := List.getElem?_eq_none_iff.mp hi
          omega
        | some i =>
          rw [hat k2 i hi] at h
          have := hD.1 k i q (q.1, e2) h2 h rfl
          subst this
          exact h1 (List.mem_of_getElem? hi)
      · have := (hP k q h2).lt
        omega
    · exact hP1 j q h2
  · have h1 : (w1.map (·.1))[j]? = some q.1 := by rw [List.getElem?_map, hq]; rfl
    rw [hadr, List.getElem?_map, hat j i hj] at h1
    exact h1
theorem cj_i (hP : va_P D cl ws H) (hD : va_D A0 ws) (hS : va_S A0 H0 H locs) (hA : ∀ q, H0.size ≤ q → A0 q) (isC : List Nat) (hC : isC.map (fun i => ws[i]?) = wc.map some) (hadr : w1.map (·.1) = wc.map (·.1)) {F : Int32}
    (hr : va_Run p l e R s m args below meth c H locs cells slots mc ms (F0 m pc ls st0) rest (va_Qi (fun r (_ : Unit) => r = F) (fun _ t => va_P D cl w1 t.heap) (va_A wc H.size) a) (va_A wc H.size))
    (kk : ∀ (H1 : Heap) (locs1 : List Loc), va_P D cl (vj_set ws isC w1) H1 → va_D A0 (vj_set ws isC w1) → va_S A0 H0 H1 locs1 → W p l e R s m args below meth c H1 locs1 (cells + mc) (slots + ms) Q (F0 m (pc + 3) ls (.int F :: rest))) : W p l e R s m args below meth c H locs cells slots Q (F0 m pc ls st0) := by
  have hF := va_free (wc := wc) hD hS hA isC hC
  refine va_calli hr hS (fun q _ h => hF q h) hF (fun r u t H1 locs1 ht _ hw hB _ hk1 hS1 => ?_)
  subst hw
  subst ht
  obtain ⟨g1, g2⟩ := cj_w hP hD isC hC hadr hk1 hB
  exact kk _ _ g1 g2 hS1
theorem cj_l (hP : va_P D cl ws H) (hD : va_D A0 ws) (hS : va_S A0 H0 H locs) (hA : ∀ q, H0.size ≤ q → A0 q) (isC : List Nat) (hC : isC.map (fun i => ws[i]?) = wc.map some) (hadr : w1.map (·.1) = wc.map (·.1)) {F : Int64}
    (hr : va_Run p l e R s m args below meth c H locs cells slots mc ms (F0 m pc ls st0) rest (va_Ql (fun r (_ : Unit) => r = F) (fun _ t => va_P D cl w1 t.heap) (va_A wc H.size) a) (va_A wc H.size))
    (kk : ∀ (H1 : Heap) (locs1 : List Loc), va_P D cl (vj_set ws isC w1) H1 → va_D A0 (vj_set ws isC w1) → va_S A0 H0 H1 locs1 → W p l e R s m args below meth c H1 locs1 (cells + mc) (slots + ms) Q (F0 m (pc + 3) ls (.long F :: rest))) : W p l e R s m args below meth c H locs cells slots Q (F0 m pc ls st0) := by
  have hF := va_free (wc := wc) hD hS hA isC hC
  refine va_calll hr hS (fun q _ h => hF q h) hF (fun r u t H1 locs1 ht _ hw hB _ hk1 hS1 => ?_)
  subst hw
  subst ht
  obtain ⟨g1, g2⟩ := cj_w hP hD isC hC hadr hk1 hB
  exact kk _ _ g1 g2 hS1
theorem cj_v (hP : va_P D cl ws H) (hD : va_D A0 ws) (hS : va_S A0 H0 H locs) (hA : ∀ q, H0.size ≤ q → A0 q) (isC : List Nat) (hC : isC.map (fun i => ws[i]?) = wc.map some) (hadr : w1.map (·.1) = wc.map (·.1))
    (hr : va_Run p l e R s m args below meth c H locs cells slots mc ms (F0 m pc ls st0) rest (va_Qv (fun (_ : Unit) => True) (fun _ t => va_P D cl w1 t.heap) (va_A wc H.size) a) (va_A wc H.size))
    (kk : ∀ (H1 : Heap) (locs1 : List Loc), va_P D cl (vj_set ws isC w1) H1 → va_D A0 (vj_set ws isC w1) → va_S A0 H0 H1 locs1 → W p l e R s m args below meth c H1 locs1 (cells + mc) (slots + ms) Q (F0 m (pc + 3) ls rest)) : W p l e R s m args below meth c H locs cells slots Q (F0 m pc ls st0) := by
  have hF := va_free (wc := wc) hD hS hA isC hC
  refine va_callv hr hS (fun q _ h => hF q h) hF (fun u t H1 locs1 ht _ hw hB _ hk1 hS1 => ?_)
  subst ht
  obtain ⟨g1, g2⟩ := cj_w hP hD isC hC hadr hk1 hB
  exact kk _ _ g1 g2 hS1
end CJ
/-- a contract out of one walk: all that a body needs, named once -/
theorem mk_met {l : Launch} {y : MethodName} {bytes : ByteArray} {n : Nat} {ret : Option FieldType} {rm : Room} {D : va_G} {cI cL : ClassId} {ws : va_W} {sz : Nat} {av : List Value} {Qf : (Nat → Prop) → Array Value → State → Outcome → State → Prop} {mc ms : Nat} (hy : plainName y.cls = true) (hn : (lg_sl av).length ≤ n)
    (body : ∀ (p : Program) (e : Env) (s : State) (m : MethodId) (below : List Frame) (meth : Method) (c : Code) (A : Nat → Prop) (ls : Array Slot), p.tables.exec = Jvm.exec → c.code = bytes → meth.sig.returnType = ret → meth.locks = false → c.maxLocals = n → s.vm.findClass y.cls = some m.cls → (∀ w ∈ GW, w.before av.toArray s = true) → va_K D classes (TY cI cL) s → NW s → ST A s s.heap → (∀ q, s.heap.size ≤ q → A q) → va_P D classes ws s.heap → va_D A ws → va_S A s.heap s.heap [] → meth.name = y.name → lv_has ls n (lv_args 0 av) → W p l e rm s m av.toArray below meth c s.heap [] 0 0 (MQ below (Qf A) av.toArray s mc ms A) (F0 m 0 ls [])) :
    Met l y (.code y bytes n ret :: GW) rm (va_Pc av (PW D cI cL ws sz)) (Qf (va_A ws sz)) mc ms (va_A ws sz) := by
  refine Met.ofW (cc := bytes) (maxL := n) (ret := ret) hy rfl ?_
  intro p e s m args below meth c s₁ B hml hv
  obtain ⟨rfl, hsz, hP, hK, hN, hD0, hT⟩ := hv
  have hts := atoms_spec (ws := .code y bytes n ret :: GW) B.pre
  subst hsz
  rw [lg_entry_eq]
  exact body p e s m below meth c (va_A ws s.heap.size) _ B.exec B.bytes B.returns B.notSynchronized hml (findClass_of_methodNamed B.named) (fun w h => hts w (List.mem_cons_of_mem _ h)) hK hN hT (fun q h => Or.inr h) hP hD0.self va_S.rf (name_of_methodNamed B.named B.method).1 (lv_entry av hn)
theorem vp_ofb {i : Int32} {n : Nat} (h : decide (¬ (i < 0 ∨ n ≤ i.toNatClampNeg)) = true) : vp_in i n := (of_decide_eq_true h : ¬ (i < 0 ∨ n ≤ i.toNatClampNeg))
theorem vp_cmp {x M : Int32} {n : Nat} (hM : M.toInt = n) (h0 : ¬ x < 0) (h1 : ¬ M ≤ x) : vp_in x n := by
  rw [vp_in_iff]
  have a := Int32.not_lt.mp h0
  have b := Int32.not_le.mp h1
  rw [Int32.le_iff_toInt_le] at a
  rw [Int32.lt_iff_toInt_lt, hM] at b
  exact ⟨by simpa using a, b⟩
theorem vp_cmp' {x M : Int32} {n : Nat} (hM : M.toInt = n) (h0 : ¬ x < 0) (h1 : x < M) : vp_in x n := vp_cmp hM h0 (Int32.not_le.mpr h1)

abbrev W_Me (cI cL : ClassId) (g0 g1 : Nat) (K : Nat → Int64) (co : Int32) : va_W := [(g0, .inr (1, [.ref g1, .int co])), (g1, .inl (cL, 64, .inr (.inl K)))]
abbrev W_Ca (cI cL : ClassId) (g0 g1 : Nat) (L : Nat → Int64) (rf : Int32) : va_W := [(g0, .inr (2, [.ref g1, .int rf])), (g1, .inl (cL, 4, .inr (.inl L)))]
abbrev W_Re (cI cL : ClassId) (g0 g1 : Nat) (R : Nat → Int32) (vo : Int32) : va_W := [(g0, .inr (3, [.ref g1, .int vo])), (g1, .inl (cI, 96, .inl R))]
abbrev W_Fa (cI cL : ClassId) (g0 g1 g2 g3 : Nat) (FC : Nat → Int32) (FP : Nat → Int32) (FB : Nat → Int32) (fs : Int32) : va_W := [(g0, .inr (4, [.ref g1, .ref g2, .ref g3, .int fs])), (g1, .inl (cI, 16, .inl FC)), (g2, .inl (cI, 16, .inl FP)), (g3, .inl (cI, 16, .inl FB))]
abbrev W_L4 (cI cL : ClassId) (g0 : Nat) (L : Nat → Int64) : va_W := [(g0, .inl (cL, 4, .inr (.inl L)))]
abbrev W_V (cI cL : ClassId) (a0 a1 a2 a3 a4 a5 a6 a7 a8 a9 a10 a11 a12 : Nat) (ev : Int32) (K : Nat → Int64) (co : Int32) (L1 : Nat → Int64) (r1 : Int32) (L2 : Nat → Int64) (r2 : Int32) (R : Nat → Int32) (vo : Int32) (FC : Nat → Int32) (FP : Nat → Int32) (FB : Nat → Int32) (fs : Int32) (cy : Int32) (sp : Int32) (de : Int32) (ca : Int32) (va : Int32) : va_W := [(a0, .inr (0, [.int ev, .ref a1, .ref a3, .ref a5, .ref a7, .ref a9, .int cy, .int sp, .int de, .int ca, .int va])), (a1, .inr (1, [.ref a2, .int co])), (a2, .inl (cL, 64, .inr (.inl K))), (a3, .inr (2, [.ref a4, .int r1])), (a4, .inl (cL, 4, .inr (.inl L1))), (a5, .inr (2, [.ref a6, .int r2])), (a6, .inl (cL, 4, .inr (.inl L2))), (a7, .inr (3, [.ref a8, .int vo])), (a8, .inl (cI, 96, .inl R)), (a9, .inr (4, [.ref a10, .ref a11, .ref a12, .int fs])), (a10, .inl (cI, 16, .inl FC)), (a11, .inl (cI, 16, .inl FP)), (a12, .inl (cI, 16, .inl FB))]
abbrev W_Mo (cI cL : ClassId) (b0 b1 b2 b3 b4 b5 b6 b7 : Nat) (ev : Int32) (wr : Nat → Int32) (wg : Nat → Int64) (ke : Nat → Int32) (ma : Nat → Int32) (li : Nat → Int64) (ps : Int32) (pn : Nat → Int32) (cy : Int32) (ca : Int32) (va : Int32) (cn : Nat → Int32) (pp : Int32) (px : Int32) (go : Int32) (ne : Int32) (gi : Int32) (gn : Int32) : va_W := [(b0, .inr (5, [.int ev, .ref b1, .ref b2, .ref b3, .ref b4, .ref b5, .int ps, .ref b6, .int cy, .int ca, .int va, .ref b7, .int pp, .int px, .int go, .int ne, .int gi, .int gn])), (b1, .inl (cI, 64, .inl wr)), (b2, .inl (cL, 64, .inr (.inl wg))), (b3, .inl (cI, 32, .inl ke)), (b4, .inl (cI, 96, .inl ma)), (b5, .inl (cL, 8, .inr (.inl li))), (b6, .inl (cI, 48, .inl pn)), (b7, .inl (cI, 6, .inl cn))]
end
section
/-! In range: what the branches say of places -/
theorem vn_of {x : Int32} {n : Nat} (hn : n < 2 ^ 31) (h : nI n ≤ x) : ∃ j : Nat, j < 2 ^ 31 ∧ n ≤ j ∧ x = nI j := by
  have h0 : ¬ x < 0 := fun q => by
    have a : (nI n).toInt ≤ x.toInt := Int32.le_iff_toInt_le.mp h
    have b : x.toInt < (0 : Int32).toInt := Int32.lt_iff_toInt_lt.mp q
    rw [nI_toInt hn] at a
    have : (0 : Int32).toInt = 0 := rfl
    omega
  obtain ⟨j, hj, rfl⟩ := nI_of h0
  exact ⟨j, hj, (nI_leI hn hj).mp h, rfl⟩
theorem v3_0 {r : Int32} (h : vp_in r 32) : vp_in ((3 : Int32) * r) 96 := by
  obtain ⟨j, hj, rfl⟩ := vp_in_of h (by decide)
  rw [show (3 : Int32) * nI j = nI (3 * j) from pk_mul 3 j]
  exact vp_in_nI (by omega) (by decide)
theorem v3_1 {r : Int32} (h : vp_in r 32) : vp_in ((3 : Int32) * r + (1 : Int32)) 96 := by
  obtain ⟨j, hj, rfl⟩ := vp_in_of h (by decide)
  rw [show (3 : Int32) * nI j = nI (3 * j) from pk_mul 3 j, show nI (3 * j) + (1 : Int32) = nI (3 * j + 1) from nI_add (3 * j) 1]
  exact vp_in_nI (by omega) (by decide)
theorem v3_2 {r : Int32} (h : vp_in r 32) : vp_in ((3 : Int32) * r + (2 : Int32)) 96 := by
  obtain ⟨j, hj, rfl⟩ := vp_in_of h (by decide)
  rw [show (3 : Int32) * nI j = nI (3 * j) from pk_mul 3 j, show nI (3 * j) + (2 : Int32) = nI (3 * j + 2) from nI_add (3 * j) 2]
  exact vp_in_nI (by omega) (by decide)
theorem v3_z {r : Int32} (h : vp_in r 32) : vp_in ((3 : Int32) * r + (0 : Int32)) 96 := by
  obtain ⟨j, hj, rfl⟩ := vp_in_of h (by decide)
  rw [show (3 : Int32) * nI j = nI (3 * j) from pk_mul 3 j, show nI (3 * j) + (0 : Int32) = nI (3 * j + 0) from nI_add (3 * j) 0]
  exact vp_in_nI (by omega) (by decide)
theorem iv_a {x : Int32} (h : vp_in x 168) (h1 : ¬ (64 : Int32) ≤ x) : vp_in x 64 := vp_cmp rfl (fun q => h (Or.inl q)) h1
theorem iv_n {x : Int32} {a b : Nat} (ha : a < 2 ^ 31) (hb : b < 2 ^ 31) (h1 : nI a ≤ x) (h2 : ¬ nI b ≤ x) : vp_in (x - nI a) (b - a) := by
  obtain ⟨j, hj, hn, rfl⟩ := vn_of ha h1
  have h3 : j < b := Nat.not_le.mp fun q => h2 ((nI_leI hb hj).mpr q)
  rw [pk_sub hn]
  exact vp_in_nI (by omega) (by omega)
theorem iv_top {x : Int32} (h : vp_in x 168) : ¬ nI 168 ≤ x := by
  obtain ⟨j, hj, rfl⟩ := vp_in_of h (by decide)
  exact nI_ge (by omega) (by decide)
theorem iv_b {x : Int32} (h1 : (64 : Int32) ≤ x) (h2 : ¬ (160 : Int32) ≤ x) : vp_in (x - (64 : Int32)) 96 := iv_n (a := 64) (b := 160) (by decide) (by decide) h1 h2
theorem iv_c {x : Int32} (h1 : (160 : Int32) ≤ x) (h2 : ¬ (164 : Int32) ≤ x) : vp_in (x - (160 : Int32)) 4 := iv_n (a := 160) (b := 164) (by decide) (by decide) h1 h2
theorem iv_d {x : Int32} (h : vp_in x 168) (h1 : (164 : Int32) ≤ x) : vp_in (x - (164 : Int32)) 4 := iv_n (a := 164) (b := 168) (by decide) (by decide) h1 (iv_top h)
theorem iv_e {x : Int32} (h : vp_in x 168) (h1 : (160 : Int32) ≤ x) : vp_in (x - (160 : Int32)) 8 := iv_n (a := 160) (b := 168) (by decide) (by decide) h1 (iv_top h)
theorem iv_nle {x : Int32} (h1 : ¬ x ≤ (159 : Int32)) : (160 : Int32) ≤ x := by
  have h2 := Int32.not_le.mp h1
  rw [Int32.lt_iff_toInt_lt] at h2
  rw [Int32.le_iff_toInt_le]
  have a : (159 : Int32).toInt = 159 := rfl
  have b : (160 : Int32).toInt = 160 := rfl
  omega
theorem iv_le {x : Int32} (h1 : x ≤ (159 : Int32)) : ¬ (160 : Int32) ≤ x := by
  intro h2
  rw [Int32.le_iff_toInt_le] at h1 h2
  have a : (159 : Int32).toInt = 159 := rfl
  have b : (160 : Int32).toInt = 160 := rfl
  omega
theorem iv_h {x : Int32} (h : vp_in x 168) (h1 : ¬ x ≤ (159 : Int32)) : vp_in (x - (160 : Int32)) 8 := iv_e h (iv_nle h1)
theorem iv_g {x : Int32} (h1 : (64 : Int32) ≤ x) (h2 : x ≤ (159 : Int32)) : vp_in (x - (64 : Int32)) 96 := iv_b h1 (iv_le h2)
theorem iv_f {x : Int32} (h1 : (64 : Int32) ≤ x) (h2 : x ≤ (159 : Int32)) : vp_in ((x - (64 : Int32)) / (3 : Int32)) 32 := by
  obtain ⟨j, hj, e⟩ := vp_in_of (iv_g h1 h2) (by decide)
  rw [e, show (3 : Int32) = nI 3 from rfl, pk_div (by omega) (by decide) (by decide)]
  exact vp_in_nI (by omega) (by decide)
theorem cl17 {x : Int32} (h : vp_in x 17) : x.toNatClampNeg ≤ 16 := Nat.le_of_lt_succ (Nat.not_le.mp fun q => h (Or.inr q))
theorem mp_z {x : Int32} {j : Nat} (h : vp_in x 17) (e : j = x.toNatClampNeg) : x ≤ nI j := by
  obtain ⟨k, hk, rfl⟩ := vp_in_of h (by decide)
  rw [nI_clamp (by omega)] at e
  exact nI_le (by omega) (by omega)
theorem mp_s {x : Int32} {j : Nat} (h : vp_in x 17) (e : j < x.toNatClampNeg) : ¬ x ≤ nI j := by
  obtain ⟨k, hk, rfl⟩ := vp_in_of h (by decide)
  rw [nI_clamp (by omega)] at e
  exact nI_ge (by omega) (by omega)
theorem mp_le {x : Int32} {j : Nat} (h : ∃ q, x = nI q ∧ q ≤ j) (hj : j < 16) : vp_in x 16 := by
  obtain ⟨q, rfl, hq⟩ := h
  exact vp_in_nI (by omega) (by decide)
theorem p3_e (j k : Nat) : (3 : Int32) * nI j + nI k = nI (3 * j + k) := by
  rw [show (3 : Int32) * nI j = nI (3 * j) from pk_mul 3 j]
  exact nI_add _ _
theorem p3_cl {j : Nat} (hj : j < 16) : ((3 : Int32) * nI j + (1 : Int32)).toNatClampNeg = 3 * j + 1 := by
  rw [show (3 : Int32) * nI j + (1 : Int32) = nI (3 * j + 1) from p3_e j 1]
  exact nI_clamp (by omega)
theorem p3__ {j : Nat} (hj : j < 16) : vp_in ((3 : Int32) * nI j) 48 := by
  rw [show (3 : Int32) * nI j = nI (3 * j) from pk_mul 3 j]
  exact vp_in_nI (by omega) (by decide)
theorem p3_k {j : Nat} (k : Nat) (hk : k < 3) (hj : j < 16) : vp_in ((3 : Int32) * nI j + nI k) 48 := by
  rw [p3_e]
  exact vp_in_nI (by omega) (by decide)
theorem p3_0 {j : Nat} (hj : j < 16) : vp_in ((3 : Int32) * nI j + (0 : Int32)) 48 := p3_k 0 (by decide) hj
theorem p3_1 {j : Nat} (hj : j < 16) : vp_in ((3 : Int32) * nI j + (1 : Int32)) 48 := p3_k 1 (by decide) hj
theorem p3_2 {j : Nat} (hj : j < 16) : vp_in ((3 : Int32) * nI j + (2 : Int32)) 48 := p3_k 2 (by decide) hj
theorem p3_le0 {x : Int32} {j : Nat} (h : ∃ q, x = nI q ∧ q ≤ j) (hj : j < 16) : vp_in ((3 : Int32) * x + (0 : Int32)) 48 := by
  obtain ⟨q, rfl, hq⟩ := h
  exact p3_0 (by omega)
theorem p3_le1 {x : Int32} {j : Nat} (h : ∃ q, x = nI q ∧ q ≤ j) (hj : j < 16) : vp_in ((3 : Int32) * x + (1 : Int32)) 48 := by
  obtain ⟨q, rfl, hq⟩ := h
  exact p3_1 (by omega)
theorem p3_le2 {x : Int32} {j : Nat} (h : ∃ q, x = nI q ∧ q ≤ j) (hj : j < 16) : vp_in ((3 : Int32) * x + (2 : Int32)) 48 := by
  obtain ⟨q, rfl, hq⟩ := h
  exact p3_2 (by omega)
theorem p3_keep {f : Nat → Int32} {x v0 v1 v2 : Int32} {j k : Nat} (h : ∃ q, x = nI q ∧ q ≤ j) (hj : j < 16) (h1 : j + 1 ≤ k) (hk : k < 16) (hv : vp_in (f (3 * k + 1)) 168) :
    vp_in (upd (upd (upd f ((3 : Int32) * x + (0 : Int32)).toNatClampNeg v0) ((3 : Int32) * x + (1 : Int32)).toNatClampNeg v1) ((3 : Int32) * x + (2 : Int32)).toNatClampNeg v2 (3 * k + 1)) 168 := by
  obtain ⟨q, rfl, hq⟩ := h
  have e : ∀ d, d < 3 → ((3 : Int32) * nI q + nI d).toNatClampNeg = 3 * q + d := fun d hd => by rw [p3_e]; exact nI_clamp (by omega)
  rw [pk_un (by rw [show (2 : Int32) = nI 2 from rfl, e 2 (by decide)]; omega), pk_un (by rw [show (1 : Int32) = nI 1 from rfl, e 1 (by decide)]; omega), pk_un (by rw [show (0 : Int32) = nI 0 from rfl, e 0 (by decide)]; omega)]
  exact hv
theorem ne16 {x : Int32} (h : vp_in x 17) (h2 : ¬ x = (16 : Int32)) : ∃ j : Nat, j < 16 ∧ x = nI j := by
  obtain ⟨j, hj, rfl⟩ := vp_in_of h (by decide)
  refine ⟨j, ?_, rfl⟩
  have : j ≠ 16 := fun e => h2 (by rw [e]; rfl)
  omega
theorem in_fs {x : Int32} (h : vp_in x 17) (h2 : ¬ x = (16 : Int32)) : vp_in x 16 := by
  obtain ⟨j, hj, rfl⟩ := ne16 h h2
  exact vp_in_nI hj (by decide)
theorem q3_0 {x : Int32} (h : vp_in x 17) (h2 : ¬ x = (16 : Int32)) : vp_in ((3 : Int32) * x) 48 := by
  obtain ⟨j, hj, rfl⟩ := ne16 h h2
  exact p3__ hj
theorem q3_1 {x : Int32} (h : vp_in x 17) (h2 : ¬ x = (16 : Int32)) : vp_in ((3 : Int32) * x + (1 : Int32)) 48 := by
  obtain ⟨j, hj, rfl⟩ := ne16 h h2
  exact p3_1 hj
theorem q3_2 {x : Int32} (h : vp_in x 17) (h2 : ¬ x = (16 : Int32)) : vp_in ((3 : Int32) * x + (2 : Int32)) 48 := by
  obtain ⟨j, hj, rfl⟩ := ne16 h h2
  exact p3_2 hj
theorem in_word {w : Int32} (h : ¬ f_V_isWord w = 0) : vp_in w 64 := by
  unfold f_V_isWord at h
  by_cases h1 : w < 0
  · rw [if_pos h1] at h; exact absurd rfl h
  · by_cases h2 : (64 : Int32) ≤ w
    · rw [if_neg h1, if_pos h2] at h; exact absurd rfl h
    · exact vp_cmp rfl h1 h2
theorem in_reg {w : Int32} (h : ¬ f_V_isRegister w = 0) : vp_in w 32 := by
  unfold f_V_isRegister at h
  by_cases h1 : w < 0
  · rw [if_pos h1] at h; exact absurd rfl h
  · by_cases h2 : (32 : Int32) ≤ w
    · rw [if_neg h1, if_pos h2] at h; exact absurd rfl h
    · exact vp_cmp rfl h1 h2
theorem in_bit {x b : Int32} (h : ¬ f_V_isBit x b = 0) : vp_in x 168 := by
  unfold f_V_isBit at h
  by_cases h1 : x < 0
  · rw [if_pos h1] at h; exact absurd rfl h
  · by_cases h2 : (168 : Int32) ≤ x
    · rw [if_neg h1, if_pos h2] at h; exact absurd rfl h
    · exact vp_cmp rfl h1 h2
theorem in_out {v M : Int32} {n : Nat} (hM : M.toInt + 1 = (n : Int)) (h : f_Mo_outside v M = 0) : vp_in v n := by
  unfold f_Mo_outside at h
  by_cases h1 : v < 0
  · rw [if_pos h1] at h; exact absurd h (by decide)
  · by_cases h2 : v ≤ M
    · rw [vp_in_iff]
      rw [Int32.le_iff_toInt_le] at h2
      have a := Int32.not_lt.mp h1
      rw [Int32.le_iff_toInt_le] at a
      have : (0 : Int32).toInt = 0 := rfl
      omega
    · rw [if_neg h1, if_neg h2] at h; exact absurd h (by decide)
theorem in_nobit {x b : Int32} (h : f_Mo_noBit x b = 0) : vp_in x 168 := by
  unfold f_Mo_noBit at h
  by_cases h1 : f_Mo_outside x (167 : Int32) = 0
  · exact in_out (by decide) h1
  · rw [if_neg h1] at h; exact absurd h (by decide)
theorem in_d4 {x : Int32} (h : vp_in x 256) : vp_in (x / (4 : Int32)) 64 := by
  obtain ⟨j, hj, rfl⟩ := vp_in_of h (by decide)
  rw [show (4 : Int32) = nI 4 from rfl, pk_div (by omega) (by decide) (by decide)]
  exact vp_in_nI (by omega) (by decide)
theorem in_out4 {v : Int32} (h : f_Mo_outside v (255 : Int32) = 0) : vp_in (v / (4 : Int32)) 64 := in_d4 (in_out (by decide) h)
theorem in_reach {ca va a z : Int32} (h : ¬ (f_Mo_reaches ca va a z).1 = 0) : vp_in (a / (4 : Int32)) 64 := by
  unfold f_Mo_reaches at h
  by_cases h1 : u_rem a z = 0
  · rw [if_pos h1] at h
    by_cases h2 : f_Mo_outside a (255 : Int32) = 0
    · exact in_out4 h2
    · rw [if_neg h2] at h; exact absurd rfl h
  · rw [if_neg h1] at h; exact absurd rfl h
theorem in_addr {a z : Int32} (h : ¬ f_V_isAddress a z = 0) : vp_in (u_ush a (2 : Int32)) 64 := by
  unfold f_V_isAddress at h
  by_cases h1 : a < 0
  · rw [if_pos h1] at h; exact absurd rfl h
  · by_cases h2 : (255 : Int32) < a
    · rw [if_neg h1, if_pos h2] at h; exact absurd rfl h
    · obtain ⟨j, hj, rfl⟩ := nI_of h1
      have h3 : j ≤ 255 := Nat.not_lt.mp fun q => h2 (nI_lt q hj)
      rw [show u_ush (nI j) (2 : Int32) = nI (j / 2 ^ 2) from pk_ushrN (by omega) 2 2 (by decide)]
      exact vp_in_nI (by omega) (by decide)
theorem u_remN {a d : Nat} (ha : a < 2 ^ 31) (h0 : 0 < d) (hd : d < 2 ^ 31) : u_rem (nI a) (nI d) = nI (a % d) := pk_rem ha h0 hd
theorem rm_e {w : Int32} (h : vp_in w 64) : ∃ j : Nat, j < 4 ∧ u_rem w (4 : Int32) = nI j := by
  obtain ⟨j, hj, rfl⟩ := vp_in_of h (by decide)
  exact ⟨j % 4, by omega, u_remN (by omega) (by decide) (by decide)⟩
theorem rm_in {w : Int32} (h : vp_in w 64) : vp_in (u_rem w (4 : Int32)) 8 := by
  obtain ⟨j, hj, e⟩ := rm_e h
  rw [e]
  exact vp_in_nI (by omega) (by decide)
theorem rm4_in {w : Int32} (h : vp_in w 64) : vp_in ((4 : Int32) + u_rem w (4 : Int32)) 8 := by
  obtain ⟨j, hj, e⟩ := rm_e h
  rw [e, show (4 : Int32) + nI j = nI (4 + j) from nI_add 4 j]
  exact vp_in_nI (by omega) (by decide)
theorem at_in {c w : Int32} (hc : vp_in c 2) (h : vp_in w 64) : vp_in ((4 : Int32) * c + u_rem w (4 : Int32)) 8 := by
  obtain ⟨k, hk, rfl⟩ := vp_in_of hc (by decide)
  obtain ⟨j, hj, e⟩ := rm_e h
  rw [e, show (4 : Int32) * nI k = nI (4 * k) from pk_mul 4 k, nI_add]
  exact vp_in_nI (by omega) (by decide)
theorem cn_in {c : Int32} (hc : vp_in c 2) : vp_in ((3 : Int32) + c) 6 := by
  obtain ⟨k, hk, rfl⟩ := vp_in_of hc (by decide)
  rw [show (3 : Int32) + nI k = nI (3 + k) from nI_add 3 k]
  exact vp_in_nI (by omega) (by decide)
theorem in_s (k : Int32) : vp_in (f_Co_s k) 32 := pk_andIn _ 5 rfl (by decide)
theorem in_t (k : Int32) : vp_in (f_Co_t k) 32 := pk_andIn _ 5 rfl (by decide)
theorem in_d (k : Int32) : vp_in (f_Co_d k) 32 := pk_andIn _ 5 rfl (by decide)
theorem in_fld (x k : Int32) : vp_in (f_Mo_field x k (5 : Int32)) 32 := pk_andIn _ 5 (by decide) (by decide)
theorem shl1_ne (f : Int32) : ¬ (1 : Int32) <<< (f &&& 31) = 0 := by
  obtain ⟨j, hj, e⟩ := pk_andE f (m := 31) 5 rfl
  rw [e]
  have : ∀ j : Fin 32, ¬ (1 : Int32) <<< nI j.val = 0 := by decide +kernel
  exact this ⟨j, hj⟩
end
section
abbrev q_Lg_bitCount (D : va_G) (cI cL : ClassId) (A : Nat → Prop)  (F : Int32) : Array Value → State → Outcome → State → Prop := va_Qi (fun r (_ : Unit) => r = F) (fun _ t => va_P D classes [] t.heap) A
theorem f_Lg_bitCount_e0 (i : Int64) (t1 : Int64) (t2 : Int64) (e_t1 : (((i - ((u_lush i (1 : Int32)) &&& (6148914691236517205 : Int64))) &&& (3689348814741910323 : Int64)) + ((u_lush (i - ((u_lush i (1 : Int32)) &&& (6148914691236517205 : Int64))) (2 : Int32)) &&& (3689348814741910323 : Int64))) = t1) (e_t2 : (((t1 + (u_lush t1 (4 : Int32))) &&& (1085102592571150095 : Int64)) + (u_lush ((t1 + (u_lush t1 (4 : Int32))) &&& (1085102592571150095 : Int64)) (8 : Int32))) = t2) : f_Lg_bitCount i = (((((t2 + (u_lush t2 (16 : Int32))) + (u_lush (t2 + (u_lush t2 (16 : Int32))) (32 : Int32))).toInt32) &&& (127 : Int32))) := by
  subst e_t2
  subst e_t1
  exact rfl
set_option maxHeartbeats 4000000 in
set_option maxRecDepth 100000 in
theorem c_Lg_bitCount (l : Launch) (D : va_G) (cI cL : ClassId) (sz : Nat)  (i : Int64)  : Met l y_Lg_bitCount w_Lg_bitCount ({ frames := 0, cells := 0, slots := 0, locals := 0 }) (va_Pc [.long i] (PW D cI cL [] sz)) (q_Lg_bitCount D cI cL (va_A [] sz)  (f_Lg_bitCount i)) 0 0 (va_A [] sz) := by
  refine mk_met (Qf := fun A => q_Lg_bitCount D cI cL A  (f_Lg_bitCount i)) (by decide) (Nat.le_of_ble_eq_true rfl) ?_
  intro p e s m below meth c A ls hx hb hr hlocks hml hown hg hK hN hT hA hP hD hS hnm hl
  refine lv_lload_n hx hb d_Lg_bitCount_0 rfl (lv_at hl 0 rfl) ?_
  refine lv_lload_n hx hb d_Lg_bitCount_1 rfl (lv_at hl 0 rfl) ?_
  refine lv_iconst (v := 1) hx hb d_Lg_bitCount_2 (by decide) ?_
  refine lv_lushr (v := u_lush _ _) hx hb d_Lg_bitCount_3 rfl ?_
  refine lv_ldc2 hx hb hown (hg _ m_220) d_Lg_bitCount_4 ?_
  refine lv_land hx hb d_Lg_bitCount_7 ?_
  refine lv_lsub hx hb d_Lg_bitCount_8 ?_
  refine lv_lstore_n (lv' := [(0, .long _)]) hx hb d_Lg_bitCount_9 rfl hl (by decide) rfl (fun ls hl => ?_)
  refine lv_lload_n hx hb d_Lg_bitCount_10 rfl (lv_at hl 0 rfl) ?_
  refine lv_ldc2 hx hb hown (hg _ m_221) d_Lg_bitCount_11 ?_
  refine lv_land hx hb d_Lg_bitCount_14 ?_
  refine lv_lload_n hx hb d_Lg_bitCount_15 rfl (lv_at hl 0 rfl) ?_
  refine lv_iconst (v := 2) hx hb d_Lg_bitCount_16 (by decide) ?_
  refine lv_lushr (v := u_lush _ _) hx hb d_Lg_bitCount_17 rfl ?_
  refine lv_ldc2 hx hb hown (hg _ m_221) d_Lg_bitCount_18 ?_
  refine lv_land hx hb d_Lg_bitCount_21 ?_
  refine lv_ladd hx hb d_Lg_bitCount_22 ?_
  refine lv_topl (fun t1 e_t1 => ?_)
  have e_t1 := e_t1.symm
  refine lv_lstore_n (lv' := [(0, .long _)]) hx hb d_Lg_bitCount_23 rfl hl (by decide) rfl (fun ls hl => ?_)
  refine lv_lload_n hx hb d_Lg_bitCount_24 rfl (lv_at hl 0 rfl) ?_
  refine lv_lload_n hx hb d_Lg_bitCount_25 rfl (lv_at hl 0 rfl) ?_
  refine lv_iconst (v := 4) hx hb d_Lg_bitCount_26 (by decide) ?_
  refine lv_lushr (v := u_lush _ _) hx hb d_Lg_bitCount_27 rfl ?_
  refine lv_ladd hx hb d_Lg_bitCount_28 ?_
  refine lv_ldc2 hx hb hown (hg _ m_222) d_Lg_bitCount_29 ?_
  refine lv_land hx hb d_Lg_bitCount_32 ?_
  refine lv_lstore_n (lv' := [(0, .long _)]) hx hb d_Lg_bitCount_33 rfl hl (by decide) rfl (fun ls hl => ?_)
  refine lv_lload_n hx hb d_Lg_bitCount_34 rfl (lv_at hl 0 rfl) ?_
  refine lv_lload_n hx hb d_Lg_bitCount_35 rfl (lv_at hl 0 rfl) ?_
  refine lv_bipush (v := 8) hx hb d_Lg_bitCount_36 (by decide) ?_
  refine lv_lushr (v := u_lush _ _) hx hb d_Lg_bitCount_38 rfl ?_
  refine lv_ladd hx hb d_Lg_bitCount_39 ?_
  refine lv_topl (fun t2 e_t2 => ?_)
  have e_t2 := e_t2.symm
  refine lv_lstore_n (lv' := [(0, .long _)]) hx hb d_Lg_bitCount_40 rfl hl (by decide) rfl (fun ls hl => ?_)
  refine lv_lload_n hx hb d_Lg_bitCount_41 rfl (lv_at hl 0 rfl) ?_
  refine lv_lload_n hx hb d_Lg_bitCount_42 rfl (lv_at hl 0 rfl) ?_
  refine lv_bipush (v := 16) hx hb d_Lg_bitCount_43 (by decide) ?_
  refine lv_lushr (v := u_lush _ _) hx hb d_Lg_bitCount_45 rfl ?_
  refine lv_ladd hx hb d_Lg_bitCount_46 ?_
  refine lv_lstore_n (lv' := [(0, .long _)]) hx hb d_Lg_bitCount_47 rfl hl (by decide) rfl (fun ls hl => ?_)
  refine lv_lload_n hx hb d_Lg_bitCount_48 rfl (lv_at hl 0 rfl) ?_
  refine lv_lload_n hx hb d_Lg_bitCount_49 rfl (lv_at hl 0 rfl) ?_
  refine lv_bipush (v := 32) hx hb d_Lg_bitCount_50 (by decide) ?_
  refine lv_lushr (v := u_lush _ _) hx hb d_Lg_bitCount_52 rfl ?_
  refine lv_ladd hx hb d_Lg_bitCount_53 ?_
  refine lv_lstore_n (lv' := [(0, .long _)]) hx hb d_Lg_bitCount_54 rfl hl (by decide) rfl (fun ls hl => ?_)
  refine lv_lload_n hx hb d_Lg_bitCount_55 rfl (lv_at hl 0 rfl) ?_
  refine lv_l2i hx hb d_Lg_bitCount_56 rfl ?_
  refine lv_bipush (v := 127) hx hb d_Lg_bitCount_57 (by decide) ?_
  refine lv_iand hx hb d_Lg_bitCount_59 ?_
  rw [f_Lg_bitCount_e0 i t1 t2 e_t1 e_t2]
  exact W.iret hx hb hr (fun t ht hW => ⟨⟨_, (), rfl, rfl, by show va_P D classes _ t.heap; rw [ht]; exact hP⟩, hS.F ht⟩) hS.2.2 d_Lg_bitCount_60 hlocks
abbrev q_In_compare (D : va_G) (cI cL : ClassId) (A : Nat → Prop)  (F : Int32) : Array Value → State → Outcome → State → Prop := va_Qi (fun r (_ : Unit) => r = F) (fun _ t => va_P D classes [] t.heap) A
theorem f_In_compare_e0 (x : Int32) (y : Int32)  (h2 : y ≤ x) (h11 : ¬ x = y) : f_In_compare x y = ((1 : Int32)) := by
  exact ((if_pos h2).trans (if_neg h11))
theorem f_In_compare_e1 (x : Int32) (y : Int32)  (h2 : y ≤ x) (h11 : x = y) : f_In_compare x y = ((0 : Int32)) := by
  exact ((if_pos h2).trans (if_pos h11))
theorem f_In_compare_e2 (x : Int32) (y : Int32)  (h2 : ¬ y ≤ x) : f_In_compare x y = ((-1 : Int32)) := by
  exact (if_neg h2)
set_option maxHeartbeats 4000000 in
set_option maxRecDepth 100000 in
theorem c_In_compare (l : Launch) (D : va_G) (cI cL : ClassId) (sz : Nat)  (x : Int32) (y : Int32)  : Met l y_In_compare w_In_compare ({ frames := 0, cells := 0, slots := 0, locals := 0 }) (va_Pc [.int x, .int y] (PW D cI cL [] sz)) (q_In_compare D cI cL (va_A [] sz)  (f_In_compare x y)) 0 0 (va_A [] sz) := by
  refine mk_met (Qf := fun A => q_In_compare D cI cL A  (f_In_compare x y)) (by decide) (Nat.le_of_ble_eq_true rfl) ?_
  intro p e s m below meth c A ls hx hb hr hlocks hml hown hg hK hN hT hA hP hD hS hnm hl
  refine lv_iload_n hx hb d_In_compare_0 rfl (lv_at hl 0 rfl) ?_
  refine lv_iload_n hx hb d_In_compare_1 rfl (lv_at hl 1 rfl) ?_
  refine lv_icmp_ge (tgt := 9) hx hb d_In_compare_2 (by decide) (fun h2 => ?_) (fun h2 => ?_)
  · refine lv_iload_n hx hb d_In_compare_9 rfl (lv_at hl 0 rfl) ?_
    refine lv_iload_n hx hb d_In_compare_10 rfl (lv_at hl 1 rfl) ?_
    refine lv_icmp_ne (tgt := 18) hx hb d_In_compare_11 (by decide) (fun h11 => ?_) (fun h11 => ?_)
    · refine lv_iconst (v := 1) hx hb d_In_compare_18 (by decide) ?_
      rw [f_In_compare_e0 x y h2 h11]
      exact W.iret hx hb hr (fun t ht hW => ⟨⟨_, (), rfl, rfl, by show va_P D classes _ t.heap; rw [ht]; exact hP⟩, hS.F ht⟩) hS.2.2 d_In_compare_19 hlocks
    · refine lv_iconst (v := 0) hx hb d_In_compare_14 (by decide) ?_
      refine lv_goto (tgt := 19) hx hb d_In_compare_15 (by decide) ?_
      rw [f_In_compare_e1 x y h2 h11]
      exact W.iret hx hb hr (fun t ht hW => ⟨⟨_, (), rfl, rfl, by show va_P D classes _ t.heap; rw [ht]; exact hP⟩, hS.F ht⟩) hS.2.2 d_In_compare_19 hlocks
  · refine lv_iconst (v := -1) hx hb d_In_compare_5 (by decide) ?_
    refine lv_goto (tgt := 19) hx hb d_In_compare_6 (by decide) ?_
    rw [f_In_compare_e2 x y h2]
    exact W.iret hx hb hr (fun t ht hW => ⟨⟨_, (), rfl, rfl, by show va_P D classes _ t.heap; rw [ht]; exact hP⟩, hS.F ht⟩) hS.2.2 d_In_compare_19 hlocks
abbrev q_In_compareUnsigned (D : va_G) (cI cL : ClassId) (A : Nat → Prop)  (F : Int32) : Array Value → State → Outcome → State → Prop := va_Qi (fun r (_ : Unit) => r = F) (fun _ t => va_P D classes [] t.heap) A
set_option maxHeartbeats 4000000 in
set_option maxRecDepth 100000 in
theorem c_In_compareUnsigned (l : Launch) (D : va_G) (cI cL : ClassId) (sz : Nat)  (x : Int32) (y : Int32)  : Met l y_In_compareUnsigned w_In_compareUnsigned ({ frames := 1, cells := 0, slots := 0, locals := 21 }) (va_Pc [.int x, .int y] (PW D cI cL [] sz)) (q_In_compareUnsigned D cI cL (va_A [] sz)  (f_In_compareUnsigned x y)) 0 0 (va_A [] sz) := by
  refine mk_met (Qf := fun A => q_In_compareUnsigned D cI cL A  (f_In_compareUnsigned x y)) (by decide) (Nat.le_of_ble_eq_true rfl) ?_
  intro p e s m below meth c A ls hx hb hr hlocks hml hown hg hK hN hT hA hP hD hS hnm hl
  refine lv_iload_n hx hb d_In_compareUnsigned_0 rfl (lv_at hl 0 rfl) ?_
  refine lv_ldc hx hb hown (hg _ m_409) d_In_compareUnsigned_1 ?_
  refine lv_iadd hx hb d_In_compareUnsigned_3 ?_
  refine lv_iload_n hx hb d_In_compareUnsigned_4 rfl (lv_at hl 1 rfl) ?_
  refine lv_ldc hx hb hown (hg _ m_409) d_In_compareUnsigned_5 ?_
  refine lv_iadd hx hb d_In_compareUnsigned_7 ?_
  refine cj_i (wc := []) (w1 := []) hP hD hS hA [] rfl rfl (va_runS (rest := []) ⟨hx, hb, hml, hown, hg⟩ (c_In_compare l D cI cL  _ (x + (-2147483648 : Int32)) (y + (-2147483648 : Int32))) ⟨callB_of 2 hg (gw_good m_412) rfl rfl rfl (hg _ m_75) (hg _ m_410) hd_In_compare ⟨Nat.le_of_ble_eq_true rfl, Nat.le_of_ble_eq_true rfl⟩, hg _ m_411⟩ (pw_S hK hN hT hA hP hD hS [] rfl (by decide)) rfl rfl hl.1 rfl (lv_room (Nat.le_of_ble_eq_true rfl)) d_In_compareUnsigned_8 ⟨Nat.le_of_ble_eq_true rfl, Nat.le_of_ble_eq_true rfl⟩) (fun H locs hP hD hS => ?_)
  have hP : va_P D classes [] H := hP
  have hD : va_D A [] := hD
  exact W.iret hx hb hr (fun t ht hW => ⟨⟨_, (), rfl, rfl, by show va_P D classes _ t.heap; rw [ht]; exact hP⟩, hS.F ht⟩) hS.2.2 d_In_compareUnsigned_11 hlocks
abbrev q_Ar_fill (D : va_G) (cI cL : ClassId) (g0 : Nat) (A : Nat → Prop) (L : Nat → Int64) (F : (Nat → Int64)) : Array Value → State → Outcome → State → Prop := va_Qv (fun (_ : Unit) => True) (fun _ t => va_P D classes (W_L4 cI cL g0 F) t.heap) A
set_option maxHeartbeats 4000000 in
set_option maxRecDepth 100000 in
theorem c_Ar_fill (l : Launch) (D : va_G) (cI cL : ClassId) (g0 : Nat) (sz : Nat) (L : Nat → Int64) (v : Int64)  : Met l y_Ar_fill w_Ar_fill ({ frames := 0, cells := 0, slots := 0, locals := 0 }) (va_Pc [.ref g0, .long v] (PW D cI cL (W_L4 cI cL g0 L) sz)) (q_Ar_fill D cI cL g0 (va_A (W_L4 cI cL g0 L) sz) L (f_Ar_fill L v)) 0 0 (va_A (W_L4 cI cL g0 L) sz) := by
  refine mk_met (Qf := fun A => q_Ar_fill D cI cL g0 A L (f_Ar_fill L v)) (by decide) (Nat.le_of_ble_eq_true rfl) ?_
  intro p e s m below meth c A ls hx hb hr hlocks hml hown hg hK hN hT hA hP hD hS hnm hl
  refine lv_iconst (v := 0) hx hb d_Ar_fill_0 (by decide) ?_
  refine lv_istore_n (lv' := [(3, .int _), (0, .ref _), (1, .long _)]) hx hb d_Ar_fill_1 rfl hl (by decide) rfl (fun ls hl => ?_)
  refine lv_aload_n hx hb d_Ar_fill_2 rfl (lv_at hl 1 rfl) ?_
  refine va_alen (v := 4) hx hb hK hP 0 1 rfl rfl rfl d_Ar_fill_3 ?_
  refine lv_istore (lv' := [(4, .int _), (3, .int _), (0, .ref _), (1, .long _)]) hx hb d_Ar_fill_4 hl (by decide) rfl (fun ls hl => ?_)
  refine lv_iload_n hx hb d_Ar_fill_6 rfl (lv_at hl 1 rfl) ?_
  refine lv_iload hx hb d_Ar_fill_7 (lv_at hl 0 rfl) ?_
  refine lv_icmp_ge (tgt := 22) hx hb d_Ar_fill_9 (by decide) (fun h => absurd h (by decide)) (fun _ => ?_)
  refine lv_aload_n hx hb d_Ar_fill_12 rfl (lv_at hl 2 rfl) ?_
  refine lv_iload_n hx hb d_Ar_fill_13 rfl (lv_at hl 1 rfl) ?_
  refine lv_lload_n hx hb d_Ar_fill_14 rfl (lv_at hl 3 rfl) ?_
  refine va_last hx hb hK hP hD hS 0 1 rfl rfl (vp_ofb (by decide)) d_Ar_fill_15 (fun H locs hP hD hS => ?_)
  have hP : va_P D classes (W_L4 cI cL g0 (vp_updL L (0 : Int32).toNatClampNeg v)) H := hP
  have hD : va_D A (W_L4 cI cL g0 (vp_updL L (0 : Int32).toNatClampNeg v)) := hD
  refine lv_iinc (k := 1) (v := 1) (lv' := [(3, .int _), (4, .int _), (0, .ref _), (1, .long _)]) hx hb d_Ar_fill_16 hl rfl (by decide) (by decide) rfl (fun ls hl => ?_)
  refine lv_goto (tgt := 6) hx hb d_Ar_fill_19 (by decide) ?_
  refine lv_iload_n hx hb d_Ar_fill_6 rfl (lv_at hl 0 rfl) ?_
  refine lv_iload hx hb d_Ar_fill_7 (lv_at hl 1 rfl) ?_
  refine lv_icmp_ge (tgt := 22) hx hb d_Ar_fill_9 (by decide) (fun h => absurd h (by decide)) (fun _ => ?_)
  refine lv_aload_n hx hb d_Ar_fill_12 rfl (lv_at hl 2 rfl) ?_
  refine lv_iload_n hx hb d_Ar_fill_13 rfl (lv_at hl 0 rfl) ?_
  refine lv_lload_n hx hb d_Ar_fill_14 rfl (lv_at hl 3 rfl) ?_
  refine va_last hx hb hK hP hD hS 0 1 rfl rfl (vp_ofb (by decide)) d_Ar_fill_15 (fun H locs hP hD hS => ?_)
  have hP : va_P D classes (W_L4 cI cL g0 (vp_updL (vp_updL L (0 : Int32).toNatClampNeg v) (1 : Int32).toNatClampNeg v)) H := hP
  have hD : va_D A (W_L4 cI cL g0 (vp_updL (vp_updL L (0 : Int32).toNatClampNeg v) (1 : Int32).toNatClampNeg v)) := hD
  refine lv_iinc (k := 0) (v := 2) (lv' := [(3, .int _), (4, .int _), (0, .ref _), (1, .long _)]) hx hb d_Ar_fill_16 hl rfl (by decide) (by decide) rfl (fun ls hl => ?_)
  refine lv_goto (tgt := 6) hx hb d_Ar_fill_19 (by decide) ?_
  refine lv_iload_n hx hb d_Ar_fill_6 rfl (lv_at hl 0 rfl) ?_
  refine lv_iload hx hb d_Ar_fill_7 (lv_at hl 1 rfl) ?_
  refine lv_icmp_ge (tgt := 22) hx hb d_Ar_fill_9 (by decide) (fun h => absurd h (by decide)) (fun _ => ?_)
  refine lv_aload_n hx hb d_Ar_fill_12 rfl (lv_at hl 2 rfl) ?_
  refine lv_iload_n hx hb d_Ar_fill_13 rfl (lv_at hl 0 rfl) ?_
  refine lv_lload_n hx hb d_Ar_fill_14 rfl (lv_at hl 3 rfl) ?_
  refine va_last hx hb hK hP hD hS 0 1 rfl rfl (vp_ofb (by decide)) d_Ar_fill_15 (fun H locs hP hD hS => ?_)
  have hP : va_P D classes (W_L4 cI cL g0 (vp_updL (vp_updL (vp_updL L (0 : Int32).toNatClampNeg v) (1 : Int32).toNatClampNeg v) (2 : Int32).toNatClampNeg v)) H := hP
  have hD : va_D A (W_L4 cI cL g0 (vp_updL (vp_updL (vp_updL L (0 : Int32).toNatClampNeg v) (1 : Int32).toNatClampNeg v) (2 : Int32).toNatClampNeg v)) := hD
  refine lv_iinc (k := 0) (v := 3) (lv' := [(3, .int _), (4, .int _), (0, .ref _), (1, .long _)]) hx hb d_Ar_fill_16 hl rfl (by decide) (by decide) rfl (fun ls hl => ?_)
  refine lv_goto (tgt := 6) hx hb d_Ar_fill_19 (by decide) ?_
  refine lv_iload_n hx hb d_Ar_fill_6 rfl (lv_at hl 0 rfl) ?_
  refine lv_iload hx hb d_Ar_fill_7 (lv_at hl 1 rfl) ?_
  refine lv_icmp_ge (tgt := 22) hx hb d_Ar_fill_9 (by decide) (fun h => absurd h (by decide)) (fun _ => ?_)
  refine lv_aload_n hx hb d_Ar_fill_12 rfl (lv_at hl 2 rfl) ?_
  refine lv_iload_n hx hb d_Ar_fill_13 rfl (lv_at hl 0 rfl) ?_
  refine lv_lload_n hx hb d_Ar_fill_14 rfl (lv_at hl 3 rfl) ?_
  refine va_last hx hb hK hP hD hS 0 1 rfl rfl (vp_ofb (by decide)) d_Ar_fill_15 (fun H locs hP hD hS => ?_)
  have hP : va_P D classes (W_L4 cI cL g0 (vp_updL (vp_updL (vp_updL (vp_updL L (0 : Int32).toNatClampNeg v) (1 : Int32).toNatClampNeg v) (2 : Int32).toNatClampNeg v) (3 : Int32).toNatClampNeg v)) H := hP
  have hD : va_D A (W_L4 cI cL g0 (vp_updL (vp_updL (vp_updL (vp_updL L (0 : Int32).toNatClampNeg v) (1 : Int32).toNatClampNeg v) (2 : Int32).toNatClampNeg v) (3 : Int32).toNatClampNeg v)) := hD
  refine lv_iinc (k := 0) (v := 4) (lv' := [(3, .int _), (4, .int _), (0, .ref _), (1, .long _)]) hx hb d_Ar_fill_16 hl rfl (by decide) (by decide) rfl (fun ls hl => ?_)
  refine lv_goto (tgt := 6) hx hb d_Ar_fill_19 (by decide) ?_
  refine lv_iload_n hx hb d_Ar_fill_6 rfl (lv_at hl 0 rfl) ?_
  refine lv_iload hx hb d_Ar_fill_7 (lv_at hl 1 rfl) ?_
  refine lv_icmp_ge (tgt := 22) hx hb d_Ar_fill_9 (by decide) (fun _ => ?_) (fun h => absurd (by decide) h)
  exact W.vret hx hb hr (fun t ht hW => ⟨⟨(), rfl, trivial, by show va_P D classes _ t.heap; rw [ht]; exact hP⟩, hS.F ht⟩) hS.2.2 d_Ar_fill_22 hlocks
end
section
abbrev q_Co_op (D : va_G) (cI cL : ClassId) (A : Nat → Prop)  (F : Int32) : Array Value → State → Outcome → State → Prop := va_Qi (fun r (_ : Unit) => r = F) (fun _ t => va_P D classes [] t.heap) A
set_option maxHeartbeats 4000000 in
set_option maxRecDepth 100000 in
theorem c_Co_op (l : Launch) (D : va_G) (cI cL : ClassId) (sz : Nat)  (k : Int32)  : Met l y_Co_op w_Co_op ({ frames := 0, cells := 0, slots := 0, locals := 0 }) (va_Pc [.int k] (PW D cI cL [] sz)) (q_Co_op D cI cL (va_A [] sz)  (f_Co_op k)) 0 0 (va_A [] sz) := by
  refine mk_met (Qf := fun A => q_Co_op D cI cL A  (f_Co_op k)) (by decide) (Nat.le_of_ble_eq_true rfl) ?_
  intro p e s m below meth c A ls hx hb hr hlocks hml hown hg hK hN hT hA hP hD hS hnm hl
  refine lv_iload_n hx hb d_Co_op_0 rfl (lv_at hl 0 rfl) ?_
  refine lv_bipush (v := 127) hx hb d_Co_op_1 (by decide) ?_
  refine lv_iand hx hb d_Co_op_3 ?_
  exact W.iret hx hb hr (fun t ht hW => ⟨⟨_, (), rfl, rfl, by show va_P D classes _ t.heap; rw [ht]; exact hP⟩, hS.F ht⟩) hS.2.2 d_Co_op_4 hlocks
abbrev q_Co_d (D : va_G) (cI cL : ClassId) (A : Nat → Prop)  (F : Int32) : Array Value → State → Outcome → State → Prop := va_Qi (fun r (_ : Unit) => r = F) (fun _ t => va_P D classes [] t.heap) A
set_option maxHeartbeats 4000000 in
set_option maxRecDepth 100000 in
theorem c_Co_d (l : Launch) (D : va_G) (cI cL : ClassId) (sz : Nat)  (k : Int32)  : Met l y_Co_d w_Co_d ({ frames := 0, cells := 0, slots := 0, locals := 0 }) (va_Pc [.int k] (PW D cI cL [] sz)) (q_Co_d D cI cL (va_A [] sz)  (f_Co_d k)) 0 0 (va_A [] sz) := by
  refine mk_met (Qf := fun A => q_Co_d D cI cL A  (f_Co_d k)) (by decide) (Nat.le_of_ble_eq_true rfl) ?_
  intro p e s m below meth c A ls hx hb hr hlocks hml hown hg hK hN hT hA hP hD hS hnm hl
  refine lv_iload_n hx hb d_Co_d_0 rfl (lv_at hl 0 rfl) ?_
  refine lv_bipush (v := 7) hx hb d_Co_d_1 (by decide) ?_
  refine lv_iushr (v := u_ush _ _) hx hb d_Co_d_3 rfl ?_
  refine lv_bipush (v := 31) hx hb d_Co_d_4 (by decide) ?_
  refine lv_iand hx hb d_Co_d_6 ?_
  exact W.iret hx hb hr (fun t ht hW => ⟨⟨_, (), rfl, rfl, by show va_P D classes _ t.heap; rw [ht]; exact hP⟩, hS.F ht⟩) hS.2.2 d_Co_d_7 hlocks
abbrev q_Co_f (D : va_G) (cI cL : ClassId) (A : Nat → Prop)  (F : Int32) : Array Value → State → Outcome → State → Prop := va_Qi (fun r (_ : Unit) => r = F) (fun _ t => va_P D classes [] t.heap) A
set_option maxHeartbeats 4000000 in
set_option maxRecDepth 100000 in
theorem c_Co_f (l : Launch) (D : va_G) (cI cL : ClassId) (sz : Nat)  (k : Int32)  : Met l y_Co_f w_Co_f ({ frames := 0, cells := 0, slots := 0, locals := 0 }) (va_Pc [.int k] (PW D cI cL [] sz)) (q_Co_f D cI cL (va_A [] sz)  (f_Co_f k)) 0 0 (va_A [] sz) := by
  refine mk_met (Qf := fun A => q_Co_f D cI cL A  (f_Co_f k)) (by decide) (Nat.le_of_ble_eq_true rfl) ?_
  intro p e s m below meth c A ls hx hb hr hlocks hml hown hg hK hN hT hA hP hD hS hnm hl
  refine lv_iload_n hx hb d_Co_f_0 rfl (lv_at hl 0 rfl) ?_
  refine lv_bipush (v := 12) hx hb d_Co_f_1 (by decide) ?_
  refine lv_iushr (v := u_ush _ _) hx hb d_Co_f_3 rfl ?_
  refine lv_bipush (v := 7) hx hb d_Co_f_4 (by decide) ?_
  refine lv_iand hx hb d_Co_f_6 ?_
  exact W.iret hx hb hr (fun t ht hW => ⟨⟨_, (), rfl, rfl, by show va_P D classes _ t.heap; rw [ht]; exact hP⟩, hS.F ht⟩) hS.2.2 d_Co_f_7 hlocks
abbrev q_Co_s (D : va_G) (cI cL : ClassId) (A : Nat → Prop)  (F : Int32) : Array Value → State → Outcome → State → Prop := va_Qi (fun r (_ : Unit) => r = F) (fun _ t => va_P D classes [] t.heap) A
set_option maxHeartbeats 4000000 in
set_option maxRecDepth 100000 in
theorem c_Co_s (l : Launch) (D : va_G) (cI cL : ClassId) (sz : Nat)  (k : Int32)  : Met l y_Co_s w_Co_s ({ frames := 0, cells := 0, slots := 0, locals := 0 }) (va_Pc [.int k] (PW D cI cL [] sz)) (q_Co_s D cI cL (va_A [] sz)  (f_Co_s k)) 0 0 (va_A [] sz) := by
  refine mk_met (Qf := fun A => q_Co_s D cI cL A  (f_Co_s k)) (by decide) (Nat.le_of_ble_eq_true rfl) ?_
  intro p e s m below meth c A ls hx hb hr hlocks hml hown hg hK hN hT hA hP hD hS hnm hl
  refine lv_iload_n hx hb d_Co_s_0 rfl (lv_at hl 0 rfl) ?_
  refine lv_bipush (v := 15) hx hb d_Co_s_1 (by decide) ?_
  refine lv_iushr (v := u_ush _ _) hx hb d_Co_s_3 rfl ?_
  refine lv_bipush (v := 31) hx hb d_Co_s_4 (by decide) ?_
  refine lv_iand hx hb d_Co_s_6 ?_
  exact W.iret hx hb hr (fun t ht hW => ⟨⟨_, (), rfl, rfl, by show va_P D classes _ t.heap; rw [ht]; exact hP⟩, hS.F ht⟩) hS.2.2 d_Co_s_7 hlocks
abbrev q_Co_t (D : va_G) (cI cL : ClassId) (A : Nat → Prop)  (F : Int32) : Array Value → State → Outcome → State → Prop := va_Qi (fun r (_ : Unit) => r = F) (fun _ t => va_P D classes [] t.heap) A
set_option maxHeartbeats 4000000 in
set_option maxRecDepth 100000 in
theorem c_Co_t (l : Launch) (D : va_G) (cI cL : ClassId) (sz : Nat)  (k : Int32)  : Met l y_Co_t w_Co_t ({ frames := 0, cells := 0, slots := 0, locals := 0 }) (va_Pc [.int k] (PW D cI cL [] sz)) (q_Co_t D cI cL (va_A [] sz)  (f_Co_t k)) 0 0 (va_A [] sz) := by
  refine mk_met (Qf := fun A => q_Co_t D cI cL A  (f_Co_t k)) (by decide) (Nat.le_of_ble_eq_true rfl) ?_
  intro p e s m below meth c A ls hx hb hr hlocks hml hown hg hK hN hT hA hP hD hS hnm hl
  refine lv_iload_n hx hb d_Co_t_0 rfl (lv_at hl 0 rfl) ?_
  refine lv_bipush (v := 20) hx hb d_Co_t_1 (by decide) ?_
  refine lv_iushr (v := u_ush _ _) hx hb d_Co_t_3 rfl ?_
  refine lv_bipush (v := 31) hx hb d_Co_t_4 (by decide) ?_
  refine lv_iand hx hb d_Co_t_6 ?_
  exact W.iret hx hb hr (fun t ht hW => ⟨⟨_, (), rfl, rfl, by show va_P D classes _ t.heap; rw [ht]; exact hP⟩, hS.F ht⟩) hS.2.2 d_Co_t_7 hlocks
abbrev q_Co_g (D : va_G) (cI cL : ClassId) (A : Nat → Prop)  (F : Int32) : Array Value → State → Outcome → State → Prop := va_Qi (fun r (_ : Unit) => r = F) (fun _ t => va_P D classes [] t.heap) A
set_option maxHeartbeats 4000000 in
set_option maxRecDepth 100000 in
theorem c_Co_g (l : Launch) (D : va_G) (cI cL : ClassId) (sz : Nat)  (k : Int32)  : Met l y_Co_g w_Co_g ({ frames := 0, cells := 0, slots := 0, locals := 0 }) (va_Pc [.int k] (PW D cI cL [] sz)) (q_Co_g D cI cL (va_A [] sz)  (f_Co_g k)) 0 0 (va_A [] sz) := by
  refine mk_met (Qf := fun A => q_Co_g D cI cL A  (f_Co_g k)) (by decide) (Nat.le_of_ble_eq_true rfl) ?_
  intro p e s m below meth c A ls hx hb hr hlocks hml hown hg hK hN hT hA hP hD hS hnm hl
  refine lv_iload_n hx hb d_Co_g_0 rfl (lv_at hl 0 rfl) ?_
  refine lv_bipush (v := 25) hx hb d_Co_g_1 (by decide) ?_
  refine lv_iushr (v := u_ush _ _) hx hb d_Co_g_3 rfl ?_
  exact W.iret hx hb hr (fun t ht hW => ⟨⟨_, (), rfl, rfl, by show va_P D classes _ t.heap; rw [ht]; exact hP⟩, hS.F ht⟩) hS.2.2 d_Co_g_4 hlocks
abbrev q_Co_i (D : va_G) (cI cL : ClassId) (A : Nat → Prop)  (F : Int32) : Array Value → State → Outcome → State → Prop := va_Qi (fun r (_ : Unit) => r = F) (fun _ t => va_P D classes [] t.heap) A
set_option maxHeartbeats 4000000 in
set_option maxRecDepth 100000 in
theorem c_Co_i (l : Launch) (D : va_G) (cI cL : ClassId) (sz : Nat)  (k : Int32)  : Met l y_Co_i w_Co_i ({ frames := 0, cells := 0, slots := 0, locals := 0 }) (va_Pc [.int k] (PW D cI cL [] sz)) (q_Co_i D cI cL (va_A [] sz)  (f_Co_i k)) 0 0 (va_A [] sz) := by
  refine mk_met (Qf := fun A => q_Co_i D cI cL A  (f_Co_i k)) (by decide) (Nat.le_of_ble_eq_true rfl) ?_
  intro p e s m below meth c A ls hx hb hr hlocks hml hown hg hK hN hT hA hP hD hS hnm hl
  refine lv_iload_n hx hb d_Co_i_0 rfl (lv_at hl 0 rfl) ?_
  refine lv_bipush (v := 20) hx hb d_Co_i_1 (by decide) ?_
  refine lv_ishr hx hb d_Co_i_3 ?_
  exact W.iret hx hb hr (fun t ht hW => ⟨⟨_, (), rfl, rfl, by show va_P D classes _ t.heap; rw [ht]; exact hP⟩, hS.F ht⟩) hS.2.2 d_Co_i_4 hlocks
abbrev q_Co_j (D : va_G) (cI cL : ClassId) (A : Nat → Prop)  (F : Int32) : Array Value → State → Outcome → State → Prop := va_Qi (fun r (_ : Unit) => r = F) (fun _ t => va_P D classes [] t.heap) A
set_option maxHeartbeats 4000000 in
set_option maxRecDepth 100000 in
theorem c_Co_j (l : Launch) (D : va_G) (cI cL : ClassId) (sz : Nat)  (k : Int32)  : Met l y_Co_j w_Co_j ({ frames := 1, cells := 0, slots := 0, locals := 20 }) (va_Pc [.int k] (PW D cI cL [] sz)) (q_Co_j D cI cL (va_A [] sz)  (f_Co_j k)) 0 0 (va_A [] sz) := by
  refine mk_met (Qf := fun A => q_Co_j D cI cL A  (f_Co_j k)) (by decide) (Nat.le_of_ble_eq_true rfl) ?_
  intro p e s m below meth c A ls hx hb hr hlocks hml hown hg hK hN hT hA hP hD hS hnm hl
  refine lv_iload_n hx hb d_Co_j_0 rfl (lv_at hl 0 rfl) ?_
  refine lv_bipush (v := 25) hx hb d_Co_j_1 (by decide) ?_
  refine lv_ishr hx hb d_Co_j_3 ?_
  refine lv_iconst (v := 5) hx hb d_Co_j_4 (by decide) ?_
  refine lv_ishl hx hb d_Co_j_5 ?_
  refine lv_iload_n hx hb d_Co_j_6 rfl (lv_at hl 0 rfl) ?_
  refine cj_i (wc := []) (w1 := []) hP hD hS hA [] rfl rfl (va_runS (rest := [.int _]) ⟨hx, hb, hml, hown, hg⟩ (c_Co_d l D cI cL  _ k) ⟨callB_of 1 hg (gw_good m_355) rfl rfl rfl (hg _ m_74) (hg _ m_437) hd_Co_d ⟨Nat.le_of_ble_eq_true rfl, Nat.le_of_ble_eq_true rfl⟩, hg _ m_354⟩ (pw_S hK hN hT hA hP hD hS [] rfl (by decide)) rfl rfl hl.1 rfl (lv_room (Nat.le_of_ble_eq_true rfl)) d_Co_j_7 ⟨Nat.le_of_ble_eq_true rfl, Nat.le_of_ble_eq_true rfl⟩) (fun H locs hP hD hS => ?_)
  have hP : va_P D classes [] H := hP
  have hD : va_D A [] := hD
  refine lv_ior hx hb d_Co_j_10 ?_
  exact W.iret hx hb hr (fun t ht hW => ⟨⟨_, (), rfl, rfl, by show va_P D classes _ t.heap; rw [ht]; exact hP⟩, hS.F ht⟩) hS.2.2 d_Co_j_11 hlocks
abbrev q_Co_k (D : va_G) (cI cL : ClassId) (A : Nat → Prop)  (F : Int32) : Array Value → State → Outcome → State → Prop := va_Qi (fun r (_ : Unit) => r = F) (fun _ t => va_P D classes [] t.heap) A
set_option maxHeartbeats 4000000 in
set_option maxRecDepth 100000 in
theorem c_Co_k (l : Launch) (D : va_G) (cI cL : ClassId) (sz : Nat)  (k : Int32)  : Met l y_Co_k w_Co_k ({ frames := 0, cells := 0, slots := 0, locals := 0 }) (va_Pc [.int k] (PW D cI cL [] sz)) (q_Co_k D cI cL (va_A [] sz)  (f_Co_k k)) 0 0 (va_A [] sz) := by
  refine mk_met (Qf := fun A => q_Co_k D cI cL A  (f_Co_k k)) (by decide) (Nat.le_of_ble_eq_true rfl) ?_
  intro p e s m below meth c A ls hx hb hr hlocks hml hown hg hK hN hT hA hP hD hS hnm hl
  refine lv_iload_n hx hb d_Co_k_0 rfl (lv_at hl 0 rfl) ?_
  refine lv_bipush (v := 31) hx hb d_Co_k_1 (by decide) ?_
  refine lv_ishr hx hb d_Co_k_3 ?_
  refine lv_bipush (v := 12) hx hb d_Co_k_4 (by decide) ?_
  refine lv_ishl hx hb d_Co_k_6 ?_
  refine lv_iload_n hx hb d_Co_k_7 rfl (lv_at hl 0 rfl) ?_
  refine lv_bipush (v := 7) hx hb d_Co_k_8 (by decide) ?_
  refine lv_iushr (v := u_ush _ _) hx hb d_Co_k_10 rfl ?_
  refine lv_iconst (v := 1) hx hb d_Co_k_11 (by decide) ?_
  refine lv_iand hx hb d_Co_k_12 ?_
  refine lv_bipush (v := 11) hx hb d_Co_k_13 (by decide) ?_
  refine lv_ishl hx hb d_Co_k_15 ?_
  refine lv_ior hx hb d_Co_k_16 ?_
  refine lv_iload_n hx hb d_Co_k_17 rfl (lv_at hl 0 rfl) ?_
  refine lv_bipush (v := 25) hx hb d_Co_k_18 (by decide) ?_
  refine lv_iushr (v := u_ush _ _) hx hb d_Co_k_20 rfl ?_
  refine lv_bipush (v := 63) hx hb d_Co_k_21 (by decide) ?_
  refine lv_iand hx hb d_Co_k_23 ?_
  refine lv_iconst (v := 5) hx hb d_Co_k_24 (by decide) ?_
  refine lv_ishl hx hb d_Co_k_25 ?_
  refine lv_ior hx hb d_Co_k_26 ?_
  refine lv_iload_n hx hb d_Co_k_27 rfl (lv_at hl 0 rfl) ?_
  refine lv_bipush (v := 8) hx hb d_Co_k_28 (by decide) ?_
  refine lv_iushr (v := u_ush _ _) hx hb d_Co_k_30 rfl ?_
  refine lv_bipush (v := 15) hx hb d_Co_k_31 (by decide) ?_
  refine lv_iand hx hb d_Co_k_33 ?_
  refine lv_iconst (v := 1) hx hb d_Co_k_34 (by decide) ?_
  refine lv_ishl hx hb d_Co_k_35 ?_
  refine lv_ior hx hb d_Co_k_36 ?_
  exact W.iret hx hb hr (fun t ht hW => ⟨⟨_, (), rfl, rfl, by show va_P D classes _ t.heap; rw [ht]; exact hP⟩, hS.F ht⟩) hS.2.2 d_Co_k_37 hlocks
abbrev q_Co_u (D : va_G) (cI cL : ClassId) (A : Nat → Prop)  (F : Int32) : Array Value → State → Outcome → State → Prop := va_Qi (fun r (_ : Unit) => r = F) (fun _ t => va_P D classes [] t.heap) A
set_option maxHeartbeats 4000000 in
set_option maxRecDepth 100000 in
theorem c_Co_u (l : Launch) (D : va_G) (cI cL : ClassId) (sz : Nat)  (k : Int32)  : Met l y_Co_u w_Co_u ({ frames := 0, cells := 0, slots := 0, locals := 0 }) (va_Pc [.int k] (PW D cI cL [] sz)) (q_Co_u D cI cL (va_A [] sz)  (f_Co_u k)) 0 0 (va_A [] sz) := by
  refine mk_met (Qf := fun A => q_Co_u D cI cL A  (f_Co_u k)) (by decide) (Nat.le_of_ble_eq_true rfl) ?_
  intro p e s m below meth c A ls hx hb hr hlocks hml hown hg hK hN hT hA hP hD hS hnm hl
  refine lv_iload_n hx hb d_Co_u_0 rfl (lv_at hl 0 rfl) ?_
  refine lv_sipush (v := -4096) hx hb d_Co_u_1 (by decide) ?_
  refine lv_iand hx hb d_Co_u_4 ?_
  exact W.iret hx hb hr (fun t ht hW => ⟨⟨_, (), rfl, rfl, by show va_P D classes _ t.heap; rw [ht]; exact hP⟩, hS.F ht⟩) hS.2.2 d_Co_u_5 hlocks
abbrev q_Co_l (D : va_G) (cI cL : ClassId) (A : Nat → Prop)  (F : Int32) : Array Value → State → Outcome → State → Prop := va_Qi (fun r (_ : Unit) => r = F) (fun _ t => va_P D classes [] t.heap) A
set_option maxHeartbeats 4000000 in
set_option maxRecDepth 100000 in
theorem c_Co_l (l : Launch) (D : va_G) (cI cL : ClassId) (sz : Nat)  (k : Int32)  : Met l y_Co_l w_Co_l ({ frames := 0, cells := 0, slots := 0, locals := 0 }) (va_Pc [.int k] (PW D cI cL [] sz)) (q_Co_l D cI cL (va_A [] sz)  (f_Co_l k)) 0 0 (va_A [] sz) := by
  refine mk_met (Qf := fun A => q_Co_l D cI cL A  (f_Co_l k)) (by decide) (Nat.le_of_ble_eq_true rfl) ?_
  intro p e s m below meth c A ls hx hb hr hlocks hml hown hg hK hN hT hA hP hD hS hnm hl
  refine lv_iload_n hx hb d_Co_l_0 rfl (lv_at hl 0 rfl) ?_
  refine lv_bipush (v := 31) hx hb d_Co_l_1 (by decide) ?_
  refine lv_ishr hx hb d_Co_l_3 ?_
  refine lv_bipush (v := 20) hx hb d_Co_l_4 (by decide) ?_
  refine lv_ishl hx hb d_Co_l_6 ?_
  refine lv_iload_n hx hb d_Co_l_7 rfl (lv_at hl 0 rfl) ?_
  refine lv_ldc hx hb hown (hg _ m_374) d_Co_l_8 ?_
  refine lv_iand hx hb d_Co_l_10 ?_
  refine lv_ior hx hb d_Co_l_11 ?_
  refine lv_iload_n hx hb d_Co_l_12 rfl (lv_at hl 0 rfl) ?_
  refine lv_bipush (v := 20) hx hb d_Co_l_13 (by decide) ?_
  refine lv_iushr (v := u_ush _ _) hx hb d_Co_l_15 rfl ?_
  refine lv_iconst (v := 1) hx hb d_Co_l_16 (by decide) ?_
  refine lv_iand hx hb d_Co_l_17 ?_
  refine lv_bipush (v := 11) hx hb d_Co_l_18 (by decide) ?_
  refine lv_ishl hx hb d_Co_l_20 ?_
  refine lv_ior hx hb d_Co_l_21 ?_
  refine lv_iload_n hx hb d_Co_l_22 rfl (lv_at hl 0 rfl) ?_
  refine lv_bipush (v := 21) hx hb d_Co_l_23 (by decide) ?_
  refine lv_iushr (v := u_ush _ _) hx hb d_Co_l_25 rfl ?_
  refine lv_sipush (v := 1023) hx hb d_Co_l_26 (by decide) ?_
  refine lv_iand hx hb d_Co_l_29 ?_
  refine lv_iconst (v := 1) hx hb d_Co_l_30 (by decide) ?_
  refine lv_ishl hx hb d_Co_l_31 ?_
  refine lv_ior hx hb d_Co_l_32 ?_
  exact W.iret hx hb hr (fun t ht hW => ⟨⟨_, (), rfl, rfl, by show va_P D classes _ t.heap; rw [ht]; exact hP⟩, hS.F ht⟩) hS.2.2 d_Co_l_33 hlocks
abbrev q_Co_size (D : va_G) (cI cL : ClassId) (A : Nat → Prop)  (F : Int32) : Array Value → State → Outcome → State → Prop := va_Qi (fun r (_ : Unit) => r = F) (fun _ t => va_P D classes [] t.heap) A
set_option maxHeartbeats 4000000 in
set_option maxRecDepth 100000 in
theorem c_Co_size (l : Launch) (D : va_G) (cI cL : ClassId) (sz : Nat)  (k : Int32)  : Met l y_Co_size w_Co_size ({ frames := 0, cells := 0, slots := 0, locals := 0 }) (va_Pc [.int k] (PW D cI cL [] sz)) (q_Co_size D cI cL (va_A [] sz)  (f_Co_size k)) 0 0 (va_A [] sz) := by
  refine mk_met (Qf := fun A => q_Co_size D cI cL A  (f_Co_size k)) (by decide) (Nat.le_of_ble_eq_true rfl) ?_
  intro p e s m below meth c A ls hx hb hr hlocks hml hown hg hK hN hT hA hP hD hS hnm hl
  refine lv_iconst (v := 1) hx hb d_Co_size_0 (by decide) ?_
  refine lv_iload_n hx hb d_Co_size_1 rfl (lv_at hl 0 rfl) ?_
  refine lv_iconst (v := 3) hx hb d_Co_size_2 (by decide) ?_
  refine lv_iand hx hb d_Co_size_3 ?_
  refine lv_ishl hx hb d_Co_size_4 ?_
  exact W.iret hx hb hr (fun t ht hW => ⟨⟨_, (), rfl, rfl, by show va_P D classes _ t.heap; rw [ht]; exact hP⟩, hS.F ht⟩) hS.2.2 d_Co_size_5 hlocks
abbrev q_Co_shiftOf (D : va_G) (cI cL : ClassId) (A : Nat → Prop)  (F : Int32) : Array Value → State → Outcome → State → Prop := va_Qi (fun r (_ : Unit) => r = F) (fun _ t => va_P D classes [] t.heap) A
set_option maxHeartbeats 4000000 in
set_option maxRecDepth 100000 in
theorem c_Co_shiftOf (l : Launch) (D : va_G) (cI cL : ClassId) (sz : Nat)  (a : Int32)  : Met l y_Co_shiftOf w_Co_shiftOf ({ frames := 0, cells := 0, slots := 0, locals := 0 }) (va_Pc [.int a] (PW D cI cL [] sz)) (q_Co_shiftOf D cI cL (va_A [] sz)  (f_Co_shiftOf a)) 0 0 (va_A [] sz) := by
  refine mk_met (Qf := fun A => q_Co_shiftOf D cI cL A  (f_Co_shiftOf a)) (by decide) (Nat.le_of_ble_eq_true rfl) ?_
  intro p e s m below meth c A ls hx hb hr hlocks hml hown hg hK hN hT hA hP hD hS hnm hl
  refine lv_iload_n hx hb d_Co_shiftOf_0 rfl (lv_at hl 0 rfl) ?_
  refine lv_iconst (v := 3) hx hb d_Co_shiftOf_1 (by decide) ?_
  refine lv_iand hx hb d_Co_shiftOf_2 ?_
  refine lv_iconst (v := 3) hx hb d_Co_shiftOf_3 (by decide) ?_
  refine lv_ishl hx hb d_Co_shiftOf_4 ?_
  exact W.iret hx hb hr (fun t ht hW => ⟨⟨_, (), rfl, rfl, by show va_P D classes _ t.heap; rw [ht]; exact hP⟩, hS.F ht⟩) hS.2.2 d_Co_shiftOf_5 hlocks
abbrev q_Co_loaded (D : va_G) (cI cL : ClassId) (A : Nat → Prop)  (F : Int32) : Array Value → State → Outcome → State → Prop := va_Qi (fun r (_ : Unit) => r = F) (fun _ t => va_P D classes [] t.heap) A
theorem f_Co_loaded_e0 (f : Int32) (v : Int32)  (h1_0 : f = (0 : Int32)) : f_Co_loaded f v = ((v.toInt8.toInt32)) := by
  exact (if_pos h1_0)
theorem f_Co_loaded_e1 (f : Int32) (v : Int32)  (h1_0 : ¬ f = (0 : Int32)) (h1_1 : f = (1 : Int32)) : f_Co_loaded f v = ((v.toInt16.toInt32)) := by
  exact ((if_neg h1_0).trans (if_pos h1_1))
theorem f_Co_loaded_e2 (f : Int32) (v : Int32)  (h1_0 : ¬ f = (0 : Int32)) (h1_1 : ¬ f = (1 : Int32)) (h1_2 : f = (2 : Int32)) : f_Co_loaded f v = (v) := by
  exact ((if_neg h1_0).trans ((if_neg h1_1).trans (if_pos h1_2)))
theorem f_Co_loaded_e3 (f : Int32) (v : Int32)  (h1_0 : ¬ f = (0 : Int32)) (h1_1 : ¬ f = (1 : Int32)) (h1_2 : ¬ f = (2 : Int32)) (h1_3 : f = (3 : Int32)) : f_Co_loaded f v = (v) := by
  exact ((if_neg h1_0).trans ((if_neg h1_1).trans ((if_neg h1_2).trans (if_pos h1_3))))
theorem f_Co_loaded_e4 (f : Int32) (v : Int32)  (h1_0 : ¬ f = (0 : Int32)) (h1_1 : ¬ f = (1 : Int32)) (h1_2 : ¬ f = (2 : Int32)) (h1_3 : ¬ f = (3 : Int32)) (h1_4 : f = (4 : Int32)) : f_Co_loaded f v = ((v &&& (255 : Int32))) := by
  exact ((if_neg h1_0).trans ((if_neg h1_1).trans ((if_neg h1_2).trans ((if_neg h1_3).trans (if_pos h1_4)))))
theorem f_Co_loaded_e5 (f : Int32) (v : Int32)  (h1_0 : ¬ f = (0 : Int32)) (h1_1 : ¬ f = (1 : Int32)) (h1_2 : ¬ f = (2 : Int32)) (h1_3 : ¬ f = (3 : Int32)) (h1_4 : ¬ f = (4 : Int32)) (h1_5 : f = (5 : Int32)) : f_Co_loaded f v = ((v &&& (65535 : Int32))) := by
  exact ((if_neg h1_0).trans ((if_neg h1_1).trans ((if_neg h1_2).trans ((if_neg h1_3).trans ((if_neg h1_4).trans (if_pos h1_5))))))
theorem f_Co_loaded_e6 (f : Int32) (v : Int32)  (h1_0 : ¬ f = (0 : Int32)) (h1_1 : ¬ f = (1 : Int32)) (h1_2 : ¬ f = (2 : Int32)) (h1_3 : ¬ f = (3 : Int32)) (h1_4 : ¬ f = (4 : Int32)) (h1_5 : ¬ f = (5 : Int32)) : f_Co_loaded f v = (v) := by
  exact ((if_neg h1_0).trans ((if_neg h1_1).trans ((if_neg h1_2).trans ((if_neg h1_3).trans ((if_neg h1_4).trans (if_neg h1_5))))))
set_option maxHeartbeats 4000000 in
set_option maxRecDepth 100000 in
theorem c_Co_loaded (l : Launch) (D : va_G) (cI cL : ClassId) (sz : Nat)  (f : Int32) (v : Int32)  : Met l y_Co_loaded w_Co_loaded ({ frames := 0, cells := 0, slots := 0, locals := 0 }) (va_Pc [.int f, .int v] (PW D cI cL [] sz)) (q_Co_loaded D cI cL (va_A [] sz)  (f_Co_loaded f v)) 0 0 (va_A [] sz) := by
  refine mk_met (Qf := fun A => q_Co_loaded D cI cL A  (f_Co_loaded f v)) (by decide) (Nat.le_of_ble_eq_true rfl) ?_
  intro p e s m below meth c A ls hx hb hr hlocks hml hown hg hK hN hT hA hP hD hS hnm hl
  refine lv_iload_n hx hb d_Co_loaded_0 rfl (lv_at hl 0 rfl) ?_
  by_cases h1_0 : f = (0 : Int32)
  · refine lv_tableIn (tgt := 40) hx hb d_Co_loaded_1 (by rw [h1_0]; decide) (by rw [h1_0]; decide) (by rw [h1_0]; rfl) (by decide) ?_
    refine lv_iload_n hx hb d_Co_loaded_40 rfl (lv_at hl 1 rfl) ?_
    refine lv_i2b hx hb d_Co_loaded_41 rfl ?_
    rw [f_Co_loaded_e0 f v h1_0]
    exact W.iret hx hb hr (fun t ht hW => ⟨⟨_, (), rfl, rfl, by show va_P D classes _ t.heap; rw [ht]; exact hP⟩, hS.F ht⟩) hS.2.2 d_Co_loaded_42 hlocks
  · by_cases h1_1 : f = (1 : Int32)
    · refine lv_tableIn (tgt := 43) hx hb d_Co_loaded_1 (by rw [h1_1]; decide) (by rw [h1_1]; decide) (by rw [h1_1]; rfl) (by decide) ?_
      refine lv_iload_n hx hb d_Co_loaded_43 rfl (lv_at hl 1 rfl) ?_
      refine lv_i2s hx hb d_Co_loaded_44 rfl ?_
      rw [f_Co_loaded_e1 f v h1_0 h1_1]
      exact W.iret hx hb hr (fun t ht hW => ⟨⟨_, (), rfl, rfl, by show va_P D classes _ t.heap; rw [ht]; exact hP⟩, hS.F ht⟩) hS.2.2 d_Co_loaded_45 hlocks
    · by_cases h1_2 : f = (2 : Int32)
      · refine lv_tableIn (tgt := 57) hx hb d_Co_loaded_1 (by rw [h1_2]; decide) (by rw [h1_2]; decide) (by rw [h1_2]; rfl) (by decide) ?_
        refine lv_iload_n hx hb d_Co_loaded_57 rfl (lv_at hl 1 rfl) ?_
        rw [f_Co_loaded_e2 f v h1_0 h1_1 h1_2]
        exact W.iret hx hb hr (fun t ht hW => ⟨⟨_, (), rfl, rfl, by show va_P D classes _ t.heap; rw [ht]; exact hP⟩, hS.F ht⟩) hS.2.2 d_Co_loaded_58 hlocks
      · by_cases h1_3 : f = (3 : Int32)
        · refine lv_tableIn (tgt := 57) hx hb d_Co_loaded_1 (by rw [h1_3]; decide) (by rw [h1_3]; decide) (by rw [h1_3]; rfl) (by decide) ?_
          refine lv_iload_n hx hb d_Co_loaded_57 rfl (lv_at hl 1 rfl) ?_
          rw [f_Co_loaded_e3 f v h1_0 h1_1 h1_2 h1_3]
          exact W.iret hx hb hr (fun t ht hW => ⟨⟨_, (), rfl, rfl, by show va_P D classes _ t.heap; rw [ht]; exact hP⟩, hS.F ht⟩) hS.2.2 d_Co_loaded_58 hlocks
        · by_cases h1_4 : f = (4 : Int32)
          · refine lv_tableIn (tgt := 46) hx hb d_Co_loaded_1 (by rw [h1_4]; decide) (by rw [h1_4]; decide) (by rw [h1_4]; rfl) (by decide) ?_
            refine lv_iload_n hx hb d_Co_loaded_46 rfl (lv_at hl 1 rfl) ?_
            refine lv_sipush (v := 255) hx hb d_Co_loaded_47 (by decide) ?_
            refine lv_iand hx hb d_Co_loaded_50 ?_
            rw [f_Co_loaded_e4 f v h1_0 h1_1 h1_2 h1_3 h1_4]
            exact W.iret hx hb hr (fun t ht hW => ⟨⟨_, (), rfl, rfl, by show va_P D classes _ t.heap; rw [ht]; exact hP⟩, hS.F ht⟩) hS.2.2 d_Co_loaded_51 hlocks
          · by_cases h1_5 : f = (5 : Int32)
            · refine lv_tableIn (tgt := 52) hx hb d_Co_loaded_1 (by rw [h1_5]; decide) (by rw [h1_5]; decide) (by rw [h1_5]; rfl) (by decide) ?_
              refine lv_iload_n hx hb d_Co_loaded_52 rfl (lv_at hl 1 rfl) ?_
              refine lv_ldc hx hb hown (hg _ m_429) d_Co_loaded_53 ?_
              refine lv_iand hx hb d_Co_loaded_55 ?_
              rw [f_Co_loaded_e5 f v h1_0 h1_1 h1_2 h1_3 h1_4 h1_5]
              exact W.iret hx hb hr (fun t ht hW => ⟨⟨_, (), rfl, rfl, by show va_P D classes _ t.heap; rw [ht]; exact hP⟩, hS.F ht⟩) hS.2.2 d_Co_loaded_56 hlocks
            · refine lv_tableOut (tgt := 57) hx hb d_Co_loaded_1 (by have n0 := lv_neT (a := 0) h1_0 (by decide); have n1 := lv_neT (a := 1) h1_1 (by decide); have n2 := lv_neT (a := 2) h1_2 (by decide); have n3 := lv_neT (a := 3) h1_3 (by decide); have n4 := lv_neT (a := 4) h1_4 (by decide); have n5 := lv_neT (a := 5) h1_5 (by decide); omega) (by decide) ?_
              refine lv_iload_n hx hb d_Co_loaded_57 rfl (lv_at hl 1 rfl) ?_
              rw [f_Co_loaded_e6 f v h1_0 h1_1 h1_2 h1_3 h1_4 h1_5]
              exact W.iret hx hb hr (fun t ht hW => ⟨⟨_, (), rfl, rfl, by show va_P D classes _ t.heap; rw [ht]; exact hP⟩, hS.F ht⟩) hS.2.2 d_Co_loaded_58 hlocks
abbrev q_Co_isTaken (D : va_G) (cI cL : ClassId) (A : Nat → Prop)  (F : Int32) : Array Value → State → Outcome → State → Prop := va_Qi (fun r (_ : Unit) => r = F) (fun _ t => va_P D classes [] t.heap) A
theorem f_Co_isTaken_e0 (f : Int32) (a : Int32) (b : Int32)  (h1_0 : f = (0 : Int32)) (h46 : ¬ a = b) : f_Co_isTaken f a b = ((0 : Int32)) := by
  exact ((if_pos h1_0).trans (if_neg h46))
theorem f_Co_isTaken_e1 (f : Int32) (a : Int32) (b : Int32)  (h1_0 : f = (0 : Int32)) (h46 : a = b) : f_Co_isTaken f a b = ((1 : Int32)) := by
  exact ((if_pos h1_0).trans (if_pos h46))
theorem f_Co_isTaken_e2 (f : Int32) (a : Int32) (b : Int32)  (h1_0 : ¬ f = (0 : Int32)) (h1_1 : f = (1 : Int32)) (h57 : a = b) : f_Co_isTaken f a b = ((0 : Int32)) := by
  exact ((if_neg h1_0).trans ((if_pos h1_1).trans (if_pos h57)))
theorem f_Co_isTaken_e3 (f : Int32) (a : Int32) (b : Int32)  (h1_0 : ¬ f = (0 : Int32)) (h1_1 : f = (1 : Int32)) (h57 : ¬ a = b) : f_Co_isTaken f a b = ((1 : Int32)) := by
  exact ((if_neg h1_0).trans ((if_pos h1_1).trans (if_neg h57)))
theorem f_Co_isTaken_e4 (f : Int32) (a : Int32) (b : Int32)  (h1_0 : ¬ f = (0 : Int32)) (h1_1 : ¬ f = (1 : Int32)) (h1_2 : f = (2 : Int32)) (h107 : (f_In_compareUnsigned a b) < 0) : f_Co_isTaken f a b = ((0 : Int32)) := by
  exact ((if_neg h1_0).trans ((if_neg h1_1).trans ((if_pos h1_2).trans (if_pos h107))))
theorem f_Co_isTaken_e5 (f : Int32) (a : Int32) (b : Int32)  (h1_0 : ¬ f = (0 : Int32)) (h1_1 : ¬ f = (1 : Int32)) (h1_2 : f = (2 : Int32)) (h107 : ¬ (f_In_compareUnsigned a b) < 0) : f_Co_isTaken f a b = ((1 : Int32)) := by
  exact ((if_neg h1_0).trans ((if_neg h1_1).trans ((if_pos h1_2).trans (if_neg h107))))
theorem f_Co_isTaken_e6 (f : Int32) (a : Int32) (b : Int32)  (h1_0 : ¬ f = (0 : Int32)) (h1_1 : ¬ f = (1 : Int32)) (h1_2 : ¬ f = (2 : Int32)) (h1_3 : f = (3 : Int32)) (h107 : (f_In_compareUnsigned a b) < 0) : f_Co_isTaken f a b = ((0 : Int32)) := by
  exact ((if_neg h1_0).trans ((if_neg h1_1).trans ((if_neg h1_2).trans ((if_pos h1_3).trans (if_pos h107)))))
theorem f_Co_isTaken_e7 (f : Int32) (a : Int32) (b : Int32)  (h1_0 : ¬ f = (0 : Int32)) (h1_1 : ¬ f = (1 : Int32)) (h1_2 : ¬ f = (2 : Int32)) (h1_3 : f = (3 : Int32)) (h107 : ¬ (f_In_compareUnsigned a b) < 0) : f_Co_isTaken f a b = ((1 : Int32)) := by
  exact ((if_neg h1_0).trans ((if_neg h1_1).trans ((if_neg h1_2).trans ((if_pos h1_3).trans (if_neg h107)))))
theorem f_Co_isTaken_e8 (f : Int32) (a : Int32) (b : Int32)  (h1_0 : ¬ f = (0 : Int32)) (h1_1 : ¬ f = (1 : Int32)) (h1_2 : ¬ f = (2 : Int32)) (h1_3 : ¬ f = (3 : Int32)) (h1_4 : f = (4 : Int32)) (h68 : b ≤ a) : f_Co_isTaken f a b = ((0 : Int32)) := by
  exact ((if_neg h1_0).trans ((if_neg h1_1).trans ((if_neg h1_2).trans ((if_neg h1_3).trans ((if_pos h1_4).trans (if_pos h68))))))
theorem f_Co_isTaken_e9 (f : Int32) (a : Int32) (b : Int32)  (h1_0 : ¬ f = (0 : Int32)) (h1_1 : ¬ f = (1 : Int32)) (h1_2 : ¬ f = (2 : Int32)) (h1_3 : ¬ f = (3 : Int32)) (h1_4 : f = (4 : Int32)) (h68 : ¬ b ≤ a) : f_Co_isTaken f a b = ((1 : Int32)) := by
  exact ((if_neg h1_0).trans ((if_neg h1_1).trans ((if_neg h1_2).trans ((if_neg h1_3).trans ((if_pos h1_4).trans (if_neg h68))))))
theorem f_Co_isTaken_e10 (f : Int32) (a : Int32) (b : Int32)  (h1_0 : ¬ f = (0 : Int32)) (h1_1 : ¬ f = (1 : Int32)) (h1_2 : ¬ f = (2 : Int32)) (h1_3 : ¬ f = (3 : Int32)) (h1_4 : ¬ f = (4 : Int32)) (h1_5 : f = (5 : Int32)) (h79 : a < b) : f_Co_isTaken f a b = ((0 : Int32)) := by
  exact ((if_neg h1_0).trans ((if_neg h1_1).trans ((if_neg h1_2).trans ((if_neg h1_3).trans ((if_neg h1_4).trans ((if_pos h1_5).trans (if_pos h79)))))))
theorem f_Co_isTaken_e11 (f : Int32) (a : Int32) (b : Int32)  (h1_0 : ¬ f = (0 : Int32)) (h1_1 : ¬ f = (1 : Int32)) (h1_2 : ¬ f = (2 : Int32)) (h1_3 : ¬ f = (3 : Int32)) (h1_4 : ¬ f = (4 : Int32)) (h1_5 : f = (5 : Int32)) (h79 : ¬ a < b) : f_Co_isTaken f a b = ((1 : Int32)) := by
  exact ((if_neg h1_0).trans ((if_neg h1_1).trans ((if_neg h1_2).trans ((if_neg h1_3).trans ((if_neg h1_4).trans ((if_pos h1_5).trans (if_neg h79)))))))
theorem f_Co_isTaken_e12 (f : Int32) (a : Int32) (b : Int32)  (h1_0 : ¬ f = (0 : Int32)) (h1_1 : ¬ f = (1 : Int32)) (h1_2 : ¬ f = (2 : Int32)) (h1_3 : ¬ f = (3 : Int32)) (h1_4 : ¬ f = (4 : Int32)) (h1_5 : ¬ f = (5 : Int32)) (h1_6 : f = (6 : Int32)) (h93 : 0 ≤ (f_In_compareUnsigned a b)) : f_Co_isTaken f a b = ((0 : Int32)) := by
  exact ((if_neg h1_0).trans ((if_neg h1_1).trans ((if_neg h1_2).trans ((if_neg h1_3).trans ((if_neg h1_4).trans ((if_neg h1_5).trans ((if_pos h1_6).trans (if_pos h93))))))))
theorem f_Co_isTaken_e13 (f : Int32) (a : Int32) (b : Int32)  (h1_0 : ¬ f = (0 : Int32)) (h1_1 : ¬ f = (1 : Int32)) (h1_2 : ¬ f = (2 : Int32)) (h1_3 : ¬ f = (3 : Int32)) (h1_4 : ¬ f = (4 : Int32)) (h1_5 : ¬ f = (5 : Int32)) (h1_6 : f = (6 : Int32)) (h93 : ¬ 0 ≤ (f_In_compareUnsigned a b)) : f_Co_isTaken f a b = ((1 : Int32)) := by
  exact ((if_neg h1_0).trans ((if_neg h1_1).trans ((if_neg h1_2).trans ((if_neg h1_3).trans ((if_neg h1_4).trans ((if_neg h1_5).trans ((if_pos h1_6).trans (if_neg h93))))))))
theorem f_Co_isTaken_e14 (f : Int32) (a : Int32) (b : Int32)  (h1_0 : ¬ f = (0 : Int32)) (h1_1 : ¬ f = (1 : Int32)) (h1_2 : ¬ f = (2 : Int32)) (h1_3 : ¬ f = (3 : Int32)) (h1_4 : ¬ f = (4 : Int32)) (h1_5 : ¬ f = (5 : Int32)) (h1_6 : ¬ f = (6 : Int32)) (h107 : (f_In_compareUnsigned a b) < 0) : f_Co_isTaken f a b = ((0 : Int32)) := by
  exact ((if_neg h1_0).trans ((if_neg h1_1).trans ((if_neg h1_2).trans ((if_neg h1_3).trans ((if_neg h1_4).trans ((if_neg h1_5).trans ((if_neg h1_6).trans (if_pos h107))))))))
theorem f_Co_isTaken_e15 (f : Int32) (a : Int32) (b : Int32)  (h1_0 : ¬ f = (0 : Int32)) (h1_1 : ¬ f = (1 : Int32)) (h1_2 : ¬ f = (2 : Int32)) (h1_3 : ¬ f = (3 : Int32)) (h1_4 : ¬ f = (4 : Int32)) (h1_5 : ¬ f = (5 : Int32)) (h1_6 : ¬ f = (6 : Int32)) (h107 : ¬ (f_In_compareUnsigned a b) < 0) : f_Co_isTaken f a b = ((1 : Int32)) := by
  exact ((if_neg h1_0).trans ((if_neg h1_1).trans ((if_neg h1_2).trans ((if_neg h1_3).trans ((if_neg h1_4).trans ((if_neg h1_5).trans ((if_neg h1_6).trans (if_neg h107))))))))
set_option maxHeartbeats 4000000 in
set_option maxRecDepth 100000 in
theorem c_Co_isTaken (l : Launch) (D : va_G) (cI cL : ClassId) (sz : Nat)  (f : Int32) (a : Int32) (b : Int32)  : Met l y_Co_isTaken w_Co_isTaken ({ frames := 2, cells := 0, slots := 0, locals := 42 }) (va_Pc [.int f, .int a, .int b] (PW D cI cL [] sz)) (q_Co_isTaken D cI cL (va_A [] sz)  (f_Co_isTaken f a b)) 0 0 (va_A [] sz) := by
  refine mk_met (Qf := fun A => q_Co_isTaken D cI cL A  (f_Co_isTaken f a b)) (by decide) (Nat.le_of_ble_eq_true rfl) ?_
  intro p e s m below meth c A ls hx hb hr hlocks hml hown hg hK hN hT hA hP hD hS hnm hl
  refine lv_iload_n hx hb d_Co_isTaken_0 rfl (lv_at hl 0 rfl) ?_
  by_cases h1_0 : f = (0 : Int32)
  · refine lv_tableIn (tgt := 44) hx hb d_Co_isTaken_1 (by rw [h1_0]; decide) (by rw [h1_0]; decide) (by rw [h1_0]; rfl) (by decide) ?_
    refine lv_iload_n hx hb d_Co_isTaken_44 rfl (lv_at hl 1 rfl) ?_
    refine lv_iload_n hx hb d_Co_isTaken_45 rfl (lv_at hl 2 rfl) ?_
    refine lv_icmp_ne (tgt := 53) hx hb d_Co_isTaken_46 (by decide) (fun h46 => ?_) (fun h46 => ?_)
    · refine lv_iconst (v := 0) hx hb d_Co_isTaken_53 (by decide) ?_
      rw [f_Co_isTaken_e0 f a b h1_0 h46]
      exact W.zret hx hb hr rfl (fun t ht hW => ⟨⟨_, (), rfl, rfl, by show va_P D classes _ t.heap; rw [ht]; exact hP⟩, hS.F ht⟩) hS.2.2 d_Co_isTaken_54 hlocks
    · refine lv_iconst (v := 1) hx hb d_Co_isTaken_49 (by decide) ?_
      refine lv_goto (tgt := 54) hx hb d_Co_isTaken_50 (by decide) ?_
      rw [f_Co_isTaken_e1 f a b h1_0 h46]
      exact W.zret hx hb hr rfl (fun t ht hW => ⟨⟨_, (), rfl, rfl, by show va_P D classes _ t.heap; rw [ht]; exact hP⟩, hS.F ht⟩) hS.2.2 d_Co_isTaken_54 hlocks
  · by_cases h1_1 : f = (1 : Int32)
    · refine lv_tableIn (tgt := 55) hx hb d_Co_isTaken_1 (by rw [h1_1]; decide) (by rw [h1_1]; decide) (by rw [h1_1]; rfl) (by decide) ?_
      refine lv_iload_n hx hb d_Co_isTaken_55 rfl (lv_at hl 1 rfl) ?_
      refine lv_iload_n hx hb d_Co_isTaken_56 rfl (lv_at hl 2 rfl) ?_
      refine lv_icmp_eq (tgt := 64) hx hb d_Co_isTaken_57 (by decide) (fun h57 => ?_) (fun h57 => ?_)
      · refine lv_iconst (v := 0) hx hb d_Co_isTaken_64 (by decide) ?_
        rw [f_Co_isTaken_e2 f a b h1_0 h1_1 h57]
        exact W.zret hx hb hr rfl (fun t ht hW => ⟨⟨_, (), rfl, rfl, by show va_P D classes _ t.heap; rw [ht]; exact hP⟩, hS.F ht⟩) hS.2.2 d_Co_isTaken_65 hlocks
      · refine lv_iconst (v := 1) hx hb d_Co_isTaken_60 (by decide) ?_
        refine lv_goto (tgt := 65) hx hb d_Co_isTaken_61 (by decide) ?_
        rw [f_Co_isTaken_e3 f a b h1_0 h1_1 h57]
        exact W.zret hx hb hr rfl (fun t ht hW => ⟨⟨_, (), rfl, rfl, by show va_P D classes _ t.heap; rw [ht]; exact hP⟩, hS.F ht⟩) hS.2.2 d_Co_isTaken_65 hlocks
    · by_cases h1_2 : f = (2 : Int32)
      · refine lv_tableIn (tgt := 102) hx hb d_Co_isTaken_1 (by rw [h1_2]; decide) (by rw [h1_2]; decide) (by rw [h1_2]; rfl) (by decide) ?_
        refine lv_iload_n hx hb d_Co_isTaken_102 rfl (lv_at hl 1 rfl) ?_
        refine lv_iload_n hx hb d_Co_isTaken_103 rfl (lv_at hl 2 rfl) ?_
        refine cj_i (wc := []) (w1 := []) hP hD hS hA [] rfl rfl (va_runS (rest := []) ⟨hx, hb, hml, hown, hg⟩ (c_In_compareUnsigned l D cI cL  _ a b) ⟨callB_of 2 hg (gw_good m_408) rfl rfl rfl (hg _ m_75) (hg _ m_406) hd_In_compareUnsigned ⟨Nat.le_of_ble_eq_true rfl, Nat.le_of_ble_eq_true rfl⟩, hg _ m_407⟩ (pw_S hK hN hT hA hP hD hS [] rfl (by decide)) rfl rfl hl.1 rfl (lv_room (Nat.le_of_ble_eq_true rfl)) d_Co_isTaken_104 ⟨Nat.le_of_ble_eq_true rfl, Nat.le_of_ble_eq_true rfl⟩) (fun H locs hP hD hS => ?_)
        have hP : va_P D classes [] H := hP
        have hD : va_D A [] := hD
        refine lv_if_lt (tgt := 114) hx hb d_Co_isTaken_107 (by decide) (fun h107 => ?_) (fun h107 => ?_)
        · refine lv_iconst (v := 0) hx hb d_Co_isTaken_114 (by decide) ?_
          rw [f_Co_isTaken_e4 f a b h1_0 h1_1 h1_2 h107]
          exact W.zret hx hb hr rfl (fun t ht hW => ⟨⟨_, (), rfl, rfl, by show va_P D classes _ t.heap; rw [ht]; exact hP⟩, hS.F ht⟩) hS.2.2 d_Co_isTaken_115 hlocks
        · refine lv_iconst (v := 1) hx hb d_Co_isTaken_110 (by decide) ?_
          refine lv_goto (tgt := 115) hx hb d_Co_isTaken_111 (by decide) ?_
          rw [f_Co_isTaken_e5 f a b h1_0 h1_1 h1_2 h107]
          exact W.zret hx hb hr rfl (fun t ht hW => ⟨⟨_, (), rfl, rfl, by show va_P D classes _ t.heap; rw [ht]; exact hP⟩, hS.F ht⟩) hS.2.2 d_Co_isTaken_115 hlocks
      · by_cases h1_3 : f = (3 : Int32)
        · refine lv_tableIn (tgt := 102) hx hb d_Co_isTaken_1 (by rw [h1_3]; decide) (by rw [h1_3]; decide) (by rw [h1_3]; rfl) (by decide) ?_
          refine lv_iload_n hx hb d_Co_isTaken_102 rfl (lv_at hl 1 rfl) ?_
          refine lv_iload_n hx hb d_Co_isTaken_103 rfl (lv_at hl 2 rfl) ?_
          refine cj_i (wc := []) (w1 := []) hP hD hS hA [] rfl rfl (va_runS (rest := []) ⟨hx, hb, hml, hown, hg⟩ (c_In_compareUnsigned l D cI cL  _ a b) ⟨callB_of 2 hg (gw_good m_408) rfl rfl rfl (hg _ m_75) (hg _ m_406) hd_In_compareUnsigned ⟨Nat.le_of_ble_eq_true rfl, Nat.le_of_ble_eq_true rfl⟩, hg _ m_407⟩ (pw_S hK hN hT hA hP hD hS [] rfl (by decide)) rfl rfl hl.1 rfl (lv_room (Nat.le_of_ble_eq_true rfl)) d_Co_isTaken_104 ⟨Nat.le_of_ble_eq_true rfl, Nat.le_of_ble_eq_true rfl⟩) (fun H locs hP hD hS => ?_)
          have hP : va_P D classes [] H := hP
          have hD : va_D A [] := hD
          refine lv_if_lt (tgt := 114) hx hb d_Co_isTaken_107 (by decide) (fun h107 => ?_) (fun h107 => ?_)
          · refine lv_iconst (v := 0) hx hb d_Co_isTaken_114 (by decide) ?_
            rw [f_Co_isTaken_e6 f a b h1_0 h1_1 h1_2 h1_3 h107]
            exact W.zret hx hb hr rfl (fun t ht hW => ⟨⟨_, (), rfl, rfl, by show va_P D classes _ t.heap; rw [ht]; exact hP⟩, hS.F ht⟩) hS.2.2 d_Co_isTaken_115 hlocks
          · refine lv_iconst (v := 1) hx hb d_Co_isTaken_110 (by decide) ?_
            refine lv_goto (tgt := 115) hx hb d_Co_isTaken_111 (by decide) ?_
            rw [f_Co_isTaken_e7 f a b h1_0 h1_1 h1_2 h1_3 h107]
            exact W.zret hx hb hr rfl (fun t ht hW => ⟨⟨_, (), rfl, rfl, by show va_P D classes _ t.heap; rw [ht]; exact hP⟩, hS.F ht⟩) hS.2.2 d_Co_isTaken_115 hlocks
        · by_cases h1_4 : f = (4 : Int32)
          · refine lv_tableIn (tgt := 66) hx hb d_Co_isTaken_1 (by rw [h1_4]; decide) (by rw [h1_4]; decide) (by rw [h1_4]; rfl) (by decide) ?_
            refine lv_iload_n hx hb d_Co_isTaken_66 rfl (lv_at hl 1 rfl) ?_
            refine lv_iload_n hx hb d_Co_isTaken_67 rfl (lv_at hl 2 rfl) ?_
            refine lv_icmp_ge (tgt := 75) hx hb d_Co_isTaken_68 (by decide) (fun h68 => ?_) (fun h68 => ?_)
            · refine lv_iconst (v := 0) hx hb d_Co_isTaken_75 (by decide) ?_
              rw [f_Co_isTaken_e8 f a b h1_0 h1_1 h1_2 h1_3 h1_4 h68]
              exact W.zret hx hb hr rfl (fun t ht hW => ⟨⟨_, (), rfl, rfl, by show va_P D classes _ t.heap; rw [ht]; exact hP⟩, hS.F ht⟩) hS.2.2 d_Co_isTaken_76 hlocks
            · refine lv_iconst (v := 1) hx hb d_Co_isTaken_71 (by decide) ?_
              refine lv_goto (tgt := 76) hx hb d_Co_isTaken_72 (by decide) ?_
              rw [f_Co_isTaken_e9 f a b h1_0 h1_1 h1_2 h1_3 h1_4 h68]
              exact W.zret hx hb hr rfl (fun t ht hW => ⟨⟨_, (), rfl, rfl, by show va_P D classes _ t.heap; rw [ht]; exact hP⟩, hS.F ht⟩) hS.2.2 d_Co_isTaken_76 hlocks
          · by_cases h1_5 : f = (5 : Int32)
            · refine lv_tableIn (tgt := 77) hx hb d_Co_isTaken_1 (by rw [h1_5]; decide) (by rw [h1_5]; decide) (by rw [h1_5]; rfl) (by decide) ?_
              refine lv_iload_n hx hb d_Co_isTaken_77 rfl (lv_at hl 1 rfl) ?_
              refine lv_iload_n hx hb d_Co_isTaken_78 rfl (lv_at hl 2 rfl) ?_
              refine lv_icmp_lt (tgt := 86) hx hb d_Co_isTaken_79 (by decide) (fun h79 => ?_) (fun h79 => ?_)
              · refine lv_iconst (v := 0) hx hb d_Co_isTaken_86 (by decide) ?_
                rw [f_Co_isTaken_e10 f a b h1_0 h1_1 h1_2 h1_3 h1_4 h1_5 h79]
                exact W.zret hx hb hr rfl (fun t ht hW => ⟨⟨_, (), rfl, rfl, by show va_P D classes _ t.heap; rw [ht]; exact hP⟩, hS.F ht⟩) hS.2.2 d_Co_isTaken_87 hlocks
              · refine lv_iconst (v := 1) hx hb d_Co_isTaken_82 (by decide) ?_
                refine lv_goto (tgt := 87) hx hb d_Co_isTaken_83 (by decide) ?_
                rw [f_Co_isTaken_e11 f a b h1_0 h1_1 h1_2 h1_3 h1_4 h1_5 h79]
                exact W.zret hx hb hr rfl (fun t ht hW => ⟨⟨_, (), rfl, rfl, by show va_P D classes _ t.heap; rw [ht]; exact hP⟩, hS.F ht⟩) hS.2.2 d_Co_isTaken_87 hlocks
            · by_cases h1_6 : f = (6 : Int32)
              · refine lv_tableIn (tgt := 88) hx hb d_Co_isTaken_1 (by rw [h1_6]; decide) (by rw [h1_6]; decide) (by rw [h1_6]; rfl) (by decide) ?_
                refine lv_iload_n hx hb d_Co_isTaken_88 rfl (lv_at hl 1 rfl) ?_
                refine lv_iload_n hx hb d_Co_isTaken_89 rfl (lv_at hl 2 rfl) ?_
                refine cj_i (wc := []) (w1 := []) hP hD hS hA [] rfl rfl (va_runS (rest := []) ⟨hx, hb, hml, hown, hg⟩ (c_In_compareUnsigned l D cI cL  _ a b) ⟨callB_of 2 hg (gw_good m_408) rfl rfl rfl (hg _ m_75) (hg _ m_406) hd_In_compareUnsigned ⟨Nat.le_of_ble_eq_true rfl, Nat.le_of_ble_eq_true rfl⟩, hg _ m_407⟩ (pw_S hK hN hT hA hP hD hS [] rfl (by decide)) rfl rfl hl.1 rfl (lv_room (Nat.le_of_ble_eq_true rfl)) d_Co_isTaken_90 ⟨Nat.le_of_ble_eq_true rfl, Nat.le_of_ble_eq_true rfl⟩) (fun H locs hP hD hS => ?_)
                have hP : va_P D classes [] H := hP
                have hD : va_D A [] := hD
                refine lv_if_ge (tgt := 100) hx hb d_Co_isTaken_93 (by decide) (fun h93 => ?_) (fun h93 => ?_)
                · refine lv_iconst (v := 0) hx hb d_Co_isTaken_100 (by decide) ?_
                  rw [f_Co_isTaken_e12 f a b h1_0 h1_1 h1_2 h1_3 h1_4 h1_5 h1_6 h93]
                  exact W.zret hx hb hr rfl (fun t ht hW => ⟨⟨_, (), rfl, rfl, by show va_P D classes _ t.heap; rw [ht]; exact hP⟩, hS.F ht⟩) hS.2.2 d_Co_isTaken_101 hlocks
                · refine lv_iconst (v := 1) hx hb d_Co_isTaken_96 (by decide) ?_
                  refine lv_goto (tgt := 101) hx hb d_Co_isTaken_97 (by decide) ?_
                  rw [f_Co_isTaken_e13 f a b h1_0 h1_1 h1_2 h1_3 h1_4 h1_5 h1_6 h93]
                  exact W.zret hx hb hr rfl (fun t ht hW => ⟨⟨_, (), rfl, rfl, by show va_P D classes _ t.heap; rw [ht]; exact hP⟩, hS.F ht⟩) hS.2.2 d_Co_isTaken_101 hlocks
              · refine lv_tableOut (tgt := 102) hx hb d_Co_isTaken_1 (by have n0 := lv_neT (a := 0) h1_0 (by decide); have n1 := lv_neT (a := 1) h1_1 (by decide); have n2 := lv_neT (a := 2) h1_2 (by decide); have n3 := lv_neT (a := 3) h1_3 (by decide); have n4 := lv_neT (a := 4) h1_4 (by decide); have n5 := lv_neT (a := 5) h1_5 (by decide); have n6 := lv_neT (a := 6) h1_6 (by decide); omega) (by decide) ?_
                refine lv_iload_n hx hb d_Co_isTaken_102 rfl (lv_at hl 1 rfl) ?_
                refine lv_iload_n hx hb d_Co_isTaken_103 rfl (lv_at hl 2 rfl) ?_
                refine cj_i (wc := []) (w1 := []) hP hD hS hA [] rfl rfl (va_runS (rest := []) ⟨hx, hb, hml, hown, hg⟩ (c_In_compareUnsigned l D cI cL  _ a b) ⟨callB_of 2 hg (gw_good m_408) rfl rfl rfl (hg _ m_75) (hg _ m_406) hd_In_compareUnsigned ⟨Nat.le_of_ble_eq_true rfl, Nat.le_of_ble_eq_true rfl⟩, hg _ m_407⟩ (pw_S hK hN hT hA hP hD hS [] rfl (by decide)) rfl rfl hl.1 rfl (lv_room (Nat.le_of_ble_eq_true rfl)) d_Co_isTaken_104 ⟨Nat.le_of_ble_eq_true rfl, Nat.le_of_ble_eq_true rfl⟩) (fun H locs hP hD hS => ?_)
                have hP : va_P D classes [] H := hP
                have hD : va_D A [] := hD
                refine lv_if_lt (tgt := 114) hx hb d_Co_isTaken_107 (by decide) (fun h107 => ?_) (fun h107 => ?_)
                · refine lv_iconst (v := 0) hx hb d_Co_isTaken_114 (by decide) ?_
                  rw [f_Co_isTaken_e14 f a b h1_0 h1_1 h1_2 h1_3 h1_4 h1_5 h1_6 h107]
                  exact W.zret hx hb hr rfl (fun t ht hW => ⟨⟨_, (), rfl, rfl, by show va_P D classes _ t.heap; rw [ht]; exact hP⟩, hS.F ht⟩) hS.2.2 d_Co_isTaken_115 hlocks
                · refine lv_iconst (v := 1) hx hb d_Co_isTaken_110 (by decide) ?_
                  refine lv_goto (tgt := 115) hx hb d_Co_isTaken_111 (by decide) ?_
                  rw [f_Co_isTaken_e15 f a b h1_0 h1_1 h1_2 h1_3 h1_4 h1_5 h1_6 h107]
                  exact W.zret hx hb hr rfl (fun t ht hW => ⟨⟨_, (), rfl, rfl, by show va_P D classes _ t.heap; rw [ht]; exact hP⟩, hS.F ht⟩) hS.2.2 d_Co_isTaken_115 hlocks
abbrev q_Co_computed (D : va_G) (cI cL : ClassId) (A : Nat → Prop)  (F : Int32) : Array Value → State → Outcome → State → Prop := va_Qi (fun r (_ : Unit) => r = F) (fun _ t => va_P D classes [] t.heap) A
theorem f_Co_computed_e0 (f : Int32) (o : Int32) (a : Int32) (b : Int32)  (h1_0 : f = (0 : Int32)) (h45 : o = 0) : f_Co_computed f o a b = ((a + b)) := by
  exact ((if_pos h1_0).trans (if_pos h45))
theorem f_Co_computed_e1 (f : Int32) (o : Int32) (a : Int32) (b : Int32)  (h1_0 : f = (0 : Int32)) (h45 : ¬ o = 0) : f_Co_computed f o a b = ((a - b)) := by
  exact ((if_pos h1_0).trans (if_neg h45))
theorem f_Co_computed_e2 (f : Int32) (o : Int32) (a : Int32) (b : Int32)  (h1_0 : ¬ f = (0 : Int32)) (h1_1 : f = (1 : Int32)) : f_Co_computed f o a b = ((a <<< ((b &&& (31 : Int32)) &&& 31))) := by
  exact ((if_neg h1_0).trans (if_pos h1_1))
theorem f_Co_computed_e3 (f : Int32) (o : Int32) (a : Int32) (b : Int32)  (h1_0 : ¬ f = (0 : Int32)) (h1_1 : ¬ f = (1 : Int32)) (h1_2 : f = (2 : Int32)) (h67 : b ≤ a) : f_Co_computed f o a b = ((0 : Int32)) := by
  exact ((if_neg h1_0).trans ((if_neg h1_1).trans ((if_pos h1_2).trans (if_pos h67))))
theorem f_Co_computed_e4 (f : Int32) (o : Int32) (a : Int32) (b : Int32)  (h1_0 : ¬ f = (0 : Int32)) (h1_1 : ¬ f = (1 : Int32)) (h1_2 : f = (2 : Int32)) (h67 : ¬ b ≤ a) : f_Co_computed f o a b = ((1 : Int32)) := by
  exact ((if_neg h1_0).trans ((if_neg h1_1).trans ((if_pos h1_2).trans (if_neg h67))))
theorem f_Co_computed_e5 (f : Int32) (o : Int32) (a : Int32) (b : Int32)  (h1_0 : ¬ f = (0 : Int32)) (h1_1 : ¬ f = (1 : Int32)) (h1_2 : ¬ f = (2 : Int32)) (h1_3 : f = (3 : Int32)) (h81 : 0 ≤ (f_In_compareUnsigned a b)) : f_Co_computed f o a b = ((0 : Int32)) := by
  exact ((if_neg h1_0).trans ((if_neg h1_1).trans ((if_neg h1_2).trans ((if_pos h1_3).trans (if_pos h81)))))
theorem f_Co_computed_e6 (f : Int32) (o : Int32) (a : Int32) (b : Int32)  (h1_0 : ¬ f = (0 : Int32)) (h1_1 : ¬ f = (1 : Int32)) (h1_2 : ¬ f = (2 : Int32)) (h1_3 : f = (3 : Int32)) (h81 : ¬ 0 ≤ (f_In_compareUnsigned a b)) : f_Co_computed f o a b = ((1 : Int32)) := by
  exact ((if_neg h1_0).trans ((if_neg h1_1).trans ((if_neg h1_2).trans ((if_pos h1_3).trans (if_neg h81)))))
theorem f_Co_computed_e7 (f : Int32) (o : Int32) (a : Int32) (b : Int32)  (h1_0 : ¬ f = (0 : Int32)) (h1_1 : ¬ f = (1 : Int32)) (h1_2 : ¬ f = (2 : Int32)) (h1_3 : ¬ f = (3 : Int32)) (h1_4 : f = (4 : Int32)) : f_Co_computed f o a b = ((a ^^^ b)) := by
  exact ((if_neg h1_0).trans ((if_neg h1_1).trans ((if_neg h1_2).trans ((if_neg h1_3).trans (if_pos h1_4)))))
theorem f_Co_computed_e8 (f : Int32) (o : Int32) (a : Int32) (b : Int32)  (h1_0 : ¬ f = (0 : Int32)) (h1_1 : ¬ f = (1 : Int32)) (h1_2 : ¬ f = (2 : Int32)) (h1_3 : ¬ f = (3 : Int32)) (h1_4 : ¬ f = (4 : Int32)) (h1_5 : f = (5 : Int32)) (h95 : o = 0) : f_Co_computed f o a b = ((u_ush a (b &&& (31 : Int32)))) := by
  exact ((if_neg h1_0).trans ((if_neg h1_1).trans ((if_neg h1_2).trans ((if_neg h1_3).trans ((if_neg h1_4).trans ((if_pos h1_5).trans (if_pos h95)))))))
theorem f_Co_computed_e9 (f : Int32) (o : Int32) (a : Int32) (b : Int32)  (h1_0 : ¬ f = (0 : Int32)) (h1_1 : ¬ f = (1 : Int32)) (h1_2 : ¬ f = (2 : Int32)) (h1_3 : ¬ f = (3 : Int32)) (h1_4 : ¬ f = (4 : Int32)) (h1_5 : f = (5 : Int32)) (h95 : ¬ o = 0) : f_Co_computed f o a b = ((a >>> ((b &&& (31 : Int32)) &&& 31))) := by
  exact ((if_neg h1_0).trans ((if_neg h1_1).trans ((if_neg h1_2).trans ((if_neg h1_3).trans ((if_neg h1_4).trans ((if_pos h1_5).trans (if_neg h95)))))))
theorem f_Co_computed_e10 (f : Int32) (o : Int32) (a : Int32) (b : Int32)  (h1_0 : ¬ f = (0 : Int32)) (h1_1 : ¬ f = (1 : Int32)) (h1_2 : ¬ f = (2 : Int32)) (h1_3 : ¬ f = (3 : Int32)) (h1_4 : ¬ f = (4 : Int32)) (h1_5 : ¬ f = (5 : Int32)) (h1_6 : f = (6 : Int32)) : f_Co_computed f o a b = ((a ||| b)) := by
  exact ((if_neg h1_0).trans ((if_neg h1_1).trans ((if_neg h1_2).trans ((if_neg h1_3).trans ((if_neg h1_4).trans ((if_neg h1_5).trans (if_pos h1_6)))))))
theorem f_Co_computed_e11 (f : Int32) (o : Int32) (a : Int32) (b : Int32)  (h1_0 : ¬ f = (0 : Int32)) (h1_1 : ¬ f = (1 : Int32)) (h1_2 : ¬ f = (2 : Int32)) (h1_3 : ¬ f = (3 : Int32)) (h1_4 : ¬ f = (4 : Int32)) (h1_5 : ¬ f = (5 : Int32)) (h1_6 : ¬ f = (6 : Int32)) : f_Co_computed f o a b = ((a &&& b)) := by
  exact ((if_neg h1_0).trans ((if_neg h1_1).trans ((if_neg h1_2).trans ((if_neg h1_3).trans ((if_neg h1_4).trans ((if_neg h1_5).trans (if_neg h1_6)))))))
set_option maxHeartbeats 4000000 in
set_option maxRecDepth 100000 in
theorem c_Co_computed (l : Launch) (D : va_G) (cI cL : ClassId) (sz : Nat)  (f : Int32) (o : Int32) (a : Int32) (b : Int32)  : Met l y_Co_computed w_Co_computed ({ frames := 2, cells := 0, slots := 0, locals := 42 }) (va_Pc [.int f, .int o, .int a, .int b] (PW D cI cL [] sz)) (q_Co_computed D cI cL (va_A [] sz)  (f_Co_computed f o a b)) 0 0 (va_A [] sz) := by
  refine mk_met (Qf := fun A => q_Co_computed D cI cL A  (f_Co_computed f o a b)) (by decide) (Nat.le_of_ble_eq_true rfl) ?_
  intro p e s m below meth c A ls hx hb hr hlocks hml hown hg hK hN hT hA hP hD hS hnm hl
  refine lv_iload_n hx hb d_Co_computed_0 rfl (lv_at hl 0 rfl) ?_
  by_cases h1_0 : f = (0 : Int32)
  · refine lv_tableIn (tgt := 44) hx hb d_Co_computed_1 (by rw [h1_0]; decide) (by rw [h1_0]; decide) (by rw [h1_0]; rfl) (by decide) ?_
    refine lv_iload_n hx hb d_Co_computed_44 rfl (lv_at hl 1 rfl) ?_
    refine lv_if_eq (tgt := 54) hx hb d_Co_computed_45 (by decide) (fun h45 => ?_) (fun h45 => ?_)
    · refine lv_iload_n hx hb d_Co_computed_54 rfl (lv_at hl 2 rfl) ?_
      refine lv_iload_n hx hb d_Co_computed_55 rfl (lv_at hl 3 rfl) ?_
      refine lv_iadd hx hb d_Co_computed_56 ?_
      rw [f_Co_computed_e0 f o a b h1_0 h45]
      exact W.iret hx hb hr (fun t ht hW => ⟨⟨_, (), rfl, rfl, by show va_P D classes _ t.heap; rw [ht]; exact hP⟩, hS.F ht⟩) hS.2.2 d_Co_computed_57 hlocks
    · refine lv_iload_n hx hb d_Co_computed_48 rfl (lv_at hl 2 rfl) ?_
      refine lv_iload_n hx hb d_Co_computed_49 rfl (lv_at hl 3 rfl) ?_
      refine lv_isub hx hb d_Co_computed_50 ?_
      refine lv_goto (tgt := 57) hx hb d_Co_computed_51 (by decide) ?_
      rw [f_Co_computed_e1 f o a b h1_0 h45]
      exact W.iret hx hb hr (fun t ht hW => ⟨⟨_, (), rfl, rfl, by show va_P D classes _ t.heap; rw [ht]; exact hP⟩, hS.F ht⟩) hS.2.2 d_Co_computed_57 hlocks
  · by_cases h1_1 : f = (1 : Int32)
    · refine lv_tableIn (tgt := 58) hx hb d_Co_computed_1 (by rw [h1_1]; decide) (by rw [h1_1]; decide) (by rw [h1_1]; rfl) (by decide) ?_
      refine lv_iload_n hx hb d_Co_computed_58 rfl (lv_at hl 2 rfl) ?_
      refine lv_iload_n hx hb d_Co_computed_59 rfl (lv_at hl 3 rfl) ?_
      refine lv_bipush (v := 31) hx hb d_Co_computed_60 (by decide) ?_
      refine lv_iand hx hb d_Co_computed_62 ?_
      refine lv_ishl hx hb d_Co_computed_63 ?_
      rw [f_Co_computed_e2 f o a b h1_0 h1_1]
      exact W.iret hx hb hr (fun t ht hW => ⟨⟨_, (), rfl, rfl, by show va_P D classes _ t.heap; rw [ht]; exact hP⟩, hS.F ht⟩) hS.2.2 d_Co_computed_64 hlocks
    · by_cases h1_2 : f = (2 : Int32)
      · refine lv_tableIn (tgt := 65) hx hb d_Co_computed_1 (by rw [h1_2]; decide) (by rw [h1_2]; decide) (by rw [h1_2]; rfl) (by decide) ?_
        refine lv_iload_n hx hb d_Co_computed_65 rfl (lv_at hl 2 rfl) ?_
        refine lv_iload_n hx hb d_Co_computed_66 rfl (lv_at hl 3 rfl) ?_
        refine lv_icmp_ge (tgt := 74) hx hb d_Co_computed_67 (by decide) (fun h67 => ?_) (fun h67 => ?_)
        · refine lv_iconst (v := 0) hx hb d_Co_computed_74 (by decide) ?_
          rw [f_Co_computed_e3 f o a b h1_0 h1_1 h1_2 h67]
          exact W.iret hx hb hr (fun t ht hW => ⟨⟨_, (), rfl, rfl, by show va_P D classes _ t.heap; rw [ht]; exact hP⟩, hS.F ht⟩) hS.2.2 d_Co_computed_75 hlocks
        · refine lv_iconst (v := 1) hx hb d_Co_computed_70 (by decide) ?_
          refine lv_goto (tgt := 75) hx hb d_Co_computed_71 (by decide) ?_
          rw [f_Co_computed_e4 f o a b h1_0 h1_1 h1_2 h67]
          exact W.iret hx hb hr (fun t ht hW => ⟨⟨_, (), rfl, rfl, by show va_P D classes _ t.heap; rw [ht]; exact hP⟩, hS.F ht⟩) hS.2.2 d_Co_computed_75 hlocks
      · by_cases h1_3 : f = (3 : Int32)
        · refine lv_tableIn (tgt := 76) hx hb d_Co_computed_1 (by rw [h1_3]; decide) (by rw [h1_3]; decide) (by rw [h1_3]; rfl) (by decide) ?_
          refine lv_iload_n hx hb d_Co_computed_76 rfl (lv_at hl 2 rfl) ?_
          refine lv_iload_n hx hb d_Co_computed_77 rfl (lv_at hl 3 rfl) ?_
          refine cj_i (wc := []) (w1 := []) hP hD hS hA [] rfl rfl (va_runS (rest := []) ⟨hx, hb, hml, hown, hg⟩ (c_In_compareUnsigned l D cI cL  _ a b) ⟨callB_of 2 hg (gw_good m_408) rfl rfl rfl (hg _ m_75) (hg _ m_406) hd_In_compareUnsigned ⟨Nat.le_of_ble_eq_true rfl, Nat.le_of_ble_eq_true rfl⟩, hg _ m_407⟩ (pw_S hK hN hT hA hP hD hS [] rfl (by decide)) rfl rfl hl.1 rfl (lv_room (Nat.le_of_ble_eq_true rfl)) d_Co_computed_78 ⟨Nat.le_of_ble_eq_true rfl, Nat.le_of_ble_eq_true rfl⟩) (fun H locs hP hD hS => ?_)
          have hP : va_P D classes [] H := hP
          have hD : va_D A [] := hD
          refine lv_if_ge (tgt := 88) hx hb d_Co_computed_81 (by decide) (fun h81 => ?_) (fun h81 => ?_)
          · refine lv_iconst (v := 0) hx hb d_Co_computed_88 (by decide) ?_
            rw [f_Co_computed_e5 f o a b h1_0 h1_1 h1_2 h1_3 h81]
            exact W.iret hx hb hr (fun t ht hW => ⟨⟨_, (), rfl, rfl, by show va_P D classes _ t.heap; rw [ht]; exact hP⟩, hS.F ht⟩) hS.2.2 d_Co_computed_89 hlocks
          · refine lv_iconst (v := 1) hx hb d_Co_computed_84 (by decide) ?_
            refine lv_goto (tgt := 89) hx hb d_Co_computed_85 (by decide) ?_
            rw [f_Co_computed_e6 f o a b h1_0 h1_1 h1_2 h1_3 h81]
            exact W.iret hx hb hr (fun t ht hW => ⟨⟨_, (), rfl, rfl, by show va_P D classes _ t.heap; rw [ht]; exact hP⟩, hS.F ht⟩) hS.2.2 d_Co_computed_89 hlocks
        · by_cases h1_4 : f = (4 : Int32)
          · refine lv_tableIn (tgt := 90) hx hb d_Co_computed_1 (by rw [h1_4]; decide) (by rw [h1_4]; decide) (by rw [h1_4]; rfl) (by decide) ?_
            refine lv_iload_n hx hb d_Co_computed_90 rfl (lv_at hl 2 rfl) ?_
            refine lv_iload_n hx hb d_Co_computed_91 rfl (lv_at hl 3 rfl) ?_
            refine lv_ixor hx hb d_Co_computed_92 ?_
            rw [f_Co_computed_e7 f o a b h1_0 h1_1 h1_2 h1_3 h1_4]
            exact W.iret hx hb hr (fun t ht hW => ⟨⟨_, (), rfl, rfl, by show va_P D classes _ t.heap; rw [ht]; exact hP⟩, hS.F ht⟩) hS.2.2 d_Co_computed_93 hlocks
          · by_cases h1_5 : f = (5 : Int32)
            · refine lv_tableIn (tgt := 94) hx hb d_Co_computed_1 (by rw [h1_5]; decide) (by rw [h1_5]; decide) (by rw [h1_5]; rfl) (by decide) ?_
              refine lv_iload_n hx hb d_Co_computed_94 rfl (lv_at hl 1 rfl) ?_
              refine lv_if_eq (tgt := 107) hx hb d_Co_computed_95 (by decide) (fun h95 => ?_) (fun h95 => ?_)
              · refine lv_iload_n hx hb d_Co_computed_107 rfl (lv_at hl 2 rfl) ?_
                refine lv_iload_n hx hb d_Co_computed_108 rfl (lv_at hl 3 rfl) ?_
                refine lv_bipush (v := 31) hx hb d_Co_computed_109 (by decide) ?_
                refine lv_iand hx hb d_Co_computed_111 ?_
                refine lv_iushr (v := u_ush _ _) hx hb d_Co_computed_112 rfl ?_
                rw [f_Co_computed_e8 f o a b h1_0 h1_1 h1_2 h1_3 h1_4 h1_5 h95]
                exact W.iret hx hb hr (fun t ht hW => ⟨⟨_, (), rfl, rfl, by show va_P D classes _ t.heap; rw [ht]; exact hP⟩, hS.F ht⟩) hS.2.2 d_Co_computed_113 hlocks
              · refine lv_iload_n hx hb d_Co_computed_98 rfl (lv_at hl 2 rfl) ?_
                refine lv_iload_n hx hb d_Co_computed_99 rfl (lv_at hl 3 rfl) ?_
                refine lv_bipush (v := 31) hx hb d_Co_computed_100 (by decide) ?_
                refine lv_iand hx hb d_Co_computed_102 ?_
                refine lv_ishr hx hb d_Co_computed_103 ?_
                refine lv_goto (tgt := 113) hx hb d_Co_computed_104 (by decide) ?_
                rw [f_Co_computed_e9 f o a b h1_0 h1_1 h1_2 h1_3 h1_4 h1_5 h95]
                exact W.iret hx hb hr (fun t ht hW => ⟨⟨_, (), rfl, rfl, by show va_P D classes _ t.heap; rw [ht]; exact hP⟩, hS.F ht⟩) hS.2.2 d_Co_computed_113 hlocks
            · by_cases h1_6 : f = (6 : Int32)
              · refine lv_tableIn (tgt := 114) hx hb d_Co_computed_1 (by rw [h1_6]; decide) (by rw [h1_6]; decide) (by rw [h1_6]; rfl) (by decide) ?_
                refine lv_iload_n hx hb d_Co_computed_114 rfl (lv_at hl 2 rfl) ?_
                refine lv_iload_n hx hb d_Co_computed_115 rfl (lv_at hl 3 rfl) ?_
                refine lv_ior hx hb d_Co_computed_116 ?_
                rw [f_Co_computed_e10 f o a b h1_0 h1_1 h1_2 h1_3 h1_4 h1_5 h1_6]
                exact W.iret hx hb hr (fun t ht hW => ⟨⟨_, (), rfl, rfl, by show va_P D classes _ t.heap; rw [ht]; exact hP⟩, hS.F ht⟩) hS.2.2 d_Co_computed_117 hlocks
              · refine lv_tableOut (tgt := 118) hx hb d_Co_computed_1 (by have n0 := lv_neT (a := 0) h1_0 (by decide); have n1 := lv_neT (a := 1) h1_1 (by decide); have n2 := lv_neT (a := 2) h1_2 (by decide); have n3 := lv_neT (a := 3) h1_3 (by decide); have n4 := lv_neT (a := 4) h1_4 (by decide); have n5 := lv_neT (a := 5) h1_5 (by decide); have n6 := lv_neT (a := 6) h1_6 (by decide); omega) (by decide) ?_
                refine lv_iload_n hx hb d_Co_computed_118 rfl (lv_at hl 2 rfl) ?_
                refine lv_iload_n hx hb d_Co_computed_119 rfl (lv_at hl 3 rfl) ?_
                refine lv_iand hx hb d_Co_computed_120 ?_
                rw [f_Co_computed_e11 f o a b h1_0 h1_1 h1_2 h1_3 h1_4 h1_5 h1_6]
                exact W.iret hx hb hr (fun t ht hW => ⟨⟨_, (), rfl, rfl, by show va_P D classes _ t.heap; rw [ht]; exact hP⟩, hS.F ht⟩) hS.2.2 d_Co_computed_121 hlocks
end
section
abbrev q_Me_xorOfNumbers (D : va_G) (cI cL : ClassId) (A : Nat → Prop)  (F : Int32) : Array Value → State → Outcome → State → Prop := va_Qi (fun r (_ : Unit) => r = F) (fun _ t => va_P D classes [] t.heap) A
theorem f_Me_xorOfNumbers_e0 (x : Int64) (t1 : Int32) (t2 : Int32) (t3 : Int32) (t4 : Int32) (t5 : Int32) (t6 : Int32) (e_t1 : ((0 : Int32) ||| (((f_Lg_bitCount (x &&& (numL (0 : Int32).toNatClampNeg))) &&& (1 : Int32)) <<< ((0 : Int32) &&& 31))) = t1) (e_t2 : (t1 ||| (((f_Lg_bitCount (x &&& (numL (1 : Int32).toNatClampNeg))) &&& (1 : Int32)) <<< ((1 : Int32) &&& 31))) = t2) (e_t3 : (t2 ||| (((f_Lg_bitCount (x &&& (numL (2 : Int32).toNatClampNeg))) &&& (1 : Int32)) <<< ((2 : Int32) &&& 31))) = t3) (e_t4 : (t3 ||| (((f_Lg_bitCount (x &&& (numL (3 : Int32).toNatClampNeg))) &&& (1 : Int32)) <<< ((3 : Int32) &&& 31))) = t4) (e_t5 : (t4 ||| (((f_Lg_bitCount (x &&& (numL (4 : Int32).toNatClampNeg))) &&& (1 : Int32)) <<< ((4 : Int32) &&& 31))) = t5) (e_t6 : (t5 ||| (((f_Lg_bitCount (x &&& (numL (5 : Int32).toNatClampNeg))) &&& (1 : Int32)) <<< ((5 : Int32) &&& 31))) = t6) : f_Me_xorOfNumbers x = (t6) := by
  subst e_t6
  subst e_t5
  subst e_t4
  subst e_t3
  subst e_t2
  subst e_t1
  exact rfl
set_option maxHeartbeats 4000000 in
set_option maxRecDepth 100000 in
theorem c_Me_xorOfNumbers (l : Launch) (D : va_G) (cI cL : ClassId) (sz : Nat)  (x : Int64)  : Met l y_Me_xorOfNumbers w_Me_xorOfNumbers ({ frames := 1, cells := 0, slots := 0, locals := 21 }) (va_Pc [.long x] (PW D cI cL [] sz)) (q_Me_xorOfNumbers D cI cL (va_A [] sz)  (f_Me_xorOfNumbers x)) 0 0 (va_A [] sz) := by
  refine mk_met (Qf := fun A => q_Me_xorOfNumbers D cI cL A  (f_Me_xorOfNumbers x)) (by decide) (Nat.le_of_ble_eq_true rfl) ?_
  intro p e s m below meth c A ls hx hb hr hlocks hml hown hg hK hN hT hA hP hD hS hnm hl
  obtain ⟨tN, hT1, hT2⟩ := id hT
  refine lv_iconst (v := 0) hx hb d_Me_xorOfNumbers_0 (by decide) ?_
  refine lv_istore_n (lv' := [(2, .int _), (0, .long _)]) hx hb d_Me_xorOfNumbers_1 rfl hl (by decide) rfl (fun ls hl => ?_)
  refine lv_iconst (v := 0) hx hb d_Me_xorOfNumbers_2 (by decide) ?_
  refine lv_istore_n (lv' := [(3, .int _), (2, .int _), (0, .long _)]) hx hb d_Me_xorOfNumbers_3 rfl hl (by decide) rfl (fun ls hl => ?_)
  refine lv_iload_n hx hb d_Me_xorOfNumbers_4 rfl (lv_at hl 0 rfl) ?_
  refine va_gets hx hb hT1 hS hown (hg _ m_215) (fun _ h => h) d_Me_xorOfNumbers_5 ?_
  refine va_tlen (v := 6) hx hb hT2 hS rfl d_Me_xorOfNumbers_8 ?_
  refine lv_icmp_ge (tgt := 35) hx hb d_Me_xorOfNumbers_9 (by decide) (fun h => absurd h (by decide)) (fun _ => ?_)
  refine lv_iload_n hx hb d_Me_xorOfNumbers_12 rfl (lv_at hl 1 rfl) ?_
  refine lv_lload_n hx hb d_Me_xorOfNumbers_13 rfl (lv_at hl 2 rfl) ?_
  refine va_gets hx hb hT1 hS hown (hg _ m_215) (fun _ h => h) d_Me_xorOfNumbers_14 ?_
  refine lv_iload_n hx hb d_Me_xorOfNumbers_17 rfl (lv_at hl 0 rfl) ?_
  refine va_tl (v := .long (numL _)) hx hb hT2 hS (vp_ofb (by decide)) rfl d_Me_xorOfNumbers_18 ?_
  refine lv_land hx hb d_Me_xorOfNumbers_19 ?_
  refine cj_i (wc := []) (w1 := []) hP hD hS hA [] rfl rfl (va_runS (rest := [.int _]) ⟨hx, hb, hml, hown, hg⟩ (c_Lg_bitCount l D cI cL  _ (x &&& (numL (0 : Int32).toNatClampNeg))) ⟨callB_of 1 hg (gw_good m_219) rfl rfl rfl (hg _ m_72) (hg _ m_217) hd_Lg_bitCount ⟨Nat.le_of_ble_eq_true rfl, Nat.le_of_ble_eq_true rfl⟩, hg _ m_218⟩ (pw_S hK hN hT hA hP hD hS [] rfl (by decide)) rfl rfl hl.1 rfl (lv_room (Nat.le_of_ble_eq_true rfl)) d_Me_xorOfNumbers_20 ⟨Nat.le_of_ble_eq_true rfl, Nat.le_of_ble_eq_true rfl⟩) (fun H locs hP hD hS => ?_)
  have hP : va_P D classes [] H := hP
  have hD : va_D A [] := hD
  refine lv_iconst (v := 1) hx hb d_Me_xorOfNumbers_23 (by decide) ?_
  refine lv_iand hx hb d_Me_xorOfNumbers_24 ?_
  refine lv_iload_n hx hb d_Me_xorOfNumbers_25 rfl (lv_at hl 0 rfl) ?_
  refine lv_ishl hx hb d_Me_xorOfNumbers_26 ?_
  refine lv_ior hx hb d_Me_xorOfNumbers_27 ?_
  refine lv_topi (fun t1 e_t1 => ?_)
  have e_t1 := e_t1.symm
  refine lv_istore_n (lv' := [(2, .int _), (3, .int _), (0, .long _)]) hx hb d_Me_xorOfNumbers_28 rfl hl (by decide) rfl (fun ls hl => ?_)
  refine lv_iinc (k := 1) (v := 1) (lv' := [(3, .int _), (2, .int _), (0, .long _)]) hx hb d_Me_xorOfNumbers_29 hl rfl (by decide) (by decide) rfl (fun ls hl => ?_)
  refine lv_goto (tgt := 4) hx hb d_Me_xorOfNumbers_32 (by decide) ?_
  refine lv_iload_n hx hb d_Me_xorOfNumbers_4 rfl (lv_at hl 0 rfl) ?_
  refine va_gets hx hb hT1 hS hown (hg _ m_215) (fun _ h => h) d_Me_xorOfNumbers_5 ?_
  refine va_tlen (v := 6) hx hb hT2 hS rfl d_Me_xorOfNumbers_8 ?_
  refine lv_icmp_ge (tgt := 35) hx hb d_Me_xorOfNumbers_9 (by decide) (fun h => absurd h (by decide)) (fun _ => ?_)
  refine lv_iload_n hx hb d_Me_xorOfNumbers_12 rfl (lv_at hl 1 rfl) ?_
  refine lv_lload_n hx hb d_Me_xorOfNumbers_13 rfl (lv_at hl 2 rfl) ?_
  refine va_gets hx hb hT1 hS hown (hg _ m_215) (fun _ h => h) d_Me_xorOfNumbers_14 ?_
  refine lv_iload_n hx hb d_Me_xorOfNumbers_17 rfl (lv_at hl 0 rfl) ?_
  refine va_tl (v := .long (numL _)) hx hb hT2 hS (vp_ofb (by decide)) rfl d_Me_xorOfNumbers_18 ?_
  refine lv_land hx hb d_Me_xorOfNumbers_19 ?_
  refine cj_i (wc := []) (w1 := []) hP hD hS hA [] rfl rfl (va_runS (rest := [.int _]) ⟨hx, hb, hml, hown, hg⟩ (c_Lg_bitCount l D cI cL  _ (x &&& (numL (1 : Int32).toNatClampNeg))) ⟨callB_of 1 hg (gw_good m_219) rfl rfl rfl (hg _ m_72) (hg _ m_217) hd_Lg_bitCount ⟨Nat.le_of_ble_eq_true rfl, Nat.le_of_ble_eq_true rfl⟩, hg _ m_218⟩ (pw_S hK hN hT hA hP hD hS [] rfl (by decide)) rfl rfl hl.1 rfl (lv_room (Nat.le_of_ble_eq_true rfl)) d_Me_xorOfNumbers_20 ⟨Nat.le_of_ble_eq_true rfl, Nat.le_of_ble_eq_true rfl⟩) (fun H locs hP hD hS => ?_)
  have hP : va_P D classes [] H := hP
  have hD : va_D A [] := hD
  refine lv_iconst (v := 1) hx hb d_Me_xorOfNumbers_23 (by decide) ?_
  refine lv_iand hx hb d_Me_xorOfNumbers_24 ?_
  refine lv_iload_n hx hb d_Me_xorOfNumbers_25 rfl (lv_at hl 0 rfl) ?_
  refine lv_ishl hx hb d_Me_xorOfNumbers_26 ?_
  refine lv_ior hx hb d_Me_xorOfNumbers_27 ?_
  refine lv_topi (fun t2 e_t2 => ?_)
  have e_t2 := e_t2.symm
  refine lv_istore_n (lv' := [(2, .int _), (3, .int _), (0, .long _)]) hx hb d_Me_xorOfNumbers_28 rfl hl (by decide) rfl (fun ls hl => ?_)
  refine lv_iinc (k := 1) (v := 2) (lv' := [(3, .int _), (2, .int _), (0, .long _)]) hx hb d_Me_xorOfNumbers_29 hl rfl (by decide) (by decide) rfl (fun ls hl => ?_)
  refine lv_goto (tgt := 4) hx hb d_Me_xorOfNumbers_32 (by decide) ?_
  refine lv_iload_n hx hb d_Me_xorOfNumbers_4 rfl (lv_at hl 0 rfl) ?_
  refine va_gets hx hb hT1 hS hown (hg _ m_215) (fun _ h => h) d_Me_xorOfNumbers_5 ?_
  refine va_tlen (v := 6) hx hb hT2 hS rfl d_Me_xorOfNumbers_8 ?_
  refine lv_icmp_ge (tgt := 35) hx hb d_Me_xorOfNumbers_9 (by decide) (fun h => absurd h (by decide)) (fun _ => ?_)
  refine lv_iload_n hx hb d_Me_xorOfNumbers_12 rfl (lv_at hl 1 rfl) ?_
  refine lv_lload_n hx hb d_Me_xorOfNumbers_13 rfl (lv_at hl 2 rfl) ?_
  refine va_gets hx hb hT1 hS hown (hg _ m_215) (fun _ h => h) d_Me_xorOfNumbers_14 ?_
  refine lv_iload_n hx hb d_Me_xorOfNumbers_17 rfl (lv_at hl 0 rfl) ?_
  refine va_tl (v := .long (numL _)) hx hb hT2 hS (vp_ofb (by decide)) rfl d_Me_xorOfNumbers_18 ?_
  refine lv_land hx hb d_Me_xorOfNumbers_19 ?_
  refine cj_i (wc := []) (w1 := []) hP hD hS hA [] rfl rfl (va_runS (rest := [.int _]) ⟨hx, hb, hml, hown, hg⟩ (c_Lg_bitCount l D cI cL  _ (x &&& (numL (2 : Int32).toNatClampNeg))) ⟨callB_of 1 hg (gw_good m_219) rfl rfl rfl (hg _ m_72) (hg _ m_217) hd_Lg_bitCount ⟨Nat.le_of_ble_eq_true rfl, Nat.le_of_ble_eq_true rfl⟩, hg _ m_218⟩ (pw_S hK hN hT hA hP hD hS [] rfl (by decide)) rfl rfl hl.1 rfl (lv_room (Nat.le_of_ble_eq_true rfl)) d_Me_xorOfNumbers_20 ⟨Nat.le_of_ble_eq_true rfl, Nat.le_of_ble_eq_true rfl⟩) (fun H locs hP hD hS => ?_)
  have hP : va_P D classes [] H := hP
  have hD : va_D A [] := hD
  refine lv_iconst (v := 1) hx hb d_Me_xorOfNumbers_23 (by decide) ?_
  refine lv_iand hx hb d_Me_xorOfNumbers_24 ?_
  refine lv_iload_n hx hb d_Me_xorOfNumbers_25 rfl (lv_at hl 0 rfl) ?_
  refine lv_ishl hx hb d_Me_xorOfNumbers_26 ?_
  refine lv_ior hx hb d_Me_xorOfNumbers_27 ?_
  refine lv_topi (fun t3 e_t3 => ?_)
  have e_t3 := e_t3.symm
  refine lv_istore_n (lv' := [(2, .int _), (3, .int _), (0, .long _)]) hx hb d_Me_xorOfNumbers_28 rfl hl (by decide) rfl (fun ls hl => ?_)
  refine lv_iinc (k := 1) (v := 3) (lv' := [(3, .int _), (2, .int _), (0, .long _)]) hx hb d_Me_xorOfNumbers_29 hl rfl (by decide) (by decide) rfl (fun ls hl => ?_)
  refine lv_goto (tgt := 4) hx hb d_Me_xorOfNumbers_32 (by decide) ?_
  refine lv_iload_n hx hb d_Me_xorOfNumbers_4 rfl (lv_at hl 0 rfl) ?_
  refine va_gets hx hb hT1 hS hown (hg _ m_215) (fun _ h => h) d_Me_xorOfNumbers_5 ?_
  refine va_tlen (v := 6) hx hb hT2 hS rfl d_Me_xorOfNumbers_8 ?_
  refine lv_icmp_ge (tgt := 35) hx hb d_Me_xorOfNumbers_9 (by decide) (fun h => absurd h (by decide)) (fun _ => ?_)
  refine lv_iload_n hx hb d_Me_xorOfNumbers_12 rfl (lv_at hl 1 rfl) ?_
  refine lv_lload_n hx hb d_Me_xorOfNumbers_13 rfl (lv_at hl 2 rfl) ?_
  refine va_gets hx hb hT1 hS hown (hg _ m_215) (fun _ h => h) d_Me_xorOfNumbers_14 ?_
  refine lv_iload_n hx hb d_Me_xorOfNumbers_17 rfl (lv_at hl 0 rfl) ?_
  refine va_tl (v := .long (numL _)) hx hb hT2 hS (vp_ofb (by decide)) rfl d_Me_xorOfNumbers_18 ?_
  refine lv_land hx hb d_Me_xorOfNumbers_19 ?_
  refine cj_i (wc := []) (w1 := []) hP hD hS hA [] rfl rfl (va_runS (rest := [.int _]) ⟨hx, hb, hml, hown, hg⟩ (c_Lg_bitCount l D cI cL  _ (x &&& (numL (3 : Int32).toNatClampNeg))) ⟨callB_of 1 hg (gw_good m_219) rfl rfl rfl (hg _ m_72) (hg _ m_217) hd_Lg_bitCount ⟨Nat.le_of_ble_eq_true rfl, Nat.le_of_ble_eq_true rfl⟩, hg _ m_218⟩ (pw_S hK hN hT hA hP hD hS [] rfl (by decide)) rfl rfl hl.1 rfl (lv_room (Nat.le_of_ble_eq_true rfl)) d_Me_xorOfNumbers_20 ⟨Nat.le_of_ble_eq_true rfl, Nat.le_of_ble_eq_true rfl⟩) (fun H locs hP hD hS => ?_)
  have hP : va_P D classes [] H := hP
  have hD : va_D A [] := hD
  refine lv_iconst (v := 1) hx hb d_Me_xorOfNumbers_23 (by decide) ?_
  refine lv_iand hx hb d_Me_xorOfNumbers_24 ?_
  refine lv_iload_n hx hb d_Me_xorOfNumbers_25 rfl (lv_at hl 0 rfl) ?_
  refine lv_ishl hx hb d_Me_xorOfNumbers_26 ?_
  refine lv_ior hx hb d_Me_xorOfNumbers_27 ?_
  refine lv_topi (fun t4 e_t4 => ?_)
  have e_t4 := e_t4.symm
  refine lv_istore_n (lv' := [(2, .int _), (3, .int _), (0, .long _)]) hx hb d_Me_xorOfNumbers_28 rfl hl (by decide) rfl (fun ls hl => ?_)
  refine lv_iinc (k := 1) (v := 4) (lv' := [(3, .int _), (2, .int _), (0, .long _)]) hx hb d_Me_xorOfNumbers_29 hl rfl (by decide) (by decide) rfl (fun ls hl => ?_)
  refine lv_goto (tgt := 4) hx hb d_Me_xorOfNumbers_32 (by decide) ?_
  refine lv_iload_n hx hb d_Me_xorOfNumbers_4 rfl (lv_at hl 0 rfl) ?_
  refine va_gets hx hb hT1 hS hown (hg _ m_215) (fun _ h => h) d_Me_xorOfNumbers_5 ?_
  refine va_tlen (v := 6) hx hb hT2 hS rfl d_Me_xorOfNumbers_8 ?_
  refine lv_icmp_ge (tgt := 35) hx hb d_Me_xorOfNumbers_9 (by decide) (fun h => absurd h (by decide)) (fun _ => ?_)
  refine lv_iload_n hx hb d_Me_xorOfNumbers_12 rfl (lv_at hl 1 rfl) ?_
  refine lv_lload_n hx hb d_Me_xorOfNumbers_13 rfl (lv_at hl 2 rfl) ?_
  refine va_gets hx hb hT1 hS hown (hg _ m_215) (fun _ h => h) d_Me_xorOfNumbers_14 ?_
  refine lv_iload_n hx hb d_Me_xorOfNumbers_17 rfl (lv_at hl 0 rfl) ?_
  refine va_tl (v := .long (numL _)) hx hb hT2 hS (vp_ofb (by decide)) rfl d_Me_xorOfNumbers_18 ?_
  refine lv_land hx hb d_Me_xorOfNumbers_19 ?_
  refine cj_i (wc := []) (w1 := []) hP hD hS hA [] rfl rfl (va_runS (rest := [.int _]) ⟨hx, hb, hml, hown, hg⟩ (c_Lg_bitCount l D cI cL  _ (x &&& (numL (4 : Int32).toNatClampNeg))) ⟨callB_of 1 hg (gw_good m_219) rfl rfl rfl (hg _ m_72) (hg _ m_217) hd_Lg_bitCount ⟨Nat.le_of_ble_eq_true rfl, Nat.le_of_ble_eq_true rfl⟩, hg _ m_218⟩ (pw_S hK hN hT hA hP hD hS [] rfl (by decide)) rfl rfl hl.1 rfl (lv_room (Nat.le_of_ble_eq_true rfl)) d_Me_xorOfNumbers_20 ⟨Nat.le_of_ble_eq_true rfl, Nat.le_of_ble_eq_true rfl⟩) (fun H locs hP hD hS => ?_)
  have hP : va_P D classes [] H := hP
  have hD : va_D A [] := hD
  refine lv_iconst (v := 1) hx hb d_Me_xorOfNumbers_23 (by decide) ?_
  refine lv_iand hx hb d_Me_xorOfNumbers_24 ?_
  refine lv_iload_n hx hb d_Me_xorOfNumbers_25 rfl (lv_at hl 0 rfl) ?_
  refine lv_ishl hx hb d_Me_xorOfNumbers_26 ?_
  refine lv_ior hx hb d_Me_xorOfNumbers_27 ?_
  refine lv_topi (fun t5 e_t5 => ?_)
  have e_t5 := e_t5.symm
  refine lv_istore_n (lv' := [(2, .int _), (3, .int _), (0, .long _)]) hx hb d_Me_xorOfNumbers_28 rfl hl (by decide) rfl (fun ls hl => ?_)
  refine lv_iinc (k := 1) (v := 5) (lv' := [(3, .int _), (2, .int _), (0, .long _)]) hx hb d_Me_xorOfNumbers_29 hl rfl (by decide) (by decide) rfl (fun ls hl => ?_)
  refine lv_goto (tgt := 4) hx hb d_Me_xorOfNumbers_32 (by decide) ?_
  refine lv_iload_n hx hb d_Me_xorOfNumbers_4 rfl (lv_at hl 0 rfl) ?_
  refine va_gets hx hb hT1 hS hown (hg _ m_215) (fun _ h => h) d_Me_xorOfNumbers_5 ?_
  refine va_tlen (v := 6) hx hb hT2 hS rfl d_Me_xorOfNumbers_8 ?_
  refine lv_icmp_ge (tgt := 35) hx hb d_Me_xorOfNumbers_9 (by decide) (fun h => absurd h (by decide)) (fun _ => ?_)
  refine lv_iload_n hx hb d_Me_xorOfNumbers_12 rfl (lv_at hl 1 rfl) ?_
  refine lv_lload_n hx hb d_Me_xorOfNumbers_13 rfl (lv_at hl 2 rfl) ?_
  refine va_gets hx hb hT1 hS hown (hg _ m_215) (fun _ h => h) d_Me_xorOfNumbers_14 ?_
  refine lv_iload_n hx hb d_Me_xorOfNumbers_17 rfl (lv_at hl 0 rfl) ?_
  refine va_tl (v := .long (numL _)) hx hb hT2 hS (vp_ofb (by decide)) rfl d_Me_xorOfNumbers_18 ?_
  refine lv_land hx hb d_Me_xorOfNumbers_19 ?_
  refine cj_i (wc := []) (w1 := []) hP hD hS hA [] rfl rfl (va_runS (rest := [.int _]) ⟨hx, hb, hml, hown, hg⟩ (c_Lg_bitCount l D cI cL  _ (x &&& (numL (5 : Int32).toNatClampNeg))) ⟨callB_of 1 hg (gw_good m_219) rfl rfl rfl (hg _ m_72) (hg _ m_217) hd_Lg_bitCount ⟨Nat.le_of_ble_eq_true rfl, Nat.le_of_ble_eq_true rfl⟩, hg _ m_218⟩ (pw_S hK hN hT hA hP hD hS [] rfl (by decide)) rfl rfl hl.1 rfl (lv_room (Nat.le_of_ble_eq_true rfl)) d_Me_xorOfNumbers_20 ⟨Nat.le_of_ble_eq_true rfl, Nat.le_of_ble_eq_true rfl⟩) (fun H locs hP hD hS => ?_)
  have hP : va_P D classes [] H := hP
  have hD : va_D A [] := hD
  refine lv_iconst (v := 1) hx hb d_Me_xorOfNumbers_23 (by decide) ?_
  refine lv_iand hx hb d_Me_xorOfNumbers_24 ?_
  refine lv_iload_n hx hb d_Me_xorOfNumbers_25 rfl (lv_at hl 0 rfl) ?_
  refine lv_ishl hx hb d_Me_xorOfNumbers_26 ?_
  refine lv_ior hx hb d_Me_xorOfNumbers_27 ?_
  refine lv_topi (fun t6 e_t6 => ?_)
  have e_t6 := e_t6.symm
  refine lv_istore_n (lv' := [(2, .int _), (3, .int _), (0, .long _)]) hx hb d_Me_xorOfNumbers_28 rfl hl (by decide) rfl (fun ls hl => ?_)
  refine lv_iinc (k := 1) (v := 6) (lv' := [(3, .int _), (2, .int _), (0, .long _)]) hx hb d_Me_xorOfNumbers_29 hl rfl (by decide) (by decide) rfl (fun ls hl => ?_)
  refine lv_goto (tgt := 4) hx hb d_Me_xorOfNumbers_32 (by decide) ?_
  refine lv_iload_n hx hb d_Me_xorOfNumbers_4 rfl (lv_at hl 0 rfl) ?_
  refine va_gets hx hb hT1 hS hown (hg _ m_215) (fun _ h => h) d_Me_xorOfNumbers_5 ?_
  refine va_tlen (v := 6) hx hb hT2 hS rfl d_Me_xorOfNumbers_8 ?_
  refine lv_icmp_ge (tgt := 35) hx hb d_Me_xorOfNumbers_9 (by decide) (fun _ => ?_) (fun h => absurd (by decide) h)
  refine lv_iload_n hx hb d_Me_xorOfNumbers_35 rfl (lv_at hl 1 rfl) ?_
  rw [f_Me_xorOfNumbers_e0 x t1 t2 t3 t4 t5 t6 e_t1 e_t2 e_t3 e_t4 e_t5 e_t6]
  exact W.iret hx hb hr (fun t ht hW => ⟨⟨_, (), rfl, rfl, by show va_P D classes _ t.heap; rw [ht]; exact hP⟩, hS.F ht⟩) hS.2.2 d_Me_xorOfNumbers_36 hlocks
abbrev q_Me_spread (D : va_G) (cI cL : ClassId) (A : Nat → Prop)  (F : Int64) : Array Value → State → Outcome → State → Prop := va_Ql (fun r (_ : Unit) => r = F) (fun _ t => va_P D classes [] t.heap) A
set_option maxHeartbeats 4000000 in
set_option maxRecDepth 100000 in
theorem c_Me_spread (l : Launch) (D : va_G) (cI cL : ClassId) (sz : Nat)  (v : Int32)  : Met l y_Me_spread w_Me_spread ({ frames := 0, cells := 0, slots := 0, locals := 0 }) (va_Pc [.int v] (PW D cI cL [] sz)) (q_Me_spread D cI cL (va_A [] sz)  (f_Me_spread v)) 0 0 (va_A [] sz) := by
  refine mk_met (Qf := fun A => q_Me_spread D cI cL A  (f_Me_spread v)) (by decide) (Nat.le_of_ble_eq_true rfl) ?_
  intro p e s m below meth c A ls hx hb hr hlocks hml hown hg hK hN hT hA hP hD hS hnm hl
  refine lv_iload_n hx hb d_Me_spread_0 rfl (lv_at hl 0 rfl) ?_
  refine lv_i2l hx hb d_Me_spread_1 rfl ?_
  refine lv_lconst (v := 1) hx hb d_Me_spread_2 (by decide) ?_
  refine lv_land hx hb d_Me_spread_3 ?_
  refine lv_iconst (v := 3) hx hb d_Me_spread_4 (by decide) ?_
  refine lv_lshl (v := u_lshl _ _) hx hb d_Me_spread_5 rfl ?_
  refine lv_iload_n hx hb d_Me_spread_6 rfl (lv_at hl 0 rfl) ?_
  refine lv_i2l hx hb d_Me_spread_7 rfl ?_
  refine lv_ldc2 hx hb hown (hg _ m_208) d_Me_spread_8 ?_
  refine lv_land hx hb d_Me_spread_11 ?_
  refine lv_iconst (v := 4) hx hb d_Me_spread_12 (by decide) ?_
  refine lv_lshl (v := u_lshl _ _) hx hb d_Me_spread_13 rfl ?_
  refine lv_lor hx hb d_Me_spread_14 ?_
  refine lv_iload_n hx hb d_Me_spread_15 rfl (lv_at hl 0 rfl) ?_
  refine lv_i2l hx hb d_Me_spread_16 rfl ?_
  refine lv_ldc2 hx hb hown (hg _ m_209) d_Me_spread_17 ?_
  refine lv_land hx hb d_Me_spread_20 ?_
  refine lv_iconst (v := 5) hx hb d_Me_spread_21 (by decide) ?_
  refine lv_lshl (v := u_lshl _ _) hx hb d_Me_spread_22 rfl ?_
  refine lv_lor hx hb d_Me_spread_23 ?_
  refine lv_iload_n hx hb d_Me_spread_24 rfl (lv_at hl 0 rfl) ?_
  refine lv_i2l hx hb d_Me_spread_25 rfl ?_
  refine lv_ldc2 hx hb hown (hg _ m_210) d_Me_spread_26 ?_
  refine lv_land hx hb d_Me_spread_29 ?_
  refine lv_bipush (v := 6) hx hb d_Me_spread_30 (by decide) ?_
  refine lv_lshl (v := u_lshl _ _) hx hb d_Me_spread_32 rfl ?_
  refine lv_lor hx hb d_Me_spread_33 ?_
  refine lv_iload_n hx hb d_Me_spread_34 rfl (lv_at hl 0 rfl) ?_
  refine lv_i2l hx hb d_Me_spread_35 rfl ?_
  refine lv_ldc2 hx hb hown (hg _ m_211) d_Me_spread_36 ?_
  refine lv_land hx hb d_Me_spread_39 ?_
  refine lv_bipush (v := 7) hx hb d_Me_spread_40 (by decide) ?_
  refine lv_lshl (v := u_lshl _ _) hx hb d_Me_spread_42 rfl ?_
  refine lv_lor hx hb d_Me_spread_43 ?_
  exact W.lret hx hb hr (fun t ht hW => ⟨⟨_, (), rfl, rfl, by show va_P D classes _ t.heap; rw [ht]; exact hP⟩, hS.F ht⟩) hS.2.2 d_Me_spread_44 hlocks
abbrev q_Me_gathered (D : va_G) (cI cL : ClassId) (A : Nat → Prop)  (F : Int64) : Array Value → State → Outcome → State → Prop := va_Ql (fun r (_ : Unit) => r = F) (fun _ t => va_P D classes [] t.heap) A
set_option maxHeartbeats 4000000 in
set_option maxRecDepth 100000 in
theorem c_Me_gathered (l : Launch) (D : va_G) (cI cL : ClassId) (sz : Nat)  (x : Int64)  : Met l y_Me_gathered w_Me_gathered ({ frames := 0, cells := 0, slots := 0, locals := 0 }) (va_Pc [.long x] (PW D cI cL [] sz)) (q_Me_gathered D cI cL (va_A [] sz)  (f_Me_gathered x)) 0 0 (va_A [] sz) := by
  refine mk_met (Qf := fun A => q_Me_gathered D cI cL A  (f_Me_gathered x)) (by decide) (Nat.le_of_ble_eq_true rfl) ?_
  intro p e s m below meth c A ls hx hb hr hlocks hml hown hg hK hN hT hA hP hD hS hnm hl
  refine lv_lload_n hx hb d_Me_gathered_0 rfl (lv_at hl 0 rfl) ?_
  refine lv_iconst (v := 3) hx hb d_Me_gathered_1 (by decide) ?_
  refine lv_lushr (v := u_lush _ _) hx hb d_Me_gathered_2 rfl ?_
  refine lv_lconst (v := 1) hx hb d_Me_gathered_3 (by decide) ?_
  refine lv_land hx hb d_Me_gathered_4 ?_
  refine lv_lload_n hx hb d_Me_gathered_5 rfl (lv_at hl 0 rfl) ?_
  refine lv_iconst (v := 4) hx hb d_Me_gathered_6 (by decide) ?_
  refine lv_lushr (v := u_lush _ _) hx hb d_Me_gathered_7 rfl ?_
  refine lv_ldc2 hx hb hown (hg _ m_208) d_Me_gathered_8 ?_
  refine lv_land hx hb d_Me_gathered_11 ?_
  refine lv_lor hx hb d_Me_gathered_12 ?_
  refine lv_lload_n hx hb d_Me_gathered_13 rfl (lv_at hl 0 rfl) ?_
  refine lv_iconst (v := 5) hx hb d_Me_gathered_14 (by decide) ?_
  refine lv_lushr (v := u_lush _ _) hx hb d_Me_gathered_15 rfl ?_
  refine lv_ldc2 hx hb hown (hg _ m_209) d_Me_gathered_16 ?_
  refine lv_land hx hb d_Me_gathered_19 ?_
  refine lv_lor hx hb d_Me_gathered_20 ?_
  refine lv_lload_n hx hb d_Me_gathered_21 rfl (lv_at hl 0 rfl) ?_
  refine lv_bipush (v := 6) hx hb d_Me_gathered_22 (by decide) ?_
  refine lv_lushr (v := u_lush _ _) hx hb d_Me_gathered_24 rfl ?_
  refine lv_ldc2 hx hb hown (hg _ m_210) d_Me_gathered_25 ?_
  refine lv_land hx hb d_Me_gathered_28 ?_
  refine lv_lor hx hb d_Me_gathered_29 ?_
  refine lv_lload_n hx hb d_Me_gathered_30 rfl (lv_at hl 0 rfl) ?_
  refine lv_bipush (v := 7) hx hb d_Me_gathered_31 (by decide) ?_
  refine lv_lushr (v := u_lush _ _) hx hb d_Me_gathered_33 rfl ?_
  refine lv_ldc2 hx hb hown (hg _ m_211) d_Me_gathered_34 ?_
  refine lv_land hx hb d_Me_gathered_37 ?_
  refine lv_lor hx hb d_Me_gathered_38 ?_
  exact W.lret hx hb hr (fun t ht hW => ⟨⟨_, (), rfl, rfl, by show va_P D classes _ t.heap; rw [ht]; exact hP⟩, hS.F ht⟩) hS.2.2 d_Me_gathered_39 hlocks
abbrev q_Me_putRight (D : va_G) (cI cL : ClassId) (A : Nat → Prop)  (F : Int64) : Array Value → State → Outcome → State → Prop := va_Ql (fun r (_ : Unit) => r = F) (fun _ t => va_P D classes [] t.heap) A
theorem f_Me_putRight_e0 (x : Int64)  (h12 : ¬ ((f_Lg_bitCount x) &&& (1 : Int32)) = (1 : Int32)) (h26 : ¬ (f_Me_xorOfNumbers x) = 0) : f_Me_putRight x = ((-2 : Int64)) := by
  exact ((if_neg h12).trans (if_neg h26))
theorem f_Me_putRight_e1 (x : Int64)  (h12 : ¬ ((f_Lg_bitCount x) &&& (1 : Int32)) = (1 : Int32)) (h26 : (f_Me_xorOfNumbers x) = 0) : f_Me_putRight x = (x) := by
  exact ((if_neg h12).trans (if_pos h26))
theorem f_Me_putRight_e2 (x : Int64)  (h12 : ((f_Lg_bitCount x) &&& (1 : Int32)) = (1 : Int32)) (h40 : (39 : Int32) ≤ (f_Me_xorOfNumbers x)) : f_Me_putRight x = ((-2 : Int64)) := by
  exact ((if_pos h12).trans (if_pos h40))
theorem f_Me_putRight_e3 (x : Int64)  (h12 : ((f_Lg_bitCount x) &&& (1 : Int32)) = (1 : Int32)) (h40 : ¬ (39 : Int32) ≤ (f_Me_xorOfNumbers x)) : f_Me_putRight x = ((x ^^^ (u_lshl (1 : Int64) (f_Me_xorOfNumbers x)))) := by
  exact ((if_pos h12).trans (if_neg h40))
set_option maxHeartbeats 4000000 in
set_option maxRecDepth 100000 in
theorem c_Me_putRight (l : Launch) (D : va_G) (cI cL : ClassId) (sz : Nat)  (x : Int64)  : Met l y_Me_putRight w_Me_putRight ({ frames := 2, cells := 0, slots := 0, locals := 44 }) (va_Pc [.long x] (PW D cI cL [] sz)) (q_Me_putRight D cI cL (va_A [] sz)  (f_Me_putRight x)) 0 0 (va_A [] sz) := by
  refine mk_met (Qf := fun A => q_Me_putRight D cI cL A  (f_Me_putRight x)) (by decide) (Nat.le_of_ble_eq_true rfl) ?_
  intro p e s m below meth c A ls hx hb hr hlocks hml hown hg hK hN hT hA hP hD hS hnm hl
  refine lv_lload_n hx hb d_Me_putRight_0 rfl (lv_at hl 0 rfl) ?_
  refine cj_i (wc := []) (w1 := []) hP hD hS hA [] rfl rfl (va_runS (rest := []) ⟨hx, hb, hml, hown, hg⟩ (c_Me_xorOfNumbers l D cI cL  _ x) ⟨callB_of 1 hg (gw_good m_214) rfl rfl rfl (hg _ m_66) (hg _ m_212) hd_Me_xorOfNumbers ⟨Nat.le_of_ble_eq_true rfl, Nat.le_of_ble_eq_true rfl⟩, hg _ m_213⟩ (pw_S hK hN hT hA hP hD hS [] rfl (by decide)) rfl rfl hl.1 rfl (lv_room (Nat.le_of_ble_eq_true rfl)) d_Me_putRight_1 ⟨Nat.le_of_ble_eq_true rfl, Nat.le_of_ble_eq_true rfl⟩) (fun H locs hP hD hS => ?_)
  have hP : va_P D classes [] H := hP
  have hD : va_D A [] := hD
  refine lv_istore_n (lv' := [(2, .int _), (0, .long _)]) hx hb d_Me_putRight_4 rfl hl (by decide) rfl (fun ls hl => ?_)
  refine lv_lload_n hx hb d_Me_putRight_5 rfl (lv_at hl 1 rfl) ?_
  refine cj_i (wc := []) (w1 := []) hP hD hS hA [] rfl rfl (va_runS (rest := []) ⟨hx, hb, hml, hown, hg⟩ (c_Lg_bitCount l D cI cL  _ x) ⟨callB_of 1 hg (gw_good m_219) rfl rfl rfl (hg _ m_72) (hg _ m_217) hd_Lg_bitCount ⟨Nat.le_of_ble_eq_true rfl, Nat.le_of_ble_eq_true rfl⟩, hg _ m_218⟩ (pw_S hK hN hT hA hP hD hS [] rfl (by decide)) rfl rfl hl.1 rfl (lv_room (Nat.le_of_ble_eq_true rfl)) d_Me_putRight_6 ⟨Nat.le_of_ble_eq_true rfl, Nat.le_of_ble_eq_true rfl⟩) (fun H locs hP hD hS => ?_)
  have hP : va_P D classes [] H := hP
  have hD : va_D A [] := hD
  refine lv_iconst (v := 1) hx hb d_Me_putRight_9 (by decide) ?_
  refine lv_iand hx hb d_Me_putRight_10 ?_
  refine lv_iconst (v := 1) hx hb d_Me_putRight_11 (by decide) ?_
  refine lv_icmp_ne (tgt := 19) hx hb d_Me_putRight_12 (by decide) (fun h12 => ?_) (fun h12 => ?_)
  · refine lv_iconst (v := 0) hx hb d_Me_putRight_19 (by decide) ?_
    refine lv_istore_n (lv' := [(3, .int _), (2, .int _), (0, .long _)]) hx hb d_Me_putRight_20 rfl hl (by decide) rfl (fun ls hl => ?_)
    refine lv_iload_n hx hb d_Me_putRight_21 rfl (lv_at hl 0 rfl) ?_
    refine lv_if_ne (tgt := 37) hx hb d_Me_putRight_22 (by decide) (fun h => absurd (by decide) h) (fun _ => ?_)
    refine lv_iload_n hx hb d_Me_putRight_25 rfl (lv_at hl 1 rfl) ?_
    refine lv_if_ne (tgt := 33) hx hb d_Me_putRight_26 (by decide) (fun h26 => ?_) (fun h26 => ?_)
    · refine lv_ldc2 hx hb hown (hg _ m_260) d_Me_putRight_33 ?_
      rw [f_Me_putRight_e0 x h12 h26]
      exact W.lret hx hb hr (fun t ht hW => ⟨⟨_, (), rfl, rfl, by show va_P D classes _ t.heap; rw [ht]; exact hP⟩, hS.F ht⟩) hS.2.2 d_Me_putRight_36 hlocks
    · refine lv_lload_n hx hb d_Me_putRight_29 rfl (lv_at hl 2 rfl) ?_
      refine lv_goto (tgt := 36) hx hb d_Me_putRight_30 (by decide) ?_
      rw [f_Me_putRight_e1 x h12 h26]
      exact W.lret hx hb hr (fun t ht hW => ⟨⟨_, (), rfl, rfl, by show va_P D classes _ t.heap; rw [ht]; exact hP⟩, hS.F ht⟩) hS.2.2 d_Me_putRight_36 hlocks
  · refine lv_iconst (v := 1) hx hb d_Me_putRight_15 (by decide) ?_
    refine lv_goto (tgt := 20) hx hb d_Me_putRight_16 (by decide) ?_
    refine lv_istore_n (lv' := [(3, .int _), (2, .int _), (0, .long _)]) hx hb d_Me_putRight_20 rfl hl (by decide) rfl (fun ls hl => ?_)
    refine lv_iload_n hx hb d_Me_putRight_21 rfl (lv_at hl 0 rfl) ?_
    refine lv_if_ne (tgt := 37) hx hb d_Me_putRight_22 (by decide) (fun _ => ?_) (fun h => absurd h (by decide))
    refine lv_iload_n hx hb d_Me_putRight_37 rfl (lv_at hl 1 rfl) ?_
    refine lv_bipush (v := 39) hx hb d_Me_putRight_38 (by decide) ?_
    refine lv_icmp_ge (tgt := 51) hx hb d_Me_putRight_40 (by decide) (fun h40 => ?_) (fun h40 => ?_)
    · refine lv_ldc2 hx hb hown (hg _ m_260) d_Me_putRight_51 ?_
      rw [f_Me_putRight_e2 x h12 h40]
      exact W.lret hx hb hr (fun t ht hW => ⟨⟨_, (), rfl, rfl, by show va_P D classes _ t.heap; rw [ht]; exact hP⟩, hS.F ht⟩) hS.2.2 d_Me_putRight_54 hlocks
    · refine lv_lload_n hx hb d_Me_putRight_43 rfl (lv_at hl 2 rfl) ?_
      refine lv_lconst (v := 1) hx hb d_Me_putRight_44 (by decide) ?_
      refine lv_iload_n hx hb d_Me_putRight_45 rfl (lv_at hl 1 rfl) ?_
      refine lv_lshl (v := u_lshl _ _) hx hb d_Me_putRight_46 rfl ?_
      refine lv_lxor hx hb d_Me_putRight_47 ?_
      refine lv_goto (tgt := 54) hx hb d_Me_putRight_48 (by decide) ?_
      rw [f_Me_putRight_e3 x h12 h40]
      exact W.lret hx hb hr (fun t ht hW => ⟨⟨_, (), rfl, rfl, by show va_P D classes _ t.heap; rw [ht]; exact hP⟩, hS.F ht⟩) hS.2.2 d_Me_putRight_54 hlocks
abbrev q_Me_keep (D : va_G) (cI cL : ClassId) (g0 g1 : Nat) (A : Nat → Prop) (K : Nat → Int64) (co : Int32) (F : (Nat → Int64)) : Array Value → State → Outcome → State → Prop := va_Qv (fun (_ : Unit) => True) (fun _ t => va_P D classes (W_Me cI cL g0 g1 F co) t.heap) A
theorem f_Me_keep_e0 (K : Nat → Int64) (w : Int32) (v : Int32) (t1 : Int64) (t2 : Int64) (t3 : Int64) (t4 : Int64) (t5 : Int64) (t6 : Int64) (e_t1 : ((f_Me_spread v) ||| (u_lshl (((u_ush (f_Me_xorOfNumbers (f_Me_spread v)) (0 : Int32)).toInt64) &&& (1 : Int64)) ((1 : Int32) <<< ((0 : Int32) &&& 31)))) = t1) (e_t2 : (t1 ||| (u_lshl (((u_ush (f_Me_xorOfNumbers (f_Me_spread v)) (1 : Int32)).toInt64) &&& (1 : Int64)) ((1 : Int32) <<< ((1 : Int32) &&& 31)))) = t2) (e_t3 : (t2 ||| (u_lshl (((u_ush (f_Me_xorOfNumbers (f_Me_spread v)) (2 : Int32)).toInt64) &&& (1 : Int64)) ((1 : Int32) <<< ((2 : Int32) &&& 31)))) = t3) (e_t4 : (t3 ||| (u_lshl (((u_ush (f_Me_xorOfNumbers (f_Me_spread v)) (3 : Int32)).toInt64) &&& (1 : Int64)) ((1 : Int32) <<< ((3 : Int32) &&& 31)))) = t4) (e_t5 : (t4 ||| (u_lshl (((u_ush (f_Me_xorOfNumbers (f_Me_spread v)) (4 : Int32)).toInt64) &&& (1 : Int64)) ((1 : Int32) <<< ((4 : Int32) &&& 31)))) = t5) (e_t6 : (t5 ||| (u_lshl (((u_ush (f_Me_xorOfNumbers (f_Me_spread v)) (5 : Int32)).toInt64) &&& (1 : Int64)) ((1 : Int32) <<< ((5 : Int32) &&& 31)))) = t6) : f_Me_keep K w v = ((vp_updL K w.toNatClampNeg (t6 ||| (((f_Lg_bitCount t6) &&& (1 : Int32)).toInt64)))) := by
  subst e_t6
  subst e_t5
  subst e_t4
  subst e_t3
  subst e_t2
  subst e_t1
  exact rfl
set_option maxHeartbeats 4000000 in
set_option maxRecDepth 100000 in
theorem c_Me_keep (l : Launch) (D : va_G) (cI cL : ClassId) (g0 g1 : Nat) (sz : Nat) (K : Nat → Int64) (co : Int32) (w : Int32) (v : Int32) (h_w : vp_in w 64) : Met l y_Me_keep w_Me_keep ({ frames := 2, cells := 0, slots := 0, locals := 44 }) (va_Pc [.ref g0, .int w, .int v] (PW D cI cL (W_Me cI cL g0 g1 K co) sz)) (q_Me_keep D cI cL g0 g1 (va_A (W_Me cI cL g0 g1 K co) sz) K co (f_Me_keep K w v)) 0 0 (va_A (W_Me cI cL g0 g1 K co) sz) := by
  refine mk_met (Qf := fun A => q_Me_keep D cI cL g0 g1 A K co (f_Me_keep K w v)) (by decide) (Nat.le_of_ble_eq_true rfl) ?_
  intro p e s m below meth c A ls hx hb hr hlocks hml hown hg hK hN hT hA hP hD hS hnm hl
  obtain ⟨tN, hT1, hT2⟩ := id hT
  refine lv_iload_n hx hb d_Me_keep_0 rfl (lv_at hl 2 rfl) ?_
  refine cj_l (wc := []) (w1 := []) hP hD hS hA [] rfl rfl (va_runS (rest := []) ⟨hx, hb, hml, hown, hg⟩ (c_Me_spread l D cI cL  _ v) ⟨callB_of 1 hg (gw_good m_207) rfl rfl rfl (hg _ m_66) (hg _ m_205) hd_Me_spread ⟨Nat.le_of_ble_eq_true rfl, Nat.le_of_ble_eq_true rfl⟩, hg _ m_206⟩ (pw_S hK hN hT hA hP hD hS [] rfl (by decide)) rfl rfl hl.1 rfl (lv_room (Nat.le_of_ble_eq_true rfl)) d_Me_keep_1 ⟨Nat.le_of_ble_eq_true rfl, Nat.le_of_ble_eq_true rfl⟩) (fun H locs hP hD hS => ?_)
  have hP : va_P D classes (W_Me cI cL g0 g1 K co) H := hP
  have hD : va_D A (W_Me cI cL g0 g1 K co) := hD
  refine lv_lstore_n (lv' := [(3, .long _), (0, .ref _), (1, .int _), (2, .int _)]) hx hb d_Me_keep_4 rfl hl (by decide) rfl (fun ls hl => ?_)
  refine lv_lload_n hx hb d_Me_keep_5 rfl (lv_at hl 0 rfl) ?_
  refine cj_i (wc := []) (w1 := []) hP hD hS hA [] rfl rfl (va_runS (rest := []) ⟨hx, hb, hml, hown, hg⟩ (c_Me_xorOfNumbers l D cI cL  _ (f_Me_spread v)) ⟨callB_of 1 hg (gw_good m_214) rfl rfl rfl (hg _ m_66) (hg _ m_212) hd_Me_xorOfNumbers ⟨Nat.le_of_ble_eq_true rfl, Nat.le_of_ble_eq_true rfl⟩, hg _ m_213⟩ (pw_S hK hN hT hA hP hD hS [] rfl (by decide)) rfl rfl hl.1 rfl (lv_room (Nat.le_of_ble_eq_true rfl)) d_Me_keep_6 ⟨Nat.le_of_ble_eq_true rfl, Nat.le_of_ble_eq_true rfl⟩) (fun H locs hP hD hS => ?_)
  have hP : va_P D classes (W_Me cI cL g0 g1 K co) H := hP
  have hD : va_D A (W_Me cI cL g0 g1 K co) := hD
  refine lv_istore (lv' := [(5, .int _), (3, .long _), (0, .ref _), (1, .int _), (2, .int _)]) hx hb d_Me_keep_9 hl (by decide) rfl (fun ls hl => ?_)
  refine lv_iconst (v := 0) hx hb d_Me_keep_11 (by decide) ?_
  refine lv_istore (lv' := [(6, .int _), (5, .int _), (3, .long _), (0, .ref _), (1, .int _), (2, .int _)]) hx hb d_Me_keep_12 hl (by decide) rfl (fun ls hl => ?_)
  refine lv_iload hx hb d_Me_keep_14 (lv_at hl 0 rfl) ?_
  refine va_gets hx hb hT1 hS hown (hg _ m_215) (fun _ h => h) d_Me_keep_16 ?_
  refine va_tlen (v := 6) hx hb hT2 hS rfl d_Me_keep_19 ?_
  refine lv_icmp_ge (tgt := 45) hx hb d_Me_keep_20 (by decide) (fun h => absurd h (by decide)) (fun _ => ?_)
  refine lv_lload_n hx hb d_Me_keep_23 rfl (lv_at hl 2 rfl) ?_
  refine lv_iload hx hb d_Me_keep_24 (lv_at hl 1 rfl) ?_
  refine lv_iload hx hb d_Me_keep_26 (lv_at hl 0 rfl) ?_
  refine lv_iushr (v := u_ush _ _) hx hb d_Me_keep_28 rfl ?_
  refine lv_i2l hx hb d_Me_keep_29 rfl ?_
  refine lv_lconst (v := 1) hx hb d_Me_keep_30 (by decide) ?_
  refine lv_land hx hb d_Me_keep_31 ?_
  refine lv_iconst (v := 1) hx hb d_Me_keep_32 (by decide) ?_
  refine lv_iload hx hb d_Me_keep_33 (lv_at hl 0 rfl) ?_
  refine lv_ishl hx hb d_Me_keep_35 ?_
  refine lv_lshl (v := u_lshl _ _) hx hb d_Me_keep_36 rfl ?_
  refine lv_lor hx hb d_Me_keep_37 ?_
  refine lv_topl (fun t1 e_t1 => ?_)
  have e_t1 := e_t1.symm
  refine lv_lstore_n (lv' := [(3, .long _), (6, .int _), (5, .int _), (0, .ref _), (1, .int _), (2, .int _)]) hx hb d_Me_keep_38 rfl hl (by decide) rfl (fun ls hl => ?_)
  refine lv_iinc (k := 1) (v := 1) (lv' := [(6, .int _), (3, .long _), (5, .int _), (0, .ref _), (1, .int _), (2, .int _)]) hx hb d_Me_keep_39 hl rfl (by decide) (by decide) rfl (fun ls hl => ?_)
  refine lv_goto (tgt := 14) hx hb d_Me_keep_42 (by decide) ?_
  refine lv_iload hx hb d_Me_keep_14 (lv_at hl 0 rfl) ?_
  refine va_gets hx hb hT1 hS hown (hg _ m_215) (fun _ h => h) d_Me_keep_16 ?_
  refine va_tlen (v := 6) hx hb hT2 hS rfl d_Me_keep_19 ?_
  refine lv_icmp_ge (tgt := 45) hx hb d_Me_keep_20 (by decide) (fun h => absurd h (by decide)) (fun _ => ?_)
  refine lv_lload_n hx hb d_Me_keep_23 rfl (lv_at hl 1 rfl) ?_
  refine lv_iload hx hb d_Me_keep_24 (lv_at hl 2 rfl) ?_
  refine lv_iload hx hb d_Me_keep_26 (lv_at hl 0 rfl) ?_
  refine lv_iushr (v := u_ush _ _) hx hb d_Me_keep_28 rfl ?_
  refine lv_i2l hx hb d_Me_keep_29 rfl ?_
  refine lv_lconst (v := 1) hx hb d_Me_keep_30 (by decide) ?_
  refine lv_land hx hb d_Me_keep_31 ?_
  refine lv_iconst (v := 1) hx hb d_Me_keep_32 (by decide) ?_
  refine lv_iload hx hb d_Me_keep_33 (lv_at hl 0 rfl) ?_
  refine lv_ishl hx hb d_Me_keep_35 ?_
  refine lv_lshl (v := u_lshl _ _) hx hb d_Me_keep_36 rfl ?_
  refine lv_lor hx hb d_Me_keep_37 ?_
  refine lv_topl (fun t2 e_t2 => ?_)
  have e_t2 := e_t2.symm
  refine lv_lstore_n (lv' := [(3, .long _), (6, .int _), (5, .int _), (0, .ref _), (1, .int _), (2, .int _)]) hx hb d_Me_keep_38 rfl hl (by decide) rfl (fun ls hl => ?_)
  refine lv_iinc (k := 1) (v := 2) (lv' := [(6, .int _), (3, .long _), (5, .int _), (0, .ref _), (1, .int _), (2, .int _)]) hx hb d_Me_keep_39 hl rfl (by decide) (by decide) rfl (fun ls hl => ?_)
  refine lv_goto (tgt := 14) hx hb d_Me_keep_42 (by decide) ?_
  refine lv_iload hx hb d_Me_keep_14 (lv_at hl 0 rfl) ?_
  refine va_gets hx hb hT1 hS hown (hg _ m_215) (fun _ h => h) d_Me_keep_16 ?_
  refine va_tlen (v := 6) hx hb hT2 hS rfl d_Me_keep_19 ?_
  refine lv_icmp_ge (tgt := 45) hx hb d_Me_keep_20 (by decide) (fun h => absurd h (by decide)) (fun _ => ?_)
  refine lv_lload_n hx hb d_Me_keep_23 rfl (lv_at hl 1 rfl) ?_
  refine lv_iload hx hb d_Me_keep_24 (lv_at hl 2 rfl) ?_
  refine lv_iload hx hb d_Me_keep_26 (lv_at hl 0 rfl) ?_
  refine lv_iushr (v := u_ush _ _) hx hb d_Me_keep_28 rfl ?_
  refine lv_i2l hx hb d_Me_keep_29 rfl ?_
  refine lv_lconst (v := 1) hx hb d_Me_keep_30 (by decide) ?_
  refine lv_land hx hb d_Me_keep_31 ?_
  refine lv_iconst (v := 1) hx hb d_Me_keep_32 (by decide) ?_
  refine lv_iload hx hb d_Me_keep_33 (lv_at hl 0 rfl) ?_
  refine lv_ishl hx hb d_Me_keep_35 ?_
  refine lv_lshl (v := u_lshl _ _) hx hb d_Me_keep_36 rfl ?_
  refine lv_lor hx hb d_Me_keep_37 ?_
  refine lv_topl (fun t3 e_t3 => ?_)
  have e_t3 := e_t3.symm
  refine lv_lstore_n (lv' := [(3, .long _), (6, .int _), (5, .int _), (0, .ref _), (1, .int _), (2, .int _)]) hx hb d_Me_keep_38 rfl hl (by decide) rfl (fun ls hl => ?_)
  refine lv_iinc (k := 1) (v := 3) (lv' := [(6, .int _), (3, .long _), (5, .int _), (0, .ref _), (1, .int _), (2, .int _)]) hx hb d_Me_keep_39 hl rfl (by decide) (by decide) rfl (fun ls hl => ?_)
  refine lv_goto (tgt := 14) hx hb d_Me_keep_42 (by decide) ?_
  refine lv_iload hx hb d_Me_keep_14 (lv_at hl 0 rfl) ?_
  refine va_gets hx hb hT1 hS hown (hg _ m_215) (fun _ h => h) d_Me_keep_16 ?_
  refine va_tlen (v := 6) hx hb hT2 hS rfl d_Me_keep_19 ?_
  refine lv_icmp_ge (tgt := 45) hx hb d_Me_keep_20 (by decide) (fun h => absurd h (by decide)) (fun _ => ?_)
  refine lv_lload_n hx hb d_Me_keep_23 rfl (lv_at hl 1 rfl) ?_
  refine lv_iload hx hb d_Me_keep_24 (lv_at hl 2 rfl) ?_
  refine lv_iload hx hb d_Me_keep_26 (lv_at hl 0 rfl) ?_
  refine lv_iushr (v := u_ush _ _) hx hb d_Me_keep_28 rfl ?_
  refine lv_i2l hx hb d_Me_keep_29 rfl ?_
  refine lv_lconst (v := 1) hx hb d_Me_keep_30 (by decide) ?_
  refine lv_land hx hb d_Me_keep_31 ?_
  refine lv_iconst (v := 1) hx hb d_Me_keep_32 (by decide) ?_
  refine lv_iload hx hb d_Me_keep_33 (lv_at hl 0 rfl) ?_
  refine lv_ishl hx hb d_Me_keep_35 ?_
  refine lv_lshl (v := u_lshl _ _) hx hb d_Me_keep_36 rfl ?_
  refine lv_lor hx hb d_Me_keep_37 ?_
  refine lv_topl (fun t4 e_t4 => ?_)
  have e_t4 := e_t4.symm
  refine lv_lstore_n (lv' := [(3, .long _), (6, .int _), (5, .int _), (0, .ref _), (1, .int _), (2, .int _)]) hx hb d_Me_keep_38 rfl hl (by decide) rfl (fun ls hl => ?_)
  refine lv_iinc (k := 1) (v := 4) (lv' := [(6, .int _), (3, .long _), (5, .int _), (0, .ref _), (1, .int _), (2, .int _)]) hx hb d_Me_keep_39 hl rfl (by decide) (by decide) rfl (fun ls hl => ?_)
  refine lv_goto (tgt := 14) hx hb d_Me_keep_42 (by decide) ?_
  refine lv_iload hx hb d_Me_keep_14 (lv_at hl 0 rfl) ?_
  refine va_gets hx hb hT1 hS hown (hg _ m_215) (fun _ h => h) d_Me_keep_16 ?_
  refine va_tlen (v := 6) hx hb hT2 hS rfl d_Me_keep_19 ?_
  refine lv_icmp_ge (tgt := 45) hx hb d_Me_keep_20 (by decide) (fun h => absurd h (by decide)) (fun _ => ?_)
  refine lv_lload_n hx hb d_Me_keep_23 rfl (lv_at hl 1 rfl) ?_
  refine lv_iload hx hb d_Me_keep_24 (lv_at hl 2 rfl) ?_
  refine lv_iload hx hb d_Me_keep_26 (lv_at hl 0 rfl) ?_
  refine lv_iushr (v := u_ush _ _) hx hb d_Me_keep_28 rfl ?_
  refine lv_i2l hx hb d_Me_keep_29 rfl ?_
  refine lv_lconst (v := 1) hx hb d_Me_keep_30 (by decide) ?_
  refine lv_land hx hb d_Me_keep_31 ?_
  refine lv_iconst (v := 1) hx hb d_Me_keep_32 (by decide) ?_
  refine lv_iload hx hb d_Me_keep_33 (lv_at hl 0 rfl) ?_
  refine lv_ishl hx hb d_Me_keep_35 ?_
  refine lv_lshl (v := u_lshl _ _) hx hb d_Me_keep_36 rfl ?_
  refine lv_lor hx hb d_Me_keep_37 ?_
  refine lv_topl (fun t5 e_t5 => ?_)
  have e_t5 := e_t5.symm
  refine lv_lstore_n (lv' := [(3, .long _), (6, .int _), (5, .int _), (0, .ref _), (1, .int _), (2, .int _)]) hx hb d_Me_keep_38 rfl hl (by decide) rfl (fun ls hl => ?_)
  refine lv_iinc (k := 1) (v := 5) (lv' := [(6, .int _), (3, .long _), (5, .int _), (0, .ref _), (1, .int _), (2, .int _)]) hx hb d_Me_keep_39 hl rfl (by decide) (by decide) rfl (fun ls hl => ?_)
  refine lv_goto (tgt := 14) hx hb d_Me_keep_42 (by decide) ?_
  refine lv_iload hx hb d_Me_keep_14 (lv_at hl 0 rfl) ?_
  refine va_gets hx hb hT1 hS hown (hg _ m_215) (fun _ h => h) d_Me_keep_16 ?_
  refine va_tlen (v := 6) hx hb hT2 hS rfl d_Me_keep_19 ?_
  refine lv_icmp_ge (tgt := 45) hx hb d_Me_keep_20 (by decide) (fun h => absurd h (by decide)) (fun _ => ?_)
  refine lv_lload_n hx hb d_Me_keep_23 rfl (lv_at hl 1 rfl) ?_
  refine lv_iload hx hb d_Me_keep_24 (lv_at hl 2 rfl) ?_
  refine lv_iload hx hb d_Me_keep_26 (lv_at hl 0 rfl) ?_
  refine lv_iushr (v := u_ush _ _) hx hb d_Me_keep_28 rfl ?_
  refine lv_i2l hx hb d_Me_keep_29 rfl ?_
  refine lv_lconst (v := 1) hx hb d_Me_keep_30 (by decide) ?_
  refine lv_land hx hb d_Me_keep_31 ?_
  refine lv_iconst (v := 1) hx hb d_Me_keep_32 (by decide) ?_
  refine lv_iload hx hb d_Me_keep_33 (lv_at hl 0 rfl) ?_
  refine lv_ishl hx hb d_Me_keep_35 ?_
  refine lv_lshl (v := u_lshl _ _) hx hb d_Me_keep_36 rfl ?_
  refine lv_lor hx hb d_Me_keep_37 ?_
  refine lv_topl (fun t6 e_t6 => ?_)
  have e_t6 := e_t6.symm
  refine lv_lstore_n (lv' := [(3, .long _), (6, .int _), (5, .int _), (0, .ref _), (1, .int _), (2, .int _)]) hx hb d_Me_keep_38 rfl hl (by decide) rfl (fun ls hl => ?_)
  refine lv_iinc (k := 1) (v := 6) (lv' := [(6, .int _), (3, .long _), (5, .int _), (0, .ref _), (1, .int _), (2, .int _)]) hx hb d_Me_keep_39 hl rfl (by decide) (by decide) rfl (fun ls hl => ?_)
  refine lv_goto (tgt := 14) hx hb d_Me_keep_42 (by decide) ?_
  refine lv_iload hx hb d_Me_keep_14 (lv_at hl 0 rfl) ?_
  refine va_gets hx hb hT1 hS hown (hg _ m_215) (fun _ h => h) d_Me_keep_16 ?_
  refine va_tlen (v := 6) hx hb hT2 hS rfl d_Me_keep_19 ?_
  refine lv_icmp_ge (tgt := 45) hx hb d_Me_keep_20 (by decide) (fun _ => ?_) (fun h => absurd (by decide) h)
  refine lv_aload_n hx hb d_Me_keep_45 rfl (lv_at hl 3 rfl) ?_
  refine va_get (ci := 1) (C := R_Me) (T := F_Me) (N := 2) hx hb hg in_Me hown hK hP 0 rfl rfl 0 (by decide) (hg _ m_90) (fun _ h => h) rfl d_Me_keep_46 ?_
  refine lv_iload_n hx hb d_Me_keep_49 rfl (lv_at hl 4 rfl) ?_
  refine lv_lload_n hx hb d_Me_keep_50 rfl (lv_at hl 1 rfl) ?_
  refine lv_lload_n hx hb d_Me_keep_51 rfl (lv_at hl 1 rfl) ?_
  refine cj_i (wc := []) (w1 := []) hP hD hS hA [] rfl rfl (va_runS (rest := [.long _, .int _, .ref _]) ⟨hx, hb, hml, hown, hg⟩ (c_Lg_bitCount l D cI cL  _ t6) ⟨callB_of 1 hg (gw_good m_219) rfl rfl rfl (hg _ m_72) (hg _ m_217) hd_Lg_bitCount ⟨Nat.le_of_ble_eq_true rfl, Nat.le_of_ble_eq_true rfl⟩, hg _ m_218⟩ (pw_S hK hN hT hA hP hD hS [] rfl (by decide)) rfl rfl hl.1 rfl (lv_room (Nat.le_of_ble_eq_true rfl)) d_Me_keep_52 ⟨Nat.le_of_ble_eq_true rfl, Nat.le_of_ble_eq_true rfl⟩) (fun H locs hP hD hS => ?_)
  have hP : va_P D classes (W_Me cI cL g0 g1 K co) H := hP
  have hD : va_D A (W_Me cI cL g0 g1 K co) := hD
  refine lv_iconst (v := 1) hx hb d_Me_keep_55 (by decide) ?_
  refine lv_iand hx hb d_Me_keep_56 ?_
  refine lv_i2l hx hb d_Me_keep_57 rfl ?_
  refine lv_lor hx hb d_Me_keep_58 ?_
  refine va_last hx hb hK hP hD hS 1 1 rfl rfl h_w d_Me_keep_59 (fun H locs hP hD hS => ?_)
  have hP : va_P D classes (W_Me cI cL g0 g1 (vp_updL K w.toNatClampNeg (t6 ||| (((f_Lg_bitCount t6) &&& (1 : Int32)).toInt64))) co) H := hP
  have hD : va_D A (W_Me cI cL g0 g1 (vp_updL K w.toNatClampNeg (t6 ||| (((f_Lg_bitCount t6) &&& (1 : Int32)).toInt64))) co) := hD
  rw [f_Me_keep_e0 K w v t1 t2 t3 t4 t5 t6 e_t1 e_t2 e_t3 e_t4 e_t5 e_t6]
  exact W.vret hx hb hr (fun t ht hW => ⟨⟨(), rfl, trivial, by show va_P D classes _ t.heap; rw [ht]; exact hP⟩, hS.F ht⟩) hS.2.2 d_Me_keep_60 hlocks
abbrev q_Me_inspect (D : va_G) (cI cL : ClassId) (g0 g1 : Nat) (A : Nat → Prop) (K : Nat → Int64) (co : Int32) (F : Int64) : Array Value → State → Outcome → State → Prop := va_Ql (fun r (_ : Unit) => r = F) (fun _ t => va_P D classes (W_Me cI cL g0 g1 K co) t.heap) A
theorem f_Me_inspect_e0 (K : Nat → Int64) (w : Int32)  (h15 : ¬ (lg_cmp (f_Me_putRight (K w.toNatClampNeg)) (-2 : Int64)) = 0) : f_Me_inspect K w = ((f_Me_gathered (f_Me_putRight (K w.toNatClampNeg)))) := by
  exact (if_neg h15)
theorem f_Me_inspect_e1 (K : Nat → Int64) (w : Int32)  (h15 : (lg_cmp (f_Me_putRight (K w.toNatClampNeg)) (-2 : Int64)) = 0) : f_Me_inspect K w = ((-2 : Int64)) := by
  exact (if_pos h15)
set_option maxHeartbeats 4000000 in
set_option maxRecDepth 100000 in
theorem c_Me_inspect (l : Launch) (D : va_G) (cI cL : ClassId) (g0 g1 : Nat) (sz : Nat) (K : Nat → Int64) (co : Int32) (w : Int32) (h_w : vp_in w 64) : Met l y_Me_inspect w_Me_inspect ({ frames := 3, cells := 0, slots := 0, locals := 67 }) (va_Pc [.ref g0, .int w] (PW D cI cL (W_Me cI cL g0 g1 K co) sz)) (q_Me_inspect D cI cL g0 g1 (va_A (W_Me cI cL g0 g1 K co) sz) K co (f_Me_inspect K w)) 0 0 (va_A (W_Me cI cL g0 g1 K co) sz) := by
  refine mk_met (Qf := fun A => q_Me_inspect D cI cL g0 g1 A K co (f_Me_inspect K w)) (by decide) (Nat.le_of_ble_eq_true rfl) ?_
  intro p e s m below meth c A ls hx hb hr hlocks hml hown hg hK hN hT hA hP hD hS hnm hl
  refine lv_aload_n hx hb d_Me_inspect_0 rfl (lv_at hl 0 rfl) ?_
  refine va_get (ci := 1) (C := R_Me) (T := F_Me) (N := 2) hx hb hg in_Me hown hK hP 0 rfl rfl 0 (by decide) (hg _ m_90) (fun _ h => h) rfl d_Me_inspect_1 ?_
  refine lv_iload_n hx hb d_Me_inspect_4 rfl (lv_at hl 1 rfl) ?_
  refine va_lald hx hb hK hP 1 1 rfl rfl h_w d_Me_inspect_5 ?_
  refine cj_l (wc := []) (w1 := []) hP hD hS hA [] rfl rfl (va_runS (rest := []) ⟨hx, hb, hml, hown, hg⟩ (c_Me_putRight l D cI cL  _ (K w.toNatClampNeg)) ⟨callB_of 1 hg (gw_good m_259) rfl rfl rfl (hg _ m_66) (hg _ m_257) hd_Me_putRight ⟨Nat.le_of_ble_eq_true rfl, Nat.le_of_ble_eq_true rfl⟩, hg _ m_258⟩ (pw_S hK hN hT hA hP hD hS [] rfl (by decide)) rfl rfl hl.1 rfl (lv_room (Nat.le_of_ble_eq_true rfl)) d_Me_inspect_6 ⟨Nat.le_of_ble_eq_true rfl, Nat.le_of_ble_eq_true rfl⟩) (fun H locs hP hD hS => ?_)
  have hP : va_P D classes (W_Me cI cL g0 g1 K co) H := hP
  have hD : va_D A (W_Me cI cL g0 g1 K co) := hD
  refine lv_lstore_n (lv' := [(2, .long _), (0, .ref _), (1, .int _)]) hx hb d_Me_inspect_9 rfl hl (by decide) rfl (fun ls hl => ?_)
  refine lv_lload_n hx hb d_Me_inspect_10 rfl (lv_at hl 0 rfl) ?_
  refine lv_ldc2 hx hb hown (hg _ m_260) d_Me_inspect_11 ?_
  refine W.lcmp hx hb d_Me_inspect_14 ?_
  refine lv_if_ne (tgt := 24) hx hb d_Me_inspect_15 (by decide) (fun h15 => ?_) (fun h15 => ?_)
  · refine lv_lload_n hx hb d_Me_inspect_24 rfl (lv_at hl 0 rfl) ?_
    refine cj_l (wc := []) (w1 := []) hP hD hS hA [] rfl rfl (va_runS (rest := []) ⟨hx, hb, hml, hown, hg⟩ (c_Me_gathered l D cI cL  _ (f_Me_putRight (K w.toNatClampNeg))) ⟨callB_of 1 hg (gw_good m_263) rfl rfl rfl (hg _ m_66) (hg _ m_261) hd_Me_gathered ⟨Nat.le_of_ble_eq_true rfl, Nat.le_of_ble_eq_true rfl⟩, hg _ m_262⟩ (pw_S hK hN hT hA hP hD hS [] rfl (by decide)) rfl rfl hl.1 rfl (lv_room (Nat.le_of_ble_eq_true rfl)) d_Me_inspect_25 ⟨Nat.le_of_ble_eq_true rfl, Nat.le_of_ble_eq_true rfl⟩) (fun H locs hP hD hS => ?_)
    have hP : va_P D classes (W_Me cI cL g0 g1 K co) H := hP
    have hD : va_D A (W_Me cI cL g0 g1 K co) := hD
    rw [f_Me_inspect_e0 K w h15]
    exact W.lret hx hb hr (fun t ht hW => ⟨⟨_, (), rfl, rfl, by show va_P D classes _ t.heap; rw [ht]; exact hP⟩, hS.F ht⟩) hS.2.2 d_Me_inspect_28 hlocks
  · refine lv_ldc2 hx hb hown (hg _ m_260) d_Me_inspect_18 ?_
    refine lv_goto (tgt := 28) hx hb d_Me_inspect_21 (by decide) ?_
    rw [f_Me_inspect_e1 K w h15]
    exact W.lret hx hb hr (fun t ht hW => ⟨⟨_, (), rfl, rfl, by show va_P D classes _ t.heap; rw [ht]; exact hP⟩, hS.F ht⟩) hS.2.2 d_Me_inspect_28 hlocks
abbrev q_Me_mend (D : va_G) (cI cL : ClassId) (g0 g1 : Nat) (A : Nat → Prop) (K : Nat → Int64) (co : Int32) (F : Int64 × (Nat → Int64) × Int32) : Array Value → State → Outcome → State → Prop := va_Ql (fun r (_ : Unit) => r = F.1) (fun _ t => va_P D classes (W_Me cI cL g0 g1 F.2.1 F.2.2) t.heap) A
theorem f_Me_mend_e0 (K : Nat → Int64) (co : Int32) (w : Int32)  (h15 : ¬ (lg_cmp (f_Me_putRight (K w.toNatClampNeg)) (-2 : Int64)) = 0) (h30 : (lg_cmp (f_Me_putRight (K w.toNatClampNeg)) (K w.toNatClampNeg)) = 0) : f_Me_mend K co w = ((f_Me_gathered (f_Me_putRight (K w.toNatClampNeg))), K, co) := by
  exact ((if_neg h15).trans (if_pos h30))
theorem f_Me_mend_e1 (K : Nat → Int64) (co : Int32) (w : Int32)  (h15 : ¬ (lg_cmp (f_Me_putRight (K w.toNatClampNeg)) (-2 : Int64)) = 0) (h30 : ¬ (lg_cmp (f_Me_putRight (K w.toNatClampNeg)) (K w.toNatClampNeg)) = 0) : f_Me_mend K co w = ((f_Me_gathered (f_Me_putRight (K w.toNatClampNeg))), (vp_updL K w.toNatClampNeg (f_Me_putRight (K w.toNatClampNeg))), (co + (1 : Int32))) := by
  exact ((if_neg h15).trans (if_neg h30))
theorem f_Me_mend_e2 (K : Nat → Int64) (co : Int32) (w : Int32)  (h15 : (lg_cmp (f_Me_putRight (K w.toNatClampNeg)) (-2 : Int64)) = 0) : f_Me_mend K co w = ((-2 : Int64), K, co) := by
  exact (if_pos h15)
set_option maxHeartbeats 4000000 in
set_option maxRecDepth 100000 in
theorem c_Me_mend (l : Launch) (D : va_G) (cI cL : ClassId) (g0 g1 : Nat) (sz : Nat) (K : Nat → Int64) (co : Int32) (w : Int32) (h_w : vp_in w 64) : Met l y_Me_mend w_Me_mend ({ frames := 3, cells := 0, slots := 0, locals := 67 }) (va_Pc [.ref g0, .int w] (PW D cI cL (W_Me cI cL g0 g1 K co) sz)) (q_Me_mend D cI cL g0 g1 (va_A (W_Me cI cL g0 g1 K co) sz) K co (f_Me_mend K co w)) 0 0 (va_A (W_Me cI cL g0 g1 K co) sz) := by
  refine mk_met (Qf := fun A => q_Me_mend D cI cL g0 g1 A K co (f_Me_mend K co w)) (by decide) (Nat.le_of_ble_eq_true rfl) ?_
  intro p e s m below meth c A ls hx hb hr hlocks hml hown hg hK hN hT hA hP hD hS hnm hl
  refine lv_aload_n hx hb d_Me_mend_0 rfl (lv_at hl 0 rfl) ?_
  refine va_get (ci := 1) (C := R_Me) (T := F_Me) (N := 2) hx hb hg in_Me hown hK hP 0 rfl rfl 0 (by decide) (hg _ m_90) (fun _ h => h) rfl d_Me_mend_1 ?_
  refine lv_iload_n hx hb d_Me_mend_4 rfl (lv_at hl 1 rfl) ?_
  refine va_lald hx hb hK hP 1 1 rfl rfl h_w d_Me_mend_5 ?_
  refine cj_l (wc := []) (w1 := []) hP hD hS hA [] rfl rfl (va_runS (rest := []) ⟨hx, hb, hml, hown, hg⟩ (c_Me_putRight l D cI cL  _ (K w.toNatClampNeg)) ⟨callB_of 1 hg (gw_good m_259) rfl rfl rfl (hg _ m_66) (hg _ m_257) hd_Me_putRight ⟨Nat.le_of_ble_eq_true rfl, Nat.le_of_ble_eq_true rfl⟩, hg _ m_258⟩ (pw_S hK hN hT hA hP hD hS [] rfl (by decide)) rfl rfl hl.1 rfl (lv_room (Nat.le_of_ble_eq_true rfl)) d_Me_mend_6 ⟨Nat.le_of_ble_eq_true rfl, Nat.le_of_ble_eq_true rfl⟩) (fun H locs hP hD hS => ?_)
  have hP : va_P D classes (W_Me cI cL g0 g1 K co) H := hP
  have hD : va_D A (W_Me cI cL g0 g1 K co) := hD
  refine lv_lstore_n (lv' := [(2, .long _), (0, .ref _), (1, .int _)]) hx hb d_Me_mend_9 rfl hl (by decide) rfl (fun ls hl => ?_)
  refine lv_lload_n hx hb d_Me_mend_10 rfl (lv_at hl 0 rfl) ?_
  refine lv_ldc2 hx hb hown (hg _ m_260) d_Me_mend_11 ?_
  refine W.lcmp hx hb d_Me_mend_14 ?_
  refine lv_if_ne (tgt := 22) hx hb d_Me_mend_15 (by decide) (fun h15 => ?_) (fun h15 => ?_)
  · refine lv_lload_n hx hb d_Me_mend_22 rfl (lv_at hl 0 rfl) ?_
    refine lv_aload_n hx hb d_Me_mend_23 rfl (lv_at hl 1 rfl) ?_
    refine va_get (ci := 1) (C := R_Me) (T := F_Me) (N := 2) hx hb hg in_Me hown hK hP 0 rfl rfl 0 (by decide) (hg _ m_90) (fun _ h => h) rfl d_Me_mend_24 ?_
    refine lv_iload_n hx hb d_Me_mend_27 rfl (lv_at hl 2 rfl) ?_
    refine va_lald hx hb hK hP 1 1 rfl rfl h_w d_Me_mend_28 ?_
    refine W.lcmp hx hb d_Me_mend_29 ?_
    refine lv_if_eq (tgt := 50) hx hb d_Me_mend_30 (by decide) (fun h30 => ?_) (fun h30 => ?_)
    · refine lv_lload_n hx hb d_Me_mend_50 rfl (lv_at hl 0 rfl) ?_
      refine cj_l (wc := []) (w1 := []) hP hD hS hA [] rfl rfl (va_runS (rest := []) ⟨hx, hb, hml, hown, hg⟩ (c_Me_gathered l D cI cL  _ (f_Me_putRight (K w.toNatClampNeg))) ⟨callB_of 1 hg (gw_good m_263) rfl rfl rfl (hg _ m_66) (hg _ m_261) hd_Me_gathered ⟨Nat.le_of_ble_eq_true rfl, Nat.le_of_ble_eq_true rfl⟩, hg _ m_262⟩ (pw_S hK hN hT hA hP hD hS [] rfl (by decide)) rfl rfl hl.1 rfl (lv_room (Nat.le_of_ble_eq_true rfl)) d_Me_mend_51 ⟨Nat.le_of_ble_eq_true rfl, Nat.le_of_ble_eq_true rfl⟩) (fun H locs hP hD hS => ?_)
      have hP : va_P D classes (W_Me cI cL g0 g1 K co) H := hP
      have hD : va_D A (W_Me cI cL g0 g1 K co) := hD
      rw [f_Me_mend_e0 K co w h15 h30]
      exact W.lret hx hb hr (fun t ht hW => ⟨⟨_, (), rfl, rfl, by show va_P D classes _ t.heap; rw [ht]; exact hP⟩, hS.F ht⟩) hS.2.2 d_Me_mend_54 hlocks
    · refine lv_aload_n hx hb d_Me_mend_33 rfl (lv_at hl 1 rfl) ?_
      refine va_get (ci := 1) (C := R_Me) (T := F_Me) (N := 2) hx hb hg in_Me hown hK hP 0 rfl rfl 0 (by decide) (hg _ m_90) (fun _ h => h) rfl d_Me_mend_34 ?_
      refine lv_iload_n hx hb d_Me_mend_37 rfl (lv_at hl 2 rfl) ?_
      refine lv_lload_n hx hb d_Me_mend_38 rfl (lv_at hl 0 rfl) ?_
      refine va_last hx hb hK hP hD hS 1 1 rfl rfl h_w d_Me_mend_39 (fun H locs hP hD hS => ?_)
      have hP : va_P D classes (W_Me cI cL g0 g1 (vp_updL K w.toNatClampNeg (f_Me_putRight (K w.toNatClampNeg))) co) H := hP
      have hD : va_D A (W_Me cI cL g0 g1 (vp_updL K w.toNatClampNeg (f_Me_putRight (K w.toNatClampNeg))) co) := hD
      refine lv_aload_n hx hb d_Me_mend_40 rfl (lv_at hl 1 rfl) ?_
      refine lv_dup hx hb d_Me_mend_41 rfl ?_
      refine va_get (ci := 1) (C := R_Me) (T := F_Me) (N := 2) hx hb hg in_Me hown hK hP 0 rfl rfl 1 (by decide) (hg _ m_92) (fun _ h => h) rfl d_Me_mend_42 ?_
      refine lv_iconst (v := 1) hx hb d_Me_mend_45 (by decide) ?_
      refine lv_iadd hx hb d_Me_mend_46 ?_
      refine va_put (ci := 1) (ty := .int) (C := R_Me) (T := F_Me) (N := 2) hx hb hg in_Me t_Me t_Me_ok n_Me hown hK hP hD hS 0 rfl rfl 1 (by decide) (hg _ m_92) (fun _ h => h) rfl (by decide +kernel) rfl rfl (Nat.le_of_ble_eq_true rfl) d_Me_mend_47 (fun H locs hP hD hS => ?_)
      have hP : va_P D classes (W_Me cI cL g0 g1 (vp_updL K w.toNatClampNeg (f_Me_putRight (K w.toNatClampNeg))) (co + (1 : Int32))) H := hP
      have hD : va_D A (W_Me cI cL g0 g1 (vp_updL K w.toNatClampNeg (f_Me_putRight (K w.toNatClampNeg))) (co + (1 : Int32))) := hD
      refine lv_lload_n hx hb d_Me_mend_50 rfl (lv_at hl 0 rfl) ?_
      refine cj_l (wc := []) (w1 := []) hP hD hS hA [] rfl rfl (va_runS (rest := []) ⟨hx, hb, hml, hown, hg⟩ (c_Me_gathered l D cI cL  _ (f_Me_putRight (K w.toNatClampNeg))) ⟨callB_of 1 hg (gw_good m_263) rfl rfl rfl (hg _ m_66) (hg _ m_261) hd_Me_gathered ⟨Nat.le_of_ble_eq_true rfl, Nat.le_of_ble_eq_true rfl⟩, hg _ m_262⟩ (pw_S hK hN hT hA hP hD hS [] rfl (by decide)) rfl rfl hl.1 rfl (lv_room (Nat.le_of_ble_eq_true rfl)) d_Me_mend_51 ⟨Nat.le_of_ble_eq_true rfl, Nat.le_of_ble_eq_true rfl⟩) (fun H locs hP hD hS => ?_)
      have hP : va_P D classes (W_Me cI cL g0 g1 (vp_updL K w.toNatClampNeg (f_Me_putRight (K w.toNatClampNeg))) (co + (1 : Int32))) H := hP
      have hD : va_D A (W_Me cI cL g0 g1 (vp_updL K w.toNatClampNeg (f_Me_putRight (K w.toNatClampNeg))) (co + (1 : Int32))) := hD
      rw [f_Me_mend_e1 K co w h15 h30]
      exact W.lret hx hb hr (fun t ht hW => ⟨⟨_, (), rfl, rfl, by show va_P D classes _ t.heap; rw [ht]; exact hP⟩, hS.F ht⟩) hS.2.2 d_Me_mend_54 hlocks
  · refine lv_ldc2 hx hb hown (hg _ m_260) d_Me_mend_18 ?_
    rw [f_Me_mend_e2 K co w h15]
    exact W.lret hx hb hr (fun t ht hW => ⟨⟨_, (), rfl, rfl, by show va_P D classes _ t.heap; rw [ht]; exact hP⟩, hS.F ht⟩) hS.2.2 d_Me_mend_21 hlocks
end
section
abbrev q_Ca_dropAll (D : va_G) (cI cL : ClassId) (g0 g1 : Nat) (A : Nat → Prop) (L : Nat → Int64) (rf : Int32) (F : (Nat → Int64)) : Array Value → State → Outcome → State → Prop := va_Qv (fun (_ : Unit) => True) (fun _ t => va_P D classes (W_Ca cI cL g0 g1 F rf) t.heap) A
set_option maxHeartbeats 4000000 in
set_option maxRecDepth 100000 in
theorem c_Ca_dropAll (l : Launch) (D : va_G) (cI cL : ClassId) (g0 g1 : Nat) (sz : Nat) (L : Nat → Int64) (rf : Int32)   : Met l y_Ca_dropAll w_Ca_dropAll ({ frames := 1, cells := 0, slots := 0, locals := 24 }) (va_Pc [.ref g0] (PW D cI cL (W_Ca cI cL g0 g1 L rf) sz)) (q_Ca_dropAll D cI cL g0 g1 (va_A (W_Ca cI cL g0 g1 L rf) sz) L rf (f_Ca_dropAll L)) 0 0 (va_A (W_Ca cI cL g0 g1 L rf) sz) := by
  refine mk_met (Qf := fun A => q_Ca_dropAll D cI cL g0 g1 A L rf (f_Ca_dropAll L)) (by decide) (Nat.le_of_ble_eq_true rfl) ?_
  intro p e s m below meth c A ls hx hb hr hlocks hml hown hg hK hN hT hA hP hD hS hnm hl
  refine lv_aload_n hx hb d_Ca_dropAll_0 rfl (lv_at hl 0 rfl) ?_
  refine va_get (ci := 2) (C := R_Ca) (T := F_Ca) (N := 2) hx hb hg in_Ca hown hK hP 0 rfl rfl 0 (by decide) (hg _ m_106) (fun _ h => h) rfl d_Ca_dropAll_1 ?_
  refine lv_lconst (v := 0) hx hb d_Ca_dropAll_4 (by decide) ?_
  refine cj_v (wc := (W_L4 cI cL g1 L)) (w1 := (W_L4 cI cL g1 (f_Ar_fill L (0 : Int64)))) hP hD hS hA [1] rfl rfl (va_runS (rest := []) ⟨hx, hb, hml, hown, hg⟩ (c_Ar_fill l D cI cL g1 _ L (0 : Int64)) ⟨callB_of 2 hg (gw_good m_229) rfl rfl rfl (hg _ m_73) (hg _ m_227) hd_Ar_fill ⟨Nat.le_of_ble_eq_true rfl, Nat.le_of_ble_eq_true rfl⟩, hg _ m_228⟩ (pw_S hK hN hT hA hP hD hS [1] rfl (by decide)) rfl rfl hl.1 rfl (lv_room (Nat.le_of_ble_eq_true rfl)) d_Ca_dropAll_5 ⟨Nat.le_of_ble_eq_true rfl, Nat.le_of_ble_eq_true rfl⟩) (fun H locs hP hD hS => ?_)
  have hP : va_P D classes (W_Ca cI cL g0 g1 (f_Ar_fill L (0 : Int64)) rf) H := hP
  have hD : va_D A (W_Ca cI cL g0 g1 (f_Ar_fill L (0 : Int64)) rf) := hD
  exact W.vret hx hb hr (fun t ht hW => ⟨⟨(), rfl, trivial, by show va_P D classes _ t.heap; rw [ht]; exact hP⟩, hS.F ht⟩) hS.2.2 d_Ca_dropAll_8 hlocks
abbrev q_Ca_drop (D : va_G) (cI cL : ClassId) (g0 g1 : Nat) (A : Nat → Prop) (L : Nat → Int64) (rf : Int32) (F : (Nat → Int64)) : Array Value → State → Outcome → State → Prop := va_Qv (fun (_ : Unit) => True) (fun _ t => va_P D classes (W_Ca cI cL g0 g1 F rf) t.heap) A
set_option maxHeartbeats 4000000 in
set_option maxRecDepth 100000 in
theorem c_Ca_drop (l : Launch) (D : va_G) (cI cL : ClassId) (g0 g1 : Nat) (sz : Nat) (L : Nat → Int64) (rf : Int32) (w : Int32)  : Met l y_Ca_drop w_Ca_drop ({ frames := 0, cells := 0, slots := 0, locals := 0 }) (va_Pc [.ref g0, .int w] (PW D cI cL (W_Ca cI cL g0 g1 L rf) sz)) (q_Ca_drop D cI cL g0 g1 (va_A (W_Ca cI cL g0 g1 L rf) sz) L rf (f_Ca_drop L w)) 0 0 (va_A (W_Ca cI cL g0 g1 L rf) sz) := by
  refine mk_met (Qf := fun A => q_Ca_drop D cI cL g0 g1 A L rf (f_Ca_drop L w)) (by decide) (Nat.le_of_ble_eq_true rfl) ?_
  intro p e s m below meth c A ls hx hb hr hlocks hml hown hg hK hN hT hA hP hD hS hnm hl
  refine lv_aload_n hx hb d_Ca_drop_0 rfl (lv_at hl 0 rfl) ?_
  refine va_get (ci := 2) (C := R_Ca) (T := F_Ca) (N := 2) hx hb hg in_Ca hown hK hP 0 rfl rfl 0 (by decide) (hg _ m_106) (fun _ h => h) rfl d_Ca_drop_1 ?_
  refine lv_iload_n hx hb d_Ca_drop_4 rfl (lv_at hl 1 rfl) ?_
  refine lv_iconst (v := 3) hx hb d_Ca_drop_5 (by decide) ?_
  refine lv_iand hx hb d_Ca_drop_6 ?_
  refine lv_lconst (v := 0) hx hb d_Ca_drop_7 (by decide) ?_
  refine va_last hx hb hK hP hD hS 1 1 rfl rfl (pk_andIn _ 2 rfl (by decide)) d_Ca_drop_8 (fun H locs hP hD hS => ?_)
  have hP : va_P D classes (W_Ca cI cL g0 g1 (vp_updL L (w &&& (3 : Int32)).toNatClampNeg (0 : Int64)) rf) H := hP
  have hD : va_D A (W_Ca cI cL g0 g1 (vp_updL L (w &&& (3 : Int32)).toNatClampNeg (0 : Int64)) rf) := hD
  exact W.vret hx hb hr (fun t ht hW => ⟨⟨(), rfl, trivial, by show va_P D classes _ t.heap; rw [ht]; exact hP⟩, hS.F ht⟩) hS.2.2 d_Ca_drop_9 hlocks
abbrev q_Ca_dropIfWrong (D : va_G) (cI cL : ClassId) (g0 g1 : Nat) (A : Nat → Prop) (L : Nat → Int64) (rf : Int32) (F : (Nat → Int64) × Int32) : Array Value → State → Outcome → State → Prop := va_Qv (fun (_ : Unit) => True) (fun _ t => va_P D classes (W_Ca cI cL g0 g1 F.1 F.2) t.heap) A
theorem f_Ca_dropIfWrong_e0 (L : Nat → Int64) (rf : Int32) (w : Int32)  (h14 : ¬ ((f_Lg_bitCount (L (w &&& (3 : Int32)).toNatClampNeg)) &&& (1 : Int32)) = (1 : Int32)) : f_Ca_dropIfWrong L rf w = (L, rf) := by
  exact (if_neg h14)
theorem f_Ca_dropIfWrong_e1 (L : Nat → Int64) (rf : Int32) (w : Int32)  (h14 : ((f_Lg_bitCount (L (w &&& (3 : Int32)).toNatClampNeg)) &&& (1 : Int32)) = (1 : Int32)) : f_Ca_dropIfWrong L rf w = ((vp_updL L (w &&& (3 : Int32)).toNatClampNeg (0 : Int64)), (rf + (1 : Int32))) := by
  exact (if_pos h14)
set_option maxHeartbeats 4000000 in
set_option maxRecDepth 100000 in
theorem c_Ca_dropIfWrong (l : Launch) (D : va_G) (cI cL : ClassId) (g0 g1 : Nat) (sz : Nat) (L : Nat → Int64) (rf : Int32) (w : Int32)  : Met l y_Ca_dropIfWrong w_Ca_dropIfWrong ({ frames := 1, cells := 0, slots := 0, locals := 21 }) (va_Pc [.ref g0, .int w] (PW D cI cL (W_Ca cI cL g0 g1 L rf) sz)) (q_Ca_dropIfWrong D cI cL g0 g1 (va_A (W_Ca cI cL g0 g1 L rf) sz) L rf (f_Ca_dropIfWrong L rf w)) 0 0 (va_A (W_Ca cI cL g0 g1 L rf) sz) := by
  refine mk_met (Qf := fun A => q_Ca_dropIfWrong D cI cL g0 g1 A L rf (f_Ca_dropIfWrong L rf w)) (by decide) (Nat.le_of_ble_eq_true rfl) ?_
  intro p e s m below meth c A ls hx hb hr hlocks hml hown hg hK hN hT hA hP hD hS hnm hl
  refine lv_aload_n hx hb d_Ca_dropIfWrong_0 rfl (lv_at hl 0 rfl) ?_
  refine va_get (ci := 2) (C := R_Ca) (T := F_Ca) (N := 2) hx hb hg in_Ca hown hK hP 0 rfl rfl 0 (by decide) (hg _ m_106) (fun _ h => h) rfl d_Ca_dropIfWrong_1 ?_
  refine lv_iload_n hx hb d_Ca_dropIfWrong_4 rfl (lv_at hl 1 rfl) ?_
  refine lv_iconst (v := 3) hx hb d_Ca_dropIfWrong_5 (by decide) ?_
  refine lv_iand hx hb d_Ca_dropIfWrong_6 ?_
  refine va_lald hx hb hK hP 1 1 rfl rfl (pk_andIn _ 2 rfl (by decide)) d_Ca_dropIfWrong_7 ?_
  refine cj_i (wc := []) (w1 := []) hP hD hS hA [] rfl rfl (va_runS (rest := []) ⟨hx, hb, hml, hown, hg⟩ (c_Lg_bitCount l D cI cL  _ (L (w &&& (3 : Int32)).toNatClampNeg)) ⟨callB_of 1 hg (gw_good m_219) rfl rfl rfl (hg _ m_72) (hg _ m_330) hd_Lg_bitCount ⟨Nat.le_of_ble_eq_true rfl, Nat.le_of_ble_eq_true rfl⟩, hg _ m_218⟩ (pw_S hK hN hT hA hP hD hS [] rfl (by decide)) rfl rfl hl.1 rfl (lv_room (Nat.le_of_ble_eq_true rfl)) d_Ca_dropIfWrong_8 ⟨Nat.le_of_ble_eq_true rfl, Nat.le_of_ble_eq_true rfl⟩) (fun H locs hP hD hS => ?_)
  have hP : va_P D classes (W_Ca cI cL g0 g1 L rf) H := hP
  have hD : va_D A (W_Ca cI cL g0 g1 L rf) := hD
  refine lv_iconst (v := 1) hx hb d_Ca_dropIfWrong_11 (by decide) ?_
  refine lv_iand hx hb d_Ca_dropIfWrong_12 ?_
  refine lv_iconst (v := 1) hx hb d_Ca_dropIfWrong_13 (by decide) ?_
  refine lv_icmp_ne (tgt := 36) hx hb d_Ca_dropIfWrong_14 (by decide) (fun h14 => ?_) (fun h14 => ?_)
  · rw [f_Ca_dropIfWrong_e0 L rf w h14]
    exact W.vret hx hb hr (fun t ht hW => ⟨⟨(), rfl, trivial, by show va_P D classes _ t.heap; rw [ht]; exact hP⟩, hS.F ht⟩) hS.2.2 d_Ca_dropIfWrong_36 hlocks
  · refine lv_aload_n hx hb d_Ca_dropIfWrong_17 rfl (lv_at hl 0 rfl) ?_
    refine va_get (ci := 2) (C := R_Ca) (T := F_Ca) (N := 2) hx hb hg in_Ca hown hK hP 0 rfl rfl 0 (by decide) (hg _ m_106) (fun _ h => h) rfl d_Ca_dropIfWrong_18 ?_
    refine lv_iload_n hx hb d_Ca_dropIfWrong_21 rfl (lv_at hl 1 rfl) ?_
    refine lv_iconst (v := 3) hx hb d_Ca_dropIfWrong_22 (by decide) ?_
    refine lv_iand hx hb d_Ca_dropIfWrong_23 ?_
    refine lv_lconst (v := 0) hx hb d_Ca_dropIfWrong_24 (by decide) ?_
    refine va_last hx hb hK hP hD hS 1 1 rfl rfl (pk_andIn _ 2 rfl (by decide)) d_Ca_dropIfWrong_25 (fun H locs hP hD hS => ?_)
    have hP : va_P D classes (W_Ca cI cL g0 g1 (vp_updL L (w &&& (3 : Int32)).toNatClampNeg (0 : Int64)) rf) H := hP
    have hD : va_D A (W_Ca cI cL g0 g1 (vp_updL L (w &&& (3 : Int32)).toNatClampNeg (0 : Int64)) rf) := hD
    refine lv_aload_n hx hb d_Ca_dropIfWrong_26 rfl (lv_at hl 0 rfl) ?_
    refine lv_dup hx hb d_Ca_dropIfWrong_27 rfl ?_
    refine va_get (ci := 2) (C := R_Ca) (T := F_Ca) (N := 2) hx hb hg in_Ca hown hK hP 0 rfl rfl 1 (by decide) (hg _ m_108) (fun _ h => h) rfl d_Ca_dropIfWrong_28 ?_
    refine lv_iconst (v := 1) hx hb d_Ca_dropIfWrong_31 (by decide) ?_
    refine lv_iadd hx hb d_Ca_dropIfWrong_32 ?_
    refine va_put (ci := 2) (ty := .int) (C := R_Ca) (T := F_Ca) (N := 2) hx hb hg in_Ca t_Ca t_Ca_ok n_Ca hown hK hP hD hS 0 rfl rfl 1 (by decide) (hg _ m_108) (fun _ h => h) rfl (by decide +kernel) rfl rfl (Nat.le_of_ble_eq_true rfl) d_Ca_dropIfWrong_33 (fun H locs hP hD hS => ?_)
    have hP : va_P D classes (W_Ca cI cL g0 g1 (vp_updL L (w &&& (3 : Int32)).toNatClampNeg (0 : Int64)) (rf + (1 : Int32))) H := hP
    have hD : va_D A (W_Ca cI cL g0 g1 (vp_updL L (w &&& (3 : Int32)).toNatClampNeg (0 : Int64)) (rf + (1 : Int32))) := hD
    rw [f_Ca_dropIfWrong_e1 L rf w h14]
    exact W.vret hx hb hr (fun t ht hW => ⟨⟨(), rfl, trivial, by show va_P D classes _ t.heap; rw [ht]; exact hP⟩, hS.F ht⟩) hS.2.2 d_Ca_dropIfWrong_36 hlocks
abbrev q_Ca_holds (D : va_G) (cI cL : ClassId) (g0 g1 : Nat) (A : Nat → Prop) (L : Nat → Int64) (rf : Int32) (F : Int32) : Array Value → State → Outcome → State → Prop := va_Qi (fun r (_ : Unit) => r = F) (fun _ t => va_P D classes (W_Ca cI cL g0 g1 L rf) t.heap) A
theorem f_Ca_holds_e0 (L : Nat → Int64) (w : Int32)  (h23 : ¬ (lg_cmp ((u_lush (L (w &&& (3 : Int32)).toNatClampNeg) (32 : Int32)) &&& (31 : Int64)) (((16 : Int32) ||| (u_ush w (2 : Int32))).toInt64)) = 0) : f_Ca_holds L w = ((0 : Int32)) := by
  exact (if_neg h23)
theorem f_Ca_holds_e1 (L : Nat → Int64) (w : Int32)  (h23 : (lg_cmp ((u_lush (L (w &&& (3 : Int32)).toNatClampNeg) (32 : Int32)) &&& (31 : Int64)) (((16 : Int32) ||| (u_ush w (2 : Int32))).toInt64)) = 0) : f_Ca_holds L w = ((1 : Int32)) := by
  exact (if_pos h23)
set_option maxHeartbeats 4000000 in
set_option maxRecDepth 100000 in
theorem c_Ca_holds (l : Launch) (D : va_G) (cI cL : ClassId) (g0 g1 : Nat) (sz : Nat) (L : Nat → Int64) (rf : Int32) (w : Int32)  : Met l y_Ca_holds w_Ca_holds ({ frames := 0, cells := 0, slots := 0, locals := 0 }) (va_Pc [.ref g0, .int w] (PW D cI cL (W_Ca cI cL g0 g1 L rf) sz)) (q_Ca_holds D cI cL g0 g1 (va_A (W_Ca cI cL g0 g1 L rf) sz) L rf (f_Ca_holds L w)) 0 0 (va_A (W_Ca cI cL g0 g1 L rf) sz) := by
  refine mk_met (Qf := fun A => q_Ca_holds D cI cL g0 g1 A L rf (f_Ca_holds L w)) (by decide) (Nat.le_of_ble_eq_true rfl) ?_
  intro p e s m below meth c A ls hx hb hr hlocks hml hown hg hK hN hT hA hP hD hS hnm hl
  refine lv_aload_n hx hb d_Ca_holds_0 rfl (lv_at hl 0 rfl) ?_
  refine va_get (ci := 2) (C := R_Ca) (T := F_Ca) (N := 2) hx hb hg in_Ca hown hK hP 0 rfl rfl 0 (by decide) (hg _ m_106) (fun _ h => h) rfl d_Ca_holds_1 ?_
  refine lv_iload_n hx hb d_Ca_holds_4 rfl (lv_at hl 1 rfl) ?_
  refine lv_iconst (v := 3) hx hb d_Ca_holds_5 (by decide) ?_
  refine lv_iand hx hb d_Ca_holds_6 ?_
  refine va_lald hx hb hK hP 1 1 rfl rfl (pk_andIn _ 2 rfl (by decide)) d_Ca_holds_7 ?_
  refine lv_bipush (v := 32) hx hb d_Ca_holds_8 (by decide) ?_
  refine lv_lushr (v := u_lush _ _) hx hb d_Ca_holds_10 rfl ?_
  refine lv_ldc2 hx hb hown (hg _ m_335) d_Ca_holds_11 ?_
  refine lv_land hx hb d_Ca_holds_14 ?_
  refine lv_bipush (v := 16) hx hb d_Ca_holds_15 (by decide) ?_
  refine lv_iload_n hx hb d_Ca_holds_17 rfl (lv_at hl 1 rfl) ?_
  refine lv_iconst (v := 2) hx hb d_Ca_holds_18 (by decide) ?_
  refine lv_iushr (v := u_ush _ _) hx hb d_Ca_holds_19 rfl ?_
  refine lv_ior hx hb d_Ca_holds_20 ?_
  refine lv_i2l hx hb d_Ca_holds_21 rfl ?_
  refine W.lcmp hx hb d_Ca_holds_22 ?_
  refine lv_if_ne (tgt := 30) hx hb d_Ca_holds_23 (by decide) (fun h23 => ?_) (fun h23 => ?_)
  · refine lv_iconst (v := 0) hx hb d_Ca_holds_30 (by decide) ?_
    rw [f_Ca_holds_e0 L w h23]
    exact W.zret hx hb hr rfl (fun t ht hW => ⟨⟨_, (), rfl, rfl, by show va_P D classes _ t.heap; rw [ht]; exact hP⟩, hS.F ht⟩) hS.2.2 d_Ca_holds_31 hlocks
  · refine lv_iconst (v := 1) hx hb d_Ca_holds_26 (by decide) ?_
    refine lv_goto (tgt := 31) hx hb d_Ca_holds_27 (by decide) ?_
    rw [f_Ca_holds_e1 L w h23]
    exact W.zret hx hb hr rfl (fun t ht hW => ⟨⟨_, (), rfl, rfl, by show va_P D classes _ t.heap; rw [ht]; exact hP⟩, hS.F ht⟩) hS.2.2 d_Ca_holds_31 hlocks
abbrev q_Ca_held (D : va_G) (cI cL : ClassId) (g0 g1 : Nat) (A : Nat → Prop) (L : Nat → Int64) (rf : Int32) (F : Int64) : Array Value → State → Outcome → State → Prop := va_Ql (fun r (_ : Unit) => r = F) (fun _ t => va_P D classes (W_Ca cI cL g0 g1 L rf) t.heap) A
set_option maxHeartbeats 4000000 in
set_option maxRecDepth 100000 in
theorem c_Ca_held (l : Launch) (D : va_G) (cI cL : ClassId) (g0 g1 : Nat) (sz : Nat) (L : Nat → Int64) (rf : Int32) (w : Int32)  : Met l y_Ca_held w_Ca_held ({ frames := 0, cells := 0, slots := 0, locals := 0 }) (va_Pc [.ref g0, .int w] (PW D cI cL (W_Ca cI cL g0 g1 L rf) sz)) (q_Ca_held D cI cL g0 g1 (va_A (W_Ca cI cL g0 g1 L rf) sz) L rf (f_Ca_held L w)) 0 0 (va_A (W_Ca cI cL g0 g1 L rf) sz) := by
  refine mk_met (Qf := fun A => q_Ca_held D cI cL g0 g1 A L rf (f_Ca_held L w)) (by decide) (Nat.le_of_ble_eq_true rfl) ?_
  intro p e s m below meth c A ls hx hb hr hlocks hml hown hg hK hN hT hA hP hD hS hnm hl
  refine lv_aload_n hx hb d_Ca_held_0 rfl (lv_at hl 0 rfl) ?_
  refine va_get (ci := 2) (C := R_Ca) (T := F_Ca) (N := 2) hx hb hg in_Ca hown hK hP 0 rfl rfl 0 (by decide) (hg _ m_106) (fun _ h => h) rfl d_Ca_held_1 ?_
  refine lv_iload_n hx hb d_Ca_held_4 rfl (lv_at hl 1 rfl) ?_
  refine lv_iconst (v := 3) hx hb d_Ca_held_5 (by decide) ?_
  refine lv_iand hx hb d_Ca_held_6 ?_
  refine va_lald hx hb hK hP 1 1 rfl rfl (pk_andIn _ 2 rfl (by decide)) d_Ca_held_7 ?_
  refine lv_ldc2 hx hb hown (hg _ m_340) d_Ca_held_8 ?_
  refine lv_land hx hb d_Ca_held_11 ?_
  exact W.lret hx hb hr (fun t ht hW => ⟨⟨_, (), rfl, rfl, by show va_P D classes _ t.heap; rw [ht]; exact hP⟩, hS.F ht⟩) hS.2.2 d_Ca_held_12 hlocks
abbrev q_Ca_fill (D : va_G) (cI cL : ClassId) (g0 g1 : Nat) (A : Nat → Prop) (L : Nat → Int64) (rf : Int32) (F : (Nat → Int64)) : Array Value → State → Outcome → State → Prop := va_Qv (fun (_ : Unit) => True) (fun _ t => va_P D classes (W_Ca cI cL g0 g1 F rf) t.heap) A
theorem f_Ca_fill_e0 (L : Nat → Int64) (w : Int32) (v : Int32) (t1 : Int64) (e_t1 : (((v.toInt64) &&& (4294967295 : Int64)) ||| (u_lshl (((16 : Int32) ||| (u_ush w (2 : Int32))).toInt64) (32 : Int32))) = t1) : f_Ca_fill L w v = ((vp_updL L (w &&& (3 : Int32)).toNatClampNeg (t1 ||| (u_lshl (((f_Lg_bitCount t1).toInt64) &&& (1 : Int64)) (37 : Int32))))) := by
  subst e_t1
  exact rfl
set_option maxHeartbeats 4000000 in
set_option maxRecDepth 100000 in
theorem c_Ca_fill (l : Launch) (D : va_G) (cI cL : ClassId) (g0 g1 : Nat) (sz : Nat) (L : Nat → Int64) (rf : Int32) (w : Int32) (v : Int32)  : Met l y_Ca_fill w_Ca_fill ({ frames := 1, cells := 0, slots := 0, locals := 21 }) (va_Pc [.ref g0, .int w, .int v] (PW D cI cL (W_Ca cI cL g0 g1 L rf) sz)) (q_Ca_fill D cI cL g0 g1 (va_A (W_Ca cI cL g0 g1 L rf) sz) L rf (f_Ca_fill L w v)) 0 0 (va_A (W_Ca cI cL g0 g1 L rf) sz) := by
  refine mk_met (Qf := fun A => q_Ca_fill D cI cL g0 g1 A L rf (f_Ca_fill L w v)) (by decide) (Nat.le_of_ble_eq_true rfl) ?_
  intro p e s m below meth c A ls hx hb hr hlocks hml hown hg hK hN hT hA hP hD hS hnm hl
  refine lv_iload_n hx hb d_Ca_fill_0 rfl (lv_at hl 2 rfl) ?_
  refine lv_i2l hx hb d_Ca_fill_1 rfl ?_
  refine lv_ldc2 hx hb hown (hg _ m_340) d_Ca_fill_2 ?_
  refine lv_land hx hb d_Ca_fill_5 ?_
  refine lv_bipush (v := 16) hx hb d_Ca_fill_6 (by decide) ?_
  refine lv_iload_n hx hb d_Ca_fill_8 rfl (lv_at hl 1 rfl) ?_
  refine lv_iconst (v := 2) hx hb d_Ca_fill_9 (by decide) ?_
  refine lv_iushr (v := u_ush _ _) hx hb d_Ca_fill_10 rfl ?_
  refine lv_ior hx hb d_Ca_fill_11 ?_
  refine lv_i2l hx hb d_Ca_fill_12 rfl ?_
  refine lv_bipush (v := 32) hx hb d_Ca_fill_13 (by decide) ?_
  refine lv_lshl (v := u_lshl _ _) hx hb d_Ca_fill_15 rfl ?_
  refine lv_lor hx hb d_Ca_fill_16 ?_
  refine lv_topl (fun t1 e_t1 => ?_)
  have e_t1 := e_t1.symm
  refine lv_lstore_n (lv' := [(3, .long _), (0, .ref _), (1, .int _), (2, .int _)]) hx hb d_Ca_fill_17 rfl hl (by decide) rfl (fun ls hl => ?_)
  refine lv_aload_n hx hb d_Ca_fill_18 rfl (lv_at hl 1 rfl) ?_
  refine va_get (ci := 2) (C := R_Ca) (T := F_Ca) (N := 2) hx hb hg in_Ca hown hK hP 0 rfl rfl 0 (by decide) (hg _ m_106) (fun _ h => h) rfl d_Ca_fill_19 ?_
  refine lv_iload_n hx hb d_Ca_fill_22 rfl (lv_at hl 2 rfl) ?_
  refine lv_iconst (v := 3) hx hb d_Ca_fill_23 (by decide) ?_
  refine lv_iand hx hb d_Ca_fill_24 ?_
  refine lv_lload_n hx hb d_Ca_fill_25 rfl (lv_at hl 0 rfl) ?_
  refine lv_lload_n hx hb d_Ca_fill_26 rfl (lv_at hl 0 rfl) ?_
  refine cj_i (wc := []) (w1 := []) hP hD hS hA [] rfl rfl (va_runS (rest := [.long _, .int _, .ref _]) ⟨hx, hb, hml, hown, hg⟩ (c_Lg_bitCount l D cI cL  _ t1) ⟨callB_of 1 hg (gw_good m_219) rfl rfl rfl (hg _ m_72) (hg _ m_330) hd_Lg_bitCount ⟨Nat.le_of_ble_eq_true rfl, Nat.le_of_ble_eq_true rfl⟩, hg _ m_218⟩ (pw_S hK hN hT hA hP hD hS [] rfl (by decide)) rfl rfl hl.1 rfl (lv_room (Nat.le_of_ble_eq_true rfl)) d_Ca_fill_27 ⟨Nat.le_of_ble_eq_true rfl, Nat.le_of_ble_eq_true rfl⟩) (fun H locs hP hD hS => ?_)
  have hP : va_P D classes (W_Ca cI cL g0 g1 L rf) H := hP
  have hD : va_D A (W_Ca cI cL g0 g1 L rf) := hD
  refine lv_i2l hx hb d_Ca_fill_30 rfl ?_
  refine lv_lconst (v := 1) hx hb d_Ca_fill_31 (by decide) ?_
  refine lv_land hx hb d_Ca_fill_32 ?_
  refine lv_bipush (v := 37) hx hb d_Ca_fill_33 (by decide) ?_
  refine lv_lshl (v := u_lshl _ _) hx hb d_Ca_fill_35 rfl ?_
  refine lv_lor hx hb d_Ca_fill_36 ?_
  refine va_last hx hb hK hP hD hS 1 1 rfl rfl (pk_andIn _ 2 rfl (by decide)) d_Ca_fill_37 (fun H locs hP hD hS => ?_)
  have hP : va_P D classes (W_Ca cI cL g0 g1 (vp_updL L (w &&& (3 : Int32)).toNatClampNeg (t1 ||| (u_lshl (((f_Lg_bitCount t1).toInt64) &&& (1 : Int64)) (37 : Int32)))) rf) H := hP
  have hD : va_D A (W_Ca cI cL g0 g1 (vp_updL L (w &&& (3 : Int32)).toNatClampNeg (t1 ||| (u_lshl (((f_Lg_bitCount t1).toInt64) &&& (1 : Int64)) (37 : Int32)))) rf) := hD
  rw [f_Ca_fill_e0 L w v t1 e_t1]
  exact W.vret hx hb hr (fun t ht hW => ⟨⟨(), rfl, trivial, by show va_P D classes _ t.heap; rw [ht]; exact hP⟩, hS.F ht⟩) hS.2.2 d_Ca_fill_38 hlocks
abbrev q_Re_agreed (D : va_G) (cI cL : ClassId) (g0 g1 : Nat) (A : Nat → Prop) (R : Nat → Int32) (vo : Int32) (F : Int32) : Array Value → State → Outcome → State → Prop := va_Qi (fun r (_ : Unit) => r = F) (fun _ t => va_P D classes (W_Re cI cL g0 g1 R vo) t.heap) A
set_option maxHeartbeats 4000000 in
set_option maxRecDepth 100000 in
theorem c_Re_agreed (l : Launch) (D : va_G) (cI cL : ClassId) (g0 g1 : Nat) (sz : Nat) (R : Nat → Int32) (vo : Int32) (r : Int32) (h_r : vp_in r 32) : Met l y_Re_agreed w_Re_agreed ({ frames := 0, cells := 0, slots := 0, locals := 0 }) (va_Pc [.ref g0, .int r] (PW D cI cL (W_Re cI cL g0 g1 R vo) sz)) (q_Re_agreed D cI cL g0 g1 (va_A (W_Re cI cL g0 g1 R vo) sz) R vo (f_Re_agreed R r)) 0 0 (va_A (W_Re cI cL g0 g1 R vo) sz) := by
  refine mk_met (Qf := fun A => q_Re_agreed D cI cL g0 g1 A R vo (f_Re_agreed R r)) (by decide) (Nat.le_of_ble_eq_true rfl) ?_
  intro p e s m below meth c A ls hx hb hr hlocks hml hown hg hK hN hT hA hP hD hS hnm hl
  refine lv_aload_n hx hb d_Re_agreed_0 rfl (lv_at hl 0 rfl) ?_
  refine va_get (ci := 3) (C := R_Re) (T := F_Re) (N := 2) hx hb hg in_Re hown hK hP 0 rfl rfl 0 (by decide) (hg _ m_121) (fun _ h => h) rfl d_Re_agreed_1 ?_
  refine lv_iconst (v := 3) hx hb d_Re_agreed_4 (by decide) ?_
  refine lv_iload_n hx hb d_Re_agreed_5 rfl (lv_at hl 1 rfl) ?_
  refine lv_imul hx hb d_Re_agreed_6 ?_
  refine va_iald hx hb hK hP 1 0 rfl rfl (v3_0 h_r) d_Re_agreed_7 ?_
  refine lv_istore_n (lv' := [(2, .int _), (0, .ref _), (1, .int _)]) hx hb d_Re_agreed_8 rfl hl (by decide) rfl (fun ls hl => ?_)
  refine lv_aload_n hx hb d_Re_agreed_9 rfl (lv_at hl 1 rfl) ?_
  refine va_get (ci := 3) (C := R_Re) (T := F_Re) (N := 2) hx hb hg in_Re hown hK hP 0 rfl rfl 0 (by decide) (hg _ m_121) (fun _ h => h) rfl d_Re_agreed_10 ?_
  refine lv_iconst (v := 3) hx hb d_Re_agreed_13 (by decide) ?_
  refine lv_iload_n hx hb d_Re_agreed_14 rfl (lv_at hl 2 rfl) ?_
  refine lv_imul hx hb d_Re_agreed_15 ?_
  refine lv_iconst (v := 1) hx hb d_Re_agreed_16 (by decide) ?_
  refine lv_iadd hx hb d_Re_agreed_17 ?_
  refine va_iald hx hb hK hP 1 0 rfl rfl (v3_1 h_r) d_Re_agreed_18 ?_
  refine lv_istore_n (lv' := [(3, .int _), (2, .int _), (0, .ref _), (1, .int _)]) hx hb d_Re_agreed_19 rfl hl (by decide) rfl (fun ls hl => ?_)
  refine lv_aload_n hx hb d_Re_agreed_20 rfl (lv_at hl 2 rfl) ?_
  refine va_get (ci := 3) (C := R_Re) (T := F_Re) (N := 2) hx hb hg in_Re hown hK hP 0 rfl rfl 0 (by decide) (hg _ m_121) (fun _ h => h) rfl d_Re_agreed_21 ?_
  refine lv_iconst (v := 3) hx hb d_Re_agreed_24 (by decide) ?_
  refine lv_iload_n hx hb d_Re_agreed_25 rfl (lv_at hl 3 rfl) ?_
  refine lv_imul hx hb d_Re_agreed_26 ?_
  refine lv_iconst (v := 2) hx hb d_Re_agreed_27 (by decide) ?_
  refine lv_iadd hx hb d_Re_agreed_28 ?_
  refine va_iald hx hb hK hP 1 0 rfl rfl (v3_2 h_r) d_Re_agreed_29 ?_
  refine lv_istore (lv' := [(4, .int _), (3, .int _), (2, .int _), (0, .ref _), (1, .int _)]) hx hb d_Re_agreed_30 hl (by decide) rfl (fun ls hl => ?_)
  refine lv_iload_n hx hb d_Re_agreed_32 rfl (lv_at hl 2 rfl) ?_
  refine lv_iload_n hx hb d_Re_agreed_33 rfl (lv_at hl 1 rfl) ?_
  refine lv_iand hx hb d_Re_agreed_34 ?_
  refine lv_iload_n hx hb d_Re_agreed_35 rfl (lv_at hl 2 rfl) ?_
  refine lv_iload hx hb d_Re_agreed_36 (lv_at hl 0 rfl) ?_
  refine lv_iand hx hb d_Re_agreed_38 ?_
  refine lv_ior hx hb d_Re_agreed_39 ?_
  refine lv_iload_n hx hb d_Re_agreed_40 rfl (lv_at hl 1 rfl) ?_
  refine lv_iload hx hb d_Re_agreed_41 (lv_at hl 0 rfl) ?_
  refine lv_iand hx hb d_Re_agreed_43 ?_
  refine lv_ior hx hb d_Re_agreed_44 ?_
  exact W.iret hx hb hr (fun t ht hW => ⟨⟨_, (), rfl, rfl, by show va_P D classes _ t.heap; rw [ht]; exact hP⟩, hS.F ht⟩) hS.2.2 d_Re_agreed_45 hlocks
abbrev q_Re_put (D : va_G) (cI cL : ClassId) (g0 g1 : Nat) (A : Nat → Prop) (R : Nat → Int32) (vo : Int32) (F : (Nat → Int32)) : Array Value → State → Outcome → State → Prop := va_Qv (fun (_ : Unit) => True) (fun _ t => va_P D classes (W_Re cI cL g0 g1 F vo) t.heap) A
set_option maxHeartbeats 4000000 in
set_option maxRecDepth 100000 in
theorem c_Re_put (l : Launch) (D : va_G) (cI cL : ClassId) (g0 g1 : Nat) (sz : Nat) (R : Nat → Int32) (vo : Int32) (r : Int32) (v : Int32) (h_r : vp_in r 32) : Met l y_Re_put w_Re_put ({ frames := 0, cells := 0, slots := 0, locals := 0 }) (va_Pc [.ref g0, .int r, .int v] (PW D cI cL (W_Re cI cL g0 g1 R vo) sz)) (q_Re_put D cI cL g0 g1 (va_A (W_Re cI cL g0 g1 R vo) sz) R vo (f_Re_put R r v)) 0 0 (va_A (W_Re cI cL g0 g1 R vo) sz) := by
  refine mk_met (Qf := fun A => q_Re_put D cI cL g0 g1 A R vo (f_Re_put R r v)) (by decide) (Nat.le_of_ble_eq_true rfl) ?_
  intro p e s m below meth c A ls hx hb hr hlocks hml hown hg hK hN hT hA hP hD hS hnm hl
  refine lv_aload_n hx hb d_Re_put_0 rfl (lv_at hl 0 rfl) ?_
  refine va_get (ci := 3) (C := R_Re) (T := F_Re) (N := 2) hx hb hg in_Re hown hK hP 0 rfl rfl 0 (by decide) (hg _ m_121) (fun _ h => h) rfl d_Re_put_1 ?_
  refine lv_iconst (v := 3) hx hb d_Re_put_4 (by decide) ?_
  refine lv_iload_n hx hb d_Re_put_5 rfl (lv_at hl 1 rfl) ?_
  refine lv_imul hx hb d_Re_put_6 ?_
  refine lv_iload_n hx hb d_Re_put_7 rfl (lv_at hl 2 rfl) ?_
  refine va_iast hx hb hK hP hD hS 1 0 rfl rfl (v3_0 h_r) d_Re_put_8 (fun H locs hP hD hS => ?_)
  have hP : va_P D classes (W_Re cI cL g0 g1 (upd R ((3 : Int32) * r).toNatClampNeg v) vo) H := hP
  have hD : va_D A (W_Re cI cL g0 g1 (upd R ((3 : Int32) * r).toNatClampNeg v) vo) := hD
  refine lv_aload_n hx hb d_Re_put_9 rfl (lv_at hl 0 rfl) ?_
  refine va_get (ci := 3) (C := R_Re) (T := F_Re) (N := 2) hx hb hg in_Re hown hK hP 0 rfl rfl 0 (by decide) (hg _ m_121) (fun _ h => h) rfl d_Re_put_10 ?_
  refine lv_iconst (v := 3) hx hb d_Re_put_13 (by decide) ?_
  refine lv_iload_n hx hb d_Re_put_14 rfl (lv_at hl 1 rfl) ?_
  refine lv_imul hx hb d_Re_put_15 ?_
  refine lv_iconst (v := 1) hx hb d_Re_put_16 (by decide) ?_
  refine lv_iadd hx hb d_Re_put_17 ?_
  refine lv_iload_n hx hb d_Re_put_18 rfl (lv_at hl 2 rfl) ?_
  refine va_iast hx hb hK hP hD hS 1 0 rfl rfl (v3_1 h_r) d_Re_put_19 (fun H locs hP hD hS => ?_)
  have hP : va_P D classes (W_Re cI cL g0 g1 (upd (upd R ((3 : Int32) * r).toNatClampNeg v) (((3 : Int32) * r) + (1 : Int32)).toNatClampNeg v) vo) H := hP
  have hD : va_D A (W_Re cI cL g0 g1 (upd (upd R ((3 : Int32) * r).toNatClampNeg v) (((3 : Int32) * r) + (1 : Int32)).toNatClampNeg v) vo) := hD
  refine lv_aload_n hx hb d_Re_put_20 rfl (lv_at hl 0 rfl) ?_
  refine va_get (ci := 3) (C := R_Re) (T := F_Re) (N := 2) hx hb hg in_Re hown hK hP 0 rfl rfl 0 (by decide) (hg _ m_121) (fun _ h => h) rfl d_Re_put_21 ?_
  refine lv_iconst (v := 3) hx hb d_Re_put_24 (by decide) ?_
  refine lv_iload_n hx hb d_Re_put_25 rfl (lv_at hl 1 rfl) ?_
  refine lv_imul hx hb d_Re_put_26 ?_
  refine lv_iconst (v := 2) hx hb d_Re_put_27 (by decide) ?_
  refine lv_iadd hx hb d_Re_put_28 ?_
  refine lv_iload_n hx hb d_Re_put_29 rfl (lv_at hl 2 rfl) ?_
  refine va_iast hx hb hK hP hD hS 1 0 rfl rfl (v3_2 h_r) d_Re_put_30 (fun H locs hP hD hS => ?_)
  have hP : va_P D classes (W_Re cI cL g0 g1 (upd (upd (upd R ((3 : Int32) * r).toNatClampNeg v) (((3 : Int32) * r) + (1 : Int32)).toNatClampNeg v) (((3 : Int32) * r) + (2 : Int32)).toNatClampNeg v) vo) H := hP
  have hD : va_D A (W_Re cI cL g0 g1 (upd (upd (upd R ((3 : Int32) * r).toNatClampNeg v) (((3 : Int32) * r) + (1 : Int32)).toNatClampNeg v) (((3 : Int32) * r) + (2 : Int32)).toNatClampNeg v) vo) := hD
  exact W.vret hx hb hr (fun t ht hW => ⟨⟨(), rfl, trivial, by show va_P D classes _ t.heap; rw [ht]; exact hP⟩, hS.F ht⟩) hS.2.2 d_Re_put_31 hlocks
abbrev q_Re_operand (D : va_G) (cI cL : ClassId) (g0 g1 : Nat) (A : Nat → Prop) (R : Nat → Int32) (vo : Int32) (F : Int32) : Array Value → State → Outcome → State → Prop := va_Qi (fun r (_ : Unit) => r = F) (fun _ t => va_P D classes (W_Re cI cL g0 g1 R vo) t.heap) A
theorem f_Re_operand_e0 (R : Nat → Int32) (r : Int32)  (h1 : ¬ r = 0) : f_Re_operand R r = ((f_Re_agreed R r)) := by
  exact (if_neg h1)
theorem f_Re_operand_e1 (R : Nat → Int32) (r : Int32)  (h1 : r = 0) : f_Re_operand R r = ((0 : Int32)) := by
  exact (if_pos h1)
set_option maxHeartbeats 4000000 in
set_option maxRecDepth 100000 in
theorem c_Re_operand (l : Launch) (D : va_G) (cI cL : ClassId) (g0 g1 : Nat) (sz : Nat) (R : Nat → Int32) (vo : Int32) (r : Int32) (h_r : vp_in r 32) : Met l y_Re_operand w_Re_operand ({ frames := 1, cells := 0, slots := 0, locals := 24 }) (va_Pc [.ref g0, .int r] (PW D cI cL (W_Re cI cL g0 g1 R vo) sz)) (q_Re_operand D cI cL g0 g1 (va_A (W_Re cI cL g0 g1 R vo) sz) R vo (f_Re_operand R r)) 0 0 (va_A (W_Re cI cL g0 g1 R vo) sz) := by
  refine mk_met (Qf := fun A => q_Re_operand D cI cL g0 g1 A R vo (f_Re_operand R r)) (by decide) (Nat.le_of_ble_eq_true rfl) ?_
  intro p e s m below meth c A ls hx hb hr hlocks hml hown hg hK hN hT hA hP hD hS hnm hl
  refine lv_iload_n hx hb d_Re_operand_0 rfl (lv_at hl 1 rfl) ?_
  refine lv_if_ne (tgt := 8) hx hb d_Re_operand_1 (by decide) (fun h1 => ?_) (fun h1 => ?_)
  · refine lv_aload_n hx hb d_Re_operand_8 rfl (lv_at hl 0 rfl) ?_
    refine lv_iload_n hx hb d_Re_operand_9 rfl (lv_at hl 1 rfl) ?_
    refine cj_i (wc := (W_Re cI cL g0 g1 R vo)) (w1 := (W_Re cI cL g0 g1 R vo)) hP hD hS hA [0, 1] rfl rfl (va_runV (rest := []) ⟨hx, hb, hml, hown, hg⟩ (c_Re_agreed l D cI cL g0 g1 _ R vo r h_r) ⟨callB_of 1 hg (gw_good m_248) rfl rfl rfl (hg _ m_68) (hg _ m_309) hd_Re_agreed ⟨Nat.le_of_ble_eq_true rfl, Nat.le_of_ble_eq_true rfl⟩, hg _ m_247, hg _ m_3⟩ (pw_V hK hN hT hA hP hD hS [0, 1] rfl (by decide) (q0 := 0) (ci := 3) rfl rfl) rfl rfl hl.1 rfl (lv_room (Nat.le_of_ble_eq_true rfl)) d_Re_operand_10 ⟨Nat.le_of_ble_eq_true rfl, Nat.le_of_ble_eq_true rfl⟩) (fun H locs hP hD hS => ?_)
    have hP : va_P D classes (W_Re cI cL g0 g1 R vo) H := hP
    have hD : va_D A (W_Re cI cL g0 g1 R vo) := hD
    rw [f_Re_operand_e0 R r h1]
    exact W.iret hx hb hr (fun t ht hW => ⟨⟨_, (), rfl, rfl, by show va_P D classes _ t.heap; rw [ht]; exact hP⟩, hS.F ht⟩) hS.2.2 d_Re_operand_13 hlocks
  · refine lv_iconst (v := 0) hx hb d_Re_operand_4 (by decide) ?_
    refine lv_goto (tgt := 13) hx hb d_Re_operand_5 (by decide) ?_
    rw [f_Re_operand_e1 R r h1]
    exact W.iret hx hb hr (fun t ht hW => ⟨⟨_, (), rfl, rfl, by show va_P D classes _ t.heap; rw [ht]; exact hP⟩, hS.F ht⟩) hS.2.2 d_Re_operand_13 hlocks
abbrev q_Re_putResult (D : va_G) (cI cL : ClassId) (g0 g1 : Nat) (A : Nat → Prop) (R : Nat → Int32) (vo : Int32) (F : (Nat → Int32)) : Array Value → State → Outcome → State → Prop := va_Qv (fun (_ : Unit) => True) (fun _ t => va_P D classes (W_Re cI cL g0 g1 F vo) t.heap) A
theorem f_Re_putResult_e0 (R : Nat → Int32) (r : Int32) (v : Int32)  (h1 : r = 0) : f_Re_putResult R r v = (R) := by
  exact (if_pos h1)
theorem f_Re_putResult_e1 (R : Nat → Int32) (r : Int32) (v : Int32)  (h1 : ¬ r = 0) : f_Re_putResult R r v = ((f_Re_put R r v)) := by
  exact (if_neg h1)
set_option maxHeartbeats 4000000 in
set_option maxRecDepth 100000 in
theorem c_Re_putResult (l : Launch) (D : va_G) (cI cL : ClassId) (g0 g1 : Nat) (sz : Nat) (R : Nat → Int32) (vo : Int32) (r : Int32) (v : Int32) (h_r : vp_in r 32) : Met l y_Re_putResult w_Re_putResult ({ frames := 1, cells := 0, slots := 0, locals := 22 }) (va_Pc [.ref g0, .int r, .int v] (PW D cI cL (W_Re cI cL g0 g1 R vo) sz)) (q_Re_putResult D cI cL g0 g1 (va_A (W_Re cI cL g0 g1 R vo) sz) R vo (f_Re_putResult R r v)) 0 0 (va_A (W_Re cI cL g0 g1 R vo) sz) := by
  refine mk_met (Qf := fun A => q_Re_putResult D cI cL g0 g1 A R vo (f_Re_putResult R r v)) (by decide) (Nat.le_of_ble_eq_true rfl) ?_
  intro p e s m below meth c A ls hx hb hr hlocks hml hown hg hK hN hT hA hP hD hS hnm hl
  refine lv_iload_n hx hb d_Re_putResult_0 rfl (lv_at hl 1 rfl) ?_
  refine lv_if_eq (tgt := 10) hx hb d_Re_putResult_1 (by decide) (fun h1 => ?_) (fun h1 => ?_)
  · rw [f_Re_putResult_e0 R r v h1]
    exact W.vret hx hb hr (fun t ht hW => ⟨⟨(), rfl, trivial, by show va_P D classes _ t.heap; rw [ht]; exact hP⟩, hS.F ht⟩) hS.2.2 d_Re_putResult_10 hlocks
  · refine lv_aload_n hx hb d_Re_putResult_4 rfl (lv_at hl 0 rfl) ?_
    refine lv_iload_n hx hb d_Re_putResult_5 rfl (lv_at hl 1 rfl) ?_
    refine lv_iload_n hx hb d_Re_putResult_6 rfl (lv_at hl 2 rfl) ?_
    refine cj_v (wc := (W_Re cI cL g0 g1 R vo)) (w1 := (W_Re cI cL g0 g1 (f_Re_put R r v) vo)) hP hD hS hA [0, 1] rfl rfl (va_runV (rest := []) ⟨hx, hb, hml, hown, hg⟩ (c_Re_put l D cI cL g0 g1 _ R vo r v h_r) ⟨callB_of 2 hg (gw_good m_240) rfl rfl rfl (hg _ m_68) (hg _ m_310) hd_Re_put ⟨Nat.le_of_ble_eq_true rfl, Nat.le_of_ble_eq_true rfl⟩, hg _ m_239, hg _ m_2⟩ (pw_V hK hN hT hA hP hD hS [0, 1] rfl (by decide) (q0 := 0) (ci := 3) rfl rfl) rfl rfl hl.1 rfl (lv_room (Nat.le_of_ble_eq_true rfl)) d_Re_putResult_7 ⟨Nat.le_of_ble_eq_true rfl, Nat.le_of_ble_eq_true rfl⟩) (fun H locs hP hD hS => ?_)
    have hP : va_P D classes (W_Re cI cL g0 g1 (f_Re_put R r v) vo) H := hP
    have hD : va_D A (W_Re cI cL g0 g1 (f_Re_put R r v) vo) := hD
    rw [f_Re_putResult_e1 R r v h1]
    exact W.vret hx hb hr (fun t ht hW => ⟨⟨(), rfl, trivial, by show va_P D classes _ t.heap; rw [ht]; exact hP⟩, hS.F ht⟩) hS.2.2 d_Re_putResult_10 hlocks
abbrev q_Re_vote (D : va_G) (cI cL : ClassId) (g0 g1 : Nat) (A : Nat → Prop) (R : Nat → Int32) (vo : Int32) (F : (Nat → Int32) × Int32) : Array Value → State → Outcome → State → Prop := va_Qv (fun (_ : Unit) => True) (fun _ t => va_P D classes (W_Re cI cL g0 g1 F.1 F.2) t.heap) A
theorem f_Re_vote_e1 (n : Nat) (j : Nat) (R_ : Nat → Int32) (vo_ : Int32)  (h28 : ¬ (R_ ((3 : Int32) * (nI j)).toNatClampNeg) = (R_ (((3 : Int32) * (nI j)) + (1 : Int32)).toNatClampNeg)) : f_Re_vote_l2 (n + 1) j R_ vo_ = f_Re_vote_l2  n (j + 1) (f_Re_put R_ (nI j) (f_Re_agreed R_ (nI j))) (vo_ + (1 : Int32)) := by
  exact (if_neg h28)
theorem f_Re_vote_e2 (n : Nat) (j : Nat) (R_ : Nat → Int32) (vo_ : Int32)  (h28 : (R_ ((3 : Int32) * (nI j)).toNatClampNeg) = (R_ (((3 : Int32) * (nI j)) + (1 : Int32)).toNatClampNeg)) (h42 : (R_ ((3 : Int32) * (nI j)).toNatClampNeg) = (R_ (((3 : Int32) * (nI j)) + (2 : Int32)).toNatClampNeg)) : f_Re_vote_l2 (n + 1) j R_ vo_ = f_Re_vote_l2  n (j + 1) R_ vo_ := by
  exact ((if_pos h28).trans (if_pos h42))
theorem f_Re_vote_e3 (n : Nat) (j : Nat) (R_ : Nat → Int32) (vo_ : Int32)  (h28 : (R_ ((3 : Int32) * (nI j)).toNatClampNeg) = (R_ (((3 : Int32) * (nI j)) + (1 : Int32)).toNatClampNeg)) (h42 : ¬ (R_ ((3 : Int32) * (nI j)).toNatClampNeg) = (R_ (((3 : Int32) * (nI j)) + (2 : Int32)).toNatClampNeg)) : f_Re_vote_l2 (n + 1) j R_ vo_ = f_Re_vote_l2  n (j + 1) (f_Re_put R_ (nI j) (f_Re_agreed R_ (nI j))) (vo_ + (1 : Int32)) := by
  exact ((if_pos h28).trans (if_neg h42))
set_option maxHeartbeats 4000000 in
set_option maxRecDepth 100000 in
theorem c_Re_vote (l : Launch) (D : va_G) (cI cL : ClassId) (g0 g1 : Nat) (sz : Nat) (R : Nat → Int32) (vo : Int32)   : Met l y_Re_vote w_Re_vote ({ frames := 1, cells := 0, slots := 0, locals := 24 }) (va_Pc [.ref g0] (PW D cI cL (W_Re cI cL g0 g1 R vo) sz)) (q_Re_vote D cI cL g0 g1 (va_A (W_Re cI cL g0 g1 R vo) sz) R vo (f_Re_vote R vo)) 0 0 (va_A (W_Re cI cL g0 g1 R vo) sz) := by
  refine mk_met (Qf := fun A => q_Re_vote D cI cL g0 g1 A R vo (f_Re_vote R vo)) (by decide) (Nat.le_of_ble_eq_true rfl) ?_
  intro p e s m below meth c A ls hx hb hr hlocks hml hown hg hK hN hT hA hP hD hS hnm hl
  refine lv_iconst (v := 0) hx hb d_Re_vote_0 (by decide) ?_
  refine lv_istore_n (lv' := [(1, .int _), (0, .ref _)]) hx hb d_Re_vote_1 rfl hl (by decide) rfl (fun ls hl => ?_)
  have loop : ∀ (n j : Nat) (R_ : Nat → Int32) (vo_ : Int32) (ls : Array Slot) (H : Heap) (locs : List Loc), j + n = 32 → lv_has ls 3 [(1, .int (nI j)), (0, .ref g0)] → va_P D classes (W_Re cI cL g0 g1 R_ vo_) H → va_D A (W_Re cI cL g0 g1 R_ vo_) → va_S A s.heap H locs → W p l e ({ frames := 1, cells := 0, slots := 0, locals := 24 } : Room) s m ([.ref g0] : List Value).toArray below meth c H locs 0 0 (MQ below (q_Re_vote D cI cL g0 g1 A R vo (f_Re_vote_l2  n j R_ vo_)) ([.ref g0] : List Value).toArray s 0 0 A) (F0 m 2 ls []) := by
    intro n
    induction n with
    | zero =>
      intro j R_ vo_ ls H locs hj  hl hP hD hS
      refine lv_iload_n hx hb d_Re_vote_2 rfl (lv_at hl 0 rfl) ?_
      refine lv_bipush (v := 32) hx hb d_Re_vote_3 (by decide) ?_
      refine lv_icmp_ge (tgt := 71) hx hb d_Re_vote_5 (by decide) (fun _ => ?_) (fun h => absurd (show nI 32 ≤ nI j from nI_le (by omega) (by omega)) h)
      exact W.vret hx hb hr (fun t ht hW => ⟨⟨(), rfl, trivial, by show va_P D classes _ t.heap; rw [ht]; exact hP⟩, hS.F ht⟩) hS.2.2 d_Re_vote_71 hlocks
    | succ n ih =>
      intro j R_ vo_ ls H locs hj  hl hP hD hS
      refine lv_iload_n hx hb d_Re_vote_2 rfl (lv_at hl 0 rfl) ?_
      refine lv_bipush (v := 32) hx hb d_Re_vote_3 (by decide) ?_
      refine lv_icmp_ge (tgt := 71) hx hb d_Re_vote_5 (by decide) (fun h => absurd h (show ¬ nI 32 ≤ nI j from nI_ge (by omega) (by decide))) (fun _ => ?_)
      refine lv_aload_n hx hb d_Re_vote_8 rfl (lv_at hl 1 rfl) ?_
      refine va_get (ci := 3) (C := R_Re) (T := F_Re) (N := 2) hx hb hg in_Re hown hK hP 0 rfl rfl 0 (by decide) (hg _ m_121) (fun _ h => h) rfl d_Re_vote_9 ?_
      refine lv_iconst (v := 3) hx hb d_Re_vote_12 (by decide) ?_
      refine lv_iload_n hx hb d_Re_vote_13 rfl (lv_at hl 0 rfl) ?_
      refine lv_imul hx hb d_Re_vote_14 ?_
      refine va_iald hx hb hK hP 1 0 rfl rfl (v3_0 (vp_in_nI (by omega) (by decide))) d_Re_vote_15 ?_
      refine lv_istore_n (lv' := [(2, .int _), (1, .int _), (0, .ref _)]) hx hb d_Re_vote_16 rfl hl (by decide) rfl (fun ls hl => ?_)
      refine lv_iload_n hx hb d_Re_vote_17 rfl (lv_at hl 0 rfl) ?_
      refine lv_aload_n hx hb d_Re_vote_18 rfl (lv_at hl 2 rfl) ?_
      refine va_get (ci := 3) (C := R_Re) (T := F_Re) (N := 2) hx hb hg in_Re hown hK hP 0 rfl rfl 0 (by decide) (hg _ m_121) (fun _ h => h) rfl d_Re_vote_19 ?_
      refine lv_iconst (v := 3) hx hb d_Re_vote_22 (by decide) ?_
      refine lv_iload_n hx hb d_Re_vote_23 rfl (lv_at hl 1 rfl) ?_
      refine lv_imul hx hb d_Re_vote_24 ?_
      refine lv_iconst (v := 1) hx hb d_Re_vote_25 (by decide) ?_
      refine lv_iadd hx hb d_Re_vote_26 ?_
      refine va_iald hx hb hK hP 1 0 rfl rfl (v3_1 (vp_in_nI (by omega) (by decide))) d_Re_vote_27 ?_
      refine lv_icmp_ne (tgt := 45) hx hb d_Re_vote_28 (by decide) (fun h28 => ?_) (fun h28 => ?_)
      · refine lv_aload_n hx hb d_Re_vote_45 rfl (lv_at hl 2 rfl) ?_
        refine lv_iload_n hx hb d_Re_vote_46 rfl (lv_at hl 1 rfl) ?_
        refine lv_aload_n hx hb d_Re_vote_47 rfl (lv_at hl 2 rfl) ?_
        refine lv_iload_n hx hb d_Re_vote_48 rfl (lv_at hl 1 rfl) ?_
        refine cj_i (wc := (W_Re cI cL g0 g1 R_ vo_)) (w1 := (W_Re cI cL g0 g1 R_ vo_)) hP hD hS hA [0, 1] rfl rfl (va_runV (rest := [.int _, .ref _]) ⟨hx, hb, hml, hown, hg⟩ (c_Re_agreed l D cI cL g0 g1 _ R_ vo_ (nI j) (vp_in_nI (by omega) (by decide))) ⟨callB_of 1 hg (gw_good m_248) rfl rfl rfl (hg _ m_68) (hg _ m_309) hd_Re_agreed ⟨Nat.le_of_ble_eq_true rfl, Nat.le_of_ble_eq_true rfl⟩, hg _ m_247, hg _ m_3⟩ (pw_V hK hN hT hA hP hD hS [0, 1] rfl (by decide) (q0 := 0) (ci := 3) rfl rfl) rfl rfl hl.1 rfl (lv_room (Nat.le_of_ble_eq_true rfl)) d_Re_vote_49 ⟨Nat.le_of_ble_eq_true rfl, Nat.le_of_ble_eq_true rfl⟩) (fun H locs hP hD hS => ?_)
        have hP : va_P D classes (W_Re cI cL g0 g1 R_ vo_) H := hP
        have hD : va_D A (W_Re cI cL g0 g1 R_ vo_) := hD
        refine cj_v (wc := (W_Re cI cL g0 g1 R_ vo_)) (w1 := (W_Re cI cL g0 g1 (f_Re_put R_ (nI j) (f_Re_agreed R_ (nI j))) vo_)) hP hD hS hA [0, 1] rfl rfl (va_runV (rest := []) ⟨hx, hb, hml, hown, hg⟩ (c_Re_put l D cI cL g0 g1 _ R_ vo_ (nI j) (f_Re_agreed R_ (nI j)) (vp_in_nI (by omega) (by decide))) ⟨callB_of 2 hg (gw_good m_240) rfl rfl rfl (hg _ m_68) (hg _ m_310) hd_Re_put ⟨Nat.le_of_ble_eq_true rfl, Nat.le_of_ble_eq_true rfl⟩, hg _ m_239, hg _ m_2⟩ (pw_V hK hN hT hA hP hD hS [0, 1] rfl (by decide) (q0 := 0) (ci := 3) rfl rfl) rfl rfl hl.1 rfl (lv_room (Nat.le_of_ble_eq_true rfl)) d_Re_vote_52 ⟨Nat.le_of_ble_eq_true rfl, Nat.le_of_ble_eq_true rfl⟩) (fun H locs hP hD hS => ?_)
        have hP : va_P D classes (W_Re cI cL g0 g1 (f_Re_put R_ (nI j) (f_Re_agreed R_ (nI j))) vo_) H := hP
        have hD : va_D A (W_Re cI cL g0 g1 (f_Re_put R_ (nI j) (f_Re_agreed R_ (nI j))) vo_) := hD
        refine lv_aload_n hx hb d_Re_vote_55 rfl (lv_at hl 2 rfl) ?_
        refine lv_dup hx hb d_Re_vote_56 rfl ?_
        refine va_get (ci := 3) (C := R_Re) (T := F_Re) (N := 2) hx hb hg in_Re hown hK hP 0 rfl rfl 1 (by decide) (hg _ m_123) (fun _ h => h) rfl d_Re_vote_57 ?_
        refine lv_iconst (v := 1) hx hb d_Re_vote_60 (by decide) ?_
        refine lv_iadd hx hb d_Re_vote_61 ?_
        refine va_put (ci := 3) (ty := .int) (C := R_Re) (T := F_Re) (N := 2) hx hb hg in_Re t_Re t_Re_ok n_Re hown hK hP hD hS 0 rfl rfl 1 (by decide) (hg _ m_123) (fun _ h => h) rfl (by decide +kernel) rfl rfl (Nat.le_of_ble_eq_true rfl) d_Re_vote_62 (fun H locs hP hD hS => ?_)
        have hP : va_P D classes (W_Re cI cL g0 g1 (f_Re_put R_ (nI j) (f_Re_agreed R_ (nI j))) (vo_ + (1 : Int32))) H := hP
        have hD : va_D A (W_Re cI cL g0 g1 (f_Re_put R_ (nI j) (f_Re_agreed R_ (nI j))) (vo_ + (1 : Int32))) := hD
        refine lv_iinc (k := 1) (v := nI (_ + 1)) (lv' := [(1, .int _), (2, .int _), (0, .ref _)]) hx hb d_Re_vote_65 hl rfl (nI_1 _) (by decide) rfl (fun ls hl => ?_)
        refine lv_goto (tgt := 2) hx hb d_Re_vote_68 (by decide) ?_
        rw [f_Re_vote_e1 (n) j R_ vo_ h28]
        exact ih (j + 1) _ _ _ _ _ (by omega)  (lv_sub hl [0, 2] rfl) hP hD hS
      · refine lv_iload_n hx hb d_Re_vote_31 rfl (lv_at hl 0 rfl) ?_
        refine lv_aload_n hx hb d_Re_vote_32 rfl (lv_at hl 2 rfl) ?_
        refine va_get (ci := 3) (C := R_Re) (T := F_Re) (N := 2) hx hb hg in_Re hown hK hP 0 rfl rfl 0 (by decide) (hg _ m_121) (fun _ h => h) rfl d_Re_vote_33 ?_
        refine lv_iconst (v := 3) hx hb d_Re_vote_36 (by decide) ?_
        refine lv_iload_n hx hb d_Re_vote_37 rfl (lv_at hl 1 rfl) ?_
        refine lv_imul hx hb d_Re_vote_38 ?_
        refine lv_iconst (v := 2) hx hb d_Re_vote_39 (by decide) ?_
        refine lv_iadd hx hb d_Re_vote_40 ?_
        refine va_iald hx hb hK hP 1 0 rfl rfl (v3_2 (vp_in_nI (by omega) (by decide))) d_Re_vote_41 ?_
        refine lv_icmp_eq (tgt := 65) hx hb d_Re_vote_42 (by decide) (fun h42 => ?_) (fun h42 => ?_)
        · refine lv_iinc (k := 1) (v := nI (_ + 1)) (lv' := [(1, .int _), (2, .int _), (0, .ref _)]) hx hb d_Re_vote_65 hl rfl (nI_1 _) (by decide) rfl (fun ls hl => ?_)
          refine lv_goto (tgt := 2) hx hb d_Re_vote_68 (by decide) ?_
          rw [f_Re_vote_e2 (n) j R_ vo_ h28 h42]
          exact ih (j + 1) _ _ _ _ _ (by omega)  (lv_sub hl [0, 2] rfl) hP hD hS
        · refine lv_aload_n hx hb d_Re_vote_45 rfl (lv_at hl 2 rfl) ?_
          refine lv_iload_n hx hb d_Re_vote_46 rfl (lv_at hl 1 rfl) ?_
          refine lv_aload_n hx hb d_Re_vote_47 rfl (lv_at hl 2 rfl) ?_
          refine lv_iload_n hx hb d_Re_vote_48 rfl (lv_at hl 1 rfl) ?_
          refine cj_i (wc := (W_Re cI cL g0 g1 R_ vo_)) (w1 := (W_Re cI cL g0 g1 R_ vo_)) hP hD hS hA [0, 1] rfl rfl (va_runV (rest := [.int _, .ref _]) ⟨hx, hb, hml, hown, hg⟩ (c_Re_agreed l D cI cL g0 g1 _ R_ vo_ (nI j) (vp_in_nI (by omega) (by decide))) ⟨callB_of 1 hg (gw_good m_248) rfl rfl rfl (hg _ m_68) (hg _ m_309) hd_Re_agreed ⟨Nat.le_of_ble_eq_true rfl, Nat.le_of_ble_eq_true rfl⟩, hg _ m_247, hg _ m_3⟩ (pw_V hK hN hT hA hP hD hS [0, 1] rfl (by decide) (q0 := 0) (ci := 3) rfl rfl) rfl rfl hl.1 rfl (lv_room (Nat.le_of_ble_eq_true rfl)) d_Re_vote_49 ⟨Nat.le_of_ble_eq_true rfl, Nat.le_of_ble_eq_true rfl⟩) (fun H locs hP hD hS => ?_)
          have hP : va_P D classes (W_Re cI cL g0 g1 R_ vo_) H := hP
          have hD : va_D A (W_Re cI cL g0 g1 R_ vo_) := hD
          refine cj_v (wc := (W_Re cI cL g0 g1 R_ vo_)) (w1 := (W_Re cI cL g0 g1 (f_Re_put R_ (nI j) (f_Re_agreed R_ (nI j))) vo_)) hP hD hS hA [0, 1] rfl rfl (va_runV (rest := []) ⟨hx, hb, hml, hown, hg⟩ (c_Re_put l D cI cL g0 g1 _ R_ vo_ (nI j) (f_Re_agreed R_ (nI j)) (vp_in_nI (by omega) (by decide))) ⟨callB_of 2 hg (gw_good m_240) rfl rfl rfl (hg _ m_68) (hg _ m_310) hd_Re_put ⟨Nat.le_of_ble_eq_true rfl, Nat.le_of_ble_eq_true rfl⟩, hg _ m_239, hg _ m_2⟩ (pw_V hK hN hT hA hP hD hS [0, 1] rfl (by decide) (q0 := 0) (ci := 3) rfl rfl) rfl rfl hl.1 rfl (lv_room (Nat.le_of_ble_eq_true rfl)) d_Re_vote_52 ⟨Nat.le_of_ble_eq_true rfl, Nat.le_of_ble_eq_true rfl⟩) (fun H locs hP hD hS => ?_)
          have hP : va_P D classes (W_Re cI cL g0 g1 (f_Re_put R_ (nI j) (f_Re_agreed R_ (nI j))) vo_) H := hP
          have hD : va_D A (W_Re cI cL g0 g1 (f_Re_put R_ (nI j) (f_Re_agreed R_ (nI j))) vo_) := hD
          refine lv_aload_n hx hb d_Re_vote_55 rfl (lv_at hl 2 rfl) ?_
          refine lv_dup hx hb d_Re_vote_56 rfl ?_
          refine va_get (ci := 3) (C := R_Re) (T := F_Re) (N := 2) hx hb hg in_Re hown hK hP 0 rfl rfl 1 (by decide) (hg _ m_123) (fun _ h => h) rfl d_Re_vote_57 ?_
          refine lv_iconst (v := 1) hx hb d_Re_vote_60 (by decide) ?_
          refine lv_iadd hx hb d_Re_vote_61 ?_
          refine va_put (ci := 3) (ty := .int) (C := R_Re) (T := F_Re) (N := 2) hx hb hg in_Re t_Re t_Re_ok n_Re hown hK hP hD hS 0 rfl rfl 1 (by decide) (hg _ m_123) (fun _ h => h) rfl (by decide +kernel) rfl rfl (Nat.le_of_ble_eq_true rfl) d_Re_vote_62 (fun H locs hP hD hS => ?_)
          have hP : va_P D classes (W_Re cI cL g0 g1 (f_Re_put R_ (nI j) (f_Re_agreed R_ (nI j))) (vo_ + (1 : Int32))) H := hP
          have hD : va_D A (W_Re cI cL g0 g1 (f_Re_put R_ (nI j) (f_Re_agreed R_ (nI j))) (vo_ + (1 : Int32))) := hD
          refine lv_iinc (k := 1) (v := nI (_ + 1)) (lv' := [(1, .int _), (2, .int _), (0, .ref _)]) hx hb d_Re_vote_65 hl rfl (nI_1 _) (by decide) rfl (fun ls hl => ?_)
          refine lv_goto (tgt := 2) hx hb d_Re_vote_68 (by decide) ?_
          rw [f_Re_vote_e3 (n) j R_ vo_ h28 h42]
          exact ih (j + 1) _ _ _ _ _ (by omega)  (lv_sub hl [0, 2] rfl) hP hD hS
  exact loop 32 0 _ _ _ _ _ (by omega)  hl hP hD hS
abbrev q_Fa_append (D : va_G) (cI cL : ClassId) (g0 g1 g2 g3 : Nat) (A : Nat → Prop) (FC : Nat → Int32) (FP : Nat → Int32) (FB : Nat → Int32) (fs : Int32) (F : (Nat → Int32) × (Nat → Int32) × (Nat → Int32) × Int32) : Array Value → State → Outcome → State → Prop := va_Qv (fun (_ : Unit) => True) (fun _ t => va_P D classes (W_Fa cI cL g0 g1 g2 g3 F.1 F.2.1 F.2.2.1 F.2.2.2) t.heap) A
set_option maxHeartbeats 4000000 in
set_option maxRecDepth 100000 in
theorem c_Fa_append (l : Launch) (D : va_G) (cI cL : ClassId) (g0 g1 g2 g3 : Nat) (sz : Nat) (FC : Nat → Int32) (FP : Nat → Int32) (FB : Nat → Int32) (fs : Int32) (dc : Int32) (dp : Int32) (db : Int32) (h_fs : vp_in fs 16) : Met l y_Fa_append w_Fa_append ({ frames := 0, cells := 0, slots := 0, locals := 0 }) (va_Pc [.ref g0, .int dc, .int dp, .int db] (PW D cI cL (W_Fa cI cL g0 g1 g2 g3 FC FP FB fs) sz)) (q_Fa_append D cI cL g0 g1 g2 g3 (va_A (W_Fa cI cL g0 g1 g2 g3 FC FP FB fs) sz) FC FP FB fs (f_Fa_append FC FP FB fs dc dp db)) 0 0 (va_A (W_Fa cI cL g0 g1 g2 g3 FC FP FB fs) sz) := by
  refine mk_met (Qf := fun A => q_Fa_append D cI cL g0 g1 g2 g3 A FC FP FB fs (f_Fa_append FC FP FB fs dc dp db)) (by decide) (Nat.le_of_ble_eq_true rfl) ?_
  intro p e s m below meth c A ls hx hb hr hlocks hml hown hg hK hN hT hA hP hD hS hnm hl
  refine lv_aload_n hx hb d_Fa_append_0 rfl (lv_at hl 0 rfl) ?_
  refine va_get (ci := 4) (C := R_Fa) (T := F_Fa) (N := 4) hx hb hg in_Fa hown hK hP 0 rfl rfl 0 (by decide) (hg _ m_137) (fun _ h => h) rfl d_Fa_append_1 ?_
  refine lv_aload_n hx hb d_Fa_append_4 rfl (lv_at hl 0 rfl) ?_
  refine va_get (ci := 4) (C := R_Fa) (T := F_Fa) (N := 4) hx hb hg in_Fa hown hK hP 0 rfl rfl 3 (by decide) (hg _ m_143) (fun _ h => h) rfl d_Fa_append_5 ?_
  refine lv_iload_n hx hb d_Fa_append_8 rfl (lv_at hl 1 rfl) ?_
  refine va_iast hx hb hK hP hD hS 1 0 rfl rfl h_fs d_Fa_append_9 (fun H locs hP hD hS => ?_)
  have hP : va_P D classes (W_Fa cI cL g0 g1 g2 g3 (upd FC fs.toNatClampNeg dc) FP FB fs) H := hP
  have hD : va_D A (W_Fa cI cL g0 g1 g2 g3 (upd FC fs.toNatClampNeg dc) FP FB fs) := hD
  refine lv_aload_n hx hb d_Fa_append_10 rfl (lv_at hl 0 rfl) ?_
  refine va_get (ci := 4) (C := R_Fa) (T := F_Fa) (N := 4) hx hb hg in_Fa hown hK hP 0 rfl rfl 1 (by decide) (hg _ m_139) (fun _ h => h) rfl d_Fa_append_11 ?_
  refine lv_aload_n hx hb d_Fa_append_14 rfl (lv_at hl 0 rfl) ?_
  refine va_get (ci := 4) (C := R_Fa) (T := F_Fa) (N := 4) hx hb hg in_Fa hown hK hP 0 rfl rfl 3 (by decide) (hg _ m_143) (fun _ h => h) rfl d_Fa_append_15 ?_
  refine lv_iload_n hx hb d_Fa_append_18 rfl (lv_at hl 2 rfl) ?_
  refine va_iast hx hb hK hP hD hS 2 0 rfl rfl h_fs d_Fa_append_19 (fun H locs hP hD hS => ?_)
  have hP : va_P D classes (W_Fa cI cL g0 g1 g2 g3 (upd FC fs.toNatClampNeg dc) (upd FP fs.toNatClampNeg dp) FB fs) H := hP
  have hD : va_D A (W_Fa cI cL g0 g1 g2 g3 (upd FC fs.toNatClampNeg dc) (upd FP fs.toNatClampNeg dp) FB fs) := hD
  refine lv_aload_n hx hb d_Fa_append_20 rfl (lv_at hl 0 rfl) ?_
  refine va_get (ci := 4) (C := R_Fa) (T := F_Fa) (N := 4) hx hb hg in_Fa hown hK hP 0 rfl rfl 2 (by decide) (hg _ m_141) (fun _ h => h) rfl d_Fa_append_21 ?_
  refine lv_aload_n hx hb d_Fa_append_24 rfl (lv_at hl 0 rfl) ?_
  refine va_get (ci := 4) (C := R_Fa) (T := F_Fa) (N := 4) hx hb hg in_Fa hown hK hP 0 rfl rfl 3 (by decide) (hg _ m_143) (fun _ h => h) rfl d_Fa_append_25 ?_
  refine lv_iload_n hx hb d_Fa_append_28 rfl (lv_at hl 3 rfl) ?_
  refine va_iast hx hb hK hP hD hS 3 0 rfl rfl h_fs d_Fa_append_29 (fun H locs hP hD hS => ?_)
  have hP : va_P D classes (W_Fa cI cL g0 g1 g2 g3 (upd FC fs.toNatClampNeg dc) (upd FP fs.toNatClampNeg dp) (upd FB fs.toNatClampNeg db) fs) H := hP
  have hD : va_D A (W_Fa cI cL g0 g1 g2 g3 (upd FC fs.toNatClampNeg dc) (upd FP fs.toNatClampNeg dp) (upd FB fs.toNatClampNeg db) fs) := hD
  refine lv_aload_n hx hb d_Fa_append_30 rfl (lv_at hl 0 rfl) ?_
  refine lv_dup hx hb d_Fa_append_31 rfl ?_
  refine va_get (ci := 4) (C := R_Fa) (T := F_Fa) (N := 4) hx hb hg in_Fa hown hK hP 0 rfl rfl 3 (by decide) (hg _ m_143) (fun _ h => h) rfl d_Fa_append_32 ?_
  refine lv_iconst (v := 1) hx hb d_Fa_append_35 (by decide) ?_
  refine lv_iadd hx hb d_Fa_append_36 ?_
  refine va_put (ci := 4) (ty := .int) (C := R_Fa) (T := F_Fa) (N := 4) hx hb hg in_Fa t_Fa t_Fa_ok n_Fa hown hK hP hD hS 0 rfl rfl 3 (by decide) (hg _ m_143) (fun _ h => h) rfl (by decide +kernel) rfl rfl (Nat.le_of_ble_eq_true rfl) d_Fa_append_37 (fun H locs hP hD hS => ?_)
  have hP : va_P D classes (W_Fa cI cL g0 g1 g2 g3 (upd FC fs.toNatClampNeg dc) (upd FP fs.toNatClampNeg dp) (upd FB fs.toNatClampNeg db) (fs + (1 : Int32))) H := hP
  have hD : va_D A (W_Fa cI cL g0 g1 g2 g3 (upd FC fs.toNatClampNeg dc) (upd FP fs.toNatClampNeg dp) (upd FB fs.toNatClampNeg db) (fs + (1 : Int32))) := hD
  exact W.vret hx hb hr (fun t ht hW => ⟨⟨(), rfl, trivial, by show va_P D classes _ t.heap; rw [ht]; exact hP⟩, hS.F ht⟩) hS.2.2 d_Fa_append_40 hlocks
abbrev q_Fa_move (D : va_G) (cI cL : ClassId) (g0 g1 g2 g3 : Nat) (A : Nat → Prop) (FC : Nat → Int32) (FP : Nat → Int32) (FB : Nat → Int32) (fs : Int32) (F : (Nat → Int32) × (Nat → Int32) × (Nat → Int32)) : Array Value → State → Outcome → State → Prop := va_Qv (fun (_ : Unit) => True) (fun _ t => va_P D classes (W_Fa cI cL g0 g1 g2 g3 F.1 F.2.1 F.2.2 fs) t.heap) A
set_option maxHeartbeats 4000000 in
set_option maxRecDepth 100000 in
theorem c_Fa_move (l : Launch) (D : va_G) (cI cL : ClassId) (g0 g1 g2 g3 : Nat) (sz : Nat) (FC : Nat → Int32) (FP : Nat → Int32) (FB : Nat → Int32) (fs : Int32) (i : Int32) (j : Int32) (h_i : vp_in i 16) (h_j : vp_in j 16) : Met l y_Fa_move w_Fa_move ({ frames := 0, cells := 0, slots := 0, locals := 0 }) (va_Pc [.ref g0, .int i, .int j] (PW D cI cL (W_Fa cI cL g0 g1 g2 g3 FC FP FB fs) sz)) (q_Fa_move D cI cL g0 g1 g2 g3 (va_A (W_Fa cI cL g0 g1 g2 g3 FC FP FB fs) sz) FC FP FB fs (f_Fa_move FC FP FB i j)) 0 0 (va_A (W_Fa cI cL g0 g1 g2 g3 FC FP FB fs) sz) := by
  refine mk_met (Qf := fun A => q_Fa_move D cI cL g0 g1 g2 g3 A FC FP FB fs (f_Fa_move FC FP FB i j)) (by decide) (Nat.le_of_ble_eq_true rfl) ?_
  intro p e s m below meth c A ls hx hb hr hlocks hml hown hg hK hN hT hA hP hD hS hnm hl
  refine lv_aload_n hx hb d_Fa_move_0 rfl (lv_at hl 0 rfl) ?_
  refine va_get (ci := 4) (C := R_Fa) (T := F_Fa) (N := 4) hx hb hg in_Fa hown hK hP 0 rfl rfl 0 (by decide) (hg _ m_137) (fun _ h => h) rfl d_Fa_move_1 ?_
  refine lv_iload_n hx hb d_Fa_move_4 rfl (lv_at hl 2 rfl) ?_
  refine lv_aload_n hx hb d_Fa_move_5 rfl (lv_at hl 0 rfl) ?_
  refine va_get (ci := 4) (C := R_Fa) (T := F_Fa) (N := 4) hx hb hg in_Fa hown hK hP 0 rfl rfl 0 (by decide) (hg _ m_137) (fun _ h => h) rfl d_Fa_move_6 ?_
  refine lv_iload_n hx hb d_Fa_move_9 rfl (lv_at hl 1 rfl) ?_
  refine va_iald hx hb hK hP 1 0 rfl rfl h_i d_Fa_move_10 ?_
  refine va_iast hx hb hK hP hD hS 1 0 rfl rfl h_j d_Fa_move_11 (fun H locs hP hD hS => ?_)
  have hP : va_P D classes (W_Fa cI cL g0 g1 g2 g3 (upd FC j.toNatClampNeg (FC i.toNatClampNeg)) FP FB fs) H := hP
  have hD : va_D A (W_Fa cI cL g0 g1 g2 g3 (upd FC j.toNatClampNeg (FC i.toNatClampNeg)) FP FB fs) := hD
  refine lv_aload_n hx hb d_Fa_move_12 rfl (lv_at hl 0 rfl) ?_
  refine va_get (ci := 4) (C := R_Fa) (T := F_Fa) (N := 4) hx hb hg in_Fa hown hK hP 0 rfl rfl 1 (by decide) (hg _ m_139) (fun _ h => h) rfl d_Fa_move_13 ?_
  refine lv_iload_n hx hb d_Fa_move_16 rfl (lv_at hl 2 rfl) ?_
  refine lv_aload_n hx hb d_Fa_move_17 rfl (lv_at hl 0 rfl) ?_
  refine va_get (ci := 4) (C := R_Fa) (T := F_Fa) (N := 4) hx hb hg in_Fa hown hK hP 0 rfl rfl 1 (by decide) (hg _ m_139) (fun _ h => h) rfl d_Fa_move_18 ?_
  refine lv_iload_n hx hb d_Fa_move_21 rfl (lv_at hl 1 rfl) ?_
  refine va_iald hx hb hK hP 2 0 rfl rfl h_i d_Fa_move_22 ?_
  refine va_iast hx hb hK hP hD hS 2 0 rfl rfl h_j d_Fa_move_23 (fun H locs hP hD hS => ?_)
  have hP : va_P D classes (W_Fa cI cL g0 g1 g2 g3 (upd FC j.toNatClampNeg (FC i.toNatClampNeg)) (upd FP j.toNatClampNeg (FP i.toNatClampNeg)) FB fs) H := hP
  have hD : va_D A (W_Fa cI cL g0 g1 g2 g3 (upd FC j.toNatClampNeg (FC i.toNatClampNeg)) (upd FP j.toNatClampNeg (FP i.toNatClampNeg)) FB fs) := hD
  refine lv_aload_n hx hb d_Fa_move_24 rfl (lv_at hl 0 rfl) ?_
  refine va_get (ci := 4) (C := R_Fa) (T := F_Fa) (N := 4) hx hb hg in_Fa hown hK hP 0 rfl rfl 2 (by decide) (hg _ m_141) (fun _ h => h) rfl d_Fa_move_25 ?_
  refine lv_iload_n hx hb d_Fa_move_28 rfl (lv_at hl 2 rfl) ?_
  refine lv_aload_n hx hb d_Fa_move_29 rfl (lv_at hl 0 rfl) ?_
  refine va_get (ci := 4) (C := R_Fa) (T := F_Fa) (N := 4) hx hb hg in_Fa hown hK hP 0 rfl rfl 2 (by decide) (hg _ m_141) (fun _ h => h) rfl d_Fa_move_30 ?_
  refine lv_iload_n hx hb d_Fa_move_33 rfl (lv_at hl 1 rfl) ?_
  refine va_iald hx hb hK hP 3 0 rfl rfl h_i d_Fa_move_34 ?_
  refine va_iast hx hb hK hP hD hS 3 0 rfl rfl h_j d_Fa_move_35 (fun H locs hP hD hS => ?_)
  have hP : va_P D classes (W_Fa cI cL g0 g1 g2 g3 (upd FC j.toNatClampNeg (FC i.toNatClampNeg)) (upd FP j.toNatClampNeg (FP i.toNatClampNeg)) (upd FB j.toNatClampNeg (FB i.toNatClampNeg)) fs) H := hP
  have hD : va_D A (W_Fa cI cL g0 g1 g2 g3 (upd FC j.toNatClampNeg (FC i.toNatClampNeg)) (upd FP j.toNatClampNeg (FP i.toNatClampNeg)) (upd FB j.toNatClampNeg (FB i.toNatClampNeg)) fs) := hD
  exact W.vret hx hb hr (fun t ht hW => ⟨⟨(), rfl, trivial, by show va_P D classes _ t.heap; rw [ht]; exact hP⟩, hS.F ht⟩) hS.2.2 d_Fa_move_36 hlocks
end
section
abbrev q_V_isWord (D : va_G) (cI cL : ClassId) (A : Nat → Prop)  (F : Int32) : Array Value → State → Outcome → State → Prop := va_Qi (fun r (_ : Unit) => r = F) (fun _ t => va_P D classes [] t.heap) A
theorem f_V_isWord_e0 (w : Int32)  (h1 : w < 0) : f_V_isWord w = ((0 : Int32)) := by
  exact (if_pos h1)
theorem f_V_isWord_e1 (w : Int32)  (h1 : ¬ w < 0) (h7 : (64 : Int32) ≤ w) : f_V_isWord w = ((0 : Int32)) := by
  exact ((if_neg h1).trans (if_pos h7))
theorem f_V_isWord_e2 (w : Int32)  (h1 : ¬ w < 0) (h7 : ¬ (64 : Int32) ≤ w) : f_V_isWord w = ((1 : Int32)) := by
  exact ((if_neg h1).trans (if_neg h7))
set_option maxHeartbeats 4000000 in
set_option maxRecDepth 100000 in
theorem c_V_isWord (l : Launch) (D : va_G) (cI cL : ClassId) (sz : Nat)  (w : Int32)  : Met l y_V_isWord w_V_isWord ({ frames := 0, cells := 0, slots := 0, locals := 0 }) (va_Pc [.int w] (PW D cI cL [] sz)) (q_V_isWord D cI cL (va_A [] sz)  (f_V_isWord w)) 0 0 (va_A [] sz) := by
  refine mk_met (Qf := fun A => q_V_isWord D cI cL A  (f_V_isWord w)) (by decide) (Nat.le_of_ble_eq_true rfl) ?_
  intro p e s m below meth c A ls hx hb hr hlocks hml hown hg hK hN hT hA hP hD hS hnm hl
  refine lv_iload_n hx hb d_V_isWord_0 rfl (lv_at hl 0 rfl) ?_
  refine lv_if_lt (tgt := 14) hx hb d_V_isWord_1 (by decide) (fun h1 => ?_) (fun h1 => ?_)
  · refine lv_iconst (v := 0) hx hb d_V_isWord_14 (by decide) ?_
    rw [f_V_isWord_e0 w h1]
    exact W.zret hx hb hr rfl (fun t ht hW => ⟨⟨_, (), rfl, rfl, by show va_P D classes _ t.heap; rw [ht]; exact hP⟩, hS.F ht⟩) hS.2.2 d_V_isWord_15 hlocks
  · refine lv_iload_n hx hb d_V_isWord_4 rfl (lv_at hl 0 rfl) ?_
    refine lv_bipush (v := 64) hx hb d_V_isWord_5 (by decide) ?_
    refine lv_icmp_ge (tgt := 14) hx hb d_V_isWord_7 (by decide) (fun h7 => ?_) (fun h7 => ?_)
    · refine lv_iconst (v := 0) hx hb d_V_isWord_14 (by decide) ?_
      rw [f_V_isWord_e1 w h1 h7]
      exact W.zret hx hb hr rfl (fun t ht hW => ⟨⟨_, (), rfl, rfl, by show va_P D classes _ t.heap; rw [ht]; exact hP⟩, hS.F ht⟩) hS.2.2 d_V_isWord_15 hlocks
    · refine lv_iconst (v := 1) hx hb d_V_isWord_10 (by decide) ?_
      refine lv_goto (tgt := 15) hx hb d_V_isWord_11 (by decide) ?_
      rw [f_V_isWord_e2 w h1 h7]
      exact W.zret hx hb hr rfl (fun t ht hW => ⟨⟨_, (), rfl, rfl, by show va_P D classes _ t.heap; rw [ht]; exact hP⟩, hS.F ht⟩) hS.2.2 d_V_isWord_15 hlocks
abbrev q_V_isRegister (D : va_G) (cI cL : ClassId) (A : Nat → Prop)  (F : Int32) : Array Value → State → Outcome → State → Prop := va_Qi (fun r (_ : Unit) => r = F) (fun _ t => va_P D classes [] t.heap) A
theorem f_V_isRegister_e0 (w : Int32)  (h1 : w < 0) : f_V_isRegister w = ((0 : Int32)) := by
  exact (if_pos h1)
theorem f_V_isRegister_e1 (w : Int32)  (h1 : ¬ w < 0) (h7 : (32 : Int32) ≤ w) : f_V_isRegister w = ((0 : Int32)) := by
  exact ((if_neg h1).trans (if_pos h7))
theorem f_V_isRegister_e2 (w : Int32)  (h1 : ¬ w < 0) (h7 : ¬ (32 : Int32) ≤ w) : f_V_isRegister w = ((1 : Int32)) := by
  exact ((if_neg h1).trans (if_neg h7))
set_option maxHeartbeats 4000000 in
set_option maxRecDepth 100000 in
theorem c_V_isRegister (l : Launch) (D : va_G) (cI cL : ClassId) (sz : Nat)  (w : Int32)  : Met l y_V_isRegister w_V_isRegister ({ frames := 0, cells := 0, slots := 0, locals := 0 }) (va_Pc [.int w] (PW D cI cL [] sz)) (q_V_isRegister D cI cL (va_A [] sz)  (f_V_isRegister w)) 0 0 (va_A [] sz) := by
  refine mk_met (Qf := fun A => q_V_isRegister D cI cL A  (f_V_isRegister w)) (by decide) (Nat.le_of_ble_eq_true rfl) ?_
  intro p e s m below meth c A ls hx hb hr hlocks hml hown hg hK hN hT hA hP hD hS hnm hl
  refine lv_iload_n hx hb d_V_isRegister_0 rfl (lv_at hl 0 rfl) ?_
  refine lv_if_lt (tgt := 14) hx hb d_V_isRegister_1 (by decide) (fun h1 => ?_) (fun h1 => ?_)
  · refine lv_iconst (v := 0) hx hb d_V_isRegister_14 (by decide) ?_
    rw [f_V_isRegister_e0 w h1]
    exact W.zret hx hb hr rfl (fun t ht hW => ⟨⟨_, (), rfl, rfl, by show va_P D classes _ t.heap; rw [ht]; exact hP⟩, hS.F ht⟩) hS.2.2 d_V_isRegister_15 hlocks
  · refine lv_iload_n hx hb d_V_isRegister_4 rfl (lv_at hl 0 rfl) ?_
    refine lv_bipush (v := 32) hx hb d_V_isRegister_5 (by decide) ?_
    refine lv_icmp_ge (tgt := 14) hx hb d_V_isRegister_7 (by decide) (fun h7 => ?_) (fun h7 => ?_)
    · refine lv_iconst (v := 0) hx hb d_V_isRegister_14 (by decide) ?_
      rw [f_V_isRegister_e1 w h1 h7]
      exact W.zret hx hb hr rfl (fun t ht hW => ⟨⟨_, (), rfl, rfl, by show va_P D classes _ t.heap; rw [ht]; exact hP⟩, hS.F ht⟩) hS.2.2 d_V_isRegister_15 hlocks
    · refine lv_iconst (v := 1) hx hb d_V_isRegister_10 (by decide) ?_
      refine lv_goto (tgt := 15) hx hb d_V_isRegister_11 (by decide) ?_
      rw [f_V_isRegister_e2 w h1 h7]
      exact W.zret hx hb hr rfl (fun t ht hW => ⟨⟨_, (), rfl, rfl, by show va_P D classes _ t.heap; rw [ht]; exact hP⟩, hS.F ht⟩) hS.2.2 d_V_isRegister_15 hlocks
abbrev q_V_isBit (D : va_G) (cI cL : ClassId) (A : Nat → Prop)  (F : Int32) : Array Value → State → Outcome → State → Prop := va_Qi (fun r (_ : Unit) => r = F) (fun _ t => va_P D classes [] t.heap) A
theorem f_V_isBit_e0 (part : Int32) (bit : Int32)  (h1 : part < 0) : f_V_isBit part bit = ((0 : Int32)) := by
  exact (if_pos h1)
theorem f_V_isBit_e1 (part : Int32) (bit : Int32)  (h1 : ¬ part < 0) (h8 : (168 : Int32) ≤ part) : f_V_isBit part bit = ((0 : Int32)) := by
  exact ((if_neg h1).trans (if_pos h8))
theorem f_V_isBit_e2 (part : Int32) (bit : Int32)  (h1 : ¬ part < 0) (h8 : ¬ (168 : Int32) ≤ part) (h12 : 0 ≤ bit) (h20 : (64 : Int32) ≤ part) (h40 : (160 : Int32) ≤ part) (h50 : (38 : Int32) ≤ bit) : f_V_isBit part bit = ((0 : Int32)) := by
  exact ((if_neg h1).trans ((if_neg h8).trans ((if_pos h12).trans ((if_pos h20).trans ((if_pos h40).trans (if_pos h50))))))
theorem f_V_isBit_e3 (part : Int32) (bit : Int32)  (h1 : ¬ part < 0) (h8 : ¬ (168 : Int32) ≤ part) (h12 : 0 ≤ bit) (h20 : (64 : Int32) ≤ part) (h40 : (160 : Int32) ≤ part) (h50 : ¬ (38 : Int32) ≤ bit) : f_V_isBit part bit = ((1 : Int32)) := by
  exact ((if_neg h1).trans ((if_neg h8).trans ((if_pos h12).trans ((if_pos h20).trans ((if_pos h40).trans (if_neg h50))))))
theorem f_V_isBit_e4 (part : Int32) (bit : Int32)  (h1 : ¬ part < 0) (h8 : ¬ (168 : Int32) ≤ part) (h12 : 0 ≤ bit) (h20 : (64 : Int32) ≤ part) (h40 : ¬ (160 : Int32) ≤ part) (h50 : (32 : Int32) ≤ bit) : f_V_isBit part bit = ((0 : Int32)) := by
  exact ((if_neg h1).trans ((if_neg h8).trans ((if_pos h12).trans ((if_pos h20).trans ((if_neg h40).trans (if_pos h50))))))
theorem f_V_isBit_e5 (part : Int32) (bit : Int32)  (h1 : ¬ part < 0) (h8 : ¬ (168 : Int32) ≤ part) (h12 : 0 ≤ bit) (h20 : (64 : Int32) ≤ part) (h40 : ¬ (160 : Int32) ≤ part) (h50 : ¬ (32 : Int32) ≤ bit) : f_V_isBit part bit = ((1 : Int32)) := by
  exact ((if_neg h1).trans ((if_neg h8).trans ((if_pos h12).trans ((if_pos h20).trans ((if_neg h40).trans (if_neg h50))))))
theorem f_V_isBit_e6 (part : Int32) (bit : Int32)  (h1 : ¬ part < 0) (h8 : ¬ (168 : Int32) ≤ part) (h12 : 0 ≤ bit) (h20 : ¬ (64 : Int32) ≤ part) (h26 : (39 : Int32) ≤ bit) : f_V_isBit part bit = ((0 : Int32)) := by
  exact ((if_neg h1).trans ((if_neg h8).trans ((if_pos h12).trans ((if_neg h20).trans (if_pos h26)))))
theorem f_V_isBit_e7 (part : Int32) (bit : Int32)  (h1 : ¬ part < 0) (h8 : ¬ (168 : Int32) ≤ part) (h12 : 0 ≤ bit) (h20 : ¬ (64 : Int32) ≤ part) (h26 : ¬ (39 : Int32) ≤ bit) : f_V_isBit part bit = ((1 : Int32)) := by
  exact ((if_neg h1).trans ((if_neg h8).trans ((if_pos h12).trans ((if_neg h20).trans (if_neg h26)))))
theorem f_V_isBit_e8 (part : Int32) (bit : Int32)  (h1 : ¬ part < 0) (h8 : ¬ (168 : Int32) ≤ part) (h12 : ¬ 0 ≤ bit) : f_V_isBit part bit = ((0 : Int32)) := by
  exact ((if_neg h1).trans ((if_neg h8).trans (if_neg h12)))
set_option maxHeartbeats 4000000 in
set_option maxRecDepth 100000 in
theorem c_V_isBit (l : Launch) (D : va_G) (cI cL : ClassId) (sz : Nat)  (part : Int32) (bit : Int32)  : Met l y_V_isBit w_V_isBit ({ frames := 0, cells := 0, slots := 0, locals := 0 }) (va_Pc [.int part, .int bit] (PW D cI cL [] sz)) (q_V_isBit D cI cL (va_A [] sz)  (f_V_isBit part bit)) 0 0 (va_A [] sz) := by
  refine mk_met (Qf := fun A => q_V_isBit D cI cL A  (f_V_isBit part bit)) (by decide) (Nat.le_of_ble_eq_true rfl) ?_
  intro p e s m below meth c A ls hx hb hr hlocks hml hown hg hK hN hT hA hP hD hS hnm hl
  refine lv_iload_n hx hb d_V_isBit_0 rfl (lv_at hl 0 rfl) ?_
  refine lv_if_lt (tgt := 15) hx hb d_V_isBit_1 (by decide) (fun h1 => ?_) (fun h1 => ?_)
  · refine lv_iconst (v := 0) hx hb d_V_isBit_15 (by decide) ?_
    rw [f_V_isBit_e0 part bit h1]
    exact W.zret hx hb hr rfl (fun t ht hW => ⟨⟨_, (), rfl, rfl, by show va_P D classes _ t.heap; rw [ht]; exact hP⟩, hS.F ht⟩) hS.2.2 d_V_isBit_16 hlocks
  · refine lv_iload_n hx hb d_V_isBit_4 rfl (lv_at hl 0 rfl) ?_
    refine lv_sipush (v := 168) hx hb d_V_isBit_5 (by decide) ?_
    refine lv_icmp_ge (tgt := 15) hx hb d_V_isBit_8 (by decide) (fun h8 => ?_) (fun h8 => ?_)
    · refine lv_iconst (v := 0) hx hb d_V_isBit_15 (by decide) ?_
      rw [f_V_isBit_e1 part bit h1 h8]
      exact W.zret hx hb hr rfl (fun t ht hW => ⟨⟨_, (), rfl, rfl, by show va_P D classes _ t.heap; rw [ht]; exact hP⟩, hS.F ht⟩) hS.2.2 d_V_isBit_16 hlocks
    · refine lv_iload_n hx hb d_V_isBit_11 rfl (lv_at hl 1 rfl) ?_
      refine lv_if_ge (tgt := 17) hx hb d_V_isBit_12 (by decide) (fun h12 => ?_) (fun h12 => ?_)
      · refine lv_iload_n hx hb d_V_isBit_17 rfl (lv_at hl 0 rfl) ?_
        refine lv_bipush (v := 64) hx hb d_V_isBit_18 (by decide) ?_
        refine lv_icmp_ge (tgt := 35) hx hb d_V_isBit_20 (by decide) (fun h20 => ?_) (fun h20 => ?_)
        · refine lv_iload_n hx hb d_V_isBit_35 rfl (lv_at hl 1 rfl) ?_
          refine lv_iload_n hx hb d_V_isBit_36 rfl (lv_at hl 0 rfl) ?_
          refine lv_sipush (v := 160) hx hb d_V_isBit_37 (by decide) ?_
          refine lv_icmp_ge (tgt := 48) hx hb d_V_isBit_40 (by decide) (fun h40 => ?_) (fun h40 => ?_)
          · refine lv_bipush (v := 38) hx hb d_V_isBit_48 (by decide) ?_
            refine lv_icmp_ge (tgt := 57) hx hb d_V_isBit_50 (by decide) (fun h50 => ?_) (fun h50 => ?_)
            · refine lv_iconst (v := 0) hx hb d_V_isBit_57 (by decide) ?_
              rw [f_V_isBit_e2 part bit h1 h8 h12 h20 h40 h50]
              exact W.zret hx hb hr rfl (fun t ht hW => ⟨⟨_, (), rfl, rfl, by show va_P D classes _ t.heap; rw [ht]; exact hP⟩, hS.F ht⟩) hS.2.2 d_V_isBit_58 hlocks
            · refine lv_iconst (v := 1) hx hb d_V_isBit_53 (by decide) ?_
              refine lv_goto (tgt := 58) hx hb d_V_isBit_54 (by decide) ?_
              rw [f_V_isBit_e3 part bit h1 h8 h12 h20 h40 h50]
              exact W.zret hx hb hr rfl (fun t ht hW => ⟨⟨_, (), rfl, rfl, by show va_P D classes _ t.heap; rw [ht]; exact hP⟩, hS.F ht⟩) hS.2.2 d_V_isBit_58 hlocks
          · refine lv_bipush (v := 32) hx hb d_V_isBit_43 (by decide) ?_
            refine lv_goto (tgt := 50) hx hb d_V_isBit_45 (by decide) ?_
            refine lv_icmp_ge (tgt := 57) hx hb d_V_isBit_50 (by decide) (fun h50 => ?_) (fun h50 => ?_)
            · refine lv_iconst (v := 0) hx hb d_V_isBit_57 (by decide) ?_
              rw [f_V_isBit_e4 part bit h1 h8 h12 h20 h40 h50]
              exact W.zret hx hb hr rfl (fun t ht hW => ⟨⟨_, (), rfl, rfl, by show va_P D classes _ t.heap; rw [ht]; exact hP⟩, hS.F ht⟩) hS.2.2 d_V_isBit_58 hlocks
            · refine lv_iconst (v := 1) hx hb d_V_isBit_53 (by decide) ?_
              refine lv_goto (tgt := 58) hx hb d_V_isBit_54 (by decide) ?_
              rw [f_V_isBit_e5 part bit h1 h8 h12 h20 h40 h50]
              exact W.zret hx hb hr rfl (fun t ht hW => ⟨⟨_, (), rfl, rfl, by show va_P D classes _ t.heap; rw [ht]; exact hP⟩, hS.F ht⟩) hS.2.2 d_V_isBit_58 hlocks
        · refine lv_iload_n hx hb d_V_isBit_23 rfl (lv_at hl 1 rfl) ?_
          refine lv_bipush (v := 39) hx hb d_V_isBit_24 (by decide) ?_
          refine lv_icmp_ge (tgt := 33) hx hb d_V_isBit_26 (by decide) (fun h26 => ?_) (fun h26 => ?_)
          · refine lv_iconst (v := 0) hx hb d_V_isBit_33 (by decide) ?_
            rw [f_V_isBit_e6 part bit h1 h8 h12 h20 h26]
            exact W.zret hx hb hr rfl (fun t ht hW => ⟨⟨_, (), rfl, rfl, by show va_P D classes _ t.heap; rw [ht]; exact hP⟩, hS.F ht⟩) hS.2.2 d_V_isBit_34 hlocks
          · refine lv_iconst (v := 1) hx hb d_V_isBit_29 (by decide) ?_
            refine lv_goto (tgt := 34) hx hb d_V_isBit_30 (by decide) ?_
            rw [f_V_isBit_e7 part bit h1 h8 h12 h20 h26]
            exact W.zret hx hb hr rfl (fun t ht hW => ⟨⟨_, (), rfl, rfl, by show va_P D classes _ t.heap; rw [ht]; exact hP⟩, hS.F ht⟩) hS.2.2 d_V_isBit_34 hlocks
      · refine lv_iconst (v := 0) hx hb d_V_isBit_15 (by decide) ?_
        rw [f_V_isBit_e8 part bit h1 h8 h12]
        exact W.zret hx hb hr rfl (fun t ht hW => ⟨⟨_, (), rfl, rfl, by show va_P D classes _ t.heap; rw [ht]; exact hP⟩, hS.F ht⟩) hS.2.2 d_V_isBit_16 hlocks
abbrev q_V_isAddress (D : va_G) (cI cL : ClassId) (A : Nat → Prop)  (F : Int32) : Array Value → State → Outcome → State → Prop := va_Qi (fun r (_ : Unit) => r = F) (fun _ t => va_P D classes [] t.heap) A
theorem f_V_isAddress_e0 (a : Int32) (z : Int32)  (h1 : a < 0) : f_V_isAddress a z = ((0 : Int32)) := by
  exact (if_pos h1)
theorem f_V_isAddress_e1 (a : Int32) (z : Int32)  (h1 : ¬ a < 0) (h8 : (255 : Int32) < a) : f_V_isAddress a z = ((0 : Int32)) := by
  exact ((if_neg h1).trans (if_pos h8))
theorem f_V_isAddress_e2 (a : Int32) (z : Int32)  (h1 : ¬ a < 0) (h8 : ¬ (255 : Int32) < a) (h16 : ¬ (a &&& (z - (1 : Int32))) = 0) : f_V_isAddress a z = ((0 : Int32)) := by
  exact ((if_neg h1).trans ((if_neg h8).trans (if_neg h16)))
theorem f_V_isAddress_e3 (a : Int32) (z : Int32)  (h1 : ¬ a < 0) (h8 : ¬ (255 : Int32) < a) (h16 : (a &&& (z - (1 : Int32))) = 0) : f_V_isAddress a z = ((1 : Int32)) := by
  exact ((if_neg h1).trans ((if_neg h8).trans (if_pos h16)))
set_option maxHeartbeats 4000000 in
set_option maxRecDepth 100000 in
theorem c_V_isAddress (l : Launch) (D : va_G) (cI cL : ClassId) (sz : Nat)  (a : Int32) (z : Int32)  : Met l y_V_isAddress w_V_isAddress ({ frames := 0, cells := 0, slots := 0, locals := 0 }) (va_Pc [.int a, .int z] (PW D cI cL [] sz)) (q_V_isAddress D cI cL (va_A [] sz)  (f_V_isAddress a z)) 0 0 (va_A [] sz) := by
  refine mk_met (Qf := fun A => q_V_isAddress D cI cL A  (f_V_isAddress a z)) (by decide) (Nat.le_of_ble_eq_true rfl) ?_
  intro p e s m below meth c A ls hx hb hr hlocks hml hown hg hK hN hT hA hP hD hS hnm hl
  refine lv_iload_n hx hb d_V_isAddress_0 rfl (lv_at hl 0 rfl) ?_
  refine lv_if_lt (tgt := 23) hx hb d_V_isAddress_1 (by decide) (fun h1 => ?_) (fun h1 => ?_)
  · refine lv_iconst (v := 0) hx hb d_V_isAddress_23 (by decide) ?_
    rw [f_V_isAddress_e0 a z h1]
    exact W.zret hx hb hr rfl (fun t ht hW => ⟨⟨_, (), rfl, rfl, by show va_P D classes _ t.heap; rw [ht]; exact hP⟩, hS.F ht⟩) hS.2.2 d_V_isAddress_24 hlocks
  · refine lv_iload_n hx hb d_V_isAddress_4 rfl (lv_at hl 0 rfl) ?_
    refine lv_sipush (v := 255) hx hb d_V_isAddress_5 (by decide) ?_
    refine lv_icmp_gt (tgt := 23) hx hb d_V_isAddress_8 (by decide) (fun h8 => ?_) (fun h8 => ?_)
    · refine lv_iconst (v := 0) hx hb d_V_isAddress_23 (by decide) ?_
      rw [f_V_isAddress_e1 a z h1 h8]
      exact W.zret hx hb hr rfl (fun t ht hW => ⟨⟨_, (), rfl, rfl, by show va_P D classes _ t.heap; rw [ht]; exact hP⟩, hS.F ht⟩) hS.2.2 d_V_isAddress_24 hlocks
    · refine lv_iload_n hx hb d_V_isAddress_11 rfl (lv_at hl 0 rfl) ?_
      refine lv_iload_n hx hb d_V_isAddress_12 rfl (lv_at hl 1 rfl) ?_
      refine lv_iconst (v := 1) hx hb d_V_isAddress_13 (by decide) ?_
      refine lv_isub hx hb d_V_isAddress_14 ?_
      refine lv_iand hx hb d_V_isAddress_15 ?_
      refine lv_if_ne (tgt := 23) hx hb d_V_isAddress_16 (by decide) (fun h16 => ?_) (fun h16 => ?_)
      · refine lv_iconst (v := 0) hx hb d_V_isAddress_23 (by decide) ?_
        rw [f_V_isAddress_e2 a z h1 h8 h16]
        exact W.zret hx hb hr rfl (fun t ht hW => ⟨⟨_, (), rfl, rfl, by show va_P D classes _ t.heap; rw [ht]; exact hP⟩, hS.F ht⟩) hS.2.2 d_V_isAddress_24 hlocks
      · refine lv_iconst (v := 1) hx hb d_V_isAddress_19 (by decide) ?_
        refine lv_goto (tgt := 24) hx hb d_V_isAddress_20 (by decide) ?_
        rw [f_V_isAddress_e3 a z h1 h8 h16]
        exact W.zret hx hb hr rfl (fun t ht hW => ⟨⟨_, (), rfl, rfl, by show va_P D classes _ t.heap; rw [ht]; exact hP⟩, hS.F ht⟩) hS.2.2 d_V_isAddress_24 hlocks
abbrev q_V_invert (D : va_G) (cI cL : ClassId) (a0 a1 a2 a3 a4 a5 a6 a7 a8 a9 a10 a11 a12 : Nat) (A : Nat → Prop) (ev : Int32) (K : Nat → Int64) (co : Int32) (L1 : Nat → Int64) (r1 : Int32) (L2 : Nat → Int64) (r2 : Int32) (R : Nat → Int32) (vo : Int32) (FC : Nat → Int32) (FP : Nat → Int32) (FB : Nat → Int32) (fs : Int32) (cy : Int32) (sp : Int32) (de : Int32) (ca : Int32) (va : Int32) (F : (Nat → Int64) × (Nat → Int64) × (Nat → Int64) × (Nat → Int32)) : Array Value → State → Outcome → State → Prop := va_Qv (fun (_ : Unit) => True) (fun _ t => va_P D classes (W_V cI cL a0 a1 a2 a3 a4 a5 a6 a7 a8 a9 a10 a11 a12 ev F.1 co F.2.1 r1 F.2.2.1 r2 F.2.2.2 vo FC FP FB fs cy sp de ca va) t.heap) A
theorem f_V_invert_e0 (K : Nat → Int64) (L1 : Nat → Int64) (L2 : Nat → Int64) (R : Nat → Int32) (part : Int32) (bit : Int32)  (h3 : (64 : Int32) ≤ part) (h28 : (160 : Int32) ≤ part) (h56 : (164 : Int32) ≤ part) : f_V_invert K L1 L2 R part bit = (K, L1, (vp_updL L2 (part - (164 : Int32)).toNatClampNeg ((L2 (part - (164 : Int32)).toNatClampNeg) ^^^ (u_lshl (1 : Int64) bit))), R) := by
  exact ((if_pos h3).trans ((if_pos h28).trans (if_pos h56)))
theorem f_V_invert_e1 (K : Nat → Int64) (L1 : Nat → Int64) (L2 : Nat → Int64) (R : Nat → Int32) (part : Int32) (bit : Int32)  (h3 : (64 : Int32) ≤ part) (h28 : (160 : Int32) ≤ part) (h56 : ¬ (164 : Int32) ≤ part) : f_V_invert K L1 L2 R part bit = (K, (vp_updL L1 (part - (160 : Int32)).toNatClampNeg ((L1 (part - (160 : Int32)).toNatClampNeg) ^^^ (u_lshl (1 : Int64) bit))), L2, R) := by
  exact ((if_pos h3).trans ((if_pos h28).trans (if_neg h56)))
theorem f_V_invert_e2 (K : Nat → Int64) (L1 : Nat → Int64) (L2 : Nat → Int64) (R : Nat → Int32) (part : Int32) (bit : Int32)  (h3 : (64 : Int32) ≤ part) (h28 : ¬ (160 : Int32) ≤ part) : f_V_invert K L1 L2 R part bit = (K, L1, L2, (upd R (part - (64 : Int32)).toNatClampNeg ((R (part - (64 : Int32)).toNatClampNeg) ^^^ ((1 : Int32) <<< (bit &&& 31))))) := by
  exact ((if_pos h3).trans (if_neg h28))
theorem f_V_invert_e3 (K : Nat → Int64) (L1 : Nat → Int64) (L2 : Nat → Int64) (R : Nat → Int32) (part : Int32) (bit : Int32)  (h3 : ¬ (64 : Int32) ≤ part) : f_V_invert K L1 L2 R part bit = ((vp_updL K part.toNatClampNeg ((K part.toNatClampNeg) ^^^ (u_lshl (1 : Int64) bit))), L1, L2, R) := by
  exact (if_neg h3)
set_option maxHeartbeats 4000000 in
set_option maxRecDepth 100000 in
theorem c_V_invert (l : Launch) (D : va_G) (cI cL : ClassId) (a0 a1 a2 a3 a4 a5 a6 a7 a8 a9 a10 a11 a12 : Nat) (sz : Nat) (ev : Int32) (K : Nat → Int64) (co : Int32) (L1 : Nat → Int64) (r1 : Int32) (L2 : Nat → Int64) (r2 : Int32) (R : Nat → Int32) (vo : Int32) (FC : Nat → Int32) (FP : Nat → Int32) (FB : Nat → Int32) (fs : Int32) (cy : Int32) (sp : Int32) (de : Int32) (ca : Int32) (va : Int32) (part : Int32) (bit : Int32) (h_part : vp_in part 168) : Met l y_V_invert w_V_invert ({ frames := 0, cells := 0, slots := 0, locals := 0 }) (va_Pc [.ref a0, .int part, .int bit] (PW D cI cL (W_V cI cL a0 a1 a2 a3 a4 a5 a6 a7 a8 a9 a10 a11 a12 ev K co L1 r1 L2 r2 R vo FC FP FB fs cy sp de ca va) sz)) (q_V_invert D cI cL a0 a1 a2 a3 a4 a5 a6 a7 a8 a9 a10 a11 a12 (va_A (W_V cI cL a0 a1 a2 a3 a4 a5 a6 a7 a8 a9 a10 a11 a12 ev K co L1 r1 L2 r2 R vo FC FP FB fs cy sp de ca va) sz) ev K co L1 r1 L2 r2 R vo FC FP FB fs cy sp de ca va (f_V_invert K L1 L2 R part bit)) 0 0 (va_A (W_V cI cL a0 a1 a2 a3 a4 a5 a6 a7 a8 a9 a10 a11 a12 ev K co L1 r1 L2 r2 R vo FC FP FB fs cy sp de ca va) sz) := by
  refine mk_met (Qf := fun A => q_V_invert D cI cL a0 a1 a2 a3 a4 a5 a6 a7 a8 a9 a10 a11 a12 A ev K co L1 r1 L2 r2 R vo FC FP FB fs cy sp de ca va (f_V_invert K L1 L2 R part bit)) (by decide) (Nat.le_of_ble_eq_true rfl) ?_
  intro p e s m below meth c A ls hx hb hr hlocks hml hown hg hK hN hT hA hP hD hS hnm hl
  refine lv_iload_n hx hb d_V_invert_0 rfl (lv_at hl 1 rfl) ?_
  refine lv_bipush (v := 64) hx hb d_V_invert_1 (by decide) ?_
  refine lv_icmp_ge (tgt := 24) hx hb d_V_invert_3 (by decide) (fun h3 => ?_) (fun h3 => ?_)
  · refine lv_iload_n hx hb d_V_invert_24 rfl (lv_at hl 1 rfl) ?_
    refine lv_sipush (v := 160) hx hb d_V_invert_25 (by decide) ?_
    refine lv_icmp_ge (tgt := 52) hx hb d_V_invert_28 (by decide) (fun h28 => ?_) (fun h28 => ?_)
    · refine lv_iload_n hx hb d_V_invert_52 rfl (lv_at hl 1 rfl) ?_
      refine lv_sipush (v := 164) hx hb d_V_invert_53 (by decide) ?_
      refine lv_icmp_ge (tgt := 81) hx hb d_V_invert_56 (by decide) (fun h56 => ?_) (fun h56 => ?_)
      · refine lv_aload_n hx hb d_V_invert_81 rfl (lv_at hl 0 rfl) ?_
        refine va_get (ci := 0) (C := R_V) (T := F_V) (N := 11) hx hb hg in_V hown hK hP 0 rfl rfl 3 (by decide) (hg _ m_163) (fun _ h => h) rfl d_V_invert_82 ?_
        refine va_getN (ci := 2) (C := R_Ca) (T := F_Ca) (N := 2) hx hb hg in_Ca hown hK hP 5 rfl rfl 0 (by decide) (hN.use m_107) (fun _ h => h) rfl d_V_invert_85 ?_
        refine lv_iload_n hx hb d_V_invert_88 rfl (lv_at hl 1 rfl) ?_
        refine lv_sipush (v := 164) hx hb d_V_invert_89 (by decide) ?_
        refine lv_isub hx hb d_V_invert_92 ?_
        refine lv_dup2_11 hx hb d_V_invert_93 rfl rfl ?_
        refine va_lald hx hb hK hP 6 1 rfl rfl (iv_d h_part h56) d_V_invert_94 ?_
        refine lv_lconst (v := 1) hx hb d_V_invert_95 (by decide) ?_
        refine lv_iload_n hx hb d_V_invert_96 rfl (lv_at hl 2 rfl) ?_
        refine lv_lshl (v := u_lshl _ _) hx hb d_V_invert_97 rfl ?_
        refine lv_lxor hx hb d_V_invert_98 ?_
        refine va_last hx hb hK hP hD hS 6 1 rfl rfl (iv_d h_part h56) d_V_invert_99 (fun H locs hP hD hS => ?_)
        have hP : va_P D classes (W_V cI cL a0 a1 a2 a3 a4 a5 a6 a7 a8 a9 a10 a11 a12 ev K co L1 r1 (vp_updL L2 (part - (164 : Int32)).toNatClampNeg ((L2 (part - (164 : Int32)).toNatClampNeg) ^^^ (u_lshl (1 : Int64) bit))) r2 R vo FC FP FB fs cy sp de ca va) H := hP
        have hD : va_D A (W_V cI cL a0 a1 a2 a3 a4 a5 a6 a7 a8 a9 a10 a11 a12 ev K co L1 r1 (vp_updL L2 (part - (164 : Int32)).toNatClampNeg ((L2 (part - (164 : Int32)).toNatClampNeg) ^^^ (u_lshl (1 : Int64) bit))) r2 R vo FC FP FB fs cy sp de ca va) := hD
        rw [f_V_invert_e0 K L1 L2 R part bit h3 h28 h56]
        exact W.vret hx hb hr (fun t ht hW => ⟨⟨(), rfl, trivial, by show va_P D classes _ t.heap; rw [ht]; exact hP⟩, hS.F ht⟩) hS.2.2 d_V_invert_100 hlocks
      · refine lv_aload_n hx hb d_V_invert_59 rfl (lv_at hl 0 rfl) ?_
        refine va_get (ci := 0) (C := R_V) (T := F_V) (N := 11) hx hb hg in_V hown hK hP 0 rfl rfl 2 (by decide) (hg _ m_162) (fun _ h => h) rfl d_V_invert_60 ?_
        refine va_getN (ci := 2) (C := R_Ca) (T := F_Ca) (N := 2) hx hb hg in_Ca hown hK hP 3 rfl rfl 0 (by decide) (hN.use m_107) (fun _ h => h) rfl d_V_invert_63 ?_
        refine lv_iload_n hx hb d_V_invert_66 rfl (lv_at hl 1 rfl) ?_
        refine lv_sipush (v := 160) hx hb d_V_invert_67 (by decide) ?_
        refine lv_isub hx hb d_V_invert_70 ?_
        refine lv_dup2_11 hx hb d_V_invert_71 rfl rfl ?_
        refine va_lald hx hb hK hP 4 1 rfl rfl (iv_c h28 h56) d_V_invert_72 ?_
        refine lv_lconst (v := 1) hx hb d_V_invert_73 (by decide) ?_
        refine lv_iload_n hx hb d_V_invert_74 rfl (lv_at hl 2 rfl) ?_
        refine lv_lshl (v := u_lshl _ _) hx hb d_V_invert_75 rfl ?_
        refine lv_lxor hx hb d_V_invert_76 ?_
        refine va_last hx hb hK hP hD hS 4 1 rfl rfl (iv_c h28 h56) d_V_invert_77 (fun H locs hP hD hS => ?_)
        have hP : va_P D classes (W_V cI cL a0 a1 a2 a3 a4 a5 a6 a7 a8 a9 a10 a11 a12 ev K co (vp_updL L1 (part - (160 : Int32)).toNatClampNeg ((L1 (part - (160 : Int32)).toNatClampNeg) ^^^ (u_lshl (1 : Int64) bit))) r1 L2 r2 R vo FC FP FB fs cy sp de ca va) H := hP
        have hD : va_D A (W_V cI cL a0 a1 a2 a3 a4 a5 a6 a7 a8 a9 a10 a11 a12 ev K co (vp_updL L1 (part - (160 : Int32)).toNatClampNeg ((L1 (part - (160 : Int32)).toNatClampNeg) ^^^ (u_lshl (1 : Int64) bit))) r1 L2 r2 R vo FC FP FB fs cy sp de ca va) := hD
        refine lv_goto (tgt := 100) hx hb d_V_invert_78 (by decide) ?_
        rw [f_V_invert_e1 K L1 L2 R part bit h3 h28 h56]
        exact W.vret hx hb hr (fun t ht hW => ⟨⟨(), rfl, trivial, by show va_P D classes _ t.heap; rw [ht]; exact hP⟩, hS.F ht⟩) hS.2.2 d_V_invert_100 hlocks
    · refine lv_aload_n hx hb d_V_invert_31 rfl (lv_at hl 0 rfl) ?_
      refine va_get (ci := 0) (C := R_V) (T := F_V) (N := 11) hx hb hg in_V hown hK hP 0 rfl rfl 4 (by decide) (hg _ m_164) (fun _ h => h) rfl d_V_invert_32 ?_
      refine va_getN (ci := 3) (C := R_Re) (T := F_Re) (N := 2) hx hb hg in_Re hown hK hP 7 rfl rfl 0 (by decide) (hN.use m_122) (fun _ h => h) rfl d_V_invert_35 ?_
      refine lv_iload_n hx hb d_V_invert_38 rfl (lv_at hl 1 rfl) ?_
      refine lv_bipush (v := 64) hx hb d_V_invert_39 (by decide) ?_
      refine lv_isub hx hb d_V_invert_41 ?_
      refine lv_dup2_11 hx hb d_V_invert_42 rfl rfl ?_
      refine va_iald hx hb hK hP 8 0 rfl rfl (iv_b h3 h28) d_V_invert_43 ?_
      refine lv_iconst (v := 1) hx hb d_V_invert_44 (by decide) ?_
      refine lv_iload_n hx hb d_V_invert_45 rfl (lv_at hl 2 rfl) ?_
      refine lv_ishl hx hb d_V_invert_46 ?_
      refine lv_ixor hx hb d_V_invert_47 ?_
      refine va_iast hx hb hK hP hD hS 8 0 rfl rfl (iv_b h3 h28) d_V_invert_48 (fun H locs hP hD hS => ?_)
      have hP : va_P D classes (W_V cI cL a0 a1 a2 a3 a4 a5 a6 a7 a8 a9 a10 a11 a12 ev K co L1 r1 L2 r2 (upd R (part - (64 : Int32)).toNatClampNeg ((R (part - (64 : Int32)).toNatClampNeg) ^^^ ((1 : Int32) <<< (bit &&& 31)))) vo FC FP FB fs cy sp de ca va) H := hP
      have hD : va_D A (W_V cI cL a0 a1 a2 a3 a4 a5 a6 a7 a8 a9 a10 a11 a12 ev K co L1 r1 L2 r2 (upd R (part - (64 : Int32)).toNatClampNeg ((R (part - (64 : Int32)).toNatClampNeg) ^^^ ((1 : Int32) <<< (bit &&& 31)))) vo FC FP FB fs cy sp de ca va) := hD
      refine lv_goto (tgt := 100) hx hb d_V_invert_49 (by decide) ?_
      rw [f_V_invert_e2 K L1 L2 R part bit h3 h28]
      exact W.vret hx hb hr (fun t ht hW => ⟨⟨(), rfl, trivial, by show va_P D classes _ t.heap; rw [ht]; exact hP⟩, hS.F ht⟩) hS.2.2 d_V_invert_100 hlocks
  · refine lv_aload_n hx hb d_V_invert_6 rfl (lv_at hl 0 rfl) ?_
    refine va_get (ci := 0) (C := R_V) (T := F_V) (N := 11) hx hb hg in_V hown hK hP 0 rfl rfl 1 (by decide) (hg _ m_161) (fun _ h => h) rfl d_V_invert_7 ?_
    refine va_getN (ci := 1) (C := R_Me) (T := F_Me) (N := 2) hx hb hg in_Me hown hK hP 1 rfl rfl 0 (by decide) (hN.use m_91) (fun _ h => h) rfl d_V_invert_10 ?_
    refine lv_iload_n hx hb d_V_invert_13 rfl (lv_at hl 1 rfl) ?_
    refine lv_dup2_11 hx hb d_V_invert_14 rfl rfl ?_
    refine va_lald hx hb hK hP 2 1 rfl rfl (iv_a h_part h3) d_V_invert_15 ?_
    refine lv_lconst (v := 1) hx hb d_V_invert_16 (by decide) ?_
    refine lv_iload_n hx hb d_V_invert_17 rfl (lv_at hl 2 rfl) ?_
    refine lv_lshl (v := u_lshl _ _) hx hb d_V_invert_18 rfl ?_
    refine lv_lxor hx hb d_V_invert_19 ?_
    refine va_last hx hb hK hP hD hS 2 1 rfl rfl (iv_a h_part h3) d_V_invert_20 (fun H locs hP hD hS => ?_)
    have hP : va_P D classes (W_V cI cL a0 a1 a2 a3 a4 a5 a6 a7 a8 a9 a10 a11 a12 ev (vp_updL K part.toNatClampNeg ((K part.toNatClampNeg) ^^^ (u_lshl (1 : Int64) bit))) co L1 r1 L2 r2 R vo FC FP FB fs cy sp de ca va) H := hP
    have hD : va_D A (W_V cI cL a0 a1 a2 a3 a4 a5 a6 a7 a8 a9 a10 a11 a12 ev (vp_updL K part.toNatClampNeg ((K part.toNatClampNeg) ^^^ (u_lshl (1 : Int64) bit))) co L1 r1 L2 r2 R vo FC FP FB fs cy sp de ca va) := hD
    refine lv_goto (tgt := 100) hx hb d_V_invert_21 (by decide) ?_
    rw [f_V_invert_e3 K L1 L2 R part bit h3]
    exact W.vret hx hb hr (fun t ht hW => ⟨⟨(), rfl, trivial, by show va_P D classes _ t.heap; rw [ht]; exact hP⟩, hS.F ht⟩) hS.2.2 d_V_invert_100 hlocks
abbrev q_V_makePlannedFaults (D : va_G) (cI cL : ClassId) (a0 a1 a2 a3 a4 a5 a6 a7 a8 a9 a10 a11 a12 : Nat) (A : Nat → Prop) (ev : Int32) (K : Nat → Int64) (co : Int32) (L1 : Nat → Int64) (r1 : Int32) (L2 : Nat → Int64) (r2 : Int32) (R : Nat → Int32) (vo : Int32) (FC : Nat → Int32) (FP : Nat → Int32) (FB : Nat → Int32) (fs : Int32) (cy : Int32) (sp : Int32) (de : Int32) (ca : Int32) (va : Int32) (F : (Nat → Int64) × (Nat → Int64) × (Nat → Int64) × (Nat → Int32) × (Nat → Int32) × (Nat → Int32) × (Nat → Int32) × Int32) : Array Value → State → Outcome → State → Prop := va_Qv (fun (_ : Unit) => True) (fun _ t => va_P D classes (W_V cI cL a0 a1 a2 a3 a4 a5 a6 a7 a8 a9 a10 a11 a12 ev F.1 co F.2.1 r1 F.2.2.1 r2 F.2.2.2.1 vo F.2.2.2.2.1 F.2.2.2.2.2.1 F.2.2.2.2.2.2.1 F.2.2.2.2.2.2.2 cy sp de ca va) t.heap) A
theorem f_V_makePlannedFaults_e1 (cy : Int32) (n : Nat) (j : Nat) (le : Int32) (K_ : Nat → Int64) (L1_ : Nat → Int64) (L2_ : Nat → Int64) (R_ : Nat → Int32) (FC_ : Nat → Int32) (FP_ : Nat → Int32) (FB_ : Nat → Int32) (t1 : (Nat → Int32) × (Nat → Int32) × (Nat → Int32)) (e_t1 : f_Fa_move FC_ FP_ FB_ (nI j) le = t1) (h28 : ¬ (FC_ (nI j).toNatClampNeg) = cy) : f_V_makePlannedFaults_l4 cy (n + 1) j le K_ L1_ L2_ R_ FC_ FP_ FB_ = f_V_makePlannedFaults_l4 cy n (j + 1) (le + 1) K_ L1_ L2_ R_ t1.1 t1.2.1 t1.2.2 := by
  subst e_t1
  exact (if_neg h28)
theorem f_V_makePlannedFaults_e2 (cy : Int32) (n : Nat) (j : Nat) (le : Int32) (K_ : Nat → Int64) (L1_ : Nat → Int64) (L2_ : Nat → Int64) (R_ : Nat → Int32) (FC_ : Nat → Int32) (FP_ : Nat → Int32) (FB_ : Nat → Int32) (t2 : (Nat → Int64) × (Nat → Int64) × (Nat → Int64) × (Nat → Int32)) (e_t2 : f_V_invert K_ L1_ L2_ R_ (FP_ (nI j).toNatClampNeg) (FB_ (nI j).toNatClampNeg) = t2) (h28 : (FC_ (nI j).toNatClampNeg) = cy) : f_V_makePlannedFaults_l4 cy (n + 1) j le K_ L1_ L2_ R_ FC_ FP_ FB_ = f_V_makePlannedFaults_l4 cy n (j + 1) le t2.1 t2.2.1 t2.2.2.1 t2.2.2.2 FC_ FP_ FB_ := by
  subst e_t2
  exact (if_pos h28)
set_option maxHeartbeats 4000000 in
set_option maxRecDepth 100000 in
theorem c_V_makePlannedFaults (l : Launch) (D : va_G) (cI cL : ClassId) (a0 a1 a2 a3 a4 a5 a6 a7 a8 a9 a10 a11 a12 : Nat) (sz : Nat) (ev : Int32) (K : Nat → Int64) (co : Int32) (L1 : Nat → Int64) (r1 : Int32) (L2 : Nat → Int64) (r2 : Int32) (R : Nat → Int32) (vo : Int32) (FC : Nat → Int32) (FP : Nat → Int32) (FB : Nat → Int32) (fs : Int32) (cy : Int32) (sp : Int32) (de : Int32) (ca : Int32) (va : Int32)  (h_fs : vp_in fs 17) (h_fp : ∀ k, k < fs.toNatClampNeg → vp_in (FP k) 168) : Met l y_V_makePlannedFaults w_V_makePlannedFaults ({ frames := 1, cells := 0, slots := 0, locals := 22 }) (va_Pc [.ref a0] (PW D cI cL (W_V cI cL a0 a1 a2 a3 a4 a5 a6 a7 a8 a9 a10 a11 a12 ev K co L1 r1 L2 r2 R vo FC FP FB fs cy sp de ca va) sz)) (q_V_makePlannedFaults D cI cL a0 a1 a2 a3 a4 a5 a6 a7 a8 a9 a10 a11 a12 (va_A (W_V cI cL a0 a1 a2 a3 a4 a5 a6 a7 a8 a9 a10 a11 a12 ev K co L1 r1 L2 r2 R vo FC FP FB fs cy sp de ca va) sz) ev K co L1 r1 L2 r2 R vo FC FP FB fs cy sp de ca va (f_V_makePlannedFaults K L1 L2 R FC FP FB fs cy)) 0 0 (va_A (W_V cI cL a0 a1 a2 a3 a4 a5 a6 a7 a8 a9 a10 a11 a12 ev K co L1 r1 L2 r2 R vo FC FP FB fs cy sp de ca va) sz) := by
  refine mk_met (Qf := fun A => q_V_makePlannedFaults D cI cL a0 a1 a2 a3 a4 a5 a6 a7 a8 a9 a10 a11 a12 A ev K co L1 r1 L2 r2 R vo FC FP FB fs cy sp de ca va (f_V_makePlannedFaults K L1 L2 R FC FP FB fs cy)) (by decide) (Nat.le_of_ble_eq_true rfl) ?_
  intro p e s m below meth c A ls hx hb hr hlocks hml hown hg hK hN hT hA hP hD hS hnm hl
  have h16 : fs.toNatClampNeg ≤ 16 := cl17 h_fs
  refine lv_iconst (v := 0) hx hb d_V_makePlannedFaults_0 (by decide) ?_
  refine lv_istore_n (lv' := [(1, .int _), (0, .ref _)]) hx hb d_V_makePlannedFaults_1 rfl hl (by decide) rfl (fun ls hl => ?_)
  refine lv_iconst (v := 0) hx hb d_V_makePlannedFaults_2 (by decide) ?_
  refine lv_istore_n (lv' := [(2, .int _), (1, .int _), (0, .ref _)]) hx hb d_V_makePlannedFaults_3 rfl hl (by decide) rfl (fun ls hl => ?_)
  have loop : ∀ (n j : Nat) (le : Int32) (K_ : Nat → Int64) (L1_ : Nat → Int64) (L2_ : Nat → Int64) (R_ : Nat → Int32) (FC_ : Nat → Int32) (FP_ : Nat → Int32) (FB_ : Nat → Int32) (ls : Array Slot) (H : Heap) (locs : List Loc), j + n = fs.toNatClampNeg → (∃ q, le = nI q ∧ q ≤ j) → (∀ k, j ≤ k → k < fs.toNatClampNeg → vp_in (FP_ k) 168) → lv_has ls 3 [(2, .int (nI j)), (1, .int le), (0, .ref a0)] → va_P D classes (W_V cI cL a0 a1 a2 a3 a4 a5 a6 a7 a8 a9 a10 a11 a12 ev K_ co L1_ r1 L2_ r2 R_ vo FC_ FP_ FB_ fs cy sp de ca va) H → va_D A (W_V cI cL a0 a1 a2 a3 a4 a5 a6 a7 a8 a9 a10 a11 a12 ev K_ co L1_ r1 L2_ r2 R_ vo FC_ FP_ FB_ fs cy sp de ca va) → va_S A s.heap H locs → W p l e ({ frames := 1, cells := 0, slots := 0, locals := 22 } : Room) s m ([.ref a0] : List Value).toArray below meth c H locs 0 0 (MQ below (q_V_makePlannedFaults D cI cL a0 a1 a2 a3 a4 a5 a6 a7 a8 a9 a10 a11 a12 A ev K co L1 r1 L2 r2 R vo FC FP FB fs cy sp de ca va (f_V_makePlannedFaults_l4 cy n j le K_ L1_ L2_ R_ FC_ FP_ FB_)) ([.ref a0] : List Value).toArray s 0 0 A) (F0 m 4 ls []) := by
    intro n
    induction n with
    | zero =>
      intro j le K_ L1_ L2_ R_ FC_ FP_ FB_ ls H locs hj hle hfp hl hP hD hS
      refine lv_iload_n hx hb d_V_makePlannedFaults_4 rfl (lv_at hl 0 rfl) ?_
      refine lv_aload_n hx hb d_V_makePlannedFaults_5 rfl (lv_at hl 2 rfl) ?_
      refine va_get (ci := 0) (C := R_V) (T := F_V) (N := 11) hx hb hg in_V hown hK hP 0 rfl rfl 5 (by decide) (hg _ m_165) (fun _ h => h) rfl d_V_makePlannedFaults_6 ?_
      refine va_getN (ci := 4) (C := R_Fa) (T := F_Fa) (N := 4) hx hb hg in_Fa hown hK hP 9 rfl rfl 3 (by decide) (hN.use m_144) (fun _ h => h) rfl d_V_makePlannedFaults_9 ?_
      refine lv_icmp_ge (tgt := 74) hx hb d_V_makePlannedFaults_12 (by decide) (fun _ => ?_) (fun h => absurd (mp_z h_fs (by omega)) h)
      refine lv_aload_n hx hb d_V_makePlannedFaults_74 rfl (lv_at hl 2 rfl) ?_
      refine va_get (ci := 0) (C := R_V) (T := F_V) (N := 11) hx hb hg in_V hown hK hP 0 rfl rfl 5 (by decide) (hg _ m_165) (fun _ h => h) rfl d_V_makePlannedFaults_75 ?_
      refine lv_iload_n hx hb d_V_makePlannedFaults_78 rfl (lv_at hl 1 rfl) ?_
      refine va_putN (ci := 4) (ty := .int) (C := R_Fa) (T := F_Fa) (N := 4) hx hb hg in_Fa t_Fa t_Fa_ok n_Fa hown hK hP hD hS 9 rfl rfl 3 (by decide) (hN.use m_144) (fun _ h => h) rfl (by decide +kernel) rfl rfl (Nat.le_of_ble_eq_true rfl) d_V_makePlannedFaults_79 (fun H locs hP hD hS => ?_)
      have hP : va_P D classes (W_V cI cL a0 a1 a2 a3 a4 a5 a6 a7 a8 a9 a10 a11 a12 ev K_ co L1_ r1 L2_ r2 R_ vo FC_ FP_ FB_ le cy sp de ca va) H := hP
      have hD : va_D A (W_V cI cL a0 a1 a2 a3 a4 a5 a6 a7 a8 a9 a10 a11 a12 ev K_ co L1_ r1 L2_ r2 R_ vo FC_ FP_ FB_ le cy sp de ca va) := hD
      exact W.vret hx hb hr (fun t ht hW => ⟨⟨(), rfl, trivial, by show va_P D classes _ t.heap; rw [ht]; exact hP⟩, hS.F ht⟩) hS.2.2 d_V_makePlannedFaults_82 hlocks
    | succ n ih =>
      intro j le K_ L1_ L2_ R_ FC_ FP_ FB_ ls H locs hj hle hfp hl hP hD hS
      refine lv_iload_n hx hb d_V_makePlannedFaults_4 rfl (lv_at hl 0 rfl) ?_
      refine lv_aload_n hx hb d_V_makePlannedFaults_5 rfl (lv_at hl 2 rfl) ?_
      refine va_get (ci := 0) (C := R_V) (T := F_V) (N := 11) hx hb hg in_V hown hK hP 0 rfl rfl 5 (by decide) (hg _ m_165) (fun _ h => h) rfl d_V_makePlannedFaults_6 ?_
      refine va_getN (ci := 4) (C := R_Fa) (T := F_Fa) (N := 4) hx hb hg in_Fa hown hK hP 9 rfl rfl 3 (by decide) (hN.use m_144) (fun _ h => h) rfl d_V_makePlannedFaults_9 ?_
      refine lv_icmp_ge (tgt := 74) hx hb d_V_makePlannedFaults_12 (by decide) (fun h => absurd h (mp_s h_fs (by omega))) (fun _ => ?_)
      refine lv_aload_n hx hb d_V_makePlannedFaults_15 rfl (lv_at hl 2 rfl) ?_
      refine va_get (ci := 0) (C := R_V) (T := F_V) (N := 11) hx hb hg in_V hown hK hP 0 rfl rfl 5 (by decide) (hg _ m_165) (fun _ h => h) rfl d_V_makePlannedFaults_16 ?_
      refine va_getN (ci := 4) (C := R_Fa) (T := F_Fa) (N := 4) hx hb hg in_Fa hown hK hP 9 rfl rfl 0 (by decide) (hN.use m_138) (fun _ h => h) rfl d_V_makePlannedFaults_19 ?_
      refine lv_iload_n hx hb d_V_makePlannedFaults_22 rfl (lv_at hl 0 rfl) ?_
      refine va_iald hx hb hK hP 10 0 rfl rfl (vp_in_nI (by omega) (by decide)) d_V_makePlannedFaults_23 ?_
      refine lv_aload_n hx hb d_V_makePlannedFaults_24 rfl (lv_at hl 2 rfl) ?_
      refine va_get (ci := 0) (C := R_V) (T := F_V) (N := 11) hx hb hg in_V hown hK hP 0 rfl rfl 6 (by decide) (hg _ m_166) (fun _ h => h) rfl d_V_makePlannedFaults_25 ?_
      refine lv_icmp_ne (tgt := 56) hx hb d_V_makePlannedFaults_28 (by decide) (fun h28 => ?_) (fun h28 => ?_)
      · refine lv_aload_n hx hb d_V_makePlannedFaults_56 rfl (lv_at hl 2 rfl) ?_
        refine va_get (ci := 0) (C := R_V) (T := F_V) (N := 11) hx hb hg in_V hown hK hP 0 rfl rfl 5 (by decide) (hg _ m_165) (fun _ h => h) rfl d_V_makePlannedFaults_57 ?_
        refine lv_iload_n hx hb d_V_makePlannedFaults_60 rfl (lv_at hl 0 rfl) ?_
        refine lv_iload_n hx hb d_V_makePlannedFaults_61 rfl (lv_at hl 1 rfl) ?_
        refine cj_v (wc := (W_Fa cI cL a9 a10 a11 a12 FC_ FP_ FB_ fs)) (w1 := (W_Fa cI cL a9 a10 a11 a12 ((f_Fa_move FC_ FP_ FB_ (nI j) le).1) ((f_Fa_move FC_ FP_ FB_ (nI j) le).2.1) ((f_Fa_move FC_ FP_ FB_ (nI j) le).2.2) fs)) hP hD hS hA [9, 10, 11, 12] rfl rfl (va_runVN (rest := []) ⟨hx, hb, hml, hown, hg⟩ (c_Fa_move l D cI cL a9 a10 a11 a12 _ FC_ FP_ FB_ fs (nI j) le (vp_in_nI (by omega) (by decide)) (mp_le hle (by omega))) ⟨va_cnB 2 hg (gw_good m_304) rfl rfl rfl (hN _ m_301) (hg _ m_69) hd_Fa_move ⟨Nat.le_of_ble_eq_true rfl, Nat.le_of_ble_eq_true rfl⟩, hg _ m_303, hg _ m_8⟩ (pw_V hK hN hT hA hP hD hS [9, 10, 11, 12] rfl (by decide) (q0 := 9) (ci := 4) rfl rfl) rfl rfl hl.1 rfl (lv_room (Nat.le_of_ble_eq_true rfl)) d_V_makePlannedFaults_62 ⟨Nat.le_of_ble_eq_true rfl, Nat.le_of_ble_eq_true rfl⟩) (fun H locs hP hD hS => ?_)
        have hP : va_P D classes (W_V cI cL a0 a1 a2 a3 a4 a5 a6 a7 a8 a9 a10 a11 a12 ev K_ co L1_ r1 L2_ r2 R_ vo ((f_Fa_move FC_ FP_ FB_ (nI j) le).1) ((f_Fa_move FC_ FP_ FB_ (nI j) le).2.1) ((f_Fa_move FC_ FP_ FB_ (nI j) le).2.2) fs cy sp de ca va) H := hP
        have hD : va_D A (W_V cI cL a0 a1 a2 a3 a4 a5 a6 a7 a8 a9 a10 a11 a12 ev K_ co L1_ r1 L2_ r2 R_ vo ((f_Fa_move FC_ FP_ FB_ (nI j) le).1) ((f_Fa_move FC_ FP_ FB_ (nI j) le).2.1) ((f_Fa_move FC_ FP_ FB_ (nI j) le).2.2) fs cy sp de ca va) := hD
        generalize e_t1 : f_Fa_move FC_ FP_ FB_ (nI j) le = t1 at hP hD ⊢
        refine lv_iinc (k := 1) (v := _ + 1) (lv' := [(1, .int _), (2, .int _), (0, .ref _)]) hx hb d_V_makePlannedFaults_65 hl rfl rfl (by decide) rfl (fun ls hl => ?_)
        refine lv_iinc (k := 1) (v := nI (_ + 1)) (lv' := [(2, .int _), (1, .int _), (0, .ref _)]) hx hb d_V_makePlannedFaults_68 hl rfl (nI_1 _) (by decide) rfl (fun ls hl => ?_)
        refine lv_goto (tgt := 4) hx hb d_V_makePlannedFaults_71 (by decide) ?_
        rw [f_V_makePlannedFaults_e1 cy (n) j le K_ L1_ L2_ R_ FC_ FP_ FB_ t1 e_t1 h28]
        exact ih (j + 1) _ _ _ _ _ _ _ _ _ _ _ (by omega) (by obtain ⟨q, e, h⟩ := hle; first | exact ⟨q, e, by omega⟩ | exact ⟨q + 1, by rw [e]; exact nI_1 q, by omega⟩) (by first | exact fun k h1 h2 => hfp k (by omega) h2 | (intro k h1 h2; obtain ⟨q, e, h⟩ := hle; subst e_t1; show vp_in (upd FP_ le.toNatClampNeg _ k) 168; rw [pk_un (by rw [e, nI_clamp (by omega)]; omega)]; exact hfp k (by omega) h2)) (lv_sub hl [0, 1, 2] rfl) hP hD hS
      · refine lv_aload_n hx hb d_V_makePlannedFaults_31 rfl (lv_at hl 2 rfl) ?_
        refine lv_aload_n hx hb d_V_makePlannedFaults_32 rfl (lv_at hl 2 rfl) ?_
        refine va_get (ci := 0) (C := R_V) (T := F_V) (N := 11) hx hb hg in_V hown hK hP 0 rfl rfl 5 (by decide) (hg _ m_165) (fun _ h => h) rfl d_V_makePlannedFaults_33 ?_
        refine va_getN (ci := 4) (C := R_Fa) (T := F_Fa) (N := 4) hx hb hg in_Fa hown hK hP 9 rfl rfl 1 (by decide) (hN.use m_140) (fun _ h => h) rfl d_V_makePlannedFaults_36 ?_
        refine lv_iload_n hx hb d_V_makePlannedFaults_39 rfl (lv_at hl 0 rfl) ?_
        refine va_iald hx hb hK hP 11 0 rfl rfl (vp_in_nI (by omega) (by decide)) d_V_makePlannedFaults_40 ?_
        refine lv_aload_n hx hb d_V_makePlannedFaults_41 rfl (lv_at hl 2 rfl) ?_
        refine va_get (ci := 0) (C := R_V) (T := F_V) (N := 11) hx hb hg in_V hown hK hP 0 rfl rfl 5 (by decide) (hg _ m_165) (fun _ h => h) rfl d_V_makePlannedFaults_42 ?_
        refine va_getN (ci := 4) (C := R_Fa) (T := F_Fa) (N := 4) hx hb hg in_Fa hown hK hP 9 rfl rfl 2 (by decide) (hN.use m_142) (fun _ h => h) rfl d_V_makePlannedFaults_45 ?_
        refine lv_iload_n hx hb d_V_makePlannedFaults_48 rfl (lv_at hl 0 rfl) ?_
        refine va_iald hx hb hK hP 12 0 rfl rfl (vp_in_nI (by omega) (by decide)) d_V_makePlannedFaults_49 ?_
        have hq50 : vp_in (FP_ (nI j).toNatClampNeg) 168 := by rw [nI_clamp (by omega)]; exact hfp j (Nat.le_refl _) (by omega)
        refine cj_v (wc := (W_V cI cL a0 a1 a2 a3 a4 a5 a6 a7 a8 a9 a10 a11 a12 ev K_ co L1_ r1 L2_ r2 R_ vo FC_ FP_ FB_ fs cy sp de ca va)) (w1 := (W_V cI cL a0 a1 a2 a3 a4 a5 a6 a7 a8 a9 a10 a11 a12 ev ((f_V_invert K_ L1_ L2_ R_ (FP_ (nI j).toNatClampNeg) (FB_ (nI j).toNatClampNeg)).1) co ((f_V_invert K_ L1_ L2_ R_ (FP_ (nI j).toNatClampNeg) (FB_ (nI j).toNatClampNeg)).2.1) r1 ((f_V_invert K_ L1_ L2_ R_ (FP_ (nI j).toNatClampNeg) (FB_ (nI j).toNatClampNeg)).2.2.1) r2 ((f_V_invert K_ L1_ L2_ R_ (FP_ (nI j).toNatClampNeg) (FB_ (nI j).toNatClampNeg)).2.2.2) vo FC_ FP_ FB_ fs cy sp de ca va)) hP hD hS hA [0, 1, 2, 3, 4, 5, 6, 7, 8, 9, 10, 11, 12] rfl rfl (va_runV (rest := []) ⟨hx, hb, hml, hown, hg⟩ (c_V_invert l D cI cL a0 a1 a2 a3 a4 a5 a6 a7 a8 a9 a10 a11 a12 _ ev K_ co L1_ r1 L2_ r2 R_ vo FC_ FP_ FB_ fs cy sp de ca va (FP_ (nI j).toNatClampNeg) (FB_ (nI j).toNatClampNeg) hq50) ⟨callB_of 2 hg (gw_good m_280) rfl rfl rfl (hg _ m_65) (hg _ m_277) hd_V_invert ⟨Nat.le_of_ble_eq_true rfl, Nat.le_of_ble_eq_true rfl⟩, hg _ m_279, hg _ m_5⟩ (pw_V hK hN hT hA hP hD hS [0, 1, 2, 3, 4, 5, 6, 7, 8, 9, 10, 11, 12] rfl (by decide) (q0 := 0) (ci := 0) rfl rfl) rfl rfl hl.1 rfl (lv_room (Nat.le_of_ble_eq_true rfl)) d_V_makePlannedFaults_50 ⟨Nat.le_of_ble_eq_true rfl, Nat.le_of_ble_eq_true rfl⟩) (fun H locs hP hD hS => ?_)
        have hP : va_P D classes (W_V cI cL a0 a1 a2 a3 a4 a5 a6 a7 a8 a9 a10 a11 a12 ev ((f_V_invert K_ L1_ L2_ R_ (FP_ (nI j).toNatClampNeg) (FB_ (nI j).toNatClampNeg)).1) co ((f_V_invert K_ L1_ L2_ R_ (FP_ (nI j).toNatClampNeg) (FB_ (nI j).toNatClampNeg)).2.1) r1 ((f_V_invert K_ L1_ L2_ R_ (FP_ (nI j).toNatClampNeg) (FB_ (nI j).toNatClampNeg)).2.2.1) r2 ((f_V_invert K_ L1_ L2_ R_ (FP_ (nI j).toNatClampNeg) (FB_ (nI j).toNatClampNeg)).2.2.2) vo FC_ FP_ FB_ fs cy sp de ca va) H := hP
        have hD : va_D A (W_V cI cL a0 a1 a2 a3 a4 a5 a6 a7 a8 a9 a10 a11 a12 ev ((f_V_invert K_ L1_ L2_ R_ (FP_ (nI j).toNatClampNeg) (FB_ (nI j).toNatClampNeg)).1) co ((f_V_invert K_ L1_ L2_ R_ (FP_ (nI j).toNatClampNeg) (FB_ (nI j).toNatClampNeg)).2.1) r1 ((f_V_invert K_ L1_ L2_ R_ (FP_ (nI j).toNatClampNeg) (FB_ (nI j).toNatClampNeg)).2.2.1) r2 ((f_V_invert K_ L1_ L2_ R_ (FP_ (nI j).toNatClampNeg) (FB_ (nI j).toNatClampNeg)).2.2.2) vo FC_ FP_ FB_ fs cy sp de ca va) := hD
        generalize e_t2 : f_V_invert K_ L1_ L2_ R_ (FP_ (nI j).toNatClampNeg) (FB_ (nI j).toNatClampNeg) = t2 at hP hD ⊢
        refine lv_goto (tgt := 68) hx hb d_V_makePlannedFaults_53 (by decide) ?_
        refine lv_iinc (k := 0) (v := nI (_ + 1)) (lv' := [(2, .int _), (1, .int _), (0, .ref _)]) hx hb d_V_makePlannedFaults_68 hl rfl (nI_1 _) (by decide) rfl (fun ls hl => ?_)
        refine lv_goto (tgt := 4) hx hb d_V_makePlannedFaults_71 (by decide) ?_
        rw [f_V_makePlannedFaults_e2 cy (n) j le K_ L1_ L2_ R_ FC_ FP_ FB_ t2 e_t2 h28]
        exact ih (j + 1) _ _ _ _ _ _ _ _ _ _ _ (by omega) (by obtain ⟨q, e, h⟩ := hle; first | exact ⟨q, e, by omega⟩ | exact ⟨q + 1, by rw [e]; exact nI_1 q, by omega⟩) (by first | exact fun k h1 h2 => hfp k (by omega) h2 | (intro k h1 h2; obtain ⟨q, e, h⟩ := hle; subst e_t1; show vp_in (upd FP_ le.toNatClampNeg _ k) 168; rw [pk_un (by rw [e, nI_clamp (by omega)]; omega)]; exact hfp k (by omega) h2)) (lv_sub hl [0, 1, 2] rfl) hP hD hS
  exact loop fs.toNatClampNeg 0 _ _ _ _ _ _ _ _ _ _ _ (by omega) ⟨0, rfl, Nat.le_refl _⟩ (fun k _ h => h_fp k h) hl hP hD hS
end
