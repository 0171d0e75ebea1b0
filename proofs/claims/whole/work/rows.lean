section
-- ===== PART A: goes FIRST, ahead of the names: the tables' words, and 'selects' of the private methods out of them =====
/-- a private method of a class that the tables say can be made, by its rows of tables_1 -/
def lw_okq (q : MethodName × Nat) : Prop := (q.1.cls ≠ "java/lang/invoke/MethodHandle" ∧ q.1.cls ≠ "java/lang/invoke/VarHandle") ∧ Cond.instantiable q.1.cls q.2 ∈ tables_1 ∧ Cond.privateMethod q.1 ∈ tables_1 ∧ Cond.instanceMethod q.1 ∈ tables_1
theorem lw_p0 : lw_okq (⟨"LongMachine", "write", "(IJ)V"⟩, 17) := ⟨⟨by decide +kernel, by decide +kernel⟩, List.mem_of_getElem? (i := 8) (by decide +kernel), List.mem_of_getElem? (i := 184) (by decide +kernel), List.mem_of_getElem? (i := 185) (by decide +kernel)⟩
theorem lw_p1 : lw_okq (⟨"LongMachine", "step", "()V"⟩, 17) := ⟨⟨by decide +kernel, by decide +kernel⟩, List.mem_of_getElem? (i := 8) (by decide +kernel), List.mem_of_getElem? (i := 200) (by decide +kernel), List.mem_of_getElem? (i := 201) (by decide +kernel)⟩
theorem lw_p2 : lw_okq (⟨"LongMachine$Interrupts", "remove", "(I)V"⟩, 3) := ⟨⟨by decide +kernel, by decide +kernel⟩, List.mem_of_getElem? (i := 53) (by decide +kernel), List.mem_of_getElem? (i := 212) (by decide +kernel), List.mem_of_getElem? (i := 213) (by decide +kernel)⟩
theorem lw_p3 : lw_okq (⟨"LongMachine$Memory", "find", "(I)I"⟩, 8) := ⟨⟨by decide +kernel, by decide +kernel⟩, List.mem_of_getElem? (i := 16) (by decide +kernel), List.mem_of_getElem? (i := 230) (by decide +kernel), List.mem_of_getElem? (i := 231) (by decide +kernel)⟩
theorem lw_p4 : lw_okq (⟨"LongMachine$Memory", "walk", "(I)J"⟩, 8) := ⟨⟨by decide +kernel, by decide +kernel⟩, List.mem_of_getElem? (i := 16) (by decide +kernel), List.mem_of_getElem? (i := 234) (by decide +kernel), List.mem_of_getElem? (i := 235) (by decide +kernel)⟩
theorem lw_p5 : lw_okq (⟨"LongMachine$Memory", "keep", "(IJ)V"⟩, 8) := ⟨⟨by decide +kernel, by decide +kernel⟩, List.mem_of_getElem? (i := 16) (by decide +kernel), List.mem_of_getElem? (i := 242) (by decide +kernel), List.mem_of_getElem? (i := 243) (by decide +kernel)⟩
theorem lw_p6 : lw_okq (⟨"LongMachine", "execute", "(I)V"⟩, 17) := ⟨⟨by decide +kernel, by decide +kernel⟩, List.mem_of_getElem? (i := 8) (by decide +kernel), List.mem_of_getElem? (i := 262) (by decide +kernel), List.mem_of_getElem? (i := 263) (by decide +kernel)⟩
theorem lw_p7 : lw_okq (⟨"LongMachine", "call", "(I)V"⟩, 17) := ⟨⟨by decide +kernel, by decide +kernel⟩, List.mem_of_getElem? (i := 8) (by decide +kernel), List.mem_of_getElem? (i := 266) (by decide +kernel), List.mem_of_getElem? (i := 267) (by decide +kernel)⟩
theorem lw_p8 : lw_okq (⟨"LongMachine", "refuse", "(I)V"⟩, 17) := ⟨⟨by decide +kernel, by decide +kernel⟩, List.mem_of_getElem? (i := 8) (by decide +kernel), List.mem_of_getElem? (i := 271) (by decide +kernel), List.mem_of_getElem? (i := 272) (by decide +kernel)⟩
theorem lw_p9 : lw_okq (⟨"LongMachine", "kernelCall", "(I)V"⟩, 17) := ⟨⟨by decide +kernel, by decide +kernel⟩, List.mem_of_getElem? (i := 8) (by decide +kernel), List.mem_of_getElem? (i := 275) (by decide +kernel), List.mem_of_getElem? (i := 276) (by decide +kernel)⟩
theorem lw_p10 : lw_okq (⟨"LongMachine", "changeSpace", "()V"⟩, 17) := ⟨⟨by decide +kernel, by decide +kernel⟩, List.mem_of_getElem? (i := 8) (by decide +kernel), List.mem_of_getElem? (i := 279) (by decide +kernel), List.mem_of_getElem? (i := 280) (by decide +kernel)⟩
theorem lw_p11 : lw_okq (⟨"LongMachine", "changeVector", "()V"⟩, 17) := ⟨⟨by decide +kernel, by decide +kernel⟩, List.mem_of_getElem? (i := 8) (by decide +kernel), List.mem_of_getElem? (i := 287) (by decide +kernel), List.mem_of_getElem? (i := 288) (by decide +kernel)⟩
theorem lw_p12 : lw_okq (⟨"LongMachine", "status", "()I"⟩, 17) := ⟨⟨by decide +kernel, by decide +kernel⟩, List.mem_of_getElem? (i := 8) (by decide +kernel), List.mem_of_getElem? (i := 291) (by decide +kernel), List.mem_of_getElem? (i := 292) (by decide +kernel)⟩
theorem lw_p13 : lw_okq (⟨"LongMachine", "reach", "(IIJ)V"⟩, 17) := ⟨⟨by decide +kernel, by decide +kernel⟩, List.mem_of_getElem? (i := 8) (by decide +kernel), List.mem_of_getElem? (i := 301) (by decide +kernel), List.mem_of_getElem? (i := 302) (by decide +kernel)⟩
theorem lw_p14 : lw_okq (⟨"LongMachine", "operate", "(I)V"⟩, 17) := ⟨⟨by decide +kernel, by decide +kernel⟩, List.mem_of_getElem? (i := 8) (by decide +kernel), List.mem_of_getElem? (i := 311) (by decide +kernel), List.mem_of_getElem? (i := 312) (by decide +kernel)⟩
theorem lw_p15 : lw_okq (⟨"LongMachine$Operation", "add", "(IJJ)J"⟩, 4) := ⟨⟨by decide +kernel, by decide +kernel⟩, List.mem_of_getElem? (i := 70) (by decide +kernel), List.mem_of_getElem? (i := 319) (by decide +kernel), List.mem_of_getElem? (i := 320) (by decide +kernel)⟩
def lw_privs_1 : List (MethodName × Nat) := [(⟨"LongMachine", "write", "(IJ)V"⟩, 17), (⟨"LongMachine", "step", "()V"⟩, 17), (⟨"LongMachine$Interrupts", "remove", "(I)V"⟩, 3), (⟨"LongMachine$Memory", "find", "(I)I"⟩, 8), (⟨"LongMachine$Memory", "walk", "(I)J"⟩, 8), (⟨"LongMachine$Memory", "keep", "(IJ)V"⟩, 8), (⟨"LongMachine", "execute", "(I)V"⟩, 17), (⟨"LongMachine", "call", "(I)V"⟩, 17), (⟨"LongMachine", "refuse", "(I)V"⟩, 17), (⟨"LongMachine", "kernelCall", "(I)V"⟩, 17), (⟨"LongMachine", "changeSpace", "()V"⟩, 17), (⟨"LongMachine", "changeVector", "()V"⟩, 17), (⟨"LongMachine", "status", "()I"⟩, 17), (⟨"LongMachine", "reach", "(IIJ)V"⟩, 17), (⟨"LongMachine", "operate", "(I)V"⟩, 17), (⟨"LongMachine$Operation", "add", "(IJJ)J"⟩, 4)]
theorem lw_r1 : ∀ q ∈ lw_privs_1, lw_okq q := List.forall_mem_cons.mpr ⟨lw_p0, List.forall_mem_cons.mpr ⟨lw_p1, List.forall_mem_cons.mpr ⟨lw_p2, List.forall_mem_cons.mpr ⟨lw_p3, List.forall_mem_cons.mpr ⟨lw_p4, List.forall_mem_cons.mpr ⟨lw_p5, List.forall_mem_cons.mpr ⟨lw_p6, List.forall_mem_cons.mpr ⟨lw_p7, List.forall_mem_cons.mpr ⟨lw_p8, List.forall_mem_cons.mpr ⟨lw_p9, List.forall_mem_cons.mpr ⟨lw_p10, List.forall_mem_cons.mpr ⟨lw_p11, List.forall_mem_cons.mpr ⟨lw_p12, List.forall_mem_cons.mpr ⟨lw_p13, List.forall_mem_cons.mpr ⟨lw_p14, List.forall_mem_cons.mpr ⟨lw_p15, fun _ h => absurd h List.not_mem_nil⟩⟩⟩⟩⟩⟩⟩⟩⟩⟩⟩⟩⟩⟩⟩⟩
theorem lw_p16 : lw_okq (⟨"LongMachine$Operation", "trapIf", "(ZJ)J"⟩, 4) := ⟨⟨by decide +kernel, by decide +kernel⟩, List.mem_of_getElem? (i := 70) (by decide +kernel), List.mem_of_getElem? (i := 328) (by decide +kernel), List.mem_of_getElem? (i := 329) (by decide +kernel)⟩
theorem lw_p17 : lw_okq (⟨"LongMachine$Operation", "combine", "(IJJ)J"⟩, 4) := ⟨⟨by decide +kernel, by decide +kernel⟩, List.mem_of_getElem? (i := 70) (by decide +kernel), List.mem_of_getElem? (i := 343) (by decide +kernel), List.mem_of_getElem? (i := 344) (by decide +kernel)⟩
theorem lw_p18 : lw_okq (⟨"LongMachine$Operation", "onlyIf", "(ZJ)J"⟩, 4) := ⟨⟨by decide +kernel, by decide +kernel⟩, List.mem_of_getElem? (i := 70) (by decide +kernel), List.mem_of_getElem? (i := 348) (by decide +kernel), List.mem_of_getElem? (i := 349) (by decide +kernel)⟩
theorem lw_p19 : lw_okq (⟨"LongMachine$Operation", "shift", "(IJJ)J"⟩, 4) := ⟨⟨by decide +kernel, by decide +kernel⟩, List.mem_of_getElem? (i := 70) (by decide +kernel), List.mem_of_getElem? (i := 352) (by decide +kernel), List.mem_of_getElem? (i := 353) (by decide +kernel)⟩
theorem lw_p20 : lw_okq (⟨"LongMachine$Operation", "lowPart", "(IJIJ)J"⟩, 4) := ⟨⟨by decide +kernel, by decide +kernel⟩, List.mem_of_getElem? (i := 70) (by decide +kernel), List.mem_of_getElem? (i := 359) (by decide +kernel), List.mem_of_getElem? (i := 360) (by decide +kernel)⟩
theorem lw_p21 : lw_okq (⟨"LongMachine$Operation", "highPart", "(IJIJ)J"⟩, 4) := ⟨⟨by decide +kernel, by decide +kernel⟩, List.mem_of_getElem? (i := 70) (by decide +kernel), List.mem_of_getElem? (i := 363) (by decide +kernel), List.mem_of_getElem? (i := 364) (by decide +kernel)⟩
theorem lw_p22 : lw_okq (⟨"LongMachine$Operation", "multiply", "(IJJ)J"⟩, 4) := ⟨⟨by decide +kernel, by decide +kernel⟩, List.mem_of_getElem? (i := 70) (by decide +kernel), List.mem_of_getElem? (i := 367) (by decide +kernel), List.mem_of_getElem? (i := 368) (by decide +kernel)⟩
theorem lw_p23 : lw_okq (⟨"LongMachine", "branch", "(I)V"⟩, 17) := ⟨⟨by decide +kernel, by decide +kernel⟩, List.mem_of_getElem? (i := 8) (by decide +kernel), List.mem_of_getElem? (i := 378) (by decide +kernel), List.mem_of_getElem? (i := 379) (by decide +kernel)⟩
theorem lw_p24 : lw_okq (⟨"LongMachine", "enter", "()V"⟩, 17) := ⟨⟨by decide +kernel, by decide +kernel⟩, List.mem_of_getElem? (i := 8) (by decide +kernel), List.mem_of_getElem? (i := 385) (by decide +kernel), List.mem_of_getElem? (i := 386) (by decide +kernel)⟩
theorem lw_p25 : lw_okq (⟨"LongMachine", "fillFrame", "()V"⟩, 17) := ⟨⟨by decide +kernel, by decide +kernel⟩, List.mem_of_getElem? (i := 8) (by decide +kernel), List.mem_of_getElem? (i := 389) (by decide +kernel), List.mem_of_getElem? (i := 390) (by decide +kernel)⟩
theorem lw_p26 : lw_okq (⟨"LongMachine", "moveFrame", "(JI)Z"⟩, 17) := ⟨⟨by decide +kernel, by decide +kernel⟩, List.mem_of_getElem? (i := 8) (by decide +kernel), List.mem_of_getElem? (i := 394) (by decide +kernel), List.mem_of_getElem? (i := 395) (by decide +kernel)⟩
theorem lw_p27 : lw_okq (⟨"LongMachine", "comeBack", "()V"⟩, 17) := ⟨⟨by decide +kernel, by decide +kernel⟩, List.mem_of_getElem? (i := 8) (by decide +kernel), List.mem_of_getElem? (i := 399) (by decide +kernel), List.mem_of_getElem? (i := 400) (by decide +kernel)⟩
theorem lw_p28 : lw_okq (⟨"LongMachineModel", "step", "()V"⟩, 28) := ⟨⟨by decide +kernel, by decide +kernel⟩, List.mem_of_getElem? (i := 415) (by decide +kernel), List.mem_of_getElem? (i := 510) (by decide +kernel), List.mem_of_getElem? (i := 511) (by decide +kernel)⟩
theorem lw_p29 : lw_okq (⟨"LongMachineModel", "due", "()I"⟩, 28) := ⟨⟨by decide +kernel, by decide +kernel⟩, List.mem_of_getElem? (i := 415) (by decide +kernel), List.mem_of_getElem? (i := 514) (by decide +kernel), List.mem_of_getElem? (i := 515) (by decide +kernel)⟩
theorem lw_p30 : lw_okq (⟨"LongMachineModel", "interrupted", "(I)V"⟩, 28) := ⟨⟨by decide +kernel, by decide +kernel⟩, List.mem_of_getElem? (i := 415) (by decide +kernel), List.mem_of_getElem? (i := 518) (by decide +kernel), List.mem_of_getElem? (i := 519) (by decide +kernel)⟩
theorem lw_p31 : lw_okq (⟨"LongMachineModel", "entry", "(IJJJJ)V"⟩, 28) := ⟨⟨by decide +kernel, by decide +kernel⟩, List.mem_of_getElem? (i := 415) (by decide +kernel), List.mem_of_getElem? (i := 522) (by decide +kernel), List.mem_of_getElem? (i := 523) (by decide +kernel)⟩
def lw_privs_2 : List (MethodName × Nat) := [(⟨"LongMachine$Operation", "trapIf", "(ZJ)J"⟩, 4), (⟨"LongMachine$Operation", "combine", "(IJJ)J"⟩, 4), (⟨"LongMachine$Operation", "onlyIf", "(ZJ)J"⟩, 4), (⟨"LongMachine$Operation", "shift", "(IJJ)J"⟩, 4), (⟨"LongMachine$Operation", "lowPart", "(IJIJ)J"⟩, 4), (⟨"LongMachine$Operation", "highPart", "(IJIJ)J"⟩, 4), (⟨"LongMachine$Operation", "multiply", "(IJJ)J"⟩, 4), (⟨"LongMachine", "branch", "(I)V"⟩, 17), (⟨"LongMachine", "enter", "()V"⟩, 17), (⟨"LongMachine", "fillFrame", "()V"⟩, 17), (⟨"LongMachine", "moveFrame", "(JI)Z"⟩, 17), (⟨"LongMachine", "comeBack", "()V"⟩, 17), (⟨"LongMachineModel", "step", "()V"⟩, 28), (⟨"LongMachineModel", "due", "()I"⟩, 28), (⟨"LongMachineModel", "interrupted", "(I)V"⟩, 28), (⟨"LongMachineModel", "entry", "(IJJJJ)V"⟩, 28)]
theorem lw_r2 : ∀ q ∈ lw_privs_2, lw_okq q := List.forall_mem_cons.mpr ⟨lw_p16, List.forall_mem_cons.mpr ⟨lw_p17, List.forall_mem_cons.mpr ⟨lw_p18, List.forall_mem_cons.mpr ⟨lw_p19, List.forall_mem_cons.mpr ⟨lw_p20, List.forall_mem_cons.mpr ⟨lw_p21, List.forall_mem_cons.mpr ⟨lw_p22, List.forall_mem_cons.mpr ⟨lw_p23, List.forall_mem_cons.mpr ⟨lw_p24, List.forall_mem_cons.mpr ⟨lw_p25, List.forall_mem_cons.mpr ⟨lw_p26, List.forall_mem_cons.mpr ⟨lw_p27, List.forall_mem_cons.mpr ⟨lw_p28, List.forall_mem_cons.mpr ⟨lw_p29, List.forall_mem_cons.mpr ⟨lw_p30, List.forall_mem_cons.mpr ⟨lw_p31, fun _ h => absurd h List.not_mem_nil⟩⟩⟩⟩⟩⟩⟩⟩⟩⟩⟩⟩⟩⟩⟩⟩
theorem lw_p32 : lw_okq (⟨"LongMachineModel", "translate", "(JI)I"⟩, 28) := ⟨⟨by decide +kernel, by decide +kernel⟩, List.mem_of_getElem? (i := 415) (by decide +kernel), List.mem_of_getElem? (i := 528) (by decide +kernel), List.mem_of_getElem? (i := 529) (by decide +kernel)⟩
theorem lw_p33 : lw_okq (⟨"LongMachineModel", "buffered", "(I)I"⟩, 28) := ⟨⟨by decide +kernel, by decide +kernel⟩, List.mem_of_getElem? (i := 415) (by decide +kernel), List.mem_of_getElem? (i := 537) (by decide +kernel), List.mem_of_getElem? (i := 538) (by decide +kernel)⟩
theorem lw_p34 : lw_okq (⟨"LongMachineModel", "walk", "(I)J"⟩, 28) := ⟨⟨by decide +kernel, by decide +kernel⟩, List.mem_of_getElem? (i := 415) (by decide +kernel), List.mem_of_getElem? (i := 541) (by decide +kernel), List.mem_of_getElem? (i := 542) (by decide +kernel)⟩
theorem lw_p35 : lw_okq (⟨"LongMachineModel", "bytes", "(II)J"⟩, 28) := ⟨⟨by decide +kernel, by decide +kernel⟩, List.mem_of_getElem? (i := 415) (by decide +kernel), List.mem_of_getElem? (i := 545) (by decide +kernel), List.mem_of_getElem? (i := 546) (by decide +kernel)⟩
theorem lw_p36 : lw_okq (⟨"LongMachineModel", "keep", "(IJ)V"⟩, 28) := ⟨⟨by decide +kernel, by decide +kernel⟩, List.mem_of_getElem? (i := 415) (by decide +kernel), List.mem_of_getElem? (i := 554) (by decide +kernel), List.mem_of_getElem? (i := 555) (by decide +kernel)⟩
theorem lw_p37 : lw_okq (⟨"LongMachineModel", "store", "(IIJ)V"⟩, 28) := ⟨⟨by decide +kernel, by decide +kernel⟩, List.mem_of_getElem? (i := 415) (by decide +kernel), List.mem_of_getElem? (i := 558) (by decide +kernel), List.mem_of_getElem? (i := 559) (by decide +kernel)⟩
theorem lw_p38 : lw_okq (⟨"LongMachineModel", "fault", "(JII)V"⟩, 28) := ⟨⟨by decide +kernel, by decide +kernel⟩, List.mem_of_getElem? (i := 415) (by decide +kernel), List.mem_of_getElem? (i := 563) (by decide +kernel), List.mem_of_getElem? (i := 564) (by decide +kernel)⟩
theorem lw_p39 : lw_okq (⟨"LongMachineModel", "call", "(I)V"⟩, 28) := ⟨⟨by decide +kernel, by decide +kernel⟩, List.mem_of_getElem? (i := 415) (by decide +kernel), List.mem_of_getElem? (i := 568) (by decide +kernel), List.mem_of_getElem? (i := 569) (by decide +kernel)⟩
theorem lw_p40 : lw_okq (⟨"LongMachineModel", "wrong", "(I)V"⟩, 28) := ⟨⟨by decide +kernel, by decide +kernel⟩, List.mem_of_getElem? (i := 415) (by decide +kernel), List.mem_of_getElem? (i := 573) (by decide +kernel), List.mem_of_getElem? (i := 574) (by decide +kernel)⟩
theorem lw_p41 : lw_okq (⟨"LongMachineModel", "own", "(I)V"⟩, 28) := ⟨⟨by decide +kernel, by decide +kernel⟩, List.mem_of_getElem? (i := 415) (by decide +kernel), List.mem_of_getElem? (i := 577) (by decide +kernel), List.mem_of_getElem? (i := 578) (by decide +kernel)⟩
theorem lw_p42 : lw_okq (⟨"LongMachineModel", "back", "()V"⟩, 28) := ⟨⟨by decide +kernel, by decide +kernel⟩, List.mem_of_getElem? (i := 415) (by decide +kernel), List.mem_of_getElem? (i := 581) (by decide +kernel), List.mem_of_getElem? (i := 582) (by decide +kernel)⟩
theorem lw_p43 : lw_okq (⟨"LongMachineModel", "operate", "(I)V"⟩, 28) := ⟨⟨by decide +kernel, by decide +kernel⟩, List.mem_of_getElem? (i := 415) (by decide +kernel), List.mem_of_getElem? (i := 589) (by decide +kernel), List.mem_of_getElem? (i := 590) (by decide +kernel)⟩
theorem lw_p44 : lw_okq (⟨"LongMachineModel", "sums", "(IJJ)J"⟩, 28) := ⟨⟨by decide +kernel, by decide +kernel⟩, List.mem_of_getElem? (i := 415) (by decide +kernel), List.mem_of_getElem? (i := 593) (by decide +kernel), List.mem_of_getElem? (i := 594) (by decide +kernel)⟩
theorem lw_p45 : lw_okq (⟨"LongMachineModel", "bits", "(IJJ)J"⟩, 28) := ⟨⟨by decide +kernel, by decide +kernel⟩, List.mem_of_getElem? (i := 415) (by decide +kernel), List.mem_of_getElem? (i := 606) (by decide +kernel), List.mem_of_getElem? (i := 607) (by decide +kernel)⟩
theorem lw_p46 : lw_okq (⟨"LongMachineModel", "parts", "(IJJ)J"⟩, 28) := ⟨⟨by decide +kernel, by decide +kernel⟩, List.mem_of_getElem? (i := 415) (by decide +kernel), List.mem_of_getElem? (i := 611) (by decide +kernel), List.mem_of_getElem? (i := 612) (by decide +kernel)⟩
theorem lw_p47 : lw_okq (⟨"LongMachineModel", "products", "(IJJ)J"⟩, 28) := ⟨⟨by decide +kernel, by decide +kernel⟩, List.mem_of_getElem? (i := 415) (by decide +kernel), List.mem_of_getElem? (i := 622) (by decide +kernel), List.mem_of_getElem? (i := 623) (by decide +kernel)⟩
def lw_privs_3 : List (MethodName × Nat) := [(⟨"LongMachineModel", "translate", "(JI)I"⟩, 28), (⟨"LongMachineModel", "buffered", "(I)I"⟩, 28), (⟨"LongMachineModel", "walk", "(I)J"⟩, 28), (⟨"LongMachineModel", "bytes", "(II)J"⟩, 28), (⟨"LongMachineModel", "keep", "(IJ)V"⟩, 28), (⟨"LongMachineModel", "store", "(IIJ)V"⟩, 28), (⟨"LongMachineModel", "fault", "(JII)V"⟩, 28), (⟨"LongMachineModel", "call", "(I)V"⟩, 28), (⟨"LongMachineModel", "wrong", "(I)V"⟩, 28), (⟨"LongMachineModel", "own", "(I)V"⟩, 28), (⟨"LongMachineModel", "back", "()V"⟩, 28), (⟨"LongMachineModel", "operate", "(I)V"⟩, 28), (⟨"LongMachineModel", "sums", "(IJJ)J"⟩, 28), (⟨"LongMachineModel", "bits", "(IJJ)J"⟩, 28), (⟨"LongMachineModel", "parts", "(IJJ)J"⟩, 28), (⟨"LongMachineModel", "products", "(IJJ)J"⟩, 28)]
theorem lw_r3 : ∀ q ∈ lw_privs_3, lw_okq q := List.forall_mem_cons.mpr ⟨lw_p32, List.forall_mem_cons.mpr ⟨lw_p33, List.forall_mem_cons.mpr ⟨lw_p34, List.forall_mem_cons.mpr ⟨lw_p35, List.forall_mem_cons.mpr ⟨lw_p36, List.forall_mem_cons.mpr ⟨lw_p37, List.forall_mem_cons.mpr ⟨lw_p38, List.forall_mem_cons.mpr ⟨lw_p39, List.forall_mem_cons.mpr ⟨lw_p40, List.forall_mem_cons.mpr ⟨lw_p41, List.forall_mem_cons.mpr ⟨lw_p42, List.forall_mem_cons.mpr ⟨lw_p43, List.forall_mem_cons.mpr ⟨lw_p44, List.forall_mem_cons.mpr ⟨lw_p45, List.forall_mem_cons.mpr ⟨lw_p46, List.forall_mem_cons.mpr ⟨lw_p47, fun _ h => absurd h List.not_mem_nil⟩⟩⟩⟩⟩⟩⟩⟩⟩⟩⟩⟩⟩⟩⟩⟩
theorem lw_p48 : lw_okq (⟨"LongMachineModel", "give", "(IJ)V"⟩, 28) := ⟨⟨by decide +kernel, by decide +kernel⟩, List.mem_of_getElem? (i := 415) (by decide +kernel), List.mem_of_getElem? (i := 630) (by decide +kernel), List.mem_of_getElem? (i := 631) (by decide +kernel)⟩
theorem lw_p49 : lw_okq (⟨"LongMachineModel", "move", "(I)V"⟩, 28) := ⟨⟨by decide +kernel, by decide +kernel⟩, List.mem_of_getElem? (i := 415) (by decide +kernel), List.mem_of_getElem? (i := 635) (by decide +kernel), List.mem_of_getElem? (i := 636) (by decide +kernel)⟩
theorem lw_p50 : lw_okq (⟨"LongMachineModel", "branch", "(I)V"⟩, 28) := ⟨⟨by decide +kernel, by decide +kernel⟩, List.mem_of_getElem? (i := 415) (by decide +kernel), List.mem_of_getElem? (i := 640) (by decide +kernel), List.mem_of_getElem? (i := 641) (by decide +kernel)⟩
def lw_privs_4 : List (MethodName × Nat) := [(⟨"LongMachineModel", "give", "(IJ)V"⟩, 28), (⟨"LongMachineModel", "move", "(I)V"⟩, 28), (⟨"LongMachineModel", "branch", "(I)V"⟩, 28)]
theorem lw_r4 : ∀ q ∈ lw_privs_4, lw_okq q := List.forall_mem_cons.mpr ⟨lw_p48, List.forall_mem_cons.mpr ⟨lw_p49, List.forall_mem_cons.mpr ⟨lw_p50, fun _ h => absurd h List.not_mem_nil⟩⟩⟩
def lw_privs : List (MethodName × Nat) := lw_privs_1 ++ (lw_privs_2 ++ (lw_privs_3 ++ (lw_privs_4)))
def lw_tbl : List Cond := k2_sels lw_privs ++ tables_1
theorem lw_privs_ok : ∀ q ∈ lw_privs, lw_okq q := by
  show ∀ q ∈ lw_privs_1 ++ (lw_privs_2 ++ (lw_privs_3 ++ (lw_privs_4))), lw_okq q
  exact List.forall_mem_append.mpr ⟨lw_r1, List.forall_mem_append.mpr ⟨lw_r2, List.forall_mem_append.mpr ⟨lw_r3, lw_r4⟩⟩⟩
end
section
def TX0 : u_T := fun k => match k with
  | 0 => ("LongMachine$Crossing", "vector", "I", false)
  | 1 => ("LongMachine$Crossing", "a", "J", false)
  | 2 => ("LongMachine$Crossing", "b", "J", false)
  | 3 => ("LongMachine$Crossing", "c", "J", false)
  | _ => ("LongMachine$Crossing", "pc", "J", false)
def tyX0 : Nat → FieldType := fun k => match k with
  | 0 => .int
  | 1 => .long
  | 2 => .long
  | 3 => .long
  | _ => .long
theorem nmX0 : ∀ a, a < 5 → ∀ b, b < 5 → a ≠ b → (TX0 a).2.1 ≠ (TX0 b).2.1 := by decide +kernel
theorem tyX0_ok : ∀ k, k < 5 → parseFieldDescriptor (TX0 k).2.2.1 = some (tyX0 k) := by decide +kernel
def TX1 : u_T := fun k => match k with
  | 0 => ("LongMachine$Interrupts", "levels", "[I", true)
  | 1 => ("LongMachine$Interrupts", "numbers", "[I", true)
  | _ => ("LongMachine$Interrupts", "count", "I", false)
def tyX1 : Nat → FieldType := fun k => match k with
  | 0 => .array .int
  | 1 => .array .int
  | _ => .int
theorem nmX1 : ∀ a, a < 3 → ∀ b, b < 3 → a ≠ b → (TX1 a).2.1 ≠ (TX1 b).2.1 := by decide +kernel
theorem tyX1_ok : ∀ k, k < 3 → parseFieldDescriptor (TX1 k).2.2.1 = some (tyX1 k) := by decide +kernel
def TX2 : u_T := fun k => match k with
  | 0 => ("LongMachine$Memory", "words", "[J", true)
  | 1 => ("LongMachine$Memory", "pages", "[I", true)
  | 2 => ("LongMachine$Memory", "spaces", "[I", true)
  | 3 => ("LongMachine$Memory", "descriptors", "[J", true)
  | 4 => ("LongMachine$Memory", "oldest", "I", false)
  | 5 => ("LongMachine$Memory", "count", "I", false)
  | 6 => ("LongMachine$Memory", "table", "I", false)
  | _ => ("LongMachine$Memory", "space", "I", false)
def tyX2 : Nat → FieldType := fun k => match k with
  | 0 => .array .long
  | 1 => .array .int
  | 2 => .array .int
  | 3 => .array .long
  | 4 => .int
  | 5 => .int
  | 6 => .int
  | _ => .int
theorem nmX2 : ∀ a, a < 8 → ∀ b, b < 8 → a ≠ b → (TX2 a).2.1 ≠ (TX2 b).2.1 := by decide +kernel
theorem tyX2_ok : ∀ k, k < 8 → parseFieldDescriptor (TX2 k).2.2.1 = some (tyX2 k) := by decide +kernel
def TX3 : u_T := fun k => match k with
  | 0 => ("LongMachine$Operation", "result", "J", false)
  | 1 => ("LongMachine$Operation", "known", "Z", false)
  | 2 => ("LongMachine$Operation", "given", "Z", false)
  | _ => ("LongMachine$Operation", "trap", "Z", false)
def tyX3 : Nat → FieldType := fun k => match k with
  | 0 => .long
  | 1 => .boolean
  | 2 => .boolean
  | _ => .boolean
theorem nmX3 : ∀ a, a < 4 → ∀ b, b < 4 → a ≠ b → (TX3 a).2.1 ≠ (TX3 b).2.1 := by decide +kernel
theorem tyX3_ok : ∀ k, k < 4 → parseFieldDescriptor (TX3 k).2.2.1 = some (tyX3 k) := by decide +kernel
def TX4 : u_T := fun k => match k with
  | 0 => ("LongMachine", "memory", "LLongMachine$Memory;", true)
  | 1 => ("LongMachine", "registers", "[J", true)
  | 2 => ("LongMachine", "vectors", "[J", true)
  | 3 => ("LongMachine", "frame", "[J", true)
  | 4 => ("LongMachine", "interrupts", "LLongMachine$Interrupts;", true)
  | 5 => ("LongMachine", "operation", "LLongMachine$Operation;", true)
  | 6 => ("LongMachine", "asked", "LLongMachine$Crossing;", true)
  | 7 => ("LongMachine", "pc", "J", false)
  | 8 => ("LongMachine", "ksp", "J", false)
  | 9 => ("LongMachine", "usp", "J", false)
  | 10 => ("LongMachine", "kgp", "J", false)
  | 11 => ("LongMachine", "value", "J", false)
  | 12 => ("LongMachine", "mode", "I", false)
  | 13 => ("LongMachine", "level", "I", false)
  | 14 => ("LongMachine", "halted", "I", false)
  | 15 => ("LongMachine", "entries", "I", false)
  | _ => ("LongMachine", "locked", "Z", false)
def tyX4 : Nat → FieldType := fun k => match k with
  | 0 => .object "LongMachine$Memory"
  | 1 => .array .long
  | 2 => .array .long
  | 3 => .array .long
  | 4 => .object "LongMachine$Interrupts"
  | 5 => .object "LongMachine$Operation"
  | 6 => .object "LongMachine$Crossing"
  | 7 => .long
  | 8 => .long
  | 9 => .long
  | 10 => .long
  | 11 => .long
  | 12 => .int
  | 13 => .int
  | 14 => .int
  | 15 => .int
  | _ => .boolean
theorem nmX4 : ∀ a, a < 17 → ∀ b, b < 17 → a ≠ b → (TX4 a).2.1 ≠ (TX4 b).2.1 := by decide +kernel
theorem tyX4_ok : ∀ k, k < 17 → parseFieldDescriptor (TX4 k).2.2.1 = some (tyX4 k) := by decide +kernel
def TY : u_T := fun k => match k with
  | 0 => ("LongMachineModel", "memory", "[I", true)
  | 1 => ("LongMachineModel", "\x72", "[J", true)
  | 2 => ("LongMachineModel", "pc", "J", false)
  | 3 => ("LongMachineModel", "mode", "I", false)
  | 4 => ("LongMachineModel", "level", "I", false)
  | 5 => ("LongMachineModel", "lock", "Z", false)
  | 6 => ("LongMachineModel", "ksp", "J", false)
  | 7 => ("LongMachineModel", "usp", "J", false)
  | 8 => ("LongMachineModel", "kgp", "J", false)
  | 9 => ("LongMachineModel", "value", "J", false)
  | 10 => ("LongMachineModel", "table", "I", false)
  | 11 => ("LongMachineModel", "space", "I", false)
  | 12 => ("LongMachineModel", "vector", "[J", true)
  | 13 => ("LongMachineModel", "halted", "I", false)
  | 14 => ("LongMachineModel", "entries", "I", false)
  | 15 => ("LongMachineModel", "pending", "I", false)
  | 16 => ("LongMachineModel", "pendingLevel", "[I", true)
  | 17 => ("LongMachineModel", "pendingNumber", "[I", true)
  | 18 => ("LongMachineModel", "buffered", "I", false)
  | 19 => ("LongMachineModel", "bufferPage", "[I", true)
  | 20 => ("LongMachineModel", "bufferSpace", "[I", true)
  | 21 => ("LongMachineModel", "bufferWord", "[J", true)
  | 22 => ("LongMachineModel", "here", "J", false)
  | 23 => ("LongMachineModel", "word", "I", false)
  | 24 => ("LongMachineModel", "has", "Z", false)
  | 25 => ("LongMachineModel", "trap", "Z", false)
  | 26 => ("LongMachineModel", "none", "Z", false)
  | _ => ("LongMachineModel", "six", "[J", true)
def tyY : Nat → FieldType := fun k => match k with
  | 0 => .array .int
  | 1 => .array .long
  | 2 => .long
  | 3 => .int
  | 4 => .int
  | 5 => .boolean
  | 6 => .long
  | 7 => .long
  | 8 => .long
  | 9 => .long
  | 10 => .int
  | 11 => .int
  | 12 => .array .long
  | 13 => .int
  | 14 => .int
  | 15 => .int
  | 16 => .array .int
  | 17 => .array .int
  | 18 => .int
  | 19 => .array .int
  | 20 => .array .int
  | 21 => .array .long
  | 22 => .long
  | 23 => .int
  | 24 => .boolean
  | 25 => .boolean
  | 26 => .boolean
  | _ => .array .long
theorem nmY : ∀ a, a < 28 → ∀ b, b < 28 → a ≠ b → (TY a).2.1 ≠ (TY b).2.1 := by decide +kernel
theorem tyY_ok : ∀ k, k < 28 → parseFieldDescriptor (TY k).2.2.1 = some (tyY k) := by decide +kernel
abbrev cX4_init : ByteArray := prog_1_method_1_code
def yX4_init : MethodName := ⟨"LongMachine", "<init>", "()V"⟩
abbrev cX2_init : ByteArray := prog_4_method_1_code
def yX2_init : MethodName := ⟨"LongMachine$Memory", "<init>", "()V"⟩
abbrev cX1_init : ByteArray := prog_3_method_1_code
def yX1_init : MethodName := ⟨"LongMachine$Interrupts", "<init>", "()V"⟩
abbrev cX3_init : ByteArray := prog_5_method_1_code
def yX3_init : MethodName := ⟨"LongMachine$Operation", "<init>", "()V"⟩
abbrev cX0_init : ByteArray := prog_2_method_1_code
def yX0_init : MethodName := ⟨"LongMachine$Crossing", "<init>", "()V"⟩
abbrev cX4_set : ByteArray := prog_1_method_2_code
def yX4_set : MethodName := ⟨"LongMachine", "set", "(IJ)Z"⟩
abbrev cX4_isWordAddress : ByteArray := prog_1_method_9_code
def yX4_isWordAddress : MethodName := ⟨"LongMachine", "isWordAddress", "(I)Z"⟩
abbrev cX4_put : ByteArray := prog_1_method_3_code
def yX4_put : MethodName := ⟨"LongMachine", "put", "(IJ)Z"⟩
abbrev cX4_write : ByteArray := prog_1_method_11_code
def yX4_write : MethodName := ⟨"LongMachine", "write", "(IJ)V"⟩
abbrev cX4_interrupt : ByteArray := prog_1_method_4_code
def yX4_interrupt : MethodName := ⟨"LongMachine", "interrupt", "(II)Z"⟩
abbrev cX1_add : ByteArray := prog_3_method_2_code
def yX1_add : MethodName := ⟨"LongMachine$Interrupts", "add", "(II)Z"⟩
abbrev cX4_run : ByteArray := prog_1_method_5_code
def yX4_run : MethodName := ⟨"LongMachine", "run", "(I)I"⟩
abbrev cX4_step : ByteArray := prog_1_method_12_code
def yX4_step : MethodName := ⟨"LongMachine", "step", "()V"⟩
abbrev cX0_clear : ByteArray := prog_2_method_2_code
def yX0_clear : MethodName := ⟨"LongMachine$Crossing", "clear", "()V"⟩
abbrev cX1_takeAbove : ByteArray := prog_3_method_3_code
def yX1_takeAbove : MethodName := ⟨"LongMachine$Interrupts", "takeAbove", "(I)I"⟩
abbrev cX1_remove : ByteArray := prog_3_method_4_code
def yX1_remove : MethodName := ⟨"LongMachine$Interrupts", "remove", "(I)V"⟩
abbrev cX2_place : ByteArray := prog_4_method_7_code
def yX2_place : MethodName := ⟨"LongMachine$Memory", "place", "(JII)I"⟩
abbrev cX2_directPlace : ByteArray := prog_4_method_8_code
def yX2_directPlace : MethodName := ⟨"LongMachine$Memory", "directPlace", "(JI)I"⟩
abbrev cX2_faulted : ByteArray := prog_4_method_5_code
def yX2_faulted : MethodName := ⟨"LongMachine$Memory", "faulted", "(I)I"⟩
abbrev cX2_find : ByteArray := prog_4_method_9_code
def yX2_find : MethodName := ⟨"LongMachine$Memory", "find", "(I)I"⟩
abbrev cX2_walk : ByteArray := prog_4_method_10_code
def yX2_walk : MethodName := ⟨"LongMachine$Memory", "walk", "(I)J"⟩
abbrev cX2_numberOf : ByteArray := prog_4_method_12_code
def yX2_numberOf : MethodName := ⟨"LongMachine$Memory", "numberOf", "(J)I"⟩
abbrev cX2_keep : ByteArray := prog_4_method_11_code
def yX2_keep : MethodName := ⟨"LongMachine$Memory", "keep", "(IJ)V"⟩
abbrev cX2_faultIn : ByteArray := prog_4_method_13_code
def yX2_faultIn : MethodName := ⟨"LongMachine$Memory", "faultIn", "(JII)I"⟩
abbrev cX0_enter : ByteArray := prog_2_method_4_code
def yX0_enter : MethodName := ⟨"LongMachine$Crossing", "enter", "(IJJJJ)V"⟩
abbrev cX2_faultOf : ByteArray := prog_4_method_6_code
def yX2_faultOf : MethodName := ⟨"LongMachine$Memory", "faultOf", "(I)I"⟩
abbrev cX2_load : ByteArray := prog_4_method_2_code
def yX2_load : MethodName := ⟨"LongMachine$Memory", "load", "(IZ)J"⟩
abbrev cX4_execute : ByteArray := prog_1_method_13_code
def yX4_execute : MethodName := ⟨"LongMachine", "execute", "(I)V"⟩
abbrev cX4_call : ByteArray := prog_1_method_23_code
def yX4_call : MethodName := ⟨"LongMachine", "call", "(I)V"⟩
abbrev cX4_refuse : ByteArray := prog_1_method_14_code
def yX4_refuse : MethodName := ⟨"LongMachine", "refuse", "(I)V"⟩
abbrev cX4_kernelCall : ByteArray := prog_1_method_24_code
def yX4_kernelCall : MethodName := ⟨"LongMachine", "kernelCall", "(I)V"⟩
abbrev cX4_changeSpace : ByteArray := prog_1_method_25_code
def yX4_changeSpace : MethodName := ⟨"LongMachine", "changeSpace", "()V"⟩
abbrev cX2_emptyBuffer : ByteArray := prog_4_method_4_code
def yX2_emptyBuffer : MethodName := ⟨"LongMachine$Memory", "emptyBuffer", "()V"⟩
abbrev cX4_changeVector : ByteArray := prog_1_method_26_code
def yX4_changeVector : MethodName := ⟨"LongMachine", "changeVector", "()V"⟩
abbrev cX4_status : ByteArray := prog_1_method_10_code
def yX4_status : MethodName := ⟨"LongMachine", "status", "()I"⟩
abbrev cX0_comeBack : ByteArray := prog_2_method_3_code
def yX0_comeBack : MethodName := ⟨"LongMachine$Crossing", "comeBack", "()V"⟩
abbrev cX4_reach : ByteArray := prog_1_method_18_code
def yX4_reach : MethodName := ⟨"LongMachine", "reach", "(IIJ)V"⟩
abbrev cX2_store : ByteArray := prog_4_method_3_code
def yX2_store : MethodName := ⟨"LongMachine$Memory", "store", "(IZJ)V"⟩
abbrev cX4_operate : ByteArray := prog_1_method_17_code
def yX4_operate : MethodName := ⟨"LongMachine", "operate", "(I)V"⟩
abbrev cX3_compute : ByteArray := prog_5_method_2_code
def yX3_compute : MethodName := ⟨"LongMachine$Operation", "compute", "(IIJJ)V"⟩
abbrev cX3_add : ByteArray := prog_5_method_7_code
def yX3_add : MethodName := ⟨"LongMachine$Operation", "add", "(IJJ)J"⟩
abbrev cX3_sx : ByteArray := prog_5_method_3_code
def yX3_sx : MethodName := ⟨"LongMachine$Operation", "sx", "(J)J"⟩
abbrev cX3_trapIf : ByteArray := prog_5_method_4_code
def yX3_trapIf : MethodName := ⟨"LongMachine$Operation", "trapIf", "(ZJ)J"⟩
abbrev cX3_truth : ByteArray := prog_5_method_5_code
def yX3_truth : MethodName := ⟨"LongMachine$Operation", "truth", "(Z)J"⟩
abbrev cX3_isBelow : ByteArray := prog_5_method_6_code
def yX3_isBelow : MethodName := ⟨"LongMachine$Operation", "isBelow", "(JJ)Z"⟩
abbrev cX3_bytesNotLess : ByteArray := prog_5_method_8_code
def yX3_bytesNotLess : MethodName := ⟨"LongMachine$Operation", "bytesNotLess", "(JJ)J"⟩
abbrev cX3_combine : ByteArray := prog_5_method_9_code
def yX3_combine : MethodName := ⟨"LongMachine$Operation", "combine", "(IJJ)J"⟩
abbrev cX3_onlyIf : ByteArray := prog_5_method_10_code
def yX3_onlyIf : MethodName := ⟨"LongMachine$Operation", "onlyIf", "(ZJ)J"⟩
abbrev cX3_shift : ByteArray := prog_5_method_11_code
def yX3_shift : MethodName := ⟨"LongMachine$Operation", "shift", "(IJJ)J"⟩
abbrev cX3_bytesOf : ByteArray := prog_5_method_12_code
def yX3_bytesOf : MethodName := ⟨"LongMachine$Operation", "bytesOf", "(J)J"⟩
abbrev cX3_lowPart : ByteArray := prog_5_method_13_code
def yX3_lowPart : MethodName := ⟨"LongMachine$Operation", "lowPart", "(IJIJ)J"⟩
abbrev cX3_highPart : ByteArray := prog_5_method_14_code
def yX3_highPart : MethodName := ⟨"LongMachine$Operation", "highPart", "(IJIJ)J"⟩
abbrev cX3_multiply : ByteArray := prog_5_method_15_code
def yX3_multiply : MethodName := ⟨"LongMachine$Operation", "multiply", "(IJJ)J"⟩
abbrev cX3_upper : ByteArray := prog_5_method_16_code
def yX3_upper : MethodName := ⟨"LongMachine$Operation", "upper", "(JJ)J"⟩
abbrev cX3_signedUpper : ByteArray := prog_5_method_17_code
def yX3_signedUpper : MethodName := ⟨"LongMachine$Operation", "signedUpper", "(JJJ)J"⟩
abbrev cX4_branch : ByteArray := prog_1_method_15_code
def yX4_branch : MethodName := ⟨"LongMachine", "branch", "(I)V"⟩
abbrev cX4_isTaken : ByteArray := prog_1_method_16_code
def yX4_isTaken : MethodName := ⟨"LongMachine", "isTaken", "(IJ)Z"⟩
abbrev cX4_enter : ByteArray := prog_1_method_19_code
def yX4_enter : MethodName := ⟨"LongMachine", "enter", "()V"⟩
abbrev cX4_fillFrame : ByteArray := prog_1_method_20_code
def yX4_fillFrame : MethodName := ⟨"LongMachine", "fillFrame", "()V"⟩
abbrev cX4_moveFrame : ByteArray := prog_1_method_21_code
def yX4_moveFrame : MethodName := ⟨"LongMachine", "moveFrame", "(JI)Z"⟩
abbrev cX4_comeBack : ByteArray := prog_1_method_22_code
def yX4_comeBack : MethodName := ⟨"LongMachine", "comeBack", "()V"⟩
abbrev cX4_register : ByteArray := prog_1_method_6_code
def yX4_register : MethodName := ⟨"LongMachine", "register", "(I)J"⟩
abbrev cX4_word : ByteArray := prog_1_method_7_code
def yX4_word : MethodName := ⟨"LongMachine", "word", "(I)J"⟩
abbrev cX4_state : ByteArray := prog_1_method_8_code
def yX4_state : MethodName := ⟨"LongMachine", "state", "(I)I"⟩
abbrev cY_init : ByteArray := prog_7_method_1_code
def yY_init : MethodName := ⟨"LongMachineModel", "<init>", "()V"⟩
abbrev cY_run : ByteArray := prog_7_method_33_code
def yY_run : MethodName := ⟨"LongMachineModel", "run", "(I)I"⟩
abbrev cY_step : ByteArray := prog_7_method_32_code
def yY_step : MethodName := ⟨"LongMachineModel", "step", "()V"⟩
abbrev cY_due : ByteArray := prog_7_method_30_code
def yY_due : MethodName := ⟨"LongMachineModel", "due", "()I"⟩
abbrev cY_interrupted : ByteArray := prog_7_method_31_code
def yY_interrupted : MethodName := ⟨"LongMachineModel", "interrupted", "(I)V"⟩
abbrev cY_entry : ByteArray := prog_7_method_11_code
def yY_entry : MethodName := ⟨"LongMachineModel", "entry", "(IJJJJ)V"⟩
abbrev cY_translate : ByteArray := prog_7_method_10_code
def yY_translate : MethodName := ⟨"LongMachineModel", "translate", "(JI)I"⟩
abbrev cY_buffered : ByteArray := prog_7_method_6_code
def yY_buffered : MethodName := ⟨"LongMachineModel", "buffered", "(I)I"⟩
abbrev cY_walk : ByteArray := prog_7_method_9_code
def yY_walk : MethodName := ⟨"LongMachineModel", "walk", "(I)J"⟩
abbrev cY_bytes : ByteArray := prog_7_method_4_code
def yY_bytes : MethodName := ⟨"LongMachineModel", "bytes", "(II)J"⟩
abbrev cY_number : ByteArray := prog_7_method_8_code
def yY_number : MethodName := ⟨"LongMachineModel", "number", "(J)I"⟩
abbrev cY_keep : ByteArray := prog_7_method_7_code
def yY_keep : MethodName := ⟨"LongMachineModel", "keep", "(IJ)V"⟩
abbrev cY_store : ByteArray := prog_7_method_5_code
def yY_store : MethodName := ⟨"LongMachineModel", "store", "(IIJ)V"⟩
abbrev cY_fault : ByteArray := prog_7_method_13_code
def yY_fault : MethodName := ⟨"LongMachineModel", "fault", "(JII)V"⟩
abbrev cY_call : ByteArray := prog_7_method_27_code
def yY_call : MethodName := ⟨"LongMachineModel", "call", "(I)V"⟩
abbrev cY_wrong : ByteArray := prog_7_method_12_code
def yY_wrong : MethodName := ⟨"LongMachineModel", "wrong", "(I)V"⟩
abbrev cY_own : ByteArray := prog_7_method_28_code
def yY_own : MethodName := ⟨"LongMachineModel", "own", "(I)V"⟩
abbrev cY_back : ByteArray := prog_7_method_29_code
def yY_back : MethodName := ⟨"LongMachineModel", "back", "()V"⟩
abbrev cY_operate : ByteArray := prog_7_method_23_code
def yY_operate : MethodName := ⟨"LongMachineModel", "operate", "(I)V"⟩
abbrev cY_sums : ByteArray := prog_7_method_16_code
def yY_sums : MethodName := ⟨"LongMachineModel", "sums", "(IJJ)J"⟩
abbrev cY_sx : ByteArray := prog_7_method_2_code
def yY_sx : MethodName := ⟨"LongMachineModel", "sx", "(J)J"⟩
abbrev cY_is : ByteArray := prog_7_method_15_code
def yY_is : MethodName := ⟨"LongMachineModel", "is", "(Z)J"⟩
abbrev cY_less : ByteArray := prog_7_method_14_code
def yY_less : MethodName := ⟨"LongMachineModel", "less", "(JJ)Z"⟩
abbrev cY_bits : ByteArray := prog_7_method_17_code
def yY_bits : MethodName := ⟨"LongMachineModel", "bits", "(IJJ)J"⟩
abbrev cY_parts : ByteArray := prog_7_method_19_code
def yY_parts : MethodName := ⟨"LongMachineModel", "parts", "(IJJ)J"⟩
abbrev cY_lowest : ByteArray := prog_7_method_18_code
def yY_lowest : MethodName := ⟨"LongMachineModel", "lowest", "(I)J"⟩
abbrev cY_zapped : ByteArray := prog_7_method_20_code
def yY_zapped : MethodName := ⟨"LongMachineModel", "zapped", "(JJZ)J"⟩
abbrev cY_products : ByteArray := prog_7_method_22_code
def yY_products : MethodName := ⟨"LongMachineModel", "products", "(IJJ)J"⟩
abbrev cY_upper : ByteArray := prog_7_method_21_code
def yY_upper : MethodName := ⟨"LongMachineModel", "upper", "(JJ)J"⟩
abbrev cY_give : ByteArray := prog_7_method_3_code
def yY_give : MethodName := ⟨"LongMachineModel", "give", "(IJ)V"⟩
abbrev cY_move : ByteArray := prog_7_method_24_code
def yY_move : MethodName := ⟨"LongMachineModel", "move", "(I)V"⟩
abbrev cY_branch : ByteArray := prog_7_method_26_code
def yY_branch : MethodName := ⟨"LongMachineModel", "branch", "(I)V"⟩
abbrev cY_meets : ByteArray := prog_7_method_25_code
def yY_meets : MethodName := ⟨"LongMachineModel", "meets", "(IJ)Z"⟩
abbrev cY_set : ByteArray := prog_7_method_35_code
def yY_set : MethodName := ⟨"LongMachineModel", "set", "(IJ)Z"⟩
abbrev cY_isPlace : ByteArray := prog_7_method_34_code
def yY_isPlace : MethodName := ⟨"LongMachineModel", "isPlace", "(I)Z"⟩
abbrev cY_put : ByteArray := prog_7_method_36_code
def yY_put : MethodName := ⟨"LongMachineModel", "put", "(IJ)Z"⟩
abbrev cY_interrupt : ByteArray := prog_7_method_37_code
def yY_interrupt : MethodName := ⟨"LongMachineModel", "interrupt", "(II)Z"⟩
abbrev cY_register : ByteArray := prog_7_method_38_code
def yY_register : MethodName := ⟨"LongMachineModel", "register", "(I)J"⟩
abbrev cY_word : ByteArray := prog_7_method_39_code
def yY_word : MethodName := ⟨"LongMachineModel", "word", "(I)J"⟩
abbrev cY_state : ByteArray := prog_7_method_40_code
def yY_state : MethodName := ⟨"LongMachineModel", "state", "(I)I"⟩
abbrev vwCl : List vw_C := [("LongMachine$Crossing", TX0, 5), ("LongMachine$Interrupts", TX1, 3), ("LongMachine$Memory", TX2, 8), ("LongMachine$Operation", TX3, 4), ("LongMachine", TX4, 17), ("LongMachineModel", TY, 28)]
def vG0 : List Cond := [.initialized "LongMachineLaw", .initialized "LongMachine", .initialized "LongMachine$Memory", .initialized "LongMachine$Interrupts", .initialized "LongMachine$Operation", .initialized "LongMachine$Crossing", .initialized "LongMachineModel", .classLink "LongMachineLaw" 7 "LongMachine", .instantiable "LongMachine" 17, .methodLink "LongMachineLaw" 9 yX4_init, .instanceMethod yX4_init, .code yX4_init cX4_init 1 none, .methodLink "LongMachine" 1 objectInit, .instanceMethod objectInit, .code objectInit ⟨#[0xb1]⟩ 1 none, .classLink "LongMachine" 7 "LongMachine$Memory", .instantiable "LongMachine$Memory" 8, .instanceMethod yX2_init, .code yX2_init cX2_init 1 none, .methodLink "LongMachine$Memory" 3 objectInit, .fieldLink "LongMachine$Memory" 9 "LongMachine$Memory" "words" "[J", .fieldLink "LongMachine" 58 "LongMachine$Memory" "words" "[J", .fieldLink "LongMachine$Memory" 15 "LongMachine$Memory" "pages" "[I", .fieldLink "LongMachine$Memory" 19 "LongMachine$Memory" "spaces" "[I", .fieldLink "LongMachine$Memory" 22 "LongMachine$Memory" "descriptors" "[J", .fieldLink "LongMachine$Memory" 33 "LongMachine$Memory" "oldest" "I", .fieldLink "LongMachine$Memory" 29 "LongMachine$Memory" "count" "I", .fieldLink "LongMachine" 109 "LongMachine$Memory" "count" "I", .fieldLink "LongMachine" 93 "LongMachine$Memory" "table" "I", .fieldLink "LongMachine$Memory" 69 "LongMachine$Memory" "table" "I", .fieldLink "LongMachine" 96 "LongMachine$Memory" "space" "I", .fieldLink "LongMachine$Memory" 66 "LongMachine$Memory" "space" "I", .laysFinal "LongMachine$Memory" "LongMachine$Memory" "words" "[J", .laysFinal "LongMachine$Memory" "LongMachine$Memory" "pages" "[I", .laysFinal "LongMachine$Memory" "LongMachine$Memory" "spaces" "[I", .laysFinal "LongMachine$Memory" "LongMachine$Memory" "descriptors" "[J", .lays "LongMachine$Memory" "LongMachine$Memory" "oldest" "I", .lays "LongMachine$Memory" "LongMachine$Memory" "count" "I", .lays "LongMachine$Memory" "LongMachine$Memory" "table" "I", .lays "LongMachine$Memory" "LongMachine$Memory" "space" "I"]
def vG1 : List Cond := [.arrayClass .long, .arrayClass .int, .classLink "LongMachine" 26 "LongMachine$Interrupts", .instantiable "LongMachine$Interrupts" 3, .instanceMethod yX1_init, .code yX1_init cX1_init 1 none, .methodLink "LongMachine$Interrupts" 1 objectInit, .fieldLink "LongMachine$Interrupts" 9 "LongMachine$Interrupts" "levels" "[I", .fieldLink "LongMachine$Interrupts" 13 "LongMachine$Interrupts" "numbers" "[I", .fieldLink "LongMachine$Interrupts" 16 "LongMachine$Interrupts" "count" "I", .fieldLink "LongMachine" 112 "LongMachine$Interrupts" "count" "I", .laysFinal "LongMachine$Interrupts" "LongMachine$Interrupts" "levels" "[I", .laysFinal "LongMachine$Interrupts" "LongMachine$Interrupts" "numbers" "[I", .lays "LongMachine$Interrupts" "LongMachine$Interrupts" "count" "I", .classLink "LongMachine" 33 "LongMachine$Operation", .instantiable "LongMachine$Operation" 4, .instanceMethod yX3_init, .code yX3_init cX3_init 1 none, .methodLink "LongMachine$Operation" 1 objectInit, .fieldLink "LongMachine$Operation" 23 "LongMachine$Operation" "result" "J", .fieldLink "LongMachine" 186 "LongMachine$Operation" "result" "J", .fieldLink "LongMachine$Operation" 7 "LongMachine$Operation" "known" "Z", .fieldLink "LongMachine" 180 "LongMachine$Operation" "known" "Z", .fieldLink "LongMachine$Operation" 13 "LongMachine$Operation" "given" "Z", .fieldLink "LongMachine" 183 "LongMachine$Operation" "given" "Z", .fieldLink "LongMachine$Operation" 16 "LongMachine$Operation" "trap" "Z", .fieldLink "LongMachine" 189 "LongMachine$Operation" "trap" "Z", .lays "LongMachine$Operation" "LongMachine$Operation" "result" "J", .lays "LongMachine$Operation" "LongMachine$Operation" "known" "Z", .lays "LongMachine$Operation" "LongMachine$Operation" "given" "Z", .lays "LongMachine$Operation" "LongMachine$Operation" "trap" "Z", .classLink "LongMachine" 40 "LongMachine$Crossing", .instantiable "LongMachine$Crossing" 5, .instanceMethod yX0_init, .code yX0_init cX0_init 1 none, .methodLink "LongMachine$Crossing" 1 objectInit, .fieldLink "LongMachine$Crossing" 9 "LongMachine$Crossing" "vector" "I", .fieldLink "LongMachine" 144 "LongMachine$Crossing" "vector" "I", .fieldLink "LongMachine$Crossing" 13 "LongMachine$Crossing" "a" "J", .fieldLink "LongMachine" 205 "LongMachine$Crossing" "a" "J"]
def vG2 : List Cond := [.fieldLink "LongMachine$Crossing" 17 "LongMachine$Crossing" "b" "J", .fieldLink "LongMachine" 208 "LongMachine$Crossing" "b" "J", .fieldLink "LongMachine$Crossing" 20 "LongMachine$Crossing" "c" "J", .fieldLink "LongMachine" 211 "LongMachine$Crossing" "c" "J", .fieldLink "LongMachine$Crossing" 23 "LongMachine$Crossing" "pc" "J", .fieldLink "LongMachine" 214 "LongMachine$Crossing" "pc" "J", .lays "LongMachine$Crossing" "LongMachine$Crossing" "vector" "I", .lays "LongMachine$Crossing" "LongMachine$Crossing" "a" "J", .lays "LongMachine$Crossing" "LongMachine$Crossing" "b" "J", .lays "LongMachine$Crossing" "LongMachine$Crossing" "c" "J", .lays "LongMachine$Crossing" "LongMachine$Crossing" "pc" "J", .fieldLink "LongMachine" 10 "LongMachine" "memory" "LLongMachine$Memory;", .fieldLink "LongMachine" 16 "LongMachine" "registers" "[J", .fieldLink "LongMachine" 20 "LongMachine" "vectors" "[J", .fieldLink "LongMachine" 23 "LongMachine" "frame" "[J", .fieldLink "LongMachine" 29 "LongMachine" "interrupts" "LLongMachine$Interrupts;", .fieldLink "LongMachine" 36 "LongMachine" "operation" "LLongMachine$Operation;", .fieldLink "LongMachine" 43 "LongMachine" "asked" "LLongMachine$Crossing;", .fieldLink "LongMachine" 63 "LongMachine" "pc" "J", .fieldLink "LongMachine" 67 "LongMachine" "ksp" "J", .fieldLink "LongMachine" 84 "LongMachine" "usp" "J", .fieldLink "LongMachine" 87 "LongMachine" "kgp" "J", .fieldLink "LongMachine" 90 "LongMachine" "value" "J", .fieldLink "LongMachine" 47 "LongMachine" "mode" "I", .fieldLink "LongMachine" 51 "LongMachine" "level" "I", .fieldLink "LongMachine" 78 "LongMachine" "halted" "I", .fieldLink "LongMachine" 113 "LongMachine" "entries" "I", .fieldLink "LongMachine" 105 "LongMachine" "locked" "Z", .laysFinal "LongMachine" "LongMachine" "memory" "LLongMachine$Memory;", .laysFinal "LongMachine" "LongMachine" "registers" "[J", .laysFinal "LongMachine" "LongMachine" "vectors" "[J", .laysFinal "LongMachine" "LongMachine" "frame" "[J", .laysFinal "LongMachine" "LongMachine" "interrupts" "LLongMachine$Interrupts;", .laysFinal "LongMachine" "LongMachine" "operation" "LLongMachine$Operation;", .laysFinal "LongMachine" "LongMachine" "asked" "LLongMachine$Crossing;", .lays "LongMachine" "LongMachine" "pc" "J", .lays "LongMachine" "LongMachine" "ksp" "J", .lays "LongMachine" "LongMachine" "usp" "J", .lays "LongMachine" "LongMachine" "kgp" "J", .lays "LongMachine" "LongMachine" "value" "J"]
def vG3 : List Cond := [.lays "LongMachine" "LongMachine" "mode" "I", .lays "LongMachine" "LongMachine" "level" "I", .lays "LongMachine" "LongMachine" "halted" "I", .lays "LongMachine" "LongMachine" "entries" "I", .lays "LongMachine" "LongMachine" "locked" "Z", .methodLink "LongMachineLaw" 15 yX4_set, .instanceMethod yX4_set, .selects "LongMachine" yX4_set yX4_set, .code yX4_set cX4_set 4 (some .boolean), .methodLink "LongMachine" 54 yX4_isWordAddress, .static yX4_isWordAddress, .code yX4_isWordAddress cX4_isWordAddress 1 (some .boolean), .methodLink "LongMachineLaw" 20 yX4_put, .instanceMethod yX4_put, .selects "LongMachine" yX4_put yX4_put, .code yX4_put cX4_put 4 (some .boolean), .constantLong "LongMachine" 61 (-4), .methodLink "LongMachine" 70 yX4_write, .instanceMethod yX4_write, .code yX4_write cX4_write 4 none, .methodLink "LongMachineLaw" 24 yX4_interrupt, .instanceMethod yX4_interrupt, .selects "LongMachine" yX4_interrupt yX4_interrupt, .code yX4_interrupt cX4_interrupt 3 (some .boolean), .methodLink "LongMachine" 74 yX1_add, .instanceMethod yX1_add, .selects "LongMachine$Interrupts" yX1_add yX1_add, .code yX1_add cX1_add 3 (some .boolean), .methodLink "LongMachineLaw" 29 yX4_run, .instanceMethod yX4_run, .selects "LongMachine" yX4_run yX4_run, .code yX4_run cX4_run 3 (some .int), .methodLink "LongMachine" 81 yX4_step, .instanceMethod yX4_step, .code yX4_step cX4_step 3 none, .methodLink "LongMachine" 116 yX0_clear, .instanceMethod yX0_clear, .selects "LongMachine$Crossing" yX0_clear yX0_clear, .code yX0_clear cX0_clear 1 none, .methodLink "LongMachine" 119 yX1_takeAbove]
def vG4 : List Cond := [.instanceMethod yX1_takeAbove, .selects "LongMachine$Interrupts" yX1_takeAbove yX1_takeAbove, .code yX1_takeAbove cX1_takeAbove 5 (some .int), .methodLink "LongMachine$Interrupts" 20 yX1_remove, .instanceMethod yX1_remove, .code yX1_remove cX1_remove 3 none, .methodLink "LongMachine" 123 yX2_place, .instanceMethod yX2_place, .selects "LongMachine$Memory" yX2_place yX2_place, .code yX2_place cX2_place 10 (some .int), .constantLong "LongMachine$Memory" 36 16384, .methodLink "LongMachine$Memory" 38 yX2_directPlace, .static yX2_directPlace, .code yX2_directPlace cX2_directPlace 4 (some .int), .constantLong "LongMachine$Memory" 61 32768, .constantLong "LongMachine$Memory" 63 36864, .constant "LongMachine$Memory" 65 32768, .methodLink "LongMachine$Memory" 54 yX2_faulted, .static yX2_faulted, .code yX2_faulted cX2_faulted 1 (some .int), .methodLink "LongMachine$Memory" 42 yX2_find, .instanceMethod yX2_find, .code yX2_find cX2_find 3 (some .int), .methodLink "LongMachine$Memory" 46 yX2_walk, .instanceMethod yX2_walk, .code yX2_walk cX2_walk 8 (some .long), .constantLong "LongMachine$Memory" 72 240, .methodLink "LongMachine$Memory" 57 yX2_numberOf, .static yX2_numberOf, .code yX2_numberOf cX2_numberOf 2 (some .int), .methodLink "LongMachine$Memory" 74 yX2_keep, .instanceMethod yX2_keep, .code yX2_keep cX2_keep 5 none, .methodLink "LongMachine$Memory" 50 yX2_faultIn, .static yX2_faultIn, .code yX2_faultIn cX2_faultIn 6 (some .int), .methodLink "LongMachine" 127 yX0_enter, .instanceMethod yX0_enter, .selects "LongMachine$Crossing" yX0_enter yX0_enter, .code yX0_enter cX0_enter 10 none]
def vG5 : List Cond := [.methodLink "LongMachine" 131 yX2_faultOf, .static yX2_faultOf, .code yX2_faultOf cX2_faultOf 1 (some .int), .constantLong "LongMachine" 99 (-1), .constantLong "LongMachine" 134 4, .methodLink "LongMachine" 136 yX2_load, .instanceMethod yX2_load, .selects "LongMachine$Memory" yX2_load yX2_load, .code yX2_load cX2_load 5 (some .long), .methodLink "LongMachine" 140 yX4_execute, .instanceMethod yX4_execute, .code yX4_execute cX4_execute 8 none, .methodLink "LongMachine" 152 yX4_call, .instanceMethod yX4_call, .code yX4_call cX4_call 2 none, .constantLong "LongMachine" 217 2, .methodLink "LongMachine" 173 yX4_refuse, .instanceMethod yX4_refuse, .code yX4_refuse cX4_refuse 2 none, .methodLink "LongMachine" 219 yX4_kernelCall, .instanceMethod yX4_kernelCall, .code yX4_kernelCall cX4_kernelCall 4 none, .methodLink "LongMachine" 222 yX4_changeSpace, .instanceMethod yX4_changeSpace, .code yX4_changeSpace cX4_changeSpace 1 none, .methodLink "LongMachine" 225 yX2_emptyBuffer, .instanceMethod yX2_emptyBuffer, .selects "LongMachine$Memory" yX2_emptyBuffer yX2_emptyBuffer, .code yX2_emptyBuffer cX2_emptyBuffer 1 none, .methodLink "LongMachine" 228 yX4_changeVector, .instanceMethod yX4_changeVector, .code yX4_changeVector cX4_changeVector 2 none, .methodLink "LongMachine" 101 yX4_status, .instanceMethod yX4_status, .code yX4_status cX4_status 1 (some .int), .methodLink "LongMachine" 231 yX0_comeBack, .instanceMethod yX0_comeBack, .selects "LongMachine$Crossing" yX0_comeBack yX0_comeBack, .code yX0_comeBack cX0_comeBack 1 none, .constantLong "LongMachine" 155 65536]
def vG6 : List Cond := [.constantLong "LongMachine" 157 (-8), .methodLink "LongMachine" 159 yX4_reach, .instanceMethod yX4_reach, .code yX4_reach cX4_reach 9 none, .methodLink "LongMachine" 192 yX2_store, .instanceMethod yX2_store, .selects "LongMachine$Memory" yX2_store yX2_store, .code yX2_store cX2_store 10 none, .constantLong "LongMachine$Memory" 25 (-1), .constantLong "LongMachine$Memory" 27 4294967295, .methodLink "LongMachine" 163 yX4_operate, .instanceMethod yX4_operate, .code yX4_operate cX4_operate 6 none, .methodLink "LongMachine" 176 yX3_compute, .instanceMethod yX3_compute, .selects "LongMachine$Operation" yX3_compute yX3_compute, .code yX3_compute cX3_compute 7 none, .methodLink "LongMachine$Operation" 19 yX3_add, .instanceMethod yX3_add, .code yX3_add cX3_add 6 (some .long), .methodLink "LongMachine$Operation" 38 yX3_sx, .static yX3_sx, .code yX3_sx cX3_sx 2 (some .long), .constantLong "LongMachine$Operation" 42 4, .constantLong "LongMachine$Operation" 44 8, .methodLink "LongMachine$Operation" 46 yX3_trapIf, .instanceMethod yX3_trapIf, .code yX3_trapIf cX3_trapIf 4 (some .long), .methodLink "LongMachine$Operation" 50 yX3_truth, .static yX3_truth, .code yX3_truth cX3_truth 1 (some .long), .methodLink "LongMachine$Operation" 54 yX3_isBelow, .static yX3_isBelow, .code yX3_isBelow cX3_isBelow 4 (some .boolean), .constantLong "LongMachine$Operation" 36 (-9223372036854775808), .methodLink "LongMachine$Operation" 58 yX3_bytesNotLess, .static yX3_bytesNotLess, .code yX3_bytesNotLess cX3_bytesNotLess 7 (some .long), .constantLong "LongMachine$Operation" 62 255, .methodLink "LongMachine$Operation" 27 yX3_combine]
def vG7 : List Cond := [.instanceMethod yX3_combine, .code yX3_combine cX3_combine 6 (some .long), .constantLong "LongMachine$Operation" 64 (-1), .methodLink "LongMachine$Operation" 66 yX3_onlyIf, .instanceMethod yX3_onlyIf, .code yX3_onlyIf cX3_onlyIf 4 (some .long), .methodLink "LongMachine$Operation" 30 yX3_shift, .instanceMethod yX3_shift, .code yX3_shift cX3_shift 10 (some .long), .methodLink "LongMachine$Operation" 69 yX3_bytesOf, .static yX3_bytesOf, .code yX3_bytesOf cX3_bytesOf 5 (some .long), .methodLink "LongMachine$Operation" 72 yX3_lowPart, .instanceMethod yX3_lowPart, .code yX3_lowPart cX3_lowPart 7 (some .long), .methodLink "LongMachine$Operation" 76 yX3_highPart, .instanceMethod yX3_highPart, .code yX3_highPart cX3_highPart 7 (some .long), .methodLink "LongMachine$Operation" 33 yX3_multiply, .instanceMethod yX3_multiply, .code yX3_multiply cX3_multiply 6 (some .long), .methodLink "LongMachine$Operation" 79 yX3_upper, .static yX3_upper, .code yX3_upper cX3_upper 16 (some .long), .constantLong "LongMachine$Operation" 86 4294967295, .methodLink "LongMachine$Operation" 82 yX3_signedUpper, .static yX3_signedUpper, .code yX3_signedUpper cX3_signedUpper 6 (some .long), .methodLink "LongMachine" 166 yX4_branch, .instanceMethod yX4_branch, .code yX4_branch cX4_branch 4 none, .methodLink "LongMachine" 169 yX4_isTaken, .static yX4_isTaken, .code yX4_isTaken cX4_isTaken 3 (some .boolean), .methodLink "LongMachine" 147 yX4_enter, .instanceMethod yX4_enter, .code yX4_enter cX4_enter 1 none, .methodLink "LongMachine" 196 yX4_fillFrame, .instanceMethod yX4_fillFrame, .code yX4_fillFrame cX4_fillFrame 1 none]
def vG8 : List Cond := [.constantLong "LongMachine" 199 48, .methodLink "LongMachine" 201 yX4_moveFrame, .instanceMethod yX4_moveFrame, .code yX4_moveFrame cX4_moveFrame 6 (some .boolean), .constantLong "LongMachine" 215 7, .methodLink "LongMachine" 149 yX4_comeBack, .instanceMethod yX4_comeBack, .code yX4_comeBack cX4_comeBack 1 none, .methodLink "LongMachineLaw" 34 yX4_register, .instanceMethod yX4_register, .selects "LongMachine" yX4_register yX4_register, .code yX4_register cX4_register 2 (some .long), .methodLink "LongMachineLaw" 39 yX4_word, .instanceMethod yX4_word, .selects "LongMachine" yX4_word yX4_word, .code yX4_word cX4_word 2 (some .long), .methodLink "LongMachineLaw" 43 yX4_state, .instanceMethod yX4_state, .selects "LongMachine" yX4_state yX4_state, .code yX4_state cX4_state 2 (some .int), .classLink "LongMachineLaw" 10 "LongMachineModel", .instantiable "LongMachineModel" 28, .methodLink "LongMachineLaw" 12 yY_init, .instanceMethod yY_init, .code yY_init cY_init 1 none, .methodLink "LongMachineModel" 1 objectInit, .fieldLink "LongMachineModel" 7 "LongMachineModel" "memory" "[I", .fieldLink "LongMachineModel" 13 "LongMachineModel" "\x72" "[J", .fieldLink "LongMachineModel" 116 "LongMachineModel" "pc" "J", .fieldLink "LongMachineModel" 76 "LongMachineModel" "mode" "I", .fieldLink "LongMachineModel" 17 "LongMachineModel" "level" "I", .fieldLink "LongMachineModel" 112 "LongMachineModel" "lock" "Z", .fieldLink "LongMachineModel" 91 "LongMachineModel" "ksp" "J", .fieldLink "LongMachineModel" 87 "LongMachineModel" "usp" "J", .fieldLink "LongMachineModel" 109 "LongMachineModel" "kgp" "J", .fieldLink "LongMachineModel" 216 "LongMachineModel" "value" "J", .fieldLink "LongMachineModel" 52 "LongMachineModel" "table" "I", .fieldLink "LongMachineModel" 47 "LongMachineModel" "space" "I", .fieldLink "LongMachineModel" 21 "LongMachineModel" "vector" "[J", .fieldLink "LongMachineModel" 106 "LongMachineModel" "halted" "I"]
def vG9 : List Cond := [.fieldLink "LongMachineModel" 119 "LongMachineModel" "entries" "I", .fieldLink "LongMachineModel" 221 "LongMachineModel" "pending" "I", .fieldLink "LongMachineModel" 24 "LongMachineModel" "pendingLevel" "[I", .fieldLink "LongMachineModel" 27 "LongMachineModel" "pendingNumber" "[I", .fieldLink "LongMachineModel" 44 "LongMachineModel" "buffered" "I", .fieldLink "LongMachineModel" 30 "LongMachineModel" "bufferPage" "[I", .fieldLink "LongMachineModel" 33 "LongMachineModel" "bufferSpace" "[I", .fieldLink "LongMachineModel" 36 "LongMachineModel" "bufferWord" "[J", .fieldLink "LongMachineModel" 122 "LongMachineModel" "here" "J", .fieldLink "LongMachineModel" 171 "LongMachineModel" "word" "I", .fieldLink "LongMachineModel" 151 "LongMachineModel" "has" "Z", .fieldLink "LongMachineModel" 146 "LongMachineModel" "trap" "Z", .fieldLink "LongMachineModel" 143 "LongMachineModel" "none" "Z", .fieldLink "LongMachineModel" 39 "LongMachineModel" "six" "[J", .laysFinal "LongMachineModel" "LongMachineModel" "memory" "[I", .laysFinal "LongMachineModel" "LongMachineModel" "\x72" "[J", .lays "LongMachineModel" "LongMachineModel" "pc" "J", .lays "LongMachineModel" "LongMachineModel" "mode" "I", .lays "LongMachineModel" "LongMachineModel" "level" "I", .lays "LongMachineModel" "LongMachineModel" "lock" "Z", .lays "LongMachineModel" "LongMachineModel" "ksp" "J", .lays "LongMachineModel" "LongMachineModel" "usp" "J", .lays "LongMachineModel" "LongMachineModel" "kgp" "J", .lays "LongMachineModel" "LongMachineModel" "value" "J", .lays "LongMachineModel" "LongMachineModel" "table" "I", .lays "LongMachineModel" "LongMachineModel" "space" "I", .laysFinal "LongMachineModel" "LongMachineModel" "vector" "[J", .lays "LongMachineModel" "LongMachineModel" "halted" "I", .lays "LongMachineModel" "LongMachineModel" "entries" "I", .lays "LongMachineModel" "LongMachineModel" "pending" "I", .laysFinal "LongMachineModel" "LongMachineModel" "pendingLevel" "[I", .laysFinal "LongMachineModel" "LongMachineModel" "pendingNumber" "[I", .lays "LongMachineModel" "LongMachineModel" "buffered" "I", .laysFinal "LongMachineModel" "LongMachineModel" "bufferPage" "[I", .laysFinal "LongMachineModel" "LongMachineModel" "bufferSpace" "[I", .laysFinal "LongMachineModel" "LongMachineModel" "bufferWord" "[J", .lays "LongMachineModel" "LongMachineModel" "here" "J", .lays "LongMachineModel" "LongMachineModel" "word" "I", .lays "LongMachineModel" "LongMachineModel" "has" "Z", .lays "LongMachineModel" "LongMachineModel" "trap" "Z"]
def vG10 : List Cond := [.lays "LongMachineModel" "LongMachineModel" "none" "Z", .laysFinal "LongMachineModel" "LongMachineModel" "six" "[J", .methodLink "LongMachineLaw" 33 yY_run, .instanceMethod yY_run, .selects "LongMachineModel" yY_run yY_run, .code yY_run cY_run 3 (some .int), .methodLink "LongMachineModel" 245 yY_step, .instanceMethod yY_step, .code yY_step cY_step 6 none, .methodLink "LongMachineModel" 224 yY_due, .instanceMethod yY_due, .code yY_due cY_due 3 (some .int), .methodLink "LongMachineModel" 228 yY_interrupted, .instanceMethod yY_interrupted, .code yY_interrupted cY_interrupted 5 none, .methodLink "LongMachineModel" 125 yY_entry, .instanceMethod yY_entry, .code yY_entry cY_entry 14 none, .constantLong "LongMachineModel" 94 8, .constantLong "LongMachineModel" 96 48, .methodLink "LongMachineModel" 98 yY_translate, .instanceMethod yY_translate, .code yY_translate cY_translate 11 (some .int), .constantLong "LongMachineModel" 69 65535, .constantLong "LongMachineModel" 71 16383, .constantLong "LongMachineModel" 73 32768, .constant "LongMachineModel" 75 36864, .constant "LongMachineModel" 79 32768, .methodLink "LongMachineModel" 80 yY_buffered, .instanceMethod yY_buffered, .code yY_buffered cY_buffered 3 (some .int), .methodLink "LongMachineModel" 83 yY_walk, .instanceMethod yY_walk, .code yY_walk cY_walk 6 (some .long), .methodLink "LongMachineModel" 55 yY_bytes, .instanceMethod yY_bytes, .code yY_bytes cY_bytes 6 (some .long), .constantLong "LongMachineModel" 59 240, .methodLink "LongMachineModel" 61 yY_number, .static yY_number]
def vG11 : List Cond := [.code yY_number cY_number 2 (some .int), .constantLong "LongMachineModel" 50 15, .methodLink "LongMachineModel" 65 yY_keep, .instanceMethod yY_keep, .code yY_keep cY_keep 5 none, .methodLink "LongMachineModel" 102 yY_store, .instanceMethod yY_store, .code yY_store cY_store 6 none, .constantLong "LongMachineModel" 42 255, .methodLink "LongMachineModel" 196 yY_fault, .instanceMethod yY_fault, .code yY_fault cY_fault 5 none, .constantLong "LongMachineModel" 133 4, .methodLink "LongMachineModel" 231 yY_call, .instanceMethod yY_call, .code yY_call cY_call 3 none, .constantLong "LongMachineModel" 204 2, .methodLink "LongMachineModel" 187 yY_wrong, .instanceMethod yY_wrong, .code yY_wrong cY_wrong 2 none, .methodLink "LongMachineModel" 206 yY_own, .instanceMethod yY_own, .code yY_own cY_own 4 none, .methodLink "LongMachineModel" 209 yY_back, .instanceMethod yY_back, .code yY_back cY_back 4 none, .constantLong "LongMachineModel" 154 7, .constantLong "LongMachineModel" 214 (-4), .constantLong "LongMachineModel" 212 6, .constantLong "LongMachineModel" 219 4064, .methodLink "LongMachineModel" 234 yY_operate, .instanceMethod yY_operate, .code yY_operate cY_operate 9 none, .methodLink "LongMachineModel" 174 yY_sums, .instanceMethod yY_sums, .code yY_sums cY_sums 9 (some .long), .methodLink "LongMachineModel" 129 yY_sx, .static yY_sx, .code yY_sx cY_sx 2 (some .long), .methodLink "LongMachineModel" 135 yY_is]
def vG12 : List Cond := [.static yY_is, .code yY_is cY_is 1 (some .long), .methodLink "LongMachineModel" 139 yY_less, .static yY_less, .code yY_less cY_less 4 (some .boolean), .methodLink "LongMachineModel" 178 yY_bits, .instanceMethod yY_bits, .code yY_bits cY_bits 6 (some .long), .constantLong "LongMachineModel" 149 (-1), .methodLink "LongMachineModel" 181 yY_parts, .instanceMethod yY_parts, .code yY_parts cY_parts 13 (some .long), .methodLink "LongMachineModel" 156 yY_lowest, .static yY_lowest, .code yY_lowest cY_lowest 1 (some .long), .constantLong "LongMachineModel" 159 63, .methodLink "LongMachineModel" 161 yY_zapped, .static yY_zapped, .code yY_zapped cY_zapped 9 (some .long), .methodLink "LongMachineModel" 184 yY_products, .instanceMethod yY_products, .code yY_products cY_products 10 (some .long), .methodLink "LongMachineModel" 167 yY_upper, .static yY_upper, .code yY_upper cY_upper 18 (some .long), .constantLong "LongMachineModel" 165 4294967295, .methodLink "LongMachineModel" 191 yY_give, .instanceMethod yY_give, .code yY_give cY_give 4 none, .constantLong "LongMachineModel" 237 65536, .methodLink "LongMachineModel" 239 yY_move, .instanceMethod yY_move, .code yY_move cY_move 12 none, .constantLong "LongMachineModel" 194 (-8), .methodLink "LongMachineModel" 242 yY_branch, .instanceMethod yY_branch, .code yY_branch cY_branch 6 none, .methodLink "LongMachineModel" 200 yY_meets, .static yY_meets, .code yY_meets cY_meets 3 (some .boolean)]
def vG13 : List Cond := [.methodLink "LongMachineLaw" 19 yY_set, .instanceMethod yY_set, .selects "LongMachineModel" yY_set yY_set, .code yY_set cY_set 4 (some .boolean), .methodLink "LongMachineModel" 248 yY_isPlace, .static yY_isPlace, .code yY_isPlace cY_isPlace 1 (some .boolean), .methodLink "LongMachineLaw" 23 yY_put, .instanceMethod yY_put, .selects "LongMachineModel" yY_put yY_put, .code yY_put cY_put 4 (some .boolean), .methodLink "LongMachineLaw" 28 yY_interrupt, .instanceMethod yY_interrupt, .selects "LongMachineModel" yY_interrupt yY_interrupt, .code yY_interrupt cY_interrupt 3 (some .boolean), .methodLink "LongMachineLaw" 38 yY_register, .instanceMethod yY_register, .selects "LongMachineModel" yY_register yY_register, .code yY_register cY_register 2 (some .long), .methodLink "LongMachineLaw" 42 yY_word, .instanceMethod yY_word, .selects "LongMachineModel" yY_word yY_word, .code yY_word cY_word 2 (some .long), .methodLink "LongMachineLaw" 46 yY_state, .instanceMethod yY_state, .selects "LongMachineModel" yY_state yY_state, .code yY_state cY_state 2 (some .int), .constantLong "LongMachineLaw" 13 4294967295, .selects "LongMachine" yX4_write yX4_write, .selects "LongMachine" yX4_step yX4_step, .selects "LongMachine$Interrupts" yX1_remove yX1_remove, .selects "LongMachine$Memory" yX2_find yX2_find, .selects "LongMachine$Memory" yX2_walk yX2_walk, .selects "LongMachine$Memory" yX2_keep yX2_keep, .selects "LongMachine" yX4_execute yX4_execute, .selects "LongMachine" yX4_call yX4_call, .selects "LongMachine" yX4_refuse yX4_refuse, .selects "LongMachine" yX4_kernelCall yX4_kernelCall, .selects "LongMachine" yX4_changeSpace yX4_changeSpace, .selects "LongMachine" yX4_changeVector yX4_changeVector]
def vG14 : List Cond := [.selects "LongMachine" yX4_status yX4_status, .selects "LongMachine" yX4_reach yX4_reach, .selects "LongMachine" yX4_operate yX4_operate, .selects "LongMachine$Operation" yX3_add yX3_add, .selects "LongMachine$Operation" yX3_trapIf yX3_trapIf, .selects "LongMachine$Operation" yX3_combine yX3_combine, .selects "LongMachine$Operation" yX3_onlyIf yX3_onlyIf, .selects "LongMachine$Operation" yX3_shift yX3_shift, .selects "LongMachine$Operation" yX3_lowPart yX3_lowPart, .selects "LongMachine$Operation" yX3_highPart yX3_highPart, .selects "LongMachine$Operation" yX3_multiply yX3_multiply, .selects "LongMachine" yX4_branch yX4_branch, .selects "LongMachine" yX4_enter yX4_enter, .selects "LongMachine" yX4_fillFrame yX4_fillFrame, .selects "LongMachine" yX4_moveFrame yX4_moveFrame, .selects "LongMachine" yX4_comeBack yX4_comeBack, .selects "LongMachineModel" yY_step yY_step, .selects "LongMachineModel" yY_due yY_due, .selects "LongMachineModel" yY_interrupted yY_interrupted, .selects "LongMachineModel" yY_entry yY_entry, .selects "LongMachineModel" yY_translate yY_translate, .selects "LongMachineModel" yY_buffered yY_buffered, .selects "LongMachineModel" yY_walk yY_walk, .selects "LongMachineModel" yY_bytes yY_bytes, .selects "LongMachineModel" yY_keep yY_keep, .selects "LongMachineModel" yY_store yY_store, .selects "LongMachineModel" yY_fault yY_fault, .selects "LongMachineModel" yY_call yY_call, .selects "LongMachineModel" yY_wrong yY_wrong, .selects "LongMachineModel" yY_own yY_own, .selects "LongMachineModel" yY_back yY_back, .selects "LongMachineModel" yY_operate yY_operate, .selects "LongMachineModel" yY_sums yY_sums, .selects "LongMachineModel" yY_bits yY_bits, .selects "LongMachineModel" yY_parts yY_parts, .selects "LongMachineModel" yY_products yY_products, .selects "LongMachineModel" yY_give yY_give, .selects "LongMachineModel" yY_move yY_move, .selects "LongMachineModel" yY_branch yY_branch]
def vG : List Cond := vG0 ++ (vG1 ++ (vG2 ++ (vG3 ++ (vG4 ++ (vG5 ++ (vG6 ++ (vG7 ++ (vG8 ++ (vG9 ++ (vG10 ++ (vG11 ++ (vG12 ++ (vG13 ++ (vG14))))))))))))))
theorem vG0_in : ∀ w ∈ vG0, w ∈ vG := fun _ h => List.mem_append_left _ h
theorem vG0_good : vG0.all goodWord = true := by decide +kernel
theorem vG1_in : ∀ w ∈ vG1, w ∈ vG := fun _ h => List.mem_append_right _ (List.mem_append_left _ h)
theorem vG1_good : vG1.all goodWord = true := by decide +kernel
theorem vG2_in : ∀ w ∈ vG2, w ∈ vG := fun _ h => List.mem_append_right _ (List.mem_append_right _ (List.mem_append_left _ h))
theorem vG2_good : vG2.all goodWord = true := by decide +kernel
theorem vG3_in : ∀ w ∈ vG3, w ∈ vG := fun _ h => List.mem_append_right _ (List.mem_append_right _ (List.mem_append_right _ (List.mem_append_left _ h)))
theorem vG3_good : vG3.all goodWord = true := by decide +kernel
theorem vG4_in : ∀ w ∈ vG4, w ∈ vG := fun _ h => List.mem_append_right _ (List.mem_append_right _ (List.mem_append_right _ (List.mem_append_right _ (List.mem_append_left _ h))))
theorem vG4_good : vG4.all goodWord = true := by decide +kernel
theorem vG5_in : ∀ w ∈ vG5, w ∈ vG := fun _ h => List.mem_append_right _ (List.mem_append_right _ (List.mem_append_right _ (List.mem_append_right _ (List.mem_append_right _ (List.mem_append_left _ h)))))
theorem vG5_good : vG5.all goodWord = true := by decide +kernel
theorem vG6_in : ∀ w ∈ vG6, w ∈ vG := fun _ h => List.mem_append_right _ (List.mem_append_right _ (List.mem_append_right _ (List.mem_append_right _ (List.mem_append_right _ (List.mem_append_right _ (List.mem_append_left _ h))))))
theorem vG6_good : vG6.all goodWord = true := by decide +kernel
theorem vG7_in : ∀ w ∈ vG7, w ∈ vG := fun _ h => List.mem_append_right _ (List.mem_append_right _ (List.mem_append_right _ (List.mem_append_right _ (List.mem_append_right _ (List.mem_append_right _ (List.mem_append_right _ (List.mem_append_left _ h)))))))
theorem vG7_good : vG7.all goodWord = true := by decide +kernel
theorem vG8_in : ∀ w ∈ vG8, w ∈ vG := fun _ h => List.mem_append_right _ (List.mem_append_right _ (List.mem_append_right _ (List.mem_append_right _ (List.mem_append_right _ (List.mem_append_right _ (List.mem_append_right _ (List.mem_append_right _ (List.mem_append_left _ h))))))))
theorem vG8_good : vG8.all goodWord = true := by decide +kernel
theorem vG9_in : ∀ w ∈ vG9, w ∈ vG := fun _ h => List.mem_append_right _ (List.mem_append_right _ (List.mem_append_right _ (List.mem_append_right _ (List.mem_append_right _ (List.mem_append_right _ (List.mem_append_right _ (List.mem_append_right _ (List.mem_append_right _ (List.mem_append_left _ h)))))))))
theorem vG9_good : vG9.all goodWord = true := by decide +kernel
theorem vG10_in : ∀ w ∈ vG10, w ∈ vG := fun _ h => List.mem_append_right _ (List.mem_append_right _ (List.mem_append_right _ (List.mem_append_right _ (List.mem_append_right _ (List.mem_append_right _ (List.mem_append_right _ (List.mem_append_right _ (List.mem_append_right _ (List.mem_append_right _ (List.mem_append_left _ h))))))))))
theorem vG10_good : vG10.all goodWord = true := by decide +kernel
theorem vG11_in : ∀ w ∈ vG11, w ∈ vG := fun _ h => List.mem_append_right _ (List.mem_append_right _ (List.mem_append_right _ (List.mem_append_right _ (List.mem_append_right _ (List.mem_append_right _ (List.mem_append_right _ (List.mem_append_right _ (List.mem_append_right _ (List.mem_append_right _ (List.mem_append_right _ (List.mem_append_left _ h)))))))))))
theorem vG11_good : vG11.all goodWord = true := by decide +kernel
theorem vG12_in : ∀ w ∈ vG12, w ∈ vG := fun _ h => List.mem_append_right _ (List.mem_append_right _ (List.mem_append_right _ (List.mem_append_right _ (List.mem_append_right _ (List.mem_append_right _ (List.mem_append_right _ (List.mem_append_right _ (List.mem_append_right _ (List.mem_append_right _ (List.mem_append_right _ (List.mem_append_right _ (List.mem_append_left _ h))))))))))))
theorem vG12_good : vG12.all goodWord = true := by decide +kernel
theorem vG13_in : ∀ w ∈ vG13, w ∈ vG := fun _ h => List.mem_append_right _ (List.mem_append_right _ (List.mem_append_right _ (List.mem_append_right _ (List.mem_append_right _ (List.mem_append_right _ (List.mem_append_right _ (List.mem_append_right _ (List.mem_append_right _ (List.mem_append_right _ (List.mem_append_right _ (List.mem_append_right _ (List.mem_append_right _ (List.mem_append_left _ h)))))))))))))
theorem vG13_good : vG13.all goodWord = true := by decide +kernel
theorem vG14_in : ∀ w ∈ vG14, w ∈ vG := fun _ h => List.mem_append_right _ (List.mem_append_right _ (List.mem_append_right _ (List.mem_append_right _ (List.mem_append_right _ (List.mem_append_right _ (List.mem_append_right _ (List.mem_append_right _ (List.mem_append_right _ (List.mem_append_right _ (List.mem_append_right _ (List.mem_append_right _ (List.mem_append_right _ (List.mem_append_right _ (h))))))))))))))
theorem vG14_good : vG14.all goodWord = true := by decide +kernel
theorem vG_word : ∀ w ∈ vG, goodWord w = true := fun w h => (List.mem_append.mp h).elim (fun h => List.all_eq_true.mp vG0_good w h) (fun h => (List.mem_append.mp h).elim (fun h => List.all_eq_true.mp vG1_good w h) (fun h => (List.mem_append.mp h).elim (fun h => List.all_eq_true.mp vG2_good w h) (fun h => (List.mem_append.mp h).elim (fun h => List.all_eq_true.mp vG3_good w h) (fun h => (List.mem_append.mp h).elim (fun h => List.all_eq_true.mp vG4_good w h) (fun h => (List.mem_append.mp h).elim (fun h => List.all_eq_true.mp vG5_good w h) (fun h => (List.mem_append.mp h).elim (fun h => List.all_eq_true.mp vG6_good w h) (fun h => (List.mem_append.mp h).elim (fun h => List.all_eq_true.mp vG7_good w h) (fun h => (List.mem_append.mp h).elim (fun h => List.all_eq_true.mp vG8_good w h) (fun h => (List.mem_append.mp h).elim (fun h => List.all_eq_true.mp vG9_good w h) (fun h => (List.mem_append.mp h).elim (fun h => List.all_eq_true.mp vG10_good w h) (fun h => (List.mem_append.mp h).elim (fun h => List.all_eq_true.mp vG11_good w h) (fun h => (List.mem_append.mp h).elim (fun h => List.all_eq_true.mp vG12_good w h) (fun h => (List.mem_append.mp h).elim (fun h => List.all_eq_true.mp vG13_good w h) (fun h => List.all_eq_true.mp vG14_good w h))))))))))))))
theorem vG_good : ∀ w ∈ vG, ((w.onTables && w.keeps) = true ∨ ∃ ty, w = .arrayClass ty) := fun w h => good_of_word (vG_word w h)
theorem gm_0 : (.initialized "LongMachineLaw" : Cond) ∈ vG := vG0_in _ (List.mem_of_getElem? (i := 0) rfl)
theorem gm_1 : (.initialized "LongMachine" : Cond) ∈ vG := vG0_in _ (List.mem_of_getElem? (i := 1) rfl)
theorem gm_2 : (.initialized "LongMachine$Memory" : Cond) ∈ vG := vG0_in _ (List.mem_of_getElem? (i := 2) rfl)
theorem gm_3 : (.initialized "LongMachine$Interrupts" : Cond) ∈ vG := vG0_in _ (List.mem_of_getElem? (i := 3) rfl)
theorem gm_4 : (.initialized "LongMachine$Operation" : Cond) ∈ vG := vG0_in _ (List.mem_of_getElem? (i := 4) rfl)
theorem gm_5 : (.initialized "LongMachine$Crossing" : Cond) ∈ vG := vG0_in _ (List.mem_of_getElem? (i := 5) rfl)
theorem gm_6 : (.initialized "LongMachineModel" : Cond) ∈ vG := vG0_in _ (List.mem_of_getElem? (i := 6) rfl)
theorem gm_7 : (.classLink "LongMachineLaw" 7 "LongMachine" : Cond) ∈ vG := vG0_in _ (List.mem_of_getElem? (i := 7) rfl)
theorem gm_8 : (.instantiable "LongMachine" 17 : Cond) ∈ vG := vG0_in _ (List.mem_of_getElem? (i := 8) rfl)
theorem gm_9 : (.methodLink "LongMachineLaw" 9 yX4_init : Cond) ∈ vG := vG0_in _ (List.mem_of_getElem? (i := 9) rfl)
theorem gm_10 : (.instanceMethod yX4_init : Cond) ∈ vG := vG0_in _ (List.mem_of_getElem? (i := 10) rfl)
theorem gm_11 : (.code yX4_init cX4_init 1 none : Cond) ∈ vG := vG0_in _ (List.mem_of_getElem? (i := 11) rfl)
theorem gm_12 : (.methodLink "LongMachine" 1 objectInit : Cond) ∈ vG := vG0_in _ (List.mem_of_getElem? (i := 12) rfl)
theorem gm_13 : (.instanceMethod objectInit : Cond) ∈ vG := vG0_in _ (List.mem_of_getElem? (i := 13) rfl)
theorem gm_14 : (.code objectInit ⟨#[0xb1]⟩ 1 none : Cond) ∈ vG := vG0_in _ (List.mem_of_getElem? (i := 14) rfl)
theorem gm_15 : (.classLink "LongMachine" 7 "LongMachine$Memory" : Cond) ∈ vG := vG0_in _ (List.mem_of_getElem? (i := 15) rfl)
theorem gm_16 : (.instantiable "LongMachine$Memory" 8 : Cond) ∈ vG := vG0_in _ (List.mem_of_getElem? (i := 16) rfl)
theorem gm_17 : (.instanceMethod yX2_init : Cond) ∈ vG := vG0_in _ (List.mem_of_getElem? (i := 17) rfl)
theorem gm_18 : (.code yX2_init cX2_init 1 none : Cond) ∈ vG := vG0_in _ (List.mem_of_getElem? (i := 18) rfl)
theorem gm_19 : (.methodLink "LongMachine$Memory" 3 objectInit : Cond) ∈ vG := vG0_in _ (List.mem_of_getElem? (i := 19) rfl)
theorem gm_20 : (.fieldLink "LongMachine$Memory" 9 "LongMachine$Memory" "words" "[J" : Cond) ∈ vG := vG0_in _ (List.mem_of_getElem? (i := 20) rfl)
theorem gm_21 : (.fieldLink "LongMachine" 58 "LongMachine$Memory" "words" "[J" : Cond) ∈ vG := vG0_in _ (List.mem_of_getElem? (i := 21) rfl)
theorem gm_22 : (.fieldLink "LongMachine$Memory" 15 "LongMachine$Memory" "pages" "[I" : Cond) ∈ vG := vG0_in _ (List.mem_of_getElem? (i := 22) rfl)
theorem gm_23 : (.fieldLink "LongMachine$Memory" 19 "LongMachine$Memory" "spaces" "[I" : Cond) ∈ vG := vG0_in _ (List.mem_of_getElem? (i := 23) rfl)
theorem gm_24 : (.fieldLink "LongMachine$Memory" 22 "LongMachine$Memory" "descriptors" "[J" : Cond) ∈ vG := vG0_in _ (List.mem_of_getElem? (i := 24) rfl)
theorem gm_25 : (.fieldLink "LongMachine$Memory" 33 "LongMachine$Memory" "oldest" "I" : Cond) ∈ vG := vG0_in _ (List.mem_of_getElem? (i := 25) rfl)
theorem gm_26 : (.fieldLink "LongMachine$Memory" 29 "LongMachine$Memory" "count" "I" : Cond) ∈ vG := vG0_in _ (List.mem_of_getElem? (i := 26) rfl)
theorem gm_27 : (.fieldLink "LongMachine" 109 "LongMachine$Memory" "count" "I" : Cond) ∈ vG := vG0_in _ (List.mem_of_getElem? (i := 27) rfl)
theorem gm_28 : (.fieldLink "LongMachine" 93 "LongMachine$Memory" "table" "I" : Cond) ∈ vG := vG0_in _ (List.mem_of_getElem? (i := 28) rfl)
theorem gm_29 : (.fieldLink "LongMachine$Memory" 69 "LongMachine$Memory" "table" "I" : Cond) ∈ vG := vG0_in _ (List.mem_of_getElem? (i := 29) rfl)
theorem gm_30 : (.fieldLink "LongMachine" 96 "LongMachine$Memory" "space" "I" : Cond) ∈ vG := vG0_in _ (List.mem_of_getElem? (i := 30) rfl)
theorem gm_31 : (.fieldLink "LongMachine$Memory" 66 "LongMachine$Memory" "space" "I" : Cond) ∈ vG := vG0_in _ (List.mem_of_getElem? (i := 31) rfl)
theorem gm_32 : (.laysFinal "LongMachine$Memory" "LongMachine$Memory" "words" "[J" : Cond) ∈ vG := vG0_in _ (List.mem_of_getElem? (i := 32) rfl)
theorem gm_33 : (.laysFinal "LongMachine$Memory" "LongMachine$Memory" "pages" "[I" : Cond) ∈ vG := vG0_in _ (List.mem_of_getElem? (i := 33) rfl)
theorem gm_34 : (.laysFinal "LongMachine$Memory" "LongMachine$Memory" "spaces" "[I" : Cond) ∈ vG := vG0_in _ (List.mem_of_getElem? (i := 34) rfl)
theorem gm_35 : (.laysFinal "LongMachine$Memory" "LongMachine$Memory" "descriptors" "[J" : Cond) ∈ vG := vG0_in _ (List.mem_of_getElem? (i := 35) rfl)
theorem gm_36 : (.lays "LongMachine$Memory" "LongMachine$Memory" "oldest" "I" : Cond) ∈ vG := vG0_in _ (List.mem_of_getElem? (i := 36) rfl)
theorem gm_37 : (.lays "LongMachine$Memory" "LongMachine$Memory" "count" "I" : Cond) ∈ vG := vG0_in _ (List.mem_of_getElem? (i := 37) rfl)
theorem gm_38 : (.lays "LongMachine$Memory" "LongMachine$Memory" "table" "I" : Cond) ∈ vG := vG0_in _ (List.mem_of_getElem? (i := 38) rfl)
theorem gm_39 : (.lays "LongMachine$Memory" "LongMachine$Memory" "space" "I" : Cond) ∈ vG := vG0_in _ (List.mem_of_getElem? (i := 39) rfl)
theorem gm_40 : (.arrayClass .long : Cond) ∈ vG := vG1_in _ (List.mem_of_getElem? (i := 0) rfl)
theorem gm_41 : (.arrayClass .int : Cond) ∈ vG := vG1_in _ (List.mem_of_getElem? (i := 1) rfl)
theorem gm_42 : (.classLink "LongMachine" 26 "LongMachine$Interrupts" : Cond) ∈ vG := vG1_in _ (List.mem_of_getElem? (i := 2) rfl)
theorem gm_43 : (.instantiable "LongMachine$Interrupts" 3 : Cond) ∈ vG := vG1_in _ (List.mem_of_getElem? (i := 3) rfl)
theorem gm_44 : (.instanceMethod yX1_init : Cond) ∈ vG := vG1_in _ (List.mem_of_getElem? (i := 4) rfl)
theorem gm_45 : (.code yX1_init cX1_init 1 none : Cond) ∈ vG := vG1_in _ (List.mem_of_getElem? (i := 5) rfl)
theorem gm_46 : (.methodLink "LongMachine$Interrupts" 1 objectInit : Cond) ∈ vG := vG1_in _ (List.mem_of_getElem? (i := 6) rfl)
theorem gm_47 : (.fieldLink "LongMachine$Interrupts" 9 "LongMachine$Interrupts" "levels" "[I" : Cond) ∈ vG := vG1_in _ (List.mem_of_getElem? (i := 7) rfl)
theorem gm_48 : (.fieldLink "LongMachine$Interrupts" 13 "LongMachine$Interrupts" "numbers" "[I" : Cond) ∈ vG := vG1_in _ (List.mem_of_getElem? (i := 8) rfl)
theorem gm_49 : (.fieldLink "LongMachine$Interrupts" 16 "LongMachine$Interrupts" "count" "I" : Cond) ∈ vG := vG1_in _ (List.mem_of_getElem? (i := 9) rfl)
theorem gm_50 : (.fieldLink "LongMachine" 112 "LongMachine$Interrupts" "count" "I" : Cond) ∈ vG := vG1_in _ (List.mem_of_getElem? (i := 10) rfl)
theorem gm_51 : (.laysFinal "LongMachine$Interrupts" "LongMachine$Interrupts" "levels" "[I" : Cond) ∈ vG := vG1_in _ (List.mem_of_getElem? (i := 11) rfl)
theorem gm_52 : (.laysFinal "LongMachine$Interrupts" "LongMachine$Interrupts" "numbers" "[I" : Cond) ∈ vG := vG1_in _ (List.mem_of_getElem? (i := 12) rfl)
theorem gm_53 : (.lays "LongMachine$Interrupts" "LongMachine$Interrupts" "count" "I" : Cond) ∈ vG := vG1_in _ (List.mem_of_getElem? (i := 13) rfl)
theorem gm_54 : (.classLink "LongMachine" 33 "LongMachine$Operation" : Cond) ∈ vG := vG1_in _ (List.mem_of_getElem? (i := 14) rfl)
theorem gm_55 : (.instantiable "LongMachine$Operation" 4 : Cond) ∈ vG := vG1_in _ (List.mem_of_getElem? (i := 15) rfl)
theorem gm_56 : (.instanceMethod yX3_init : Cond) ∈ vG := vG1_in _ (List.mem_of_getElem? (i := 16) rfl)
theorem gm_57 : (.code yX3_init cX3_init 1 none : Cond) ∈ vG := vG1_in _ (List.mem_of_getElem? (i := 17) rfl)
theorem gm_58 : (.methodLink "LongMachine$Operation" 1 objectInit : Cond) ∈ vG := vG1_in _ (List.mem_of_getElem? (i := 18) rfl)
theorem gm_59 : (.fieldLink "LongMachine$Operation" 23 "LongMachine$Operation" "result" "J" : Cond) ∈ vG := vG1_in _ (List.mem_of_getElem? (i := 19) rfl)
theorem gm_60 : (.fieldLink "LongMachine" 186 "LongMachine$Operation" "result" "J" : Cond) ∈ vG := vG1_in _ (List.mem_of_getElem? (i := 20) rfl)
theorem gm_61 : (.fieldLink "LongMachine$Operation" 7 "LongMachine$Operation" "known" "Z" : Cond) ∈ vG := vG1_in _ (List.mem_of_getElem? (i := 21) rfl)
theorem gm_62 : (.fieldLink "LongMachine" 180 "LongMachine$Operation" "known" "Z" : Cond) ∈ vG := vG1_in _ (List.mem_of_getElem? (i := 22) rfl)
theorem gm_63 : (.fieldLink "LongMachine$Operation" 13 "LongMachine$Operation" "given" "Z" : Cond) ∈ vG := vG1_in _ (List.mem_of_getElem? (i := 23) rfl)
theorem gm_64 : (.fieldLink "LongMachine" 183 "LongMachine$Operation" "given" "Z" : Cond) ∈ vG := vG1_in _ (List.mem_of_getElem? (i := 24) rfl)
theorem gm_65 : (.fieldLink "LongMachine$Operation" 16 "LongMachine$Operation" "trap" "Z" : Cond) ∈ vG := vG1_in _ (List.mem_of_getElem? (i := 25) rfl)
theorem gm_66 : (.fieldLink "LongMachine" 189 "LongMachine$Operation" "trap" "Z" : Cond) ∈ vG := vG1_in _ (List.mem_of_getElem? (i := 26) rfl)
theorem gm_67 : (.lays "LongMachine$Operation" "LongMachine$Operation" "result" "J" : Cond) ∈ vG := vG1_in _ (List.mem_of_getElem? (i := 27) rfl)
theorem gm_68 : (.lays "LongMachine$Operation" "LongMachine$Operation" "known" "Z" : Cond) ∈ vG := vG1_in _ (List.mem_of_getElem? (i := 28) rfl)
theorem gm_69 : (.lays "LongMachine$Operation" "LongMachine$Operation" "given" "Z" : Cond) ∈ vG := vG1_in _ (List.mem_of_getElem? (i := 29) rfl)
theorem gm_70 : (.lays "LongMachine$Operation" "LongMachine$Operation" "trap" "Z" : Cond) ∈ vG := vG1_in _ (List.mem_of_getElem? (i := 30) rfl)
theorem gm_71 : (.classLink "LongMachine" 40 "LongMachine$Crossing" : Cond) ∈ vG := vG1_in _ (List.mem_of_getElem? (i := 31) rfl)
theorem gm_72 : (.instantiable "LongMachine$Crossing" 5 : Cond) ∈ vG := vG1_in _ (List.mem_of_getElem? (i := 32) rfl)
theorem gm_73 : (.instanceMethod yX0_init : Cond) ∈ vG := vG1_in _ (List.mem_of_getElem? (i := 33) rfl)
theorem gm_74 : (.code yX0_init cX0_init 1 none : Cond) ∈ vG := vG1_in _ (List.mem_of_getElem? (i := 34) rfl)
theorem gm_75 : (.methodLink "LongMachine$Crossing" 1 objectInit : Cond) ∈ vG := vG1_in _ (List.mem_of_getElem? (i := 35) rfl)
theorem gm_76 : (.fieldLink "LongMachine$Crossing" 9 "LongMachine$Crossing" "vector" "I" : Cond) ∈ vG := vG1_in _ (List.mem_of_getElem? (i := 36) rfl)
theorem gm_77 : (.fieldLink "LongMachine" 144 "LongMachine$Crossing" "vector" "I" : Cond) ∈ vG := vG1_in _ (List.mem_of_getElem? (i := 37) rfl)
theorem gm_78 : (.fieldLink "LongMachine$Crossing" 13 "LongMachine$Crossing" "a" "J" : Cond) ∈ vG := vG1_in _ (List.mem_of_getElem? (i := 38) rfl)
theorem gm_79 : (.fieldLink "LongMachine" 205 "LongMachine$Crossing" "a" "J" : Cond) ∈ vG := vG1_in _ (List.mem_of_getElem? (i := 39) rfl)
theorem gm_80 : (.fieldLink "LongMachine$Crossing" 17 "LongMachine$Crossing" "b" "J" : Cond) ∈ vG := vG2_in _ (List.mem_of_getElem? (i := 0) rfl)
theorem gm_81 : (.fieldLink "LongMachine" 208 "LongMachine$Crossing" "b" "J" : Cond) ∈ vG := vG2_in _ (List.mem_of_getElem? (i := 1) rfl)
theorem gm_82 : (.fieldLink "LongMachine$Crossing" 20 "LongMachine$Crossing" "c" "J" : Cond) ∈ vG := vG2_in _ (List.mem_of_getElem? (i := 2) rfl)
theorem gm_83 : (.fieldLink "LongMachine" 211 "LongMachine$Crossing" "c" "J" : Cond) ∈ vG := vG2_in _ (List.mem_of_getElem? (i := 3) rfl)
theorem gm_84 : (.fieldLink "LongMachine$Crossing" 23 "LongMachine$Crossing" "pc" "J" : Cond) ∈ vG := vG2_in _ (List.mem_of_getElem? (i := 4) rfl)
theorem gm_85 : (.fieldLink "LongMachine" 214 "LongMachine$Crossing" "pc" "J" : Cond) ∈ vG := vG2_in _ (List.mem_of_getElem? (i := 5) rfl)
theorem gm_86 : (.lays "LongMachine$Crossing" "LongMachine$Crossing" "vector" "I" : Cond) ∈ vG := vG2_in _ (List.mem_of_getElem? (i := 6) rfl)
theorem gm_87 : (.lays "LongMachine$Crossing" "LongMachine$Crossing" "a" "J" : Cond) ∈ vG := vG2_in _ (List.mem_of_getElem? (i := 7) rfl)
theorem gm_88 : (.lays "LongMachine$Crossing" "LongMachine$Crossing" "b" "J" : Cond) ∈ vG := vG2_in _ (List.mem_of_getElem? (i := 8) rfl)
theorem gm_89 : (.lays "LongMachine$Crossing" "LongMachine$Crossing" "c" "J" : Cond) ∈ vG := vG2_in _ (List.mem_of_getElem? (i := 9) rfl)
theorem gm_90 : (.lays "LongMachine$Crossing" "LongMachine$Crossing" "pc" "J" : Cond) ∈ vG := vG2_in _ (List.mem_of_getElem? (i := 10) rfl)
theorem gm_91 : (.fieldLink "LongMachine" 10 "LongMachine" "memory" "LLongMachine$Memory;" : Cond) ∈ vG := vG2_in _ (List.mem_of_getElem? (i := 11) rfl)
theorem gm_92 : (.fieldLink "LongMachine" 16 "LongMachine" "registers" "[J" : Cond) ∈ vG := vG2_in _ (List.mem_of_getElem? (i := 12) rfl)
theorem gm_93 : (.fieldLink "LongMachine" 20 "LongMachine" "vectors" "[J" : Cond) ∈ vG := vG2_in _ (List.mem_of_getElem? (i := 13) rfl)
theorem gm_94 : (.fieldLink "LongMachine" 23 "LongMachine" "frame" "[J" : Cond) ∈ vG := vG2_in _ (List.mem_of_getElem? (i := 14) rfl)
theorem gm_95 : (.fieldLink "LongMachine" 29 "LongMachine" "interrupts" "LLongMachine$Interrupts;" : Cond) ∈ vG := vG2_in _ (List.mem_of_getElem? (i := 15) rfl)
theorem gm_96 : (.fieldLink "LongMachine" 36 "LongMachine" "operation" "LLongMachine$Operation;" : Cond) ∈ vG := vG2_in _ (List.mem_of_getElem? (i := 16) rfl)
theorem gm_97 : (.fieldLink "LongMachine" 43 "LongMachine" "asked" "LLongMachine$Crossing;" : Cond) ∈ vG := vG2_in _ (List.mem_of_getElem? (i := 17) rfl)
theorem gm_98 : (.fieldLink "LongMachine" 63 "LongMachine" "pc" "J" : Cond) ∈ vG := vG2_in _ (List.mem_of_getElem? (i := 18) rfl)
theorem gm_99 : (.fieldLink "LongMachine" 67 "LongMachine" "ksp" "J" : Cond) ∈ vG := vG2_in _ (List.mem_of_getElem? (i := 19) rfl)
theorem gm_100 : (.fieldLink "LongMachine" 84 "LongMachine" "usp" "J" : Cond) ∈ vG := vG2_in _ (List.mem_of_getElem? (i := 20) rfl)
theorem gm_101 : (.fieldLink "LongMachine" 87 "LongMachine" "kgp" "J" : Cond) ∈ vG := vG2_in _ (List.mem_of_getElem? (i := 21) rfl)
theorem gm_102 : (.fieldLink "LongMachine" 90 "LongMachine" "value" "J" : Cond) ∈ vG := vG2_in _ (List.mem_of_getElem? (i := 22) rfl)
theorem gm_103 : (.fieldLink "LongMachine" 47 "LongMachine" "mode" "I" : Cond) ∈ vG := vG2_in _ (List.mem_of_getElem? (i := 23) rfl)
theorem gm_104 : (.fieldLink "LongMachine" 51 "LongMachine" "level" "I" : Cond) ∈ vG := vG2_in _ (List.mem_of_getElem? (i := 24) rfl)
theorem gm_105 : (.fieldLink "LongMachine" 78 "LongMachine" "halted" "I" : Cond) ∈ vG := vG2_in _ (List.mem_of_getElem? (i := 25) rfl)
theorem gm_106 : (.fieldLink "LongMachine" 113 "LongMachine" "entries" "I" : Cond) ∈ vG := vG2_in _ (List.mem_of_getElem? (i := 26) rfl)
theorem gm_107 : (.fieldLink "LongMachine" 105 "LongMachine" "locked" "Z" : Cond) ∈ vG := vG2_in _ (List.mem_of_getElem? (i := 27) rfl)
theorem gm_108 : (.laysFinal "LongMachine" "LongMachine" "memory" "LLongMachine$Memory;" : Cond) ∈ vG := vG2_in _ (List.mem_of_getElem? (i := 28) rfl)
theorem gm_109 : (.laysFinal "LongMachine" "LongMachine" "registers" "[J" : Cond) ∈ vG := vG2_in _ (List.mem_of_getElem? (i := 29) rfl)
theorem gm_110 : (.laysFinal "LongMachine" "LongMachine" "vectors" "[J" : Cond) ∈ vG := vG2_in _ (List.mem_of_getElem? (i := 30) rfl)
theorem gm_111 : (.laysFinal "LongMachine" "LongMachine" "frame" "[J" : Cond) ∈ vG := vG2_in _ (List.mem_of_getElem? (i := 31) rfl)
theorem gm_112 : (.laysFinal "LongMachine" "LongMachine" "interrupts" "LLongMachine$Interrupts;" : Cond) ∈ vG := vG2_in _ (List.mem_of_getElem? (i := 32) rfl)
theorem gm_113 : (.laysFinal "LongMachine" "LongMachine" "operation" "LLongMachine$Operation;" : Cond) ∈ vG := vG2_in _ (List.mem_of_getElem? (i := 33) rfl)
theorem gm_114 : (.laysFinal "LongMachine" "LongMachine" "asked" "LLongMachine$Crossing;" : Cond) ∈ vG := vG2_in _ (List.mem_of_getElem? (i := 34) rfl)
theorem gm_115 : (.lays "LongMachine" "LongMachine" "pc" "J" : Cond) ∈ vG := vG2_in _ (List.mem_of_getElem? (i := 35) rfl)
theorem gm_116 : (.lays "LongMachine" "LongMachine" "ksp" "J" : Cond) ∈ vG := vG2_in _ (List.mem_of_getElem? (i := 36) rfl)
theorem gm_117 : (.lays "LongMachine" "LongMachine" "usp" "J" : Cond) ∈ vG := vG2_in _ (List.mem_of_getElem? (i := 37) rfl)
theorem gm_118 : (.lays "LongMachine" "LongMachine" "kgp" "J" : Cond) ∈ vG := vG2_in _ (List.mem_of_getElem? (i := 38) rfl)
theorem gm_119 : (.lays "LongMachine" "LongMachine" "value" "J" : Cond) ∈ vG := vG2_in _ (List.mem_of_getElem? (i := 39) rfl)
theorem gm_120 : (.lays "LongMachine" "LongMachine" "mode" "I" : Cond) ∈ vG := vG3_in _ (List.mem_of_getElem? (i := 0) rfl)
theorem gm_121 : (.lays "LongMachine" "LongMachine" "level" "I" : Cond) ∈ vG := vG3_in _ (List.mem_of_getElem? (i := 1) rfl)
theorem gm_122 : (.lays "LongMachine" "LongMachine" "halted" "I" : Cond) ∈ vG := vG3_in _ (List.mem_of_getElem? (i := 2) rfl)
theorem gm_123 : (.lays "LongMachine" "LongMachine" "entries" "I" : Cond) ∈ vG := vG3_in _ (List.mem_of_getElem? (i := 3) rfl)
theorem gm_124 : (.lays "LongMachine" "LongMachine" "locked" "Z" : Cond) ∈ vG := vG3_in _ (List.mem_of_getElem? (i := 4) rfl)
theorem gm_125 : (.methodLink "LongMachineLaw" 15 yX4_set : Cond) ∈ vG := vG3_in _ (List.mem_of_getElem? (i := 5) rfl)
theorem gm_126 : (.instanceMethod yX4_set : Cond) ∈ vG := vG3_in _ (List.mem_of_getElem? (i := 6) rfl)
theorem gm_127 : (.selects "LongMachine" yX4_set yX4_set : Cond) ∈ vG := vG3_in _ (List.mem_of_getElem? (i := 7) rfl)
theorem gm_128 : (.code yX4_set cX4_set 4 (some .boolean) : Cond) ∈ vG := vG3_in _ (List.mem_of_getElem? (i := 8) rfl)
theorem gm_129 : (.methodLink "LongMachine" 54 yX4_isWordAddress : Cond) ∈ vG := vG3_in _ (List.mem_of_getElem? (i := 9) rfl)
theorem gm_130 : (.static yX4_isWordAddress : Cond) ∈ vG := vG3_in _ (List.mem_of_getElem? (i := 10) rfl)
theorem gm_131 : (.code yX4_isWordAddress cX4_isWordAddress 1 (some .boolean) : Cond) ∈ vG := vG3_in _ (List.mem_of_getElem? (i := 11) rfl)
theorem gm_132 : (.methodLink "LongMachineLaw" 20 yX4_put : Cond) ∈ vG := vG3_in _ (List.mem_of_getElem? (i := 12) rfl)
theorem gm_133 : (.instanceMethod yX4_put : Cond) ∈ vG := vG3_in _ (List.mem_of_getElem? (i := 13) rfl)
theorem gm_134 : (.selects "LongMachine" yX4_put yX4_put : Cond) ∈ vG := vG3_in _ (List.mem_of_getElem? (i := 14) rfl)
theorem gm_135 : (.code yX4_put cX4_put 4 (some .boolean) : Cond) ∈ vG := vG3_in _ (List.mem_of_getElem? (i := 15) rfl)
theorem gm_136 : (.constantLong "LongMachine" 61 (-4) : Cond) ∈ vG := vG3_in _ (List.mem_of_getElem? (i := 16) rfl)
theorem gm_137 : (.methodLink "LongMachine" 70 yX4_write : Cond) ∈ vG := vG3_in _ (List.mem_of_getElem? (i := 17) rfl)
theorem gm_138 : (.instanceMethod yX4_write : Cond) ∈ vG := vG3_in _ (List.mem_of_getElem? (i := 18) rfl)
theorem gm_139 : (.code yX4_write cX4_write 4 none : Cond) ∈ vG := vG3_in _ (List.mem_of_getElem? (i := 19) rfl)
theorem gm_140 : (.methodLink "LongMachineLaw" 24 yX4_interrupt : Cond) ∈ vG := vG3_in _ (List.mem_of_getElem? (i := 20) rfl)
theorem gm_141 : (.instanceMethod yX4_interrupt : Cond) ∈ vG := vG3_in _ (List.mem_of_getElem? (i := 21) rfl)
theorem gm_142 : (.selects "LongMachine" yX4_interrupt yX4_interrupt : Cond) ∈ vG := vG3_in _ (List.mem_of_getElem? (i := 22) rfl)
theorem gm_143 : (.code yX4_interrupt cX4_interrupt 3 (some .boolean) : Cond) ∈ vG := vG3_in _ (List.mem_of_getElem? (i := 23) rfl)
theorem gm_144 : (.methodLink "LongMachine" 74 yX1_add : Cond) ∈ vG := vG3_in _ (List.mem_of_getElem? (i := 24) rfl)
theorem gm_145 : (.instanceMethod yX1_add : Cond) ∈ vG := vG3_in _ (List.mem_of_getElem? (i := 25) rfl)
theorem gm_146 : (.selects "LongMachine$Interrupts" yX1_add yX1_add : Cond) ∈ vG := vG3_in _ (List.mem_of_getElem? (i := 26) rfl)
theorem gm_147 : (.code yX1_add cX1_add 3 (some .boolean) : Cond) ∈ vG := vG3_in _ (List.mem_of_getElem? (i := 27) rfl)
theorem gm_148 : (.methodLink "LongMachineLaw" 29 yX4_run : Cond) ∈ vG := vG3_in _ (List.mem_of_getElem? (i := 28) rfl)
theorem gm_149 : (.instanceMethod yX4_run : Cond) ∈ vG := vG3_in _ (List.mem_of_getElem? (i := 29) rfl)
theorem gm_150 : (.selects "LongMachine" yX4_run yX4_run : Cond) ∈ vG := vG3_in _ (List.mem_of_getElem? (i := 30) rfl)
theorem gm_151 : (.code yX4_run cX4_run 3 (some .int) : Cond) ∈ vG := vG3_in _ (List.mem_of_getElem? (i := 31) rfl)
theorem gm_152 : (.methodLink "LongMachine" 81 yX4_step : Cond) ∈ vG := vG3_in _ (List.mem_of_getElem? (i := 32) rfl)
theorem gm_153 : (.instanceMethod yX4_step : Cond) ∈ vG := vG3_in _ (List.mem_of_getElem? (i := 33) rfl)
theorem gm_154 : (.code yX4_step cX4_step 3 none : Cond) ∈ vG := vG3_in _ (List.mem_of_getElem? (i := 34) rfl)
theorem gm_155 : (.methodLink "LongMachine" 116 yX0_clear : Cond) ∈ vG := vG3_in _ (List.mem_of_getElem? (i := 35) rfl)
theorem gm_156 : (.instanceMethod yX0_clear : Cond) ∈ vG := vG3_in _ (List.mem_of_getElem? (i := 36) rfl)
theorem gm_157 : (.selects "LongMachine$Crossing" yX0_clear yX0_clear : Cond) ∈ vG := vG3_in _ (List.mem_of_getElem? (i := 37) rfl)
theorem gm_158 : (.code yX0_clear cX0_clear 1 none : Cond) ∈ vG := vG3_in _ (List.mem_of_getElem? (i := 38) rfl)
theorem gm_159 : (.methodLink "LongMachine" 119 yX1_takeAbove : Cond) ∈ vG := vG3_in _ (List.mem_of_getElem? (i := 39) rfl)
theorem gm_160 : (.instanceMethod yX1_takeAbove : Cond) ∈ vG := vG4_in _ (List.mem_of_getElem? (i := 0) rfl)
theorem gm_161 : (.selects "LongMachine$Interrupts" yX1_takeAbove yX1_takeAbove : Cond) ∈ vG := vG4_in _ (List.mem_of_getElem? (i := 1) rfl)
theorem gm_162 : (.code yX1_takeAbove cX1_takeAbove 5 (some .int) : Cond) ∈ vG := vG4_in _ (List.mem_of_getElem? (i := 2) rfl)
theorem gm_163 : (.methodLink "LongMachine$Interrupts" 20 yX1_remove : Cond) ∈ vG := vG4_in _ (List.mem_of_getElem? (i := 3) rfl)
theorem gm_164 : (.instanceMethod yX1_remove : Cond) ∈ vG := vG4_in _ (List.mem_of_getElem? (i := 4) rfl)
theorem gm_165 : (.code yX1_remove cX1_remove 3 none : Cond) ∈ vG := vG4_in _ (List.mem_of_getElem? (i := 5) rfl)
theorem gm_166 : (.methodLink "LongMachine" 123 yX2_place : Cond) ∈ vG := vG4_in _ (List.mem_of_getElem? (i := 6) rfl)
theorem gm_167 : (.instanceMethod yX2_place : Cond) ∈ vG := vG4_in _ (List.mem_of_getElem? (i := 7) rfl)
theorem gm_168 : (.selects "LongMachine$Memory" yX2_place yX2_place : Cond) ∈ vG := vG4_in _ (List.mem_of_getElem? (i := 8) rfl)
theorem gm_169 : (.code yX2_place cX2_place 10 (some .int) : Cond) ∈ vG := vG4_in _ (List.mem_of_getElem? (i := 9) rfl)
theorem gm_170 : (.constantLong "LongMachine$Memory" 36 16384 : Cond) ∈ vG := vG4_in _ (List.mem_of_getElem? (i := 10) rfl)
theorem gm_171 : (.methodLink "LongMachine$Memory" 38 yX2_directPlace : Cond) ∈ vG := vG4_in _ (List.mem_of_getElem? (i := 11) rfl)
theorem gm_172 : (.static yX2_directPlace : Cond) ∈ vG := vG4_in _ (List.mem_of_getElem? (i := 12) rfl)
theorem gm_173 : (.code yX2_directPlace cX2_directPlace 4 (some .int) : Cond) ∈ vG := vG4_in _ (List.mem_of_getElem? (i := 13) rfl)
theorem gm_174 : (.constantLong "LongMachine$Memory" 61 32768 : Cond) ∈ vG := vG4_in _ (List.mem_of_getElem? (i := 14) rfl)
theorem gm_175 : (.constantLong "LongMachine$Memory" 63 36864 : Cond) ∈ vG := vG4_in _ (List.mem_of_getElem? (i := 15) rfl)
theorem gm_176 : (.constant "LongMachine$Memory" 65 32768 : Cond) ∈ vG := vG4_in _ (List.mem_of_getElem? (i := 16) rfl)
theorem gm_177 : (.methodLink "LongMachine$Memory" 54 yX2_faulted : Cond) ∈ vG := vG4_in _ (List.mem_of_getElem? (i := 17) rfl)
theorem gm_178 : (.static yX2_faulted : Cond) ∈ vG := vG4_in _ (List.mem_of_getElem? (i := 18) rfl)
theorem gm_179 : (.code yX2_faulted cX2_faulted 1 (some .int) : Cond) ∈ vG := vG4_in _ (List.mem_of_getElem? (i := 19) rfl)
theorem gm_180 : (.methodLink "LongMachine$Memory" 42 yX2_find : Cond) ∈ vG := vG4_in _ (List.mem_of_getElem? (i := 20) rfl)
theorem gm_181 : (.instanceMethod yX2_find : Cond) ∈ vG := vG4_in _ (List.mem_of_getElem? (i := 21) rfl)
theorem gm_182 : (.code yX2_find cX2_find 3 (some .int) : Cond) ∈ vG := vG4_in _ (List.mem_of_getElem? (i := 22) rfl)
theorem gm_183 : (.methodLink "LongMachine$Memory" 46 yX2_walk : Cond) ∈ vG := vG4_in _ (List.mem_of_getElem? (i := 23) rfl)
theorem gm_184 : (.instanceMethod yX2_walk : Cond) ∈ vG := vG4_in _ (List.mem_of_getElem? (i := 24) rfl)
theorem gm_185 : (.code yX2_walk cX2_walk 8 (some .long) : Cond) ∈ vG := vG4_in _ (List.mem_of_getElem? (i := 25) rfl)
theorem gm_186 : (.constantLong "LongMachine$Memory" 72 240 : Cond) ∈ vG := vG4_in _ (List.mem_of_getElem? (i := 26) rfl)
theorem gm_187 : (.methodLink "LongMachine$Memory" 57 yX2_numberOf : Cond) ∈ vG := vG4_in _ (List.mem_of_getElem? (i := 27) rfl)
theorem gm_188 : (.static yX2_numberOf : Cond) ∈ vG := vG4_in _ (List.mem_of_getElem? (i := 28) rfl)
theorem gm_189 : (.code yX2_numberOf cX2_numberOf 2 (some .int) : Cond) ∈ vG := vG4_in _ (List.mem_of_getElem? (i := 29) rfl)
theorem gm_190 : (.methodLink "LongMachine$Memory" 74 yX2_keep : Cond) ∈ vG := vG4_in _ (List.mem_of_getElem? (i := 30) rfl)
theorem gm_191 : (.instanceMethod yX2_keep : Cond) ∈ vG := vG4_in _ (List.mem_of_getElem? (i := 31) rfl)
theorem gm_192 : (.code yX2_keep cX2_keep 5 none : Cond) ∈ vG := vG4_in _ (List.mem_of_getElem? (i := 32) rfl)
theorem gm_193 : (.methodLink "LongMachine$Memory" 50 yX2_faultIn : Cond) ∈ vG := vG4_in _ (List.mem_of_getElem? (i := 33) rfl)
theorem gm_194 : (.static yX2_faultIn : Cond) ∈ vG := vG4_in _ (List.mem_of_getElem? (i := 34) rfl)
theorem gm_195 : (.code yX2_faultIn cX2_faultIn 6 (some .int) : Cond) ∈ vG := vG4_in _ (List.mem_of_getElem? (i := 35) rfl)
theorem gm_196 : (.methodLink "LongMachine" 127 yX0_enter : Cond) ∈ vG := vG4_in _ (List.mem_of_getElem? (i := 36) rfl)
theorem gm_197 : (.instanceMethod yX0_enter : Cond) ∈ vG := vG4_in _ (List.mem_of_getElem? (i := 37) rfl)
theorem gm_198 : (.selects "LongMachine$Crossing" yX0_enter yX0_enter : Cond) ∈ vG := vG4_in _ (List.mem_of_getElem? (i := 38) rfl)
theorem gm_199 : (.code yX0_enter cX0_enter 10 none : Cond) ∈ vG := vG4_in _ (List.mem_of_getElem? (i := 39) rfl)
theorem gm_200 : (.methodLink "LongMachine" 131 yX2_faultOf : Cond) ∈ vG := vG5_in _ (List.mem_of_getElem? (i := 0) rfl)
theorem gm_201 : (.static yX2_faultOf : Cond) ∈ vG := vG5_in _ (List.mem_of_getElem? (i := 1) rfl)
theorem gm_202 : (.code yX2_faultOf cX2_faultOf 1 (some .int) : Cond) ∈ vG := vG5_in _ (List.mem_of_getElem? (i := 2) rfl)
theorem gm_203 : (.constantLong "LongMachine" 99 (-1) : Cond) ∈ vG := vG5_in _ (List.mem_of_getElem? (i := 3) rfl)
theorem gm_204 : (.constantLong "LongMachine" 134 4 : Cond) ∈ vG := vG5_in _ (List.mem_of_getElem? (i := 4) rfl)
theorem gm_205 : (.methodLink "LongMachine" 136 yX2_load : Cond) ∈ vG := vG5_in _ (List.mem_of_getElem? (i := 5) rfl)
theorem gm_206 : (.instanceMethod yX2_load : Cond) ∈ vG := vG5_in _ (List.mem_of_getElem? (i := 6) rfl)
theorem gm_207 : (.selects "LongMachine$Memory" yX2_load yX2_load : Cond) ∈ vG := vG5_in _ (List.mem_of_getElem? (i := 7) rfl)
theorem gm_208 : (.code yX2_load cX2_load 5 (some .long) : Cond) ∈ vG := vG5_in _ (List.mem_of_getElem? (i := 8) rfl)
theorem gm_209 : (.methodLink "LongMachine" 140 yX4_execute : Cond) ∈ vG := vG5_in _ (List.mem_of_getElem? (i := 9) rfl)
theorem gm_210 : (.instanceMethod yX4_execute : Cond) ∈ vG := vG5_in _ (List.mem_of_getElem? (i := 10) rfl)
theorem gm_211 : (.code yX4_execute cX4_execute 8 none : Cond) ∈ vG := vG5_in _ (List.mem_of_getElem? (i := 11) rfl)
theorem gm_212 : (.methodLink "LongMachine" 152 yX4_call : Cond) ∈ vG := vG5_in _ (List.mem_of_getElem? (i := 12) rfl)
theorem gm_213 : (.instanceMethod yX4_call : Cond) ∈ vG := vG5_in _ (List.mem_of_getElem? (i := 13) rfl)
theorem gm_214 : (.code yX4_call cX4_call 2 none : Cond) ∈ vG := vG5_in _ (List.mem_of_getElem? (i := 14) rfl)
theorem gm_215 : (.constantLong "LongMachine" 217 2 : Cond) ∈ vG := vG5_in _ (List.mem_of_getElem? (i := 15) rfl)
theorem gm_216 : (.methodLink "LongMachine" 173 yX4_refuse : Cond) ∈ vG := vG5_in _ (List.mem_of_getElem? (i := 16) rfl)
theorem gm_217 : (.instanceMethod yX4_refuse : Cond) ∈ vG := vG5_in _ (List.mem_of_getElem? (i := 17) rfl)
theorem gm_218 : (.code yX4_refuse cX4_refuse 2 none : Cond) ∈ vG := vG5_in _ (List.mem_of_getElem? (i := 18) rfl)
theorem gm_219 : (.methodLink "LongMachine" 219 yX4_kernelCall : Cond) ∈ vG := vG5_in _ (List.mem_of_getElem? (i := 19) rfl)
theorem gm_220 : (.instanceMethod yX4_kernelCall : Cond) ∈ vG := vG5_in _ (List.mem_of_getElem? (i := 20) rfl)
theorem gm_221 : (.code yX4_kernelCall cX4_kernelCall 4 none : Cond) ∈ vG := vG5_in _ (List.mem_of_getElem? (i := 21) rfl)
theorem gm_222 : (.methodLink "LongMachine" 222 yX4_changeSpace : Cond) ∈ vG := vG5_in _ (List.mem_of_getElem? (i := 22) rfl)
theorem gm_223 : (.instanceMethod yX4_changeSpace : Cond) ∈ vG := vG5_in _ (List.mem_of_getElem? (i := 23) rfl)
theorem gm_224 : (.code yX4_changeSpace cX4_changeSpace 1 none : Cond) ∈ vG := vG5_in _ (List.mem_of_getElem? (i := 24) rfl)
theorem gm_225 : (.methodLink "LongMachine" 225 yX2_emptyBuffer : Cond) ∈ vG := vG5_in _ (List.mem_of_getElem? (i := 25) rfl)
theorem gm_226 : (.instanceMethod yX2_emptyBuffer : Cond) ∈ vG := vG5_in _ (List.mem_of_getElem? (i := 26) rfl)
theorem gm_227 : (.selects "LongMachine$Memory" yX2_emptyBuffer yX2_emptyBuffer : Cond) ∈ vG := vG5_in _ (List.mem_of_getElem? (i := 27) rfl)
theorem gm_228 : (.code yX2_emptyBuffer cX2_emptyBuffer 1 none : Cond) ∈ vG := vG5_in _ (List.mem_of_getElem? (i := 28) rfl)
theorem gm_229 : (.methodLink "LongMachine" 228 yX4_changeVector : Cond) ∈ vG := vG5_in _ (List.mem_of_getElem? (i := 29) rfl)
theorem gm_230 : (.instanceMethod yX4_changeVector : Cond) ∈ vG := vG5_in _ (List.mem_of_getElem? (i := 30) rfl)
theorem gm_231 : (.code yX4_changeVector cX4_changeVector 2 none : Cond) ∈ vG := vG5_in _ (List.mem_of_getElem? (i := 31) rfl)
theorem gm_232 : (.methodLink "LongMachine" 101 yX4_status : Cond) ∈ vG := vG5_in _ (List.mem_of_getElem? (i := 32) rfl)
theorem gm_233 : (.instanceMethod yX4_status : Cond) ∈ vG := vG5_in _ (List.mem_of_getElem? (i := 33) rfl)
theorem gm_234 : (.code yX4_status cX4_status 1 (some .int) : Cond) ∈ vG := vG5_in _ (List.mem_of_getElem? (i := 34) rfl)
theorem gm_235 : (.methodLink "LongMachine" 231 yX0_comeBack : Cond) ∈ vG := vG5_in _ (List.mem_of_getElem? (i := 35) rfl)
theorem gm_236 : (.instanceMethod yX0_comeBack : Cond) ∈ vG := vG5_in _ (List.mem_of_getElem? (i := 36) rfl)
theorem gm_237 : (.selects "LongMachine$Crossing" yX0_comeBack yX0_comeBack : Cond) ∈ vG := vG5_in _ (List.mem_of_getElem? (i := 37) rfl)
theorem gm_238 : (.code yX0_comeBack cX0_comeBack 1 none : Cond) ∈ vG := vG5_in _ (List.mem_of_getElem? (i := 38) rfl)
theorem gm_239 : (.constantLong "LongMachine" 155 65536 : Cond) ∈ vG := vG5_in _ (List.mem_of_getElem? (i := 39) rfl)
theorem gm_240 : (.constantLong "LongMachine" 157 (-8) : Cond) ∈ vG := vG6_in _ (List.mem_of_getElem? (i := 0) rfl)
theorem gm_241 : (.methodLink "LongMachine" 159 yX4_reach : Cond) ∈ vG := vG6_in _ (List.mem_of_getElem? (i := 1) rfl)
theorem gm_242 : (.instanceMethod yX4_reach : Cond) ∈ vG := vG6_in _ (List.mem_of_getElem? (i := 2) rfl)
theorem gm_243 : (.code yX4_reach cX4_reach 9 none : Cond) ∈ vG := vG6_in _ (List.mem_of_getElem? (i := 3) rfl)
theorem gm_244 : (.methodLink "LongMachine" 192 yX2_store : Cond) ∈ vG := vG6_in _ (List.mem_of_getElem? (i := 4) rfl)
theorem gm_245 : (.instanceMethod yX2_store : Cond) ∈ vG := vG6_in _ (List.mem_of_getElem? (i := 5) rfl)
theorem gm_246 : (.selects "LongMachine$Memory" yX2_store yX2_store : Cond) ∈ vG := vG6_in _ (List.mem_of_getElem? (i := 6) rfl)
theorem gm_247 : (.code yX2_store cX2_store 10 none : Cond) ∈ vG := vG6_in _ (List.mem_of_getElem? (i := 7) rfl)
theorem gm_248 : (.constantLong "LongMachine$Memory" 25 (-1) : Cond) ∈ vG := vG6_in _ (List.mem_of_getElem? (i := 8) rfl)
theorem gm_249 : (.constantLong "LongMachine$Memory" 27 4294967295 : Cond) ∈ vG := vG6_in _ (List.mem_of_getElem? (i := 9) rfl)
theorem gm_250 : (.methodLink "LongMachine" 163 yX4_operate : Cond) ∈ vG := vG6_in _ (List.mem_of_getElem? (i := 10) rfl)
theorem gm_251 : (.instanceMethod yX4_operate : Cond) ∈ vG := vG6_in _ (List.mem_of_getElem? (i := 11) rfl)
theorem gm_252 : (.code yX4_operate cX4_operate 6 none : Cond) ∈ vG := vG6_in _ (List.mem_of_getElem? (i := 12) rfl)
theorem gm_253 : (.methodLink "LongMachine" 176 yX3_compute : Cond) ∈ vG := vG6_in _ (List.mem_of_getElem? (i := 13) rfl)
theorem gm_254 : (.instanceMethod yX3_compute : Cond) ∈ vG := vG6_in _ (List.mem_of_getElem? (i := 14) rfl)
theorem gm_255 : (.selects "LongMachine$Operation" yX3_compute yX3_compute : Cond) ∈ vG := vG6_in _ (List.mem_of_getElem? (i := 15) rfl)
theorem gm_256 : (.code yX3_compute cX3_compute 7 none : Cond) ∈ vG := vG6_in _ (List.mem_of_getElem? (i := 16) rfl)
theorem gm_257 : (.methodLink "LongMachine$Operation" 19 yX3_add : Cond) ∈ vG := vG6_in _ (List.mem_of_getElem? (i := 17) rfl)
theorem gm_258 : (.instanceMethod yX3_add : Cond) ∈ vG := vG6_in _ (List.mem_of_getElem? (i := 18) rfl)
theorem gm_259 : (.code yX3_add cX3_add 6 (some .long) : Cond) ∈ vG := vG6_in _ (List.mem_of_getElem? (i := 19) rfl)
theorem gm_260 : (.methodLink "LongMachine$Operation" 38 yX3_sx : Cond) ∈ vG := vG6_in _ (List.mem_of_getElem? (i := 20) rfl)
theorem gm_261 : (.static yX3_sx : Cond) ∈ vG := vG6_in _ (List.mem_of_getElem? (i := 21) rfl)
theorem gm_262 : (.code yX3_sx cX3_sx 2 (some .long) : Cond) ∈ vG := vG6_in _ (List.mem_of_getElem? (i := 22) rfl)
theorem gm_263 : (.constantLong "LongMachine$Operation" 42 4 : Cond) ∈ vG := vG6_in _ (List.mem_of_getElem? (i := 23) rfl)
theorem gm_264 : (.constantLong "LongMachine$Operation" 44 8 : Cond) ∈ vG := vG6_in _ (List.mem_of_getElem? (i := 24) rfl)
theorem gm_265 : (.methodLink "LongMachine$Operation" 46 yX3_trapIf : Cond) ∈ vG := vG6_in _ (List.mem_of_getElem? (i := 25) rfl)
theorem gm_266 : (.instanceMethod yX3_trapIf : Cond) ∈ vG := vG6_in _ (List.mem_of_getElem? (i := 26) rfl)
theorem gm_267 : (.code yX3_trapIf cX3_trapIf 4 (some .long) : Cond) ∈ vG := vG6_in _ (List.mem_of_getElem? (i := 27) rfl)
theorem gm_268 : (.methodLink "LongMachine$Operation" 50 yX3_truth : Cond) ∈ vG := vG6_in _ (List.mem_of_getElem? (i := 28) rfl)
theorem gm_269 : (.static yX3_truth : Cond) ∈ vG := vG6_in _ (List.mem_of_getElem? (i := 29) rfl)
theorem gm_270 : (.code yX3_truth cX3_truth 1 (some .long) : Cond) ∈ vG := vG6_in _ (List.mem_of_getElem? (i := 30) rfl)
theorem gm_271 : (.methodLink "LongMachine$Operation" 54 yX3_isBelow : Cond) ∈ vG := vG6_in _ (List.mem_of_getElem? (i := 31) rfl)
theorem gm_272 : (.static yX3_isBelow : Cond) ∈ vG := vG6_in _ (List.mem_of_getElem? (i := 32) rfl)
theorem gm_273 : (.code yX3_isBelow cX3_isBelow 4 (some .boolean) : Cond) ∈ vG := vG6_in _ (List.mem_of_getElem? (i := 33) rfl)
theorem gm_274 : (.constantLong "LongMachine$Operation" 36 (-9223372036854775808) : Cond) ∈ vG := vG6_in _ (List.mem_of_getElem? (i := 34) rfl)
theorem gm_275 : (.methodLink "LongMachine$Operation" 58 yX3_bytesNotLess : Cond) ∈ vG := vG6_in _ (List.mem_of_getElem? (i := 35) rfl)
theorem gm_276 : (.static yX3_bytesNotLess : Cond) ∈ vG := vG6_in _ (List.mem_of_getElem? (i := 36) rfl)
theorem gm_277 : (.code yX3_bytesNotLess cX3_bytesNotLess 7 (some .long) : Cond) ∈ vG := vG6_in _ (List.mem_of_getElem? (i := 37) rfl)
theorem gm_278 : (.constantLong "LongMachine$Operation" 62 255 : Cond) ∈ vG := vG6_in _ (List.mem_of_getElem? (i := 38) rfl)
theorem gm_279 : (.methodLink "LongMachine$Operation" 27 yX3_combine : Cond) ∈ vG := vG6_in _ (List.mem_of_getElem? (i := 39) rfl)
theorem gm_280 : (.instanceMethod yX3_combine : Cond) ∈ vG := vG7_in _ (List.mem_of_getElem? (i := 0) rfl)
theorem gm_281 : (.code yX3_combine cX3_combine 6 (some .long) : Cond) ∈ vG := vG7_in _ (List.mem_of_getElem? (i := 1) rfl)
theorem gm_282 : (.constantLong "LongMachine$Operation" 64 (-1) : Cond) ∈ vG := vG7_in _ (List.mem_of_getElem? (i := 2) rfl)
theorem gm_283 : (.methodLink "LongMachine$Operation" 66 yX3_onlyIf : Cond) ∈ vG := vG7_in _ (List.mem_of_getElem? (i := 3) rfl)
theorem gm_284 : (.instanceMethod yX3_onlyIf : Cond) ∈ vG := vG7_in _ (List.mem_of_getElem? (i := 4) rfl)
theorem gm_285 : (.code yX3_onlyIf cX3_onlyIf 4 (some .long) : Cond) ∈ vG := vG7_in _ (List.mem_of_getElem? (i := 5) rfl)
theorem gm_286 : (.methodLink "LongMachine$Operation" 30 yX3_shift : Cond) ∈ vG := vG7_in _ (List.mem_of_getElem? (i := 6) rfl)
theorem gm_287 : (.instanceMethod yX3_shift : Cond) ∈ vG := vG7_in _ (List.mem_of_getElem? (i := 7) rfl)
theorem gm_288 : (.code yX3_shift cX3_shift 10 (some .long) : Cond) ∈ vG := vG7_in _ (List.mem_of_getElem? (i := 8) rfl)
theorem gm_289 : (.methodLink "LongMachine$Operation" 69 yX3_bytesOf : Cond) ∈ vG := vG7_in _ (List.mem_of_getElem? (i := 9) rfl)
theorem gm_290 : (.static yX3_bytesOf : Cond) ∈ vG := vG7_in _ (List.mem_of_getElem? (i := 10) rfl)
theorem gm_291 : (.code yX3_bytesOf cX3_bytesOf 5 (some .long) : Cond) ∈ vG := vG7_in _ (List.mem_of_getElem? (i := 11) rfl)
theorem gm_292 : (.methodLink "LongMachine$Operation" 72 yX3_lowPart : Cond) ∈ vG := vG7_in _ (List.mem_of_getElem? (i := 12) rfl)
theorem gm_293 : (.instanceMethod yX3_lowPart : Cond) ∈ vG := vG7_in _ (List.mem_of_getElem? (i := 13) rfl)
theorem gm_294 : (.code yX3_lowPart cX3_lowPart 7 (some .long) : Cond) ∈ vG := vG7_in _ (List.mem_of_getElem? (i := 14) rfl)
theorem gm_295 : (.methodLink "LongMachine$Operation" 76 yX3_highPart : Cond) ∈ vG := vG7_in _ (List.mem_of_getElem? (i := 15) rfl)
theorem gm_296 : (.instanceMethod yX3_highPart : Cond) ∈ vG := vG7_in _ (List.mem_of_getElem? (i := 16) rfl)
theorem gm_297 : (.code yX3_highPart cX3_highPart 7 (some .long) : Cond) ∈ vG := vG7_in _ (List.mem_of_getElem? (i := 17) rfl)
theorem gm_298 : (.methodLink "LongMachine$Operation" 33 yX3_multiply : Cond) ∈ vG := vG7_in _ (List.mem_of_getElem? (i := 18) rfl)
theorem gm_299 : (.instanceMethod yX3_multiply : Cond) ∈ vG := vG7_in _ (List.mem_of_getElem? (i := 19) rfl)
theorem gm_300 : (.code yX3_multiply cX3_multiply 6 (some .long) : Cond) ∈ vG := vG7_in _ (List.mem_of_getElem? (i := 20) rfl)
theorem gm_301 : (.methodLink "LongMachine$Operation" 79 yX3_upper : Cond) ∈ vG := vG7_in _ (List.mem_of_getElem? (i := 21) rfl)
theorem gm_302 : (.static yX3_upper : Cond) ∈ vG := vG7_in _ (List.mem_of_getElem? (i := 22) rfl)
theorem gm_303 : (.code yX3_upper cX3_upper 16 (some .long) : Cond) ∈ vG := vG7_in _ (List.mem_of_getElem? (i := 23) rfl)
theorem gm_304 : (.constantLong "LongMachine$Operation" 86 4294967295 : Cond) ∈ vG := vG7_in _ (List.mem_of_getElem? (i := 24) rfl)
theorem gm_305 : (.methodLink "LongMachine$Operation" 82 yX3_signedUpper : Cond) ∈ vG := vG7_in _ (List.mem_of_getElem? (i := 25) rfl)
theorem gm_306 : (.static yX3_signedUpper : Cond) ∈ vG := vG7_in _ (List.mem_of_getElem? (i := 26) rfl)
theorem gm_307 : (.code yX3_signedUpper cX3_signedUpper 6 (some .long) : Cond) ∈ vG := vG7_in _ (List.mem_of_getElem? (i := 27) rfl)
theorem gm_308 : (.methodLink "LongMachine" 166 yX4_branch : Cond) ∈ vG := vG7_in _ (List.mem_of_getElem? (i := 28) rfl)
theorem gm_309 : (.instanceMethod yX4_branch : Cond) ∈ vG := vG7_in _ (List.mem_of_getElem? (i := 29) rfl)
theorem gm_310 : (.code yX4_branch cX4_branch 4 none : Cond) ∈ vG := vG7_in _ (List.mem_of_getElem? (i := 30) rfl)
theorem gm_311 : (.methodLink "LongMachine" 169 yX4_isTaken : Cond) ∈ vG := vG7_in _ (List.mem_of_getElem? (i := 31) rfl)
theorem gm_312 : (.static yX4_isTaken : Cond) ∈ vG := vG7_in _ (List.mem_of_getElem? (i := 32) rfl)
theorem gm_313 : (.code yX4_isTaken cX4_isTaken 3 (some .boolean) : Cond) ∈ vG := vG7_in _ (List.mem_of_getElem? (i := 33) rfl)
theorem gm_314 : (.methodLink "LongMachine" 147 yX4_enter : Cond) ∈ vG := vG7_in _ (List.mem_of_getElem? (i := 34) rfl)
theorem gm_315 : (.instanceMethod yX4_enter : Cond) ∈ vG := vG7_in _ (List.mem_of_getElem? (i := 35) rfl)
theorem gm_316 : (.code yX4_enter cX4_enter 1 none : Cond) ∈ vG := vG7_in _ (List.mem_of_getElem? (i := 36) rfl)
theorem gm_317 : (.methodLink "LongMachine" 196 yX4_fillFrame : Cond) ∈ vG := vG7_in _ (List.mem_of_getElem? (i := 37) rfl)
theorem gm_318 : (.instanceMethod yX4_fillFrame : Cond) ∈ vG := vG7_in _ (List.mem_of_getElem? (i := 38) rfl)
theorem gm_319 : (.code yX4_fillFrame cX4_fillFrame 1 none : Cond) ∈ vG := vG7_in _ (List.mem_of_getElem? (i := 39) rfl)
theorem gm_320 : (.constantLong "LongMachine" 199 48 : Cond) ∈ vG := vG8_in _ (List.mem_of_getElem? (i := 0) rfl)
theorem gm_321 : (.methodLink "LongMachine" 201 yX4_moveFrame : Cond) ∈ vG := vG8_in _ (List.mem_of_getElem? (i := 1) rfl)
theorem gm_322 : (.instanceMethod yX4_moveFrame : Cond) ∈ vG := vG8_in _ (List.mem_of_getElem? (i := 2) rfl)
theorem gm_323 : (.code yX4_moveFrame cX4_moveFrame 6 (some .boolean) : Cond) ∈ vG := vG8_in _ (List.mem_of_getElem? (i := 3) rfl)
theorem gm_324 : (.constantLong "LongMachine" 215 7 : Cond) ∈ vG := vG8_in _ (List.mem_of_getElem? (i := 4) rfl)
theorem gm_325 : (.methodLink "LongMachine" 149 yX4_comeBack : Cond) ∈ vG := vG8_in _ (List.mem_of_getElem? (i := 5) rfl)
theorem gm_326 : (.instanceMethod yX4_comeBack : Cond) ∈ vG := vG8_in _ (List.mem_of_getElem? (i := 6) rfl)
theorem gm_327 : (.code yX4_comeBack cX4_comeBack 1 none : Cond) ∈ vG := vG8_in _ (List.mem_of_getElem? (i := 7) rfl)
theorem gm_328 : (.methodLink "LongMachineLaw" 34 yX4_register : Cond) ∈ vG := vG8_in _ (List.mem_of_getElem? (i := 8) rfl)
theorem gm_329 : (.instanceMethod yX4_register : Cond) ∈ vG := vG8_in _ (List.mem_of_getElem? (i := 9) rfl)
theorem gm_330 : (.selects "LongMachine" yX4_register yX4_register : Cond) ∈ vG := vG8_in _ (List.mem_of_getElem? (i := 10) rfl)
theorem gm_331 : (.code yX4_register cX4_register 2 (some .long) : Cond) ∈ vG := vG8_in _ (List.mem_of_getElem? (i := 11) rfl)
theorem gm_332 : (.methodLink "LongMachineLaw" 39 yX4_word : Cond) ∈ vG := vG8_in _ (List.mem_of_getElem? (i := 12) rfl)
theorem gm_333 : (.instanceMethod yX4_word : Cond) ∈ vG := vG8_in _ (List.mem_of_getElem? (i := 13) rfl)
theorem gm_334 : (.selects "LongMachine" yX4_word yX4_word : Cond) ∈ vG := vG8_in _ (List.mem_of_getElem? (i := 14) rfl)
theorem gm_335 : (.code yX4_word cX4_word 2 (some .long) : Cond) ∈ vG := vG8_in _ (List.mem_of_getElem? (i := 15) rfl)
theorem gm_336 : (.methodLink "LongMachineLaw" 43 yX4_state : Cond) ∈ vG := vG8_in _ (List.mem_of_getElem? (i := 16) rfl)
theorem gm_337 : (.instanceMethod yX4_state : Cond) ∈ vG := vG8_in _ (List.mem_of_getElem? (i := 17) rfl)
theorem gm_338 : (.selects "LongMachine" yX4_state yX4_state : Cond) ∈ vG := vG8_in _ (List.mem_of_getElem? (i := 18) rfl)
theorem gm_339 : (.code yX4_state cX4_state 2 (some .int) : Cond) ∈ vG := vG8_in _ (List.mem_of_getElem? (i := 19) rfl)
theorem gm_340 : (.classLink "LongMachineLaw" 10 "LongMachineModel" : Cond) ∈ vG := vG8_in _ (List.mem_of_getElem? (i := 20) rfl)
theorem gm_341 : (.instantiable "LongMachineModel" 28 : Cond) ∈ vG := vG8_in _ (List.mem_of_getElem? (i := 21) rfl)
theorem gm_342 : (.methodLink "LongMachineLaw" 12 yY_init : Cond) ∈ vG := vG8_in _ (List.mem_of_getElem? (i := 22) rfl)
theorem gm_343 : (.instanceMethod yY_init : Cond) ∈ vG := vG8_in _ (List.mem_of_getElem? (i := 23) rfl)
theorem gm_344 : (.code yY_init cY_init 1 none : Cond) ∈ vG := vG8_in _ (List.mem_of_getElem? (i := 24) rfl)
theorem gm_345 : (.methodLink "LongMachineModel" 1 objectInit : Cond) ∈ vG := vG8_in _ (List.mem_of_getElem? (i := 25) rfl)
theorem gm_346 : (.fieldLink "LongMachineModel" 7 "LongMachineModel" "memory" "[I" : Cond) ∈ vG := vG8_in _ (List.mem_of_getElem? (i := 26) rfl)
theorem gm_347 : (.fieldLink "LongMachineModel" 13 "LongMachineModel" "\x72" "[J" : Cond) ∈ vG := vG8_in _ (List.mem_of_getElem? (i := 27) rfl)
theorem gm_348 : (.fieldLink "LongMachineModel" 116 "LongMachineModel" "pc" "J" : Cond) ∈ vG := vG8_in _ (List.mem_of_getElem? (i := 28) rfl)
theorem gm_349 : (.fieldLink "LongMachineModel" 76 "LongMachineModel" "mode" "I" : Cond) ∈ vG := vG8_in _ (List.mem_of_getElem? (i := 29) rfl)
theorem gm_350 : (.fieldLink "LongMachineModel" 17 "LongMachineModel" "level" "I" : Cond) ∈ vG := vG8_in _ (List.mem_of_getElem? (i := 30) rfl)
theorem gm_351 : (.fieldLink "LongMachineModel" 112 "LongMachineModel" "lock" "Z" : Cond) ∈ vG := vG8_in _ (List.mem_of_getElem? (i := 31) rfl)
theorem gm_352 : (.fieldLink "LongMachineModel" 91 "LongMachineModel" "ksp" "J" : Cond) ∈ vG := vG8_in _ (List.mem_of_getElem? (i := 32) rfl)
theorem gm_353 : (.fieldLink "LongMachineModel" 87 "LongMachineModel" "usp" "J" : Cond) ∈ vG := vG8_in _ (List.mem_of_getElem? (i := 33) rfl)
theorem gm_354 : (.fieldLink "LongMachineModel" 109 "LongMachineModel" "kgp" "J" : Cond) ∈ vG := vG8_in _ (List.mem_of_getElem? (i := 34) rfl)
theorem gm_355 : (.fieldLink "LongMachineModel" 216 "LongMachineModel" "value" "J" : Cond) ∈ vG := vG8_in _ (List.mem_of_getElem? (i := 35) rfl)
theorem gm_356 : (.fieldLink "LongMachineModel" 52 "LongMachineModel" "table" "I" : Cond) ∈ vG := vG8_in _ (List.mem_of_getElem? (i := 36) rfl)
theorem gm_357 : (.fieldLink "LongMachineModel" 47 "LongMachineModel" "space" "I" : Cond) ∈ vG := vG8_in _ (List.mem_of_getElem? (i := 37) rfl)
theorem gm_358 : (.fieldLink "LongMachineModel" 21 "LongMachineModel" "vector" "[J" : Cond) ∈ vG := vG8_in _ (List.mem_of_getElem? (i := 38) rfl)
theorem gm_359 : (.fieldLink "LongMachineModel" 106 "LongMachineModel" "halted" "I" : Cond) ∈ vG := vG8_in _ (List.mem_of_getElem? (i := 39) rfl)
theorem gm_360 : (.fieldLink "LongMachineModel" 119 "LongMachineModel" "entries" "I" : Cond) ∈ vG := vG9_in _ (List.mem_of_getElem? (i := 0) rfl)
theorem gm_361 : (.fieldLink "LongMachineModel" 221 "LongMachineModel" "pending" "I" : Cond) ∈ vG := vG9_in _ (List.mem_of_getElem? (i := 1) rfl)
theorem gm_362 : (.fieldLink "LongMachineModel" 24 "LongMachineModel" "pendingLevel" "[I" : Cond) ∈ vG := vG9_in _ (List.mem_of_getElem? (i := 2) rfl)
theorem gm_363 : (.fieldLink "LongMachineModel" 27 "LongMachineModel" "pendingNumber" "[I" : Cond) ∈ vG := vG9_in _ (List.mem_of_getElem? (i := 3) rfl)
theorem gm_364 : (.fieldLink "LongMachineModel" 44 "LongMachineModel" "buffered" "I" : Cond) ∈ vG := vG9_in _ (List.mem_of_getElem? (i := 4) rfl)
theorem gm_365 : (.fieldLink "LongMachineModel" 30 "LongMachineModel" "bufferPage" "[I" : Cond) ∈ vG := vG9_in _ (List.mem_of_getElem? (i := 5) rfl)
theorem gm_366 : (.fieldLink "LongMachineModel" 33 "LongMachineModel" "bufferSpace" "[I" : Cond) ∈ vG := vG9_in _ (List.mem_of_getElem? (i := 6) rfl)
theorem gm_367 : (.fieldLink "LongMachineModel" 36 "LongMachineModel" "bufferWord" "[J" : Cond) ∈ vG := vG9_in _ (List.mem_of_getElem? (i := 7) rfl)
theorem gm_368 : (.fieldLink "LongMachineModel" 122 "LongMachineModel" "here" "J" : Cond) ∈ vG := vG9_in _ (List.mem_of_getElem? (i := 8) rfl)
theorem gm_369 : (.fieldLink "LongMachineModel" 171 "LongMachineModel" "word" "I" : Cond) ∈ vG := vG9_in _ (List.mem_of_getElem? (i := 9) rfl)
theorem gm_370 : (.fieldLink "LongMachineModel" 151 "LongMachineModel" "has" "Z" : Cond) ∈ vG := vG9_in _ (List.mem_of_getElem? (i := 10) rfl)
theorem gm_371 : (.fieldLink "LongMachineModel" 146 "LongMachineModel" "trap" "Z" : Cond) ∈ vG := vG9_in _ (List.mem_of_getElem? (i := 11) rfl)
theorem gm_372 : (.fieldLink "LongMachineModel" 143 "LongMachineModel" "none" "Z" : Cond) ∈ vG := vG9_in _ (List.mem_of_getElem? (i := 12) rfl)
theorem gm_373 : (.fieldLink "LongMachineModel" 39 "LongMachineModel" "six" "[J" : Cond) ∈ vG := vG9_in _ (List.mem_of_getElem? (i := 13) rfl)
theorem gm_374 : (.laysFinal "LongMachineModel" "LongMachineModel" "memory" "[I" : Cond) ∈ vG := vG9_in _ (List.mem_of_getElem? (i := 14) rfl)
theorem gm_375 : (.laysFinal "LongMachineModel" "LongMachineModel" "\x72" "[J" : Cond) ∈ vG := vG9_in _ (List.mem_of_getElem? (i := 15) rfl)
theorem gm_376 : (.lays "LongMachineModel" "LongMachineModel" "pc" "J" : Cond) ∈ vG := vG9_in _ (List.mem_of_getElem? (i := 16) rfl)
theorem gm_377 : (.lays "LongMachineModel" "LongMachineModel" "mode" "I" : Cond) ∈ vG := vG9_in _ (List.mem_of_getElem? (i := 17) rfl)
theorem gm_378 : (.lays "LongMachineModel" "LongMachineModel" "level" "I" : Cond) ∈ vG := vG9_in _ (List.mem_of_getElem? (i := 18) rfl)
theorem gm_379 : (.lays "LongMachineModel" "LongMachineModel" "lock" "Z" : Cond) ∈ vG := vG9_in _ (List.mem_of_getElem? (i := 19) rfl)
theorem gm_380 : (.lays "LongMachineModel" "LongMachineModel" "ksp" "J" : Cond) ∈ vG := vG9_in _ (List.mem_of_getElem? (i := 20) rfl)
theorem gm_381 : (.lays "LongMachineModel" "LongMachineModel" "usp" "J" : Cond) ∈ vG := vG9_in _ (List.mem_of_getElem? (i := 21) rfl)
theorem gm_382 : (.lays "LongMachineModel" "LongMachineModel" "kgp" "J" : Cond) ∈ vG := vG9_in _ (List.mem_of_getElem? (i := 22) rfl)
theorem gm_383 : (.lays "LongMachineModel" "LongMachineModel" "value" "J" : Cond) ∈ vG := vG9_in _ (List.mem_of_getElem? (i := 23) rfl)
theorem gm_384 : (.lays "LongMachineModel" "LongMachineModel" "table" "I" : Cond) ∈ vG := vG9_in _ (List.mem_of_getElem? (i := 24) rfl)
theorem gm_385 : (.lays "LongMachineModel" "LongMachineModel" "space" "I" : Cond) ∈ vG := vG9_in _ (List.mem_of_getElem? (i := 25) rfl)
theorem gm_386 : (.laysFinal "LongMachineModel" "LongMachineModel" "vector" "[J" : Cond) ∈ vG := vG9_in _ (List.mem_of_getElem? (i := 26) rfl)
theorem gm_387 : (.lays "LongMachineModel" "LongMachineModel" "halted" "I" : Cond) ∈ vG := vG9_in _ (List.mem_of_getElem? (i := 27) rfl)
theorem gm_388 : (.lays "LongMachineModel" "LongMachineModel" "entries" "I" : Cond) ∈ vG := vG9_in _ (List.mem_of_getElem? (i := 28) rfl)
theorem gm_389 : (.lays "LongMachineModel" "LongMachineModel" "pending" "I" : Cond) ∈ vG := vG9_in _ (List.mem_of_getElem? (i := 29) rfl)
theorem gm_390 : (.laysFinal "LongMachineModel" "LongMachineModel" "pendingLevel" "[I" : Cond) ∈ vG := vG9_in _ (List.mem_of_getElem? (i := 30) rfl)
theorem gm_391 : (.laysFinal "LongMachineModel" "LongMachineModel" "pendingNumber" "[I" : Cond) ∈ vG := vG9_in _ (List.mem_of_getElem? (i := 31) rfl)
theorem gm_392 : (.lays "LongMachineModel" "LongMachineModel" "buffered" "I" : Cond) ∈ vG := vG9_in _ (List.mem_of_getElem? (i := 32) rfl)
theorem gm_393 : (.laysFinal "LongMachineModel" "LongMachineModel" "bufferPage" "[I" : Cond) ∈ vG := vG9_in _ (List.mem_of_getElem? (i := 33) rfl)
theorem gm_394 : (.laysFinal "LongMachineModel" "LongMachineModel" "bufferSpace" "[I" : Cond) ∈ vG := vG9_in _ (List.mem_of_getElem? (i := 34) rfl)
theorem gm_395 : (.laysFinal "LongMachineModel" "LongMachineModel" "bufferWord" "[J" : Cond) ∈ vG := vG9_in _ (List.mem_of_getElem? (i := 35) rfl)
theorem gm_396 : (.lays "LongMachineModel" "LongMachineModel" "here" "J" : Cond) ∈ vG := vG9_in _ (List.mem_of_getElem? (i := 36) rfl)
theorem gm_397 : (.lays "LongMachineModel" "LongMachineModel" "word" "I" : Cond) ∈ vG := vG9_in _ (List.mem_of_getElem? (i := 37) rfl)
theorem gm_398 : (.lays "LongMachineModel" "LongMachineModel" "has" "Z" : Cond) ∈ vG := vG9_in _ (List.mem_of_getElem? (i := 38) rfl)
theorem gm_399 : (.lays "LongMachineModel" "LongMachineModel" "trap" "Z" : Cond) ∈ vG := vG9_in _ (List.mem_of_getElem? (i := 39) rfl)
theorem gm_400 : (.lays "LongMachineModel" "LongMachineModel" "none" "Z" : Cond) ∈ vG := vG10_in _ (List.mem_of_getElem? (i := 0) rfl)
theorem gm_401 : (.laysFinal "LongMachineModel" "LongMachineModel" "six" "[J" : Cond) ∈ vG := vG10_in _ (List.mem_of_getElem? (i := 1) rfl)
theorem gm_402 : (.methodLink "LongMachineLaw" 33 yY_run : Cond) ∈ vG := vG10_in _ (List.mem_of_getElem? (i := 2) rfl)
theorem gm_403 : (.instanceMethod yY_run : Cond) ∈ vG := vG10_in _ (List.mem_of_getElem? (i := 3) rfl)
theorem gm_404 : (.selects "LongMachineModel" yY_run yY_run : Cond) ∈ vG := vG10_in _ (List.mem_of_getElem? (i := 4) rfl)
theorem gm_405 : (.code yY_run cY_run 3 (some .int) : Cond) ∈ vG := vG10_in _ (List.mem_of_getElem? (i := 5) rfl)
theorem gm_406 : (.methodLink "LongMachineModel" 245 yY_step : Cond) ∈ vG := vG10_in _ (List.mem_of_getElem? (i := 6) rfl)
theorem gm_407 : (.instanceMethod yY_step : Cond) ∈ vG := vG10_in _ (List.mem_of_getElem? (i := 7) rfl)
theorem gm_408 : (.code yY_step cY_step 6 none : Cond) ∈ vG := vG10_in _ (List.mem_of_getElem? (i := 8) rfl)
theorem gm_409 : (.methodLink "LongMachineModel" 224 yY_due : Cond) ∈ vG := vG10_in _ (List.mem_of_getElem? (i := 9) rfl)
theorem gm_410 : (.instanceMethod yY_due : Cond) ∈ vG := vG10_in _ (List.mem_of_getElem? (i := 10) rfl)
theorem gm_411 : (.code yY_due cY_due 3 (some .int) : Cond) ∈ vG := vG10_in _ (List.mem_of_getElem? (i := 11) rfl)
theorem gm_412 : (.methodLink "LongMachineModel" 228 yY_interrupted : Cond) ∈ vG := vG10_in _ (List.mem_of_getElem? (i := 12) rfl)
theorem gm_413 : (.instanceMethod yY_interrupted : Cond) ∈ vG := vG10_in _ (List.mem_of_getElem? (i := 13) rfl)
theorem gm_414 : (.code yY_interrupted cY_interrupted 5 none : Cond) ∈ vG := vG10_in _ (List.mem_of_getElem? (i := 14) rfl)
theorem gm_415 : (.methodLink "LongMachineModel" 125 yY_entry : Cond) ∈ vG := vG10_in _ (List.mem_of_getElem? (i := 15) rfl)
theorem gm_416 : (.instanceMethod yY_entry : Cond) ∈ vG := vG10_in _ (List.mem_of_getElem? (i := 16) rfl)
theorem gm_417 : (.code yY_entry cY_entry 14 none : Cond) ∈ vG := vG10_in _ (List.mem_of_getElem? (i := 17) rfl)
theorem gm_418 : (.constantLong "LongMachineModel" 94 8 : Cond) ∈ vG := vG10_in _ (List.mem_of_getElem? (i := 18) rfl)
theorem gm_419 : (.constantLong "LongMachineModel" 96 48 : Cond) ∈ vG := vG10_in _ (List.mem_of_getElem? (i := 19) rfl)
theorem gm_420 : (.methodLink "LongMachineModel" 98 yY_translate : Cond) ∈ vG := vG10_in _ (List.mem_of_getElem? (i := 20) rfl)
theorem gm_421 : (.instanceMethod yY_translate : Cond) ∈ vG := vG10_in _ (List.mem_of_getElem? (i := 21) rfl)
theorem gm_422 : (.code yY_translate cY_translate 11 (some .int) : Cond) ∈ vG := vG10_in _ (List.mem_of_getElem? (i := 22) rfl)
theorem gm_423 : (.constantLong "LongMachineModel" 69 65535 : Cond) ∈ vG := vG10_in _ (List.mem_of_getElem? (i := 23) rfl)
theorem gm_424 : (.constantLong "LongMachineModel" 71 16383 : Cond) ∈ vG := vG10_in _ (List.mem_of_getElem? (i := 24) rfl)
theorem gm_425 : (.constantLong "LongMachineModel" 73 32768 : Cond) ∈ vG := vG10_in _ (List.mem_of_getElem? (i := 25) rfl)
theorem gm_426 : (.constant "LongMachineModel" 75 36864 : Cond) ∈ vG := vG10_in _ (List.mem_of_getElem? (i := 26) rfl)
theorem gm_427 : (.constant "LongMachineModel" 79 32768 : Cond) ∈ vG := vG10_in _ (List.mem_of_getElem? (i := 27) rfl)
theorem gm_428 : (.methodLink "LongMachineModel" 80 yY_buffered : Cond) ∈ vG := vG10_in _ (List.mem_of_getElem? (i := 28) rfl)
theorem gm_429 : (.instanceMethod yY_buffered : Cond) ∈ vG := vG10_in _ (List.mem_of_getElem? (i := 29) rfl)
theorem gm_430 : (.code yY_buffered cY_buffered 3 (some .int) : Cond) ∈ vG := vG10_in _ (List.mem_of_getElem? (i := 30) rfl)
theorem gm_431 : (.methodLink "LongMachineModel" 83 yY_walk : Cond) ∈ vG := vG10_in _ (List.mem_of_getElem? (i := 31) rfl)
theorem gm_432 : (.instanceMethod yY_walk : Cond) ∈ vG := vG10_in _ (List.mem_of_getElem? (i := 32) rfl)
theorem gm_433 : (.code yY_walk cY_walk 6 (some .long) : Cond) ∈ vG := vG10_in _ (List.mem_of_getElem? (i := 33) rfl)
theorem gm_434 : (.methodLink "LongMachineModel" 55 yY_bytes : Cond) ∈ vG := vG10_in _ (List.mem_of_getElem? (i := 34) rfl)
theorem gm_435 : (.instanceMethod yY_bytes : Cond) ∈ vG := vG10_in _ (List.mem_of_getElem? (i := 35) rfl)
theorem gm_436 : (.code yY_bytes cY_bytes 6 (some .long) : Cond) ∈ vG := vG10_in _ (List.mem_of_getElem? (i := 36) rfl)
theorem gm_437 : (.constantLong "LongMachineModel" 59 240 : Cond) ∈ vG := vG10_in _ (List.mem_of_getElem? (i := 37) rfl)
theorem gm_438 : (.methodLink "LongMachineModel" 61 yY_number : Cond) ∈ vG := vG10_in _ (List.mem_of_getElem? (i := 38) rfl)
theorem gm_439 : (.static yY_number : Cond) ∈ vG := vG10_in _ (List.mem_of_getElem? (i := 39) rfl)
theorem gm_440 : (.code yY_number cY_number 2 (some .int) : Cond) ∈ vG := vG11_in _ (List.mem_of_getElem? (i := 0) rfl)
theorem gm_441 : (.constantLong "LongMachineModel" 50 15 : Cond) ∈ vG := vG11_in _ (List.mem_of_getElem? (i := 1) rfl)
theorem gm_442 : (.methodLink "LongMachineModel" 65 yY_keep : Cond) ∈ vG := vG11_in _ (List.mem_of_getElem? (i := 2) rfl)
theorem gm_443 : (.instanceMethod yY_keep : Cond) ∈ vG := vG11_in _ (List.mem_of_getElem? (i := 3) rfl)
theorem gm_444 : (.code yY_keep cY_keep 5 none : Cond) ∈ vG := vG11_in _ (List.mem_of_getElem? (i := 4) rfl)
theorem gm_445 : (.methodLink "LongMachineModel" 102 yY_store : Cond) ∈ vG := vG11_in _ (List.mem_of_getElem? (i := 5) rfl)
theorem gm_446 : (.instanceMethod yY_store : Cond) ∈ vG := vG11_in _ (List.mem_of_getElem? (i := 6) rfl)
theorem gm_447 : (.code yY_store cY_store 6 none : Cond) ∈ vG := vG11_in _ (List.mem_of_getElem? (i := 7) rfl)
theorem gm_448 : (.constantLong "LongMachineModel" 42 255 : Cond) ∈ vG := vG11_in _ (List.mem_of_getElem? (i := 8) rfl)
theorem gm_449 : (.methodLink "LongMachineModel" 196 yY_fault : Cond) ∈ vG := vG11_in _ (List.mem_of_getElem? (i := 9) rfl)
theorem gm_450 : (.instanceMethod yY_fault : Cond) ∈ vG := vG11_in _ (List.mem_of_getElem? (i := 10) rfl)
theorem gm_451 : (.code yY_fault cY_fault 5 none : Cond) ∈ vG := vG11_in _ (List.mem_of_getElem? (i := 11) rfl)
theorem gm_452 : (.constantLong "LongMachineModel" 133 4 : Cond) ∈ vG := vG11_in _ (List.mem_of_getElem? (i := 12) rfl)
theorem gm_453 : (.methodLink "LongMachineModel" 231 yY_call : Cond) ∈ vG := vG11_in _ (List.mem_of_getElem? (i := 13) rfl)
theorem gm_454 : (.instanceMethod yY_call : Cond) ∈ vG := vG11_in _ (List.mem_of_getElem? (i := 14) rfl)
theorem gm_455 : (.code yY_call cY_call 3 none : Cond) ∈ vG := vG11_in _ (List.mem_of_getElem? (i := 15) rfl)
theorem gm_456 : (.constantLong "LongMachineModel" 204 2 : Cond) ∈ vG := vG11_in _ (List.mem_of_getElem? (i := 16) rfl)
theorem gm_457 : (.methodLink "LongMachineModel" 187 yY_wrong : Cond) ∈ vG := vG11_in _ (List.mem_of_getElem? (i := 17) rfl)
theorem gm_458 : (.instanceMethod yY_wrong : Cond) ∈ vG := vG11_in _ (List.mem_of_getElem? (i := 18) rfl)
theorem gm_459 : (.code yY_wrong cY_wrong 2 none : Cond) ∈ vG := vG11_in _ (List.mem_of_getElem? (i := 19) rfl)
theorem gm_460 : (.methodLink "LongMachineModel" 206 yY_own : Cond) ∈ vG := vG11_in _ (List.mem_of_getElem? (i := 20) rfl)
theorem gm_461 : (.instanceMethod yY_own : Cond) ∈ vG := vG11_in _ (List.mem_of_getElem? (i := 21) rfl)
theorem gm_462 : (.code yY_own cY_own 4 none : Cond) ∈ vG := vG11_in _ (List.mem_of_getElem? (i := 22) rfl)
theorem gm_463 : (.methodLink "LongMachineModel" 209 yY_back : Cond) ∈ vG := vG11_in _ (List.mem_of_getElem? (i := 23) rfl)
theorem gm_464 : (.instanceMethod yY_back : Cond) ∈ vG := vG11_in _ (List.mem_of_getElem? (i := 24) rfl)
theorem gm_465 : (.code yY_back cY_back 4 none : Cond) ∈ vG := vG11_in _ (List.mem_of_getElem? (i := 25) rfl)
theorem gm_466 : (.constantLong "LongMachineModel" 154 7 : Cond) ∈ vG := vG11_in _ (List.mem_of_getElem? (i := 26) rfl)
theorem gm_467 : (.constantLong "LongMachineModel" 214 (-4) : Cond) ∈ vG := vG11_in _ (List.mem_of_getElem? (i := 27) rfl)
theorem gm_468 : (.constantLong "LongMachineModel" 212 6 : Cond) ∈ vG := vG11_in _ (List.mem_of_getElem? (i := 28) rfl)
theorem gm_469 : (.constantLong "LongMachineModel" 219 4064 : Cond) ∈ vG := vG11_in _ (List.mem_of_getElem? (i := 29) rfl)
theorem gm_470 : (.methodLink "LongMachineModel" 234 yY_operate : Cond) ∈ vG := vG11_in _ (List.mem_of_getElem? (i := 30) rfl)
theorem gm_471 : (.instanceMethod yY_operate : Cond) ∈ vG := vG11_in _ (List.mem_of_getElem? (i := 31) rfl)
theorem gm_472 : (.code yY_operate cY_operate 9 none : Cond) ∈ vG := vG11_in _ (List.mem_of_getElem? (i := 32) rfl)
theorem gm_473 : (.methodLink "LongMachineModel" 174 yY_sums : Cond) ∈ vG := vG11_in _ (List.mem_of_getElem? (i := 33) rfl)
theorem gm_474 : (.instanceMethod yY_sums : Cond) ∈ vG := vG11_in _ (List.mem_of_getElem? (i := 34) rfl)
theorem gm_475 : (.code yY_sums cY_sums 9 (some .long) : Cond) ∈ vG := vG11_in _ (List.mem_of_getElem? (i := 35) rfl)
theorem gm_476 : (.methodLink "LongMachineModel" 129 yY_sx : Cond) ∈ vG := vG11_in _ (List.mem_of_getElem? (i := 36) rfl)
theorem gm_477 : (.static yY_sx : Cond) ∈ vG := vG11_in _ (List.mem_of_getElem? (i := 37) rfl)
theorem gm_478 : (.code yY_sx cY_sx 2 (some .long) : Cond) ∈ vG := vG11_in _ (List.mem_of_getElem? (i := 38) rfl)
theorem gm_479 : (.methodLink "LongMachineModel" 135 yY_is : Cond) ∈ vG := vG11_in _ (List.mem_of_getElem? (i := 39) rfl)
theorem gm_480 : (.static yY_is : Cond) ∈ vG := vG12_in _ (List.mem_of_getElem? (i := 0) rfl)
theorem gm_481 : (.code yY_is cY_is 1 (some .long) : Cond) ∈ vG := vG12_in _ (List.mem_of_getElem? (i := 1) rfl)
theorem gm_482 : (.methodLink "LongMachineModel" 139 yY_less : Cond) ∈ vG := vG12_in _ (List.mem_of_getElem? (i := 2) rfl)
theorem gm_483 : (.static yY_less : Cond) ∈ vG := vG12_in _ (List.mem_of_getElem? (i := 3) rfl)
theorem gm_484 : (.code yY_less cY_less 4 (some .boolean) : Cond) ∈ vG := vG12_in _ (List.mem_of_getElem? (i := 4) rfl)
theorem gm_485 : (.methodLink "LongMachineModel" 178 yY_bits : Cond) ∈ vG := vG12_in _ (List.mem_of_getElem? (i := 5) rfl)
theorem gm_486 : (.instanceMethod yY_bits : Cond) ∈ vG := vG12_in _ (List.mem_of_getElem? (i := 6) rfl)
theorem gm_487 : (.code yY_bits cY_bits 6 (some .long) : Cond) ∈ vG := vG12_in _ (List.mem_of_getElem? (i := 7) rfl)
theorem gm_488 : (.constantLong "LongMachineModel" 149 (-1) : Cond) ∈ vG := vG12_in _ (List.mem_of_getElem? (i := 8) rfl)
theorem gm_489 : (.methodLink "LongMachineModel" 181 yY_parts : Cond) ∈ vG := vG12_in _ (List.mem_of_getElem? (i := 9) rfl)
theorem gm_490 : (.instanceMethod yY_parts : Cond) ∈ vG := vG12_in _ (List.mem_of_getElem? (i := 10) rfl)
theorem gm_491 : (.code yY_parts cY_parts 13 (some .long) : Cond) ∈ vG := vG12_in _ (List.mem_of_getElem? (i := 11) rfl)
theorem gm_492 : (.methodLink "LongMachineModel" 156 yY_lowest : Cond) ∈ vG := vG12_in _ (List.mem_of_getElem? (i := 12) rfl)
theorem gm_493 : (.static yY_lowest : Cond) ∈ vG := vG12_in _ (List.mem_of_getElem? (i := 13) rfl)
theorem gm_494 : (.code yY_lowest cY_lowest 1 (some .long) : Cond) ∈ vG := vG12_in _ (List.mem_of_getElem? (i := 14) rfl)
theorem gm_495 : (.constantLong "LongMachineModel" 159 63 : Cond) ∈ vG := vG12_in _ (List.mem_of_getElem? (i := 15) rfl)
theorem gm_496 : (.methodLink "LongMachineModel" 161 yY_zapped : Cond) ∈ vG := vG12_in _ (List.mem_of_getElem? (i := 16) rfl)
theorem gm_497 : (.static yY_zapped : Cond) ∈ vG := vG12_in _ (List.mem_of_getElem? (i := 17) rfl)
theorem gm_498 : (.code yY_zapped cY_zapped 9 (some .long) : Cond) ∈ vG := vG12_in _ (List.mem_of_getElem? (i := 18) rfl)
theorem gm_499 : (.methodLink "LongMachineModel" 184 yY_products : Cond) ∈ vG := vG12_in _ (List.mem_of_getElem? (i := 19) rfl)
theorem gm_500 : (.instanceMethod yY_products : Cond) ∈ vG := vG12_in _ (List.mem_of_getElem? (i := 20) rfl)
theorem gm_501 : (.code yY_products cY_products 10 (some .long) : Cond) ∈ vG := vG12_in _ (List.mem_of_getElem? (i := 21) rfl)
theorem gm_502 : (.methodLink "LongMachineModel" 167 yY_upper : Cond) ∈ vG := vG12_in _ (List.mem_of_getElem? (i := 22) rfl)
theorem gm_503 : (.static yY_upper : Cond) ∈ vG := vG12_in _ (List.mem_of_getElem? (i := 23) rfl)
theorem gm_504 : (.code yY_upper cY_upper 18 (some .long) : Cond) ∈ vG := vG12_in _ (List.mem_of_getElem? (i := 24) rfl)
theorem gm_505 : (.constantLong "LongMachineModel" 165 4294967295 : Cond) ∈ vG := vG12_in _ (List.mem_of_getElem? (i := 25) rfl)
theorem gm_506 : (.methodLink "LongMachineModel" 191 yY_give : Cond) ∈ vG := vG12_in _ (List.mem_of_getElem? (i := 26) rfl)
theorem gm_507 : (.instanceMethod yY_give : Cond) ∈ vG := vG12_in _ (List.mem_of_getElem? (i := 27) rfl)
theorem gm_508 : (.code yY_give cY_give 4 none : Cond) ∈ vG := vG12_in _ (List.mem_of_getElem? (i := 28) rfl)
theorem gm_509 : (.constantLong "LongMachineModel" 237 65536 : Cond) ∈ vG := vG12_in _ (List.mem_of_getElem? (i := 29) rfl)
theorem gm_510 : (.methodLink "LongMachineModel" 239 yY_move : Cond) ∈ vG := vG12_in _ (List.mem_of_getElem? (i := 30) rfl)
theorem gm_511 : (.instanceMethod yY_move : Cond) ∈ vG := vG12_in _ (List.mem_of_getElem? (i := 31) rfl)
theorem gm_512 : (.code yY_move cY_move 12 none : Cond) ∈ vG := vG12_in _ (List.mem_of_getElem? (i := 32) rfl)
theorem gm_513 : (.constantLong "LongMachineModel" 194 (-8) : Cond) ∈ vG := vG12_in _ (List.mem_of_getElem? (i := 33) rfl)
theorem gm_514 : (.methodLink "LongMachineModel" 242 yY_branch : Cond) ∈ vG := vG12_in _ (List.mem_of_getElem? (i := 34) rfl)
theorem gm_515 : (.instanceMethod yY_branch : Cond) ∈ vG := vG12_in _ (List.mem_of_getElem? (i := 35) rfl)
theorem gm_516 : (.code yY_branch cY_branch 6 none : Cond) ∈ vG := vG12_in _ (List.mem_of_getElem? (i := 36) rfl)
theorem gm_517 : (.methodLink "LongMachineModel" 200 yY_meets : Cond) ∈ vG := vG12_in _ (List.mem_of_getElem? (i := 37) rfl)
theorem gm_518 : (.static yY_meets : Cond) ∈ vG := vG12_in _ (List.mem_of_getElem? (i := 38) rfl)
theorem gm_519 : (.code yY_meets cY_meets 3 (some .boolean) : Cond) ∈ vG := vG12_in _ (List.mem_of_getElem? (i := 39) rfl)
theorem gm_520 : (.methodLink "LongMachineLaw" 19 yY_set : Cond) ∈ vG := vG13_in _ (List.mem_of_getElem? (i := 0) rfl)
theorem gm_521 : (.instanceMethod yY_set : Cond) ∈ vG := vG13_in _ (List.mem_of_getElem? (i := 1) rfl)
theorem gm_522 : (.selects "LongMachineModel" yY_set yY_set : Cond) ∈ vG := vG13_in _ (List.mem_of_getElem? (i := 2) rfl)
theorem gm_523 : (.code yY_set cY_set 4 (some .boolean) : Cond) ∈ vG := vG13_in _ (List.mem_of_getElem? (i := 3) rfl)
theorem gm_524 : (.methodLink "LongMachineModel" 248 yY_isPlace : Cond) ∈ vG := vG13_in _ (List.mem_of_getElem? (i := 4) rfl)
theorem gm_525 : (.static yY_isPlace : Cond) ∈ vG := vG13_in _ (List.mem_of_getElem? (i := 5) rfl)
theorem gm_526 : (.code yY_isPlace cY_isPlace 1 (some .boolean) : Cond) ∈ vG := vG13_in _ (List.mem_of_getElem? (i := 6) rfl)
theorem gm_527 : (.methodLink "LongMachineLaw" 23 yY_put : Cond) ∈ vG := vG13_in _ (List.mem_of_getElem? (i := 7) rfl)
theorem gm_528 : (.instanceMethod yY_put : Cond) ∈ vG := vG13_in _ (List.mem_of_getElem? (i := 8) rfl)
theorem gm_529 : (.selects "LongMachineModel" yY_put yY_put : Cond) ∈ vG := vG13_in _ (List.mem_of_getElem? (i := 9) rfl)
theorem gm_530 : (.code yY_put cY_put 4 (some .boolean) : Cond) ∈ vG := vG13_in _ (List.mem_of_getElem? (i := 10) rfl)
theorem gm_531 : (.methodLink "LongMachineLaw" 28 yY_interrupt : Cond) ∈ vG := vG13_in _ (List.mem_of_getElem? (i := 11) rfl)
theorem gm_532 : (.instanceMethod yY_interrupt : Cond) ∈ vG := vG13_in _ (List.mem_of_getElem? (i := 12) rfl)
theorem gm_533 : (.selects "LongMachineModel" yY_interrupt yY_interrupt : Cond) ∈ vG := vG13_in _ (List.mem_of_getElem? (i := 13) rfl)
theorem gm_534 : (.code yY_interrupt cY_interrupt 3 (some .boolean) : Cond) ∈ vG := vG13_in _ (List.mem_of_getElem? (i := 14) rfl)
theorem gm_535 : (.methodLink "LongMachineLaw" 38 yY_register : Cond) ∈ vG := vG13_in _ (List.mem_of_getElem? (i := 15) rfl)
theorem gm_536 : (.instanceMethod yY_register : Cond) ∈ vG := vG13_in _ (List.mem_of_getElem? (i := 16) rfl)
theorem gm_537 : (.selects "LongMachineModel" yY_register yY_register : Cond) ∈ vG := vG13_in _ (List.mem_of_getElem? (i := 17) rfl)
theorem gm_538 : (.code yY_register cY_register 2 (some .long) : Cond) ∈ vG := vG13_in _ (List.mem_of_getElem? (i := 18) rfl)
theorem gm_539 : (.methodLink "LongMachineLaw" 42 yY_word : Cond) ∈ vG := vG13_in _ (List.mem_of_getElem? (i := 19) rfl)
theorem gm_540 : (.instanceMethod yY_word : Cond) ∈ vG := vG13_in _ (List.mem_of_getElem? (i := 20) rfl)
theorem gm_541 : (.selects "LongMachineModel" yY_word yY_word : Cond) ∈ vG := vG13_in _ (List.mem_of_getElem? (i := 21) rfl)
theorem gm_542 : (.code yY_word cY_word 2 (some .long) : Cond) ∈ vG := vG13_in _ (List.mem_of_getElem? (i := 22) rfl)
theorem gm_543 : (.methodLink "LongMachineLaw" 46 yY_state : Cond) ∈ vG := vG13_in _ (List.mem_of_getElem? (i := 23) rfl)
theorem gm_544 : (.instanceMethod yY_state : Cond) ∈ vG := vG13_in _ (List.mem_of_getElem? (i := 24) rfl)
theorem gm_545 : (.selects "LongMachineModel" yY_state yY_state : Cond) ∈ vG := vG13_in _ (List.mem_of_getElem? (i := 25) rfl)
theorem gm_546 : (.code yY_state cY_state 2 (some .int) : Cond) ∈ vG := vG13_in _ (List.mem_of_getElem? (i := 26) rfl)
theorem gm_547 : (.constantLong "LongMachineLaw" 13 4294967295 : Cond) ∈ vG := vG13_in _ (List.mem_of_getElem? (i := 27) rfl)
theorem gm_548 : (.selects "LongMachine" yX4_write yX4_write : Cond) ∈ vG := vG13_in _ (List.mem_of_getElem? (i := 28) rfl)
theorem gm_549 : (.selects "LongMachine" yX4_step yX4_step : Cond) ∈ vG := vG13_in _ (List.mem_of_getElem? (i := 29) rfl)
theorem gm_550 : (.selects "LongMachine$Interrupts" yX1_remove yX1_remove : Cond) ∈ vG := vG13_in _ (List.mem_of_getElem? (i := 30) rfl)
theorem gm_551 : (.selects "LongMachine$Memory" yX2_find yX2_find : Cond) ∈ vG := vG13_in _ (List.mem_of_getElem? (i := 31) rfl)
theorem gm_552 : (.selects "LongMachine$Memory" yX2_walk yX2_walk : Cond) ∈ vG := vG13_in _ (List.mem_of_getElem? (i := 32) rfl)
theorem gm_553 : (.selects "LongMachine$Memory" yX2_keep yX2_keep : Cond) ∈ vG := vG13_in _ (List.mem_of_getElem? (i := 33) rfl)
theorem gm_554 : (.selects "LongMachine" yX4_execute yX4_execute : Cond) ∈ vG := vG13_in _ (List.mem_of_getElem? (i := 34) rfl)
theorem gm_555 : (.selects "LongMachine" yX4_call yX4_call : Cond) ∈ vG := vG13_in _ (List.mem_of_getElem? (i := 35) rfl)
theorem gm_556 : (.selects "LongMachine" yX4_refuse yX4_refuse : Cond) ∈ vG := vG13_in _ (List.mem_of_getElem? (i := 36) rfl)
theorem gm_557 : (.selects "LongMachine" yX4_kernelCall yX4_kernelCall : Cond) ∈ vG := vG13_in _ (List.mem_of_getElem? (i := 37) rfl)
theorem gm_558 : (.selects "LongMachine" yX4_changeSpace yX4_changeSpace : Cond) ∈ vG := vG13_in _ (List.mem_of_getElem? (i := 38) rfl)
theorem gm_559 : (.selects "LongMachine" yX4_changeVector yX4_changeVector : Cond) ∈ vG := vG13_in _ (List.mem_of_getElem? (i := 39) rfl)
theorem gm_560 : (.selects "LongMachine" yX4_status yX4_status : Cond) ∈ vG := vG14_in _ (List.mem_of_getElem? (i := 0) rfl)
theorem gm_561 : (.selects "LongMachine" yX4_reach yX4_reach : Cond) ∈ vG := vG14_in _ (List.mem_of_getElem? (i := 1) rfl)
theorem gm_562 : (.selects "LongMachine" yX4_operate yX4_operate : Cond) ∈ vG := vG14_in _ (List.mem_of_getElem? (i := 2) rfl)
theorem gm_563 : (.selects "LongMachine$Operation" yX3_add yX3_add : Cond) ∈ vG := vG14_in _ (List.mem_of_getElem? (i := 3) rfl)
theorem gm_564 : (.selects "LongMachine$Operation" yX3_trapIf yX3_trapIf : Cond) ∈ vG := vG14_in _ (List.mem_of_getElem? (i := 4) rfl)
theorem gm_565 : (.selects "LongMachine$Operation" yX3_combine yX3_combine : Cond) ∈ vG := vG14_in _ (List.mem_of_getElem? (i := 5) rfl)
theorem gm_566 : (.selects "LongMachine$Operation" yX3_onlyIf yX3_onlyIf : Cond) ∈ vG := vG14_in _ (List.mem_of_getElem? (i := 6) rfl)
theorem gm_567 : (.selects "LongMachine$Operation" yX3_shift yX3_shift : Cond) ∈ vG := vG14_in _ (List.mem_of_getElem? (i := 7) rfl)
theorem gm_568 : (.selects "LongMachine$Operation" yX3_lowPart yX3_lowPart : Cond) ∈ vG := vG14_in _ (List.mem_of_getElem? (i := 8) rfl)
theorem gm_569 : (.selects "LongMachine$Operation" yX3_highPart yX3_highPart : Cond) ∈ vG := vG14_in _ (List.mem_of_getElem? (i := 9) rfl)
theorem gm_570 : (.selects "LongMachine$Operation" yX3_multiply yX3_multiply : Cond) ∈ vG := vG14_in _ (List.mem_of_getElem? (i := 10) rfl)
theorem gm_571 : (.selects "LongMachine" yX4_branch yX4_branch : Cond) ∈ vG := vG14_in _ (List.mem_of_getElem? (i := 11) rfl)
theorem gm_572 : (.selects "LongMachine" yX4_enter yX4_enter : Cond) ∈ vG := vG14_in _ (List.mem_of_getElem? (i := 12) rfl)
theorem gm_573 : (.selects "LongMachine" yX4_fillFrame yX4_fillFrame : Cond) ∈ vG := vG14_in _ (List.mem_of_getElem? (i := 13) rfl)
theorem gm_574 : (.selects "LongMachine" yX4_moveFrame yX4_moveFrame : Cond) ∈ vG := vG14_in _ (List.mem_of_getElem? (i := 14) rfl)
theorem gm_575 : (.selects "LongMachine" yX4_comeBack yX4_comeBack : Cond) ∈ vG := vG14_in _ (List.mem_of_getElem? (i := 15) rfl)
theorem gm_576 : (.selects "LongMachineModel" yY_step yY_step : Cond) ∈ vG := vG14_in _ (List.mem_of_getElem? (i := 16) rfl)
theorem gm_577 : (.selects "LongMachineModel" yY_due yY_due : Cond) ∈ vG := vG14_in _ (List.mem_of_getElem? (i := 17) rfl)
theorem gm_578 : (.selects "LongMachineModel" yY_interrupted yY_interrupted : Cond) ∈ vG := vG14_in _ (List.mem_of_getElem? (i := 18) rfl)
theorem gm_579 : (.selects "LongMachineModel" yY_entry yY_entry : Cond) ∈ vG := vG14_in _ (List.mem_of_getElem? (i := 19) rfl)
theorem gm_580 : (.selects "LongMachineModel" yY_translate yY_translate : Cond) ∈ vG := vG14_in _ (List.mem_of_getElem? (i := 20) rfl)
theorem gm_581 : (.selects "LongMachineModel" yY_buffered yY_buffered : Cond) ∈ vG := vG14_in _ (List.mem_of_getElem? (i := 21) rfl)
theorem gm_582 : (.selects "LongMachineModel" yY_walk yY_walk : Cond) ∈ vG := vG14_in _ (List.mem_of_getElem? (i := 22) rfl)
theorem gm_583 : (.selects "LongMachineModel" yY_bytes yY_bytes : Cond) ∈ vG := vG14_in _ (List.mem_of_getElem? (i := 23) rfl)
theorem gm_584 : (.selects "LongMachineModel" yY_keep yY_keep : Cond) ∈ vG := vG14_in _ (List.mem_of_getElem? (i := 24) rfl)
theorem gm_585 : (.selects "LongMachineModel" yY_store yY_store : Cond) ∈ vG := vG14_in _ (List.mem_of_getElem? (i := 25) rfl)
theorem gm_586 : (.selects "LongMachineModel" yY_fault yY_fault : Cond) ∈ vG := vG14_in _ (List.mem_of_getElem? (i := 26) rfl)
theorem gm_587 : (.selects "LongMachineModel" yY_call yY_call : Cond) ∈ vG := vG14_in _ (List.mem_of_getElem? (i := 27) rfl)
theorem gm_588 : (.selects "LongMachineModel" yY_wrong yY_wrong : Cond) ∈ vG := vG14_in _ (List.mem_of_getElem? (i := 28) rfl)
theorem gm_589 : (.selects "LongMachineModel" yY_own yY_own : Cond) ∈ vG := vG14_in _ (List.mem_of_getElem? (i := 29) rfl)
theorem gm_590 : (.selects "LongMachineModel" yY_back yY_back : Cond) ∈ vG := vG14_in _ (List.mem_of_getElem? (i := 30) rfl)
theorem gm_591 : (.selects "LongMachineModel" yY_operate yY_operate : Cond) ∈ vG := vG14_in _ (List.mem_of_getElem? (i := 31) rfl)
theorem gm_592 : (.selects "LongMachineModel" yY_sums yY_sums : Cond) ∈ vG := vG14_in _ (List.mem_of_getElem? (i := 32) rfl)
theorem gm_593 : (.selects "LongMachineModel" yY_bits yY_bits : Cond) ∈ vG := vG14_in _ (List.mem_of_getElem? (i := 33) rfl)
theorem gm_594 : (.selects "LongMachineModel" yY_parts yY_parts : Cond) ∈ vG := vG14_in _ (List.mem_of_getElem? (i := 34) rfl)
theorem gm_595 : (.selects "LongMachineModel" yY_products yY_products : Cond) ∈ vG := vG14_in _ (List.mem_of_getElem? (i := 35) rfl)
theorem gm_596 : (.selects "LongMachineModel" yY_give yY_give : Cond) ∈ vG := vG14_in _ (List.mem_of_getElem? (i := 36) rfl)
theorem gm_597 : (.selects "LongMachineModel" yY_move yY_move : Cond) ∈ vG := vG14_in _ (List.mem_of_getElem? (i := 37) rfl)
theorem gm_598 : (.selects "LongMachineModel" yY_branch yY_branch : Cond) ∈ vG := vG14_in _ (List.mem_of_getElem? (i := 38) rfl)
theorem gd_I {c1 : Cond} (h1 : c1 ∈ vG) : GoodIn vG (c1 :: vG) := fun w hw => (List.mem_cons.mp hw).elim (fun h => by subst h; exact ⟨h1, vG_good _ h1⟩) (fun h => ⟨h, vG_good _ h⟩)
theorem gd_V {c1 : Cond} {own C : String} {idx : Nat} {y : MethodName} (h1 : c1 ∈ vG) (a : Cond.methodLink own idx y ∈ vG) (b : Cond.instanceMethod y ∈ vG) (c : Cond.selects C y y ∈ vG) (d : Cond.initialized C ∈ vG) : GoodIn vG (wsV own idx C y (c1 :: vG)) := by
  intro w hw
  rcases List.mem_append.mp hw with h | h
  · simp only [List.mem_cons, List.not_mem_nil, or_false] at h
    rcases h with rfl | rfl | rfl | rfl
    · exact ⟨a, vG_good _ a⟩
    · exact ⟨b, vG_good _ b⟩
    · exact ⟨c, vG_good _ c⟩
    · exact ⟨d, vG_good _ d⟩
  · exact gd_I h1 w h
theorem gd_S {c1 : Cond} {own : String} {idx : Nat} {y : MethodName} (h1 : c1 ∈ vG) (a : Cond.methodLink own idx y ∈ vG) (b : Cond.static y ∈ vG) (d : Cond.initialized y.cls ∈ vG) : GoodIn vG (va_wsS own idx y (c1 :: vG)) := by
  intro w hw
  rcases List.mem_append.mp hw with h | h
  · simp only [List.mem_cons, List.not_mem_nil, or_false] at h
    rcases h with rfl | rfl | rfl
    · exact ⟨a, vG_good _ a⟩
    · exact ⟨b, vG_good _ b⟩
    · exact ⟨d, vG_good _ d⟩
  · exact gd_I h1 w h
theorem ui_X0 : ∀ w ∈ u_ws "LongMachine$Crossing" TX0 5, w ∈ vG := by
  intro w hw
  obtain ⟨k, hk, rfl⟩ := List.mem_map.mp hw
  have hk := List.mem_range.mp hk
  match k, hk with
  | 0, _ => exact gm_86
  | 1, _ => exact gm_87
  | 2, _ => exact gm_88
  | 3, _ => exact gm_89
  | 4, _ => exact gm_90
  | k + 5, h => exact absurd h (by omega)
theorem ui_X1 : ∀ w ∈ u_ws "LongMachine$Interrupts" TX1 3, w ∈ vG := by
  intro w hw
  obtain ⟨k, hk, rfl⟩ := List.mem_map.mp hw
  have hk := List.mem_range.mp hk
  match k, hk with
  | 0, _ => exact gm_51
  | 1, _ => exact gm_52
  | 2, _ => exact gm_53
  | k + 3, h => exact absurd h (by omega)
theorem ui_X2 : ∀ w ∈ u_ws "LongMachine$Memory" TX2 8, w ∈ vG := by
  intro w hw
  obtain ⟨k, hk, rfl⟩ := List.mem_map.mp hw
  have hk := List.mem_range.mp hk
  match k, hk with
  | 0, _ => exact gm_32
  | 1, _ => exact gm_33
  | 2, _ => exact gm_34
  | 3, _ => exact gm_35
  | 4, _ => exact gm_36
  | 5, _ => exact gm_37
  | 6, _ => exact gm_38
  | 7, _ => exact gm_39
  | k + 8, h => exact absurd h (by omega)
theorem ui_X3 : ∀ w ∈ u_ws "LongMachine$Operation" TX3 4, w ∈ vG := by
  intro w hw
  obtain ⟨k, hk, rfl⟩ := List.mem_map.mp hw
  have hk := List.mem_range.mp hk
  match k, hk with
  | 0, _ => exact gm_67
  | 1, _ => exact gm_68
  | 2, _ => exact gm_69
  | 3, _ => exact gm_70
  | k + 4, h => exact absurd h (by omega)
theorem ui_X4 : ∀ w ∈ u_ws "LongMachine" TX4 17, w ∈ vG := by
  intro w hw
  obtain ⟨k, hk, rfl⟩ := List.mem_map.mp hw
  have hk := List.mem_range.mp hk
  match k, hk with
  | 0, _ => exact gm_108
  | 1, _ => exact gm_109
  | 2, _ => exact gm_110
  | 3, _ => exact gm_111
  | 4, _ => exact gm_112
  | 5, _ => exact gm_113
  | 6, _ => exact gm_114
  | 7, _ => exact gm_115
  | 8, _ => exact gm_116
  | 9, _ => exact gm_117
  | 10, _ => exact gm_118
  | 11, _ => exact gm_119
  | 12, _ => exact gm_120
  | 13, _ => exact gm_121
  | 14, _ => exact gm_122
  | 15, _ => exact gm_123
  | 16, _ => exact gm_124
  | k + 17, h => exact absurd h (by omega)
theorem ui_Y : ∀ w ∈ u_ws "LongMachineModel" TY 28, w ∈ vG := by
  intro w hw
  obtain ⟨k, hk, rfl⟩ := List.mem_map.mp hw
  have hk := List.mem_range.mp hk
  match k, hk with
  | 0, _ => exact gm_374
  | 1, _ => exact gm_375
  | 2, _ => exact gm_376
  | 3, _ => exact gm_377
  | 4, _ => exact gm_378
  | 5, _ => exact gm_379
  | 6, _ => exact gm_380
  | 7, _ => exact gm_381
  | 8, _ => exact gm_382
  | 9, _ => exact gm_383
  | 10, _ => exact gm_384
  | 11, _ => exact gm_385
  | 12, _ => exact gm_386
  | 13, _ => exact gm_387
  | 14, _ => exact gm_388
  | 15, _ => exact gm_389
  | 16, _ => exact gm_390
  | 17, _ => exact gm_391
  | 18, _ => exact gm_392
  | 19, _ => exact gm_393
  | 20, _ => exact gm_394
  | 21, _ => exact gm_395
  | 22, _ => exact gm_396
  | 23, _ => exact gm_397
  | 24, _ => exact gm_398
  | 25, _ => exact gm_399
  | 26, _ => exact gm_400
  | 27, _ => exact gm_401
  | k + 28, h => exact absurd h (by omega)
def wC (cI cJ : ClassId) (qC : Nat) (aVec : Int32) (aA : Int64) (aB : Int64) (aC : Int64) (aPc : Int64) : va_W := [(qC, .inr (0, [.int aVec, .long aA, .long aB, .long aC, .long aPc]))]
def wO (cI cJ : ClassId) (qO : Nat) (oRes : Int64) (oKno : Int32) (oGiv : Int32) (oTrp : Int32) : va_W := [(qO, .inr (3, [.long oRes, .int oKno, .int oGiv, .int oTrp]))]
def wI (cI cJ : ClassId) (qI qIl qIn : Nat) (iCnt : Int32) (iL : (Nat → Int32)) (iN : (Nat → Int32)) : va_W := [(qI, .inr (1, [.ref qIl, .ref qIn, .int iCnt])), (qIl, .inl (cI, 4, .inl iL)), (qIn, .inl (cI, 4, .inl iN))]
def wM (cI cJ : ClassId) (qM qMw qMp qMs qMd : Nat) (mOld : Int32) (mCnt : Int32) (mTab : Int32) (mSpc : Int32) (mW : (Nat → Int64)) (mP : (Nat → Int32)) (mS : (Nat → Int32)) (mD : (Nat → Int64)) : va_W := [(qM, .inr (2, [.ref qMw, .ref qMp, .ref qMs, .ref qMd, .int mOld, .int mCnt, .int mTab, .int mSpc])), (qMw, .inl (cJ, 512, .inr (.inl mW))), (qMp, .inl (cI, 4, .inl mP)), (qMs, .inl (cI, 4, .inl mS)), (qMd, .inl (cJ, 4, .inr (.inl mD)))]
def wX (cI cJ : ClassId) (qX qR qV qF qM qMw qMp qMs qMd qI qIl qIn qO qC : Nat) (xPc : Int64) (xKsp : Int64) (xUsp : Int64) (xKgp : Int64) (xVal : Int64) (xMod : Int32) (xLev : Int32) (xHal : Int32) (xEnt : Int32) (xLoc : Int32) (xR : (Nat → Int64)) (xV : (Nat → Int64)) (xF : (Nat → Int64)) (mOld : Int32) (mCnt : Int32) (mTab : Int32) (mSpc : Int32) (mW : (Nat → Int64)) (mP : (Nat → Int32)) (mS : (Nat → Int32)) (mD : (Nat → Int64)) (iCnt : Int32) (iL : (Nat → Int32)) (iN : (Nat → Int32)) (oRes : Int64) (oKno : Int32) (oGiv : Int32) (oTrp : Int32) (aVec : Int32) (aA : Int64) (aB : Int64) (aC : Int64) (aPc : Int64) : va_W := [(qX, .inr (4, [.ref qM, .ref qR, .ref qV, .ref qF, .ref qI, .ref qO, .ref qC, .long xPc, .long xKsp, .long xUsp, .long xKgp, .long xVal, .int xMod, .int xLev, .int xHal, .int xEnt, .int xLoc])), (qR, .inl (cJ, 32, .inr (.inl xR))), (qV, .inl (cJ, 6, .inr (.inl xV))), (qF, .inl (cJ, 6, .inr (.inl xF))), (qM, .inr (2, [.ref qMw, .ref qMp, .ref qMs, .ref qMd, .int mOld, .int mCnt, .int mTab, .int mSpc])), (qMw, .inl (cJ, 512, .inr (.inl mW))), (qMp, .inl (cI, 4, .inl mP)), (qMs, .inl (cI, 4, .inl mS)), (qMd, .inl (cJ, 4, .inr (.inl mD))), (qI, .inr (1, [.ref qIl, .ref qIn, .int iCnt])), (qIl, .inl (cI, 4, .inl iL)), (qIn, .inl (cI, 4, .inl iN)), (qO, .inr (3, [.long oRes, .int oKno, .int oGiv, .int oTrp])), (qC, .inr (0, [.int aVec, .long aA, .long aB, .long aC, .long aPc]))]
def wY (cI cJ : ClassId) (qY qYm qYr qYv qYl qYn qYp qYs qYw qY6 : Nat) (yPc : Int64) (yMod : Int32) (yLev : Int32) (yLoc : Int32) (yKsp : Int64) (yUsp : Int64) (yKgp : Int64) (yVal : Int64) (yTab : Int32) (ySpc : Int32) (yHal : Int32) (yEnt : Int32) (yPen : Int32) (yBuf : Int32) (yHer : Int64) (yWrd : Int32) (yHas : Int32) (yTrp : Int32) (yNon : Int32) (yMem : (Nat → Int32)) (yR : (Nat → Int64)) (yV : (Nat → Int64)) (yPL : (Nat → Int32)) (yPN : (Nat → Int32)) (yBP : (Nat → Int32)) (yBS : (Nat → Int32)) (yBW : (Nat → Int64)) (ySix : (Nat → Int64)) : va_W := [(qY, .inr (5, [.ref qYm, .ref qYr, .long yPc, .int yMod, .int yLev, .int yLoc, .long yKsp, .long yUsp, .long yKgp, .long yVal, .int yTab, .int ySpc, .ref qYv, .int yHal, .int yEnt, .int yPen, .ref qYl, .ref qYn, .int yBuf, .ref qYp, .ref qYs, .ref qYw, .long yHer, .int yWrd, .int yHas, .int yTrp, .int yNon, .ref qY6])), (qYm, .inl (cI, 4096, .inl yMem)), (qYr, .inl (cJ, 32, .inr (.inl yR))), (qYv, .inl (cJ, 6, .inr (.inl yV))), (qYl, .inl (cI, 4, .inl yPL)), (qYn, .inl (cI, 4, .inl yPN)), (qYp, .inl (cI, 4, .inl yBP)), (qYs, .inl (cI, 4, .inl yBS)), (qYw, .inl (cJ, 4, .inr (.inl yBW))), (qY6, .inl (cJ, 6, .inr (.inl ySix)))]
end
section
/-! Rows of my own over the kit: contracts whose end is determined, calls of them, joins of a value, compares of longs. -/
/-- a method that only reads: its answer, and the heap as it was -/
def qa_det (v : Value) : Array Value → State → Outcome → State → Prop := fun _ st oc t => oc = .returned (some v) ∧ t.heap = st.heap
/-- a method that writes its own cells: its answer, its cells behind it -/
def qa_mod (v : Option Value) (D : va_G) (cl : List vw_C) (w1 : va_W) (A : Nat → Prop) : Array Value → State → Outcome → State → Prop := fun _ st oc t => oc = .returned v ∧ va_P D cl w1 t.heap ∧ va_F A st t
def qa_preR (D : va_G) (cl : List vw_C) (ws : va_W) (tys : List (ClassId × FieldType)) : State → Prop := fun U => va_P D cl ws U.heap ∧ va_K D cl tys U
def qa_pre (D : va_G) (cl : List vw_C) (ws : va_W) (tys : List (ClassId × FieldType)) (sz : Nat) : State → Prop := fun U => U.heap.size = sz ∧ va_P D cl ws U.heap ∧ va_K D cl tys U ∧ va_D (fun _ => True) ws
theorem qa_blind0 {av : List Value} : FrameBlind (va_Pc av (fun _ => True)) := fun _ _ _ _ q => ⟨q.1, trivial⟩
theorem qa_blindR {av : List Value} {D : va_G} {cl : List vw_C} {ws : va_W} {tys : List (ClassId × FieldType)} : FrameBlind (va_Pc av (qa_preR D cl ws tys)) := fun a U g mk q => by
  obtain ⟨q0, qP, qK⟩ := q
  exact ⟨q0, qP, va_K.moved (u := U) (U := U.calling g mk a) (Vm.Alike.refl U.vm) qK⟩
theorem qa_blindM {av : List Value} {D : va_G} {cl : List vw_C} {ws : va_W} {tys : List (ClassId × FieldType)} {sz : Nat} : FrameBlind (va_Pc av (qa_pre D cl ws tys sz)) := fun a U g mk q => by
  obtain ⟨q0, q1, qP, qK, qD⟩ := q
  exact ⟨q0, q1, qP, va_K.moved (u := U) (U := U.calling g mk a) (Vm.Alike.refl U.vm) qK, qD⟩
theorem qa_S0 {s : State} {H : Heap} {As : List Value} : PreS s H (va_Pc As (fun _ => True)) As := ⟨qa_blind0, fun _ _ _ => ⟨rfl, trivial⟩⟩
theorem qa_SR {s : State} {H : Heap} {As : List Value} {D : va_G} {cl : List vw_C} {wc : va_W} {tys : List (ClassId × FieldType)} (hK : va_K D cl tys s) (hPc : va_P D cl wc H) : PreS s H (va_Pc As (qa_preR D cl wc tys)) As :=
  ⟨qa_blindR, fun U hU hW => ⟨rfl, by rw [hU]; exact hPc, va_K.moved hW.alike hK⟩⟩
theorem qa_SM {s : State} {H : Heap} {As : List Value} {D : va_G} {cl : List vw_C} {wc : va_W} {tys : List (ClassId × FieldType)} {A : Nat → Prop} (hK : va_K D cl tys s) (hPc : va_P D cl wc H) (hDc : va_D A wc) : PreS s H (va_Pc As (qa_pre D cl wc tys H.size)) As :=
  ⟨qa_blindM, fun U hU hW => ⟨rfl, by rw [hU], by rw [hU]; exact hPc, va_K.moved hW.alike hK, hDc.weaken (fun _ _ _ _ => trivial)⟩⟩
theorem qa_V0 {s : State} {H : Heap} {b q0 ci : Nat} {q : vw_C} {fs : List Value} {As : List Value} {D : va_G} {cl : List vw_C} {ws : va_W} {tys : List (ClassId × FieldType)} (hK : va_K D cl tys s) (hP : va_P D cl ws H) (he : ws[q0]? = some (b, .inr (ci, fs))) (hc : cl[ci]? = some q) : PreV s H q.1 b (va_Pc (.ref b :: As) (fun _ => True)) As :=
  ⟨qa_blind0, va_recv hK hP hc he, fun _ _ _ => ⟨rfl, trivial⟩⟩
theorem qa_VR {s : State} {H : Heap} {b q0 ci : Nat} {q : vw_C} {fs : List Value} {As : List Value} {D : va_G} {cl : List vw_C} {ws wc : va_W} {tys : List (ClassId × FieldType)} (hK : va_K D cl tys s) (hP : va_P D cl ws H) (he : ws[q0]? = some (b, .inr (ci, fs))) (hc : cl[ci]? = some q) (hPc : va_P D cl wc H) : PreV s H q.1 b (va_Pc (.ref b :: As) (qa_preR D cl wc tys)) As :=
  ⟨qa_blindR, va_recv hK hP hc he, fun U hU hW => ⟨rfl, by rw [hU]; exact hPc, va_K.moved hW.alike hK⟩⟩
theorem qa_VM {s : State} {H : Heap} {b q0 ci : Nat} {q : vw_C} {fs : List Value} {As : List Value} {D : va_G} {cl : List vw_C} {ws wc : va_W} {tys : List (ClassId × FieldType)} {A : Nat → Prop} (hK : va_K D cl tys s) (hP : va_P D cl ws H) (he : ws[q0]? = some (b, .inr (ci, fs))) (hc : cl[ci]? = some q) (hPc : va_P D cl wc H) (hDc : va_D A wc) : PreV s H q.1 b (va_Pc (.ref b :: As) (qa_pre D cl wc tys H.size)) As :=
  ⟨qa_blindM, va_recv hK hP hc he, fun U hU hW => ⟨rfl, by rw [hU], by rw [hU]; exact hPc, va_K.moved hW.alike hK, hDc.weaken (fun _ _ _ _ => trivial)⟩⟩
theorem qa_Dsame {A : Nat → Prop} {w w1 : va_W} (h : va_D A w) (he : w1.map (fun q => q.1) = w.map (fun q => q.1)) : va_D A w1 := by
  have key : ∀ (k : Nat) (q : Nat × va_E), w1[k]? = some q → ∃ q0, w[k]? = some q0 ∧ q0.1 = q.1 := by
    intro k q hk
    have h1 : (w1.map (fun q => q.1))[k]? = some q.1 := by rw [List.getElem?_map, hk]; rfl
    rw [he, List.getElem?_map] at h1
    cases h2 : w[k]? with
    | none => rw [h2] at h1; cases h1
    | some q0 => rw [h2] at h1; exact ⟨q0, rfl, Option.some.inj h1⟩
  refine ⟨fun i j x y hi hj hxy => ?_, fun k q hk => ?_⟩
  · obtain ⟨x0, a1, a2⟩ := key i x hi
    obtain ⟨y0, b1, b2⟩ := key j y hj
    exact h.1 i j x0 y0 a1 b1 (a2.trans (hxy.trans b2.symm))
  · obtain ⟨q0, a1, a2⟩ := key k q hk
    rw [← a2]
    exact h.2 k q0 a1
theorem qa_fm {α β : Type} {g : α → Option β} {is : List α} {w : List β} (h : is.map g = w.map some) : is.filterMap g = w := by
  have h1 := congrArg (List.filterMap id) h
  simpa [List.filterMap_map, Function.comp_def] using h1
section QAC
variable {p : Program} {l : Launch} {e : Env} {R : Room} {s : State} {m : MethodId} {args : Array Value} {below : List Frame} {meth : Method} {c : Code} {H : Heap} {locs : List Loc} {cells slots : Nat} {Q : State → Prop}
variable {pc : Nat} {ls : Array Slot} {rest st0 : List Value} {a : Array Value} {A0 : Nat → Prop} {H0 : Heap} {cc : ByteArray}
theorem qa_calld {v : Value} (hr : va_Run p l e R s m args below meth c H locs cells slots 0 0 (F0 m pc ls st0) rest (qa_det v a) (fun _ => False))
    (kk : W p l e R s m args below meth c H locs cells slots Q (F0 m (pc + 3) ls (v :: rest))) : W p l e R s m args below meth c H locs cells slots Q (F0 m pc ls st0) := by
  intro T hT X
  obtain ⟨v', st₀, t, T', L, h0, X', hL, e1, e2, ⟨hv, hh⟩, st⟩ := hr T hT X
  cases hv
  obtain ⟨t2, a1, b1⟩ := kk T' (by rw [e1, hh, h0]) (Stand.forget X' (fun q h => (hL q h).elim))
  exact ⟨t2, st t2 a1, b1⟩
theorem qa_callm {D : va_G} {cl : List vw_C} {vo : Option Value} {ws wc w1 wr wf : va_W} (hr : va_Run p l e R s m args below meth c H locs cells slots 0 0 (F0 m pc ls st0) rest (qa_mod vo D cl w1 (va_A wc H.size) a) (va_A wc H.size))
    (hP : va_P D cl ws H) (hD : va_D A0 ws) (hS : va_S A0 H0 H locs) (hA : ∀ q, H0.size ≤ q → A0 q)
    (isC isR is : List Nat) (hC : isC.map (fun i => ws[i]?) = wc.map some) (hnC : va_nd isC = true) (hR : isR.map (fun i => ws[i]?) = wr.map some) (hnR : va_nd isR = true) (hdis : ∀ i ∈ isR, i ∉ isC)
    (hsame : w1.map (fun q => q.1) = wc.map (fun q => q.1)) (hf : is.map (fun i => (wr ++ w1)[i]?) = wf.map some) (hnf : va_nd is = true)
    (kk : ∀ (H1 : Heap) (locs1 : List Loc), va_P D cl wf H1 → va_D A0 wf → va_S A0 H0 H1 locs1 → W p l e R s m args below meth c H1 locs1 cells slots Q (F0 m (pc + 3) ls (vo.toList ++ rest))) : W p l e R s m args below meth c H locs cells slots Q (F0 m pc ls st0) := by
  intro T hT X
  obtain ⟨v, st₀, t, T', L, h0, X', hL, e1, e2, ⟨hv, hP1, hz, hk⟩, st⟩ := hr T hT X
  cases hv
  rw [h0] at hz hk
  have hFc := va_free (wc := wc) hD hS hA isC hC
  have hDc : va_D (va_A wc H.size) wc := (hD.sub isC hnC hC).self
  have hD1 := qa_Dsame hDc hsame
  have hk' : ∀ q : Nat, q < H.size → ¬ va_A wc H.size q → T'.heap[q]? = H[q]? := fun q a b => by rw [e1]; exact hk q a b
  rw [← e1] at hP1
  obtain ⟨hPn, hDn⟩ := va_join hP hD isC isR hC hR hnR hdis hk' hFc hP1 hD1
  have hz' : H.size ≤ T'.heap.size := by rw [e1]; exact hz
  obtain ⟨t2, a1, b1⟩ := kk T'.heap (locs ++ L) (hPn.sub is (qa_fm hf)) (hDn.sub is hnf hf) ⟨Nat.le_trans hS.1 hz', fun q h1 h2 => by rw [hk' q (Nat.lt_of_lt_of_le h1 hS.1) (fun z => h2 (hFc q z))]; exact hS.2.1 q h1 h2, fun q hq => by
      rcases List.mem_append.mp hq with h | h
      · exact hS.2.2 q h
      · exact hFc _ (hL q h)⟩ T' rfl X'
  exact ⟨t2, st t2 a1, b1⟩
theorem qa_joini {J : Nat} {ls2 : Array Slot} {rest2 : List Value} {g : JFrame} (t : Int32) (k : (∀ v : Int32, v = t → W p l e R s m args below meth c H locs cells slots Q (F0 m J ls2 (.int v :: rest2))) → W p l e R s m args below meth c H locs cells slots Q g)
    (hj : W p l e R s m args below meth c H locs cells slots Q (F0 m J ls2 (.int t :: rest2))) : W p l e R s m args below meth c H locs cells slots Q g := k (fun _ h => h ▸ hj)
theorem qa_joinl {J : Nat} {ls2 : Array Slot} {rest2 : List Value} {g : JFrame} (t : Int64) (k : (∀ v : Int64, v = t → W p l e R s m args below meth c H locs cells slots Q (F0 m J ls2 (.long v :: rest2))) → W p l e R s m args below meth c H locs cells slots Q g)
    (hj : W p l e R s m args below meth c H locs cells slots Q (F0 m J ls2 (.long t :: rest2))) : W p l e R s m args below meth c H locs cells slots Q g := k (fun _ h => h ▸ hj)
end QAC
section QAL
variable {p : Program} {l : Launch} {e : Env} {R : Room} {s : State} {m : MethodId} {args : Array Value} {below : List Frame} {meth : Method} {c : Code} {H : Heap} {locs : List Loc} {cells slots : Nat} {Q : State → Prop}
variable {pc : Nat} {ls : Array Slot} {rest st0 : List Value} {av : Array Value} {A A0 : Nat → Prop} {H0 : Heap} {cc : ByteArray} {D : va_G} {cl : List vw_C} {tys : List (ClassId × FieldType)} {ws : va_W} {a : Nat}
theorem qa_callv {ws wc w1 wr wf : va_W} (hr : va_Run p l e R s m args below meth c H locs cells slots 0 0 (F0 m pc ls st0) rest (qa_mod none D cl w1 (va_A wc H.size) av) (va_A wc H.size))
    (hP : va_P D cl ws H) (hD : va_D A0 ws) (hS : va_S A0 H0 H locs) (hA : ∀ q, H0.size ≤ q → A0 q)
    (isC isR is : List Nat) (hC : isC.map (fun i => ws[i]?) = wc.map some) (hnC : va_nd isC = true) (hR : isR.map (fun i => ws[i]?) = wr.map some) (hnR : va_nd isR = true) (hdis : ∀ i ∈ isR, i ∉ isC)
    (hsame : w1.map (fun q => q.1) = wc.map (fun q => q.1)) (hf : is.map (fun i => (wr ++ w1)[i]?) = wf.map some) (hnf : va_nd is = true)
    (kk : ∀ (H1 : Heap) (locs1 : List Loc), va_P D cl wf H1 → va_D A0 wf → va_S A0 H0 H1 locs1 → W p l e R s m args below meth c H1 locs1 cells slots Q (F0 m (pc + 3) ls rest)) : W p l e R s m args below meth c H locs cells slots Q (F0 m pc ls st0) :=
  qa_callm hr hP hD hS hA isC isR is hC hnC hR hnR hdis hsame hf hnf kk
theorem qa_calli {v : Int32} {ws wc w1 wr wf : va_W} (hr : va_Run p l e R s m args below meth c H locs cells slots 0 0 (F0 m pc ls st0) rest (qa_mod (some (.int v)) D cl w1 (va_A wc H.size) av) (va_A wc H.size))
    (hP : va_P D cl ws H) (hD : va_D A0 ws) (hS : va_S A0 H0 H locs) (hA : ∀ q, H0.size ≤ q → A0 q)
    (isC isR is : List Nat) (hC : isC.map (fun i => ws[i]?) = wc.map some) (hnC : va_nd isC = true) (hR : isR.map (fun i => ws[i]?) = wr.map some) (hnR : va_nd isR = true) (hdis : ∀ i ∈ isR, i ∉ isC)
    (hsame : w1.map (fun q => q.1) = wc.map (fun q => q.1)) (hf : is.map (fun i => (wr ++ w1)[i]?) = wf.map some) (hnf : va_nd is = true)
    (kk : ∀ (H1 : Heap) (locs1 : List Loc), va_P D cl wf H1 → va_D A0 wf → va_S A0 H0 H1 locs1 → W p l e R s m args below meth c H1 locs1 cells slots Q (F0 m (pc + 3) ls (.int v :: rest))) : W p l e R s m args below meth c H locs cells slots Q (F0 m pc ls st0) :=
  qa_callm hr hP hD hS hA isC isR is hC hnC hR hnR hdis hsame hf hnf kk
theorem qa_calll {v : Int64} {ws wc w1 wr wf : va_W} (hr : va_Run p l e R s m args below meth c H locs cells slots 0 0 (F0 m pc ls st0) rest (qa_mod (some (.long v)) D cl w1 (va_A wc H.size) av) (va_A wc H.size))
    (hP : va_P D cl ws H) (hD : va_D A0 ws) (hS : va_S A0 H0 H locs) (hA : ∀ q, H0.size ≤ q → A0 q)
    (isC isR is : List Nat) (hC : isC.map (fun i => ws[i]?) = wc.map some) (hnC : va_nd isC = true) (hR : isR.map (fun i => ws[i]?) = wr.map some) (hnR : va_nd isR = true) (hdis : ∀ i ∈ isR, i ∉ isC)
    (hsame : w1.map (fun q => q.1) = wc.map (fun q => q.1)) (hf : is.map (fun i => (wr ++ w1)[i]?) = wf.map some) (hnf : va_nd is = true)
    (kk : ∀ (H1 : Heap) (locs1 : List Loc), va_P D cl wf H1 → va_D A0 wf → va_S A0 H0 H1 locs1 → W p l e R s m args below meth c H1 locs1 cells slots Q (F0 m (pc + 3) ls (.long v :: rest))) : W p l e R s m args below meth c H locs cells slots Q (F0 m pc ls st0) :=
  qa_callm hr hP hD hS hA isC isR is hC hnC hR hnR hdis hsame hf hnf kk
theorem qa_lald (hexec : p.tables.exec = Jvm.exec) (hb : c.code = cc) (hK : va_K D cl tys s) (hP : va_P D cl ws H) (q0 t0 : Nat) {cA : ClassId} {n : Nat} {f : Nat → Int64} (ha : ws[q0]? = some (a, .inl (cA, n, .inr (.inl f)))) (ht : tys[t0]? = some (cA, .long)) {i : Int32} {k : Nat} (hi : i.toNatClampNeg = k) (hin : vp_in i n) (hdg : decode cc pc = .ok (.laload, 1))
    (kk : W p l e R s m args below meth c H locs cells slots Q (F0 m (pc + 1) ls (.long (f k) :: rest))) : W p l e R s m args below meth c H locs cells slots Q (F0 m pc ls (.int i :: .ref a :: rest)) := by
  subst hi
  exact va_lald hexec hb hK hP q0 t0 ha ht hin hdg kk
theorem qa_iald (hexec : p.tables.exec = Jvm.exec) (hb : c.code = cc) (hK : va_K D cl tys s) (hP : va_P D cl ws H) (q0 t0 : Nat) {cA : ClassId} {n : Nat} {f : Nat → Int32} (ha : ws[q0]? = some (a, .inl (cA, n, .inl f))) (ht : tys[t0]? = some (cA, .int)) {i : Int32} {k : Nat} (hi : i.toNatClampNeg = k) (hin : vp_in i n) (hdg : decode cc pc = .ok (.iaload, 1))
    (kk : W p l e R s m args below meth c H locs cells slots Q (F0 m (pc + 1) ls (.int (f k) :: rest))) : W p l e R s m args below meth c H locs cells slots Q (F0 m pc ls (.int i :: .ref a :: rest)) := by
  subst hi
  exact va_iald hexec hb hK hP q0 t0 ha ht hin hdg kk
theorem qa_last (hexec : p.tables.exec = Jvm.exec) (hb : c.code = cc) (hK : va_K D cl tys s) (hP : va_P D cl ws H) (hD : va_D A ws) (hS : va_S A H0 H locs) (q0 t0 : Nat) {cA : ClassId} {n : Nat} {f : Nat → Int64} (ha : ws[q0]? = some (a, .inl (cA, n, .inr (.inl f)))) (ht : tys[t0]? = some (cA, .long)) {i : Int32} {x : Int64} {k : Nat} (hi : i.toNatClampNeg = k) (hin : vp_in i n) (hdg : decode cc pc = .ok (.lastore, 1))
    (kk : ∀ (H1 : Heap) (locs1 : List Loc), va_P D cl (ws.set q0 (a, .inl (cA, n, .inr (.inl (vp_updL f k x))))) H1 → va_D A (ws.set q0 (a, .inl (cA, n, .inr (.inl (vp_updL f k x))))) → va_S A H0 H1 locs1 → W p l e R s m args below meth c H1 locs1 cells slots Q (F0 m (pc + 1) ls rest)) : W p l e R s m args below meth c H locs cells slots Q (F0 m pc ls (.long x :: .int i :: .ref a :: rest)) := by
  subst hi
  exact va_last hexec hb hK hP hD hS q0 t0 ha ht hin hdg kk
theorem qa_iast (hexec : p.tables.exec = Jvm.exec) (hb : c.code = cc) (hK : va_K D cl tys s) (hP : va_P D cl ws H) (hD : va_D A ws) (hS : va_S A H0 H locs) (q0 t0 : Nat) {cA : ClassId} {n : Nat} {f : Nat → Int32} (ha : ws[q0]? = some (a, .inl (cA, n, .inl f))) (ht : tys[t0]? = some (cA, .int)) {i : Int32} {x : Int32} {k : Nat} (hi : i.toNatClampNeg = k) (hin : vp_in i n) (hdg : decode cc pc = .ok (.iastore, 1))
    (kk : ∀ (H1 : Heap) (locs1 : List Loc), va_P D cl (ws.set q0 (a, .inl (cA, n, .inl (upd f k x)))) H1 → va_D A (ws.set q0 (a, .inl (cA, n, .inl (upd f k x)))) → va_S A H0 H1 locs1 → W p l e R s m args below meth c H1 locs1 cells slots Q (F0 m (pc + 1) ls rest)) : W p l e R s m args below meth c H locs cells slots Q (F0 m pc ls (.int x :: .int i :: .ref a :: rest)) := by
  subst hi
  exact va_iast hexec hb hK hP hD hS q0 t0 ha ht hin hdg kk
theorem qa_lc_lt (hexec : p.tables.exec = Jvm.exec) (hb : c.code = cc) {x y : Int64} {off : Int} {tgt : Nat} (d1 : decode cc pc = .ok (.lcmp, 1)) (d2 : decode cc (pc + 1) = .ok (.ifCond .lt off, 3)) (ht : ((pc + 1 : Nat) : Int) + off = (tgt : Int)) (kt : x < y → W p l e R s m args below meth c H locs cells slots Q (F0 m tgt ls rest)) (kf : ¬ x < y → W p l e R s m args below meth c H locs cells slots Q (F0 m (pc + 1 + 3) ls rest)) : W p l e R s m args below meth c H locs cells slots Q (F0 m pc ls (.long y :: .long x :: rest)) :=
  W.lcmp hexec hb d1 (lv_if_lt hexec hb d2 ht (fun h => kt ((lg_cmp_lt x y).mp h)) (fun h => kf (fun z => h ((lg_cmp_lt x y).mpr z))))
theorem qa_lc_gt (hexec : p.tables.exec = Jvm.exec) (hb : c.code = cc) {x y : Int64} {off : Int} {tgt : Nat} (d1 : decode cc pc = .ok (.lcmp, 1)) (d2 : decode cc (pc + 1) = .ok (.ifCond .gt off, 3)) (ht : ((pc + 1 : Nat) : Int) + off = (tgt : Int)) (kt : y < x → W p l e R s m args below meth c H locs cells slots Q (F0 m tgt ls rest)) (kf : ¬ y < x → W p l e R s m args below meth c H locs cells slots Q (F0 m (pc + 1 + 3) ls rest)) : W p l e R s m args below meth c H locs cells slots Q (F0 m pc ls (.long y :: .long x :: rest)) :=
  W.lcmp hexec hb d1 (lv_if_gt hexec hb d2 ht (fun h => kt ((lg_cmp_gt x y).mp h)) (fun h => kf (fun z => h ((lg_cmp_gt x y).mpr z))))
theorem qa_lc_ge (hexec : p.tables.exec = Jvm.exec) (hb : c.code = cc) {x y : Int64} {off : Int} {tgt : Nat} (d1 : decode cc pc = .ok (.lcmp, 1)) (d2 : decode cc (pc + 1) = .ok (.ifCond .ge off, 3)) (ht : ((pc + 1 : Nat) : Int) + off = (tgt : Int)) (kt : y ≤ x → W p l e R s m args below meth c H locs cells slots Q (F0 m tgt ls rest)) (kf : ¬ y ≤ x → W p l e R s m args below meth c H locs cells slots Q (F0 m (pc + 1 + 3) ls rest)) : W p l e R s m args below meth c H locs cells slots Q (F0 m pc ls (.long y :: .long x :: rest)) :=
  W.lcmp hexec hb d1 (lv_if_ge hexec hb d2 ht (fun h => kt ((lg_cmp_ge x y).mp h)) (fun h => kf (fun z => h ((lg_cmp_ge x y).mpr z))))
theorem qa_lc_le (hexec : p.tables.exec = Jvm.exec) (hb : c.code = cc) {x y : Int64} {off : Int} {tgt : Nat} (d1 : decode cc pc = .ok (.lcmp, 1)) (d2 : decode cc (pc + 1) = .ok (.ifCond .le off, 3)) (ht : ((pc + 1 : Nat) : Int) + off = (tgt : Int)) (kt : x ≤ y → W p l e R s m args below meth c H locs cells slots Q (F0 m tgt ls rest)) (kf : ¬ x ≤ y → W p l e R s m args below meth c H locs cells slots Q (F0 m (pc + 1 + 3) ls rest)) : W p l e R s m args below meth c H locs cells slots Q (F0 m pc ls (.long y :: .long x :: rest)) :=
  W.lcmp hexec hb d1 (lv_if_le hexec hb d2 ht (fun h => kt ((lg_cmp_le x y).mp h)) (fun h => kf (fun z => h ((lg_cmp_le x y).mpr z))))
theorem qa_lc_eq (hexec : p.tables.exec = Jvm.exec) (hb : c.code = cc) {x y : Int64} {off : Int} {tgt : Nat} (d1 : decode cc pc = .ok (.lcmp, 1)) (d2 : decode cc (pc + 1) = .ok (.ifCond .eq off, 3)) (ht : ((pc + 1 : Nat) : Int) + off = (tgt : Int)) (kt : x = y → W p l e R s m args below meth c H locs cells slots Q (F0 m tgt ls rest)) (kf : ¬ x = y → W p l e R s m args below meth c H locs cells slots Q (F0 m (pc + 1 + 3) ls rest)) : W p l e R s m args below meth c H locs cells slots Q (F0 m pc ls (.long y :: .long x :: rest)) :=
  W.lcmp hexec hb d1 (lv_if_eq hexec hb d2 ht (fun h => kt ((lg_cmp_eq x y).mp h)) (fun h => kf (fun z => h ((lg_cmp_eq x y).mpr z))))
theorem qa_lc_ne (hexec : p.tables.exec = Jvm.exec) (hb : c.code = cc) {x y : Int64} {off : Int} {tgt : Nat} (d1 : decode cc pc = .ok (.lcmp, 1)) (d2 : decode cc (pc + 1) = .ok (.ifCond .ne off, 3)) (ht : ((pc + 1 : Nat) : Int) + off = (tgt : Int)) (kt : ¬ x = y → W p l e R s m args below meth c H locs cells slots Q (F0 m tgt ls rest)) (kf : x = y → W p l e R s m args below meth c H locs cells slots Q (F0 m (pc + 1 + 3) ls rest)) : W p l e R s m args below meth c H locs cells slots Q (F0 m pc ls (.long y :: .long x :: rest)) :=
  W.lcmp hexec hb d1 (lv_if_ne hexec hb d2 ht (fun h => kt (fun z => h ((lg_cmp_eq x y).mpr z))) (fun h => kf ((lg_cmp_eq x y).mp h)))
theorem qa_table (hexec : p.tables.exec = Jvm.exec) (hb : c.code = cc) {dflt lo hi : Int} {offs : Array Int} {len : Nat} {x : Int32} {off : Int} {tgt : Nat} (hdg : decode cc pc = .ok (.tableswitch dflt lo hi offs, len)) (h : ((x.toInt < lo ∨ hi < x.toInt) ∧ dflt = off) ∨ (¬ x.toInt < lo ∧ ¬ hi < x.toInt ∧ offs[(x.toInt - lo).toNat]? = some off)) (ht : (pc : Int) + off = (tgt : Int))
    (k : W p l e R s m args below meth c H locs cells slots Q (F0 m tgt ls rest)) : W p l e R s m args below meth c H locs cells slots Q (F0 m pc ls (.int x :: rest)) := by
  rcases h with ⟨h, rfl⟩ | ⟨h1, h2, h3⟩
  · exact lv_tableOut hexec hb hdg h ht k
  · exact lv_tableIn hexec hb hdg h1 h2 h3 ht k
end QAL
theorem qa_inc {n : Int} {k : Int32} (h : Int32.ofInt n = k) (x : Int32) : x + Int32.ofInt n = x + k := by rw [h]
def jiushr (x y : Int32) : Int32 := (x.toUInt32 >>> (y.toUInt32 &&& Int32.toUInt32 31)).toInt32
def jlushr (x : Int64) (y : Int32) : Int64 := (x.toUInt64 >>> (y.toInt64.toUInt64 &&& Int64.toUInt64 63)).toInt64
def jlshl (x : Int64) (y : Int32) : Int64 := x <<< (y.toInt64 &&& 63)
def jlshr (x : Int64) (y : Int32) : Int64 := x >>> (y.toInt64 &&& 63)
theorem qa_in {i : Int32} {n : Nat} (h : (decide (i < 0) || decide (n ≤ i.toNatClampNeg)) = false) : vp_in i n := by
  simp only [Bool.or_eq_false_iff, decide_eq_false_iff_not] at h
  exact fun q => q.elim h.1 h.2
theorem qa_inI {i : Int32} {n : Nat} (h0 : 0 ≤ i.toInt) (h1 : i.toInt < n) : vp_in i n := vp_in_iff.mpr ⟨h0, h1⟩
theorem qa_and31 (x : Int32) : vp_in (x &&& 31) 32 := pk_andIn x 5 (by decide) (by decide)
theorem qa_b0 : (0 : Int32) = 0 ∨ (0 : Int32) = 1 := Or.inl rfl
theorem qa_b1 : (1 : Int32) = 0 ∨ (1 : Int32) = 1 := Or.inr rfl
theorem qa_bi {c : Prop} [Decidable c] {a b : Int32} (ha : a = 0 ∨ a = 1) (hb : b = 0 ∨ b = 1) : (if c then a else b) = 0 ∨ (if c then a else b) = 1 := by
  split
  · exact ha
  · exact hb
theorem qa_nb {v : Int32} (h : v = 0 ∨ v = 1) : narrow .boolean (.int v) = .int v := by
  rcases h with rfl | rfl <;> rfl
end
section
/-! Ranges of indices, and falling measures of loops. -/
theorem rg_bd (x : Int32) : -2147483648 ≤ x.toInt ∧ x.toInt < 2147483648 := by
  have h1 := Int32.le_toInt x
  have h2 := Int32.toInt_lt x
  omega
theorem rg_a {i n : Int32} {N : Nat} (h0 : 0 ≤ i.toInt) (h : i < n) (hn : n.toInt ≤ N) : vp_in i N := by
  rw [Int32.lt_iff_toInt_lt] at h
  exact qa_inI h0 (by omega)
theorem rg_b {i n : Int32} {N : Nat} (h0 : 0 ≤ i.toInt) (h : ¬ n ≤ i) (hn : n.toInt ≤ N) : vp_in i N := by
  rw [Int32.le_iff_toInt_le] at h
  exact qa_inI h0 (by omega)
theorem rg_lt {i n : Int32} (h : ¬ n ≤ i) : i.toInt < n.toInt := by
  rw [Int32.le_iff_toInt_le] at h
  omega
theorem rg_s {i n : Int32} (h : ¬ n ≤ i) : (i + 1).toInt = i.toInt + 1 := by
  have h := rg_lt h
  have h1 := rg_bd i
  have h2 := rg_bd n
  have e : (1 : Int32).toInt = 1 := by decide
  rw [Jvm.Kit.i32_add (by rw [e]; omega) (by rw [e]; omega), e]
theorem rg_fs {c i : Int32} {n : Nat} (h : ¬ c ≤ i) (hf : (c.toInt - i.toInt).toNat < n + 1) : (c.toInt - (i + 1).toInt).toNat < n := by
  rw [rg_s h]
  have := rg_lt h
  omega
theorem rg_i0 {c i : Int32} (h : ¬ c ≤ i) (h0 : 0 ≤ i.toInt) : 0 ≤ (i + 1).toInt := by
  rw [rg_s h]
  omega
theorem rg_f0 {c : Int32} (h : c.toInt ≤ 4) : (c.toInt - (0 : Int32).toInt).toNat < 5 := by
  rw [Int32.toInt_zero]
  omega
theorem rg_f4 {c i : Int32} (h : c.toInt ≤ 4) (h0 : 0 ≤ i.toInt) : (c.toInt - i.toInt).toNat < 5 := by
  omega
theorem rg_z : 0 ≤ (0 : Int32).toInt := by decide
theorem rg_best {b c : Int32} (h : 0 ≤ b) (hq : b.toInt = -1 ∨ (0 ≤ b.toInt ∧ b.toInt < c.toInt)) (hc : c.toInt ≤ 4) : vp_in b 4 := by
  rw [Int32.le_iff_toInt_le, Int32.toInt_zero] at h
  exact qa_inI h (by omega)
theorem rg_best0 {b : Int32} (h : 0 ≤ b) : 0 ≤ b.toInt := by
  rw [Int32.le_iff_toInt_le, Int32.toInt_zero] at h
  exact h
theorem rg_best1 {b c : Int32} (h : 0 ≤ b) (hq : b.toInt = -1 ∨ (0 ≤ b.toInt ∧ b.toInt < c.toInt)) : b.toInt < c.toInt := by
  rw [Int32.le_iff_toInt_le, Int32.toInt_zero] at h
  omega
theorem rg_m1 {c : Int32} (h : 1 ≤ c.toInt) : (c - 1).toInt = c.toInt - 1 := by
  have h1 := rg_bd c
  have e : (1 : Int32).toInt = 1 := by decide
  rw [Jvm.Kit.i32_sub (by rw [e]; omega) (by rw [e]; omega), e]
theorem rg_r0 {c i : Int32} (h : ¬ (c - 1) ≤ i) (h0 : 0 ≤ i.toInt) (h1 : 1 ≤ c.toInt) (hc : c.toInt ≤ 4) : vp_in i 4 := by
  have h := rg_lt h
  rw [rg_m1 h1] at h
  exact qa_inI h0 (by omega)
theorem rg_r1 {c i : Int32} (h : ¬ (c - 1) ≤ i) (h0 : 0 ≤ i.toInt) (h1 : 1 ≤ c.toInt) (hc : c.toInt ≤ 4) : vp_in (i + 1) 4 := by
  have e := rg_s h
  have h := rg_lt h
  rw [rg_m1 h1] at h
  exact qa_inI (by omega) (by omega)
theorem rg_rf {c i : Int32} (h0 : 0 ≤ i.toInt) (h1 : 1 ≤ c.toInt) (hc : c.toInt ≤ 4) : ((c - 1).toInt - i.toInt).toNat < 5 := by
  rw [rg_m1 h1]
  omega
theorem rg_shr (x : Int32) (k : Int32) (n : Nat) (hk : (k.toBitVec.smod 32).toNat = n) : (x >>> k).toInt = x.toInt / 2 ^ n := Jvm.Kit.i32_shr x k hk
theorem rg_sh3v {x : Int32} : (x >>> ((3 : Int32) &&& (31 : Int32))).toInt = x.toInt / 8 := by
  have h := rg_shr x ((3 : Int32) &&& (31 : Int32)) 3 (by decide)
  rw [h]
  rfl
theorem rg_sh3 {x : Int32} (h0 : 0 ≤ x.toInt) (h1 : x.toInt < 4096) : vp_in (x >>> ((3 : Int32) &&& (31 : Int32))) 512 := by
  have h := rg_sh3v (x := x)
  exact qa_inI (by omega) (by omega)
theorem rg_and3 (x : Int32) : 0 ≤ (x &&& (3 : Int32)).toInt ∧ (x &&& (3 : Int32)).toInt < 4 := by
  have h : (x &&& (3 : Int32)).toInt = x.toInt % 4 := Jvm.Kit.i32_mask x 3 (k := 2) (by decide) (by decide)
  omega
theorem rg_and15 (x : Int32) : 0 ≤ (x &&& (15 : Int32)).toInt ∧ (x &&& (15 : Int32)).toInt < 16 := by
  have h : (x &&& (15 : Int32)).toInt = x.toInt % 16 := Jvm.Kit.i32_mask x 15 (k := 4) (by decide) (by decide)
  omega
theorem rg_and7 (x : Int32) : 0 ≤ (x &&& (7 : Int32)).toInt ∧ (x &&& (7 : Int32)).toInt < 8 := by
  have h : (x &&& (7 : Int32)).toInt = x.toInt % 8 := Jvm.Kit.i32_mask x 7 (k := 3) (by decide) (by decide)
  omega
theorem rg_and255 (x : Int32) : 0 ≤ (x &&& (255 : Int32)).toInt ∧ (x &&& (255 : Int32)).toInt < 256 := by
  have h : (x &&& (255 : Int32)).toInt = x.toInt % 256 := Jvm.Kit.i32_mask x 255 (k := 8) (by decide) (by decide)
  omega
theorem rg_add {x y : Int32} (h1 : -2147483648 ≤ x.toInt + y.toInt) (h2 : x.toInt + y.toInt < 2147483648) : (x + y).toInt = x.toInt + y.toInt := Jvm.Kit.i32_add (by omega) (by omega)
theorem rg_mul {x y : Int32} (h1 : -2147483648 ≤ x.toInt * y.toInt) (h2 : x.toInt * y.toInt < 2147483648) : (x * y).toInt = x.toInt * y.toInt := Jvm.Kit.i32_mul (by omega) (by omega)
theorem rg_w1 {t : Int32} (b : Int32) (h0 : 0 ≤ t.toInt) (h1 : t.toInt ≤ 4064) : vp_in ((t >>> ((3 : Int32) &&& (31 : Int32))) + (b &&& (3 : Int32))) 512 := by
  have h := rg_sh3v (x := t)
  have hb := rg_and3 b
  have e := rg_add (x := t >>> ((3 : Int32) &&& (31 : Int32))) (y := b &&& (3 : Int32)) (by omega) (by omega)
  exact qa_inI (by omega) (by omega)
theorem rg_w2 (a b : Int32) : vp_in (((32 : Int32) * (a &&& (15 : Int32))) + (b &&& (3 : Int32))) 512 := by
  have ha := rg_and15 a
  have hb := rg_and3 b
  have e32 : (32 : Int32).toInt = 32 := by decide
  have em := rg_mul (x := (32 : Int32)) (y := a &&& (15 : Int32)) (by rw [e32]; omega) (by rw [e32]; omega)
  rw [e32] at em
  have e := rg_add (x := (32 : Int32) * (a &&& (15 : Int32))) (y := b &&& (3 : Int32)) (by omega) (by omega)
  exact qa_inI (by omega) (by omega)
end
section
theorem dX0_init_0 : decode cX0_init 0 = .ok (.aload_n 0, 1) := by decide +kernel
theorem dX0_init_1 : decode cX0_init 1 = .ok (.invokespecial 1, 3) := by decide +kernel
theorem dX0_init_4 : decode cX0_init 4 = .ok (.return_, 1) := by decide +kernel
theorem dX0_clear_0 : decode cX0_clear 0 = .ok (.aload_n 0, 1) := by decide +kernel
theorem dX0_clear_1 : decode cX0_clear 1 = .ok (.bipush (-2), 2) := by decide +kernel
theorem dX0_clear_3 : decode cX0_clear 3 = .ok (.putfield 9, 3) := by decide +kernel
theorem dX0_clear_6 : decode cX0_clear 6 = .ok (.return_, 1) := by decide +kernel
theorem dX0_comeBack_0 : decode cX0_comeBack 0 = .ok (.aload_n 0, 1) := by decide +kernel
theorem dX0_comeBack_1 : decode cX0_comeBack 1 = .ok (.iconst (-1), 1) := by decide +kernel
theorem dX0_comeBack_2 : decode cX0_comeBack 2 = .ok (.putfield 9, 3) := by decide +kernel
theorem dX0_comeBack_5 : decode cX0_comeBack 5 = .ok (.return_, 1) := by decide +kernel
theorem dX0_enter_0 : decode cX0_enter 0 = .ok (.aload_n 0, 1) := by decide +kernel
theorem dX0_enter_1 : decode cX0_enter 1 = .ok (.iload_n 1, 1) := by decide +kernel
theorem dX0_enter_2 : decode cX0_enter 2 = .ok (.putfield 9, 3) := by decide +kernel
theorem dX0_enter_5 : decode cX0_enter 5 = .ok (.aload_n 0, 1) := by decide +kernel
theorem dX0_enter_6 : decode cX0_enter 6 = .ok (.lload_n 2, 1) := by decide +kernel
theorem dX0_enter_7 : decode cX0_enter 7 = .ok (.putfield 13, 3) := by decide +kernel
theorem dX0_enter_10 : decode cX0_enter 10 = .ok (.aload_n 0, 1) := by decide +kernel
theorem dX0_enter_11 : decode cX0_enter 11 = .ok (.lload 4, 2) := by decide +kernel
theorem dX0_enter_13 : decode cX0_enter 13 = .ok (.putfield 17, 3) := by decide +kernel
theorem dX0_enter_16 : decode cX0_enter 16 = .ok (.aload_n 0, 1) := by decide +kernel
theorem dX0_enter_17 : decode cX0_enter 17 = .ok (.lload 6, 2) := by decide +kernel
theorem dX0_enter_19 : decode cX0_enter 19 = .ok (.putfield 20, 3) := by decide +kernel
theorem dX0_enter_22 : decode cX0_enter 22 = .ok (.aload_n 0, 1) := by decide +kernel
theorem dX0_enter_23 : decode cX0_enter 23 = .ok (.lload 8, 2) := by decide +kernel
theorem dX0_enter_25 : decode cX0_enter 25 = .ok (.putfield 23, 3) := by decide +kernel
theorem dX0_enter_28 : decode cX0_enter 28 = .ok (.return_, 1) := by decide +kernel
theorem dX1_init_0 : decode cX1_init 0 = .ok (.aload_n 0, 1) := by decide +kernel
theorem dX1_init_1 : decode cX1_init 1 = .ok (.invokespecial 1, 3) := by decide +kernel
theorem dX1_init_4 : decode cX1_init 4 = .ok (.aload_n 0, 1) := by decide +kernel
theorem dX1_init_5 : decode cX1_init 5 = .ok (.iconst 4, 1) := by decide +kernel
theorem dX1_init_6 : decode cX1_init 6 = .ok (.newarray .int, 2) := by decide +kernel
theorem dX1_init_8 : decode cX1_init 8 = .ok (.putfield 9, 3) := by decide +kernel
theorem dX1_init_11 : decode cX1_init 11 = .ok (.aload_n 0, 1) := by decide +kernel
theorem dX1_init_12 : decode cX1_init 12 = .ok (.iconst 4, 1) := by decide +kernel
theorem dX1_init_13 : decode cX1_init 13 = .ok (.newarray .int, 2) := by decide +kernel
theorem dX1_init_15 : decode cX1_init 15 = .ok (.putfield 13, 3) := by decide +kernel
theorem dX1_init_18 : decode cX1_init 18 = .ok (.return_, 1) := by decide +kernel
theorem dX1_add_0 : decode cX1_add 0 = .ok (.aload_n 0, 1) := by decide +kernel
theorem dX1_add_1 : decode cX1_add 1 = .ok (.getfield 16, 3) := by decide +kernel
theorem dX1_add_4 : decode cX1_add 4 = .ok (.iconst 4, 1) := by decide +kernel
theorem dX1_add_5 : decode cX1_add 5 = .ok (.if_icmp .lt 5, 3) := by decide +kernel
theorem dX1_add_8 : decode cX1_add 8 = .ok (.iconst 0, 1) := by decide +kernel
theorem dX1_add_9 : decode cX1_add 9 = .ok (.ireturn, 1) := by decide +kernel
theorem dX1_add_10 : decode cX1_add 10 = .ok (.aload_n 0, 1) := by decide +kernel
theorem dX1_add_11 : decode cX1_add 11 = .ok (.getfield 9, 3) := by decide +kernel
theorem dX1_add_14 : decode cX1_add 14 = .ok (.aload_n 0, 1) := by decide +kernel
theorem dX1_add_15 : decode cX1_add 15 = .ok (.getfield 16, 3) := by decide +kernel
theorem dX1_add_18 : decode cX1_add 18 = .ok (.iload_n 1, 1) := by decide +kernel
theorem dX1_add_19 : decode cX1_add 19 = .ok (.iastore, 1) := by decide +kernel
theorem dX1_add_20 : decode cX1_add 20 = .ok (.aload_n 0, 1) := by decide +kernel
theorem dX1_add_21 : decode cX1_add 21 = .ok (.getfield 13, 3) := by decide +kernel
theorem dX1_add_24 : decode cX1_add 24 = .ok (.aload_n 0, 1) := by decide +kernel
theorem dX1_add_25 : decode cX1_add 25 = .ok (.getfield 16, 3) := by decide +kernel
theorem dX1_add_28 : decode cX1_add 28 = .ok (.iload_n 2, 1) := by decide +kernel
theorem dX1_add_29 : decode cX1_add 29 = .ok (.iastore, 1) := by decide +kernel
theorem dX1_add_30 : decode cX1_add 30 = .ok (.aload_n 0, 1) := by decide +kernel
theorem dX1_add_31 : decode cX1_add 31 = .ok (.dup, 1) := by decide +kernel
theorem dX1_add_32 : decode cX1_add 32 = .ok (.getfield 16, 3) := by decide +kernel
theorem dX1_add_35 : decode cX1_add 35 = .ok (.iconst 1, 1) := by decide +kernel
theorem dX1_add_36 : decode cX1_add 36 = .ok (.iadd, 1) := by decide +kernel
theorem dX1_add_37 : decode cX1_add 37 = .ok (.putfield 16, 3) := by decide +kernel
theorem dX1_add_40 : decode cX1_add 40 = .ok (.iconst 1, 1) := by decide +kernel
theorem dX1_add_41 : decode cX1_add 41 = .ok (.ireturn, 1) := by decide +kernel
theorem dX1_takeAbove_0 : decode cX1_takeAbove 0 = .ok (.iconst (-1), 1) := by decide +kernel
theorem dX1_takeAbove_1 : decode cX1_takeAbove 1 = .ok (.istore_n 2, 1) := by decide +kernel
theorem dX1_takeAbove_2 : decode cX1_takeAbove 2 = .ok (.iload_n 1, 1) := by decide +kernel
theorem dX1_takeAbove_3 : decode cX1_takeAbove 3 = .ok (.istore_n 3, 1) := by decide +kernel
theorem dX1_takeAbove_4 : decode cX1_takeAbove 4 = .ok (.iconst 0, 1) := by decide +kernel
theorem dX1_takeAbove_5 : decode cX1_takeAbove 5 = .ok (.istore 4, 2) := by decide +kernel
theorem dX1_takeAbove_7 : decode cX1_takeAbove 7 = .ok (.iload 4, 2) := by decide +kernel
theorem dX1_takeAbove_9 : decode cX1_takeAbove 9 = .ok (.aload_n 0, 1) := by decide +kernel
theorem dX1_takeAbove_10 : decode cX1_takeAbove 10 = .ok (.getfield 16, 3) := by decide +kernel
theorem dX1_takeAbove_13 : decode cX1_takeAbove 13 = .ok (.if_icmp .ge 31, 3) := by decide +kernel
theorem dX1_takeAbove_16 : decode cX1_takeAbove 16 = .ok (.aload_n 0, 1) := by decide +kernel
theorem dX1_takeAbove_17 : decode cX1_takeAbove 17 = .ok (.getfield 9, 3) := by decide +kernel
theorem dX1_takeAbove_20 : decode cX1_takeAbove 20 = .ok (.iload 4, 2) := by decide +kernel
theorem dX1_takeAbove_22 : decode cX1_takeAbove 22 = .ok (.iaload, 1) := by decide +kernel
theorem dX1_takeAbove_23 : decode cX1_takeAbove 23 = .ok (.iload_n 3, 1) := by decide +kernel
theorem dX1_takeAbove_24 : decode cX1_takeAbove 24 = .ok (.if_icmp .le 14, 3) := by decide +kernel
theorem dX1_takeAbove_27 : decode cX1_takeAbove 27 = .ok (.iload 4, 2) := by decide +kernel
theorem dX1_takeAbove_29 : decode cX1_takeAbove 29 = .ok (.istore_n 2, 1) := by decide +kernel
theorem dX1_takeAbove_30 : decode cX1_takeAbove 30 = .ok (.aload_n 0, 1) := by decide +kernel
theorem dX1_takeAbove_31 : decode cX1_takeAbove 31 = .ok (.getfield 9, 3) := by decide +kernel
theorem dX1_takeAbove_34 : decode cX1_takeAbove 34 = .ok (.iload 4, 2) := by decide +kernel
theorem dX1_takeAbove_36 : decode cX1_takeAbove 36 = .ok (.iaload, 1) := by decide +kernel
theorem dX1_takeAbove_37 : decode cX1_takeAbove 37 = .ok (.istore_n 3, 1) := by decide +kernel
theorem dX1_takeAbove_38 : decode cX1_takeAbove 38 = .ok (.iinc 4 1, 3) := by decide +kernel
theorem dX1_takeAbove_41 : decode cX1_takeAbove 41 = .ok (.goto (-34), 3) := by decide +kernel
theorem dX1_takeAbove_44 : decode cX1_takeAbove 44 = .ok (.iload_n 2, 1) := by decide +kernel
theorem dX1_takeAbove_45 : decode cX1_takeAbove 45 = .ok (.ifCond .ge 5, 3) := by decide +kernel
theorem dX1_takeAbove_48 : decode cX1_takeAbove 48 = .ok (.iconst (-1), 1) := by decide +kernel
theorem dX1_takeAbove_49 : decode cX1_takeAbove 49 = .ok (.ireturn, 1) := by decide +kernel
theorem dX1_takeAbove_50 : decode cX1_takeAbove 50 = .ok (.sipush 256, 3) := by decide +kernel
theorem dX1_takeAbove_53 : decode cX1_takeAbove 53 = .ok (.iload_n 3, 1) := by decide +kernel
theorem dX1_takeAbove_54 : decode cX1_takeAbove 54 = .ok (.imul, 1) := by decide +kernel
theorem dX1_takeAbove_55 : decode cX1_takeAbove 55 = .ok (.aload_n 0, 1) := by decide +kernel
theorem dX1_takeAbove_56 : decode cX1_takeAbove 56 = .ok (.getfield 13, 3) := by decide +kernel
theorem dX1_takeAbove_59 : decode cX1_takeAbove 59 = .ok (.iload_n 2, 1) := by decide +kernel
theorem dX1_takeAbove_60 : decode cX1_takeAbove 60 = .ok (.iaload, 1) := by decide +kernel
theorem dX1_takeAbove_61 : decode cX1_takeAbove 61 = .ok (.iadd, 1) := by decide +kernel
theorem dX1_takeAbove_62 : decode cX1_takeAbove 62 = .ok (.istore 4, 2) := by decide +kernel
theorem dX1_takeAbove_64 : decode cX1_takeAbove 64 = .ok (.aload_n 0, 1) := by decide +kernel
theorem dX1_takeAbove_65 : decode cX1_takeAbove 65 = .ok (.iload_n 2, 1) := by decide +kernel
theorem dX1_takeAbove_66 : decode cX1_takeAbove 66 = .ok (.invokevirtual 20, 3) := by decide +kernel
theorem dX1_takeAbove_69 : decode cX1_takeAbove 69 = .ok (.iload 4, 2) := by decide +kernel
theorem dX1_takeAbove_71 : decode cX1_takeAbove 71 = .ok (.ireturn, 1) := by decide +kernel
theorem dX1_remove_0 : decode cX1_remove 0 = .ok (.aload_n 0, 1) := by decide +kernel
theorem dX1_remove_1 : decode cX1_remove 1 = .ok (.dup, 1) := by decide +kernel
theorem dX1_remove_2 : decode cX1_remove 2 = .ok (.getfield 16, 3) := by decide +kernel
theorem dX1_remove_5 : decode cX1_remove 5 = .ok (.iconst 1, 1) := by decide +kernel
theorem dX1_remove_6 : decode cX1_remove 6 = .ok (.isub, 1) := by decide +kernel
theorem dX1_remove_7 : decode cX1_remove 7 = .ok (.putfield 16, 3) := by decide +kernel
theorem dX1_remove_10 : decode cX1_remove 10 = .ok (.iload_n 1, 1) := by decide +kernel
theorem dX1_remove_11 : decode cX1_remove 11 = .ok (.istore_n 2, 1) := by decide +kernel
theorem dX1_remove_12 : decode cX1_remove 12 = .ok (.iload_n 2, 1) := by decide +kernel
theorem dX1_remove_13 : decode cX1_remove 13 = .ok (.aload_n 0, 1) := by decide +kernel
theorem dX1_remove_14 : decode cX1_remove 14 = .ok (.getfield 16, 3) := by decide +kernel
theorem dX1_remove_17 : decode cX1_remove 17 = .ok (.if_icmp .ge 37, 3) := by decide +kernel
theorem dX1_remove_20 : decode cX1_remove 20 = .ok (.aload_n 0, 1) := by decide +kernel
theorem dX1_remove_21 : decode cX1_remove 21 = .ok (.getfield 9, 3) := by decide +kernel
theorem dX1_remove_24 : decode cX1_remove 24 = .ok (.iload_n 2, 1) := by decide +kernel
theorem dX1_remove_25 : decode cX1_remove 25 = .ok (.aload_n 0, 1) := by decide +kernel
theorem dX1_remove_26 : decode cX1_remove 26 = .ok (.getfield 9, 3) := by decide +kernel
theorem dX1_remove_29 : decode cX1_remove 29 = .ok (.iload_n 2, 1) := by decide +kernel
theorem dX1_remove_30 : decode cX1_remove 30 = .ok (.iconst 1, 1) := by decide +kernel
theorem dX1_remove_31 : decode cX1_remove 31 = .ok (.iadd, 1) := by decide +kernel
theorem dX1_remove_32 : decode cX1_remove 32 = .ok (.iaload, 1) := by decide +kernel
theorem dX1_remove_33 : decode cX1_remove 33 = .ok (.iastore, 1) := by decide +kernel
theorem dX1_remove_34 : decode cX1_remove 34 = .ok (.aload_n 0, 1) := by decide +kernel
theorem dX1_remove_35 : decode cX1_remove 35 = .ok (.getfield 13, 3) := by decide +kernel
theorem dX1_remove_38 : decode cX1_remove 38 = .ok (.iload_n 2, 1) := by decide +kernel
theorem dX1_remove_39 : decode cX1_remove 39 = .ok (.aload_n 0, 1) := by decide +kernel
theorem dX1_remove_40 : decode cX1_remove 40 = .ok (.getfield 13, 3) := by decide +kernel
theorem dX1_remove_43 : decode cX1_remove 43 = .ok (.iload_n 2, 1) := by decide +kernel
theorem dX1_remove_44 : decode cX1_remove 44 = .ok (.iconst 1, 1) := by decide +kernel
theorem dX1_remove_45 : decode cX1_remove 45 = .ok (.iadd, 1) := by decide +kernel
theorem dX1_remove_46 : decode cX1_remove 46 = .ok (.iaload, 1) := by decide +kernel
theorem dX1_remove_47 : decode cX1_remove 47 = .ok (.iastore, 1) := by decide +kernel
theorem dX1_remove_48 : decode cX1_remove 48 = .ok (.iinc 2 1, 3) := by decide +kernel
theorem dX1_remove_51 : decode cX1_remove 51 = .ok (.goto (-39), 3) := by decide +kernel
theorem dX1_remove_54 : decode cX1_remove 54 = .ok (.return_, 1) := by decide +kernel
theorem dX2_init_0 : decode cX2_init 0 = .ok (.aload_n 0, 1) := by decide +kernel
theorem dX2_init_1 : decode cX2_init 1 = .ok (.invokespecial 3, 3) := by decide +kernel
theorem dX2_init_4 : decode cX2_init 4 = .ok (.aload_n 0, 1) := by decide +kernel
theorem dX2_init_5 : decode cX2_init 5 = .ok (.sipush 512, 3) := by decide +kernel
theorem dX2_init_8 : decode cX2_init 8 = .ok (.newarray .long, 2) := by decide +kernel
theorem dX2_init_10 : decode cX2_init 10 = .ok (.putfield 9, 3) := by decide +kernel
theorem dX2_init_13 : decode cX2_init 13 = .ok (.aload_n 0, 1) := by decide +kernel
theorem dX2_init_14 : decode cX2_init 14 = .ok (.iconst 4, 1) := by decide +kernel
theorem dX2_init_15 : decode cX2_init 15 = .ok (.newarray .int, 2) := by decide +kernel
theorem dX2_init_17 : decode cX2_init 17 = .ok (.putfield 15, 3) := by decide +kernel
theorem dX2_init_20 : decode cX2_init 20 = .ok (.aload_n 0, 1) := by decide +kernel
theorem dX2_init_21 : decode cX2_init 21 = .ok (.iconst 4, 1) := by decide +kernel
theorem dX2_init_22 : decode cX2_init 22 = .ok (.newarray .int, 2) := by decide +kernel
theorem dX2_init_24 : decode cX2_init 24 = .ok (.putfield 19, 3) := by decide +kernel
theorem dX2_init_27 : decode cX2_init 27 = .ok (.aload_n 0, 1) := by decide +kernel
theorem dX2_init_28 : decode cX2_init 28 = .ok (.iconst 4, 1) := by decide +kernel
theorem dX2_init_29 : decode cX2_init 29 = .ok (.newarray .long, 2) := by decide +kernel
theorem dX2_init_31 : decode cX2_init 31 = .ok (.putfield 22, 3) := by decide +kernel
theorem dX2_init_34 : decode cX2_init 34 = .ok (.return_, 1) := by decide +kernel
theorem dX2_load_0 : decode cX2_load 0 = .ok (.aload_n 0, 1) := by decide +kernel
theorem dX2_load_1 : decode cX2_load 1 = .ok (.getfield 9, 3) := by decide +kernel
theorem dX2_load_4 : decode cX2_load 4 = .ok (.iload_n 1, 1) := by decide +kernel
theorem dX2_load_5 : decode cX2_load 5 = .ok (.iconst 3, 1) := by decide +kernel
theorem dX2_load_6 : decode cX2_load 6 = .ok (.ishr, 1) := by decide +kernel
theorem dX2_load_7 : decode cX2_load 7 = .ok (.laload, 1) := by decide +kernel
theorem dX2_load_8 : decode cX2_load 8 = .ok (.lstore_n 3, 1) := by decide +kernel
theorem dX2_load_9 : decode cX2_load 9 = .ok (.iload_n 2, 1) := by decide +kernel
theorem dX2_load_10 : decode cX2_load 10 = .ok (.ifCond .eq 7, 3) := by decide +kernel
theorem dX2_load_13 : decode cX2_load 13 = .ok (.lload_n 3, 1) := by decide +kernel
theorem dX2_load_14 : decode cX2_load 14 = .ok (.goto 13, 3) := by decide +kernel
theorem dX2_load_17 : decode cX2_load 17 = .ok (.lload_n 3, 1) := by decide +kernel
theorem dX2_load_18 : decode cX2_load 18 = .ok (.bipush 8, 2) := by decide +kernel
theorem dX2_load_20 : decode cX2_load 20 = .ok (.iload_n 1, 1) := by decide +kernel
theorem dX2_load_21 : decode cX2_load 21 = .ok (.iconst 4, 1) := by decide +kernel
theorem dX2_load_22 : decode cX2_load 22 = .ok (.iand, 1) := by decide +kernel
theorem dX2_load_23 : decode cX2_load 23 = .ok (.imul, 1) := by decide +kernel
theorem dX2_load_24 : decode cX2_load 24 = .ok (.lushr, 1) := by decide +kernel
theorem dX2_load_25 : decode cX2_load 25 = .ok (.l2i, 1) := by decide +kernel
theorem dX2_load_26 : decode cX2_load 26 = .ok (.i2l, 1) := by decide +kernel
theorem dX2_load_27 : decode cX2_load 27 = .ok (.lreturn, 1) := by decide +kernel
theorem dX2_store_0 : decode cX2_store 0 = .ok (.bipush 8, 2) := by decide +kernel
theorem dX2_store_2 : decode cX2_store 2 = .ok (.iload_n 1, 1) := by decide +kernel
theorem dX2_store_3 : decode cX2_store 3 = .ok (.iconst 4, 1) := by decide +kernel
theorem dX2_store_4 : decode cX2_store 4 = .ok (.iand, 1) := by decide +kernel
theorem dX2_store_5 : decode cX2_store 5 = .ok (.imul, 1) := by decide +kernel
theorem dX2_store_6 : decode cX2_store 6 = .ok (.istore 5, 2) := by decide +kernel
theorem dX2_store_8 : decode cX2_store 8 = .ok (.iload_n 2, 1) := by decide +kernel
theorem dX2_store_9 : decode cX2_store 9 = .ok (.ifCond .eq 9, 3) := by decide +kernel
theorem dX2_store_12 : decode cX2_store 12 = .ok (.ldc2_w 25, 3) := by decide +kernel
theorem dX2_store_15 : decode cX2_store 15 = .ok (.goto 9, 3) := by decide +kernel
theorem dX2_store_18 : decode cX2_store 18 = .ok (.ldc2_w 27, 3) := by decide +kernel
theorem dX2_store_21 : decode cX2_store 21 = .ok (.iload 5, 2) := by decide +kernel
theorem dX2_store_23 : decode cX2_store 23 = .ok (.lshl, 1) := by decide +kernel
theorem dX2_store_24 : decode cX2_store 24 = .ok (.lstore 6, 2) := by decide +kernel
theorem dX2_store_26 : decode cX2_store 26 = .ok (.iload_n 2, 1) := by decide +kernel
theorem dX2_store_27 : decode cX2_store 27 = .ok (.ifCond .eq 7, 3) := by decide +kernel
theorem dX2_store_30 : decode cX2_store 30 = .ok (.lload_n 3, 1) := by decide +kernel
theorem dX2_store_31 : decode cX2_store 31 = .ok (.goto 7, 3) := by decide +kernel
theorem dX2_store_34 : decode cX2_store 34 = .ok (.lload_n 3, 1) := by decide +kernel
theorem dX2_store_35 : decode cX2_store 35 = .ok (.iload 5, 2) := by decide +kernel
theorem dX2_store_37 : decode cX2_store 37 = .ok (.lshl, 1) := by decide +kernel
theorem dX2_store_38 : decode cX2_store 38 = .ok (.lstore 8, 2) := by decide +kernel
theorem dX2_store_40 : decode cX2_store 40 = .ok (.aload_n 0, 1) := by decide +kernel
theorem dX2_store_41 : decode cX2_store 41 = .ok (.getfield 9, 3) := by decide +kernel
theorem dX2_store_44 : decode cX2_store 44 = .ok (.iload_n 1, 1) := by decide +kernel
theorem dX2_store_45 : decode cX2_store 45 = .ok (.iconst 3, 1) := by decide +kernel
theorem dX2_store_46 : decode cX2_store 46 = .ok (.ishr, 1) := by decide +kernel
theorem dX2_store_47 : decode cX2_store 47 = .ok (.aload_n 0, 1) := by decide +kernel
theorem dX2_store_48 : decode cX2_store 48 = .ok (.getfield 9, 3) := by decide +kernel
theorem dX2_store_51 : decode cX2_store 51 = .ok (.iload_n 1, 1) := by decide +kernel
theorem dX2_store_52 : decode cX2_store 52 = .ok (.iconst 3, 1) := by decide +kernel
theorem dX2_store_53 : decode cX2_store 53 = .ok (.ishr, 1) := by decide +kernel
theorem dX2_store_54 : decode cX2_store 54 = .ok (.laload, 1) := by decide +kernel
theorem dX2_store_55 : decode cX2_store 55 = .ok (.lload 6, 2) := by decide +kernel
theorem dX2_store_57 : decode cX2_store 57 = .ok (.ldc2_w 25, 3) := by decide +kernel
theorem dX2_store_60 : decode cX2_store 60 = .ok (.lxor, 1) := by decide +kernel
theorem dX2_store_61 : decode cX2_store 61 = .ok (.land, 1) := by decide +kernel
theorem dX2_store_62 : decode cX2_store 62 = .ok (.lload 8, 2) := by decide +kernel
theorem dX2_store_64 : decode cX2_store 64 = .ok (.lload 6, 2) := by decide +kernel
theorem dX2_store_66 : decode cX2_store 66 = .ok (.land, 1) := by decide +kernel
theorem dX2_store_67 : decode cX2_store 67 = .ok (.lor, 1) := by decide +kernel
theorem dX2_store_68 : decode cX2_store 68 = .ok (.lastore, 1) := by decide +kernel
theorem dX2_store_69 : decode cX2_store 69 = .ok (.return_, 1) := by decide +kernel
theorem dX2_emptyBuffer_0 : decode cX2_emptyBuffer 0 = .ok (.aload_n 0, 1) := by decide +kernel
theorem dX2_emptyBuffer_1 : decode cX2_emptyBuffer 1 = .ok (.iconst 0, 1) := by decide +kernel
theorem dX2_emptyBuffer_2 : decode cX2_emptyBuffer 2 = .ok (.putfield 29, 3) := by decide +kernel
theorem dX2_emptyBuffer_5 : decode cX2_emptyBuffer 5 = .ok (.aload_n 0, 1) := by decide +kernel
theorem dX2_emptyBuffer_6 : decode cX2_emptyBuffer 6 = .ok (.iconst 0, 1) := by decide +kernel
theorem dX2_emptyBuffer_7 : decode cX2_emptyBuffer 7 = .ok (.putfield 33, 3) := by decide +kernel
theorem dX2_emptyBuffer_10 : decode cX2_emptyBuffer 10 = .ok (.return_, 1) := by decide +kernel
theorem dX2_faulted_0 : decode cX2_faulted 0 = .ok (.iconst (-1), 1) := by decide +kernel
theorem dX2_faulted_1 : decode cX2_faulted 1 = .ok (.iload_n 0, 1) := by decide +kernel
theorem dX2_faulted_2 : decode cX2_faulted 2 = .ok (.isub, 1) := by decide +kernel
theorem dX2_faulted_3 : decode cX2_faulted 3 = .ok (.ireturn, 1) := by decide +kernel
theorem dX2_faultOf_0 : decode cX2_faultOf 0 = .ok (.iconst (-1), 1) := by decide +kernel
theorem dX2_faultOf_1 : decode cX2_faultOf 1 = .ok (.iload_n 0, 1) := by decide +kernel
theorem dX2_faultOf_2 : decode cX2_faultOf 2 = .ok (.isub, 1) := by decide +kernel
theorem dX2_faultOf_3 : decode cX2_faultOf 3 = .ok (.ireturn, 1) := by decide +kernel
theorem dX2_place_0 : decode cX2_place 0 = .ok (.lload_n 1, 1) := by decide +kernel
theorem dX2_place_1 : decode cX2_place 1 = .ok (.lconst 0, 1) := by decide +kernel
theorem dX2_place_2 : decode cX2_place 2 = .ok (.lcmp, 1) := by decide +kernel
theorem dX2_place_3 : decode cX2_place 3 = .ok (.ifCond .lt 11, 3) := by decide +kernel
theorem dX2_place_6 : decode cX2_place 6 = .ok (.lload_n 1, 1) := by decide +kernel
theorem dX2_place_7 : decode cX2_place 7 = .ok (.ldc2_w 36, 3) := by decide +kernel
theorem dX2_place_10 : decode cX2_place 10 = .ok (.lcmp, 1) := by decide +kernel
theorem dX2_place_11 : decode cX2_place 11 = .ok (.ifCond .lt 10, 3) := by decide +kernel
theorem dX2_place_14 : decode cX2_place 14 = .ok (.lload_n 1, 1) := by decide +kernel
theorem dX2_place_15 : decode cX2_place 15 = .ok (.iload 4, 2) := by decide +kernel
theorem dX2_place_17 : decode cX2_place 17 = .ok (.invokestatic 38, 3) := by decide +kernel
theorem dX2_place_20 : decode cX2_place 20 = .ok (.ireturn, 1) := by decide +kernel
theorem dX2_place_21 : decode cX2_place 21 = .ok (.lload_n 1, 1) := by decide +kernel
theorem dX2_place_22 : decode cX2_place 22 = .ok (.l2i, 1) := by decide +kernel
theorem dX2_place_23 : decode cX2_place 23 = .ok (.bipush 8, 2) := by decide +kernel
theorem dX2_place_25 : decode cX2_place 25 = .ok (.ishr, 1) := by decide +kernel
theorem dX2_place_26 : decode cX2_place 26 = .ok (.istore 5, 2) := by decide +kernel
theorem dX2_place_28 : decode cX2_place 28 = .ok (.aload_n 0, 1) := by decide +kernel
theorem dX2_place_29 : decode cX2_place 29 = .ok (.iload 5, 2) := by decide +kernel
theorem dX2_place_31 : decode cX2_place 31 = .ok (.invokevirtual 42, 3) := by decide +kernel
theorem dX2_place_34 : decode cX2_place 34 = .ok (.istore 6, 2) := by decide +kernel
theorem dX2_place_36 : decode cX2_place 36 = .ok (.iload 6, 2) := by decide +kernel
theorem dX2_place_38 : decode cX2_place 38 = .ok (.ifCond .lt 13, 3) := by decide +kernel
theorem dX2_place_41 : decode cX2_place 41 = .ok (.aload_n 0, 1) := by decide +kernel
theorem dX2_place_42 : decode cX2_place 42 = .ok (.getfield 22, 3) := by decide +kernel
theorem dX2_place_45 : decode cX2_place 45 = .ok (.iload 6, 2) := by decide +kernel
theorem dX2_place_47 : decode cX2_place 47 = .ok (.laload, 1) := by decide +kernel
theorem dX2_place_48 : decode cX2_place 48 = .ok (.goto 9, 3) := by decide +kernel
theorem dX2_place_51 : decode cX2_place 51 = .ok (.aload_n 0, 1) := by decide +kernel
theorem dX2_place_52 : decode cX2_place 52 = .ok (.iload 5, 2) := by decide +kernel
theorem dX2_place_54 : decode cX2_place 54 = .ok (.invokevirtual 46, 3) := by decide +kernel
theorem dX2_place_57 : decode cX2_place 57 = .ok (.lstore 7, 2) := by decide +kernel
theorem dX2_place_59 : decode cX2_place 59 = .ok (.lload 7, 2) := by decide +kernel
theorem dX2_place_61 : decode cX2_place 61 = .ok (.iload_n 3, 1) := by decide +kernel
theorem dX2_place_62 : decode cX2_place 62 = .ok (.iload 4, 2) := by decide +kernel
theorem dX2_place_64 : decode cX2_place 64 = .ok (.invokestatic 50, 3) := by decide +kernel
theorem dX2_place_67 : decode cX2_place 67 = .ok (.istore 9, 2) := by decide +kernel
theorem dX2_place_69 : decode cX2_place 69 = .ok (.iload 9, 2) := by decide +kernel
theorem dX2_place_71 : decode cX2_place 71 = .ok (.ifCond .lt 11, 3) := by decide +kernel
theorem dX2_place_74 : decode cX2_place 74 = .ok (.iload 9, 2) := by decide +kernel
theorem dX2_place_76 : decode cX2_place 76 = .ok (.invokestatic 54, 3) := by decide +kernel
theorem dX2_place_79 : decode cX2_place 79 = .ok (.goto 19, 3) := by decide +kernel
theorem dX2_place_82 : decode cX2_place 82 = .ok (.sipush 256, 3) := by decide +kernel
theorem dX2_place_85 : decode cX2_place 85 = .ok (.lload 7, 2) := by decide +kernel
theorem dX2_place_87 : decode cX2_place 87 = .ok (.invokestatic 57, 3) := by decide +kernel
theorem dX2_place_90 : decode cX2_place 90 = .ok (.imul, 1) := by decide +kernel
theorem dX2_place_91 : decode cX2_place 91 = .ok (.lload_n 1, 1) := by decide +kernel
theorem dX2_place_92 : decode cX2_place 92 = .ok (.l2i, 1) := by decide +kernel
theorem dX2_place_93 : decode cX2_place 93 = .ok (.sipush 255, 3) := by decide +kernel
theorem dX2_place_96 : decode cX2_place 96 = .ok (.iand, 1) := by decide +kernel
theorem dX2_place_97 : decode cX2_place 97 = .ok (.iadd, 1) := by decide +kernel
theorem dX2_place_98 : decode cX2_place 98 = .ok (.ireturn, 1) := by decide +kernel
theorem dX2_directPlace_0 : decode cX2_directPlace 0 = .ok (.lload_n 0, 1) := by decide +kernel
theorem dX2_directPlace_1 : decode cX2_directPlace 1 = .ok (.ldc2_w 61, 3) := by decide +kernel
theorem dX2_directPlace_4 : decode cX2_directPlace 4 = .ok (.lcmp, 1) := by decide +kernel
theorem dX2_directPlace_5 : decode cX2_directPlace 5 = .ok (.ifCond .lt 15, 3) := by decide +kernel
theorem dX2_directPlace_8 : decode cX2_directPlace 8 = .ok (.lload_n 0, 1) := by decide +kernel
theorem dX2_directPlace_9 : decode cX2_directPlace 9 = .ok (.ldc2_w 63, 3) := by decide +kernel
theorem dX2_directPlace_12 : decode cX2_directPlace 12 = .ok (.lcmp, 1) := by decide +kernel
theorem dX2_directPlace_13 : decode cX2_directPlace 13 = .ok (.ifCond .ge 7, 3) := by decide +kernel
theorem dX2_directPlace_16 : decode cX2_directPlace 16 = .ok (.iconst 1, 1) := by decide +kernel
theorem dX2_directPlace_17 : decode cX2_directPlace 17 = .ok (.goto 4, 3) := by decide +kernel
theorem dX2_directPlace_20 : decode cX2_directPlace 20 = .ok (.iconst 0, 1) := by decide +kernel
theorem dX2_directPlace_21 : decode cX2_directPlace 21 = .ok (.istore_n 3, 1) := by decide +kernel
theorem dX2_directPlace_22 : decode cX2_directPlace 22 = .ok (.iload_n 3, 1) := by decide +kernel
theorem dX2_directPlace_23 : decode cX2_directPlace 23 = .ok (.ifCond .eq 15, 3) := by decide +kernel
theorem dX2_directPlace_26 : decode cX2_directPlace 26 = .ok (.iload_n 2, 1) := by decide +kernel
theorem dX2_directPlace_27 : decode cX2_directPlace 27 = .ok (.ifCond .ne 11, 3) := by decide +kernel
theorem dX2_directPlace_30 : decode cX2_directPlace 30 = .ok (.lload_n 0, 1) := by decide +kernel
theorem dX2_directPlace_31 : decode cX2_directPlace 31 = .ok (.l2i, 1) := by decide +kernel
theorem dX2_directPlace_32 : decode cX2_directPlace 32 = .ok (.ldc 65, 2) := by decide +kernel
theorem dX2_directPlace_34 : decode cX2_directPlace 34 = .ok (.isub, 1) := by decide +kernel
theorem dX2_directPlace_35 : decode cX2_directPlace 35 = .ok (.goto 7, 3) := by decide +kernel
theorem dX2_directPlace_38 : decode cX2_directPlace 38 = .ok (.iconst 1, 1) := by decide +kernel
theorem dX2_directPlace_39 : decode cX2_directPlace 39 = .ok (.invokestatic 54, 3) := by decide +kernel
theorem dX2_directPlace_42 : decode cX2_directPlace 42 = .ok (.ireturn, 1) := by decide +kernel
theorem dX2_find_0 : decode cX2_find 0 = .ok (.iconst 0, 1) := by decide +kernel
theorem dX2_find_1 : decode cX2_find 1 = .ok (.istore_n 2, 1) := by decide +kernel
theorem dX2_find_2 : decode cX2_find 2 = .ok (.iload_n 2, 1) := by decide +kernel
theorem dX2_find_3 : decode cX2_find 3 = .ok (.aload_n 0, 1) := by decide +kernel
theorem dX2_find_4 : decode cX2_find 4 = .ok (.getfield 29, 3) := by decide +kernel
theorem dX2_find_7 : decode cX2_find 7 = .ok (.if_icmp .ge 34, 3) := by decide +kernel
theorem dX2_find_10 : decode cX2_find 10 = .ok (.aload_n 0, 1) := by decide +kernel
theorem dX2_find_11 : decode cX2_find 11 = .ok (.getfield 15, 3) := by decide +kernel
theorem dX2_find_14 : decode cX2_find 14 = .ok (.iload_n 2, 1) := by decide +kernel
theorem dX2_find_15 : decode cX2_find 15 = .ok (.iaload, 1) := by decide +kernel
theorem dX2_find_16 : decode cX2_find 16 = .ok (.iload_n 1, 1) := by decide +kernel
theorem dX2_find_17 : decode cX2_find 17 = .ok (.if_icmp .ne 18, 3) := by decide +kernel
theorem dX2_find_20 : decode cX2_find 20 = .ok (.aload_n 0, 1) := by decide +kernel
theorem dX2_find_21 : decode cX2_find 21 = .ok (.getfield 19, 3) := by decide +kernel
theorem dX2_find_24 : decode cX2_find 24 = .ok (.iload_n 2, 1) := by decide +kernel
theorem dX2_find_25 : decode cX2_find 25 = .ok (.iaload, 1) := by decide +kernel
theorem dX2_find_26 : decode cX2_find 26 = .ok (.aload_n 0, 1) := by decide +kernel
theorem dX2_find_27 : decode cX2_find 27 = .ok (.getfield 66, 3) := by decide +kernel
theorem dX2_find_30 : decode cX2_find 30 = .ok (.if_icmp .ne 5, 3) := by decide +kernel
theorem dX2_find_33 : decode cX2_find 33 = .ok (.iload_n 2, 1) := by decide +kernel
theorem dX2_find_34 : decode cX2_find 34 = .ok (.ireturn, 1) := by decide +kernel
theorem dX2_find_35 : decode cX2_find 35 = .ok (.iinc 2 1, 3) := by decide +kernel
theorem dX2_find_38 : decode cX2_find 38 = .ok (.goto (-36), 3) := by decide +kernel
theorem dX2_find_41 : decode cX2_find 41 = .ok (.iconst (-1), 1) := by decide +kernel
theorem dX2_find_42 : decode cX2_find 42 = .ok (.ireturn, 1) := by decide +kernel
theorem dX2_walk_0 : decode cX2_walk 0 = .ok (.aload_n 0, 1) := by decide +kernel
theorem dX2_walk_1 : decode cX2_walk 1 = .ok (.getfield 9, 3) := by decide +kernel
theorem dX2_walk_4 : decode cX2_walk 4 = .ok (.aload_n 0, 1) := by decide +kernel
theorem dX2_walk_5 : decode cX2_walk 5 = .ok (.getfield 69, 3) := by decide +kernel
theorem dX2_walk_8 : decode cX2_walk 8 = .ok (.iconst 3, 1) := by decide +kernel
theorem dX2_walk_9 : decode cX2_walk 9 = .ok (.ishr, 1) := by decide +kernel
theorem dX2_walk_10 : decode cX2_walk 10 = .ok (.iload_n 1, 1) := by decide +kernel
theorem dX2_walk_11 : decode cX2_walk 11 = .ok (.iconst 4, 1) := by decide +kernel
theorem dX2_walk_12 : decode cX2_walk 12 = .ok (.ishr, 1) := by decide +kernel
theorem dX2_walk_13 : decode cX2_walk 13 = .ok (.iconst 3, 1) := by decide +kernel
theorem dX2_walk_14 : decode cX2_walk 14 = .ok (.iand, 1) := by decide +kernel
theorem dX2_walk_15 : decode cX2_walk 15 = .ok (.iadd, 1) := by decide +kernel
theorem dX2_walk_16 : decode cX2_walk 16 = .ok (.laload, 1) := by decide +kernel
theorem dX2_walk_17 : decode cX2_walk 17 = .ok (.lstore_n 2, 1) := by decide +kernel
theorem dX2_walk_18 : decode cX2_walk 18 = .ok (.lload_n 2, 1) := by decide +kernel
theorem dX2_walk_19 : decode cX2_walk 19 = .ok (.lconst 1, 1) := by decide +kernel
theorem dX2_walk_20 : decode cX2_walk 20 = .ok (.land, 1) := by decide +kernel
theorem dX2_walk_21 : decode cX2_walk 21 = .ok (.lconst 0, 1) := by decide +kernel
theorem dX2_walk_22 : decode cX2_walk 22 = .ok (.lcmp, 1) := by decide +kernel
theorem dX2_walk_23 : decode cX2_walk 23 = .ok (.ifCond .ne 7, 3) := by decide +kernel
theorem dX2_walk_26 : decode cX2_walk 26 = .ok (.ldc2_w 72, 3) := by decide +kernel
theorem dX2_walk_29 : decode cX2_walk 29 = .ok (.lreturn, 1) := by decide +kernel
theorem dX2_walk_30 : decode cX2_walk 30 = .ok (.aload_n 0, 1) := by decide +kernel
theorem dX2_walk_31 : decode cX2_walk 31 = .ok (.getfield 9, 3) := by decide +kernel
theorem dX2_walk_34 : decode cX2_walk 34 = .ok (.bipush 32, 2) := by decide +kernel
theorem dX2_walk_36 : decode cX2_walk 36 = .ok (.lload_n 2, 1) := by decide +kernel
theorem dX2_walk_37 : decode cX2_walk 37 = .ok (.invokestatic 57, 3) := by decide +kernel
theorem dX2_walk_40 : decode cX2_walk 40 = .ok (.imul, 1) := by decide +kernel
theorem dX2_walk_41 : decode cX2_walk 41 = .ok (.iload_n 1, 1) := by decide +kernel
theorem dX2_walk_42 : decode cX2_walk 42 = .ok (.iconst 2, 1) := by decide +kernel
theorem dX2_walk_43 : decode cX2_walk 43 = .ok (.ishr, 1) := by decide +kernel
theorem dX2_walk_44 : decode cX2_walk 44 = .ok (.iconst 3, 1) := by decide +kernel
theorem dX2_walk_45 : decode cX2_walk 45 = .ok (.iand, 1) := by decide +kernel
theorem dX2_walk_46 : decode cX2_walk 46 = .ok (.iadd, 1) := by decide +kernel
theorem dX2_walk_47 : decode cX2_walk 47 = .ok (.laload, 1) := by decide +kernel
theorem dX2_walk_48 : decode cX2_walk 48 = .ok (.lstore 4, 2) := by decide +kernel
theorem dX2_walk_50 : decode cX2_walk 50 = .ok (.lload 4, 2) := by decide +kernel
theorem dX2_walk_52 : decode cX2_walk 52 = .ok (.lconst 1, 1) := by decide +kernel
theorem dX2_walk_53 : decode cX2_walk 53 = .ok (.land, 1) := by decide +kernel
theorem dX2_walk_54 : decode cX2_walk 54 = .ok (.lconst 0, 1) := by decide +kernel
theorem dX2_walk_55 : decode cX2_walk 55 = .ok (.lcmp, 1) := by decide +kernel
theorem dX2_walk_56 : decode cX2_walk 56 = .ok (.ifCond .ne 7, 3) := by decide +kernel
theorem dX2_walk_59 : decode cX2_walk 59 = .ok (.ldc2_w 72, 3) := by decide +kernel
theorem dX2_walk_62 : decode cX2_walk 62 = .ok (.lreturn, 1) := by decide +kernel
theorem dX2_walk_63 : decode cX2_walk 63 = .ok (.aload_n 0, 1) := by decide +kernel
theorem dX2_walk_64 : decode cX2_walk 64 = .ok (.getfield 9, 3) := by decide +kernel
theorem dX2_walk_67 : decode cX2_walk 67 = .ok (.bipush 32, 2) := by decide +kernel
theorem dX2_walk_69 : decode cX2_walk 69 = .ok (.lload 4, 2) := by decide +kernel
theorem dX2_walk_71 : decode cX2_walk 71 = .ok (.invokestatic 57, 3) := by decide +kernel
theorem dX2_walk_74 : decode cX2_walk 74 = .ok (.imul, 1) := by decide +kernel
theorem dX2_walk_75 : decode cX2_walk 75 = .ok (.iload_n 1, 1) := by decide +kernel
theorem dX2_walk_76 : decode cX2_walk 76 = .ok (.iconst 3, 1) := by decide +kernel
theorem dX2_walk_77 : decode cX2_walk 77 = .ok (.iand, 1) := by decide +kernel
theorem dX2_walk_78 : decode cX2_walk 78 = .ok (.iadd, 1) := by decide +kernel
theorem dX2_walk_79 : decode cX2_walk 79 = .ok (.laload, 1) := by decide +kernel
theorem dX2_walk_80 : decode cX2_walk 80 = .ok (.lstore 6, 2) := by decide +kernel
theorem dX2_walk_82 : decode cX2_walk 82 = .ok (.lload 6, 2) := by decide +kernel
theorem dX2_walk_84 : decode cX2_walk 84 = .ok (.lconst 1, 1) := by decide +kernel
theorem dX2_walk_85 : decode cX2_walk 85 = .ok (.land, 1) := by decide +kernel
theorem dX2_walk_86 : decode cX2_walk 86 = .ok (.lconst 0, 1) := by decide +kernel
theorem dX2_walk_87 : decode cX2_walk 87 = .ok (.lcmp, 1) := by decide +kernel
theorem dX2_walk_88 : decode cX2_walk 88 = .ok (.ifCond .eq 10, 3) := by decide +kernel
theorem dX2_walk_91 : decode cX2_walk 91 = .ok (.aload_n 0, 1) := by decide +kernel
theorem dX2_walk_92 : decode cX2_walk 92 = .ok (.iload_n 1, 1) := by decide +kernel
theorem dX2_walk_93 : decode cX2_walk 93 = .ok (.lload 6, 2) := by decide +kernel
theorem dX2_walk_95 : decode cX2_walk 95 = .ok (.invokevirtual 74, 3) := by decide +kernel
theorem dX2_walk_98 : decode cX2_walk 98 = .ok (.lload 6, 2) := by decide +kernel
theorem dX2_walk_100 : decode cX2_walk 100 = .ok (.lreturn, 1) := by decide +kernel
theorem dX2_keep_0 : decode cX2_keep 0 = .ok (.aload_n 0, 1) := by decide +kernel
theorem dX2_keep_1 : decode cX2_keep 1 = .ok (.getfield 29, 3) := by decide +kernel
theorem dX2_keep_4 : decode cX2_keep 4 = .ok (.istore 4, 2) := by decide +kernel
theorem dX2_keep_6 : decode cX2_keep 6 = .ok (.aload_n 0, 1) := by decide +kernel
theorem dX2_keep_7 : decode cX2_keep 7 = .ok (.getfield 29, 3) := by decide +kernel
theorem dX2_keep_10 : decode cX2_keep 10 = .ok (.iconst 4, 1) := by decide +kernel
theorem dX2_keep_11 : decode cX2_keep 11 = .ok (.if_icmp .ge 16, 3) := by decide +kernel
theorem dX2_keep_14 : decode cX2_keep 14 = .ok (.aload_n 0, 1) := by decide +kernel
theorem dX2_keep_15 : decode cX2_keep 15 = .ok (.dup, 1) := by decide +kernel
theorem dX2_keep_16 : decode cX2_keep 16 = .ok (.getfield 29, 3) := by decide +kernel
theorem dX2_keep_19 : decode cX2_keep 19 = .ok (.iconst 1, 1) := by decide +kernel
theorem dX2_keep_20 : decode cX2_keep 20 = .ok (.iadd, 1) := by decide +kernel
theorem dX2_keep_21 : decode cX2_keep 21 = .ok (.putfield 29, 3) := by decide +kernel
theorem dX2_keep_24 : decode cX2_keep 24 = .ok (.goto 21, 3) := by decide +kernel
theorem dX2_keep_27 : decode cX2_keep 27 = .ok (.aload_n 0, 1) := by decide +kernel
theorem dX2_keep_28 : decode cX2_keep 28 = .ok (.getfield 33, 3) := by decide +kernel
theorem dX2_keep_31 : decode cX2_keep 31 = .ok (.istore 4, 2) := by decide +kernel
theorem dX2_keep_33 : decode cX2_keep 33 = .ok (.aload_n 0, 1) := by decide +kernel
theorem dX2_keep_34 : decode cX2_keep 34 = .ok (.aload_n 0, 1) := by decide +kernel
theorem dX2_keep_35 : decode cX2_keep 35 = .ok (.getfield 33, 3) := by decide +kernel
theorem dX2_keep_38 : decode cX2_keep 38 = .ok (.iconst 1, 1) := by decide +kernel
theorem dX2_keep_39 : decode cX2_keep 39 = .ok (.iadd, 1) := by decide +kernel
theorem dX2_keep_40 : decode cX2_keep 40 = .ok (.iconst 4, 1) := by decide +kernel
theorem dX2_keep_41 : decode cX2_keep 41 = .ok (.irem, 1) := by decide +kernel
theorem dX2_keep_42 : decode cX2_keep 42 = .ok (.putfield 33, 3) := by decide +kernel
theorem dX2_keep_45 : decode cX2_keep 45 = .ok (.aload_n 0, 1) := by decide +kernel
theorem dX2_keep_46 : decode cX2_keep 46 = .ok (.getfield 15, 3) := by decide +kernel
theorem dX2_keep_49 : decode cX2_keep 49 = .ok (.iload 4, 2) := by decide +kernel
theorem dX2_keep_51 : decode cX2_keep 51 = .ok (.iload_n 1, 1) := by decide +kernel
theorem dX2_keep_52 : decode cX2_keep 52 = .ok (.iastore, 1) := by decide +kernel
theorem dX2_keep_53 : decode cX2_keep 53 = .ok (.aload_n 0, 1) := by decide +kernel
theorem dX2_keep_54 : decode cX2_keep 54 = .ok (.getfield 19, 3) := by decide +kernel
theorem dX2_keep_57 : decode cX2_keep 57 = .ok (.iload 4, 2) := by decide +kernel
theorem dX2_keep_59 : decode cX2_keep 59 = .ok (.aload_n 0, 1) := by decide +kernel
theorem dX2_keep_60 : decode cX2_keep 60 = .ok (.getfield 66, 3) := by decide +kernel
theorem dX2_keep_63 : decode cX2_keep 63 = .ok (.iastore, 1) := by decide +kernel
theorem dX2_keep_64 : decode cX2_keep 64 = .ok (.aload_n 0, 1) := by decide +kernel
theorem dX2_keep_65 : decode cX2_keep 65 = .ok (.getfield 22, 3) := by decide +kernel
theorem dX2_keep_68 : decode cX2_keep 68 = .ok (.iload 4, 2) := by decide +kernel
theorem dX2_keep_70 : decode cX2_keep 70 = .ok (.lload_n 2, 1) := by decide +kernel
theorem dX2_keep_71 : decode cX2_keep 71 = .ok (.lastore, 1) := by decide +kernel
theorem dX2_keep_72 : decode cX2_keep 72 = .ok (.return_, 1) := by decide +kernel
theorem dX2_numberOf_0 : decode cX2_numberOf 0 = .ok (.lload_n 0, 1) := by decide +kernel
theorem dX2_numberOf_1 : decode cX2_numberOf 1 = .ok (.bipush 32, 2) := by decide +kernel
theorem dX2_numberOf_3 : decode cX2_numberOf 3 = .ok (.lushr, 1) := by decide +kernel
theorem dX2_numberOf_4 : decode cX2_numberOf 4 = .ok (.l2i, 1) := by decide +kernel
theorem dX2_numberOf_5 : decode cX2_numberOf 5 = .ok (.bipush 15, 2) := by decide +kernel
theorem dX2_numberOf_7 : decode cX2_numberOf 7 = .ok (.iand, 1) := by decide +kernel
theorem dX2_numberOf_8 : decode cX2_numberOf 8 = .ok (.ireturn, 1) := by decide +kernel
theorem dX2_faultIn_0 : decode cX2_faultIn 0 = .ok (.lload_n 0, 1) := by decide +kernel
theorem dX2_faultIn_1 : decode cX2_faultIn 1 = .ok (.l2i, 1) := by decide +kernel
theorem dX2_faultIn_2 : decode cX2_faultIn 2 = .ok (.istore 4, 2) := by decide +kernel
theorem dX2_faultIn_4 : decode cX2_faultIn 4 = .ok (.iload_n 2, 1) := by decide +kernel
theorem dX2_faultIn_5 : decode cX2_faultIn 5 = .ok (.iconst 1, 1) := by decide +kernel
theorem dX2_faultIn_6 : decode cX2_faultIn 6 = .ok (.if_icmp .ne 8, 3) := by decide +kernel
theorem dX2_faultIn_9 : decode cX2_faultIn 9 = .ok (.bipush 6, 2) := by decide +kernel
theorem dX2_faultIn_11 : decode cX2_faultIn 11 = .ok (.goto 4, 3) := by decide +kernel
theorem dX2_faultIn_14 : decode cX2_faultIn 14 = .ok (.iconst 4, 1) := by decide +kernel
theorem dX2_faultIn_15 : decode cX2_faultIn 15 = .ok (.iload_n 3, 1) := by decide +kernel
theorem dX2_faultIn_16 : decode cX2_faultIn 16 = .ok (.iadd, 1) := by decide +kernel
theorem dX2_faultIn_17 : decode cX2_faultIn 17 = .ok (.istore 5, 2) := by decide +kernel
theorem dX2_faultIn_19 : decode cX2_faultIn 19 = .ok (.iload 4, 2) := by decide +kernel
theorem dX2_faultIn_21 : decode cX2_faultIn 21 = .ok (.iload 5, 2) := by decide +kernel
theorem dX2_faultIn_23 : decode cX2_faultIn 23 = .ok (.ishr, 1) := by decide +kernel
theorem dX2_faultIn_24 : decode cX2_faultIn 24 = .ok (.iconst 1, 1) := by decide +kernel
theorem dX2_faultIn_25 : decode cX2_faultIn 25 = .ok (.iand, 1) := by decide +kernel
theorem dX2_faultIn_26 : decode cX2_faultIn 26 = .ok (.ifCond .ne 5, 3) := by decide +kernel
theorem dX2_faultIn_29 : decode cX2_faultIn 29 = .ok (.iconst 1, 1) := by decide +kernel
theorem dX2_faultIn_30 : decode cX2_faultIn 30 = .ok (.ireturn, 1) := by decide +kernel
theorem dX2_faultIn_31 : decode cX2_faultIn 31 = .ok (.iload 4, 2) := by decide +kernel
theorem dX2_faultIn_33 : decode cX2_faultIn 33 = .ok (.iconst 1, 1) := by decide +kernel
theorem dX2_faultIn_34 : decode cX2_faultIn 34 = .ok (.iand, 1) := by decide +kernel
theorem dX2_faultIn_35 : decode cX2_faultIn 35 = .ok (.ifCond .ne 5, 3) := by decide +kernel
theorem dX2_faultIn_38 : decode cX2_faultIn 38 = .ok (.iconst 0, 1) := by decide +kernel
theorem dX2_faultIn_39 : decode cX2_faultIn 39 = .ok (.ireturn, 1) := by decide +kernel
theorem dX2_faultIn_40 : decode cX2_faultIn 40 = .ok (.iload_n 2, 1) := by decide +kernel
theorem dX2_faultIn_41 : decode cX2_faultIn 41 = .ok (.lookupswitch 53 #[(0, 27), (1, 40)], 27) := by decide +kernel
theorem dX2_faultIn_68 : decode cX2_faultIn 68 = .ok (.iload 4, 2) := by decide +kernel
theorem dX2_faultIn_70 : decode cX2_faultIn 70 = .ok (.iconst 2, 1) := by decide +kernel
theorem dX2_faultIn_71 : decode cX2_faultIn 71 = .ok (.iand, 1) := by decide +kernel
theorem dX2_faultIn_72 : decode cX2_faultIn 72 = .ok (.ifCond .eq 7, 3) := by decide +kernel
theorem dX2_faultIn_75 : decode cX2_faultIn 75 = .ok (.iconst 3, 1) := by decide +kernel
theorem dX2_faultIn_76 : decode cX2_faultIn 76 = .ok (.goto 4, 3) := by decide +kernel
theorem dX2_faultIn_79 : decode cX2_faultIn 79 = .ok (.iconst (-1), 1) := by decide +kernel
theorem dX2_faultIn_80 : decode cX2_faultIn 80 = .ok (.ireturn, 1) := by decide +kernel
theorem dX2_faultIn_81 : decode cX2_faultIn 81 = .ok (.iload 4, 2) := by decide +kernel
theorem dX2_faultIn_83 : decode cX2_faultIn 83 = .ok (.iconst 4, 1) := by decide +kernel
theorem dX2_faultIn_84 : decode cX2_faultIn 84 = .ok (.iand, 1) := by decide +kernel
theorem dX2_faultIn_85 : decode cX2_faultIn 85 = .ok (.ifCond .eq 7, 3) := by decide +kernel
theorem dX2_faultIn_88 : decode cX2_faultIn 88 = .ok (.iconst 4, 1) := by decide +kernel
theorem dX2_faultIn_89 : decode cX2_faultIn 89 = .ok (.goto 4, 3) := by decide +kernel
theorem dX2_faultIn_92 : decode cX2_faultIn 92 = .ok (.iconst (-1), 1) := by decide +kernel
theorem dX2_faultIn_93 : decode cX2_faultIn 93 = .ok (.ireturn, 1) := by decide +kernel
theorem dX2_faultIn_94 : decode cX2_faultIn 94 = .ok (.iload 4, 2) := by decide +kernel
theorem dX2_faultIn_96 : decode cX2_faultIn 96 = .ok (.bipush 8, 2) := by decide +kernel
theorem dX2_faultIn_98 : decode cX2_faultIn 98 = .ok (.iand, 1) := by decide +kernel
theorem dX2_faultIn_99 : decode cX2_faultIn 99 = .ok (.ifCond .eq 7, 3) := by decide +kernel
theorem dX2_faultIn_102 : decode cX2_faultIn 102 = .ok (.iconst 2, 1) := by decide +kernel
theorem dX2_faultIn_103 : decode cX2_faultIn 103 = .ok (.goto 4, 3) := by decide +kernel
theorem dX2_faultIn_106 : decode cX2_faultIn 106 = .ok (.iconst (-1), 1) := by decide +kernel
theorem dX2_faultIn_107 : decode cX2_faultIn 107 = .ok (.ireturn, 1) := by decide +kernel
end
section
theorem dX3_init_0 : decode cX3_init 0 = .ok (.aload_n 0, 1) := by decide +kernel
theorem dX3_init_1 : decode cX3_init 1 = .ok (.invokespecial 1, 3) := by decide +kernel
theorem dX3_init_4 : decode cX3_init 4 = .ok (.return_, 1) := by decide +kernel
theorem dX3_compute_0 : decode cX3_compute 0 = .ok (.aload_n 0, 1) := by decide +kernel
theorem dX3_compute_1 : decode cX3_compute 1 = .ok (.iconst 1, 1) := by decide +kernel
theorem dX3_compute_2 : decode cX3_compute 2 = .ok (.putfield 7, 3) := by decide +kernel
theorem dX3_compute_5 : decode cX3_compute 5 = .ok (.aload_n 0, 1) := by decide +kernel
theorem dX3_compute_6 : decode cX3_compute 6 = .ok (.iconst 1, 1) := by decide +kernel
theorem dX3_compute_7 : decode cX3_compute 7 = .ok (.putfield 13, 3) := by decide +kernel
theorem dX3_compute_10 : decode cX3_compute 10 = .ok (.aload_n 0, 1) := by decide +kernel
theorem dX3_compute_11 : decode cX3_compute 11 = .ok (.iconst 0, 1) := by decide +kernel
theorem dX3_compute_12 : decode cX3_compute 12 = .ok (.putfield 16, 3) := by decide +kernel
theorem dX3_compute_15 : decode cX3_compute 15 = .ok (.iload_n 1, 1) := by decide +kernel
theorem dX3_compute_16 : decode cX3_compute 16 = .ok (.tableswitch 92 16 19 #[32, 47, 62, 77], 32) := by decide +kernel
theorem dX3_compute_48 : decode cX3_compute 48 = .ok (.aload_n 0, 1) := by decide +kernel
theorem dX3_compute_49 : decode cX3_compute 49 = .ok (.aload_n 0, 1) := by decide +kernel
theorem dX3_compute_50 : decode cX3_compute 50 = .ok (.iload_n 2, 1) := by decide +kernel
theorem dX3_compute_51 : decode cX3_compute 51 = .ok (.lload_n 3, 1) := by decide +kernel
theorem dX3_compute_52 : decode cX3_compute 52 = .ok (.lload 5, 2) := by decide +kernel
theorem dX3_compute_54 : decode cX3_compute 54 = .ok (.invokevirtual 19, 3) := by decide +kernel
theorem dX3_compute_57 : decode cX3_compute 57 = .ok (.putfield 23, 3) := by decide +kernel
theorem dX3_compute_60 : decode cX3_compute 60 = .ok (.goto 53, 3) := by decide +kernel
theorem dX3_compute_63 : decode cX3_compute 63 = .ok (.aload_n 0, 1) := by decide +kernel
theorem dX3_compute_64 : decode cX3_compute 64 = .ok (.aload_n 0, 1) := by decide +kernel
theorem dX3_compute_65 : decode cX3_compute 65 = .ok (.iload_n 2, 1) := by decide +kernel
theorem dX3_compute_66 : decode cX3_compute 66 = .ok (.lload_n 3, 1) := by decide +kernel
theorem dX3_compute_67 : decode cX3_compute 67 = .ok (.lload 5, 2) := by decide +kernel
theorem dX3_compute_69 : decode cX3_compute 69 = .ok (.invokevirtual 27, 3) := by decide +kernel
theorem dX3_compute_72 : decode cX3_compute 72 = .ok (.putfield 23, 3) := by decide +kernel
theorem dX3_compute_75 : decode cX3_compute 75 = .ok (.goto 38, 3) := by decide +kernel
theorem dX3_compute_78 : decode cX3_compute 78 = .ok (.aload_n 0, 1) := by decide +kernel
theorem dX3_compute_79 : decode cX3_compute 79 = .ok (.aload_n 0, 1) := by decide +kernel
theorem dX3_compute_80 : decode cX3_compute 80 = .ok (.iload_n 2, 1) := by decide +kernel
theorem dX3_compute_81 : decode cX3_compute 81 = .ok (.lload_n 3, 1) := by decide +kernel
theorem dX3_compute_82 : decode cX3_compute 82 = .ok (.lload 5, 2) := by decide +kernel
theorem dX3_compute_84 : decode cX3_compute 84 = .ok (.invokevirtual 30, 3) := by decide +kernel
theorem dX3_compute_87 : decode cX3_compute 87 = .ok (.putfield 23, 3) := by decide +kernel
theorem dX3_compute_90 : decode cX3_compute 90 = .ok (.goto 23, 3) := by decide +kernel
theorem dX3_compute_93 : decode cX3_compute 93 = .ok (.aload_n 0, 1) := by decide +kernel
theorem dX3_compute_94 : decode cX3_compute 94 = .ok (.aload_n 0, 1) := by decide +kernel
theorem dX3_compute_95 : decode cX3_compute 95 = .ok (.iload_n 2, 1) := by decide +kernel
theorem dX3_compute_96 : decode cX3_compute 96 = .ok (.lload_n 3, 1) := by decide +kernel
theorem dX3_compute_97 : decode cX3_compute 97 = .ok (.lload 5, 2) := by decide +kernel
theorem dX3_compute_99 : decode cX3_compute 99 = .ok (.invokevirtual 33, 3) := by decide +kernel
theorem dX3_compute_102 : decode cX3_compute 102 = .ok (.putfield 23, 3) := by decide +kernel
theorem dX3_compute_105 : decode cX3_compute 105 = .ok (.goto 8, 3) := by decide +kernel
theorem dX3_compute_108 : decode cX3_compute 108 = .ok (.aload_n 0, 1) := by decide +kernel
theorem dX3_compute_109 : decode cX3_compute 109 = .ok (.iconst 0, 1) := by decide +kernel
theorem dX3_compute_110 : decode cX3_compute 110 = .ok (.putfield 7, 3) := by decide +kernel
theorem dX3_compute_113 : decode cX3_compute 113 = .ok (.return_, 1) := by decide +kernel
theorem dX3_sx_0 : decode cX3_sx 0 = .ok (.lload_n 0, 1) := by decide +kernel
theorem dX3_sx_1 : decode cX3_sx 1 = .ok (.l2i, 1) := by decide +kernel
theorem dX3_sx_2 : decode cX3_sx 2 = .ok (.i2l, 1) := by decide +kernel
theorem dX3_sx_3 : decode cX3_sx 3 = .ok (.lreturn, 1) := by decide +kernel
theorem dX3_trapIf_0 : decode cX3_trapIf 0 = .ok (.aload_n 0, 1) := by decide +kernel
theorem dX3_trapIf_1 : decode cX3_trapIf 1 = .ok (.iload_n 1, 1) := by decide +kernel
theorem dX3_trapIf_2 : decode cX3_trapIf 2 = .ok (.putfield 16, 3) := by decide +kernel
theorem dX3_trapIf_5 : decode cX3_trapIf 5 = .ok (.lload_n 2, 1) := by decide +kernel
theorem dX3_trapIf_6 : decode cX3_trapIf 6 = .ok (.lreturn, 1) := by decide +kernel
theorem dX3_truth_0 : decode cX3_truth 0 = .ok (.iload_n 0, 1) := by decide +kernel
theorem dX3_truth_1 : decode cX3_truth 1 = .ok (.ifCond .eq 7, 3) := by decide +kernel
theorem dX3_truth_4 : decode cX3_truth 4 = .ok (.lconst 1, 1) := by decide +kernel
theorem dX3_truth_5 : decode cX3_truth 5 = .ok (.goto 4, 3) := by decide +kernel
theorem dX3_truth_8 : decode cX3_truth 8 = .ok (.lconst 0, 1) := by decide +kernel
theorem dX3_truth_9 : decode cX3_truth 9 = .ok (.lreturn, 1) := by decide +kernel
theorem dX3_isBelow_0 : decode cX3_isBelow 0 = .ok (.lload_n 0, 1) := by decide +kernel
theorem dX3_isBelow_1 : decode cX3_isBelow 1 = .ok (.ldc2_w 36, 3) := by decide +kernel
theorem dX3_isBelow_4 : decode cX3_isBelow 4 = .ok (.lxor, 1) := by decide +kernel
theorem dX3_isBelow_5 : decode cX3_isBelow 5 = .ok (.lload_n 2, 1) := by decide +kernel
theorem dX3_isBelow_6 : decode cX3_isBelow 6 = .ok (.ldc2_w 36, 3) := by decide +kernel
theorem dX3_isBelow_9 : decode cX3_isBelow 9 = .ok (.lxor, 1) := by decide +kernel
theorem dX3_isBelow_10 : decode cX3_isBelow 10 = .ok (.lcmp, 1) := by decide +kernel
theorem dX3_isBelow_11 : decode cX3_isBelow 11 = .ok (.ifCond .ge 7, 3) := by decide +kernel
theorem dX3_isBelow_14 : decode cX3_isBelow 14 = .ok (.iconst 1, 1) := by decide +kernel
theorem dX3_isBelow_15 : decode cX3_isBelow 15 = .ok (.goto 4, 3) := by decide +kernel
theorem dX3_isBelow_18 : decode cX3_isBelow 18 = .ok (.iconst 0, 1) := by decide +kernel
theorem dX3_isBelow_19 : decode cX3_isBelow 19 = .ok (.ireturn, 1) := by decide +kernel
theorem dX3_add_0 : decode cX3_add 0 = .ok (.iload_n 1, 1) := by decide +kernel
theorem dX3_add_1 : decode cX3_add 1 = .ok (.lookupswitch 482 #[(0, 171), (2, 179), (9, 203), (11, 211), (15, 475), (18, 191), (29, 447), (32, 223), (34, 228), (41, 246), (43, 251), (45, 399), (50, 237), (61, 457), (64, 260), (73, 298), (77, 415), (96, 336), (105, 369), (109, 431)], 171) := by decide +kernel
theorem dX3_add_172 : decode cX3_add 172 = .ok (.lload_n 2, 1) := by decide +kernel
theorem dX3_add_173 : decode cX3_add 173 = .ok (.lload 4, 2) := by decide +kernel
theorem dX3_add_175 : decode cX3_add 175 = .ok (.ladd, 1) := by decide +kernel
theorem dX3_add_176 : decode cX3_add 176 = .ok (.invokestatic 38, 3) := by decide +kernel
theorem dX3_add_179 : decode cX3_add 179 = .ok (.lreturn, 1) := by decide +kernel
theorem dX3_add_180 : decode cX3_add 180 = .ok (.ldc2_w 42, 3) := by decide +kernel
theorem dX3_add_183 : decode cX3_add 183 = .ok (.lload_n 2, 1) := by decide +kernel
theorem dX3_add_184 : decode cX3_add 184 = .ok (.lmul, 1) := by decide +kernel
theorem dX3_add_185 : decode cX3_add 185 = .ok (.lload 4, 2) := by decide +kernel
theorem dX3_add_187 : decode cX3_add 187 = .ok (.ladd, 1) := by decide +kernel
theorem dX3_add_188 : decode cX3_add 188 = .ok (.invokestatic 38, 3) := by decide +kernel
theorem dX3_add_191 : decode cX3_add 191 = .ok (.lreturn, 1) := by decide +kernel
theorem dX3_add_192 : decode cX3_add 192 = .ok (.ldc2_w 44, 3) := by decide +kernel
theorem dX3_add_195 : decode cX3_add 195 = .ok (.lload_n 2, 1) := by decide +kernel
theorem dX3_add_196 : decode cX3_add 196 = .ok (.lmul, 1) := by decide +kernel
theorem dX3_add_197 : decode cX3_add 197 = .ok (.lload 4, 2) := by decide +kernel
theorem dX3_add_199 : decode cX3_add 199 = .ok (.ladd, 1) := by decide +kernel
theorem dX3_add_200 : decode cX3_add 200 = .ok (.invokestatic 38, 3) := by decide +kernel
theorem dX3_add_203 : decode cX3_add 203 = .ok (.lreturn, 1) := by decide +kernel
theorem dX3_add_204 : decode cX3_add 204 = .ok (.lload_n 2, 1) := by decide +kernel
theorem dX3_add_205 : decode cX3_add 205 = .ok (.lload 4, 2) := by decide +kernel
theorem dX3_add_207 : decode cX3_add 207 = .ok (.lsub, 1) := by decide +kernel
theorem dX3_add_208 : decode cX3_add 208 = .ok (.invokestatic 38, 3) := by decide +kernel
theorem dX3_add_211 : decode cX3_add 211 = .ok (.lreturn, 1) := by decide +kernel
theorem dX3_add_212 : decode cX3_add 212 = .ok (.ldc2_w 42, 3) := by decide +kernel
theorem dX3_add_215 : decode cX3_add 215 = .ok (.lload_n 2, 1) := by decide +kernel
theorem dX3_add_216 : decode cX3_add 216 = .ok (.lmul, 1) := by decide +kernel
theorem dX3_add_217 : decode cX3_add 217 = .ok (.lload 4, 2) := by decide +kernel
theorem dX3_add_219 : decode cX3_add 219 = .ok (.lsub, 1) := by decide +kernel
theorem dX3_add_220 : decode cX3_add 220 = .ok (.invokestatic 38, 3) := by decide +kernel
theorem dX3_add_223 : decode cX3_add 223 = .ok (.lreturn, 1) := by decide +kernel
theorem dX3_add_224 : decode cX3_add 224 = .ok (.lload_n 2, 1) := by decide +kernel
theorem dX3_add_225 : decode cX3_add 225 = .ok (.lload 4, 2) := by decide +kernel
theorem dX3_add_227 : decode cX3_add 227 = .ok (.ladd, 1) := by decide +kernel
theorem dX3_add_228 : decode cX3_add 228 = .ok (.lreturn, 1) := by decide +kernel
theorem dX3_add_229 : decode cX3_add 229 = .ok (.ldc2_w 42, 3) := by decide +kernel
theorem dX3_add_232 : decode cX3_add 232 = .ok (.lload_n 2, 1) := by decide +kernel
theorem dX3_add_233 : decode cX3_add 233 = .ok (.lmul, 1) := by decide +kernel
theorem dX3_add_234 : decode cX3_add 234 = .ok (.lload 4, 2) := by decide +kernel
theorem dX3_add_236 : decode cX3_add 236 = .ok (.ladd, 1) := by decide +kernel
theorem dX3_add_237 : decode cX3_add 237 = .ok (.lreturn, 1) := by decide +kernel
theorem dX3_add_238 : decode cX3_add 238 = .ok (.ldc2_w 44, 3) := by decide +kernel
theorem dX3_add_241 : decode cX3_add 241 = .ok (.lload_n 2, 1) := by decide +kernel
theorem dX3_add_242 : decode cX3_add 242 = .ok (.lmul, 1) := by decide +kernel
theorem dX3_add_243 : decode cX3_add 243 = .ok (.lload 4, 2) := by decide +kernel
theorem dX3_add_245 : decode cX3_add 245 = .ok (.ladd, 1) := by decide +kernel
theorem dX3_add_246 : decode cX3_add 246 = .ok (.lreturn, 1) := by decide +kernel
theorem dX3_add_247 : decode cX3_add 247 = .ok (.lload_n 2, 1) := by decide +kernel
theorem dX3_add_248 : decode cX3_add 248 = .ok (.lload 4, 2) := by decide +kernel
theorem dX3_add_250 : decode cX3_add 250 = .ok (.lsub, 1) := by decide +kernel
theorem dX3_add_251 : decode cX3_add 251 = .ok (.lreturn, 1) := by decide +kernel
theorem dX3_add_252 : decode cX3_add 252 = .ok (.ldc2_w 42, 3) := by decide +kernel
theorem dX3_add_255 : decode cX3_add 255 = .ok (.lload_n 2, 1) := by decide +kernel
theorem dX3_add_256 : decode cX3_add 256 = .ok (.lmul, 1) := by decide +kernel
theorem dX3_add_257 : decode cX3_add 257 = .ok (.lload 4, 2) := by decide +kernel
theorem dX3_add_259 : decode cX3_add 259 = .ok (.lsub, 1) := by decide +kernel
theorem dX3_add_260 : decode cX3_add 260 = .ok (.lreturn, 1) := by decide +kernel
theorem dX3_add_261 : decode cX3_add 261 = .ok (.aload_n 0, 1) := by decide +kernel
theorem dX3_add_262 : decode cX3_add 262 = .ok (.lload_n 2, 1) := by decide +kernel
theorem dX3_add_263 : decode cX3_add 263 = .ok (.lload 4, 2) := by decide +kernel
theorem dX3_add_265 : decode cX3_add 265 = .ok (.ladd, 1) := by decide +kernel
theorem dX3_add_266 : decode cX3_add 266 = .ok (.invokestatic 38, 3) := by decide +kernel
theorem dX3_add_269 : decode cX3_add 269 = .ok (.lload_n 2, 1) := by decide +kernel
theorem dX3_add_270 : decode cX3_add 270 = .ok (.invokestatic 38, 3) := by decide +kernel
theorem dX3_add_273 : decode cX3_add 273 = .ok (.lload 4, 2) := by decide +kernel
theorem dX3_add_275 : decode cX3_add 275 = .ok (.invokestatic 38, 3) := by decide +kernel
theorem dX3_add_278 : decode cX3_add 278 = .ok (.ladd, 1) := by decide +kernel
theorem dX3_add_279 : decode cX3_add 279 = .ok (.lcmp, 1) := by decide +kernel
theorem dX3_add_280 : decode cX3_add 280 = .ok (.ifCond .eq 7, 3) := by decide +kernel
theorem dX3_add_283 : decode cX3_add 283 = .ok (.iconst 1, 1) := by decide +kernel
theorem dX3_add_284 : decode cX3_add 284 = .ok (.goto 4, 3) := by decide +kernel
theorem dX3_add_287 : decode cX3_add 287 = .ok (.iconst 0, 1) := by decide +kernel
theorem dX3_add_288 : decode cX3_add 288 = .ok (.lload_n 2, 1) := by decide +kernel
theorem dX3_add_289 : decode cX3_add 289 = .ok (.lload 4, 2) := by decide +kernel
theorem dX3_add_291 : decode cX3_add 291 = .ok (.ladd, 1) := by decide +kernel
theorem dX3_add_292 : decode cX3_add 292 = .ok (.invokestatic 38, 3) := by decide +kernel
theorem dX3_add_295 : decode cX3_add 295 = .ok (.invokevirtual 46, 3) := by decide +kernel
theorem dX3_add_298 : decode cX3_add 298 = .ok (.lreturn, 1) := by decide +kernel
theorem dX3_add_299 : decode cX3_add 299 = .ok (.aload_n 0, 1) := by decide +kernel
theorem dX3_add_300 : decode cX3_add 300 = .ok (.lload_n 2, 1) := by decide +kernel
theorem dX3_add_301 : decode cX3_add 301 = .ok (.lload 4, 2) := by decide +kernel
theorem dX3_add_303 : decode cX3_add 303 = .ok (.lsub, 1) := by decide +kernel
theorem dX3_add_304 : decode cX3_add 304 = .ok (.invokestatic 38, 3) := by decide +kernel
theorem dX3_add_307 : decode cX3_add 307 = .ok (.lload_n 2, 1) := by decide +kernel
theorem dX3_add_308 : decode cX3_add 308 = .ok (.invokestatic 38, 3) := by decide +kernel
theorem dX3_add_311 : decode cX3_add 311 = .ok (.lload 4, 2) := by decide +kernel
theorem dX3_add_313 : decode cX3_add 313 = .ok (.invokestatic 38, 3) := by decide +kernel
theorem dX3_add_316 : decode cX3_add 316 = .ok (.lsub, 1) := by decide +kernel
theorem dX3_add_317 : decode cX3_add 317 = .ok (.lcmp, 1) := by decide +kernel
theorem dX3_add_318 : decode cX3_add 318 = .ok (.ifCond .eq 7, 3) := by decide +kernel
theorem dX3_add_321 : decode cX3_add 321 = .ok (.iconst 1, 1) := by decide +kernel
theorem dX3_add_322 : decode cX3_add 322 = .ok (.goto 4, 3) := by decide +kernel
theorem dX3_add_325 : decode cX3_add 325 = .ok (.iconst 0, 1) := by decide +kernel
theorem dX3_add_326 : decode cX3_add 326 = .ok (.lload_n 2, 1) := by decide +kernel
theorem dX3_add_327 : decode cX3_add 327 = .ok (.lload 4, 2) := by decide +kernel
theorem dX3_add_329 : decode cX3_add 329 = .ok (.lsub, 1) := by decide +kernel
theorem dX3_add_330 : decode cX3_add 330 = .ok (.invokestatic 38, 3) := by decide +kernel
theorem dX3_add_333 : decode cX3_add 333 = .ok (.invokevirtual 46, 3) := by decide +kernel
theorem dX3_add_336 : decode cX3_add 336 = .ok (.lreturn, 1) := by decide +kernel
theorem dX3_add_337 : decode cX3_add 337 = .ok (.aload_n 0, 1) := by decide +kernel
theorem dX3_add_338 : decode cX3_add 338 = .ok (.lload_n 2, 1) := by decide +kernel
theorem dX3_add_339 : decode cX3_add 339 = .ok (.lload_n 2, 1) := by decide +kernel
theorem dX3_add_340 : decode cX3_add 340 = .ok (.lload 4, 2) := by decide +kernel
theorem dX3_add_342 : decode cX3_add 342 = .ok (.ladd, 1) := by decide +kernel
theorem dX3_add_343 : decode cX3_add 343 = .ok (.lxor, 1) := by decide +kernel
theorem dX3_add_344 : decode cX3_add 344 = .ok (.lload 4, 2) := by decide +kernel
theorem dX3_add_346 : decode cX3_add 346 = .ok (.lload_n 2, 1) := by decide +kernel
theorem dX3_add_347 : decode cX3_add 347 = .ok (.lload 4, 2) := by decide +kernel
theorem dX3_add_349 : decode cX3_add 349 = .ok (.ladd, 1) := by decide +kernel
theorem dX3_add_350 : decode cX3_add 350 = .ok (.lxor, 1) := by decide +kernel
theorem dX3_add_351 : decode cX3_add 351 = .ok (.land, 1) := by decide +kernel
theorem dX3_add_352 : decode cX3_add 352 = .ok (.lconst 0, 1) := by decide +kernel
theorem dX3_add_353 : decode cX3_add 353 = .ok (.lcmp, 1) := by decide +kernel
theorem dX3_add_354 : decode cX3_add 354 = .ok (.ifCond .ge 7, 3) := by decide +kernel
theorem dX3_add_357 : decode cX3_add 357 = .ok (.iconst 1, 1) := by decide +kernel
theorem dX3_add_358 : decode cX3_add 358 = .ok (.goto 4, 3) := by decide +kernel
theorem dX3_add_361 : decode cX3_add 361 = .ok (.iconst 0, 1) := by decide +kernel
theorem dX3_add_362 : decode cX3_add 362 = .ok (.lload_n 2, 1) := by decide +kernel
theorem dX3_add_363 : decode cX3_add 363 = .ok (.lload 4, 2) := by decide +kernel
theorem dX3_add_365 : decode cX3_add 365 = .ok (.ladd, 1) := by decide +kernel
theorem dX3_add_366 : decode cX3_add 366 = .ok (.invokevirtual 46, 3) := by decide +kernel
theorem dX3_add_369 : decode cX3_add 369 = .ok (.lreturn, 1) := by decide +kernel
theorem dX3_add_370 : decode cX3_add 370 = .ok (.aload_n 0, 1) := by decide +kernel
theorem dX3_add_371 : decode cX3_add 371 = .ok (.lload_n 2, 1) := by decide +kernel
theorem dX3_add_372 : decode cX3_add 372 = .ok (.lload 4, 2) := by decide +kernel
theorem dX3_add_374 : decode cX3_add 374 = .ok (.lxor, 1) := by decide +kernel
theorem dX3_add_375 : decode cX3_add 375 = .ok (.lload_n 2, 1) := by decide +kernel
theorem dX3_add_376 : decode cX3_add 376 = .ok (.lload_n 2, 1) := by decide +kernel
theorem dX3_add_377 : decode cX3_add 377 = .ok (.lload 4, 2) := by decide +kernel
theorem dX3_add_379 : decode cX3_add 379 = .ok (.lsub, 1) := by decide +kernel
theorem dX3_add_380 : decode cX3_add 380 = .ok (.lxor, 1) := by decide +kernel
theorem dX3_add_381 : decode cX3_add 381 = .ok (.land, 1) := by decide +kernel
theorem dX3_add_382 : decode cX3_add 382 = .ok (.lconst 0, 1) := by decide +kernel
theorem dX3_add_383 : decode cX3_add 383 = .ok (.lcmp, 1) := by decide +kernel
theorem dX3_add_384 : decode cX3_add 384 = .ok (.ifCond .ge 7, 3) := by decide +kernel
theorem dX3_add_387 : decode cX3_add 387 = .ok (.iconst 1, 1) := by decide +kernel
theorem dX3_add_388 : decode cX3_add 388 = .ok (.goto 4, 3) := by decide +kernel
theorem dX3_add_391 : decode cX3_add 391 = .ok (.iconst 0, 1) := by decide +kernel
theorem dX3_add_392 : decode cX3_add 392 = .ok (.lload_n 2, 1) := by decide +kernel
theorem dX3_add_393 : decode cX3_add 393 = .ok (.lload 4, 2) := by decide +kernel
theorem dX3_add_395 : decode cX3_add 395 = .ok (.lsub, 1) := by decide +kernel
theorem dX3_add_396 : decode cX3_add 396 = .ok (.invokevirtual 46, 3) := by decide +kernel
theorem dX3_add_399 : decode cX3_add 399 = .ok (.lreturn, 1) := by decide +kernel
theorem dX3_add_400 : decode cX3_add 400 = .ok (.lload_n 2, 1) := by decide +kernel
theorem dX3_add_401 : decode cX3_add 401 = .ok (.lload 4, 2) := by decide +kernel
theorem dX3_add_403 : decode cX3_add 403 = .ok (.lcmp, 1) := by decide +kernel
theorem dX3_add_404 : decode cX3_add 404 = .ok (.ifCond .ne 7, 3) := by decide +kernel
theorem dX3_add_407 : decode cX3_add 407 = .ok (.iconst 1, 1) := by decide +kernel
theorem dX3_add_408 : decode cX3_add 408 = .ok (.goto 4, 3) := by decide +kernel
theorem dX3_add_411 : decode cX3_add 411 = .ok (.iconst 0, 1) := by decide +kernel
theorem dX3_add_412 : decode cX3_add 412 = .ok (.invokestatic 50, 3) := by decide +kernel
theorem dX3_add_415 : decode cX3_add 415 = .ok (.lreturn, 1) := by decide +kernel
theorem dX3_add_416 : decode cX3_add 416 = .ok (.lload_n 2, 1) := by decide +kernel
theorem dX3_add_417 : decode cX3_add 417 = .ok (.lload 4, 2) := by decide +kernel
theorem dX3_add_419 : decode cX3_add 419 = .ok (.lcmp, 1) := by decide +kernel
theorem dX3_add_420 : decode cX3_add 420 = .ok (.ifCond .ge 7, 3) := by decide +kernel
theorem dX3_add_423 : decode cX3_add 423 = .ok (.iconst 1, 1) := by decide +kernel
theorem dX3_add_424 : decode cX3_add 424 = .ok (.goto 4, 3) := by decide +kernel
theorem dX3_add_427 : decode cX3_add 427 = .ok (.iconst 0, 1) := by decide +kernel
theorem dX3_add_428 : decode cX3_add 428 = .ok (.invokestatic 50, 3) := by decide +kernel
theorem dX3_add_431 : decode cX3_add 431 = .ok (.lreturn, 1) := by decide +kernel
theorem dX3_add_432 : decode cX3_add 432 = .ok (.lload_n 2, 1) := by decide +kernel
theorem dX3_add_433 : decode cX3_add 433 = .ok (.lload 4, 2) := by decide +kernel
theorem dX3_add_435 : decode cX3_add 435 = .ok (.lcmp, 1) := by decide +kernel
theorem dX3_add_436 : decode cX3_add 436 = .ok (.ifCond .gt 7, 3) := by decide +kernel
theorem dX3_add_439 : decode cX3_add 439 = .ok (.iconst 1, 1) := by decide +kernel
theorem dX3_add_440 : decode cX3_add 440 = .ok (.goto 4, 3) := by decide +kernel
theorem dX3_add_443 : decode cX3_add 443 = .ok (.iconst 0, 1) := by decide +kernel
theorem dX3_add_444 : decode cX3_add 444 = .ok (.invokestatic 50, 3) := by decide +kernel
theorem dX3_add_447 : decode cX3_add 447 = .ok (.lreturn, 1) := by decide +kernel
theorem dX3_add_448 : decode cX3_add 448 = .ok (.lload_n 2, 1) := by decide +kernel
theorem dX3_add_449 : decode cX3_add 449 = .ok (.lload 4, 2) := by decide +kernel
theorem dX3_add_451 : decode cX3_add 451 = .ok (.invokestatic 54, 3) := by decide +kernel
theorem dX3_add_454 : decode cX3_add 454 = .ok (.invokestatic 50, 3) := by decide +kernel
theorem dX3_add_457 : decode cX3_add 457 = .ok (.lreturn, 1) := by decide +kernel
theorem dX3_add_458 : decode cX3_add 458 = .ok (.lload 4, 2) := by decide +kernel
theorem dX3_add_460 : decode cX3_add 460 = .ok (.lload_n 2, 1) := by decide +kernel
theorem dX3_add_461 : decode cX3_add 461 = .ok (.invokestatic 54, 3) := by decide +kernel
theorem dX3_add_464 : decode cX3_add 464 = .ok (.ifCond .ne 7, 3) := by decide +kernel
theorem dX3_add_467 : decode cX3_add 467 = .ok (.iconst 1, 1) := by decide +kernel
theorem dX3_add_468 : decode cX3_add 468 = .ok (.goto 4, 3) := by decide +kernel
theorem dX3_add_471 : decode cX3_add 471 = .ok (.iconst 0, 1) := by decide +kernel
theorem dX3_add_472 : decode cX3_add 472 = .ok (.invokestatic 50, 3) := by decide +kernel
theorem dX3_add_475 : decode cX3_add 475 = .ok (.lreturn, 1) := by decide +kernel
theorem dX3_add_476 : decode cX3_add 476 = .ok (.lload_n 2, 1) := by decide +kernel
theorem dX3_add_477 : decode cX3_add 477 = .ok (.lload 4, 2) := by decide +kernel
theorem dX3_add_479 : decode cX3_add 479 = .ok (.invokestatic 58, 3) := by decide +kernel
theorem dX3_add_482 : decode cX3_add 482 = .ok (.lreturn, 1) := by decide +kernel
theorem dX3_add_483 : decode cX3_add 483 = .ok (.aload_n 0, 1) := by decide +kernel
theorem dX3_add_484 : decode cX3_add 484 = .ok (.iconst 0, 1) := by decide +kernel
theorem dX3_add_485 : decode cX3_add 485 = .ok (.putfield 7, 3) := by decide +kernel
theorem dX3_add_488 : decode cX3_add 488 = .ok (.lconst 0, 1) := by decide +kernel
theorem dX3_add_489 : decode cX3_add 489 = .ok (.lreturn, 1) := by decide +kernel
theorem dX3_bytesNotLess_0 : decode cX3_bytesNotLess 0 = .ok (.lconst 0, 1) := by decide +kernel
theorem dX3_bytesNotLess_1 : decode cX3_bytesNotLess 1 = .ok (.lstore 4, 2) := by decide +kernel
theorem dX3_bytesNotLess_3 : decode cX3_bytesNotLess 3 = .ok (.iconst 0, 1) := by decide +kernel
theorem dX3_bytesNotLess_4 : decode cX3_bytesNotLess 4 = .ok (.istore 6, 2) := by decide +kernel
theorem dX3_bytesNotLess_6 : decode cX3_bytesNotLess 6 = .ok (.iload 6, 2) := by decide +kernel
theorem dX3_bytesNotLess_8 : decode cX3_bytesNotLess 8 = .ok (.bipush 8, 2) := by decide +kernel
theorem dX3_bytesNotLess_10 : decode cX3_bytesNotLess 10 = .ok (.if_icmp .ge 44, 3) := by decide +kernel
theorem dX3_bytesNotLess_13 : decode cX3_bytesNotLess 13 = .ok (.lload_n 0, 1) := by decide +kernel
theorem dX3_bytesNotLess_14 : decode cX3_bytesNotLess 14 = .ok (.bipush 8, 2) := by decide +kernel
theorem dX3_bytesNotLess_16 : decode cX3_bytesNotLess 16 = .ok (.iload 6, 2) := by decide +kernel
theorem dX3_bytesNotLess_18 : decode cX3_bytesNotLess 18 = .ok (.imul, 1) := by decide +kernel
theorem dX3_bytesNotLess_19 : decode cX3_bytesNotLess 19 = .ok (.lushr, 1) := by decide +kernel
theorem dX3_bytesNotLess_20 : decode cX3_bytesNotLess 20 = .ok (.ldc2_w 62, 3) := by decide +kernel
theorem dX3_bytesNotLess_23 : decode cX3_bytesNotLess 23 = .ok (.land, 1) := by decide +kernel
theorem dX3_bytesNotLess_24 : decode cX3_bytesNotLess 24 = .ok (.lload_n 2, 1) := by decide +kernel
theorem dX3_bytesNotLess_25 : decode cX3_bytesNotLess 25 = .ok (.bipush 8, 2) := by decide +kernel
theorem dX3_bytesNotLess_27 : decode cX3_bytesNotLess 27 = .ok (.iload 6, 2) := by decide +kernel
theorem dX3_bytesNotLess_29 : decode cX3_bytesNotLess 29 = .ok (.imul, 1) := by decide +kernel
theorem dX3_bytesNotLess_30 : decode cX3_bytesNotLess 30 = .ok (.lushr, 1) := by decide +kernel
theorem dX3_bytesNotLess_31 : decode cX3_bytesNotLess 31 = .ok (.ldc2_w 62, 3) := by decide +kernel
theorem dX3_bytesNotLess_34 : decode cX3_bytesNotLess 34 = .ok (.land, 1) := by decide +kernel
theorem dX3_bytesNotLess_35 : decode cX3_bytesNotLess 35 = .ok (.lcmp, 1) := by decide +kernel
theorem dX3_bytesNotLess_36 : decode cX3_bytesNotLess 36 = .ok (.ifCond .lt 12, 3) := by decide +kernel
theorem dX3_bytesNotLess_39 : decode cX3_bytesNotLess 39 = .ok (.lload 4, 2) := by decide +kernel
theorem dX3_bytesNotLess_41 : decode cX3_bytesNotLess 41 = .ok (.lconst 1, 1) := by decide +kernel
theorem dX3_bytesNotLess_42 : decode cX3_bytesNotLess 42 = .ok (.iload 6, 2) := by decide +kernel
theorem dX3_bytesNotLess_44 : decode cX3_bytesNotLess 44 = .ok (.lshl, 1) := by decide +kernel
theorem dX3_bytesNotLess_45 : decode cX3_bytesNotLess 45 = .ok (.lor, 1) := by decide +kernel
theorem dX3_bytesNotLess_46 : decode cX3_bytesNotLess 46 = .ok (.lstore 4, 2) := by decide +kernel
theorem dX3_bytesNotLess_48 : decode cX3_bytesNotLess 48 = .ok (.iinc 6 1, 3) := by decide +kernel
theorem dX3_bytesNotLess_51 : decode cX3_bytesNotLess 51 = .ok (.goto (-45), 3) := by decide +kernel
theorem dX3_bytesNotLess_54 : decode cX3_bytesNotLess 54 = .ok (.lload 4, 2) := by decide +kernel
theorem dX3_bytesNotLess_56 : decode cX3_bytesNotLess 56 = .ok (.lreturn, 1) := by decide +kernel
theorem dX3_combine_0 : decode cX3_combine 0 = .ok (.iload_n 1, 1) := by decide +kernel
theorem dX3_combine_1 : decode cX3_combine 1 = .ok (.lookupswitch 313 #[(0, 123), (8, 128), (20, 165), (22, 185), (32, 137), (36, 205), (38, 223), (40, 142), (64, 151), (68, 241), (70, 259), (72, 156), (100, 277), (102, 295)], 123) := by decide +kernel
theorem dX3_combine_124 : decode cX3_combine 124 = .ok (.lload_n 2, 1) := by decide +kernel
theorem dX3_combine_125 : decode cX3_combine 125 = .ok (.lload 4, 2) := by decide +kernel
theorem dX3_combine_127 : decode cX3_combine 127 = .ok (.land, 1) := by decide +kernel
theorem dX3_combine_128 : decode cX3_combine 128 = .ok (.lreturn, 1) := by decide +kernel
theorem dX3_combine_129 : decode cX3_combine 129 = .ok (.lload_n 2, 1) := by decide +kernel
theorem dX3_combine_130 : decode cX3_combine 130 = .ok (.lload 4, 2) := by decide +kernel
theorem dX3_combine_132 : decode cX3_combine 132 = .ok (.ldc2_w 64, 3) := by decide +kernel
theorem dX3_combine_135 : decode cX3_combine 135 = .ok (.lxor, 1) := by decide +kernel
theorem dX3_combine_136 : decode cX3_combine 136 = .ok (.land, 1) := by decide +kernel
theorem dX3_combine_137 : decode cX3_combine 137 = .ok (.lreturn, 1) := by decide +kernel
theorem dX3_combine_138 : decode cX3_combine 138 = .ok (.lload_n 2, 1) := by decide +kernel
theorem dX3_combine_139 : decode cX3_combine 139 = .ok (.lload 4, 2) := by decide +kernel
theorem dX3_combine_141 : decode cX3_combine 141 = .ok (.lor, 1) := by decide +kernel
theorem dX3_combine_142 : decode cX3_combine 142 = .ok (.lreturn, 1) := by decide +kernel
theorem dX3_combine_143 : decode cX3_combine 143 = .ok (.lload_n 2, 1) := by decide +kernel
theorem dX3_combine_144 : decode cX3_combine 144 = .ok (.lload 4, 2) := by decide +kernel
theorem dX3_combine_146 : decode cX3_combine 146 = .ok (.ldc2_w 64, 3) := by decide +kernel
theorem dX3_combine_149 : decode cX3_combine 149 = .ok (.lxor, 1) := by decide +kernel
theorem dX3_combine_150 : decode cX3_combine 150 = .ok (.lor, 1) := by decide +kernel
theorem dX3_combine_151 : decode cX3_combine 151 = .ok (.lreturn, 1) := by decide +kernel
theorem dX3_combine_152 : decode cX3_combine 152 = .ok (.lload_n 2, 1) := by decide +kernel
theorem dX3_combine_153 : decode cX3_combine 153 = .ok (.lload 4, 2) := by decide +kernel
theorem dX3_combine_155 : decode cX3_combine 155 = .ok (.lxor, 1) := by decide +kernel
theorem dX3_combine_156 : decode cX3_combine 156 = .ok (.lreturn, 1) := by decide +kernel
theorem dX3_combine_157 : decode cX3_combine 157 = .ok (.lload_n 2, 1) := by decide +kernel
theorem dX3_combine_158 : decode cX3_combine 158 = .ok (.lload 4, 2) := by decide +kernel
theorem dX3_combine_160 : decode cX3_combine 160 = .ok (.ldc2_w 64, 3) := by decide +kernel
theorem dX3_combine_163 : decode cX3_combine 163 = .ok (.lxor, 1) := by decide +kernel
theorem dX3_combine_164 : decode cX3_combine 164 = .ok (.lxor, 1) := by decide +kernel
theorem dX3_combine_165 : decode cX3_combine 165 = .ok (.lreturn, 1) := by decide +kernel
theorem dX3_combine_166 : decode cX3_combine 166 = .ok (.aload_n 0, 1) := by decide +kernel
theorem dX3_combine_167 : decode cX3_combine 167 = .ok (.lload_n 2, 1) := by decide +kernel
theorem dX3_combine_168 : decode cX3_combine 168 = .ok (.lconst 1, 1) := by decide +kernel
theorem dX3_combine_169 : decode cX3_combine 169 = .ok (.land, 1) := by decide +kernel
theorem dX3_combine_170 : decode cX3_combine 170 = .ok (.lconst 0, 1) := by decide +kernel
theorem dX3_combine_171 : decode cX3_combine 171 = .ok (.lcmp, 1) := by decide +kernel
theorem dX3_combine_172 : decode cX3_combine 172 = .ok (.ifCond .eq 7, 3) := by decide +kernel
theorem dX3_combine_175 : decode cX3_combine 175 = .ok (.iconst 1, 1) := by decide +kernel
theorem dX3_combine_176 : decode cX3_combine 176 = .ok (.goto 4, 3) := by decide +kernel
theorem dX3_combine_179 : decode cX3_combine 179 = .ok (.iconst 0, 1) := by decide +kernel
theorem dX3_combine_180 : decode cX3_combine 180 = .ok (.lload 4, 2) := by decide +kernel
theorem dX3_combine_182 : decode cX3_combine 182 = .ok (.invokevirtual 66, 3) := by decide +kernel
theorem dX3_combine_185 : decode cX3_combine 185 = .ok (.lreturn, 1) := by decide +kernel
theorem dX3_combine_186 : decode cX3_combine 186 = .ok (.aload_n 0, 1) := by decide +kernel
theorem dX3_combine_187 : decode cX3_combine 187 = .ok (.lload_n 2, 1) := by decide +kernel
theorem dX3_combine_188 : decode cX3_combine 188 = .ok (.lconst 1, 1) := by decide +kernel
theorem dX3_combine_189 : decode cX3_combine 189 = .ok (.land, 1) := by decide +kernel
theorem dX3_combine_190 : decode cX3_combine 190 = .ok (.lconst 0, 1) := by decide +kernel
theorem dX3_combine_191 : decode cX3_combine 191 = .ok (.lcmp, 1) := by decide +kernel
theorem dX3_combine_192 : decode cX3_combine 192 = .ok (.ifCond .ne 7, 3) := by decide +kernel
theorem dX3_combine_195 : decode cX3_combine 195 = .ok (.iconst 1, 1) := by decide +kernel
theorem dX3_combine_196 : decode cX3_combine 196 = .ok (.goto 4, 3) := by decide +kernel
theorem dX3_combine_199 : decode cX3_combine 199 = .ok (.iconst 0, 1) := by decide +kernel
theorem dX3_combine_200 : decode cX3_combine 200 = .ok (.lload 4, 2) := by decide +kernel
theorem dX3_combine_202 : decode cX3_combine 202 = .ok (.invokevirtual 66, 3) := by decide +kernel
theorem dX3_combine_205 : decode cX3_combine 205 = .ok (.lreturn, 1) := by decide +kernel
theorem dX3_combine_206 : decode cX3_combine 206 = .ok (.aload_n 0, 1) := by decide +kernel
theorem dX3_combine_207 : decode cX3_combine 207 = .ok (.lload_n 2, 1) := by decide +kernel
theorem dX3_combine_208 : decode cX3_combine 208 = .ok (.lconst 0, 1) := by decide +kernel
theorem dX3_combine_209 : decode cX3_combine 209 = .ok (.lcmp, 1) := by decide +kernel
theorem dX3_combine_210 : decode cX3_combine 210 = .ok (.ifCond .ne 7, 3) := by decide +kernel
theorem dX3_combine_213 : decode cX3_combine 213 = .ok (.iconst 1, 1) := by decide +kernel
theorem dX3_combine_214 : decode cX3_combine 214 = .ok (.goto 4, 3) := by decide +kernel
theorem dX3_combine_217 : decode cX3_combine 217 = .ok (.iconst 0, 1) := by decide +kernel
theorem dX3_combine_218 : decode cX3_combine 218 = .ok (.lload 4, 2) := by decide +kernel
theorem dX3_combine_220 : decode cX3_combine 220 = .ok (.invokevirtual 66, 3) := by decide +kernel
theorem dX3_combine_223 : decode cX3_combine 223 = .ok (.lreturn, 1) := by decide +kernel
theorem dX3_combine_224 : decode cX3_combine 224 = .ok (.aload_n 0, 1) := by decide +kernel
theorem dX3_combine_225 : decode cX3_combine 225 = .ok (.lload_n 2, 1) := by decide +kernel
theorem dX3_combine_226 : decode cX3_combine 226 = .ok (.lconst 0, 1) := by decide +kernel
theorem dX3_combine_227 : decode cX3_combine 227 = .ok (.lcmp, 1) := by decide +kernel
theorem dX3_combine_228 : decode cX3_combine 228 = .ok (.ifCond .eq 7, 3) := by decide +kernel
theorem dX3_combine_231 : decode cX3_combine 231 = .ok (.iconst 1, 1) := by decide +kernel
theorem dX3_combine_232 : decode cX3_combine 232 = .ok (.goto 4, 3) := by decide +kernel
theorem dX3_combine_235 : decode cX3_combine 235 = .ok (.iconst 0, 1) := by decide +kernel
theorem dX3_combine_236 : decode cX3_combine 236 = .ok (.lload 4, 2) := by decide +kernel
theorem dX3_combine_238 : decode cX3_combine 238 = .ok (.invokevirtual 66, 3) := by decide +kernel
theorem dX3_combine_241 : decode cX3_combine 241 = .ok (.lreturn, 1) := by decide +kernel
theorem dX3_combine_242 : decode cX3_combine 242 = .ok (.aload_n 0, 1) := by decide +kernel
theorem dX3_combine_243 : decode cX3_combine 243 = .ok (.lload_n 2, 1) := by decide +kernel
theorem dX3_combine_244 : decode cX3_combine 244 = .ok (.lconst 0, 1) := by decide +kernel
theorem dX3_combine_245 : decode cX3_combine 245 = .ok (.lcmp, 1) := by decide +kernel
theorem dX3_combine_246 : decode cX3_combine 246 = .ok (.ifCond .ge 7, 3) := by decide +kernel
theorem dX3_combine_249 : decode cX3_combine 249 = .ok (.iconst 1, 1) := by decide +kernel
theorem dX3_combine_250 : decode cX3_combine 250 = .ok (.goto 4, 3) := by decide +kernel
theorem dX3_combine_253 : decode cX3_combine 253 = .ok (.iconst 0, 1) := by decide +kernel
theorem dX3_combine_254 : decode cX3_combine 254 = .ok (.lload 4, 2) := by decide +kernel
theorem dX3_combine_256 : decode cX3_combine 256 = .ok (.invokevirtual 66, 3) := by decide +kernel
theorem dX3_combine_259 : decode cX3_combine 259 = .ok (.lreturn, 1) := by decide +kernel
theorem dX3_combine_260 : decode cX3_combine 260 = .ok (.aload_n 0, 1) := by decide +kernel
theorem dX3_combine_261 : decode cX3_combine 261 = .ok (.lload_n 2, 1) := by decide +kernel
theorem dX3_combine_262 : decode cX3_combine 262 = .ok (.lconst 0, 1) := by decide +kernel
theorem dX3_combine_263 : decode cX3_combine 263 = .ok (.lcmp, 1) := by decide +kernel
theorem dX3_combine_264 : decode cX3_combine 264 = .ok (.ifCond .lt 7, 3) := by decide +kernel
theorem dX3_combine_267 : decode cX3_combine 267 = .ok (.iconst 1, 1) := by decide +kernel
theorem dX3_combine_268 : decode cX3_combine 268 = .ok (.goto 4, 3) := by decide +kernel
theorem dX3_combine_271 : decode cX3_combine 271 = .ok (.iconst 0, 1) := by decide +kernel
theorem dX3_combine_272 : decode cX3_combine 272 = .ok (.lload 4, 2) := by decide +kernel
theorem dX3_combine_274 : decode cX3_combine 274 = .ok (.invokevirtual 66, 3) := by decide +kernel
theorem dX3_combine_277 : decode cX3_combine 277 = .ok (.lreturn, 1) := by decide +kernel
theorem dX3_combine_278 : decode cX3_combine 278 = .ok (.aload_n 0, 1) := by decide +kernel
theorem dX3_combine_279 : decode cX3_combine 279 = .ok (.lload_n 2, 1) := by decide +kernel
theorem dX3_combine_280 : decode cX3_combine 280 = .ok (.lconst 0, 1) := by decide +kernel
theorem dX3_combine_281 : decode cX3_combine 281 = .ok (.lcmp, 1) := by decide +kernel
theorem dX3_combine_282 : decode cX3_combine 282 = .ok (.ifCond .gt 7, 3) := by decide +kernel
theorem dX3_combine_285 : decode cX3_combine 285 = .ok (.iconst 1, 1) := by decide +kernel
theorem dX3_combine_286 : decode cX3_combine 286 = .ok (.goto 4, 3) := by decide +kernel
theorem dX3_combine_289 : decode cX3_combine 289 = .ok (.iconst 0, 1) := by decide +kernel
theorem dX3_combine_290 : decode cX3_combine 290 = .ok (.lload 4, 2) := by decide +kernel
theorem dX3_combine_292 : decode cX3_combine 292 = .ok (.invokevirtual 66, 3) := by decide +kernel
theorem dX3_combine_295 : decode cX3_combine 295 = .ok (.lreturn, 1) := by decide +kernel
theorem dX3_combine_296 : decode cX3_combine 296 = .ok (.aload_n 0, 1) := by decide +kernel
theorem dX3_combine_297 : decode cX3_combine 297 = .ok (.lload_n 2, 1) := by decide +kernel
theorem dX3_combine_298 : decode cX3_combine 298 = .ok (.lconst 0, 1) := by decide +kernel
theorem dX3_combine_299 : decode cX3_combine 299 = .ok (.lcmp, 1) := by decide +kernel
theorem dX3_combine_300 : decode cX3_combine 300 = .ok (.ifCond .le 7, 3) := by decide +kernel
theorem dX3_combine_303 : decode cX3_combine 303 = .ok (.iconst 1, 1) := by decide +kernel
theorem dX3_combine_304 : decode cX3_combine 304 = .ok (.goto 4, 3) := by decide +kernel
theorem dX3_combine_307 : decode cX3_combine 307 = .ok (.iconst 0, 1) := by decide +kernel
theorem dX3_combine_308 : decode cX3_combine 308 = .ok (.lload 4, 2) := by decide +kernel
theorem dX3_combine_310 : decode cX3_combine 310 = .ok (.invokevirtual 66, 3) := by decide +kernel
theorem dX3_combine_313 : decode cX3_combine 313 = .ok (.lreturn, 1) := by decide +kernel
theorem dX3_combine_314 : decode cX3_combine 314 = .ok (.aload_n 0, 1) := by decide +kernel
theorem dX3_combine_315 : decode cX3_combine 315 = .ok (.iconst 0, 1) := by decide +kernel
theorem dX3_combine_316 : decode cX3_combine 316 = .ok (.putfield 7, 3) := by decide +kernel
theorem dX3_combine_319 : decode cX3_combine 319 = .ok (.lconst 0, 1) := by decide +kernel
theorem dX3_combine_320 : decode cX3_combine 320 = .ok (.lreturn, 1) := by decide +kernel
theorem dX3_onlyIf_0 : decode cX3_onlyIf 0 = .ok (.aload_n 0, 1) := by decide +kernel
theorem dX3_onlyIf_1 : decode cX3_onlyIf 1 = .ok (.iload_n 1, 1) := by decide +kernel
theorem dX3_onlyIf_2 : decode cX3_onlyIf 2 = .ok (.putfield 13, 3) := by decide +kernel
theorem dX3_onlyIf_5 : decode cX3_onlyIf 5 = .ok (.lload_n 2, 1) := by decide +kernel
theorem dX3_onlyIf_6 : decode cX3_onlyIf 6 = .ok (.lreturn, 1) := by decide +kernel
theorem dX3_shift_0 : decode cX3_shift 0 = .ok (.lload 4, 2) := by decide +kernel
theorem dX3_shift_2 : decode cX3_shift 2 = .ok (.l2i, 1) := by decide +kernel
theorem dX3_shift_3 : decode cX3_shift 3 = .ok (.bipush 63, 2) := by decide +kernel
theorem dX3_shift_5 : decode cX3_shift 5 = .ok (.iand, 1) := by decide +kernel
theorem dX3_shift_6 : decode cX3_shift 6 = .ok (.istore 6, 2) := by decide +kernel
theorem dX3_shift_8 : decode cX3_shift 8 = .ok (.iload_n 1, 1) := by decide +kernel
theorem dX3_shift_9 : decode cX3_shift 9 = .ok (.tableswitch 102 48 60 #[67, 79, 102, 102, 87, 102, 102, 102, 102, 92, 102, 102, 97], 67) := by decide +kernel
theorem dX3_shift_76 : decode cX3_shift 76 = .ok (.lload_n 2, 1) := by decide +kernel
theorem dX3_shift_77 : decode cX3_shift 77 = .ok (.lload 4, 2) := by decide +kernel
theorem dX3_shift_79 : decode cX3_shift 79 = .ok (.invokestatic 69, 3) := by decide +kernel
theorem dX3_shift_82 : decode cX3_shift 82 = .ok (.ldc2_w 64, 3) := by decide +kernel
theorem dX3_shift_85 : decode cX3_shift 85 = .ok (.lxor, 1) := by decide +kernel
theorem dX3_shift_86 : decode cX3_shift 86 = .ok (.land, 1) := by decide +kernel
theorem dX3_shift_87 : decode cX3_shift 87 = .ok (.lreturn, 1) := by decide +kernel
theorem dX3_shift_88 : decode cX3_shift 88 = .ok (.lload_n 2, 1) := by decide +kernel
theorem dX3_shift_89 : decode cX3_shift 89 = .ok (.lload 4, 2) := by decide +kernel
theorem dX3_shift_91 : decode cX3_shift 91 = .ok (.invokestatic 69, 3) := by decide +kernel
theorem dX3_shift_94 : decode cX3_shift 94 = .ok (.land, 1) := by decide +kernel
theorem dX3_shift_95 : decode cX3_shift 95 = .ok (.lreturn, 1) := by decide +kernel
theorem dX3_shift_96 : decode cX3_shift 96 = .ok (.lload_n 2, 1) := by decide +kernel
theorem dX3_shift_97 : decode cX3_shift 97 = .ok (.iload 6, 2) := by decide +kernel
theorem dX3_shift_99 : decode cX3_shift 99 = .ok (.lushr, 1) := by decide +kernel
theorem dX3_shift_100 : decode cX3_shift 100 = .ok (.lreturn, 1) := by decide +kernel
theorem dX3_shift_101 : decode cX3_shift 101 = .ok (.lload_n 2, 1) := by decide +kernel
theorem dX3_shift_102 : decode cX3_shift 102 = .ok (.iload 6, 2) := by decide +kernel
theorem dX3_shift_104 : decode cX3_shift 104 = .ok (.lshl, 1) := by decide +kernel
theorem dX3_shift_105 : decode cX3_shift 105 = .ok (.lreturn, 1) := by decide +kernel
theorem dX3_shift_106 : decode cX3_shift 106 = .ok (.lload_n 2, 1) := by decide +kernel
theorem dX3_shift_107 : decode cX3_shift 107 = .ok (.iload 6, 2) := by decide +kernel
theorem dX3_shift_109 : decode cX3_shift 109 = .ok (.lshr, 1) := by decide +kernel
theorem dX3_shift_110 : decode cX3_shift 110 = .ok (.lreturn, 1) := by decide +kernel
theorem dX3_shift_111 : decode cX3_shift 111 = .ok (.bipush 8, 2) := by decide +kernel
theorem dX3_shift_113 : decode cX3_shift 113 = .ok (.lload 4, 2) := by decide +kernel
theorem dX3_shift_115 : decode cX3_shift 115 = .ok (.l2i, 1) := by decide +kernel
theorem dX3_shift_116 : decode cX3_shift 116 = .ok (.bipush 7, 2) := by decide +kernel
theorem dX3_shift_118 : decode cX3_shift 118 = .ok (.iand, 1) := by decide +kernel
theorem dX3_shift_119 : decode cX3_shift 119 = .ok (.imul, 1) := by decide +kernel
theorem dX3_shift_120 : decode cX3_shift 120 = .ok (.istore 7, 2) := by decide +kernel
theorem dX3_shift_122 : decode cX3_shift 122 = .ok (.ldc2_w 64, 3) := by decide +kernel
theorem dX3_shift_125 : decode cX3_shift 125 = .ok (.bipush 64, 2) := by decide +kernel
theorem dX3_shift_127 : decode cX3_shift 127 = .ok (.bipush 8, 2) := by decide +kernel
theorem dX3_shift_129 : decode cX3_shift 129 = .ok (.iload_n 1, 1) := by decide +kernel
theorem dX3_shift_130 : decode cX3_shift 130 = .ok (.iconst 4, 1) := by decide +kernel
theorem dX3_shift_131 : decode cX3_shift 131 = .ok (.ishr, 1) := by decide +kernel
theorem dX3_shift_132 : decode cX3_shift 132 = .ok (.iconst 3, 1) := by decide +kernel
theorem dX3_shift_133 : decode cX3_shift 133 = .ok (.iand, 1) := by decide +kernel
theorem dX3_shift_134 : decode cX3_shift 134 = .ok (.ishl, 1) := by decide +kernel
theorem dX3_shift_135 : decode cX3_shift 135 = .ok (.isub, 1) := by decide +kernel
theorem dX3_shift_136 : decode cX3_shift 136 = .ok (.lushr, 1) := by decide +kernel
theorem dX3_shift_137 : decode cX3_shift 137 = .ok (.lstore 8, 2) := by decide +kernel
theorem dX3_shift_139 : decode cX3_shift 139 = .ok (.iload_n 1, 1) := by decide +kernel
theorem dX3_shift_140 : decode cX3_shift 140 = .ok (.bipush 64, 2) := by decide +kernel
theorem dX3_shift_142 : decode cX3_shift 142 = .ok (.iand, 1) := by decide +kernel
theorem dX3_shift_143 : decode cX3_shift 143 = .ok (.ifCond .ne 16, 3) := by decide +kernel
theorem dX3_shift_146 : decode cX3_shift 146 = .ok (.aload_n 0, 1) := by decide +kernel
theorem dX3_shift_147 : decode cX3_shift 147 = .ok (.iload_n 1, 1) := by decide +kernel
theorem dX3_shift_148 : decode cX3_shift 148 = .ok (.lload_n 2, 1) := by decide +kernel
theorem dX3_shift_149 : decode cX3_shift 149 = .ok (.iload 7, 2) := by decide +kernel
theorem dX3_shift_151 : decode cX3_shift 151 = .ok (.lload 8, 2) := by decide +kernel
theorem dX3_shift_153 : decode cX3_shift 153 = .ok (.invokevirtual 72, 3) := by decide +kernel
theorem dX3_shift_156 : decode cX3_shift 156 = .ok (.goto 13, 3) := by decide +kernel
theorem dX3_shift_159 : decode cX3_shift 159 = .ok (.aload_n 0, 1) := by decide +kernel
theorem dX3_shift_160 : decode cX3_shift 160 = .ok (.iload_n 1, 1) := by decide +kernel
theorem dX3_shift_161 : decode cX3_shift 161 = .ok (.lload_n 2, 1) := by decide +kernel
theorem dX3_shift_162 : decode cX3_shift 162 = .ok (.iload 7, 2) := by decide +kernel
theorem dX3_shift_164 : decode cX3_shift 164 = .ok (.lload 8, 2) := by decide +kernel
theorem dX3_shift_166 : decode cX3_shift 166 = .ok (.invokevirtual 76, 3) := by decide +kernel
theorem dX3_shift_169 : decode cX3_shift 169 = .ok (.lreturn, 1) := by decide +kernel
theorem dX3_bytesOf_0 : decode cX3_bytesOf 0 = .ok (.lconst 0, 1) := by decide +kernel
theorem dX3_bytesOf_1 : decode cX3_bytesOf 1 = .ok (.lstore_n 2, 1) := by decide +kernel
theorem dX3_bytesOf_2 : decode cX3_bytesOf 2 = .ok (.iconst 0, 1) := by decide +kernel
theorem dX3_bytesOf_3 : decode cX3_bytesOf 3 = .ok (.istore 4, 2) := by decide +kernel
theorem dX3_bytesOf_5 : decode cX3_bytesOf 5 = .ok (.iload 4, 2) := by decide +kernel
theorem dX3_bytesOf_7 : decode cX3_bytesOf 7 = .ok (.bipush 8, 2) := by decide +kernel
theorem dX3_bytesOf_9 : decode cX3_bytesOf 9 = .ok (.if_icmp .ge 32, 3) := by decide +kernel
theorem dX3_bytesOf_12 : decode cX3_bytesOf 12 = .ok (.lload_n 0, 1) := by decide +kernel
theorem dX3_bytesOf_13 : decode cX3_bytesOf 13 = .ok (.iload 4, 2) := by decide +kernel
theorem dX3_bytesOf_15 : decode cX3_bytesOf 15 = .ok (.lshr, 1) := by decide +kernel
theorem dX3_bytesOf_16 : decode cX3_bytesOf 16 = .ok (.lconst 1, 1) := by decide +kernel
theorem dX3_bytesOf_17 : decode cX3_bytesOf 17 = .ok (.land, 1) := by decide +kernel
theorem dX3_bytesOf_18 : decode cX3_bytesOf 18 = .ok (.lconst 0, 1) := by decide +kernel
theorem dX3_bytesOf_19 : decode cX3_bytesOf 19 = .ok (.lcmp, 1) := by decide +kernel
theorem dX3_bytesOf_20 : decode cX3_bytesOf 20 = .ok (.ifCond .eq 15, 3) := by decide +kernel
theorem dX3_bytesOf_23 : decode cX3_bytesOf 23 = .ok (.lload_n 2, 1) := by decide +kernel
theorem dX3_bytesOf_24 : decode cX3_bytesOf 24 = .ok (.ldc2_w 62, 3) := by decide +kernel
theorem dX3_bytesOf_27 : decode cX3_bytesOf 27 = .ok (.bipush 8, 2) := by decide +kernel
theorem dX3_bytesOf_29 : decode cX3_bytesOf 29 = .ok (.iload 4, 2) := by decide +kernel
theorem dX3_bytesOf_31 : decode cX3_bytesOf 31 = .ok (.imul, 1) := by decide +kernel
theorem dX3_bytesOf_32 : decode cX3_bytesOf 32 = .ok (.lshl, 1) := by decide +kernel
theorem dX3_bytesOf_33 : decode cX3_bytesOf 33 = .ok (.lor, 1) := by decide +kernel
theorem dX3_bytesOf_34 : decode cX3_bytesOf 34 = .ok (.lstore_n 2, 1) := by decide +kernel
theorem dX3_bytesOf_35 : decode cX3_bytesOf 35 = .ok (.iinc 4 1, 3) := by decide +kernel
theorem dX3_bytesOf_38 : decode cX3_bytesOf 38 = .ok (.goto (-33), 3) := by decide +kernel
theorem dX3_bytesOf_41 : decode cX3_bytesOf 41 = .ok (.lload_n 2, 1) := by decide +kernel
theorem dX3_bytesOf_42 : decode cX3_bytesOf 42 = .ok (.lreturn, 1) := by decide +kernel
theorem dX3_lowPart_0 : decode cX3_lowPart 0 = .ok (.iload_n 1, 1) := by decide +kernel
theorem dX3_lowPart_1 : decode cX3_lowPart 1 = .ok (.bipush 15, 2) := by decide +kernel
theorem dX3_lowPart_3 : decode cX3_lowPart 3 = .ok (.iand, 1) := by decide +kernel
theorem dX3_lowPart_4 : decode cX3_lowPart 4 = .ok (.lookupswitch 64 #[(2, 52), (6, 36), (11, 44)], 36) := by decide +kernel
theorem dX3_lowPart_40 : decode cX3_lowPart 40 = .ok (.lload_n 2, 1) := by decide +kernel
theorem dX3_lowPart_41 : decode cX3_lowPart 41 = .ok (.iload 4, 2) := by decide +kernel
theorem dX3_lowPart_43 : decode cX3_lowPart 43 = .ok (.lushr, 1) := by decide +kernel
theorem dX3_lowPart_44 : decode cX3_lowPart 44 = .ok (.lload 5, 2) := by decide +kernel
theorem dX3_lowPart_46 : decode cX3_lowPart 46 = .ok (.land, 1) := by decide +kernel
theorem dX3_lowPart_47 : decode cX3_lowPart 47 = .ok (.lreturn, 1) := by decide +kernel
theorem dX3_lowPart_48 : decode cX3_lowPart 48 = .ok (.lload_n 2, 1) := by decide +kernel
theorem dX3_lowPart_49 : decode cX3_lowPart 49 = .ok (.lload 5, 2) := by decide +kernel
theorem dX3_lowPart_51 : decode cX3_lowPart 51 = .ok (.land, 1) := by decide +kernel
theorem dX3_lowPart_52 : decode cX3_lowPart 52 = .ok (.iload 4, 2) := by decide +kernel
theorem dX3_lowPart_54 : decode cX3_lowPart 54 = .ok (.lshl, 1) := by decide +kernel
theorem dX3_lowPart_55 : decode cX3_lowPart 55 = .ok (.lreturn, 1) := by decide +kernel
theorem dX3_lowPart_56 : decode cX3_lowPart 56 = .ok (.lload_n 2, 1) := by decide +kernel
theorem dX3_lowPart_57 : decode cX3_lowPart 57 = .ok (.lload 5, 2) := by decide +kernel
theorem dX3_lowPart_59 : decode cX3_lowPart 59 = .ok (.iload 4, 2) := by decide +kernel
theorem dX3_lowPart_61 : decode cX3_lowPart 61 = .ok (.lshl, 1) := by decide +kernel
theorem dX3_lowPart_62 : decode cX3_lowPart 62 = .ok (.ldc2_w 64, 3) := by decide +kernel
theorem dX3_lowPart_65 : decode cX3_lowPart 65 = .ok (.lxor, 1) := by decide +kernel
theorem dX3_lowPart_66 : decode cX3_lowPart 66 = .ok (.land, 1) := by decide +kernel
theorem dX3_lowPart_67 : decode cX3_lowPart 67 = .ok (.lreturn, 1) := by decide +kernel
theorem dX3_lowPart_68 : decode cX3_lowPart 68 = .ok (.aload_n 0, 1) := by decide +kernel
theorem dX3_lowPart_69 : decode cX3_lowPart 69 = .ok (.iconst 0, 1) := by decide +kernel
theorem dX3_lowPart_70 : decode cX3_lowPart 70 = .ok (.putfield 7, 3) := by decide +kernel
theorem dX3_lowPart_73 : decode cX3_lowPart 73 = .ok (.lconst 0, 1) := by decide +kernel
theorem dX3_lowPart_74 : decode cX3_lowPart 74 = .ok (.lreturn, 1) := by decide +kernel
theorem dX3_highPart_0 : decode cX3_highPart 0 = .ok (.iload_n 1, 1) := by decide +kernel
theorem dX3_highPart_1 : decode cX3_highPart 1 = .ok (.bipush 48, 2) := by decide +kernel
theorem dX3_highPart_3 : decode cX3_highPart 3 = .ok (.iand, 1) := by decide +kernel
theorem dX3_highPart_4 : decode cX3_highPart 4 = .ok (.ifCond .ne 10, 3) := by decide +kernel
theorem dX3_highPart_7 : decode cX3_highPart 7 = .ok (.aload_n 0, 1) := by decide +kernel
theorem dX3_highPart_8 : decode cX3_highPart 8 = .ok (.iconst 0, 1) := by decide +kernel
theorem dX3_highPart_9 : decode cX3_highPart 9 = .ok (.putfield 7, 3) := by decide +kernel
theorem dX3_highPart_12 : decode cX3_highPart 12 = .ok (.lconst 0, 1) := by decide +kernel
theorem dX3_highPart_13 : decode cX3_highPart 13 = .ok (.lreturn, 1) := by decide +kernel
theorem dX3_highPart_14 : decode cX3_highPart 14 = .ok (.iload_n 1, 1) := by decide +kernel
theorem dX3_highPart_15 : decode cX3_highPart 15 = .ok (.bipush 15, 2) := by decide +kernel
theorem dX3_highPart_17 : decode cX3_highPart 17 = .ok (.iand, 1) := by decide +kernel
theorem dX3_highPart_18 : decode cX3_highPart 18 = .ok (.lookupswitch 98 #[(2, 74), (7, 54), (10, 34)], 34) := by decide +kernel
theorem dX3_highPart_52 : decode cX3_highPart 52 = .ok (.iload 4, 2) := by decide +kernel
theorem dX3_highPart_54 : decode cX3_highPart 54 = .ok (.ifCond .ne 7, 3) := by decide +kernel
theorem dX3_highPart_57 : decode cX3_highPart 57 = .ok (.lload_n 2, 1) := by decide +kernel
theorem dX3_highPart_58 : decode cX3_highPart 58 = .ok (.goto 10, 3) := by decide +kernel
theorem dX3_highPart_61 : decode cX3_highPart 61 = .ok (.lload_n 2, 1) := by decide +kernel
theorem dX3_highPart_62 : decode cX3_highPart 62 = .ok (.bipush 64, 2) := by decide +kernel
theorem dX3_highPart_64 : decode cX3_highPart 64 = .ok (.iload 4, 2) := by decide +kernel
theorem dX3_highPart_66 : decode cX3_highPart 66 = .ok (.isub, 1) := by decide +kernel
theorem dX3_highPart_67 : decode cX3_highPart 67 = .ok (.lshl, 1) := by decide +kernel
theorem dX3_highPart_68 : decode cX3_highPart 68 = .ok (.lload 5, 2) := by decide +kernel
theorem dX3_highPart_70 : decode cX3_highPart 70 = .ok (.land, 1) := by decide +kernel
theorem dX3_highPart_71 : decode cX3_highPart 71 = .ok (.lreturn, 1) := by decide +kernel
theorem dX3_highPart_72 : decode cX3_highPart 72 = .ok (.iload 4, 2) := by decide +kernel
theorem dX3_highPart_74 : decode cX3_highPart 74 = .ok (.ifCond .ne 7, 3) := by decide +kernel
theorem dX3_highPart_77 : decode cX3_highPart 77 = .ok (.lconst 0, 1) := by decide +kernel
theorem dX3_highPart_78 : decode cX3_highPart 78 = .ok (.goto 13, 3) := by decide +kernel
theorem dX3_highPart_81 : decode cX3_highPart 81 = .ok (.lload_n 2, 1) := by decide +kernel
theorem dX3_highPart_82 : decode cX3_highPart 82 = .ok (.lload 5, 2) := by decide +kernel
theorem dX3_highPart_84 : decode cX3_highPart 84 = .ok (.land, 1) := by decide +kernel
theorem dX3_highPart_85 : decode cX3_highPart 85 = .ok (.bipush 64, 2) := by decide +kernel
theorem dX3_highPart_87 : decode cX3_highPart 87 = .ok (.iload 4, 2) := by decide +kernel
theorem dX3_highPart_89 : decode cX3_highPart 89 = .ok (.isub, 1) := by decide +kernel
theorem dX3_highPart_90 : decode cX3_highPart 90 = .ok (.lushr, 1) := by decide +kernel
theorem dX3_highPart_91 : decode cX3_highPart 91 = .ok (.lreturn, 1) := by decide +kernel
theorem dX3_highPart_92 : decode cX3_highPart 92 = .ok (.iload 4, 2) := by decide +kernel
theorem dX3_highPart_94 : decode cX3_highPart 94 = .ok (.ifCond .ne 7, 3) := by decide +kernel
theorem dX3_highPart_97 : decode cX3_highPart 97 = .ok (.lload_n 2, 1) := by decide +kernel
theorem dX3_highPart_98 : decode cX3_highPart 98 = .ok (.goto 17, 3) := by decide +kernel
theorem dX3_highPart_101 : decode cX3_highPart 101 = .ok (.lload_n 2, 1) := by decide +kernel
theorem dX3_highPart_102 : decode cX3_highPart 102 = .ok (.lload 5, 2) := by decide +kernel
theorem dX3_highPart_104 : decode cX3_highPart 104 = .ok (.bipush 64, 2) := by decide +kernel
theorem dX3_highPart_106 : decode cX3_highPart 106 = .ok (.iload 4, 2) := by decide +kernel
theorem dX3_highPart_108 : decode cX3_highPart 108 = .ok (.isub, 1) := by decide +kernel
theorem dX3_highPart_109 : decode cX3_highPart 109 = .ok (.lushr, 1) := by decide +kernel
theorem dX3_highPart_110 : decode cX3_highPart 110 = .ok (.ldc2_w 64, 3) := by decide +kernel
theorem dX3_highPart_113 : decode cX3_highPart 113 = .ok (.lxor, 1) := by decide +kernel
theorem dX3_highPart_114 : decode cX3_highPart 114 = .ok (.land, 1) := by decide +kernel
theorem dX3_highPart_115 : decode cX3_highPart 115 = .ok (.lreturn, 1) := by decide +kernel
theorem dX3_highPart_116 : decode cX3_highPart 116 = .ok (.aload_n 0, 1) := by decide +kernel
theorem dX3_highPart_117 : decode cX3_highPart 117 = .ok (.iconst 0, 1) := by decide +kernel
theorem dX3_highPart_118 : decode cX3_highPart 118 = .ok (.putfield 7, 3) := by decide +kernel
theorem dX3_highPart_121 : decode cX3_highPart 121 = .ok (.lconst 0, 1) := by decide +kernel
theorem dX3_highPart_122 : decode cX3_highPart 122 = .ok (.lreturn, 1) := by decide +kernel
theorem dX3_multiply_0 : decode cX3_multiply 0 = .ok (.iload_n 1, 1) := by decide +kernel
theorem dX3_multiply_1 : decode cX3_multiply 1 = .ok (.lookupswitch 146 #[(0, 51), (32, 59), (48, 64), (64, 71), (96, 109)], 51) := by decide +kernel
theorem dX3_multiply_52 : decode cX3_multiply 52 = .ok (.lload_n 2, 1) := by decide +kernel
theorem dX3_multiply_53 : decode cX3_multiply 53 = .ok (.lload 4, 2) := by decide +kernel
theorem dX3_multiply_55 : decode cX3_multiply 55 = .ok (.lmul, 1) := by decide +kernel
theorem dX3_multiply_56 : decode cX3_multiply 56 = .ok (.invokestatic 38, 3) := by decide +kernel
theorem dX3_multiply_59 : decode cX3_multiply 59 = .ok (.lreturn, 1) := by decide +kernel
theorem dX3_multiply_60 : decode cX3_multiply 60 = .ok (.lload_n 2, 1) := by decide +kernel
theorem dX3_multiply_61 : decode cX3_multiply 61 = .ok (.lload 4, 2) := by decide +kernel
theorem dX3_multiply_63 : decode cX3_multiply 63 = .ok (.lmul, 1) := by decide +kernel
theorem dX3_multiply_64 : decode cX3_multiply 64 = .ok (.lreturn, 1) := by decide +kernel
theorem dX3_multiply_65 : decode cX3_multiply 65 = .ok (.lload_n 2, 1) := by decide +kernel
theorem dX3_multiply_66 : decode cX3_multiply 66 = .ok (.lload 4, 2) := by decide +kernel
theorem dX3_multiply_68 : decode cX3_multiply 68 = .ok (.invokestatic 79, 3) := by decide +kernel
theorem dX3_multiply_71 : decode cX3_multiply 71 = .ok (.lreturn, 1) := by decide +kernel
theorem dX3_multiply_72 : decode cX3_multiply 72 = .ok (.aload_n 0, 1) := by decide +kernel
theorem dX3_multiply_73 : decode cX3_multiply 73 = .ok (.lload_n 2, 1) := by decide +kernel
theorem dX3_multiply_74 : decode cX3_multiply 74 = .ok (.lload 4, 2) := by decide +kernel
theorem dX3_multiply_76 : decode cX3_multiply 76 = .ok (.lmul, 1) := by decide +kernel
theorem dX3_multiply_77 : decode cX3_multiply 77 = .ok (.invokestatic 38, 3) := by decide +kernel
theorem dX3_multiply_80 : decode cX3_multiply 80 = .ok (.lload_n 2, 1) := by decide +kernel
theorem dX3_multiply_81 : decode cX3_multiply 81 = .ok (.invokestatic 38, 3) := by decide +kernel
theorem dX3_multiply_84 : decode cX3_multiply 84 = .ok (.lload 4, 2) := by decide +kernel
theorem dX3_multiply_86 : decode cX3_multiply 86 = .ok (.invokestatic 38, 3) := by decide +kernel
theorem dX3_multiply_89 : decode cX3_multiply 89 = .ok (.lmul, 1) := by decide +kernel
theorem dX3_multiply_90 : decode cX3_multiply 90 = .ok (.lcmp, 1) := by decide +kernel
theorem dX3_multiply_91 : decode cX3_multiply 91 = .ok (.ifCond .eq 7, 3) := by decide +kernel
theorem dX3_multiply_94 : decode cX3_multiply 94 = .ok (.iconst 1, 1) := by decide +kernel
theorem dX3_multiply_95 : decode cX3_multiply 95 = .ok (.goto 4, 3) := by decide +kernel
theorem dX3_multiply_98 : decode cX3_multiply 98 = .ok (.iconst 0, 1) := by decide +kernel
theorem dX3_multiply_99 : decode cX3_multiply 99 = .ok (.lload_n 2, 1) := by decide +kernel
theorem dX3_multiply_100 : decode cX3_multiply 100 = .ok (.lload 4, 2) := by decide +kernel
theorem dX3_multiply_102 : decode cX3_multiply 102 = .ok (.lmul, 1) := by decide +kernel
theorem dX3_multiply_103 : decode cX3_multiply 103 = .ok (.invokestatic 38, 3) := by decide +kernel
theorem dX3_multiply_106 : decode cX3_multiply 106 = .ok (.invokevirtual 46, 3) := by decide +kernel
theorem dX3_multiply_109 : decode cX3_multiply 109 = .ok (.lreturn, 1) := by decide +kernel
theorem dX3_multiply_110 : decode cX3_multiply 110 = .ok (.aload_n 0, 1) := by decide +kernel
theorem dX3_multiply_111 : decode cX3_multiply 111 = .ok (.lload_n 2, 1) := by decide +kernel
theorem dX3_multiply_112 : decode cX3_multiply 112 = .ok (.lload 4, 2) := by decide +kernel
theorem dX3_multiply_114 : decode cX3_multiply 114 = .ok (.invokestatic 79, 3) := by decide +kernel
theorem dX3_multiply_117 : decode cX3_multiply 117 = .ok (.lload_n 2, 1) := by decide +kernel
theorem dX3_multiply_118 : decode cX3_multiply 118 = .ok (.lload 4, 2) := by decide +kernel
theorem dX3_multiply_120 : decode cX3_multiply 120 = .ok (.invokestatic 82, 3) := by decide +kernel
theorem dX3_multiply_123 : decode cX3_multiply 123 = .ok (.lload_n 2, 1) := by decide +kernel
theorem dX3_multiply_124 : decode cX3_multiply 124 = .ok (.lload 4, 2) := by decide +kernel
theorem dX3_multiply_126 : decode cX3_multiply 126 = .ok (.lmul, 1) := by decide +kernel
theorem dX3_multiply_127 : decode cX3_multiply 127 = .ok (.bipush 63, 2) := by decide +kernel
theorem dX3_multiply_129 : decode cX3_multiply 129 = .ok (.lshr, 1) := by decide +kernel
theorem dX3_multiply_130 : decode cX3_multiply 130 = .ok (.lcmp, 1) := by decide +kernel
theorem dX3_multiply_131 : decode cX3_multiply 131 = .ok (.ifCond .eq 7, 3) := by decide +kernel
theorem dX3_multiply_134 : decode cX3_multiply 134 = .ok (.iconst 1, 1) := by decide +kernel
theorem dX3_multiply_135 : decode cX3_multiply 135 = .ok (.goto 4, 3) := by decide +kernel
theorem dX3_multiply_138 : decode cX3_multiply 138 = .ok (.iconst 0, 1) := by decide +kernel
theorem dX3_multiply_139 : decode cX3_multiply 139 = .ok (.lload_n 2, 1) := by decide +kernel
theorem dX3_multiply_140 : decode cX3_multiply 140 = .ok (.lload 4, 2) := by decide +kernel
theorem dX3_multiply_142 : decode cX3_multiply 142 = .ok (.lmul, 1) := by decide +kernel
theorem dX3_multiply_143 : decode cX3_multiply 143 = .ok (.invokevirtual 46, 3) := by decide +kernel
theorem dX3_multiply_146 : decode cX3_multiply 146 = .ok (.lreturn, 1) := by decide +kernel
theorem dX3_multiply_147 : decode cX3_multiply 147 = .ok (.aload_n 0, 1) := by decide +kernel
theorem dX3_multiply_148 : decode cX3_multiply 148 = .ok (.iconst 0, 1) := by decide +kernel
theorem dX3_multiply_149 : decode cX3_multiply 149 = .ok (.putfield 7, 3) := by decide +kernel
theorem dX3_multiply_152 : decode cX3_multiply 152 = .ok (.lconst 0, 1) := by decide +kernel
theorem dX3_multiply_153 : decode cX3_multiply 153 = .ok (.lreturn, 1) := by decide +kernel
theorem dX3_upper_0 : decode cX3_upper 0 = .ok (.lload_n 0, 1) := by decide +kernel
theorem dX3_upper_1 : decode cX3_upper 1 = .ok (.ldc2_w 86, 3) := by decide +kernel
theorem dX3_upper_4 : decode cX3_upper 4 = .ok (.land, 1) := by decide +kernel
theorem dX3_upper_5 : decode cX3_upper 5 = .ok (.lstore 4, 2) := by decide +kernel
theorem dX3_upper_7 : decode cX3_upper 7 = .ok (.lload_n 2, 1) := by decide +kernel
theorem dX3_upper_8 : decode cX3_upper 8 = .ok (.ldc2_w 86, 3) := by decide +kernel
theorem dX3_upper_11 : decode cX3_upper 11 = .ok (.land, 1) := by decide +kernel
theorem dX3_upper_12 : decode cX3_upper 12 = .ok (.lstore 6, 2) := by decide +kernel
theorem dX3_upper_14 : decode cX3_upper 14 = .ok (.lload_n 0, 1) := by decide +kernel
theorem dX3_upper_15 : decode cX3_upper 15 = .ok (.bipush 32, 2) := by decide +kernel
theorem dX3_upper_17 : decode cX3_upper 17 = .ok (.lushr, 1) := by decide +kernel
theorem dX3_upper_18 : decode cX3_upper 18 = .ok (.lstore 8, 2) := by decide +kernel
theorem dX3_upper_20 : decode cX3_upper 20 = .ok (.lload_n 2, 1) := by decide +kernel
theorem dX3_upper_21 : decode cX3_upper 21 = .ok (.bipush 32, 2) := by decide +kernel
theorem dX3_upper_23 : decode cX3_upper 23 = .ok (.lushr, 1) := by decide +kernel
theorem dX3_upper_24 : decode cX3_upper 24 = .ok (.lstore 10, 2) := by decide +kernel
theorem dX3_upper_26 : decode cX3_upper 26 = .ok (.lload 8, 2) := by decide +kernel
theorem dX3_upper_28 : decode cX3_upper 28 = .ok (.lload 6, 2) := by decide +kernel
theorem dX3_upper_30 : decode cX3_upper 30 = .ok (.lmul, 1) := by decide +kernel
theorem dX3_upper_31 : decode cX3_upper 31 = .ok (.lload 4, 2) := by decide +kernel
theorem dX3_upper_33 : decode cX3_upper 33 = .ok (.lload 6, 2) := by decide +kernel
theorem dX3_upper_35 : decode cX3_upper 35 = .ok (.lmul, 1) := by decide +kernel
theorem dX3_upper_36 : decode cX3_upper 36 = .ok (.bipush 32, 2) := by decide +kernel
theorem dX3_upper_38 : decode cX3_upper 38 = .ok (.lushr, 1) := by decide +kernel
theorem dX3_upper_39 : decode cX3_upper 39 = .ok (.ladd, 1) := by decide +kernel
theorem dX3_upper_40 : decode cX3_upper 40 = .ok (.lstore 12, 2) := by decide +kernel
theorem dX3_upper_42 : decode cX3_upper 42 = .ok (.lload 4, 2) := by decide +kernel
theorem dX3_upper_44 : decode cX3_upper 44 = .ok (.lload 10, 2) := by decide +kernel
theorem dX3_upper_46 : decode cX3_upper 46 = .ok (.lmul, 1) := by decide +kernel
theorem dX3_upper_47 : decode cX3_upper 47 = .ok (.lload 12, 2) := by decide +kernel
theorem dX3_upper_49 : decode cX3_upper 49 = .ok (.ldc2_w 86, 3) := by decide +kernel
theorem dX3_upper_52 : decode cX3_upper 52 = .ok (.land, 1) := by decide +kernel
theorem dX3_upper_53 : decode cX3_upper 53 = .ok (.ladd, 1) := by decide +kernel
theorem dX3_upper_54 : decode cX3_upper 54 = .ok (.lstore 14, 2) := by decide +kernel
theorem dX3_upper_56 : decode cX3_upper 56 = .ok (.lload 8, 2) := by decide +kernel
theorem dX3_upper_58 : decode cX3_upper 58 = .ok (.lload 10, 2) := by decide +kernel
theorem dX3_upper_60 : decode cX3_upper 60 = .ok (.lmul, 1) := by decide +kernel
theorem dX3_upper_61 : decode cX3_upper 61 = .ok (.lload 12, 2) := by decide +kernel
theorem dX3_upper_63 : decode cX3_upper 63 = .ok (.bipush 32, 2) := by decide +kernel
theorem dX3_upper_65 : decode cX3_upper 65 = .ok (.lushr, 1) := by decide +kernel
theorem dX3_upper_66 : decode cX3_upper 66 = .ok (.ladd, 1) := by decide +kernel
theorem dX3_upper_67 : decode cX3_upper 67 = .ok (.lload 14, 2) := by decide +kernel
theorem dX3_upper_69 : decode cX3_upper 69 = .ok (.bipush 32, 2) := by decide +kernel
theorem dX3_upper_71 : decode cX3_upper 71 = .ok (.lushr, 1) := by decide +kernel
theorem dX3_upper_72 : decode cX3_upper 72 = .ok (.ladd, 1) := by decide +kernel
theorem dX3_upper_73 : decode cX3_upper 73 = .ok (.lreturn, 1) := by decide +kernel
theorem dX3_signedUpper_0 : decode cX3_signedUpper 0 = .ok (.lload_n 0, 1) := by decide +kernel
theorem dX3_signedUpper_1 : decode cX3_signedUpper 1 = .ok (.lload_n 2, 1) := by decide +kernel
theorem dX3_signedUpper_2 : decode cX3_signedUpper 2 = .ok (.lconst 0, 1) := by decide +kernel
theorem dX3_signedUpper_3 : decode cX3_signedUpper 3 = .ok (.lcmp, 1) := by decide +kernel
theorem dX3_signedUpper_4 : decode cX3_signedUpper 4 = .ok (.ifCond .ge 8, 3) := by decide +kernel
theorem dX3_signedUpper_7 : decode cX3_signedUpper 7 = .ok (.lload 4, 2) := by decide +kernel
theorem dX3_signedUpper_9 : decode cX3_signedUpper 9 = .ok (.goto 4, 3) := by decide +kernel
theorem dX3_signedUpper_12 : decode cX3_signedUpper 12 = .ok (.lconst 0, 1) := by decide +kernel
theorem dX3_signedUpper_13 : decode cX3_signedUpper 13 = .ok (.lsub, 1) := by decide +kernel
theorem dX3_signedUpper_14 : decode cX3_signedUpper 14 = .ok (.lload 4, 2) := by decide +kernel
theorem dX3_signedUpper_16 : decode cX3_signedUpper 16 = .ok (.lconst 0, 1) := by decide +kernel
theorem dX3_signedUpper_17 : decode cX3_signedUpper 17 = .ok (.lcmp, 1) := by decide +kernel
theorem dX3_signedUpper_18 : decode cX3_signedUpper 18 = .ok (.ifCond .ge 7, 3) := by decide +kernel
theorem dX3_signedUpper_21 : decode cX3_signedUpper 21 = .ok (.lload_n 2, 1) := by decide +kernel
theorem dX3_signedUpper_22 : decode cX3_signedUpper 22 = .ok (.goto 4, 3) := by decide +kernel
theorem dX3_signedUpper_25 : decode cX3_signedUpper 25 = .ok (.lconst 0, 1) := by decide +kernel
theorem dX3_signedUpper_26 : decode cX3_signedUpper 26 = .ok (.lsub, 1) := by decide +kernel
theorem dX3_signedUpper_27 : decode cX3_signedUpper 27 = .ok (.lreturn, 1) := by decide +kernel
end
section
set_option maxRecDepth 100000 in
set_option maxHeartbeats 4000000 in
theorem c_X0_clear (l : Launch) (dC : Nat → ClassId) (dI : Nat → Nat → Nat) (cI cJ : ClassId) (qC : Nat) (sz : Nat) (aVec : Int32) (aA : Int64) (aB : Int64) (aC : Int64) (aPc : Int64) : Met l yX0_clear (.code yX0_clear cX0_clear 1 none :: vG) ({ frames := 0, cells := 0, slots := 0, locals := 0 }) (va_Pc [.ref qC] (qa_pre (dC, dI) vwCl (wC cI cJ qC aVec aA aB aC aPc) [(cI, .int), (cJ, .long)] sz)) (qa_mod none (dC, dI) vwCl (wC cI cJ qC (-2 : Int32) aA aB aC aPc) (va_A (wC cI cJ qC aVec aA aB aC aPc) sz)) 0 0 (va_A (wC cI cJ qC aVec aA aB aC aPc) sz) := by
  refine Met.ofW (cc := cX0_clear) (maxL := 1) (ret := none) (by decide) rfl ?_
  intro p e s m args below meth c s₁ B hml hv
  obtain ⟨rfl, hsz, hP, hK, hD0⟩ := hv
  have hx := B.exec
  have hb := B.bytes
  have hr := B.returns
  have hts : ∀ w ∈ vG, w.before _ s = true := fun w h => atoms_spec (ws := (.code yX0_clear cX0_clear 1 none :: vG)) B.pre w (List.mem_cons_of_mem _ h)
  have hown : s.vm.findClass "LongMachine$Crossing" = some m.cls := findClass_of_methodNamed B.named
  have hlocks := B.notSynchronized
  subst hsz
  have hD := hD0.self (sz := s.heap.size)
  generalize hAe : va_A (wC cI cJ qC aVec aA aB aC aPc) s.heap.size = A at hD ⊢
  have hA : ∀ q : Nat, s.heap.size ≤ q → A q := fun q h => by rw [← hAe]; exact Or.inr h
  have hS : va_S A s.heap s.heap [] := va_S.rf
  have hl := lv_entry ([.ref qC]) (n := 1) (Nat.le_of_ble_eq_true rfl)
  rw [lg_entry_eq]
  generalize (lg_sl ([.ref qC]) ++ List.replicate (1 - (lg_sl ([.ref qC])).length) Slot.unset).toArray = ls at hl ⊢
  have hl : lv_has ls 1 [(0, .ref qC)] := hl
  refine lv_aload_n (pc := 0) hx hb dX0_clear_0 rfl (lv_at hl 0 rfl) ?_
  refine lv_bipush (pc := 1) (v := (-2 : Int32)) hx hb dX0_clear_1 (by decide) ?_
  refine va_put (D := (dC, dI)) (pc := 3) (ci := 0) (v := .int (-2 : Int32)) (ty := .int) (C := "LongMachine$Crossing") (T := TX0) (N := 5) hx hb hts ui_X0 tyX0 tyX0_ok nmX0 hown hK hP hD hS 0 rfl rfl 0 (by decide) (hts _ gm_76) (fun _ h9 => h9) rfl (by decide +kernel) rfl rfl (Nat.le_of_ble_eq_true rfl) dX0_clear_3 (fun H locs hP hD hS => ?_)
  have hP : va_P (dC, dI) vwCl (wC cI cJ qC (-2 : Int32) aA aB aC aPc) H := hP
  have hD : va_D A (wC cI cJ qC (-2 : Int32) aA aB aC aPc) := hD
  exact W.vret hx hb hr (fun t ht hW => ⟨rfl, by rw [ht]; exact hP, hS.F ht⟩) hS.2.2 dX0_clear_6
set_option maxRecDepth 100000 in
set_option maxHeartbeats 4000000 in
theorem c_X0_comeBack (l : Launch) (dC : Nat → ClassId) (dI : Nat → Nat → Nat) (cI cJ : ClassId) (qC : Nat) (sz : Nat) (aVec : Int32) (aA : Int64) (aB : Int64) (aC : Int64) (aPc : Int64) : Met l yX0_comeBack (.code yX0_comeBack cX0_comeBack 1 none :: vG) ({ frames := 0, cells := 0, slots := 0, locals := 0 }) (va_Pc [.ref qC] (qa_pre (dC, dI) vwCl (wC cI cJ qC aVec aA aB aC aPc) [(cI, .int), (cJ, .long)] sz)) (qa_mod none (dC, dI) vwCl (wC cI cJ qC (-1 : Int32) aA aB aC aPc) (va_A (wC cI cJ qC aVec aA aB aC aPc) sz)) 0 0 (va_A (wC cI cJ qC aVec aA aB aC aPc) sz) := by
  refine Met.ofW (cc := cX0_comeBack) (maxL := 1) (ret := none) (by decide) rfl ?_
  intro p e s m args below meth c s₁ B hml hv
  obtain ⟨rfl, hsz, hP, hK, hD0⟩ := hv
  have hx := B.exec
  have hb := B.bytes
  have hr := B.returns
  have hts : ∀ w ∈ vG, w.before _ s = true := fun w h => atoms_spec (ws := (.code yX0_comeBack cX0_comeBack 1 none :: vG)) B.pre w (List.mem_cons_of_mem _ h)
  have hown : s.vm.findClass "LongMachine$Crossing" = some m.cls := findClass_of_methodNamed B.named
  have hlocks := B.notSynchronized
  subst hsz
  have hD := hD0.self (sz := s.heap.size)
  generalize hAe : va_A (wC cI cJ qC aVec aA aB aC aPc) s.heap.size = A at hD ⊢
  have hA : ∀ q : Nat, s.heap.size ≤ q → A q := fun q h => by rw [← hAe]; exact Or.inr h
  have hS : va_S A s.heap s.heap [] := va_S.rf
  have hl := lv_entry ([.ref qC]) (n := 1) (Nat.le_of_ble_eq_true rfl)
  rw [lg_entry_eq]
  generalize (lg_sl ([.ref qC]) ++ List.replicate (1 - (lg_sl ([.ref qC])).length) Slot.unset).toArray = ls at hl ⊢
  have hl : lv_has ls 1 [(0, .ref qC)] := hl
  refine lv_aload_n (pc := 0) hx hb dX0_comeBack_0 rfl (lv_at hl 0 rfl) ?_
  refine lv_iconst (pc := 1) (v := (-1 : Int32)) hx hb dX0_comeBack_1 (by decide) ?_
  refine va_put (D := (dC, dI)) (pc := 2) (ci := 0) (v := .int (-1 : Int32)) (ty := .int) (C := "LongMachine$Crossing") (T := TX0) (N := 5) hx hb hts ui_X0 tyX0 tyX0_ok nmX0 hown hK hP hD hS 0 rfl rfl 0 (by decide) (hts _ gm_76) (fun _ h9 => h9) rfl (by decide +kernel) rfl rfl (Nat.le_of_ble_eq_true rfl) dX0_comeBack_2 (fun H locs hP hD hS => ?_)
  have hP : va_P (dC, dI) vwCl (wC cI cJ qC (-1 : Int32) aA aB aC aPc) H := hP
  have hD : va_D A (wC cI cJ qC (-1 : Int32) aA aB aC aPc) := hD
  exact W.vret hx hb hr (fun t ht hW => ⟨rfl, by rw [ht]; exact hP, hS.F ht⟩) hS.2.2 dX0_comeBack_5
set_option maxRecDepth 100000 in
set_option maxHeartbeats 4000000 in
theorem c_X0_enter (l : Launch) (dC : Nat → ClassId) (dI : Nat → Nat → Nat) (cI cJ : ClassId) (qC : Nat) (sz : Nat) (aVec : Int32) (aA : Int64) (aB : Int64) (aC : Int64) (aPc : Int64) (z1 : Int32) (z2 : Int64) (z4 : Int64) (z6 : Int64) (z8 : Int64) : Met l yX0_enter (.code yX0_enter cX0_enter 10 none :: vG) ({ frames := 0, cells := 0, slots := 0, locals := 0 }) (va_Pc [.ref qC, .int z1, .long z2, .long z4, .long z6, .long z8] (qa_pre (dC, dI) vwCl (wC cI cJ qC aVec aA aB aC aPc) [(cI, .int), (cJ, .long)] sz)) (qa_mod none (dC, dI) vwCl (wC cI cJ qC z1 z2 z4 z6 z8) (va_A (wC cI cJ qC aVec aA aB aC aPc) sz)) 0 0 (va_A (wC cI cJ qC aVec aA aB aC aPc) sz) := by
  refine Met.ofW (cc := cX0_enter) (maxL := 10) (ret := none) (by decide) rfl ?_
  intro p e s m args below meth c s₁ B hml hv
  obtain ⟨rfl, hsz, hP, hK, hD0⟩ := hv
  have hx := B.exec
  have hb := B.bytes
  have hr := B.returns
  have hts : ∀ w ∈ vG, w.before _ s = true := fun w h => atoms_spec (ws := (.code yX0_enter cX0_enter 10 none :: vG)) B.pre w (List.mem_cons_of_mem _ h)
  have hown : s.vm.findClass "LongMachine$Crossing" = some m.cls := findClass_of_methodNamed B.named
  have hlocks := B.notSynchronized
  subst hsz
  have hD := hD0.self (sz := s.heap.size)
  generalize hAe : va_A (wC cI cJ qC aVec aA aB aC aPc) s.heap.size = A at hD ⊢
  have hA : ∀ q : Nat, s.heap.size ≤ q → A q := fun q h => by rw [← hAe]; exact Or.inr h
  have hS : va_S A s.heap s.heap [] := va_S.rf
  have hl := lv_entry ([.ref qC, .int z1, .long z2, .long z4, .long z6, .long z8]) (n := 10) (Nat.le_of_ble_eq_true rfl)
  rw [lg_entry_eq]
  generalize (lg_sl ([.ref qC, .int z1, .long z2, .long z4, .long z6, .long z8]) ++ List.replicate (10 - (lg_sl ([.ref qC, .int z1, .long z2, .long z4, .long z6, .long z8])).length) Slot.unset).toArray = ls at hl ⊢
  have hl : lv_has ls 10 [(0, .ref qC), (1, .int z1), (2, .long z2), (4, .long z4), (6, .long z6), (8, .long z8)] := hl
  refine lv_aload_n (pc := 0) hx hb dX0_enter_0 rfl (lv_at hl 0 rfl) ?_
  refine lv_iload_n (pc := 1) hx hb dX0_enter_1 rfl (lv_at hl 1 rfl) ?_
  refine va_put (D := (dC, dI)) (pc := 2) (ci := 0) (v := .int z1) (ty := .int) (C := "LongMachine$Crossing") (T := TX0) (N := 5) hx hb hts ui_X0 tyX0 tyX0_ok nmX0 hown hK hP hD hS 0 rfl rfl 0 (by decide) (hts _ gm_76) (fun _ h9 => h9) rfl (by decide +kernel) rfl rfl (Nat.le_of_ble_eq_true rfl) dX0_enter_2 (fun H locs hP hD hS => ?_)
  have hP : va_P (dC, dI) vwCl (wC cI cJ qC z1 aA aB aC aPc) H := hP
  have hD : va_D A (wC cI cJ qC z1 aA aB aC aPc) := hD
  refine lv_aload_n (pc := 5) hx hb dX0_enter_5 rfl (lv_at hl 0 rfl) ?_
  refine lv_lload_n (pc := 6) hx hb dX0_enter_6 rfl (lv_at hl 2 rfl) ?_
  refine va_put (D := (dC, dI)) (pc := 7) (ci := 0) (v := .long z2) (ty := .long) (C := "LongMachine$Crossing") (T := TX0) (N := 5) hx hb hts ui_X0 tyX0 tyX0_ok nmX0 hown hK hP hD hS 0 rfl rfl 1 (by decide) (hts _ gm_78) (fun _ h9 => h9) rfl (by decide +kernel) rfl rfl (Nat.le_of_ble_eq_true rfl) dX0_enter_7 (fun H locs hP hD hS => ?_)
  have hP : va_P (dC, dI) vwCl (wC cI cJ qC z1 z2 aB aC aPc) H := hP
  have hD : va_D A (wC cI cJ qC z1 z2 aB aC aPc) := hD
  refine lv_aload_n (pc := 10) hx hb dX0_enter_10 rfl (lv_at hl 0 rfl) ?_
  refine lv_lload (pc := 11) hx hb dX0_enter_11 (lv_at hl 3 rfl) ?_
  refine va_put (D := (dC, dI)) (pc := 13) (ci := 0) (v := .long z4) (ty := .long) (C := "LongMachine$Crossing") (T := TX0) (N := 5) hx hb hts ui_X0 tyX0 tyX0_ok nmX0 hown hK hP hD hS 0 rfl rfl 2 (by decide) (hts _ gm_80) (fun _ h9 => h9) rfl (by decide +kernel) rfl rfl (Nat.le_of_ble_eq_true rfl) dX0_enter_13 (fun H locs hP hD hS => ?_)
  have hP : va_P (dC, dI) vwCl (wC cI cJ qC z1 z2 z4 aC aPc) H := hP
  have hD : va_D A (wC cI cJ qC z1 z2 z4 aC aPc) := hD
  refine lv_aload_n (pc := 16) hx hb dX0_enter_16 rfl (lv_at hl 0 rfl) ?_
  refine lv_lload (pc := 17) hx hb dX0_enter_17 (lv_at hl 4 rfl) ?_
  refine va_put (D := (dC, dI)) (pc := 19) (ci := 0) (v := .long z6) (ty := .long) (C := "LongMachine$Crossing") (T := TX0) (N := 5) hx hb hts ui_X0 tyX0 tyX0_ok nmX0 hown hK hP hD hS 0 rfl rfl 3 (by decide) (hts _ gm_82) (fun _ h9 => h9) rfl (by decide +kernel) rfl rfl (Nat.le_of_ble_eq_true rfl) dX0_enter_19 (fun H locs hP hD hS => ?_)
  have hP : va_P (dC, dI) vwCl (wC cI cJ qC z1 z2 z4 z6 aPc) H := hP
  have hD : va_D A (wC cI cJ qC z1 z2 z4 z6 aPc) := hD
  refine lv_aload_n (pc := 22) hx hb dX0_enter_22 rfl (lv_at hl 0 rfl) ?_
  refine lv_lload (pc := 23) hx hb dX0_enter_23 (lv_at hl 5 rfl) ?_
  refine va_put (D := (dC, dI)) (pc := 25) (ci := 0) (v := .long z8) (ty := .long) (C := "LongMachine$Crossing") (T := TX0) (N := 5) hx hb hts ui_X0 tyX0 tyX0_ok nmX0 hown hK hP hD hS 0 rfl rfl 4 (by decide) (hts _ gm_84) (fun _ h9 => h9) rfl (by decide +kernel) rfl rfl (Nat.le_of_ble_eq_true rfl) dX0_enter_25 (fun H locs hP hD hS => ?_)
  have hP : va_P (dC, dI) vwCl (wC cI cJ qC z1 z2 z4 z6 z8) H := hP
  have hD : va_D A (wC cI cJ qC z1 z2 z4 z6 z8) := hD
  exact W.vret hx hb hr (fun t ht hW => ⟨rfl, by rw [ht]; exact hP, hS.F ht⟩) hS.2.2 dX0_enter_28
end
section
def f_X1_add (z1 : Int32) (z2 : Int32) (iCnt : Int32) (iL : (Nat → Int32)) (iN : (Nat → Int32)) : Int32 × Int32 × (Nat → Int32) × (Nat → Int32) := (if iCnt < (4 : Int32) then ((1 : Int32), (iCnt + (1 : Int32)), (upd iL (Int32.toNatClampNeg iCnt) z1), (upd iN (Int32.toNatClampNeg iCnt) z2)) else ((0 : Int32), iCnt, iL, iN))
set_option maxRecDepth 100000 in
set_option maxHeartbeats 4000000 in
theorem c_X1_add (l : Launch) (dC : Nat → ClassId) (dI : Nat → Nat → Nat) (cI cJ : ClassId) (qI qIl qIn : Nat) (sz : Nat) (iCnt : Int32) (iL : (Nat → Int32)) (iN : (Nat → Int32)) (z1 : Int32) (z2 : Int32) (hc0 : 0 ≤ iCnt.toInt) : Met l yX1_add (.code yX1_add cX1_add 3 (some .boolean) :: vG) ({ frames := 0, cells := 0, slots := 0, locals := 0 }) (va_Pc [.ref qI, .int z1, .int z2] (qa_pre (dC, dI) vwCl (wI cI cJ qI qIl qIn iCnt iL iN) [(cI, .int), (cJ, .long)] sz)) (qa_mod (some (.int ((f_X1_add z1 z2 iCnt iL iN).1))) (dC, dI) vwCl (wI cI cJ qI qIl qIn ((f_X1_add z1 z2 iCnt iL iN).2.1) ((f_X1_add z1 z2 iCnt iL iN).2.2.1) ((f_X1_add z1 z2 iCnt iL iN).2.2.2)) (va_A (wI cI cJ qI qIl qIn iCnt iL iN) sz)) 0 0 (va_A (wI cI cJ qI qIl qIn iCnt iL iN) sz) := by
  refine Met.ofW (cc := cX1_add) (maxL := 3) (ret := (some .boolean)) (by decide) rfl ?_
  intro p e s m args below meth c s₁ B hml hv
  obtain ⟨rfl, hsz, hP, hK, hD0⟩ := hv
  have hx := B.exec
  have hb := B.bytes
  have hr := B.returns
  have hts : ∀ w ∈ vG, w.before _ s = true := fun w h => atoms_spec (ws := (.code yX1_add cX1_add 3 (some .boolean) :: vG)) B.pre w (List.mem_cons_of_mem _ h)
  have hown : s.vm.findClass "LongMachine$Interrupts" = some m.cls := findClass_of_methodNamed B.named
  have hlocks := B.notSynchronized
  subst hsz
  have hD := hD0.self (sz := s.heap.size)
  generalize hAe : va_A (wI cI cJ qI qIl qIn iCnt iL iN) s.heap.size = A at hD ⊢
  have hA : ∀ q : Nat, s.heap.size ≤ q → A q := fun q h => by rw [← hAe]; exact Or.inr h
  have hS : va_S A s.heap s.heap [] := va_S.rf
  have hl := lv_entry ([.ref qI, .int z1, .int z2]) (n := 3) (Nat.le_of_ble_eq_true rfl)
  rw [lg_entry_eq]
  generalize (lg_sl ([.ref qI, .int z1, .int z2]) ++ List.replicate (3 - (lg_sl ([.ref qI, .int z1, .int z2])).length) Slot.unset).toArray = ls at hl ⊢
  have hl : lv_has ls 3 [(0, .ref qI), (1, .int z1), (2, .int z2)] := hl
  obtain ⟨u, hu⟩ : ∃ u, u = f_X1_add z1 z2 iCnt iL iN := ⟨_, rfl⟩
  rw [← hu]
  unfold f_X1_add at hu
  refine lv_aload_n (pc := 0) hx hb dX1_add_0 rfl (lv_at hl 0 rfl) ?_
  refine va_get (D := (dC, dI)) (pc := 1) (ci := 1) (v := .int iCnt) (C := "LongMachine$Interrupts") (T := TX1) (N := 3) hx hb hts ui_X1 hown hK hP 0 rfl rfl 2 (by decide) (hts _ gm_49) (fun _ h9 => h9) rfl dX1_add_1 ?_
  refine lv_iconst (pc := 4) (v := (4 : Int32)) hx hb dX1_add_4 (by decide) ?_
  refine lv_icmp_lt (pc := 5) (tgt := 10) hx hb dX1_add_5 (by decide) (fun h5_1 => ?_) (fun h5_1 => ?_)
  · have hu := hu.trans (if_pos h5_1)
    refine lv_aload_n (pc := 10) hx hb dX1_add_10 rfl (lv_at hl 0 rfl) ?_
    refine va_get (D := (dC, dI)) (pc := 11) (ci := 1) (v := .ref qIl) (C := "LongMachine$Interrupts") (T := TX1) (N := 3) hx hb hts ui_X1 hown hK hP 0 rfl rfl 0 (by decide) (hts _ gm_47) (fun _ h9 => h9) rfl dX1_add_11 ?_
    refine lv_aload_n (pc := 14) hx hb dX1_add_14 rfl (lv_at hl 0 rfl) ?_
    refine va_get (D := (dC, dI)) (pc := 15) (ci := 1) (v := .int iCnt) (C := "LongMachine$Interrupts") (T := TX1) (N := 3) hx hb hts ui_X1 hown hK hP 0 rfl rfl 2 (by decide) (hts _ gm_49) (fun _ h9 => h9) rfl dX1_add_15 ?_
    refine lv_iload_n (pc := 18) hx hb dX1_add_18 rfl (lv_at hl 1 rfl) ?_
    refine qa_iast (pc := 19) (k := (Int32.toNatClampNeg iCnt)) hx hb hK hP hD hS 1 0 rfl rfl rfl (rg_a hc0 h5_1 (by decide)) dX1_add_19 (fun H locs hP hD hS => ?_)
    have hP : va_P (dC, dI) vwCl (wI cI cJ qI qIl qIn iCnt (upd iL (Int32.toNatClampNeg iCnt) z1) iN) H := hP
    have hD : va_D A (wI cI cJ qI qIl qIn iCnt (upd iL (Int32.toNatClampNeg iCnt) z1) iN) := hD
    refine lv_aload_n (pc := 20) hx hb dX1_add_20 rfl (lv_at hl 0 rfl) ?_
    refine va_get (D := (dC, dI)) (pc := 21) (ci := 1) (v := .ref qIn) (C := "LongMachine$Interrupts") (T := TX1) (N := 3) hx hb hts ui_X1 hown hK hP 0 rfl rfl 1 (by decide) (hts _ gm_48) (fun _ h9 => h9) rfl dX1_add_21 ?_
    refine lv_aload_n (pc := 24) hx hb dX1_add_24 rfl (lv_at hl 0 rfl) ?_
    refine va_get (D := (dC, dI)) (pc := 25) (ci := 1) (v := .int iCnt) (C := "LongMachine$Interrupts") (T := TX1) (N := 3) hx hb hts ui_X1 hown hK hP 0 rfl rfl 2 (by decide) (hts _ gm_49) (fun _ h9 => h9) rfl dX1_add_25 ?_
    refine lv_iload_n (pc := 28) hx hb dX1_add_28 rfl (lv_at hl 2 rfl) ?_
    refine qa_iast (pc := 29) (k := (Int32.toNatClampNeg iCnt)) hx hb hK hP hD hS 2 0 rfl rfl rfl (rg_a hc0 h5_1 (by decide)) dX1_add_29 (fun H locs hP hD hS => ?_)
    have hP : va_P (dC, dI) vwCl (wI cI cJ qI qIl qIn iCnt (upd iL (Int32.toNatClampNeg iCnt) z1) (upd iN (Int32.toNatClampNeg iCnt) z2)) H := hP
    have hD : va_D A (wI cI cJ qI qIl qIn iCnt (upd iL (Int32.toNatClampNeg iCnt) z1) (upd iN (Int32.toNatClampNeg iCnt) z2)) := hD
    refine lv_aload_n (pc := 30) hx hb dX1_add_30 rfl (lv_at hl 0 rfl) ?_
    refine lv_dup (pc := 31) hx hb dX1_add_31 rfl ?_
    refine va_get (D := (dC, dI)) (pc := 32) (ci := 1) (v := .int iCnt) (C := "LongMachine$Interrupts") (T := TX1) (N := 3) hx hb hts ui_X1 hown hK hP 0 rfl rfl 2 (by decide) (hts _ gm_49) (fun _ h9 => h9) rfl dX1_add_32 ?_
    refine lv_iconst (pc := 35) (v := (1 : Int32)) hx hb dX1_add_35 (by decide) ?_
    refine lv_iadd (pc := 36) hx hb dX1_add_36 ?_
    refine va_put (D := (dC, dI)) (pc := 37) (ci := 1) (v := .int (iCnt + (1 : Int32))) (ty := .int) (C := "LongMachine$Interrupts") (T := TX1) (N := 3) hx hb hts ui_X1 tyX1 tyX1_ok nmX1 hown hK hP hD hS 0 rfl rfl 2 (by decide) (hts _ gm_49) (fun _ h9 => h9) rfl (by decide +kernel) rfl rfl (Nat.le_of_ble_eq_true rfl) dX1_add_37 (fun H locs hP hD hS => ?_)
    have hP : va_P (dC, dI) vwCl (wI cI cJ qI qIl qIn (iCnt + (1 : Int32)) (upd iL (Int32.toNatClampNeg iCnt) z1) (upd iN (Int32.toNatClampNeg iCnt) z2)) H := hP
    have hD : va_D A (wI cI cJ qI qIl qIn (iCnt + (1 : Int32)) (upd iL (Int32.toNatClampNeg iCnt) z1) (upd iN (Int32.toNatClampNeg iCnt) z2)) := hD
    refine lv_iconst (pc := 40) (v := (1 : Int32)) hx hb dX1_add_40 (by decide) ?_
    subst hu
    exact W.zret hx hb hr rfl (fun t ht hW => ⟨rfl, by rw [ht]; exact hP, hS.F ht⟩) hS.2.2 dX1_add_41
  · have hu := hu.trans (if_neg h5_1)
    refine lv_iconst (pc := 8) (v := (0 : Int32)) hx hb dX1_add_8 (by decide) ?_
    subst hu
    exact W.zret hx hb hr rfl (fun t ht hW => ⟨rfl, by rw [ht]; exact hP, hS.F ht⟩) hS.2.2 dX1_add_9
def f_X1_remove_B12 (iCnt : Int32) : Nat → Int32 → (Nat → Int32) → (Nat → Int32) → Int32 × (Nat → Int32) × (Nat → Int32)
  | 0, k2_12, iL_12, iN_12 => ((iCnt - (1 : Int32)), iL_12, iN_12)
  | n + 1, k2_12, iL_12, iN_12 => (if (iCnt - (1 : Int32)) ≤ k2_12 then ((iCnt - (1 : Int32)), iL_12, iN_12) else (f_X1_remove_B12 iCnt n (k2_12 + (1 : Int32)) (upd iL_12 (Int32.toNatClampNeg k2_12) (iL_12 (Int32.toNatClampNeg (k2_12 + (1 : Int32))))) (upd iN_12 (Int32.toNatClampNeg k2_12) (iN_12 (Int32.toNatClampNeg (k2_12 + (1 : Int32)))))))
theorem f_X1_remove_B12_s (iCnt : Int32) (n : Nat) (k2_12 : Int32) (iL_12 : (Nat → Int32)) (iN_12 : (Nat → Int32)) : f_X1_remove_B12 iCnt (n + 1) k2_12 iL_12 iN_12 = (if (iCnt - (1 : Int32)) ≤ k2_12 then ((iCnt - (1 : Int32)), iL_12, iN_12) else (f_X1_remove_B12 iCnt n (k2_12 + (1 : Int32)) (upd iL_12 (Int32.toNatClampNeg k2_12) (iL_12 (Int32.toNatClampNeg (k2_12 + (1 : Int32))))) (upd iN_12 (Int32.toNatClampNeg k2_12) (iN_12 (Int32.toNatClampNeg (k2_12 + (1 : Int32))))))) := rfl
def f_X1_remove (z1 : Int32) (iCnt : Int32) (iL : (Nat → Int32)) (iN : (Nat → Int32)) : Int32 × (Nat → Int32) × (Nat → Int32) := (f_X1_remove_B12 iCnt 5 z1 iL iN)
set_option maxRecDepth 100000 in
set_option maxHeartbeats 4000000 in
theorem c_X1_remove (l : Launch) (dC : Nat → ClassId) (dI : Nat → Nat → Nat) (cI cJ : ClassId) (qI qIl qIn : Nat) (sz : Nat) (iCnt : Int32) (iL : (Nat → Int32)) (iN : (Nat → Int32)) (z1 : Int32) (ha0 : 0 ≤ z1.toInt) (ha1 : z1.toInt < iCnt.toInt) (hc4 : iCnt.toInt ≤ 4) : Met l yX1_remove (.code yX1_remove cX1_remove 3 none :: vG) ({ frames := 0, cells := 0, slots := 0, locals := 0 }) (va_Pc [.ref qI, .int z1] (qa_pre (dC, dI) vwCl (wI cI cJ qI qIl qIn iCnt iL iN) [(cI, .int), (cJ, .long)] sz)) (qa_mod none (dC, dI) vwCl (wI cI cJ qI qIl qIn ((f_X1_remove z1 iCnt iL iN).1) ((f_X1_remove z1 iCnt iL iN).2.1) ((f_X1_remove z1 iCnt iL iN).2.2)) (va_A (wI cI cJ qI qIl qIn iCnt iL iN) sz)) 0 0 (va_A (wI cI cJ qI qIl qIn iCnt iL iN) sz) := by
  refine Met.ofW (cc := cX1_remove) (maxL := 3) (ret := none) (by decide) rfl ?_
  intro p e s m args below meth c s₁ B hml hv
  obtain ⟨rfl, hsz, hP, hK, hD0⟩ := hv
  have hx := B.exec
  have hb := B.bytes
  have hr := B.returns
  have hts : ∀ w ∈ vG, w.before _ s = true := fun w h => atoms_spec (ws := (.code yX1_remove cX1_remove 3 none :: vG)) B.pre w (List.mem_cons_of_mem _ h)
  have hown : s.vm.findClass "LongMachine$Interrupts" = some m.cls := findClass_of_methodNamed B.named
  have hlocks := B.notSynchronized
  subst hsz
  have hD := hD0.self (sz := s.heap.size)
  generalize hAe : va_A (wI cI cJ qI qIl qIn iCnt iL iN) s.heap.size = A at hD ⊢
  have hA : ∀ q : Nat, s.heap.size ≤ q → A q := fun q h => by rw [← hAe]; exact Or.inr h
  have hS : va_S A s.heap s.heap [] := va_S.rf
  have hl := lv_entry ([.ref qI, .int z1]) (n := 3) (Nat.le_of_ble_eq_true rfl)
  rw [lg_entry_eq]
  generalize (lg_sl ([.ref qI, .int z1]) ++ List.replicate (3 - (lg_sl ([.ref qI, .int z1])).length) Slot.unset).toArray = ls at hl ⊢
  have hl : lv_has ls 3 [(0, .ref qI), (1, .int z1)] := hl
  obtain ⟨u, hu⟩ : ∃ u, u = f_X1_remove z1 iCnt iL iN := ⟨_, rfl⟩
  rw [← hu]
  unfold f_X1_remove at hu
  refine lv_aload_n (pc := 0) hx hb dX1_remove_0 rfl (lv_at hl 0 rfl) ?_
  refine lv_dup (pc := 1) hx hb dX1_remove_1 rfl ?_
  refine va_get (D := (dC, dI)) (pc := 2) (ci := 1) (v := .int iCnt) (C := "LongMachine$Interrupts") (T := TX1) (N := 3) hx hb hts ui_X1 hown hK hP 0 rfl rfl 2 (by decide) (hts _ gm_49) (fun _ h9 => h9) rfl dX1_remove_2 ?_
  refine lv_iconst (pc := 5) (v := (1 : Int32)) hx hb dX1_remove_5 (by decide) ?_
  refine lv_isub (pc := 6) hx hb dX1_remove_6 ?_
  refine va_put (D := (dC, dI)) (pc := 7) (ci := 1) (v := .int (iCnt - (1 : Int32))) (ty := .int) (C := "LongMachine$Interrupts") (T := TX1) (N := 3) hx hb hts ui_X1 tyX1 tyX1_ok nmX1 hown hK hP hD hS 0 rfl rfl 2 (by decide) (hts _ gm_49) (fun _ h9 => h9) rfl (by decide +kernel) rfl rfl (Nat.le_of_ble_eq_true rfl) dX1_remove_7 (fun H locs hP hD hS => ?_)
  have hP : va_P (dC, dI) vwCl (wI cI cJ qI qIl qIn (iCnt - (1 : Int32)) iL iN) H := hP
  have hD : va_D A (wI cI cJ qI qIl qIn (iCnt - (1 : Int32)) iL iN) := hD
  refine lv_iload_n (pc := 10) hx hb dX1_remove_10 rfl (lv_at hl 1 rfl) ?_
  refine lv_istore_n (pc := 11) (lv' := [(2, .int z1), (0, .ref qI), (1, .int z1)]) hx hb dX1_remove_11 rfl hl (by decide) rfl (fun ls hl => ?_)
  have hB12 : ∀ (n : Nat) (k2_12 : Int32) (iL_12 : (Nat → Int32)) (iN_12 : (Nat → Int32)) (H : Heap) (locs : List Loc) (ls : Array Slot) (hq12_fu : (((iCnt - (1 : Int32))).toInt - (k2_12).toInt).toNat < n) (hq12_i0 : 0 ≤ (k2_12).toInt) (hP : va_P (dC, dI) vwCl (wI cI cJ qI qIl qIn (iCnt - (1 : Int32)) iL_12 iN_12) H) (hD : va_D A (wI cI cJ qI qIl qIn (iCnt - (1 : Int32)) iL_12 iN_12)) (hS : va_S A s.heap H locs) (hl : lv_has ls 3 [(0, .ref qI), (1, .int z1), (2, .int k2_12)]) (u : Int32 × (Nat → Int32) × (Nat → Int32)) (hu : u = f_X1_remove_B12 iCnt n k2_12 iL_12 iN_12), W p l e { frames := 0, cells := 0, slots := 0, locals := 0 } s m ([.ref qI, .int z1]).toArray below meth c H locs 0 0 (MQ below (qa_mod none (dC, dI) vwCl (wI cI cJ qI qIl qIn u.1 u.2.1 u.2.2) A) ([.ref qI, .int z1]).toArray s 0 0 A) (F0 m 12 ls []) := by
    intro n
    induction n with
    | zero => intro k2_12 iL_12 iN_12 H locs ls hq12_fu hq12_i0 hP hD hS hl u hu; exact absurd hq12_fu (Nat.not_lt_zero _)
    | succ n ih =>
        intro k2_12 iL_12 iN_12 H locs ls hq12_fu hq12_i0 hP hD hS hl u hu
        rw [f_X1_remove_B12_s] at hu
        refine lv_iload_n (pc := 12) hx hb dX1_remove_12 rfl (lv_at hl 2 rfl) ?_
        refine lv_aload_n (pc := 13) hx hb dX1_remove_13 rfl (lv_at hl 0 rfl) ?_
        refine va_get (D := (dC, dI)) (pc := 14) (ci := 1) (v := .int (iCnt - (1 : Int32))) (C := "LongMachine$Interrupts") (T := TX1) (N := 3) hx hb hts ui_X1 hown hK hP 0 rfl rfl 2 (by decide) (hts _ gm_49) (fun _ h9 => h9) rfl dX1_remove_14 ?_
        refine lv_icmp_ge (pc := 17) (tgt := 54) hx hb dX1_remove_17 (by decide) (fun h17_1 => ?_) (fun h17_1 => ?_)
        · have hu := hu.trans (if_pos h17_1)
          subst hu
          exact W.vret hx hb hr (fun t ht hW => ⟨rfl, by rw [ht]; exact hP, hS.F ht⟩) hS.2.2 dX1_remove_54
        · have hu := hu.trans (if_neg h17_1)
          refine lv_aload_n (pc := 20) hx hb dX1_remove_20 rfl (lv_at hl 0 rfl) ?_
          refine va_get (D := (dC, dI)) (pc := 21) (ci := 1) (v := .ref qIl) (C := "LongMachine$Interrupts") (T := TX1) (N := 3) hx hb hts ui_X1 hown hK hP 0 rfl rfl 0 (by decide) (hts _ gm_47) (fun _ h9 => h9) rfl dX1_remove_21 ?_
          refine lv_iload_n (pc := 24) hx hb dX1_remove_24 rfl (lv_at hl 2 rfl) ?_
          refine lv_aload_n (pc := 25) hx hb dX1_remove_25 rfl (lv_at hl 0 rfl) ?_
          refine va_get (D := (dC, dI)) (pc := 26) (ci := 1) (v := .ref qIl) (C := "LongMachine$Interrupts") (T := TX1) (N := 3) hx hb hts ui_X1 hown hK hP 0 rfl rfl 0 (by decide) (hts _ gm_47) (fun _ h9 => h9) rfl dX1_remove_26 ?_
          refine lv_iload_n (pc := 29) hx hb dX1_remove_29 rfl (lv_at hl 2 rfl) ?_
          refine lv_iconst (pc := 30) (v := (1 : Int32)) hx hb dX1_remove_30 (by decide) ?_
          refine lv_iadd (pc := 31) hx hb dX1_remove_31 ?_
          refine qa_iald (pc := 32) (k := (Int32.toNatClampNeg (k2_12 + (1 : Int32)))) hx hb hK hP 1 0 rfl rfl rfl (rg_r1 h17_1 hq12_i0 (by omega) hc4) dX1_remove_32 ?_
          refine qa_iast (pc := 33) (k := (Int32.toNatClampNeg k2_12)) hx hb hK hP hD hS 1 0 rfl rfl rfl (rg_r0 h17_1 hq12_i0 (by omega) hc4) dX1_remove_33 (fun H locs hP hD hS => ?_)
          have hP : va_P (dC, dI) vwCl (wI cI cJ qI qIl qIn (iCnt - (1 : Int32)) (upd iL_12 (Int32.toNatClampNeg k2_12) (iL_12 (Int32.toNatClampNeg (k2_12 + (1 : Int32))))) iN_12) H := hP
          have hD : va_D A (wI cI cJ qI qIl qIn (iCnt - (1 : Int32)) (upd iL_12 (Int32.toNatClampNeg k2_12) (iL_12 (Int32.toNatClampNeg (k2_12 + (1 : Int32))))) iN_12) := hD
          refine lv_aload_n (pc := 34) hx hb dX1_remove_34 rfl (lv_at hl 0 rfl) ?_
          refine va_get (D := (dC, dI)) (pc := 35) (ci := 1) (v := .ref qIn) (C := "LongMachine$Interrupts") (T := TX1) (N := 3) hx hb hts ui_X1 hown hK hP 0 rfl rfl 1 (by decide) (hts _ gm_48) (fun _ h9 => h9) rfl dX1_remove_35 ?_
          refine lv_iload_n (pc := 38) hx hb dX1_remove_38 rfl (lv_at hl 2 rfl) ?_
          refine lv_aload_n (pc := 39) hx hb dX1_remove_39 rfl (lv_at hl 0 rfl) ?_
          refine va_get (D := (dC, dI)) (pc := 40) (ci := 1) (v := .ref qIn) (C := "LongMachine$Interrupts") (T := TX1) (N := 3) hx hb hts ui_X1 hown hK hP 0 rfl rfl 1 (by decide) (hts _ gm_48) (fun _ h9 => h9) rfl dX1_remove_40 ?_
          refine lv_iload_n (pc := 43) hx hb dX1_remove_43 rfl (lv_at hl 2 rfl) ?_
          refine lv_iconst (pc := 44) (v := (1 : Int32)) hx hb dX1_remove_44 (by decide) ?_
          refine lv_iadd (pc := 45) hx hb dX1_remove_45 ?_
          refine qa_iald (pc := 46) (k := (Int32.toNatClampNeg (k2_12 + (1 : Int32)))) hx hb hK hP 2 0 rfl rfl rfl (rg_r1 h17_1 hq12_i0 (by omega) hc4) dX1_remove_46 ?_
          refine qa_iast (pc := 47) (k := (Int32.toNatClampNeg k2_12)) hx hb hK hP hD hS 2 0 rfl rfl rfl (rg_r0 h17_1 hq12_i0 (by omega) hc4) dX1_remove_47 (fun H locs hP hD hS => ?_)
          have hP : va_P (dC, dI) vwCl (wI cI cJ qI qIl qIn (iCnt - (1 : Int32)) (upd iL_12 (Int32.toNatClampNeg k2_12) (iL_12 (Int32.toNatClampNeg (k2_12 + (1 : Int32))))) (upd iN_12 (Int32.toNatClampNeg k2_12) (iN_12 (Int32.toNatClampNeg (k2_12 + (1 : Int32)))))) H := hP
          have hD : va_D A (wI cI cJ qI qIl qIn (iCnt - (1 : Int32)) (upd iL_12 (Int32.toNatClampNeg k2_12) (iL_12 (Int32.toNatClampNeg (k2_12 + (1 : Int32))))) (upd iN_12 (Int32.toNatClampNeg k2_12) (iN_12 (Int32.toNatClampNeg (k2_12 + (1 : Int32)))))) := hD
          refine lv_iinc (pc := 48) (k := 2) (lv' := [(2, .int (k2_12 + (1 : Int32))), (0, .ref qI), (1, .int z1)]) hx hb dX1_remove_48 hl rfl (qa_inc (by decide) k2_12) (by decide) rfl (fun ls hl => ?_)
          refine lv_goto (pc := 51) (tgt := 12) hx hb dX1_remove_51 (by decide) ?_
          exact ih (k2_12 + (1 : Int32)) (upd iL_12 (Int32.toNatClampNeg k2_12) (iL_12 (Int32.toNatClampNeg (k2_12 + (1 : Int32))))) (upd iN_12 (Int32.toNatClampNeg k2_12) (iN_12 (Int32.toNatClampNeg (k2_12 + (1 : Int32))))) _ _ _ (rg_fs h17_1 hq12_fu) (rg_i0 h17_1 hq12_i0) hP hD hS (lv_sub hl [1, 2, 0] rfl) u hu
  exact hB12 5 z1 iL iN _ _ _ (rg_rf ha0 (by omega) hc4) (ha0) hP hD hS (lv_sub hl [1, 2, 0] rfl) u hu
def f_X1_takeAbove_K66_1 (iN : (Nat → Int32)) (k2_7 : Int32) (k3_7 : Int32) (r66_1 : Int32 × (Nat → Int32) × (Nat → Int32)) : Int32 × Int32 × (Nat → Int32) × (Nat → Int32) := ((((256 : Int32) * k3_7) + (iN (Int32.toNatClampNeg k2_7))), r66_1.1, r66_1.2.1, r66_1.2.2)
def f_X1_takeAbove_B7 (iCnt : Int32) (iL : (Nat → Int32)) (iN : (Nat → Int32)) : Nat → Int32 → Int32 → Int32 → Int32 × Int32 × (Nat → Int32) × (Nat → Int32)
  | 0, k2_7, k3_7, k4_7 => ((0 : Int32), iCnt, iL, iN)
  | n + 1, k2_7, k3_7, k4_7 => (if iCnt ≤ k4_7 then (if (0 : Int32) ≤ k2_7 then (f_X1_takeAbove_K66_1 iN k2_7 k3_7 (f_X1_remove k2_7 iCnt iL iN)) else ((-1 : Int32), iCnt, iL, iN)) else (if (iL (Int32.toNatClampNeg k4_7)) ≤ k3_7 then (f_X1_takeAbove_B7 iCnt iL iN n k2_7 k3_7 (k4_7 + (1 : Int32))) else (f_X1_takeAbove_B7 iCnt iL iN n k4_7 (iL (Int32.toNatClampNeg k4_7)) (k4_7 + (1 : Int32)))))
theorem f_X1_takeAbove_B7_s (iCnt : Int32) (iL : (Nat → Int32)) (iN : (Nat → Int32)) (n : Nat) (k2_7 : Int32) (k3_7 : Int32) (k4_7 : Int32) : f_X1_takeAbove_B7 iCnt iL iN (n + 1) k2_7 k3_7 k4_7 = (if iCnt ≤ k4_7 then (if (0 : Int32) ≤ k2_7 then (f_X1_takeAbove_K66_1 iN k2_7 k3_7 (f_X1_remove k2_7 iCnt iL iN)) else ((-1 : Int32), iCnt, iL, iN)) else (if (iL (Int32.toNatClampNeg k4_7)) ≤ k3_7 then (f_X1_takeAbove_B7 iCnt iL iN n k2_7 k3_7 (k4_7 + (1 : Int32))) else (f_X1_takeAbove_B7 iCnt iL iN n k4_7 (iL (Int32.toNatClampNeg k4_7)) (k4_7 + (1 : Int32))))) := rfl
def f_X1_takeAbove (z1 : Int32) (iCnt : Int32) (iL : (Nat → Int32)) (iN : (Nat → Int32)) : Int32 × Int32 × (Nat → Int32) × (Nat → Int32) := (f_X1_takeAbove_B7 iCnt iL iN 5 (-1 : Int32) z1 (0 : Int32))
set_option maxRecDepth 100000 in
set_option maxHeartbeats 4000000 in
theorem c_X1_takeAbove (l : Launch) (dC : Nat → ClassId) (dI : Nat → Nat → Nat) (cI cJ : ClassId) (qI qIl qIn : Nat) (sz : Nat) (iCnt : Int32) (iL : (Nat → Int32)) (iN : (Nat → Int32)) (z1 : Int32) (hc4 : iCnt.toInt ≤ 4) : Met l yX1_takeAbove (.code yX1_takeAbove cX1_takeAbove 5 (some .int) :: vG) ({ frames := 1, cells := 0, slots := 0, locals := 22 }) (va_Pc [.ref qI, .int z1] (qa_pre (dC, dI) vwCl (wI cI cJ qI qIl qIn iCnt iL iN) [(cI, .int), (cJ, .long)] sz)) (qa_mod (some (.int ((f_X1_takeAbove z1 iCnt iL iN).1))) (dC, dI) vwCl (wI cI cJ qI qIl qIn ((f_X1_takeAbove z1 iCnt iL iN).2.1) ((f_X1_takeAbove z1 iCnt iL iN).2.2.1) ((f_X1_takeAbove z1 iCnt iL iN).2.2.2)) (va_A (wI cI cJ qI qIl qIn iCnt iL iN) sz)) 0 0 (va_A (wI cI cJ qI qIl qIn iCnt iL iN) sz) := by
  refine Met.ofW (cc := cX1_takeAbove) (maxL := 5) (ret := (some .int)) (by decide) rfl ?_
  intro p e s m args below meth c s₁ B hml hv
  obtain ⟨rfl, hsz, hP, hK, hD0⟩ := hv
  have hx := B.exec
  have hb := B.bytes
  have hr := B.returns
  have hts : ∀ w ∈ vG, w.before _ s = true := fun w h => atoms_spec (ws := (.code yX1_takeAbove cX1_takeAbove 5 (some .int) :: vG)) B.pre w (List.mem_cons_of_mem _ h)
  have hown : s.vm.findClass "LongMachine$Interrupts" = some m.cls := findClass_of_methodNamed B.named
  have hlocks := B.notSynchronized
  subst hsz
  have hD := hD0.self (sz := s.heap.size)
  generalize hAe : va_A (wI cI cJ qI qIl qIn iCnt iL iN) s.heap.size = A at hD ⊢
  have hA : ∀ q : Nat, s.heap.size ≤ q → A q := fun q h => by rw [← hAe]; exact Or.inr h
  have hS : va_S A s.heap s.heap [] := va_S.rf
  have hl := lv_entry ([.ref qI, .int z1]) (n := 5) (Nat.le_of_ble_eq_true rfl)
  rw [lg_entry_eq]
  generalize (lg_sl ([.ref qI, .int z1]) ++ List.replicate (5 - (lg_sl ([.ref qI, .int z1])).length) Slot.unset).toArray = ls at hl ⊢
  have hl : lv_has ls 5 [(0, .ref qI), (1, .int z1)] := hl
  obtain ⟨u, hu⟩ : ∃ u, u = f_X1_takeAbove z1 iCnt iL iN := ⟨_, rfl⟩
  rw [← hu]
  unfold f_X1_takeAbove at hu
  refine lv_iconst (pc := 0) (v := (-1 : Int32)) hx hb dX1_takeAbove_0 (by decide) ?_
  refine lv_istore_n (pc := 1) (lv' := [(2, .int (-1 : Int32)), (0, .ref qI), (1, .int z1)]) hx hb dX1_takeAbove_1 rfl hl (by decide) rfl (fun ls hl => ?_)
  refine lv_iload_n (pc := 2) hx hb dX1_takeAbove_2 rfl (lv_at hl 2 rfl) ?_
  refine lv_istore_n (pc := 3) (lv' := [(3, .int z1), (2, .int (-1 : Int32)), (0, .ref qI), (1, .int z1)]) hx hb dX1_takeAbove_3 rfl hl (by decide) rfl (fun ls hl => ?_)
  refine lv_iconst (pc := 4) (v := (0 : Int32)) hx hb dX1_takeAbove_4 (by decide) ?_
  refine lv_istore (pc := 5) (lv' := [(4, .int (0 : Int32)), (3, .int z1), (2, .int (-1 : Int32)), (0, .ref qI), (1, .int z1)]) hx hb dX1_takeAbove_5 hl (by decide) rfl (fun ls hl => ?_)
  have hB7 : ∀ (n : Nat) (k2_7 : Int32) (k3_7 : Int32) (k4_7 : Int32) (H : Heap) (locs : List Loc) (ls : Array Slot) (hq7_fu : ((iCnt).toInt - (k4_7).toInt).toNat < n) (hq7_i0 : 0 ≤ (k4_7).toInt) (hq7_bs : (k2_7).toInt = -1 ∨ (0 ≤ (k2_7).toInt ∧ (k2_7).toInt < (iCnt).toInt)) (hP : va_P (dC, dI) vwCl (wI cI cJ qI qIl qIn iCnt iL iN) H) (hD : va_D A (wI cI cJ qI qIl qIn iCnt iL iN)) (hS : va_S A s.heap H locs) (hl : lv_has ls 5 [(0, .ref qI), (1, .int z1), (2, .int k2_7), (3, .int k3_7), (4, .int k4_7)]) (u : Int32 × Int32 × (Nat → Int32) × (Nat → Int32)) (hu : u = f_X1_takeAbove_B7 iCnt iL iN n k2_7 k3_7 k4_7), W p l e { frames := 1, cells := 0, slots := 0, locals := 22 } s m ([.ref qI, .int z1]).toArray below meth c H locs 0 0 (MQ below (qa_mod (some (.int u.1)) (dC, dI) vwCl (wI cI cJ qI qIl qIn u.2.1 u.2.2.1 u.2.2.2) A) ([.ref qI, .int z1]).toArray s 0 0 A) (F0 m 7 ls []) := by
    intro n
    induction n with
    | zero => intro k2_7 k3_7 k4_7 H locs ls hq7_fu hq7_i0 hq7_bs hP hD hS hl u hu; exact absurd hq7_fu (Nat.not_lt_zero _)
    | succ n ih =>
        intro k2_7 k3_7 k4_7 H locs ls hq7_fu hq7_i0 hq7_bs hP hD hS hl u hu
        rw [f_X1_takeAbove_B7_s] at hu
        refine lv_iload (pc := 7) hx hb dX1_takeAbove_7 (lv_at hl 4 rfl) ?_
        refine lv_aload_n (pc := 9) hx hb dX1_takeAbove_9 rfl (lv_at hl 0 rfl) ?_
        refine va_get (D := (dC, dI)) (pc := 10) (ci := 1) (v := .int iCnt) (C := "LongMachine$Interrupts") (T := TX1) (N := 3) hx hb hts ui_X1 hown hK hP 0 rfl rfl 2 (by decide) (hts _ gm_49) (fun _ h9 => h9) rfl dX1_takeAbove_10 ?_
        refine lv_icmp_ge (pc := 13) (tgt := 44) hx hb dX1_takeAbove_13 (by decide) (fun h13_1 => ?_) (fun h13_1 => ?_)
        · have hu := hu.trans (if_pos h13_1)
          refine lv_iload_n (pc := 44) hx hb dX1_takeAbove_44 rfl (lv_at hl 2 rfl) ?_
          refine lv_if_ge (pc := 45) (tgt := 50) hx hb dX1_takeAbove_45 (by decide) (fun h45_2 => ?_) (fun h45_2 => ?_)
          · have hu := hu.trans (if_pos h45_2)
            refine lv_sipush (pc := 50) (v := (256 : Int32)) hx hb dX1_takeAbove_50 (by decide) ?_
            refine lv_iload_n (pc := 53) hx hb dX1_takeAbove_53 rfl (lv_at hl 3 rfl) ?_
            refine lv_imul (pc := 54) hx hb dX1_takeAbove_54 ?_
            refine lv_aload_n (pc := 55) hx hb dX1_takeAbove_55 rfl (lv_at hl 0 rfl) ?_
            refine va_get (D := (dC, dI)) (pc := 56) (ci := 1) (v := .ref qIn) (C := "LongMachine$Interrupts") (T := TX1) (N := 3) hx hb hts ui_X1 hown hK hP 0 rfl rfl 1 (by decide) (hts _ gm_48) (fun _ h9 => h9) rfl dX1_takeAbove_56 ?_
            refine lv_iload_n (pc := 59) hx hb dX1_takeAbove_59 rfl (lv_at hl 2 rfl) ?_
            refine qa_iald (pc := 60) (k := (Int32.toNatClampNeg k2_7)) hx hb hK hP 2 0 rfl rfl rfl (rg_best h45_2 hq7_bs hc4) dX1_takeAbove_60 ?_
            refine lv_iadd (pc := 61) hx hb dX1_takeAbove_61 ?_
            refine lv_istore (pc := 62) (lv' := [(4, .int (((256 : Int32) * k3_7) + (iN (Int32.toNatClampNeg k2_7)))), (0, .ref qI), (1, .int z1), (2, .int k2_7), (3, .int k3_7)]) hx hb dX1_takeAbove_62 hl (by decide) rfl (fun ls hl => ?_)
            refine lv_aload_n (pc := 64) hx hb dX1_takeAbove_64 rfl (lv_at hl 1 rfl) ?_
            refine lv_iload_n (pc := 65) hx hb dX1_takeAbove_65 rfl (lv_at hl 3 rfl) ?_
            have hc := c_X1_remove l dC dI cI cJ qI qIl qIn H.size iCnt iL iN k2_7 (rg_best0 h45_2) (rg_best1 h45_2 hq7_bs) (hc4)
            generalize er66_1 : f_X1_remove k2_7 iCnt iL iN = r66_1 at hu hc
            unfold f_X1_takeAbove_K66_1 at hu
            refine qa_callv (pc := 66) (wr := []) (wf := (wI cI cJ qI qIl qIn r66_1.1 r66_1.2.1 r66_1.2.2)) (va_runV (As := [.int k2_7]) (rest := []) ⟨hx, hb, hml, hown, hts⟩ hc (cwV 1 hts (gd_V gm_165 gm_163 gm_164 gm_550 gm_3) rfl rfl rfl (by decide +kernel) ⟨Nat.le_of_ble_eq_true rfl, Nat.le_of_ble_eq_true rfl⟩) (qa_VM (q0 := 0) (q := ("LongMachine$Interrupts", TX1, 3)) hK hP rfl rfl hP hD) rfl rfl hl.1 rfl (lv_room (Nat.le_of_ble_eq_true rfl)) dX1_takeAbove_66 ⟨Nat.zero_le _, Nat.zero_le _⟩) hP hD hS hA [0, 1, 2] [] [0, 1, 2] rfl (by decide) rfl (by decide) (by decide) rfl rfl (by decide) (fun H locs hP hD hS => ?_)
            refine lv_iload (pc := 69) hx hb dX1_takeAbove_69 (lv_at hl 0 rfl) ?_
            subst hu
            exact W.iret hx hb hr (fun t ht hW => ⟨rfl, by rw [ht]; exact hP, hS.F ht⟩) hS.2.2 dX1_takeAbove_71
          · have hu := hu.trans (if_neg h45_2)
            refine lv_iconst (pc := 48) (v := (-1 : Int32)) hx hb dX1_takeAbove_48 (by decide) ?_
            subst hu
            exact W.iret hx hb hr (fun t ht hW => ⟨rfl, by rw [ht]; exact hP, hS.F ht⟩) hS.2.2 dX1_takeAbove_49
        · have hu := hu.trans (if_neg h13_1)
          refine lv_aload_n (pc := 16) hx hb dX1_takeAbove_16 rfl (lv_at hl 0 rfl) ?_
          refine va_get (D := (dC, dI)) (pc := 17) (ci := 1) (v := .ref qIl) (C := "LongMachine$Interrupts") (T := TX1) (N := 3) hx hb hts ui_X1 hown hK hP 0 rfl rfl 0 (by decide) (hts _ gm_47) (fun _ h9 => h9) rfl dX1_takeAbove_17 ?_
          refine lv_iload (pc := 20) hx hb dX1_takeAbove_20 (lv_at hl 4 rfl) ?_
          refine qa_iald (pc := 22) (k := (Int32.toNatClampNeg k4_7)) hx hb hK hP 1 0 rfl rfl rfl (rg_b hq7_i0 h13_1 hc4) dX1_takeAbove_22 ?_
          refine lv_iload_n (pc := 23) hx hb dX1_takeAbove_23 rfl (lv_at hl 3 rfl) ?_
          refine lv_icmp_le (pc := 24) (tgt := 38) hx hb dX1_takeAbove_24 (by decide) (fun h24_3 => ?_) (fun h24_3 => ?_)
          · have hu := hu.trans (if_pos h24_3)
            refine lv_iinc (pc := 38) (k := 4) (lv' := [(4, .int (k4_7 + (1 : Int32))), (0, .ref qI), (1, .int z1), (2, .int k2_7), (3, .int k3_7)]) hx hb dX1_takeAbove_38 hl rfl (qa_inc (by decide) k4_7) (by decide) rfl (fun ls hl => ?_)
            refine lv_goto (pc := 41) (tgt := 7) hx hb dX1_takeAbove_41 (by decide) ?_
            exact ih k2_7 k3_7 (k4_7 + (1 : Int32)) _ _ _ (rg_fs h13_1 hq7_fu) (rg_i0 h13_1 hq7_i0) (by first | exact hq7_bs | exact Or.inr ⟨hq7_i0, rg_lt h13_1⟩) hP hD hS (lv_sub hl [1, 2, 3, 4, 0] rfl) u hu
          · have hu := hu.trans (if_neg h24_3)
            refine lv_iload (pc := 27) hx hb dX1_takeAbove_27 (lv_at hl 4 rfl) ?_
            refine lv_istore_n (pc := 29) (lv' := [(2, .int k4_7), (0, .ref qI), (1, .int z1), (3, .int k3_7), (4, .int k4_7)]) hx hb dX1_takeAbove_29 rfl hl (by decide) rfl (fun ls hl => ?_)
            refine lv_aload_n (pc := 30) hx hb dX1_takeAbove_30 rfl (lv_at hl 1 rfl) ?_
            refine va_get (D := (dC, dI)) (pc := 31) (ci := 1) (v := .ref qIl) (C := "LongMachine$Interrupts") (T := TX1) (N := 3) hx hb hts ui_X1 hown hK hP 0 rfl rfl 0 (by decide) (hts _ gm_47) (fun _ h9 => h9) rfl dX1_takeAbove_31 ?_
            refine lv_iload (pc := 34) hx hb dX1_takeAbove_34 (lv_at hl 4 rfl) ?_
            refine qa_iald (pc := 36) (k := (Int32.toNatClampNeg k4_7)) hx hb hK hP 1 0 rfl rfl rfl (rg_b hq7_i0 h13_1 hc4) dX1_takeAbove_36 ?_
            refine lv_istore_n (pc := 37) (lv' := [(3, .int (iL (Int32.toNatClampNeg k4_7))), (2, .int k4_7), (0, .ref qI), (1, .int z1), (4, .int k4_7)]) hx hb dX1_takeAbove_37 rfl hl (by decide) rfl (fun ls hl => ?_)
            refine lv_iinc (pc := 38) (k := 4) (lv' := [(4, .int (k4_7 + (1 : Int32))), (3, .int (iL (Int32.toNatClampNeg k4_7))), (2, .int k4_7), (0, .ref qI), (1, .int z1)]) hx hb dX1_takeAbove_38 hl rfl (qa_inc (by decide) k4_7) (by decide) rfl (fun ls hl => ?_)
            refine lv_goto (pc := 41) (tgt := 7) hx hb dX1_takeAbove_41 (by decide) ?_
            exact ih k4_7 (iL (Int32.toNatClampNeg k4_7)) (k4_7 + (1 : Int32)) _ _ _ (rg_fs h13_1 hq7_fu) (rg_i0 h13_1 hq7_i0) (by first | exact hq7_bs | exact Or.inr ⟨hq7_i0, rg_lt h13_1⟩) hP hD hS (lv_sub hl [3, 4, 2, 1, 0] rfl) u hu
  exact hB7 5 (-1 : Int32) z1 (0 : Int32) _ _ _ (rg_f0 hc4) (rg_z) (Or.inl (by decide)) hP hD hS (lv_sub hl [3, 4, 2, 1, 0] rfl) u hu
end
section
set_option maxRecDepth 100000 in
set_option maxHeartbeats 4000000 in
theorem c_X2_load (l : Launch) (dC : Nat → ClassId) (dI : Nat → Nat → Nat) (cI cJ : ClassId) (qM qMw qMp qMs qMd : Nat) (mOld : Int32) (mCnt : Int32) (mTab : Int32) (mSpc : Int32) (mW : (Nat → Int64)) (mP : (Nat → Int32)) (mS : (Nat → Int32)) (mD : (Nat → Int64)) (z1 : Int32) (z2 : Int32) (hp0 : 0 ≤ z1.toInt) (hp1 : z1.toInt < 4096) : Met l yX2_load (.code yX2_load cX2_load 5 (some .long) :: vG) ({ frames := 0, cells := 0, slots := 0, locals := 0 }) (va_Pc [.ref qM, .int z1, .int z2] (qa_preR (dC, dI) vwCl (wM cI cJ qM qMw qMp qMs qMd mOld mCnt mTab mSpc mW mP mS mD) [(cI, .int), (cJ, .long)])) (qa_det (.long (if z2 = (0 : Int32) then (Int32.toInt64 (Int64.toInt32 (jlushr (mW (Int32.toNatClampNeg (z1 >>> ((3 : Int32) &&& (31 : Int32))))) ((8 : Int32) * (z1 &&& (4 : Int32)))))) else (mW (Int32.toNatClampNeg (z1 >>> ((3 : Int32) &&& (31 : Int32)))))))) 0 0 (fun _ => False) := by
  refine Met.ofW (cc := cX2_load) (maxL := 5) (ret := (some .long)) (by decide) rfl ?_
  intro p e s m args below meth c s₁ B hml hv
  obtain ⟨rfl, hP, hK⟩ := hv
  have hx := B.exec
  have hb := B.bytes
  have hr := B.returns
  have hts : ∀ w ∈ vG, w.before _ s = true := fun w h => atoms_spec (ws := (.code yX2_load cX2_load 5 (some .long) :: vG)) B.pre w (List.mem_cons_of_mem _ h)
  have hown : s.vm.findClass "LongMachine$Memory" = some m.cls := findClass_of_methodNamed B.named
  have hlocks := B.notSynchronized
  have hl := lv_entry ([.ref qM, .int z1, .int z2]) (n := 5) (Nat.le_of_ble_eq_true rfl)
  rw [lg_entry_eq]
  generalize (lg_sl ([.ref qM, .int z1, .int z2]) ++ List.replicate (5 - (lg_sl ([.ref qM, .int z1, .int z2])).length) Slot.unset).toArray = ls at hl ⊢
  have hl : lv_has ls 5 [(0, .ref qM), (1, .int z1), (2, .int z2)] := hl
  refine lv_aload_n (pc := 0) hx hb dX2_load_0 rfl (lv_at hl 0 rfl) ?_
  refine va_get (D := (dC, dI)) (pc := 1) (ci := 2) (v := .ref qMw) (C := "LongMachine$Memory") (T := TX2) (N := 8) hx hb hts ui_X2 hown hK hP 0 rfl rfl 0 (by decide) (hts _ gm_20) (fun _ h9 => h9) rfl dX2_load_1 ?_
  refine lv_iload_n (pc := 4) hx hb dX2_load_4 rfl (lv_at hl 1 rfl) ?_
  refine lv_iconst (pc := 5) (v := (3 : Int32)) hx hb dX2_load_5 (by decide) ?_
  refine lv_ishr (pc := 6) hx hb dX2_load_6 ?_
  refine qa_lald (pc := 7) (k := (Int32.toNatClampNeg (z1 >>> ((3 : Int32) &&& (31 : Int32))))) hx hb hK hP 1 1 rfl rfl rfl (rg_sh3 hp0 hp1) dX2_load_7 ?_
  refine lv_lstore_n (pc := 8) (lv' := [(3, .long (mW (Int32.toNatClampNeg (z1 >>> ((3 : Int32) &&& (31 : Int32)))))), (0, .ref qM), (1, .int z1), (2, .int z2)]) hx hb dX2_load_8 rfl hl (by decide) rfl (fun ls hl => ?_)
  refine lv_iload_n (pc := 9) hx hb dX2_load_9 rfl (lv_at hl 3 rfl) ?_
  refine qa_joinl (J := 27) (ls2 := ls) (rest2 := []) (if z2 = (0 : Int32) then (Int32.toInt64 (Int64.toInt32 (jlushr (mW (Int32.toNatClampNeg (z1 >>> ((3 : Int32) &&& (31 : Int32))))) ((8 : Int32) * (z1 &&& (4 : Int32)))))) else (mW (Int32.toNatClampNeg (z1 >>> ((3 : Int32) &&& (31 : Int32)))))) (fun hj27 => ?_) ?_
  · refine lv_if_eq (pc := 10) (tgt := 17) hx hb dX2_load_10 (by decide) (fun h10_1 => ?_) (fun h10_1 => ?_)
    · refine lv_lload_n (pc := 17) hx hb dX2_load_17 rfl (lv_at hl 0 rfl) ?_
      refine lv_bipush (pc := 18) (v := (8 : Int32)) hx hb dX2_load_18 (by decide) ?_
      refine lv_iload_n (pc := 20) hx hb dX2_load_20 rfl (lv_at hl 2 rfl) ?_
      refine lv_iconst (pc := 21) (v := (4 : Int32)) hx hb dX2_load_21 (by decide) ?_
      refine lv_iand (pc := 22) hx hb dX2_load_22 ?_
      refine lv_imul (pc := 23) hx hb dX2_load_23 ?_
      refine lv_lushr (pc := 24) (v := (jlushr (mW (Int32.toNatClampNeg (z1 >>> ((3 : Int32) &&& (31 : Int32))))) ((8 : Int32) * (z1 &&& (4 : Int32))))) hx hb dX2_load_24 rfl ?_
      refine lv_l2i (pc := 25) (v := (Int64.toInt32 (jlushr (mW (Int32.toNatClampNeg (z1 >>> ((3 : Int32) &&& (31 : Int32))))) ((8 : Int32) * (z1 &&& (4 : Int32)))))) hx hb dX2_load_25 rfl ?_
      refine lv_i2l (pc := 26) (v := (Int32.toInt64 (Int64.toInt32 (jlushr (mW (Int32.toNatClampNeg (z1 >>> ((3 : Int32) &&& (31 : Int32))))) ((8 : Int32) * (z1 &&& (4 : Int32))))))) hx hb dX2_load_26 rfl ?_
      exact hj27 _ (Eq.symm (if_pos h10_1))
    · refine lv_lload_n (pc := 13) hx hb dX2_load_13 rfl (lv_at hl 0 rfl) ?_
      refine lv_goto (pc := 14) (tgt := 27) hx hb dX2_load_14 (by decide) ?_
      exact hj27 _ (Eq.symm (if_neg h10_1))
  exact W.lret hx hb hr (fun t ht hW => ⟨rfl, ht⟩) (fun _ h => by cases h) dX2_load_27
set_option maxRecDepth 100000 in
set_option maxHeartbeats 4000000 in
theorem c_X2_store (l : Launch) (dC : Nat → ClassId) (dI : Nat → Nat → Nat) (cI cJ : ClassId) (qM qMw qMp qMs qMd : Nat) (sz : Nat) (mOld : Int32) (mCnt : Int32) (mTab : Int32) (mSpc : Int32) (mW : (Nat → Int64)) (mP : (Nat → Int32)) (mS : (Nat → Int32)) (mD : (Nat → Int64)) (z1 : Int32) (z2 : Int32) (z3 : Int64) (hp0 : 0 ≤ z1.toInt) (hp1 : z1.toInt < 4096) : Met l yX2_store (.code yX2_store cX2_store 10 none :: vG) ({ frames := 0, cells := 0, slots := 0, locals := 0 }) (va_Pc [.ref qM, .int z1, .int z2, .long z3] (qa_pre (dC, dI) vwCl (wM cI cJ qM qMw qMp qMs qMd mOld mCnt mTab mSpc mW mP mS mD) [(cI, .int), (cJ, .long)] sz)) (qa_mod none (dC, dI) vwCl (wM cI cJ qM qMw qMp qMs qMd mOld mCnt mTab mSpc (vp_updL mW (Int32.toNatClampNeg (z1 >>> ((3 : Int32) &&& (31 : Int32)))) (((mW (Int32.toNatClampNeg (z1 >>> ((3 : Int32) &&& (31 : Int32))))) &&& ((if z2 = (0 : Int32) then (jlshl (4294967295 : Int64) ((8 : Int32) * (z1 &&& (4 : Int32)))) else (-1 : Int64)) ^^^ (-1 : Int64))) ||| ((if z2 = (0 : Int32) then (jlshl z3 ((8 : Int32) * (z1 &&& (4 : Int32)))) else z3) &&& (if z2 = (0 : Int32) then (jlshl (4294967295 : Int64) ((8 : Int32) * (z1 &&& (4 : Int32)))) else (-1 : Int64))))) mP mS mD) (va_A (wM cI cJ qM qMw qMp qMs qMd mOld mCnt mTab mSpc mW mP mS mD) sz)) 0 0 (va_A (wM cI cJ qM qMw qMp qMs qMd mOld mCnt mTab mSpc mW mP mS mD) sz) := by
  refine Met.ofW (cc := cX2_store) (maxL := 10) (ret := none) (by decide) rfl ?_
  intro p e s m args below meth c s₁ B hml hv
  obtain ⟨rfl, hsz, hP, hK, hD0⟩ := hv
  have hx := B.exec
  have hb := B.bytes
  have hr := B.returns
  have hts : ∀ w ∈ vG, w.before _ s = true := fun w h => atoms_spec (ws := (.code yX2_store cX2_store 10 none :: vG)) B.pre w (List.mem_cons_of_mem _ h)
  have hown : s.vm.findClass "LongMachine$Memory" = some m.cls := findClass_of_methodNamed B.named
  have hlocks := B.notSynchronized
  subst hsz
  have hD := hD0.self (sz := s.heap.size)
  generalize hAe : va_A (wM cI cJ qM qMw qMp qMs qMd mOld mCnt mTab mSpc mW mP mS mD) s.heap.size = A at hD ⊢
  have hA : ∀ q : Nat, s.heap.size ≤ q → A q := fun q h => by rw [← hAe]; exact Or.inr h
  have hS : va_S A s.heap s.heap [] := va_S.rf
  have hl := lv_entry ([.ref qM, .int z1, .int z2, .long z3]) (n := 10) (Nat.le_of_ble_eq_true rfl)
  rw [lg_entry_eq]
  generalize (lg_sl ([.ref qM, .int z1, .int z2, .long z3]) ++ List.replicate (10 - (lg_sl ([.ref qM, .int z1, .int z2, .long z3])).length) Slot.unset).toArray = ls at hl ⊢
  have hl : lv_has ls 10 [(0, .ref qM), (1, .int z1), (2, .int z2), (3, .long z3)] := hl
  refine lv_bipush (pc := 0) (v := (8 : Int32)) hx hb dX2_store_0 (by decide) ?_
  refine lv_iload_n (pc := 2) hx hb dX2_store_2 rfl (lv_at hl 1 rfl) ?_
  refine lv_iconst (pc := 3) (v := (4 : Int32)) hx hb dX2_store_3 (by decide) ?_
  refine lv_iand (pc := 4) hx hb dX2_store_4 ?_
  refine lv_imul (pc := 5) hx hb dX2_store_5 ?_
  refine lv_istore (pc := 6) (lv' := [(5, .int ((8 : Int32) * (z1 &&& (4 : Int32)))), (0, .ref qM), (1, .int z1), (2, .int z2), (3, .long z3)]) hx hb dX2_store_6 hl (by decide) rfl (fun ls hl => ?_)
  refine lv_iload_n (pc := 8) hx hb dX2_store_8 rfl (lv_at hl 3 rfl) ?_
  refine qa_joinl (J := 24) (ls2 := ls) (rest2 := []) (if z2 = (0 : Int32) then (jlshl (4294967295 : Int64) ((8 : Int32) * (z1 &&& (4 : Int32)))) else (-1 : Int64)) (fun hj24 => ?_) ?_
  · refine lv_if_eq (pc := 9) (tgt := 18) hx hb dX2_store_9 (by decide) (fun h9_1 => ?_) (fun h9_1 => ?_)
    · refine lv_ldc2 (pc := 18) (v := (4294967295 : Int64)) hx hb hown (hts _ gm_249) dX2_store_18 ?_
      refine lv_iload (pc := 21) hx hb dX2_store_21 (lv_at hl 0 rfl) ?_
      refine lv_lshl (pc := 23) (v := (jlshl (4294967295 : Int64) ((8 : Int32) * (z1 &&& (4 : Int32))))) hx hb dX2_store_23 rfl ?_
      exact hj24 _ (Eq.symm (if_pos h9_1))
    · refine lv_ldc2 (pc := 12) (v := (-1 : Int64)) hx hb hown (hts _ gm_248) dX2_store_12 ?_
      refine lv_goto (pc := 15) (tgt := 24) hx hb dX2_store_15 (by decide) ?_
      exact hj24 _ (Eq.symm (if_neg h9_1))
  refine lv_lstore (pc := 24) (lv' := [(6, .long (if z2 = (0 : Int32) then (jlshl (4294967295 : Int64) ((8 : Int32) * (z1 &&& (4 : Int32)))) else (-1 : Int64))), (5, .int ((8 : Int32) * (z1 &&& (4 : Int32)))), (0, .ref qM), (1, .int z1), (2, .int z2), (3, .long z3)]) hx hb dX2_store_24 hl (by decide) rfl (fun ls hl => ?_)
  refine lv_iload_n (pc := 26) hx hb dX2_store_26 rfl (lv_at hl 4 rfl) ?_
  refine qa_joinl (J := 38) (ls2 := ls) (rest2 := []) (if z2 = (0 : Int32) then (jlshl z3 ((8 : Int32) * (z1 &&& (4 : Int32)))) else z3) (fun hj38 => ?_) ?_
  · refine lv_if_eq (pc := 27) (tgt := 34) hx hb dX2_store_27 (by decide) (fun h27_2 => ?_) (fun h27_2 => ?_)
    · refine lv_lload_n (pc := 34) hx hb dX2_store_34 rfl (lv_at hl 5 rfl) ?_
      refine lv_iload (pc := 35) hx hb dX2_store_35 (lv_at hl 1 rfl) ?_
      refine lv_lshl (pc := 37) (v := (jlshl z3 ((8 : Int32) * (z1 &&& (4 : Int32))))) hx hb dX2_store_37 rfl ?_
      exact hj38 _ (Eq.symm (if_pos h27_2))
    · refine lv_lload_n (pc := 30) hx hb dX2_store_30 rfl (lv_at hl 5 rfl) ?_
      refine lv_goto (pc := 31) (tgt := 38) hx hb dX2_store_31 (by decide) ?_
      exact hj38 _ (Eq.symm (if_neg h27_2))
  refine lv_lstore (pc := 38) (lv' := [(8, .long (if z2 = (0 : Int32) then (jlshl z3 ((8 : Int32) * (z1 &&& (4 : Int32)))) else z3)), (6, .long (if z2 = (0 : Int32) then (jlshl (4294967295 : Int64) ((8 : Int32) * (z1 &&& (4 : Int32)))) else (-1 : Int64))), (5, .int ((8 : Int32) * (z1 &&& (4 : Int32)))), (0, .ref qM), (1, .int z1), (2, .int z2), (3, .long z3)]) hx hb dX2_store_38 hl (by decide) rfl (fun ls hl => ?_)
  refine lv_aload_n (pc := 40) hx hb dX2_store_40 rfl (lv_at hl 3 rfl) ?_
  refine va_get (D := (dC, dI)) (pc := 41) (ci := 2) (v := .ref qMw) (C := "LongMachine$Memory") (T := TX2) (N := 8) hx hb hts ui_X2 hown hK hP 0 rfl rfl 0 (by decide) (hts _ gm_20) (fun _ h9 => h9) rfl dX2_store_41 ?_
  refine lv_iload_n (pc := 44) hx hb dX2_store_44 rfl (lv_at hl 4 rfl) ?_
  refine lv_iconst (pc := 45) (v := (3 : Int32)) hx hb dX2_store_45 (by decide) ?_
  refine lv_ishr (pc := 46) hx hb dX2_store_46 ?_
  refine lv_aload_n (pc := 47) hx hb dX2_store_47 rfl (lv_at hl 3 rfl) ?_
  refine va_get (D := (dC, dI)) (pc := 48) (ci := 2) (v := .ref qMw) (C := "LongMachine$Memory") (T := TX2) (N := 8) hx hb hts ui_X2 hown hK hP 0 rfl rfl 0 (by decide) (hts _ gm_20) (fun _ h9 => h9) rfl dX2_store_48 ?_
  refine lv_iload_n (pc := 51) hx hb dX2_store_51 rfl (lv_at hl 4 rfl) ?_
  refine lv_iconst (pc := 52) (v := (3 : Int32)) hx hb dX2_store_52 (by decide) ?_
  refine lv_ishr (pc := 53) hx hb dX2_store_53 ?_
  refine qa_lald (pc := 54) (k := (Int32.toNatClampNeg (z1 >>> ((3 : Int32) &&& (31 : Int32))))) hx hb hK hP 1 1 rfl rfl rfl (rg_sh3 hp0 hp1) dX2_store_54 ?_
  refine lv_lload (pc := 55) hx hb dX2_store_55 (lv_at hl 1 rfl) ?_
  refine lv_ldc2 (pc := 57) (v := (-1 : Int64)) hx hb hown (hts _ gm_248) dX2_store_57 ?_
  refine lv_lxor (pc := 60) hx hb dX2_store_60 ?_
  refine lv_land (pc := 61) hx hb dX2_store_61 ?_
  refine lv_lload (pc := 62) hx hb dX2_store_62 (lv_at hl 0 rfl) ?_
  refine lv_lload (pc := 64) hx hb dX2_store_64 (lv_at hl 1 rfl) ?_
  refine lv_land (pc := 66) hx hb dX2_store_66 ?_
  refine lv_lor (pc := 67) hx hb dX2_store_67 ?_
  refine qa_last (pc := 68) (k := (Int32.toNatClampNeg (z1 >>> ((3 : Int32) &&& (31 : Int32))))) hx hb hK hP hD hS 1 1 rfl rfl rfl (rg_sh3 hp0 hp1) dX2_store_68 (fun H locs hP hD hS => ?_)
  have hP : va_P (dC, dI) vwCl (wM cI cJ qM qMw qMp qMs qMd mOld mCnt mTab mSpc (vp_updL mW (Int32.toNatClampNeg (z1 >>> ((3 : Int32) &&& (31 : Int32)))) (((mW (Int32.toNatClampNeg (z1 >>> ((3 : Int32) &&& (31 : Int32))))) &&& ((if z2 = (0 : Int32) then (jlshl (4294967295 : Int64) ((8 : Int32) * (z1 &&& (4 : Int32)))) else (-1 : Int64)) ^^^ (-1 : Int64))) ||| ((if z2 = (0 : Int32) then (jlshl z3 ((8 : Int32) * (z1 &&& (4 : Int32)))) else z3) &&& (if z2 = (0 : Int32) then (jlshl (4294967295 : Int64) ((8 : Int32) * (z1 &&& (4 : Int32)))) else (-1 : Int64))))) mP mS mD) H := hP
  have hD : va_D A (wM cI cJ qM qMw qMp qMs qMd mOld mCnt mTab mSpc (vp_updL mW (Int32.toNatClampNeg (z1 >>> ((3 : Int32) &&& (31 : Int32)))) (((mW (Int32.toNatClampNeg (z1 >>> ((3 : Int32) &&& (31 : Int32))))) &&& ((if z2 = (0 : Int32) then (jlshl (4294967295 : Int64) ((8 : Int32) * (z1 &&& (4 : Int32)))) else (-1 : Int64)) ^^^ (-1 : Int64))) ||| ((if z2 = (0 : Int32) then (jlshl z3 ((8 : Int32) * (z1 &&& (4 : Int32)))) else z3) &&& (if z2 = (0 : Int32) then (jlshl (4294967295 : Int64) ((8 : Int32) * (z1 &&& (4 : Int32)))) else (-1 : Int64))))) mP mS mD) := hD
  exact W.vret hx hb hr (fun t ht hW => ⟨rfl, by rw [ht]; exact hP, hS.F ht⟩) hS.2.2 dX2_store_69
set_option maxRecDepth 100000 in
set_option maxHeartbeats 4000000 in
theorem c_X2_emptyBuffer (l : Launch) (dC : Nat → ClassId) (dI : Nat → Nat → Nat) (cI cJ : ClassId) (qM qMw qMp qMs qMd : Nat) (sz : Nat) (mOld : Int32) (mCnt : Int32) (mTab : Int32) (mSpc : Int32) (mW : (Nat → Int64)) (mP : (Nat → Int32)) (mS : (Nat → Int32)) (mD : (Nat → Int64)) : Met l yX2_emptyBuffer (.code yX2_emptyBuffer cX2_emptyBuffer 1 none :: vG) ({ frames := 0, cells := 0, slots := 0, locals := 0 }) (va_Pc [.ref qM] (qa_pre (dC, dI) vwCl (wM cI cJ qM qMw qMp qMs qMd mOld mCnt mTab mSpc mW mP mS mD) [(cI, .int), (cJ, .long)] sz)) (qa_mod none (dC, dI) vwCl (wM cI cJ qM qMw qMp qMs qMd (0 : Int32) (0 : Int32) mTab mSpc mW mP mS mD) (va_A (wM cI cJ qM qMw qMp qMs qMd mOld mCnt mTab mSpc mW mP mS mD) sz)) 0 0 (va_A (wM cI cJ qM qMw qMp qMs qMd mOld mCnt mTab mSpc mW mP mS mD) sz) := by
  refine Met.ofW (cc := cX2_emptyBuffer) (maxL := 1) (ret := none) (by decide) rfl ?_
  intro p e s m args below meth c s₁ B hml hv
  obtain ⟨rfl, hsz, hP, hK, hD0⟩ := hv
  have hx := B.exec
  have hb := B.bytes
  have hr := B.returns
  have hts : ∀ w ∈ vG, w.before _ s = true := fun w h => atoms_spec (ws := (.code yX2_emptyBuffer cX2_emptyBuffer 1 none :: vG)) B.pre w (List.mem_cons_of_mem _ h)
  have hown : s.vm.findClass "LongMachine$Memory" = some m.cls := findClass_of_methodNamed B.named
  have hlocks := B.notSynchronized
  subst hsz
  have hD := hD0.self (sz := s.heap.size)
  generalize hAe : va_A (wM cI cJ qM qMw qMp qMs qMd mOld mCnt mTab mSpc mW mP mS mD) s.heap.size = A at hD ⊢
  have hA : ∀ q : Nat, s.heap.size ≤ q → A q := fun q h => by rw [← hAe]; exact Or.inr h
  have hS : va_S A s.heap s.heap [] := va_S.rf
  have hl := lv_entry ([.ref qM]) (n := 1) (Nat.le_of_ble_eq_true rfl)
  rw [lg_entry_eq]
  generalize (lg_sl ([.ref qM]) ++ List.replicate (1 - (lg_sl ([.ref qM])).length) Slot.unset).toArray = ls at hl ⊢
  have hl : lv_has ls 1 [(0, .ref qM)] := hl
  refine lv_aload_n (pc := 0) hx hb dX2_emptyBuffer_0 rfl (lv_at hl 0 rfl) ?_
  refine lv_iconst (pc := 1) (v := (0 : Int32)) hx hb dX2_emptyBuffer_1 (by decide) ?_
  refine va_put (D := (dC, dI)) (pc := 2) (ci := 2) (v := .int (0 : Int32)) (ty := .int) (C := "LongMachine$Memory") (T := TX2) (N := 8) hx hb hts ui_X2 tyX2 tyX2_ok nmX2 hown hK hP hD hS 0 rfl rfl 5 (by decide) (hts _ gm_26) (fun _ h9 => h9) rfl (by decide +kernel) rfl rfl (Nat.le_of_ble_eq_true rfl) dX2_emptyBuffer_2 (fun H locs hP hD hS => ?_)
  have hP : va_P (dC, dI) vwCl (wM cI cJ qM qMw qMp qMs qMd mOld (0 : Int32) mTab mSpc mW mP mS mD) H := hP
  have hD : va_D A (wM cI cJ qM qMw qMp qMs qMd mOld (0 : Int32) mTab mSpc mW mP mS mD) := hD
  refine lv_aload_n (pc := 5) hx hb dX2_emptyBuffer_5 rfl (lv_at hl 0 rfl) ?_
  refine lv_iconst (pc := 6) (v := (0 : Int32)) hx hb dX2_emptyBuffer_6 (by decide) ?_
  refine va_put (D := (dC, dI)) (pc := 7) (ci := 2) (v := .int (0 : Int32)) (ty := .int) (C := "LongMachine$Memory") (T := TX2) (N := 8) hx hb hts ui_X2 tyX2 tyX2_ok nmX2 hown hK hP hD hS 0 rfl rfl 4 (by decide) (hts _ gm_25) (fun _ h9 => h9) rfl (by decide +kernel) rfl rfl (Nat.le_of_ble_eq_true rfl) dX2_emptyBuffer_7 (fun H locs hP hD hS => ?_)
  have hP : va_P (dC, dI) vwCl (wM cI cJ qM qMw qMp qMs qMd (0 : Int32) (0 : Int32) mTab mSpc mW mP mS mD) H := hP
  have hD : va_D A (wM cI cJ qM qMw qMp qMs qMd (0 : Int32) (0 : Int32) mTab mSpc mW mP mS mD) := hD
  exact W.vret hx hb hr (fun t ht hW => ⟨rfl, by rw [ht]; exact hP, hS.F ht⟩) hS.2.2 dX2_emptyBuffer_10
set_option maxRecDepth 100000 in
set_option maxHeartbeats 4000000 in
theorem c_X2_faulted (l : Launch) (z0 : Int32) : Met l yX2_faulted (.code yX2_faulted cX2_faulted 1 (some .int) :: vG) ({ frames := 0, cells := 0, slots := 0, locals := 0 }) (va_Pc [.int z0] (fun _ => True)) (qa_det (.int ((-1 : Int32) - z0))) 0 0 (fun _ => False) := by
  refine Met.ofW (cc := cX2_faulted) (maxL := 1) (ret := (some .int)) (by decide) rfl ?_
  intro p e s m args below meth c s₁ B hml hv
  obtain ⟨rfl, hv⟩ := hv
  have hx := B.exec
  have hb := B.bytes
  have hr := B.returns
  have hts : ∀ w ∈ vG, w.before _ s = true := fun w h => atoms_spec (ws := (.code yX2_faulted cX2_faulted 1 (some .int) :: vG)) B.pre w (List.mem_cons_of_mem _ h)
  have hown : s.vm.findClass "LongMachine$Memory" = some m.cls := findClass_of_methodNamed B.named
  have hlocks := B.notSynchronized
  have hl := lv_entry ([.int z0]) (n := 1) (Nat.le_of_ble_eq_true rfl)
  rw [lg_entry_eq]
  generalize (lg_sl ([.int z0]) ++ List.replicate (1 - (lg_sl ([.int z0])).length) Slot.unset).toArray = ls at hl ⊢
  have hl : lv_has ls 1 [(0, .int z0)] := hl
  refine lv_iconst (pc := 0) (v := (-1 : Int32)) hx hb dX2_faulted_0 (by decide) ?_
  refine lv_iload_n (pc := 1) hx hb dX2_faulted_1 rfl (lv_at hl 0 rfl) ?_
  refine lv_isub (pc := 2) hx hb dX2_faulted_2 ?_
  exact W.iret hx hb hr (fun t ht hW => ⟨rfl, ht⟩) (fun _ h => by cases h) dX2_faulted_3
set_option maxRecDepth 100000 in
set_option maxHeartbeats 4000000 in
theorem c_X2_faultOf (l : Launch) (z0 : Int32) : Met l yX2_faultOf (.code yX2_faultOf cX2_faultOf 1 (some .int) :: vG) ({ frames := 0, cells := 0, slots := 0, locals := 0 }) (va_Pc [.int z0] (fun _ => True)) (qa_det (.int ((-1 : Int32) - z0))) 0 0 (fun _ => False) := by
  refine Met.ofW (cc := cX2_faultOf) (maxL := 1) (ret := (some .int)) (by decide) rfl ?_
  intro p e s m args below meth c s₁ B hml hv
  obtain ⟨rfl, hv⟩ := hv
  have hx := B.exec
  have hb := B.bytes
  have hr := B.returns
  have hts : ∀ w ∈ vG, w.before _ s = true := fun w h => atoms_spec (ws := (.code yX2_faultOf cX2_faultOf 1 (some .int) :: vG)) B.pre w (List.mem_cons_of_mem _ h)
  have hown : s.vm.findClass "LongMachine$Memory" = some m.cls := findClass_of_methodNamed B.named
  have hlocks := B.notSynchronized
  have hl := lv_entry ([.int z0]) (n := 1) (Nat.le_of_ble_eq_true rfl)
  rw [lg_entry_eq]
  generalize (lg_sl ([.int z0]) ++ List.replicate (1 - (lg_sl ([.int z0])).length) Slot.unset).toArray = ls at hl ⊢
  have hl : lv_has ls 1 [(0, .int z0)] := hl
  refine lv_iconst (pc := 0) (v := (-1 : Int32)) hx hb dX2_faultOf_0 (by decide) ?_
  refine lv_iload_n (pc := 1) hx hb dX2_faultOf_1 rfl (lv_at hl 0 rfl) ?_
  refine lv_isub (pc := 2) hx hb dX2_faultOf_2 ?_
  exact W.iret hx hb hr (fun t ht hW => ⟨rfl, ht⟩) (fun _ h => by cases h) dX2_faultOf_3
set_option maxRecDepth 100000 in
set_option maxHeartbeats 4000000 in
theorem c_X2_directPlace (l : Launch) (z0 : Int64) (z2 : Int32) : Met l yX2_directPlace (.code yX2_directPlace cX2_directPlace 4 (some .int) :: vG) ({ frames := 1, cells := 0, slots := 0, locals := 20 }) (va_Pc [.long z0, .int z2] (fun _ => True)) (qa_det (.int (if (if z0 < (32768 : Int64) then (0 : Int32) else (if (36864 : Int64) ≤ z0 then (0 : Int32) else (1 : Int32))) = (0 : Int32) then ((-1 : Int32) - (1 : Int32)) else (if z2 = (0 : Int32) then ((Int64.toInt32 z0) - (32768 : Int32)) else ((-1 : Int32) - (1 : Int32)))))) 0 0 (fun _ => False) := by
  refine Met.ofW (cc := cX2_directPlace) (maxL := 4) (ret := (some .int)) (by decide) rfl ?_
  intro p e s m args below meth c s₁ B hml hv
  obtain ⟨rfl, hv⟩ := hv
  have hx := B.exec
  have hb := B.bytes
  have hr := B.returns
  have hts : ∀ w ∈ vG, w.before _ s = true := fun w h => atoms_spec (ws := (.code yX2_directPlace cX2_directPlace 4 (some .int) :: vG)) B.pre w (List.mem_cons_of_mem _ h)
  have hown : s.vm.findClass "LongMachine$Memory" = some m.cls := findClass_of_methodNamed B.named
  have hlocks := B.notSynchronized
  have hl := lv_entry ([.long z0, .int z2]) (n := 4) (Nat.le_of_ble_eq_true rfl)
  rw [lg_entry_eq]
  generalize (lg_sl ([.long z0, .int z2]) ++ List.replicate (4 - (lg_sl ([.long z0, .int z2])).length) Slot.unset).toArray = ls at hl ⊢
  have hl : lv_has ls 4 [(0, .long z0), (2, .int z2)] := hl
  refine lv_lload_n (pc := 0) hx hb dX2_directPlace_0 rfl (lv_at hl 0 rfl) ?_
  refine lv_ldc2 (pc := 1) (v := (32768 : Int64)) hx hb hown (hts _ gm_174) dX2_directPlace_1 ?_
  refine qa_joini (J := 21) (ls2 := ls) (rest2 := []) (if z0 < (32768 : Int64) then (0 : Int32) else (if (36864 : Int64) ≤ z0 then (0 : Int32) else (1 : Int32))) (fun hj21 => ?_) ?_
  · refine qa_lc_lt (pc := 4) (tgt := 20) hx hb dX2_directPlace_4 dX2_directPlace_5 (by decide) (fun h4_1 => ?_) (fun h4_1 => ?_)
    · refine lv_iconst (pc := 20) (v := (0 : Int32)) hx hb dX2_directPlace_20 (by decide) ?_
      exact hj21 _ (Eq.symm (if_pos h4_1))
    · refine lv_lload_n (pc := 8) hx hb dX2_directPlace_8 rfl (lv_at hl 0 rfl) ?_
      refine lv_ldc2 (pc := 9) (v := (36864 : Int64)) hx hb hown (hts _ gm_175) dX2_directPlace_9 ?_
      refine qa_lc_ge (pc := 12) (tgt := 20) hx hb dX2_directPlace_12 dX2_directPlace_13 (by decide) (fun h12_2 => ?_) (fun h12_2 => ?_)
      · refine lv_iconst (pc := 20) (v := (0 : Int32)) hx hb dX2_directPlace_20 (by decide) ?_
        exact hj21 _ (Eq.symm (Eq.trans (if_neg h4_1) (if_pos h12_2)))
      · refine lv_iconst (pc := 16) (v := (1 : Int32)) hx hb dX2_directPlace_16 (by decide) ?_
        refine lv_goto (pc := 17) (tgt := 21) hx hb dX2_directPlace_17 (by decide) ?_
        exact hj21 _ (Eq.symm (Eq.trans (if_neg h4_1) (if_neg h12_2)))
  refine lv_istore_n (pc := 21) (lv' := [(3, .int (if z0 < (32768 : Int64) then (0 : Int32) else (if (36864 : Int64) ≤ z0 then (0 : Int32) else (1 : Int32)))), (0, .long z0), (2, .int z2)]) hx hb dX2_directPlace_21 rfl hl (by decide) rfl (fun ls hl => ?_)
  refine lv_iload_n (pc := 22) hx hb dX2_directPlace_22 rfl (lv_at hl 0 rfl) ?_
  refine qa_joini (J := 42) (ls2 := ls) (rest2 := []) (if (if z0 < (32768 : Int64) then (0 : Int32) else (if (36864 : Int64) ≤ z0 then (0 : Int32) else (1 : Int32))) = (0 : Int32) then ((-1 : Int32) - (1 : Int32)) else (if z2 = (0 : Int32) then ((Int64.toInt32 z0) - (32768 : Int32)) else ((-1 : Int32) - (1 : Int32)))) (fun hj42 => ?_) ?_
  · refine lv_if_eq (pc := 23) (tgt := 38) hx hb dX2_directPlace_23 (by decide) (fun h23_3 => ?_) (fun h23_3 => ?_)
    · refine lv_iconst (pc := 38) (v := (1 : Int32)) hx hb dX2_directPlace_38 (by decide) ?_
      refine qa_calld (pc := 39) (v := .int ((-1 : Int32) - (1 : Int32))) (va_runS (As := [.int (1 : Int32)]) (rest := []) ⟨hx, hb, hml, hown, hts⟩ (c_X2_faulted l (1 : Int32)) (va_cwS 1 hts (gd_S gm_179 gm_177 gm_178 gm_2) rfl rfl rfl (by decide +kernel) ⟨Nat.le_of_ble_eq_true rfl, Nat.le_of_ble_eq_true rfl⟩) qa_S0 rfl rfl hl.1 rfl (lv_room (Nat.le_of_ble_eq_true rfl)) dX2_directPlace_39 ⟨Nat.zero_le _, Nat.zero_le _⟩) ?_
      exact hj42 _ (Eq.symm (if_pos h23_3))
    · refine lv_iload_n (pc := 26) hx hb dX2_directPlace_26 rfl (lv_at hl 2 rfl) ?_
      refine lv_if_ne (pc := 27) (tgt := 38) hx hb dX2_directPlace_27 (by decide) (fun h27_4 => ?_) (fun h27_4 => ?_)
      · refine lv_iconst (pc := 38) (v := (1 : Int32)) hx hb dX2_directPlace_38 (by decide) ?_
        refine qa_calld (pc := 39) (v := .int ((-1 : Int32) - (1 : Int32))) (va_runS (As := [.int (1 : Int32)]) (rest := []) ⟨hx, hb, hml, hown, hts⟩ (c_X2_faulted l (1 : Int32)) (va_cwS 1 hts (gd_S gm_179 gm_177 gm_178 gm_2) rfl rfl rfl (by decide +kernel) ⟨Nat.le_of_ble_eq_true rfl, Nat.le_of_ble_eq_true rfl⟩) qa_S0 rfl rfl hl.1 rfl (lv_room (Nat.le_of_ble_eq_true rfl)) dX2_directPlace_39 ⟨Nat.zero_le _, Nat.zero_le _⟩) ?_
        exact hj42 _ (Eq.symm (Eq.trans (if_neg h23_3) (if_neg h27_4)))
      · refine lv_lload_n (pc := 30) hx hb dX2_directPlace_30 rfl (lv_at hl 1 rfl) ?_
        refine lv_l2i (pc := 31) (v := (Int64.toInt32 z0)) hx hb dX2_directPlace_31 rfl ?_
        refine lv_ldc (pc := 32) hx hb hown (hts _ gm_176) dX2_directPlace_32 ?_
        refine lv_isub (pc := 34) hx hb dX2_directPlace_34 ?_
        refine lv_goto (pc := 35) (tgt := 42) hx hb dX2_directPlace_35 (by decide) ?_
        exact hj42 _ (Eq.symm (Eq.trans (if_neg h23_3) (if_pos h27_4)))
  exact W.iret hx hb hr (fun t ht hW => ⟨rfl, ht⟩) (fun _ h => by cases h) dX2_directPlace_42
def f_X2_find_B2 (z1 : Int32) (mCnt : Int32) (mSpc : Int32) (mP : (Nat → Int32)) (mS : (Nat → Int32)) : Nat → Int32 → Int32
  | 0, k2_2 => (0 : Int32)
  | n + 1, k2_2 => (if mCnt ≤ k2_2 then (-1 : Int32) else (if (mP (Int32.toNatClampNeg k2_2)) = z1 then (if (mS (Int32.toNatClampNeg k2_2)) = mSpc then k2_2 else (f_X2_find_B2 z1 mCnt mSpc mP mS n (k2_2 + (1 : Int32)))) else (f_X2_find_B2 z1 mCnt mSpc mP mS n (k2_2 + (1 : Int32)))))
theorem f_X2_find_B2_s (z1 : Int32) (mCnt : Int32) (mSpc : Int32) (mP : (Nat → Int32)) (mS : (Nat → Int32)) (n : Nat) (k2_2 : Int32) : f_X2_find_B2 z1 mCnt mSpc mP mS (n + 1) k2_2 = (if mCnt ≤ k2_2 then (-1 : Int32) else (if (mP (Int32.toNatClampNeg k2_2)) = z1 then (if (mS (Int32.toNatClampNeg k2_2)) = mSpc then k2_2 else (f_X2_find_B2 z1 mCnt mSpc mP mS n (k2_2 + (1 : Int32)))) else (f_X2_find_B2 z1 mCnt mSpc mP mS n (k2_2 + (1 : Int32))))) := rfl
def f_X2_find (z1 : Int32) (mCnt : Int32) (mSpc : Int32) (mP : (Nat → Int32)) (mS : (Nat → Int32)) : Int32 := (f_X2_find_B2 z1 mCnt mSpc mP mS 5 (0 : Int32))
set_option maxRecDepth 100000 in
set_option maxHeartbeats 4000000 in
theorem c_X2_find (l : Launch) (dC : Nat → ClassId) (dI : Nat → Nat → Nat) (cI cJ : ClassId) (qM qMw qMp qMs qMd : Nat) (mOld : Int32) (mCnt : Int32) (mTab : Int32) (mSpc : Int32) (mW : (Nat → Int64)) (mP : (Nat → Int32)) (mS : (Nat → Int32)) (mD : (Nat → Int64)) (z1 : Int32) (hc4 : mCnt.toInt ≤ 4) : Met l yX2_find (.code yX2_find cX2_find 3 (some .int) :: vG) ({ frames := 0, cells := 0, slots := 0, locals := 0 }) (va_Pc [.ref qM, .int z1] (qa_preR (dC, dI) vwCl (wM cI cJ qM qMw qMp qMs qMd mOld mCnt mTab mSpc mW mP mS mD) [(cI, .int), (cJ, .long)])) (qa_det (.int (f_X2_find z1 mCnt mSpc mP mS))) 0 0 (fun _ => False) := by
  refine Met.ofW (cc := cX2_find) (maxL := 3) (ret := (some .int)) (by decide) rfl ?_
  intro p e s m args below meth c s₁ B hml hv
  obtain ⟨rfl, hP, hK⟩ := hv
  have hx := B.exec
  have hb := B.bytes
  have hr := B.returns
  have hts : ∀ w ∈ vG, w.before _ s = true := fun w h => atoms_spec (ws := (.code yX2_find cX2_find 3 (some .int) :: vG)) B.pre w (List.mem_cons_of_mem _ h)
  have hown : s.vm.findClass "LongMachine$Memory" = some m.cls := findClass_of_methodNamed B.named
  have hlocks := B.notSynchronized
  have hl := lv_entry ([.ref qM, .int z1]) (n := 3) (Nat.le_of_ble_eq_true rfl)
  rw [lg_entry_eq]
  generalize (lg_sl ([.ref qM, .int z1]) ++ List.replicate (3 - (lg_sl ([.ref qM, .int z1])).length) Slot.unset).toArray = ls at hl ⊢
  have hl : lv_has ls 3 [(0, .ref qM), (1, .int z1)] := hl
  obtain ⟨u, hu⟩ : ∃ u, u = f_X2_find z1 mCnt mSpc mP mS := ⟨_, rfl⟩
  rw [← hu]
  unfold f_X2_find at hu
  refine lv_iconst (pc := 0) (v := (0 : Int32)) hx hb dX2_find_0 (by decide) ?_
  refine lv_istore_n (pc := 1) (lv' := [(2, .int (0 : Int32)), (0, .ref qM), (1, .int z1)]) hx hb dX2_find_1 rfl hl (by decide) rfl (fun ls hl => ?_)
  have hB2 : ∀ (n : Nat) (k2_2 : Int32) (ls : Array Slot) (hq2_fu : ((mCnt).toInt - (k2_2).toInt).toNat < n) (hq2_i0 : 0 ≤ (k2_2).toInt) (hl : lv_has ls 3 [(0, .ref qM), (1, .int z1), (2, .int k2_2)]) (u : Int32) (hu : u = f_X2_find_B2 z1 mCnt mSpc mP mS n k2_2), W p l e { frames := 0, cells := 0, slots := 0, locals := 0 } s m ([.ref qM, .int z1]).toArray below meth c s.heap [] 0 0 (MQ below (qa_det (.int u)) ([.ref qM, .int z1]).toArray s 0 0 (fun _ => False)) (F0 m 2 ls []) := by
    intro n
    induction n with
    | zero => intro k2_2 ls hq2_fu hq2_i0 hl u hu; exact absurd hq2_fu (Nat.not_lt_zero _)
    | succ n ih =>
        intro k2_2 ls hq2_fu hq2_i0 hl u hu
        rw [f_X2_find_B2_s] at hu
        refine lv_iload_n (pc := 2) hx hb dX2_find_2 rfl (lv_at hl 2 rfl) ?_
        refine lv_aload_n (pc := 3) hx hb dX2_find_3 rfl (lv_at hl 0 rfl) ?_
        refine va_get (D := (dC, dI)) (pc := 4) (ci := 2) (v := .int mCnt) (C := "LongMachine$Memory") (T := TX2) (N := 8) hx hb hts ui_X2 hown hK hP 0 rfl rfl 5 (by decide) (hts _ gm_26) (fun _ h9 => h9) rfl dX2_find_4 ?_
        refine lv_icmp_ge (pc := 7) (tgt := 41) hx hb dX2_find_7 (by decide) (fun h7_1 => ?_) (fun h7_1 => ?_)
        · have hu := hu.trans (if_pos h7_1)
          refine lv_iconst (pc := 41) (v := (-1 : Int32)) hx hb dX2_find_41 (by decide) ?_
          subst hu
          exact W.iret hx hb hr (fun t ht hW => ⟨rfl, ht⟩) (fun _ h => by cases h) dX2_find_42
        · have hu := hu.trans (if_neg h7_1)
          refine lv_aload_n (pc := 10) hx hb dX2_find_10 rfl (lv_at hl 0 rfl) ?_
          refine va_get (D := (dC, dI)) (pc := 11) (ci := 2) (v := .ref qMp) (C := "LongMachine$Memory") (T := TX2) (N := 8) hx hb hts ui_X2 hown hK hP 0 rfl rfl 1 (by decide) (hts _ gm_22) (fun _ h9 => h9) rfl dX2_find_11 ?_
          refine lv_iload_n (pc := 14) hx hb dX2_find_14 rfl (lv_at hl 2 rfl) ?_
          refine qa_iald (pc := 15) (k := (Int32.toNatClampNeg k2_2)) hx hb hK hP 2 0 rfl rfl rfl (rg_b hq2_i0 h7_1 hc4) dX2_find_15 ?_
          refine lv_iload_n (pc := 16) hx hb dX2_find_16 rfl (lv_at hl 1 rfl) ?_
          refine lv_icmp_ne (pc := 17) (tgt := 35) hx hb dX2_find_17 (by decide) (fun h17_2 => ?_) (fun h17_2 => ?_)
          · have hu := hu.trans (if_neg h17_2)
            refine lv_iinc (pc := 35) (k := 2) (lv' := [(2, .int (k2_2 + (1 : Int32))), (0, .ref qM), (1, .int z1)]) hx hb dX2_find_35 hl rfl (qa_inc (by decide) k2_2) (by decide) rfl (fun ls hl => ?_)
            refine lv_goto (pc := 38) (tgt := 2) hx hb dX2_find_38 (by decide) ?_
            exact ih (k2_2 + (1 : Int32)) _ (rg_fs h7_1 hq2_fu) (rg_i0 h7_1 hq2_i0) (lv_sub hl [1, 2, 0] rfl) u hu
          · have hu := hu.trans (if_pos h17_2)
            refine lv_aload_n (pc := 20) hx hb dX2_find_20 rfl (lv_at hl 0 rfl) ?_
            refine va_get (D := (dC, dI)) (pc := 21) (ci := 2) (v := .ref qMs) (C := "LongMachine$Memory") (T := TX2) (N := 8) hx hb hts ui_X2 hown hK hP 0 rfl rfl 2 (by decide) (hts _ gm_23) (fun _ h9 => h9) rfl dX2_find_21 ?_
            refine lv_iload_n (pc := 24) hx hb dX2_find_24 rfl (lv_at hl 2 rfl) ?_
            refine qa_iald (pc := 25) (k := (Int32.toNatClampNeg k2_2)) hx hb hK hP 3 0 rfl rfl rfl (rg_b hq2_i0 h7_1 hc4) dX2_find_25 ?_
            refine lv_aload_n (pc := 26) hx hb dX2_find_26 rfl (lv_at hl 0 rfl) ?_
            refine va_get (D := (dC, dI)) (pc := 27) (ci := 2) (v := .int mSpc) (C := "LongMachine$Memory") (T := TX2) (N := 8) hx hb hts ui_X2 hown hK hP 0 rfl rfl 7 (by decide) (hts _ gm_31) (fun _ h9 => h9) rfl dX2_find_27 ?_
            refine lv_icmp_ne (pc := 30) (tgt := 35) hx hb dX2_find_30 (by decide) (fun h30_3 => ?_) (fun h30_3 => ?_)
            · have hu := hu.trans (if_neg h30_3)
              refine lv_iinc (pc := 35) (k := 2) (lv' := [(2, .int (k2_2 + (1 : Int32))), (0, .ref qM), (1, .int z1)]) hx hb dX2_find_35 hl rfl (qa_inc (by decide) k2_2) (by decide) rfl (fun ls hl => ?_)
              refine lv_goto (pc := 38) (tgt := 2) hx hb dX2_find_38 (by decide) ?_
              exact ih (k2_2 + (1 : Int32)) _ (rg_fs h7_1 hq2_fu) (rg_i0 h7_1 hq2_i0) (lv_sub hl [1, 2, 0] rfl) u hu
            · have hu := hu.trans (if_pos h30_3)
              refine lv_iload_n (pc := 33) hx hb dX2_find_33 rfl (lv_at hl 2 rfl) ?_
              subst hu
              exact W.iret hx hb hr (fun t ht hW => ⟨rfl, ht⟩) (fun _ h => by cases h) dX2_find_34
  exact hB2 5 (0 : Int32) _ (rg_f0 hc4) (rg_z) (lv_sub hl [1, 2, 0] rfl) u hu
theorem rgf_find_B (z1 mCnt mSpc : Int32) (mP mS : Nat → Int32) : ∀ (n : Nat) (k : Int32), 0 ≤ k.toInt → ¬ f_X2_find_B2 z1 mCnt mSpc mP mS n k < 0 → n = 0 ∨ (0 ≤ (f_X2_find_B2 z1 mCnt mSpc mP mS n k).toInt ∧ (f_X2_find_B2 z1 mCnt mSpc mP mS n k).toInt < mCnt.toInt) ∨ f_X2_find_B2 z1 mCnt mSpc mP mS n k = 0 := by
  intro n
  induction n with
  | zero => intro k h0 h; exact Or.inl rfl
  | succ n ih =>
    intro k h0 h
    rw [f_X2_find_B2_s] at h ⊢
    refine Or.inr ?_
    split
    · rename_i hc
      rw [if_pos hc] at h
      exact absurd h (by decide)
    · rename_i hc
      rw [if_neg hc] at h
      have hr : ∀ w, w = f_X2_find_B2 z1 mCnt mSpc mP mS n (k + 1) → ¬ w < 0 → (0 ≤ w.toInt ∧ w.toInt < mCnt.toInt) ∨ w = 0 := by
        intro w hw hn
        subst hw
        rcases ih (k + 1) (rg_i0 hc h0) hn with rfl | h2
        · exact Or.inr rfl
        · exact h2
      split
      · rename_i hp
        rw [if_pos hp] at h
        split
        · exact Or.inl ⟨h0, rg_lt hc⟩
        · rename_i hs
          rw [if_neg hs] at h
          exact hr _ rfl h
      · rename_i hp
        rw [if_neg hp] at h
        exact hr _ rfl h
theorem rgf_find {z1 mCnt mSpc : Int32} {mP mS : Nat → Int32} (hc : mCnt.toInt ≤ 4) (h : ¬ f_X2_find z1 mCnt mSpc mP mS < 0) : vp_in (f_X2_find z1 mCnt mSpc mP mS) 4 := by
  unfold f_X2_find at h ⊢
  rcases rgf_find_B z1 mCnt mSpc mP mS 5 0 rg_z h with h2 | h2 | h2
  · exact absurd h2 (by decide)
  · exact qa_inI h2.1 (by omega)
  · rw [h2]
    exact qa_in (by decide)
def f_X2_keep (z1 : Int32) (z2 : Int64) (mOld : Int32) (mCnt : Int32) (mSpc : Int32) (mP : (Nat → Int32)) (mS : (Nat → Int32)) (mD : (Nat → Int64)) : Int32 × Int32 × (Nat → Int32) × (Nat → Int32) × (Nat → Int64) := (if (4 : Int32) ≤ mCnt then (((mOld + (1 : Int32)) - (mOld + (1 : Int32)) / (4 : Int32) * (4 : Int32)), mCnt, (upd mP (Int32.toNatClampNeg mOld) z1), (upd mS (Int32.toNatClampNeg mOld) mSpc), (vp_updL mD (Int32.toNatClampNeg mOld) z2)) else (mOld, (mCnt + (1 : Int32)), (upd mP (Int32.toNatClampNeg mCnt) z1), (upd mS (Int32.toNatClampNeg mCnt) mSpc), (vp_updL mD (Int32.toNatClampNeg mCnt) z2)))
set_option maxRecDepth 100000 in
set_option maxHeartbeats 4000000 in
theorem c_X2_keep (l : Launch) (dC : Nat → ClassId) (dI : Nat → Nat → Nat) (cI cJ : ClassId) (qM qMw qMp qMs qMd : Nat) (sz : Nat) (mOld : Int32) (mCnt : Int32) (mTab : Int32) (mSpc : Int32) (mW : (Nat → Int64)) (mP : (Nat → Int32)) (mS : (Nat → Int32)) (mD : (Nat → Int64)) (z1 : Int32) (z2 : Int64) (hc0 : 0 ≤ mCnt.toInt) (hc4 : mCnt.toInt ≤ 4) (ho0 : 0 ≤ mOld.toInt) (ho4 : mOld.toInt < 4) : Met l yX2_keep (.code yX2_keep cX2_keep 5 none :: vG) ({ frames := 0, cells := 0, slots := 0, locals := 0 }) (va_Pc [.ref qM, .int z1, .long z2] (qa_pre (dC, dI) vwCl (wM cI cJ qM qMw qMp qMs qMd mOld mCnt mTab mSpc mW mP mS mD) [(cI, .int), (cJ, .long)] sz)) (qa_mod none (dC, dI) vwCl (wM cI cJ qM qMw qMp qMs qMd ((f_X2_keep z1 z2 mOld mCnt mSpc mP mS mD).1) ((f_X2_keep z1 z2 mOld mCnt mSpc mP mS mD).2.1) mTab mSpc mW ((f_X2_keep z1 z2 mOld mCnt mSpc mP mS mD).2.2.1) ((f_X2_keep z1 z2 mOld mCnt mSpc mP mS mD).2.2.2.1) ((f_X2_keep z1 z2 mOld mCnt mSpc mP mS mD).2.2.2.2)) (va_A (wM cI cJ qM qMw qMp qMs qMd mOld mCnt mTab mSpc mW mP mS mD) sz)) 0 0 (va_A (wM cI cJ qM qMw qMp qMs qMd mOld mCnt mTab mSpc mW mP mS mD) sz) := by
  refine Met.ofW (cc := cX2_keep) (maxL := 5) (ret := none) (by decide) rfl ?_
  intro p e s m args below meth c s₁ B hml hv
  obtain ⟨rfl, hsz, hP, hK, hD0⟩ := hv
  have hx := B.exec
  have hb := B.bytes
  have hr := B.returns
  have hts : ∀ w ∈ vG, w.before _ s = true := fun w h => atoms_spec (ws := (.code yX2_keep cX2_keep 5 none :: vG)) B.pre w (List.mem_cons_of_mem _ h)
  have hown : s.vm.findClass "LongMachine$Memory" = some m.cls := findClass_of_methodNamed B.named
  have hlocks := B.notSynchronized
  subst hsz
  have hD := hD0.self (sz := s.heap.size)
  generalize hAe : va_A (wM cI cJ qM qMw qMp qMs qMd mOld mCnt mTab mSpc mW mP mS mD) s.heap.size = A at hD ⊢
  have hA : ∀ q : Nat, s.heap.size ≤ q → A q := fun q h => by rw [← hAe]; exact Or.inr h
  have hS : va_S A s.heap s.heap [] := va_S.rf
  have hl := lv_entry ([.ref qM, .int z1, .long z2]) (n := 5) (Nat.le_of_ble_eq_true rfl)
  rw [lg_entry_eq]
  generalize (lg_sl ([.ref qM, .int z1, .long z2]) ++ List.replicate (5 - (lg_sl ([.ref qM, .int z1, .long z2])).length) Slot.unset).toArray = ls at hl ⊢
  have hl : lv_has ls 5 [(0, .ref qM), (1, .int z1), (2, .long z2)] := hl
  obtain ⟨u, hu⟩ : ∃ u, u = f_X2_keep z1 z2 mOld mCnt mSpc mP mS mD := ⟨_, rfl⟩
  rw [← hu]
  unfold f_X2_keep at hu
  refine lv_aload_n (pc := 0) hx hb dX2_keep_0 rfl (lv_at hl 0 rfl) ?_
  refine va_get (D := (dC, dI)) (pc := 1) (ci := 2) (v := .int mCnt) (C := "LongMachine$Memory") (T := TX2) (N := 8) hx hb hts ui_X2 hown hK hP 0 rfl rfl 5 (by decide) (hts _ gm_26) (fun _ h9 => h9) rfl dX2_keep_1 ?_
  refine lv_istore (pc := 4) (lv' := [(4, .int mCnt), (0, .ref qM), (1, .int z1), (2, .long z2)]) hx hb dX2_keep_4 hl (by decide) rfl (fun ls hl => ?_)
  refine lv_aload_n (pc := 6) hx hb dX2_keep_6 rfl (lv_at hl 1 rfl) ?_
  refine va_get (D := (dC, dI)) (pc := 7) (ci := 2) (v := .int mCnt) (C := "LongMachine$Memory") (T := TX2) (N := 8) hx hb hts ui_X2 hown hK hP 0 rfl rfl 5 (by decide) (hts _ gm_26) (fun _ h9 => h9) rfl dX2_keep_7 ?_
  refine lv_iconst (pc := 10) (v := (4 : Int32)) hx hb dX2_keep_10 (by decide) ?_
  refine lv_icmp_ge (pc := 11) (tgt := 27) hx hb dX2_keep_11 (by decide) (fun h11_1 => ?_) (fun h11_1 => ?_)
  · have hu := hu.trans (if_pos h11_1)
    refine lv_aload_n (pc := 27) hx hb dX2_keep_27 rfl (lv_at hl 1 rfl) ?_
    refine va_get (D := (dC, dI)) (pc := 28) (ci := 2) (v := .int mOld) (C := "LongMachine$Memory") (T := TX2) (N := 8) hx hb hts ui_X2 hown hK hP 0 rfl rfl 4 (by decide) (hts _ gm_25) (fun _ h9 => h9) rfl dX2_keep_28 ?_
    refine lv_istore (pc := 31) (lv' := [(4, .int mOld), (0, .ref qM), (1, .int z1), (2, .long z2)]) hx hb dX2_keep_31 hl (by decide) rfl (fun ls hl => ?_)
    refine lv_aload_n (pc := 33) hx hb dX2_keep_33 rfl (lv_at hl 1 rfl) ?_
    refine lv_aload_n (pc := 34) hx hb dX2_keep_34 rfl (lv_at hl 1 rfl) ?_
    refine va_get (D := (dC, dI)) (pc := 35) (ci := 2) (v := .int mOld) (C := "LongMachine$Memory") (T := TX2) (N := 8) hx hb hts ui_X2 hown hK hP 0 rfl rfl 4 (by decide) (hts _ gm_25) (fun _ h9 => h9) rfl dX2_keep_35 ?_
    refine lv_iconst (pc := 38) (v := (1 : Int32)) hx hb dX2_keep_38 (by decide) ?_
    refine lv_iadd (pc := 39) hx hb dX2_keep_39 ?_
    refine lv_iconst (pc := 40) (v := (4 : Int32)) hx hb dX2_keep_40 (by decide) ?_
    refine lv_irem (pc := 41) hx hb dX2_keep_41 (by decide) ?_
    refine va_put (D := (dC, dI)) (pc := 42) (ci := 2) (v := .int ((mOld + (1 : Int32)) - (mOld + (1 : Int32)) / (4 : Int32) * (4 : Int32))) (ty := .int) (C := "LongMachine$Memory") (T := TX2) (N := 8) hx hb hts ui_X2 tyX2 tyX2_ok nmX2 hown hK hP hD hS 0 rfl rfl 4 (by decide) (hts _ gm_25) (fun _ h9 => h9) rfl (by decide +kernel) rfl rfl (Nat.le_of_ble_eq_true rfl) dX2_keep_42 (fun H locs hP hD hS => ?_)
    have hP : va_P (dC, dI) vwCl (wM cI cJ qM qMw qMp qMs qMd ((mOld + (1 : Int32)) - (mOld + (1 : Int32)) / (4 : Int32) * (4 : Int32)) mCnt mTab mSpc mW mP mS mD) H := hP
    have hD : va_D A (wM cI cJ qM qMw qMp qMs qMd ((mOld + (1 : Int32)) - (mOld + (1 : Int32)) / (4 : Int32) * (4 : Int32)) mCnt mTab mSpc mW mP mS mD) := hD
    refine lv_aload_n (pc := 45) hx hb dX2_keep_45 rfl (lv_at hl 1 rfl) ?_
    refine va_get (D := (dC, dI)) (pc := 46) (ci := 2) (v := .ref qMp) (C := "LongMachine$Memory") (T := TX2) (N := 8) hx hb hts ui_X2 hown hK hP 0 rfl rfl 1 (by decide) (hts _ gm_22) (fun _ h9 => h9) rfl dX2_keep_46 ?_
    refine lv_iload (pc := 49) hx hb dX2_keep_49 (lv_at hl 0 rfl) ?_
    refine lv_iload_n (pc := 51) hx hb dX2_keep_51 rfl (lv_at hl 2 rfl) ?_
    refine qa_iast (pc := 52) (k := (Int32.toNatClampNeg mOld)) hx hb hK hP hD hS 2 0 rfl rfl rfl (by first | exact qa_inI ho0 ho4 | exact rg_b hc0 h11_1 (by decide)) dX2_keep_52 (fun H locs hP hD hS => ?_)
    have hP : va_P (dC, dI) vwCl (wM cI cJ qM qMw qMp qMs qMd ((mOld + (1 : Int32)) - (mOld + (1 : Int32)) / (4 : Int32) * (4 : Int32)) mCnt mTab mSpc mW (upd mP (Int32.toNatClampNeg mOld) z1) mS mD) H := hP
    have hD : va_D A (wM cI cJ qM qMw qMp qMs qMd ((mOld + (1 : Int32)) - (mOld + (1 : Int32)) / (4 : Int32) * (4 : Int32)) mCnt mTab mSpc mW (upd mP (Int32.toNatClampNeg mOld) z1) mS mD) := hD
    refine lv_aload_n (pc := 53) hx hb dX2_keep_53 rfl (lv_at hl 1 rfl) ?_
    refine va_get (D := (dC, dI)) (pc := 54) (ci := 2) (v := .ref qMs) (C := "LongMachine$Memory") (T := TX2) (N := 8) hx hb hts ui_X2 hown hK hP 0 rfl rfl 2 (by decide) (hts _ gm_23) (fun _ h9 => h9) rfl dX2_keep_54 ?_
    refine lv_iload (pc := 57) hx hb dX2_keep_57 (lv_at hl 0 rfl) ?_
    refine lv_aload_n (pc := 59) hx hb dX2_keep_59 rfl (lv_at hl 1 rfl) ?_
    refine va_get (D := (dC, dI)) (pc := 60) (ci := 2) (v := .int mSpc) (C := "LongMachine$Memory") (T := TX2) (N := 8) hx hb hts ui_X2 hown hK hP 0 rfl rfl 7 (by decide) (hts _ gm_31) (fun _ h9 => h9) rfl dX2_keep_60 ?_
    refine qa_iast (pc := 63) (k := (Int32.toNatClampNeg mOld)) hx hb hK hP hD hS 3 0 rfl rfl rfl (by first | exact qa_inI ho0 ho4 | exact rg_b hc0 h11_1 (by decide)) dX2_keep_63 (fun H locs hP hD hS => ?_)
    have hP : va_P (dC, dI) vwCl (wM cI cJ qM qMw qMp qMs qMd ((mOld + (1 : Int32)) - (mOld + (1 : Int32)) / (4 : Int32) * (4 : Int32)) mCnt mTab mSpc mW (upd mP (Int32.toNatClampNeg mOld) z1) (upd mS (Int32.toNatClampNeg mOld) mSpc) mD) H := hP
    have hD : va_D A (wM cI cJ qM qMw qMp qMs qMd ((mOld + (1 : Int32)) - (mOld + (1 : Int32)) / (4 : Int32) * (4 : Int32)) mCnt mTab mSpc mW (upd mP (Int32.toNatClampNeg mOld) z1) (upd mS (Int32.toNatClampNeg mOld) mSpc) mD) := hD
    refine lv_aload_n (pc := 64) hx hb dX2_keep_64 rfl (lv_at hl 1 rfl) ?_
    refine va_get (D := (dC, dI)) (pc := 65) (ci := 2) (v := .ref qMd) (C := "LongMachine$Memory") (T := TX2) (N := 8) hx hb hts ui_X2 hown hK hP 0 rfl rfl 3 (by decide) (hts _ gm_24) (fun _ h9 => h9) rfl dX2_keep_65 ?_
    refine lv_iload (pc := 68) hx hb dX2_keep_68 (lv_at hl 0 rfl) ?_
    refine lv_lload_n (pc := 70) hx hb dX2_keep_70 rfl (lv_at hl 3 rfl) ?_
    refine qa_last (pc := 71) (k := (Int32.toNatClampNeg mOld)) hx hb hK hP hD hS 4 1 rfl rfl rfl (by first | exact qa_inI ho0 ho4 | exact rg_b hc0 h11_1 (by decide)) dX2_keep_71 (fun H locs hP hD hS => ?_)
    have hP : va_P (dC, dI) vwCl (wM cI cJ qM qMw qMp qMs qMd ((mOld + (1 : Int32)) - (mOld + (1 : Int32)) / (4 : Int32) * (4 : Int32)) mCnt mTab mSpc mW (upd mP (Int32.toNatClampNeg mOld) z1) (upd mS (Int32.toNatClampNeg mOld) mSpc) (vp_updL mD (Int32.toNatClampNeg mOld) z2)) H := hP
    have hD : va_D A (wM cI cJ qM qMw qMp qMs qMd ((mOld + (1 : Int32)) - (mOld + (1 : Int32)) / (4 : Int32) * (4 : Int32)) mCnt mTab mSpc mW (upd mP (Int32.toNatClampNeg mOld) z1) (upd mS (Int32.toNatClampNeg mOld) mSpc) (vp_updL mD (Int32.toNatClampNeg mOld) z2)) := hD
    subst hu
    exact W.vret hx hb hr (fun t ht hW => ⟨rfl, by rw [ht]; exact hP, hS.F ht⟩) hS.2.2 dX2_keep_72
  · have hu := hu.trans (if_neg h11_1)
    refine lv_aload_n (pc := 14) hx hb dX2_keep_14 rfl (lv_at hl 1 rfl) ?_
    refine lv_dup (pc := 15) hx hb dX2_keep_15 rfl ?_
    refine va_get (D := (dC, dI)) (pc := 16) (ci := 2) (v := .int mCnt) (C := "LongMachine$Memory") (T := TX2) (N := 8) hx hb hts ui_X2 hown hK hP 0 rfl rfl 5 (by decide) (hts _ gm_26) (fun _ h9 => h9) rfl dX2_keep_16 ?_
    refine lv_iconst (pc := 19) (v := (1 : Int32)) hx hb dX2_keep_19 (by decide) ?_
    refine lv_iadd (pc := 20) hx hb dX2_keep_20 ?_
    refine va_put (D := (dC, dI)) (pc := 21) (ci := 2) (v := .int (mCnt + (1 : Int32))) (ty := .int) (C := "LongMachine$Memory") (T := TX2) (N := 8) hx hb hts ui_X2 tyX2 tyX2_ok nmX2 hown hK hP hD hS 0 rfl rfl 5 (by decide) (hts _ gm_26) (fun _ h9 => h9) rfl (by decide +kernel) rfl rfl (Nat.le_of_ble_eq_true rfl) dX2_keep_21 (fun H locs hP hD hS => ?_)
    have hP : va_P (dC, dI) vwCl (wM cI cJ qM qMw qMp qMs qMd mOld (mCnt + (1 : Int32)) mTab mSpc mW mP mS mD) H := hP
    have hD : va_D A (wM cI cJ qM qMw qMp qMs qMd mOld (mCnt + (1 : Int32)) mTab mSpc mW mP mS mD) := hD
    refine lv_goto (pc := 24) (tgt := 45) hx hb dX2_keep_24 (by decide) ?_
    refine lv_aload_n (pc := 45) hx hb dX2_keep_45 rfl (lv_at hl 1 rfl) ?_
    refine va_get (D := (dC, dI)) (pc := 46) (ci := 2) (v := .ref qMp) (C := "LongMachine$Memory") (T := TX2) (N := 8) hx hb hts ui_X2 hown hK hP 0 rfl rfl 1 (by decide) (hts _ gm_22) (fun _ h9 => h9) rfl dX2_keep_46 ?_
    refine lv_iload (pc := 49) hx hb dX2_keep_49 (lv_at hl 0 rfl) ?_
    refine lv_iload_n (pc := 51) hx hb dX2_keep_51 rfl (lv_at hl 2 rfl) ?_
    refine qa_iast (pc := 52) (k := (Int32.toNatClampNeg mCnt)) hx hb hK hP hD hS 2 0 rfl rfl rfl (by first | exact qa_inI ho0 ho4 | exact rg_b hc0 h11_1 (by decide)) dX2_keep_52 (fun H locs hP hD hS => ?_)
    have hP : va_P (dC, dI) vwCl (wM cI cJ qM qMw qMp qMs qMd mOld (mCnt + (1 : Int32)) mTab mSpc mW (upd mP (Int32.toNatClampNeg mCnt) z1) mS mD) H := hP
    have hD : va_D A (wM cI cJ qM qMw qMp qMs qMd mOld (mCnt + (1 : Int32)) mTab mSpc mW (upd mP (Int32.toNatClampNeg mCnt) z1) mS mD) := hD
    refine lv_aload_n (pc := 53) hx hb dX2_keep_53 rfl (lv_at hl 1 rfl) ?_
    refine va_get (D := (dC, dI)) (pc := 54) (ci := 2) (v := .ref qMs) (C := "LongMachine$Memory") (T := TX2) (N := 8) hx hb hts ui_X2 hown hK hP 0 rfl rfl 2 (by decide) (hts _ gm_23) (fun _ h9 => h9) rfl dX2_keep_54 ?_
    refine lv_iload (pc := 57) hx hb dX2_keep_57 (lv_at hl 0 rfl) ?_
    refine lv_aload_n (pc := 59) hx hb dX2_keep_59 rfl (lv_at hl 1 rfl) ?_
    refine va_get (D := (dC, dI)) (pc := 60) (ci := 2) (v := .int mSpc) (C := "LongMachine$Memory") (T := TX2) (N := 8) hx hb hts ui_X2 hown hK hP 0 rfl rfl 7 (by decide) (hts _ gm_31) (fun _ h9 => h9) rfl dX2_keep_60 ?_
    refine qa_iast (pc := 63) (k := (Int32.toNatClampNeg mCnt)) hx hb hK hP hD hS 3 0 rfl rfl rfl (by first | exact qa_inI ho0 ho4 | exact rg_b hc0 h11_1 (by decide)) dX2_keep_63 (fun H locs hP hD hS => ?_)
    have hP : va_P (dC, dI) vwCl (wM cI cJ qM qMw qMp qMs qMd mOld (mCnt + (1 : Int32)) mTab mSpc mW (upd mP (Int32.toNatClampNeg mCnt) z1) (upd mS (Int32.toNatClampNeg mCnt) mSpc) mD) H := hP
    have hD : va_D A (wM cI cJ qM qMw qMp qMs qMd mOld (mCnt + (1 : Int32)) mTab mSpc mW (upd mP (Int32.toNatClampNeg mCnt) z1) (upd mS (Int32.toNatClampNeg mCnt) mSpc) mD) := hD
    refine lv_aload_n (pc := 64) hx hb dX2_keep_64 rfl (lv_at hl 1 rfl) ?_
    refine va_get (D := (dC, dI)) (pc := 65) (ci := 2) (v := .ref qMd) (C := "LongMachine$Memory") (T := TX2) (N := 8) hx hb hts ui_X2 hown hK hP 0 rfl rfl 3 (by decide) (hts _ gm_24) (fun _ h9 => h9) rfl dX2_keep_65 ?_
    refine lv_iload (pc := 68) hx hb dX2_keep_68 (lv_at hl 0 rfl) ?_
    refine lv_lload_n (pc := 70) hx hb dX2_keep_70 rfl (lv_at hl 3 rfl) ?_
    refine qa_last (pc := 71) (k := (Int32.toNatClampNeg mCnt)) hx hb hK hP hD hS 4 1 rfl rfl rfl (by first | exact qa_inI ho0 ho4 | exact rg_b hc0 h11_1 (by decide)) dX2_keep_71 (fun H locs hP hD hS => ?_)
    have hP : va_P (dC, dI) vwCl (wM cI cJ qM qMw qMp qMs qMd mOld (mCnt + (1 : Int32)) mTab mSpc mW (upd mP (Int32.toNatClampNeg mCnt) z1) (upd mS (Int32.toNatClampNeg mCnt) mSpc) (vp_updL mD (Int32.toNatClampNeg mCnt) z2)) H := hP
    have hD : va_D A (wM cI cJ qM qMw qMp qMs qMd mOld (mCnt + (1 : Int32)) mTab mSpc mW (upd mP (Int32.toNatClampNeg mCnt) z1) (upd mS (Int32.toNatClampNeg mCnt) mSpc) (vp_updL mD (Int32.toNatClampNeg mCnt) z2)) := hD
    subst hu
    exact W.vret hx hb hr (fun t ht hW => ⟨rfl, by rw [ht]; exact hP, hS.F ht⟩) hS.2.2 dX2_keep_72
set_option maxRecDepth 100000 in
set_option maxHeartbeats 4000000 in
theorem c_X2_numberOf (l : Launch) (z0 : Int64) : Met l yX2_numberOf (.code yX2_numberOf cX2_numberOf 2 (some .int) :: vG) ({ frames := 0, cells := 0, slots := 0, locals := 0 }) (va_Pc [.long z0] (fun _ => True)) (qa_det (.int ((Int64.toInt32 (jlushr z0 (32 : Int32))) &&& (15 : Int32)))) 0 0 (fun _ => False) := by
  refine Met.ofW (cc := cX2_numberOf) (maxL := 2) (ret := (some .int)) (by decide) rfl ?_
  intro p e s m args below meth c s₁ B hml hv
  obtain ⟨rfl, hv⟩ := hv
  have hx := B.exec
  have hb := B.bytes
  have hr := B.returns
  have hts : ∀ w ∈ vG, w.before _ s = true := fun w h => atoms_spec (ws := (.code yX2_numberOf cX2_numberOf 2 (some .int) :: vG)) B.pre w (List.mem_cons_of_mem _ h)
  have hown : s.vm.findClass "LongMachine$Memory" = some m.cls := findClass_of_methodNamed B.named
  have hlocks := B.notSynchronized
  have hl := lv_entry ([.long z0]) (n := 2) (Nat.le_of_ble_eq_true rfl)
  rw [lg_entry_eq]
  generalize (lg_sl ([.long z0]) ++ List.replicate (2 - (lg_sl ([.long z0])).length) Slot.unset).toArray = ls at hl ⊢
  have hl : lv_has ls 2 [(0, .long z0)] := hl
  refine lv_lload_n (pc := 0) hx hb dX2_numberOf_0 rfl (lv_at hl 0 rfl) ?_
  refine lv_bipush (pc := 1) (v := (32 : Int32)) hx hb dX2_numberOf_1 (by decide) ?_
  refine lv_lushr (pc := 3) (v := (jlushr z0 (32 : Int32))) hx hb dX2_numberOf_3 rfl ?_
  refine lv_l2i (pc := 4) (v := (Int64.toInt32 (jlushr z0 (32 : Int32)))) hx hb dX2_numberOf_4 rfl ?_
  refine lv_bipush (pc := 5) (v := (15 : Int32)) hx hb dX2_numberOf_5 (by decide) ?_
  refine lv_iand (pc := 7) hx hb dX2_numberOf_7 ?_
  exact W.iret hx hb hr (fun t ht hW => ⟨rfl, ht⟩) (fun _ h => by cases h) dX2_numberOf_8
def f_X2_walk_K95_1 (z1 : Int32) (mTab : Int32) (mW : (Nat → Int64)) (r95_1 : Int32 × Int32 × (Nat → Int32) × (Nat → Int32) × (Nat → Int64)) : Int64 × Int32 × Int32 × (Nat → Int32) × (Nat → Int32) × (Nat → Int64) := ((mW (Int32.toNatClampNeg (((32 : Int32) * ((Int64.toInt32 (jlushr (mW (Int32.toNatClampNeg (((32 : Int32) * ((Int64.toInt32 (jlushr (mW (Int32.toNatClampNeg ((mTab >>> ((3 : Int32) &&& (31 : Int32))) + ((z1 >>> ((4 : Int32) &&& (31 : Int32))) &&& (3 : Int32))))) (32 : Int32))) &&& (15 : Int32))) + ((z1 >>> ((2 : Int32) &&& (31 : Int32))) &&& (3 : Int32))))) (32 : Int32))) &&& (15 : Int32))) + (z1 &&& (3 : Int32))))), r95_1.1, r95_1.2.1, r95_1.2.2.1, r95_1.2.2.2.1, r95_1.2.2.2.2)
def f_X2_walk (z1 : Int32) (mOld : Int32) (mCnt : Int32) (mTab : Int32) (mSpc : Int32) (mW : (Nat → Int64)) (mP : (Nat → Int32)) (mS : (Nat → Int32)) (mD : (Nat → Int64)) : Int64 × Int32 × Int32 × (Nat → Int32) × (Nat → Int32) × (Nat → Int64) := (if ((mW (Int32.toNatClampNeg ((mTab >>> ((3 : Int32) &&& (31 : Int32))) + ((z1 >>> ((4 : Int32) &&& (31 : Int32))) &&& (3 : Int32))))) &&& (1 : Int64)) = (0 : Int64) then ((240 : Int64), mOld, mCnt, mP, mS, mD) else (if ((mW (Int32.toNatClampNeg (((32 : Int32) * ((Int64.toInt32 (jlushr (mW (Int32.toNatClampNeg ((mTab >>> ((3 : Int32) &&& (31 : Int32))) + ((z1 >>> ((4 : Int32) &&& (31 : Int32))) &&& (3 : Int32))))) (32 : Int32))) &&& (15 : Int32))) + ((z1 >>> ((2 : Int32) &&& (31 : Int32))) &&& (3 : Int32))))) &&& (1 : Int64)) = (0 : Int64) then ((240 : Int64), mOld, mCnt, mP, mS, mD) else (if ((mW (Int32.toNatClampNeg (((32 : Int32) * ((Int64.toInt32 (jlushr (mW (Int32.toNatClampNeg (((32 : Int32) * ((Int64.toInt32 (jlushr (mW (Int32.toNatClampNeg ((mTab >>> ((3 : Int32) &&& (31 : Int32))) + ((z1 >>> ((4 : Int32) &&& (31 : Int32))) &&& (3 : Int32))))) (32 : Int32))) &&& (15 : Int32))) + ((z1 >>> ((2 : Int32) &&& (31 : Int32))) &&& (3 : Int32))))) (32 : Int32))) &&& (15 : Int32))) + (z1 &&& (3 : Int32))))) &&& (1 : Int64)) = (0 : Int64) then ((mW (Int32.toNatClampNeg (((32 : Int32) * ((Int64.toInt32 (jlushr (mW (Int32.toNatClampNeg (((32 : Int32) * ((Int64.toInt32 (jlushr (mW (Int32.toNatClampNeg ((mTab >>> ((3 : Int32) &&& (31 : Int32))) + ((z1 >>> ((4 : Int32) &&& (31 : Int32))) &&& (3 : Int32))))) (32 : Int32))) &&& (15 : Int32))) + ((z1 >>> ((2 : Int32) &&& (31 : Int32))) &&& (3 : Int32))))) (32 : Int32))) &&& (15 : Int32))) + (z1 &&& (3 : Int32))))), mOld, mCnt, mP, mS, mD) else (f_X2_walk_K95_1 z1 mTab mW (f_X2_keep z1 (mW (Int32.toNatClampNeg (((32 : Int32) * ((Int64.toInt32 (jlushr (mW (Int32.toNatClampNeg (((32 : Int32) * ((Int64.toInt32 (jlushr (mW (Int32.toNatClampNeg ((mTab >>> ((3 : Int32) &&& (31 : Int32))) + ((z1 >>> ((4 : Int32) &&& (31 : Int32))) &&& (3 : Int32))))) (32 : Int32))) &&& (15 : Int32))) + ((z1 >>> ((2 : Int32) &&& (31 : Int32))) &&& (3 : Int32))))) (32 : Int32))) &&& (15 : Int32))) + (z1 &&& (3 : Int32))))) mOld mCnt mSpc mP mS mD)))))
set_option maxRecDepth 100000 in
set_option maxHeartbeats 4000000 in
theorem c_X2_walk (l : Launch) (dC : Nat → ClassId) (dI : Nat → Nat → Nat) (cI cJ : ClassId) (qM qMw qMp qMs qMd : Nat) (sz : Nat) (mOld : Int32) (mCnt : Int32) (mTab : Int32) (mSpc : Int32) (mW : (Nat → Int64)) (mP : (Nat → Int32)) (mS : (Nat → Int32)) (mD : (Nat → Int64)) (z1 : Int32) (hc0 : 0 ≤ mCnt.toInt) (hc4 : mCnt.toInt ≤ 4) (ho0 : 0 ≤ mOld.toInt) (ho4 : mOld.toInt < 4) (ht0 : 0 ≤ mTab.toInt) (ht1 : mTab.toInt ≤ 4064) : Met l yX2_walk (.code yX2_walk cX2_walk 8 (some .long) :: vG) ({ frames := 1, cells := 0, slots := 0, locals := 24 }) (va_Pc [.ref qM, .int z1] (qa_pre (dC, dI) vwCl (wM cI cJ qM qMw qMp qMs qMd mOld mCnt mTab mSpc mW mP mS mD) [(cI, .int), (cJ, .long)] sz)) (qa_mod (some (.long ((f_X2_walk z1 mOld mCnt mTab mSpc mW mP mS mD).1))) (dC, dI) vwCl (wM cI cJ qM qMw qMp qMs qMd ((f_X2_walk z1 mOld mCnt mTab mSpc mW mP mS mD).2.1) ((f_X2_walk z1 mOld mCnt mTab mSpc mW mP mS mD).2.2.1) mTab mSpc mW ((f_X2_walk z1 mOld mCnt mTab mSpc mW mP mS mD).2.2.2.1) ((f_X2_walk z1 mOld mCnt mTab mSpc mW mP mS mD).2.2.2.2.1) ((f_X2_walk z1 mOld mCnt mTab mSpc mW mP mS mD).2.2.2.2.2)) (va_A (wM cI cJ qM qMw qMp qMs qMd mOld mCnt mTab mSpc mW mP mS mD) sz)) 0 0 (va_A (wM cI cJ qM qMw qMp qMs qMd mOld mCnt mTab mSpc mW mP mS mD) sz) := by
  refine Met.ofW (cc := cX2_walk) (maxL := 8) (ret := (some .long)) (by decide) rfl ?_
  intro p e s m args below meth c s₁ B hml hv
  obtain ⟨rfl, hsz, hP, hK, hD0⟩ := hv
  have hx := B.exec
  have hb := B.bytes
  have hr := B.returns
  have hts : ∀ w ∈ vG, w.before _ s = true := fun w h => atoms_spec (ws := (.code yX2_walk cX2_walk 8 (some .long) :: vG)) B.pre w (List.mem_cons_of_mem _ h)
  have hown : s.vm.findClass "LongMachine$Memory" = some m.cls := findClass_of_methodNamed B.named
  have hlocks := B.notSynchronized
  subst hsz
  have hD := hD0.self (sz := s.heap.size)
  generalize hAe : va_A (wM cI cJ qM qMw qMp qMs qMd mOld mCnt mTab mSpc mW mP mS mD) s.heap.size = A at hD ⊢
  have hA : ∀ q : Nat, s.heap.size ≤ q → A q := fun q h => by rw [← hAe]; exact Or.inr h
  have hS : va_S A s.heap s.heap [] := va_S.rf
  have hl := lv_entry ([.ref qM, .int z1]) (n := 8) (Nat.le_of_ble_eq_true rfl)
  rw [lg_entry_eq]
  generalize (lg_sl ([.ref qM, .int z1]) ++ List.replicate (8 - (lg_sl ([.ref qM, .int z1])).length) Slot.unset).toArray = ls at hl ⊢
  have hl : lv_has ls 8 [(0, .ref qM), (1, .int z1)] := hl
  obtain ⟨u, hu⟩ : ∃ u, u = f_X2_walk z1 mOld mCnt mTab mSpc mW mP mS mD := ⟨_, rfl⟩
  rw [← hu]
  unfold f_X2_walk at hu
  refine lv_aload_n (pc := 0) hx hb dX2_walk_0 rfl (lv_at hl 0 rfl) ?_
  refine va_get (D := (dC, dI)) (pc := 1) (ci := 2) (v := .ref qMw) (C := "LongMachine$Memory") (T := TX2) (N := 8) hx hb hts ui_X2 hown hK hP 0 rfl rfl 0 (by decide) (hts _ gm_20) (fun _ h9 => h9) rfl dX2_walk_1 ?_
  refine lv_aload_n (pc := 4) hx hb dX2_walk_4 rfl (lv_at hl 0 rfl) ?_
  refine va_get (D := (dC, dI)) (pc := 5) (ci := 2) (v := .int mTab) (C := "LongMachine$Memory") (T := TX2) (N := 8) hx hb hts ui_X2 hown hK hP 0 rfl rfl 6 (by decide) (hts _ gm_29) (fun _ h9 => h9) rfl dX2_walk_5 ?_
  refine lv_iconst (pc := 8) (v := (3 : Int32)) hx hb dX2_walk_8 (by decide) ?_
  refine lv_ishr (pc := 9) hx hb dX2_walk_9 ?_
  refine lv_iload_n (pc := 10) hx hb dX2_walk_10 rfl (lv_at hl 1 rfl) ?_
  refine lv_iconst (pc := 11) (v := (4 : Int32)) hx hb dX2_walk_11 (by decide) ?_
  refine lv_ishr (pc := 12) hx hb dX2_walk_12 ?_
  refine lv_iconst (pc := 13) (v := (3 : Int32)) hx hb dX2_walk_13 (by decide) ?_
  refine lv_iand (pc := 14) hx hb dX2_walk_14 ?_
  refine lv_iadd (pc := 15) hx hb dX2_walk_15 ?_
  refine qa_lald (pc := 16) (k := (Int32.toNatClampNeg ((mTab >>> ((3 : Int32) &&& (31 : Int32))) + ((z1 >>> ((4 : Int32) &&& (31 : Int32))) &&& (3 : Int32))))) hx hb hK hP 1 1 rfl rfl rfl (rg_w1 _ ht0 ht1) dX2_walk_16 ?_
  refine lv_lstore_n (pc := 17) (lv' := [(2, .long (mW (Int32.toNatClampNeg ((mTab >>> ((3 : Int32) &&& (31 : Int32))) + ((z1 >>> ((4 : Int32) &&& (31 : Int32))) &&& (3 : Int32)))))), (0, .ref qM), (1, .int z1)]) hx hb dX2_walk_17 rfl hl (by decide) rfl (fun ls hl => ?_)
  refine lv_lload_n (pc := 18) hx hb dX2_walk_18 rfl (lv_at hl 0 rfl) ?_
  refine lv_lconst (pc := 19) (v := (1 : Int64)) hx hb dX2_walk_19 (by decide) ?_
  refine lv_land (pc := 20) hx hb dX2_walk_20 ?_
  refine lv_lconst (pc := 21) (v := (0 : Int64)) hx hb dX2_walk_21 (by decide) ?_
  refine qa_lc_ne (pc := 22) (tgt := 30) hx hb dX2_walk_22 dX2_walk_23 (by decide) (fun h22_1 => ?_) (fun h22_1 => ?_)
  · have hu := hu.trans (if_neg h22_1)
    refine lv_aload_n (pc := 30) hx hb dX2_walk_30 rfl (lv_at hl 1 rfl) ?_
    refine va_get (D := (dC, dI)) (pc := 31) (ci := 2) (v := .ref qMw) (C := "LongMachine$Memory") (T := TX2) (N := 8) hx hb hts ui_X2 hown hK hP 0 rfl rfl 0 (by decide) (hts _ gm_20) (fun _ h9 => h9) rfl dX2_walk_31 ?_
    refine lv_bipush (pc := 34) (v := (32 : Int32)) hx hb dX2_walk_34 (by decide) ?_
    refine lv_lload_n (pc := 36) hx hb dX2_walk_36 rfl (lv_at hl 0 rfl) ?_
    refine qa_calld (pc := 37) (v := .int ((Int64.toInt32 (jlushr (mW (Int32.toNatClampNeg ((mTab >>> ((3 : Int32) &&& (31 : Int32))) + ((z1 >>> ((4 : Int32) &&& (31 : Int32))) &&& (3 : Int32))))) (32 : Int32))) &&& (15 : Int32))) (va_runS (As := [.long (mW (Int32.toNatClampNeg ((mTab >>> ((3 : Int32) &&& (31 : Int32))) + ((z1 >>> ((4 : Int32) &&& (31 : Int32))) &&& (3 : Int32)))))]) (rest := [.int (32 : Int32), .ref qMw]) ⟨hx, hb, hml, hown, hts⟩ (c_X2_numberOf l (mW (Int32.toNatClampNeg ((mTab >>> ((3 : Int32) &&& (31 : Int32))) + ((z1 >>> ((4 : Int32) &&& (31 : Int32))) &&& (3 : Int32)))))) (va_cwS 1 hts (gd_S gm_189 gm_187 gm_188 gm_2) rfl rfl rfl (by decide +kernel) ⟨Nat.le_of_ble_eq_true rfl, Nat.le_of_ble_eq_true rfl⟩) qa_S0 rfl rfl hl.1 rfl (lv_room (Nat.le_of_ble_eq_true rfl)) dX2_walk_37 ⟨Nat.zero_le _, Nat.zero_le _⟩) ?_
    refine lv_imul (pc := 40) hx hb dX2_walk_40 ?_
    refine lv_iload_n (pc := 41) hx hb dX2_walk_41 rfl (lv_at hl 2 rfl) ?_
    refine lv_iconst (pc := 42) (v := (2 : Int32)) hx hb dX2_walk_42 (by decide) ?_
    refine lv_ishr (pc := 43) hx hb dX2_walk_43 ?_
    refine lv_iconst (pc := 44) (v := (3 : Int32)) hx hb dX2_walk_44 (by decide) ?_
    refine lv_iand (pc := 45) hx hb dX2_walk_45 ?_
    refine lv_iadd (pc := 46) hx hb dX2_walk_46 ?_
    refine qa_lald (pc := 47) (k := (Int32.toNatClampNeg (((32 : Int32) * ((Int64.toInt32 (jlushr (mW (Int32.toNatClampNeg ((mTab >>> ((3 : Int32) &&& (31 : Int32))) + ((z1 >>> ((4 : Int32) &&& (31 : Int32))) &&& (3 : Int32))))) (32 : Int32))) &&& (15 : Int32))) + ((z1 >>> ((2 : Int32) &&& (31 : Int32))) &&& (3 : Int32))))) hx hb hK hP 1 1 rfl rfl rfl (rg_w2 _ _) dX2_walk_47 ?_
    refine lv_lstore (pc := 48) (lv' := [(4, .long (mW (Int32.toNatClampNeg (((32 : Int32) * ((Int64.toInt32 (jlushr (mW (Int32.toNatClampNeg ((mTab >>> ((3 : Int32) &&& (31 : Int32))) + ((z1 >>> ((4 : Int32) &&& (31 : Int32))) &&& (3 : Int32))))) (32 : Int32))) &&& (15 : Int32))) + ((z1 >>> ((2 : Int32) &&& (31 : Int32))) &&& (3 : Int32)))))), (2, .long (mW (Int32.toNatClampNeg ((mTab >>> ((3 : Int32) &&& (31 : Int32))) + ((z1 >>> ((4 : Int32) &&& (31 : Int32))) &&& (3 : Int32)))))), (0, .ref qM), (1, .int z1)]) hx hb dX2_walk_48 hl (by decide) rfl (fun ls hl => ?_)
    refine lv_lload (pc := 50) hx hb dX2_walk_50 (lv_at hl 0 rfl) ?_
    refine lv_lconst (pc := 52) (v := (1 : Int64)) hx hb dX2_walk_52 (by decide) ?_
    refine lv_land (pc := 53) hx hb dX2_walk_53 ?_
    refine lv_lconst (pc := 54) (v := (0 : Int64)) hx hb dX2_walk_54 (by decide) ?_
    refine qa_lc_ne (pc := 55) (tgt := 63) hx hb dX2_walk_55 dX2_walk_56 (by decide) (fun h55_2 => ?_) (fun h55_2 => ?_)
    · have hu := hu.trans (if_neg h55_2)
      refine lv_aload_n (pc := 63) hx hb dX2_walk_63 rfl (lv_at hl 2 rfl) ?_
      refine va_get (D := (dC, dI)) (pc := 64) (ci := 2) (v := .ref qMw) (C := "LongMachine$Memory") (T := TX2) (N := 8) hx hb hts ui_X2 hown hK hP 0 rfl rfl 0 (by decide) (hts _ gm_20) (fun _ h9 => h9) rfl dX2_walk_64 ?_
      refine lv_bipush (pc := 67) (v := (32 : Int32)) hx hb dX2_walk_67 (by decide) ?_
      refine lv_lload (pc := 69) hx hb dX2_walk_69 (lv_at hl 0 rfl) ?_
      refine qa_calld (pc := 71) (v := .int ((Int64.toInt32 (jlushr (mW (Int32.toNatClampNeg (((32 : Int32) * ((Int64.toInt32 (jlushr (mW (Int32.toNatClampNeg ((mTab >>> ((3 : Int32) &&& (31 : Int32))) + ((z1 >>> ((4 : Int32) &&& (31 : Int32))) &&& (3 : Int32))))) (32 : Int32))) &&& (15 : Int32))) + ((z1 >>> ((2 : Int32) &&& (31 : Int32))) &&& (3 : Int32))))) (32 : Int32))) &&& (15 : Int32))) (va_runS (As := [.long (mW (Int32.toNatClampNeg (((32 : Int32) * ((Int64.toInt32 (jlushr (mW (Int32.toNatClampNeg ((mTab >>> ((3 : Int32) &&& (31 : Int32))) + ((z1 >>> ((4 : Int32) &&& (31 : Int32))) &&& (3 : Int32))))) (32 : Int32))) &&& (15 : Int32))) + ((z1 >>> ((2 : Int32) &&& (31 : Int32))) &&& (3 : Int32)))))]) (rest := [.int (32 : Int32), .ref qMw]) ⟨hx, hb, hml, hown, hts⟩ (c_X2_numberOf l (mW (Int32.toNatClampNeg (((32 : Int32) * ((Int64.toInt32 (jlushr (mW (Int32.toNatClampNeg ((mTab >>> ((3 : Int32) &&& (31 : Int32))) + ((z1 >>> ((4 : Int32) &&& (31 : Int32))) &&& (3 : Int32))))) (32 : Int32))) &&& (15 : Int32))) + ((z1 >>> ((2 : Int32) &&& (31 : Int32))) &&& (3 : Int32)))))) (va_cwS 1 hts (gd_S gm_189 gm_187 gm_188 gm_2) rfl rfl rfl (by decide +kernel) ⟨Nat.le_of_ble_eq_true rfl, Nat.le_of_ble_eq_true rfl⟩) qa_S0 rfl rfl hl.1 rfl (lv_room (Nat.le_of_ble_eq_true rfl)) dX2_walk_71 ⟨Nat.zero_le _, Nat.zero_le _⟩) ?_
      refine lv_imul (pc := 74) hx hb dX2_walk_74 ?_
      refine lv_iload_n (pc := 75) hx hb dX2_walk_75 rfl (lv_at hl 3 rfl) ?_
      refine lv_iconst (pc := 76) (v := (3 : Int32)) hx hb dX2_walk_76 (by decide) ?_
      refine lv_iand (pc := 77) hx hb dX2_walk_77 ?_
      refine lv_iadd (pc := 78) hx hb dX2_walk_78 ?_
      refine qa_lald (pc := 79) (k := (Int32.toNatClampNeg (((32 : Int32) * ((Int64.toInt32 (jlushr (mW (Int32.toNatClampNeg (((32 : Int32) * ((Int64.toInt32 (jlushr (mW (Int32.toNatClampNeg ((mTab >>> ((3 : Int32) &&& (31 : Int32))) + ((z1 >>> ((4 : Int32) &&& (31 : Int32))) &&& (3 : Int32))))) (32 : Int32))) &&& (15 : Int32))) + ((z1 >>> ((2 : Int32) &&& (31 : Int32))) &&& (3 : Int32))))) (32 : Int32))) &&& (15 : Int32))) + (z1 &&& (3 : Int32))))) hx hb hK hP 1 1 rfl rfl rfl (rg_w2 _ _) dX2_walk_79 ?_
      refine lv_lstore (pc := 80) (lv' := [(6, .long (mW (Int32.toNatClampNeg (((32 : Int32) * ((Int64.toInt32 (jlushr (mW (Int32.toNatClampNeg (((32 : Int32) * ((Int64.toInt32 (jlushr (mW (Int32.toNatClampNeg ((mTab >>> ((3 : Int32) &&& (31 : Int32))) + ((z1 >>> ((4 : Int32) &&& (31 : Int32))) &&& (3 : Int32))))) (32 : Int32))) &&& (15 : Int32))) + ((z1 >>> ((2 : Int32) &&& (31 : Int32))) &&& (3 : Int32))))) (32 : Int32))) &&& (15 : Int32))) + (z1 &&& (3 : Int32)))))), (4, .long (mW (Int32.toNatClampNeg (((32 : Int32) * ((Int64.toInt32 (jlushr (mW (Int32.toNatClampNeg ((mTab >>> ((3 : Int32) &&& (31 : Int32))) + ((z1 >>> ((4 : Int32) &&& (31 : Int32))) &&& (3 : Int32))))) (32 : Int32))) &&& (15 : Int32))) + ((z1 >>> ((2 : Int32) &&& (31 : Int32))) &&& (3 : Int32)))))), (2, .long (mW (Int32.toNatClampNeg ((mTab >>> ((3 : Int32) &&& (31 : Int32))) + ((z1 >>> ((4 : Int32) &&& (31 : Int32))) &&& (3 : Int32)))))), (0, .ref qM), (1, .int z1)]) hx hb dX2_walk_80 hl (by decide) rfl (fun ls hl => ?_)
      refine lv_lload (pc := 82) hx hb dX2_walk_82 (lv_at hl 0 rfl) ?_
      refine lv_lconst (pc := 84) (v := (1 : Int64)) hx hb dX2_walk_84 (by decide) ?_
      refine lv_land (pc := 85) hx hb dX2_walk_85 ?_
      refine lv_lconst (pc := 86) (v := (0 : Int64)) hx hb dX2_walk_86 (by decide) ?_
      refine qa_lc_eq (pc := 87) (tgt := 98) hx hb dX2_walk_87 dX2_walk_88 (by decide) (fun h87_3 => ?_) (fun h87_3 => ?_)
      · have hu := hu.trans (if_pos h87_3)
        refine lv_lload (pc := 98) hx hb dX2_walk_98 (lv_at hl 0 rfl) ?_
        subst hu
        exact W.lret hx hb hr (fun t ht hW => ⟨rfl, by rw [ht]; exact hP, hS.F ht⟩) hS.2.2 dX2_walk_100
      · have hu := hu.trans (if_neg h87_3)
        refine lv_aload_n (pc := 91) hx hb dX2_walk_91 rfl (lv_at hl 3 rfl) ?_
        refine lv_iload_n (pc := 92) hx hb dX2_walk_92 rfl (lv_at hl 4 rfl) ?_
        refine lv_lload (pc := 93) hx hb dX2_walk_93 (lv_at hl 0 rfl) ?_
        have hc := c_X2_keep l dC dI cI cJ qM qMw qMp qMs qMd s.heap.size mOld mCnt mTab mSpc mW mP mS mD z1 (mW (Int32.toNatClampNeg (((32 : Int32) * ((Int64.toInt32 (jlushr (mW (Int32.toNatClampNeg (((32 : Int32) * ((Int64.toInt32 (jlushr (mW (Int32.toNatClampNeg ((mTab >>> ((3 : Int32) &&& (31 : Int32))) + ((z1 >>> ((4 : Int32) &&& (31 : Int32))) &&& (3 : Int32))))) (32 : Int32))) &&& (15 : Int32))) + ((z1 >>> ((2 : Int32) &&& (31 : Int32))) &&& (3 : Int32))))) (32 : Int32))) &&& (15 : Int32))) + (z1 &&& (3 : Int32))))) (hc0) (hc4) (ho0) (ho4)
        generalize er95_1 : f_X2_keep z1 (mW (Int32.toNatClampNeg (((32 : Int32) * ((Int64.toInt32 (jlushr (mW (Int32.toNatClampNeg (((32 : Int32) * ((Int64.toInt32 (jlushr (mW (Int32.toNatClampNeg ((mTab >>> ((3 : Int32) &&& (31 : Int32))) + ((z1 >>> ((4 : Int32) &&& (31 : Int32))) &&& (3 : Int32))))) (32 : Int32))) &&& (15 : Int32))) + ((z1 >>> ((2 : Int32) &&& (31 : Int32))) &&& (3 : Int32))))) (32 : Int32))) &&& (15 : Int32))) + (z1 &&& (3 : Int32))))) mOld mCnt mSpc mP mS mD = r95_1 at hu hc
        unfold f_X2_walk_K95_1 at hu
        refine qa_callv (pc := 95) (wr := []) (wf := (wM cI cJ qM qMw qMp qMs qMd r95_1.1 r95_1.2.1 mTab mSpc mW r95_1.2.2.1 r95_1.2.2.2.1 r95_1.2.2.2.2)) (va_runV (As := [.int z1, .long (mW (Int32.toNatClampNeg (((32 : Int32) * ((Int64.toInt32 (jlushr (mW (Int32.toNatClampNeg (((32 : Int32) * ((Int64.toInt32 (jlushr (mW (Int32.toNatClampNeg ((mTab >>> ((3 : Int32) &&& (31 : Int32))) + ((z1 >>> ((4 : Int32) &&& (31 : Int32))) &&& (3 : Int32))))) (32 : Int32))) &&& (15 : Int32))) + ((z1 >>> ((2 : Int32) &&& (31 : Int32))) &&& (3 : Int32))))) (32 : Int32))) &&& (15 : Int32))) + (z1 &&& (3 : Int32)))))]) (rest := []) ⟨hx, hb, hml, hown, hts⟩ hc (cwV 2 hts (gd_V gm_192 gm_190 gm_191 gm_553 gm_2) rfl rfl rfl (by decide +kernel) ⟨Nat.le_of_ble_eq_true rfl, Nat.le_of_ble_eq_true rfl⟩) (qa_VM (q0 := 0) (q := ("LongMachine$Memory", TX2, 8)) hK hP rfl rfl hP hD) rfl rfl hl.1 rfl (lv_room (Nat.le_of_ble_eq_true rfl)) dX2_walk_95 ⟨Nat.zero_le _, Nat.zero_le _⟩) hP hD hS hA [0, 1, 2, 3, 4] [] [0, 1, 2, 3, 4] rfl (by decide) rfl (by decide) (by decide) rfl rfl (by decide) (fun H locs hP hD hS => ?_)
        refine lv_lload (pc := 98) hx hb dX2_walk_98 (lv_at hl 0 rfl) ?_
        subst hu
        exact W.lret hx hb hr (fun t ht hW => ⟨rfl, by rw [ht]; exact hP, hS.F ht⟩) hS.2.2 dX2_walk_100
    · have hu := hu.trans (if_pos h55_2)
      refine lv_ldc2 (pc := 59) (v := (240 : Int64)) hx hb hown (hts _ gm_186) dX2_walk_59 ?_
      subst hu
      exact W.lret hx hb hr (fun t ht hW => ⟨rfl, by rw [ht]; exact hP, hS.F ht⟩) hS.2.2 dX2_walk_62
  · have hu := hu.trans (if_pos h22_1)
    refine lv_ldc2 (pc := 26) (v := (240 : Int64)) hx hb hown (hts _ gm_186) dX2_walk_26 ?_
    subst hu
    exact W.lret hx hb hr (fun t ht hW => ⟨rfl, by rw [ht]; exact hP, hS.F ht⟩) hS.2.2 dX2_walk_29
def f_X2_faultIn (z0 : Int64) (z2 : Int32) (z3 : Int32) : Int32 := (if (((Int64.toInt32 z0) >>> (((if z2 = (1 : Int32) then (6 : Int32) else (4 : Int32)) + z3) &&& (31 : Int32))) &&& (1 : Int32)) = (0 : Int32) then (1 : Int32) else (if ((Int64.toInt32 z0) &&& (1 : Int32)) = (0 : Int32) then (0 : Int32) else (if z2 = (0 : Int32) then (if ((Int64.toInt32 z0) &&& (2 : Int32)) = (0 : Int32) then (-1 : Int32) else (3 : Int32)) else (if z2 = (1 : Int32) then (if ((Int64.toInt32 z0) &&& (4 : Int32)) = (0 : Int32) then (-1 : Int32) else (4 : Int32)) else (if ((Int64.toInt32 z0) &&& (8 : Int32)) = (0 : Int32) then (-1 : Int32) else (2 : Int32))))))
set_option maxRecDepth 100000 in
set_option maxHeartbeats 4000000 in
theorem c_X2_faultIn (l : Launch) (z0 : Int64) (z2 : Int32) (z3 : Int32) : Met l yX2_faultIn (.code yX2_faultIn cX2_faultIn 6 (some .int) :: vG) ({ frames := 0, cells := 0, slots := 0, locals := 0 }) (va_Pc [.long z0, .int z2, .int z3] (fun _ => True)) (qa_det (.int (f_X2_faultIn z0 z2 z3))) 0 0 (fun _ => False) := by
  refine Met.ofW (cc := cX2_faultIn) (maxL := 6) (ret := (some .int)) (by decide) rfl ?_
  intro p e s m args below meth c s₁ B hml hv
  obtain ⟨rfl, hv⟩ := hv
  have hx := B.exec
  have hb := B.bytes
  have hr := B.returns
  have hts : ∀ w ∈ vG, w.before _ s = true := fun w h => atoms_spec (ws := (.code yX2_faultIn cX2_faultIn 6 (some .int) :: vG)) B.pre w (List.mem_cons_of_mem _ h)
  have hown : s.vm.findClass "LongMachine$Memory" = some m.cls := findClass_of_methodNamed B.named
  have hlocks := B.notSynchronized
  have hl := lv_entry ([.long z0, .int z2, .int z3]) (n := 6) (Nat.le_of_ble_eq_true rfl)
  rw [lg_entry_eq]
  generalize (lg_sl ([.long z0, .int z2, .int z3]) ++ List.replicate (6 - (lg_sl ([.long z0, .int z2, .int z3])).length) Slot.unset).toArray = ls at hl ⊢
  have hl : lv_has ls 6 [(0, .long z0), (2, .int z2), (3, .int z3)] := hl
  obtain ⟨u, hu⟩ : ∃ u, u = f_X2_faultIn z0 z2 z3 := ⟨_, rfl⟩
  rw [← hu]
  unfold f_X2_faultIn at hu
  refine lv_lload_n (pc := 0) hx hb dX2_faultIn_0 rfl (lv_at hl 0 rfl) ?_
  refine lv_l2i (pc := 1) (v := (Int64.toInt32 z0)) hx hb dX2_faultIn_1 rfl ?_
  refine lv_istore (pc := 2) (lv' := [(4, .int (Int64.toInt32 z0)), (0, .long z0), (2, .int z2), (3, .int z3)]) hx hb dX2_faultIn_2 hl (by decide) rfl (fun ls hl => ?_)
  refine lv_iload_n (pc := 4) hx hb dX2_faultIn_4 rfl (lv_at hl 2 rfl) ?_
  refine lv_iconst (pc := 5) (v := (1 : Int32)) hx hb dX2_faultIn_5 (by decide) ?_
  refine qa_joini (J := 15) (ls2 := ls) (rest2 := []) (if z2 = (1 : Int32) then (6 : Int32) else (4 : Int32)) (fun hj15 => ?_) ?_
  · refine lv_icmp_ne (pc := 6) (tgt := 14) hx hb dX2_faultIn_6 (by decide) (fun h6_1 => ?_) (fun h6_1 => ?_)
    · refine lv_iconst (pc := 14) (v := (4 : Int32)) hx hb dX2_faultIn_14 (by decide) ?_
      exact hj15 _ (Eq.symm (if_neg h6_1))
    · refine lv_bipush (pc := 9) (v := (6 : Int32)) hx hb dX2_faultIn_9 (by decide) ?_
      refine lv_goto (pc := 11) (tgt := 15) hx hb dX2_faultIn_11 (by decide) ?_
      exact hj15 _ (Eq.symm (if_pos h6_1))
  refine lv_iload_n (pc := 15) hx hb dX2_faultIn_15 rfl (lv_at hl 3 rfl) ?_
  refine lv_iadd (pc := 16) hx hb dX2_faultIn_16 ?_
  refine lv_istore (pc := 17) (lv' := [(5, .int ((if z2 = (1 : Int32) then (6 : Int32) else (4 : Int32)) + z3)), (4, .int (Int64.toInt32 z0)), (0, .long z0), (2, .int z2), (3, .int z3)]) hx hb dX2_faultIn_17 hl (by decide) rfl (fun ls hl => ?_)
  refine lv_iload (pc := 19) hx hb dX2_faultIn_19 (lv_at hl 1 rfl) ?_
  refine lv_iload (pc := 21) hx hb dX2_faultIn_21 (lv_at hl 0 rfl) ?_
  refine lv_ishr (pc := 23) hx hb dX2_faultIn_23 ?_
  refine lv_iconst (pc := 24) (v := (1 : Int32)) hx hb dX2_faultIn_24 (by decide) ?_
  refine lv_iand (pc := 25) hx hb dX2_faultIn_25 ?_
  refine lv_if_ne (pc := 26) (tgt := 31) hx hb dX2_faultIn_26 (by decide) (fun h26_2 => ?_) (fun h26_2 => ?_)
  · have hu := hu.trans (if_neg h26_2)
    refine lv_iload (pc := 31) hx hb dX2_faultIn_31 (lv_at hl 1 rfl) ?_
    refine lv_iconst (pc := 33) (v := (1 : Int32)) hx hb dX2_faultIn_33 (by decide) ?_
    refine lv_iand (pc := 34) hx hb dX2_faultIn_34 ?_
    refine lv_if_ne (pc := 35) (tgt := 40) hx hb dX2_faultIn_35 (by decide) (fun h35_3 => ?_) (fun h35_3 => ?_)
    · have hu := hu.trans (if_neg h35_3)
      refine lv_iload_n (pc := 40) hx hb dX2_faultIn_40 rfl (lv_at hl 3 rfl) ?_
      rcases Decidable.em (z2 = (0 : Int32)) with h41_4 | h41_4
      · have hu := hu.trans (if_pos h41_4)
        refine lv_lookup (pc := 41) (tgt := 68) (off := 27) hx hb dX2_faultIn_41 (by decide) (by rw [h41_4]; decide) (by decide) ?_
        refine lv_iload (pc := 68) hx hb dX2_faultIn_68 (lv_at hl 1 rfl) ?_
        refine lv_iconst (pc := 70) (v := (2 : Int32)) hx hb dX2_faultIn_70 (by decide) ?_
        refine lv_iand (pc := 71) hx hb dX2_faultIn_71 ?_
        refine qa_joini (J := 80) (ls2 := ls) (rest2 := []) (if ((Int64.toInt32 z0) &&& (2 : Int32)) = (0 : Int32) then (-1 : Int32) else (3 : Int32)) (fun hj80 => ?_) ?_
        · refine lv_if_eq (pc := 72) (tgt := 79) hx hb dX2_faultIn_72 (by decide) (fun h72_5 => ?_) (fun h72_5 => ?_)
          · refine lv_iconst (pc := 79) (v := (-1 : Int32)) hx hb dX2_faultIn_79 (by decide) ?_
            exact hj80 _ (Eq.symm (if_pos h72_5))
          · refine lv_iconst (pc := 75) (v := (3 : Int32)) hx hb dX2_faultIn_75 (by decide) ?_
            refine lv_goto (pc := 76) (tgt := 80) hx hb dX2_faultIn_76 (by decide) ?_
            exact hj80 _ (Eq.symm (if_neg h72_5))
        subst hu
        exact W.iret hx hb hr (fun t ht hW => ⟨rfl, ht⟩) (fun _ h => by cases h) dX2_faultIn_80
      · have hu := hu.trans (if_neg h41_4)
        have n41_0 : ¬ z2 = (0 : Int32) := h41_4
        rcases Decidable.em (z2 = (1 : Int32)) with h41_6 | h41_6
        · have hu := hu.trans (if_pos h41_6)
          refine lv_lookup (pc := 41) (tgt := 81) (off := 40) hx hb dX2_faultIn_41 (by decide) (by rw [h41_6]; decide) (by decide) ?_
          refine lv_iload (pc := 81) hx hb dX2_faultIn_81 (lv_at hl 1 rfl) ?_
          refine lv_iconst (pc := 83) (v := (4 : Int32)) hx hb dX2_faultIn_83 (by decide) ?_
          refine lv_iand (pc := 84) hx hb dX2_faultIn_84 ?_
          refine qa_joini (J := 93) (ls2 := ls) (rest2 := []) (if ((Int64.toInt32 z0) &&& (4 : Int32)) = (0 : Int32) then (-1 : Int32) else (4 : Int32)) (fun hj93 => ?_) ?_
          · refine lv_if_eq (pc := 85) (tgt := 92) hx hb dX2_faultIn_85 (by decide) (fun h85_7 => ?_) (fun h85_7 => ?_)
            · refine lv_iconst (pc := 92) (v := (-1 : Int32)) hx hb dX2_faultIn_92 (by decide) ?_
              exact hj93 _ (Eq.symm (if_pos h85_7))
            · refine lv_iconst (pc := 88) (v := (4 : Int32)) hx hb dX2_faultIn_88 (by decide) ?_
              refine lv_goto (pc := 89) (tgt := 93) hx hb dX2_faultIn_89 (by decide) ?_
              exact hj93 _ (Eq.symm (if_neg h85_7))
          subst hu
          exact W.iret hx hb hr (fun t ht hW => ⟨rfl, ht⟩) (fun _ h => by cases h) dX2_faultIn_93
        · have hu := hu.trans (if_neg h41_6)
          have n41_1 : ¬ z2 = (1 : Int32) := h41_6
          refine lv_lookup (pc := 41) (tgt := 94) (off := 53) hx hb dX2_faultIn_41 (by decide) ((lv_osw n41_0 (by decide)).trans ((lv_osw n41_1 (by decide)).trans (rfl))) (by decide) ?_
          refine lv_iload (pc := 94) hx hb dX2_faultIn_94 (lv_at hl 1 rfl) ?_
          refine lv_bipush (pc := 96) (v := (8 : Int32)) hx hb dX2_faultIn_96 (by decide) ?_
          refine lv_iand (pc := 98) hx hb dX2_faultIn_98 ?_
          refine qa_joini (J := 107) (ls2 := ls) (rest2 := []) (if ((Int64.toInt32 z0) &&& (8 : Int32)) = (0 : Int32) then (-1 : Int32) else (2 : Int32)) (fun hj107 => ?_) ?_
          · refine lv_if_eq (pc := 99) (tgt := 106) hx hb dX2_faultIn_99 (by decide) (fun h99_8 => ?_) (fun h99_8 => ?_)
            · refine lv_iconst (pc := 106) (v := (-1 : Int32)) hx hb dX2_faultIn_106 (by decide) ?_
              exact hj107 _ (Eq.symm (if_pos h99_8))
            · refine lv_iconst (pc := 102) (v := (2 : Int32)) hx hb dX2_faultIn_102 (by decide) ?_
              refine lv_goto (pc := 103) (tgt := 107) hx hb dX2_faultIn_103 (by decide) ?_
              exact hj107 _ (Eq.symm (if_neg h99_8))
          subst hu
          exact W.iret hx hb hr (fun t ht hW => ⟨rfl, ht⟩) (fun _ h => by cases h) dX2_faultIn_107
    · have hu := hu.trans (if_pos h35_3)
      refine lv_iconst (pc := 38) (v := (0 : Int32)) hx hb dX2_faultIn_38 (by decide) ?_
      subst hu
      exact W.iret hx hb hr (fun t ht hW => ⟨rfl, ht⟩) (fun _ h => by cases h) dX2_faultIn_39
  · have hu := hu.trans (if_pos h26_2)
    refine lv_iconst (pc := 29) (v := (1 : Int32)) hx hb dX2_faultIn_29 (by decide) ?_
    subst hu
    exact W.iret hx hb hr (fun t ht hW => ⟨rfl, ht⟩) (fun _ h => by cases h) dX2_faultIn_30
def f_X2_place_K54_1 (z1 : Int64) (z3 : Int32) (z4 : Int32) (r54_1 : Int64 × Int32 × Int32 × (Nat → Int32) × (Nat → Int32) × (Nat → Int64)) : Int32 × Int32 × Int32 × (Nat → Int32) × (Nat → Int32) × (Nat → Int64) := ((if (f_X2_faultIn r54_1.1 z3 z4) < (0 : Int32) then (((256 : Int32) * ((Int64.toInt32 (jlushr r54_1.1 (32 : Int32))) &&& (15 : Int32))) + ((Int64.toInt32 z1) &&& (255 : Int32))) else ((-1 : Int32) - (f_X2_faultIn r54_1.1 z3 z4))), r54_1.2.1, r54_1.2.2.1, r54_1.2.2.2.1, r54_1.2.2.2.2.1, r54_1.2.2.2.2.2)
def f_X2_place (z1 : Int64) (z3 : Int32) (z4 : Int32) (mOld : Int32) (mCnt : Int32) (mTab : Int32) (mSpc : Int32) (mW : (Nat → Int64)) (mP : (Nat → Int32)) (mS : (Nat → Int32)) (mD : (Nat → Int64)) : Int32 × Int32 × Int32 × (Nat → Int32) × (Nat → Int32) × (Nat → Int64) := (if z1 < (0 : Int64) then ((if (if z1 < (32768 : Int64) then (0 : Int32) else (if (36864 : Int64) ≤ z1 then (0 : Int32) else (1 : Int32))) = (0 : Int32) then ((-1 : Int32) - (1 : Int32)) else (if z4 = (0 : Int32) then ((Int64.toInt32 z1) - (32768 : Int32)) else ((-1 : Int32) - (1 : Int32)))), mOld, mCnt, mP, mS, mD) else (if z1 < (16384 : Int64) then (if (f_X2_find ((Int64.toInt32 z1) >>> ((8 : Int32) &&& (31 : Int32))) mCnt mSpc mP mS) < (0 : Int32) then (f_X2_place_K54_1 z1 z3 z4 (f_X2_walk ((Int64.toInt32 z1) >>> ((8 : Int32) &&& (31 : Int32))) mOld mCnt mTab mSpc mW mP mS mD)) else ((if (f_X2_faultIn (mD (Int32.toNatClampNeg (f_X2_find ((Int64.toInt32 z1) >>> ((8 : Int32) &&& (31 : Int32))) mCnt mSpc mP mS))) z3 z4) < (0 : Int32) then (((256 : Int32) * ((Int64.toInt32 (jlushr (mD (Int32.toNatClampNeg (f_X2_find ((Int64.toInt32 z1) >>> ((8 : Int32) &&& (31 : Int32))) mCnt mSpc mP mS))) (32 : Int32))) &&& (15 : Int32))) + ((Int64.toInt32 z1) &&& (255 : Int32))) else ((-1 : Int32) - (f_X2_faultIn (mD (Int32.toNatClampNeg (f_X2_find ((Int64.toInt32 z1) >>> ((8 : Int32) &&& (31 : Int32))) mCnt mSpc mP mS))) z3 z4))), mOld, mCnt, mP, mS, mD)) else ((if (if z1 < (32768 : Int64) then (0 : Int32) else (if (36864 : Int64) ≤ z1 then (0 : Int32) else (1 : Int32))) = (0 : Int32) then ((-1 : Int32) - (1 : Int32)) else (if z4 = (0 : Int32) then ((Int64.toInt32 z1) - (32768 : Int32)) else ((-1 : Int32) - (1 : Int32)))), mOld, mCnt, mP, mS, mD)))
set_option maxRecDepth 100000 in
set_option maxHeartbeats 4000000 in
theorem c_X2_place (l : Launch) (dC : Nat → ClassId) (dI : Nat → Nat → Nat) (cI cJ : ClassId) (qM qMw qMp qMs qMd : Nat) (sz : Nat) (mOld : Int32) (mCnt : Int32) (mTab : Int32) (mSpc : Int32) (mW : (Nat → Int64)) (mP : (Nat → Int32)) (mS : (Nat → Int32)) (mD : (Nat → Int64)) (z1 : Int64) (z3 : Int32) (z4 : Int32) (hc0 : 0 ≤ mCnt.toInt) (hc4 : mCnt.toInt ≤ 4) (ho0 : 0 ≤ mOld.toInt) (ho4 : mOld.toInt < 4) (ht0 : 0 ≤ mTab.toInt) (ht1 : mTab.toInt ≤ 4064) : Met l yX2_place (.code yX2_place cX2_place 10 (some .int) :: vG) ({ frames := 2, cells := 0, slots := 0, locals := 51 }) (va_Pc [.ref qM, .long z1, .int z3, .int z4] (qa_pre (dC, dI) vwCl (wM cI cJ qM qMw qMp qMs qMd mOld mCnt mTab mSpc mW mP mS mD) [(cI, .int), (cJ, .long)] sz)) (qa_mod (some (.int ((f_X2_place z1 z3 z4 mOld mCnt mTab mSpc mW mP mS mD).1))) (dC, dI) vwCl (wM cI cJ qM qMw qMp qMs qMd ((f_X2_place z1 z3 z4 mOld mCnt mTab mSpc mW mP mS mD).2.1) ((f_X2_place z1 z3 z4 mOld mCnt mTab mSpc mW mP mS mD).2.2.1) mTab mSpc mW ((f_X2_place z1 z3 z4 mOld mCnt mTab mSpc mW mP mS mD).2.2.2.1) ((f_X2_place z1 z3 z4 mOld mCnt mTab mSpc mW mP mS mD).2.2.2.2.1) ((f_X2_place z1 z3 z4 mOld mCnt mTab mSpc mW mP mS mD).2.2.2.2.2)) (va_A (wM cI cJ qM qMw qMp qMs qMd mOld mCnt mTab mSpc mW mP mS mD) sz)) 0 0 (va_A (wM cI cJ qM qMw qMp qMs qMd mOld mCnt mTab mSpc mW mP mS mD) sz) := by
  refine Met.ofW (cc := cX2_place) (maxL := 10) (ret := (some .int)) (by decide) rfl ?_
  intro p e s m args below meth c s₁ B hml hv
  obtain ⟨rfl, hsz, hP, hK, hD0⟩ := hv
  have hx := B.exec
  have hb := B.bytes
  have hr := B.returns
  have hts : ∀ w ∈ vG, w.before _ s = true := fun w h => atoms_spec (ws := (.code yX2_place cX2_place 10 (some .int) :: vG)) B.pre w (List.mem_cons_of_mem _ h)
  have hown : s.vm.findClass "LongMachine$Memory" = some m.cls := findClass_of_methodNamed B.named
  have hlocks := B.notSynchronized
  subst hsz
  have hD := hD0.self (sz := s.heap.size)
  generalize hAe : va_A (wM cI cJ qM qMw qMp qMs qMd mOld mCnt mTab mSpc mW mP mS mD) s.heap.size = A at hD ⊢
  have hA : ∀ q : Nat, s.heap.size ≤ q → A q := fun q h => by rw [← hAe]; exact Or.inr h
  have hS : va_S A s.heap s.heap [] := va_S.rf
  have hl := lv_entry ([.ref qM, .long z1, .int z3, .int z4]) (n := 10) (Nat.le_of_ble_eq_true rfl)
  rw [lg_entry_eq]
  generalize (lg_sl ([.ref qM, .long z1, .int z3, .int z4]) ++ List.replicate (10 - (lg_sl ([.ref qM, .long z1, .int z3, .int z4])).length) Slot.unset).toArray = ls at hl ⊢
  have hl : lv_has ls 10 [(0, .ref qM), (1, .long z1), (3, .int z3), (4, .int z4)] := hl
  obtain ⟨u, hu⟩ : ∃ u, u = f_X2_place z1 z3 z4 mOld mCnt mTab mSpc mW mP mS mD := ⟨_, rfl⟩
  rw [← hu]
  unfold f_X2_place at hu
  refine lv_lload_n (pc := 0) hx hb dX2_place_0 rfl (lv_at hl 1 rfl) ?_
  refine lv_lconst (pc := 1) (v := (0 : Int64)) hx hb dX2_place_1 (by decide) ?_
  refine qa_lc_lt (pc := 2) (tgt := 14) hx hb dX2_place_2 dX2_place_3 (by decide) (fun h2_1 => ?_) (fun h2_1 => ?_)
  · have hu := hu.trans (if_pos h2_1)
    refine lv_lload_n (pc := 14) hx hb dX2_place_14 rfl (lv_at hl 1 rfl) ?_
    refine lv_iload (pc := 15) hx hb dX2_place_15 (lv_at hl 3 rfl) ?_
    refine qa_calld (pc := 17) (v := .int (if (if z1 < (32768 : Int64) then (0 : Int32) else (if (36864 : Int64) ≤ z1 then (0 : Int32) else (1 : Int32))) = (0 : Int32) then ((-1 : Int32) - (1 : Int32)) else (if z4 = (0 : Int32) then ((Int64.toInt32 z1) - (32768 : Int32)) else ((-1 : Int32) - (1 : Int32))))) (va_runS (As := [.long z1, .int z4]) (rest := []) ⟨hx, hb, hml, hown, hts⟩ (c_X2_directPlace l z1 z4) (va_cwS 2 hts (gd_S gm_173 gm_171 gm_172 gm_2) rfl rfl rfl (by decide +kernel) ⟨Nat.le_of_ble_eq_true rfl, Nat.le_of_ble_eq_true rfl⟩) qa_S0 rfl rfl hl.1 rfl (lv_room (Nat.le_of_ble_eq_true rfl)) dX2_place_17 ⟨Nat.zero_le _, Nat.zero_le _⟩) ?_
    subst hu
    exact W.iret hx hb hr (fun t ht hW => ⟨rfl, by rw [ht]; exact hP, hS.F ht⟩) hS.2.2 dX2_place_20
  · have hu := hu.trans (if_neg h2_1)
    refine lv_lload_n (pc := 6) hx hb dX2_place_6 rfl (lv_at hl 1 rfl) ?_
    refine lv_ldc2 (pc := 7) (v := (16384 : Int64)) hx hb hown (hts _ gm_170) dX2_place_7 ?_
    refine qa_lc_lt (pc := 10) (tgt := 21) hx hb dX2_place_10 dX2_place_11 (by decide) (fun h10_2 => ?_) (fun h10_2 => ?_)
    · have hu := hu.trans (if_pos h10_2)
      refine lv_lload_n (pc := 21) hx hb dX2_place_21 rfl (lv_at hl 1 rfl) ?_
      refine lv_l2i (pc := 22) (v := (Int64.toInt32 z1)) hx hb dX2_place_22 rfl ?_
      refine lv_bipush (pc := 23) (v := (8 : Int32)) hx hb dX2_place_23 (by decide) ?_
      refine lv_ishr (pc := 25) hx hb dX2_place_25 ?_
      refine lv_istore (pc := 26) (lv' := [(5, .int ((Int64.toInt32 z1) >>> ((8 : Int32) &&& (31 : Int32)))), (0, .ref qM), (1, .long z1), (3, .int z3), (4, .int z4)]) hx hb dX2_place_26 hl (by decide) rfl (fun ls hl => ?_)
      refine lv_aload_n (pc := 28) hx hb dX2_place_28 rfl (lv_at hl 1 rfl) ?_
      refine lv_iload (pc := 29) hx hb dX2_place_29 (lv_at hl 0 rfl) ?_
      refine qa_calld (pc := 31) (v := .int (f_X2_find ((Int64.toInt32 z1) >>> ((8 : Int32) &&& (31 : Int32))) mCnt mSpc mP mS)) (va_runV (As := [.int ((Int64.toInt32 z1) >>> ((8 : Int32) &&& (31 : Int32)))]) (rest := []) ⟨hx, hb, hml, hown, hts⟩ (c_X2_find l dC dI cI cJ qM qMw qMp qMs qMd mOld mCnt mTab mSpc mW mP mS mD ((Int64.toInt32 z1) >>> ((8 : Int32) &&& (31 : Int32))) (hc4)) (cwV 1 hts (gd_V gm_182 gm_180 gm_181 gm_551 gm_2) rfl rfl rfl (by decide +kernel) ⟨Nat.le_of_ble_eq_true rfl, Nat.le_of_ble_eq_true rfl⟩) (qa_VR (q0 := 0) (q := ("LongMachine$Memory", TX2, 8)) hK hP rfl rfl hP) rfl rfl hl.1 rfl (lv_room (Nat.le_of_ble_eq_true rfl)) dX2_place_31 ⟨Nat.zero_le _, Nat.zero_le _⟩) ?_
      refine lv_istore (pc := 34) (lv' := [(6, .int (f_X2_find ((Int64.toInt32 z1) >>> ((8 : Int32) &&& (31 : Int32))) mCnt mSpc mP mS)), (5, .int ((Int64.toInt32 z1) >>> ((8 : Int32) &&& (31 : Int32)))), (0, .ref qM), (1, .long z1), (3, .int z3), (4, .int z4)]) hx hb dX2_place_34 hl (by decide) rfl (fun ls hl => ?_)
      refine lv_iload (pc := 36) hx hb dX2_place_36 (lv_at hl 0 rfl) ?_
      refine lv_if_lt (pc := 38) (tgt := 51) hx hb dX2_place_38 (by decide) (fun h38_3 => ?_) (fun h38_3 => ?_)
      · have hu := hu.trans (if_pos h38_3)
        refine lv_aload_n (pc := 51) hx hb dX2_place_51 rfl (lv_at hl 2 rfl) ?_
        refine lv_iload (pc := 52) hx hb dX2_place_52 (lv_at hl 1 rfl) ?_
        have hc := c_X2_walk l dC dI cI cJ qM qMw qMp qMs qMd s.heap.size mOld mCnt mTab mSpc mW mP mS mD ((Int64.toInt32 z1) >>> ((8 : Int32) &&& (31 : Int32))) (hc0) (hc4) (ho0) (ho4) (ht0) (ht1)
        generalize er54_1 : f_X2_walk ((Int64.toInt32 z1) >>> ((8 : Int32) &&& (31 : Int32))) mOld mCnt mTab mSpc mW mP mS mD = r54_1 at hu hc
        unfold f_X2_place_K54_1 at hu
        refine qa_calll (pc := 54) (wr := []) (wf := (wM cI cJ qM qMw qMp qMs qMd r54_1.2.1 r54_1.2.2.1 mTab mSpc mW r54_1.2.2.2.1 r54_1.2.2.2.2.1 r54_1.2.2.2.2.2)) (va_runV (As := [.int ((Int64.toInt32 z1) >>> ((8 : Int32) &&& (31 : Int32)))]) (rest := []) ⟨hx, hb, hml, hown, hts⟩ hc (cwV 1 hts (gd_V gm_185 gm_183 gm_184 gm_552 gm_2) rfl rfl rfl (by decide +kernel) ⟨Nat.le_of_ble_eq_true rfl, Nat.le_of_ble_eq_true rfl⟩) (qa_VM (q0 := 0) (q := ("LongMachine$Memory", TX2, 8)) hK hP rfl rfl hP hD) rfl rfl hl.1 rfl (lv_room (Nat.le_of_ble_eq_true rfl)) dX2_place_54 ⟨Nat.zero_le _, Nat.zero_le _⟩) hP hD hS hA [0, 1, 2, 3, 4] [] [0, 1, 2, 3, 4] rfl (by decide) rfl (by decide) (by decide) rfl rfl (by decide) (fun H locs hP hD hS => ?_)
        refine lv_lstore (pc := 57) (lv' := [(7, .long r54_1.1), (6, .int (f_X2_find ((Int64.toInt32 z1) >>> ((8 : Int32) &&& (31 : Int32))) mCnt mSpc mP mS)), (5, .int ((Int64.toInt32 z1) >>> ((8 : Int32) &&& (31 : Int32)))), (0, .ref qM), (1, .long z1), (3, .int z3), (4, .int z4)]) hx hb dX2_place_57 hl (by decide) rfl (fun ls hl => ?_)
        refine lv_lload (pc := 59) hx hb dX2_place_59 (lv_at hl 0 rfl) ?_
        refine lv_iload_n (pc := 61) hx hb dX2_place_61 rfl (lv_at hl 5 rfl) ?_
        refine lv_iload (pc := 62) hx hb dX2_place_62 (lv_at hl 6 rfl) ?_
        refine qa_calld (pc := 64) (v := .int (f_X2_faultIn r54_1.1 z3 z4)) (va_runS (As := [.long r54_1.1, .int z3, .int z4]) (rest := []) ⟨hx, hb, hml, hown, hts⟩ (c_X2_faultIn l r54_1.1 z3 z4) (va_cwS 3 hts (gd_S gm_195 gm_193 gm_194 gm_2) rfl rfl rfl (by decide +kernel) ⟨Nat.le_of_ble_eq_true rfl, Nat.le_of_ble_eq_true rfl⟩) qa_S0 rfl rfl hl.1 rfl (lv_room (Nat.le_of_ble_eq_true rfl)) dX2_place_64 ⟨Nat.zero_le _, Nat.zero_le _⟩) ?_
        refine lv_istore (pc := 67) (lv' := [(9, .int (f_X2_faultIn r54_1.1 z3 z4)), (7, .long r54_1.1), (6, .int (f_X2_find ((Int64.toInt32 z1) >>> ((8 : Int32) &&& (31 : Int32))) mCnt mSpc mP mS)), (5, .int ((Int64.toInt32 z1) >>> ((8 : Int32) &&& (31 : Int32)))), (0, .ref qM), (1, .long z1), (3, .int z3), (4, .int z4)]) hx hb dX2_place_67 hl (by decide) rfl (fun ls hl => ?_)
        refine lv_iload (pc := 69) hx hb dX2_place_69 (lv_at hl 0 rfl) ?_
        refine qa_joini (J := 98) (ls2 := ls) (rest2 := []) (if (f_X2_faultIn r54_1.1 z3 z4) < (0 : Int32) then (((256 : Int32) * ((Int64.toInt32 (jlushr r54_1.1 (32 : Int32))) &&& (15 : Int32))) + ((Int64.toInt32 z1) &&& (255 : Int32))) else ((-1 : Int32) - (f_X2_faultIn r54_1.1 z3 z4))) (fun hj98 => ?_) ?_
        · refine lv_if_lt (pc := 71) (tgt := 82) hx hb dX2_place_71 (by decide) (fun h71_4 => ?_) (fun h71_4 => ?_)
          · refine lv_sipush (pc := 82) (v := (256 : Int32)) hx hb dX2_place_82 (by decide) ?_
            refine lv_lload (pc := 85) hx hb dX2_place_85 (lv_at hl 1 rfl) ?_
            refine qa_calld (pc := 87) (v := .int ((Int64.toInt32 (jlushr r54_1.1 (32 : Int32))) &&& (15 : Int32))) (va_runS (As := [.long r54_1.1]) (rest := [.int (256 : Int32)]) ⟨hx, hb, hml, hown, hts⟩ (c_X2_numberOf l r54_1.1) (va_cwS 1 hts (gd_S gm_189 gm_187 gm_188 gm_2) rfl rfl rfl (by decide +kernel) ⟨Nat.le_of_ble_eq_true rfl, Nat.le_of_ble_eq_true rfl⟩) qa_S0 rfl rfl hl.1 rfl (lv_room (Nat.le_of_ble_eq_true rfl)) dX2_place_87 ⟨Nat.zero_le _, Nat.zero_le _⟩) ?_
            refine lv_imul (pc := 90) hx hb dX2_place_90 ?_
            refine lv_lload_n (pc := 91) hx hb dX2_place_91 rfl (lv_at hl 5 rfl) ?_
            refine lv_l2i (pc := 92) (v := (Int64.toInt32 z1)) hx hb dX2_place_92 rfl ?_
            refine lv_sipush (pc := 93) (v := (255 : Int32)) hx hb dX2_place_93 (by decide) ?_
            refine lv_iand (pc := 96) hx hb dX2_place_96 ?_
            refine lv_iadd (pc := 97) hx hb dX2_place_97 ?_
            exact hj98 _ (Eq.symm (if_pos h71_4))
          · refine lv_iload (pc := 74) hx hb dX2_place_74 (lv_at hl 0 rfl) ?_
            refine qa_calld (pc := 76) (v := .int ((-1 : Int32) - (f_X2_faultIn r54_1.1 z3 z4))) (va_runS (As := [.int (f_X2_faultIn r54_1.1 z3 z4)]) (rest := []) ⟨hx, hb, hml, hown, hts⟩ (c_X2_faulted l (f_X2_faultIn r54_1.1 z3 z4)) (va_cwS 1 hts (gd_S gm_179 gm_177 gm_178 gm_2) rfl rfl rfl (by decide +kernel) ⟨Nat.le_of_ble_eq_true rfl, Nat.le_of_ble_eq_true rfl⟩) qa_S0 rfl rfl hl.1 rfl (lv_room (Nat.le_of_ble_eq_true rfl)) dX2_place_76 ⟨Nat.zero_le _, Nat.zero_le _⟩) ?_
            refine lv_goto (pc := 79) (tgt := 98) hx hb dX2_place_79 (by decide) ?_
            exact hj98 _ (Eq.symm (if_neg h71_4))
        subst hu
        exact W.iret hx hb hr (fun t ht hW => ⟨rfl, by rw [ht]; exact hP, hS.F ht⟩) hS.2.2 dX2_place_98
      · have hu := hu.trans (if_neg h38_3)
        refine lv_aload_n (pc := 41) hx hb dX2_place_41 rfl (lv_at hl 2 rfl) ?_
        refine va_get (D := (dC, dI)) (pc := 42) (ci := 2) (v := .ref qMd) (C := "LongMachine$Memory") (T := TX2) (N := 8) hx hb hts ui_X2 hown hK hP 0 rfl rfl 3 (by decide) (hts _ gm_24) (fun _ h9 => h9) rfl dX2_place_42 ?_
        refine lv_iload (pc := 45) hx hb dX2_place_45 (lv_at hl 0 rfl) ?_
        refine qa_lald (pc := 47) (k := (Int32.toNatClampNeg (f_X2_find ((Int64.toInt32 z1) >>> ((8 : Int32) &&& (31 : Int32))) mCnt mSpc mP mS))) hx hb hK hP 4 1 rfl rfl rfl (rgf_find hc4 h38_3) dX2_place_47 ?_
        refine lv_goto (pc := 48) (tgt := 57) hx hb dX2_place_48 (by decide) ?_
        refine lv_lstore (pc := 57) (lv' := [(7, .long (mD (Int32.toNatClampNeg (f_X2_find ((Int64.toInt32 z1) >>> ((8 : Int32) &&& (31 : Int32))) mCnt mSpc mP mS)))), (6, .int (f_X2_find ((Int64.toInt32 z1) >>> ((8 : Int32) &&& (31 : Int32))) mCnt mSpc mP mS)), (5, .int ((Int64.toInt32 z1) >>> ((8 : Int32) &&& (31 : Int32)))), (0, .ref qM), (1, .long z1), (3, .int z3), (4, .int z4)]) hx hb dX2_place_57 hl (by decide) rfl (fun ls hl => ?_)
        refine lv_lload (pc := 59) hx hb dX2_place_59 (lv_at hl 0 rfl) ?_
        refine lv_iload_n (pc := 61) hx hb dX2_place_61 rfl (lv_at hl 5 rfl) ?_
        refine lv_iload (pc := 62) hx hb dX2_place_62 (lv_at hl 6 rfl) ?_
        refine qa_calld (pc := 64) (v := .int (f_X2_faultIn (mD (Int32.toNatClampNeg (f_X2_find ((Int64.toInt32 z1) >>> ((8 : Int32) &&& (31 : Int32))) mCnt mSpc mP mS))) z3 z4)) (va_runS (As := [.long (mD (Int32.toNatClampNeg (f_X2_find ((Int64.toInt32 z1) >>> ((8 : Int32) &&& (31 : Int32))) mCnt mSpc mP mS))), .int z3, .int z4]) (rest := []) ⟨hx, hb, hml, hown, hts⟩ (c_X2_faultIn l (mD (Int32.toNatClampNeg (f_X2_find ((Int64.toInt32 z1) >>> ((8 : Int32) &&& (31 : Int32))) mCnt mSpc mP mS))) z3 z4) (va_cwS 3 hts (gd_S gm_195 gm_193 gm_194 gm_2) rfl rfl rfl (by decide +kernel) ⟨Nat.le_of_ble_eq_true rfl, Nat.le_of_ble_eq_true rfl⟩) qa_S0 rfl rfl hl.1 rfl (lv_room (Nat.le_of_ble_eq_true rfl)) dX2_place_64 ⟨Nat.zero_le _, Nat.zero_le _⟩) ?_
        refine lv_istore (pc := 67) (lv' := [(9, .int (f_X2_faultIn (mD (Int32.toNatClampNeg (f_X2_find ((Int64.toInt32 z1) >>> ((8 : Int32) &&& (31 : Int32))) mCnt mSpc mP mS))) z3 z4)), (7, .long (mD (Int32.toNatClampNeg (f_X2_find ((Int64.toInt32 z1) >>> ((8 : Int32) &&& (31 : Int32))) mCnt mSpc mP mS)))), (6, .int (f_X2_find ((Int64.toInt32 z1) >>> ((8 : Int32) &&& (31 : Int32))) mCnt mSpc mP mS)), (5, .int ((Int64.toInt32 z1) >>> ((8 : Int32) &&& (31 : Int32)))), (0, .ref qM), (1, .long z1), (3, .int z3), (4, .int z4)]) hx hb dX2_place_67 hl (by decide) rfl (fun ls hl => ?_)
        refine lv_iload (pc := 69) hx hb dX2_place_69 (lv_at hl 0 rfl) ?_
        refine qa_joini (J := 98) (ls2 := ls) (rest2 := []) (if (f_X2_faultIn (mD (Int32.toNatClampNeg (f_X2_find ((Int64.toInt32 z1) >>> ((8 : Int32) &&& (31 : Int32))) mCnt mSpc mP mS))) z3 z4) < (0 : Int32) then (((256 : Int32) * ((Int64.toInt32 (jlushr (mD (Int32.toNatClampNeg (f_X2_find ((Int64.toInt32 z1) >>> ((8 : Int32) &&& (31 : Int32))) mCnt mSpc mP mS))) (32 : Int32))) &&& (15 : Int32))) + ((Int64.toInt32 z1) &&& (255 : Int32))) else ((-1 : Int32) - (f_X2_faultIn (mD (Int32.toNatClampNeg (f_X2_find ((Int64.toInt32 z1) >>> ((8 : Int32) &&& (31 : Int32))) mCnt mSpc mP mS))) z3 z4))) (fun hj98 => ?_) ?_
        · refine lv_if_lt (pc := 71) (tgt := 82) hx hb dX2_place_71 (by decide) (fun h71_5 => ?_) (fun h71_5 => ?_)
          · refine lv_sipush (pc := 82) (v := (256 : Int32)) hx hb dX2_place_82 (by decide) ?_
            refine lv_lload (pc := 85) hx hb dX2_place_85 (lv_at hl 1 rfl) ?_
            refine qa_calld (pc := 87) (v := .int ((Int64.toInt32 (jlushr (mD (Int32.toNatClampNeg (f_X2_find ((Int64.toInt32 z1) >>> ((8 : Int32) &&& (31 : Int32))) mCnt mSpc mP mS))) (32 : Int32))) &&& (15 : Int32))) (va_runS (As := [.long (mD (Int32.toNatClampNeg (f_X2_find ((Int64.toInt32 z1) >>> ((8 : Int32) &&& (31 : Int32))) mCnt mSpc mP mS)))]) (rest := [.int (256 : Int32)]) ⟨hx, hb, hml, hown, hts⟩ (c_X2_numberOf l (mD (Int32.toNatClampNeg (f_X2_find ((Int64.toInt32 z1) >>> ((8 : Int32) &&& (31 : Int32))) mCnt mSpc mP mS)))) (va_cwS 1 hts (gd_S gm_189 gm_187 gm_188 gm_2) rfl rfl rfl (by decide +kernel) ⟨Nat.le_of_ble_eq_true rfl, Nat.le_of_ble_eq_true rfl⟩) qa_S0 rfl rfl hl.1 rfl (lv_room (Nat.le_of_ble_eq_true rfl)) dX2_place_87 ⟨Nat.zero_le _, Nat.zero_le _⟩) ?_
            refine lv_imul (pc := 90) hx hb dX2_place_90 ?_
            refine lv_lload_n (pc := 91) hx hb dX2_place_91 rfl (lv_at hl 5 rfl) ?_
            refine lv_l2i (pc := 92) (v := (Int64.toInt32 z1)) hx hb dX2_place_92 rfl ?_
            refine lv_sipush (pc := 93) (v := (255 : Int32)) hx hb dX2_place_93 (by decide) ?_
            refine lv_iand (pc := 96) hx hb dX2_place_96 ?_
            refine lv_iadd (pc := 97) hx hb dX2_place_97 ?_
            exact hj98 _ (Eq.symm (if_pos h71_5))
          · refine lv_iload (pc := 74) hx hb dX2_place_74 (lv_at hl 0 rfl) ?_
            refine qa_calld (pc := 76) (v := .int ((-1 : Int32) - (f_X2_faultIn (mD (Int32.toNatClampNeg (f_X2_find ((Int64.toInt32 z1) >>> ((8 : Int32) &&& (31 : Int32))) mCnt mSpc mP mS))) z3 z4))) (va_runS (As := [.int (f_X2_faultIn (mD (Int32.toNatClampNeg (f_X2_find ((Int64.toInt32 z1) >>> ((8 : Int32) &&& (31 : Int32))) mCnt mSpc mP mS))) z3 z4)]) (rest := []) ⟨hx, hb, hml, hown, hts⟩ (c_X2_faulted l (f_X2_faultIn (mD (Int32.toNatClampNeg (f_X2_find ((Int64.toInt32 z1) >>> ((8 : Int32) &&& (31 : Int32))) mCnt mSpc mP mS))) z3 z4)) (va_cwS 1 hts (gd_S gm_179 gm_177 gm_178 gm_2) rfl rfl rfl (by decide +kernel) ⟨Nat.le_of_ble_eq_true rfl, Nat.le_of_ble_eq_true rfl⟩) qa_S0 rfl rfl hl.1 rfl (lv_room (Nat.le_of_ble_eq_true rfl)) dX2_place_76 ⟨Nat.zero_le _, Nat.zero_le _⟩) ?_
            refine lv_goto (pc := 79) (tgt := 98) hx hb dX2_place_79 (by decide) ?_
            exact hj98 _ (Eq.symm (if_neg h71_5))
        subst hu
        exact W.iret hx hb hr (fun t ht hW => ⟨rfl, by rw [ht]; exact hP, hS.F ht⟩) hS.2.2 dX2_place_98
    · have hu := hu.trans (if_neg h10_2)
      refine lv_lload_n (pc := 14) hx hb dX2_place_14 rfl (lv_at hl 1 rfl) ?_
      refine lv_iload (pc := 15) hx hb dX2_place_15 (lv_at hl 3 rfl) ?_
      refine qa_calld (pc := 17) (v := .int (if (if z1 < (32768 : Int64) then (0 : Int32) else (if (36864 : Int64) ≤ z1 then (0 : Int32) else (1 : Int32))) = (0 : Int32) then ((-1 : Int32) - (1 : Int32)) else (if z4 = (0 : Int32) then ((Int64.toInt32 z1) - (32768 : Int32)) else ((-1 : Int32) - (1 : Int32))))) (va_runS (As := [.long z1, .int z4]) (rest := []) ⟨hx, hb, hml, hown, hts⟩ (c_X2_directPlace l z1 z4) (va_cwS 2 hts (gd_S gm_173 gm_171 gm_172 gm_2) rfl rfl rfl (by decide +kernel) ⟨Nat.le_of_ble_eq_true rfl, Nat.le_of_ble_eq_true rfl⟩) qa_S0 rfl rfl hl.1 rfl (lv_room (Nat.le_of_ble_eq_true rfl)) dX2_place_17 ⟨Nat.zero_le _, Nat.zero_le _⟩) ?_
      subst hu
      exact W.iret hx hb hr (fun t ht hW => ⟨rfl, by rw [ht]; exact hP, hS.F ht⟩) hS.2.2 dX2_place_20
end
section
set_option maxRecDepth 100000 in
set_option maxHeartbeats 4000000 in
theorem c_X3_sx (l : Launch) (z0 : Int64) : Met l yX3_sx (.code yX3_sx cX3_sx 2 (some .long) :: vG) ({ frames := 0, cells := 0, slots := 0, locals := 0 }) (va_Pc [.long z0] (fun _ => True)) (qa_det (.long (Int32.toInt64 (Int64.toInt32 z0)))) 0 0 (fun _ => False) := by
  refine Met.ofW (cc := cX3_sx) (maxL := 2) (ret := (some .long)) (by decide) rfl ?_
  intro p e s m args below meth c s₁ B hml hv
  obtain ⟨rfl, hv⟩ := hv
  have hx := B.exec
  have hb := B.bytes
  have hr := B.returns
  have hts : ∀ w ∈ vG, w.before _ s = true := fun w h => atoms_spec (ws := (.code yX3_sx cX3_sx 2 (some .long) :: vG)) B.pre w (List.mem_cons_of_mem _ h)
  have hown : s.vm.findClass "LongMachine$Operation" = some m.cls := findClass_of_methodNamed B.named
  have hlocks := B.notSynchronized
  have hl := lv_entry ([.long z0]) (n := 2) (Nat.le_of_ble_eq_true rfl)
  rw [lg_entry_eq]
  generalize (lg_sl ([.long z0]) ++ List.replicate (2 - (lg_sl ([.long z0])).length) Slot.unset).toArray = ls at hl ⊢
  have hl : lv_has ls 2 [(0, .long z0)] := hl
  refine lv_lload_n (pc := 0) hx hb dX3_sx_0 rfl (lv_at hl 0 rfl) ?_
  refine lv_l2i (pc := 1) (v := (Int64.toInt32 z0)) hx hb dX3_sx_1 rfl ?_
  refine lv_i2l (pc := 2) (v := (Int32.toInt64 (Int64.toInt32 z0))) hx hb dX3_sx_2 rfl ?_
  exact W.lret hx hb hr (fun t ht hW => ⟨rfl, ht⟩) (fun _ h => by cases h) dX3_sx_3
set_option maxRecDepth 100000 in
set_option maxHeartbeats 4000000 in
theorem c_X3_trapIf (l : Launch) (dC : Nat → ClassId) (dI : Nat → Nat → Nat) (cI cJ : ClassId) (qO : Nat) (sz : Nat) (oRes : Int64) (oKno : Int32) (oGiv : Int32) (oTrp : Int32) (z1 : Int32) (z2 : Int64) (hz1 : z1 = 0 ∨ z1 = 1) : Met l yX3_trapIf (.code yX3_trapIf cX3_trapIf 4 (some .long) :: vG) ({ frames := 0, cells := 0, slots := 0, locals := 0 }) (va_Pc [.ref qO, .int z1, .long z2] (qa_pre (dC, dI) vwCl (wO cI cJ qO oRes oKno oGiv oTrp) [(cI, .int), (cJ, .long)] sz)) (qa_mod (some (.long z2)) (dC, dI) vwCl (wO cI cJ qO oRes oKno oGiv z1) (va_A (wO cI cJ qO oRes oKno oGiv oTrp) sz)) 0 0 (va_A (wO cI cJ qO oRes oKno oGiv oTrp) sz) := by
  refine Met.ofW (cc := cX3_trapIf) (maxL := 4) (ret := (some .long)) (by decide) rfl ?_
  intro p e s m args below meth c s₁ B hml hv
  obtain ⟨rfl, hsz, hP, hK, hD0⟩ := hv
  have hx := B.exec
  have hb := B.bytes
  have hr := B.returns
  have hts : ∀ w ∈ vG, w.before _ s = true := fun w h => atoms_spec (ws := (.code yX3_trapIf cX3_trapIf 4 (some .long) :: vG)) B.pre w (List.mem_cons_of_mem _ h)
  have hown : s.vm.findClass "LongMachine$Operation" = some m.cls := findClass_of_methodNamed B.named
  have hlocks := B.notSynchronized
  subst hsz
  have hD := hD0.self (sz := s.heap.size)
  generalize hAe : va_A (wO cI cJ qO oRes oKno oGiv oTrp) s.heap.size = A at hD ⊢
  have hA : ∀ q : Nat, s.heap.size ≤ q → A q := fun q h => by rw [← hAe]; exact Or.inr h
  have hS : va_S A s.heap s.heap [] := va_S.rf
  have hl := lv_entry ([.ref qO, .int z1, .long z2]) (n := 4) (Nat.le_of_ble_eq_true rfl)
  rw [lg_entry_eq]
  generalize (lg_sl ([.ref qO, .int z1, .long z2]) ++ List.replicate (4 - (lg_sl ([.ref qO, .int z1, .long z2])).length) Slot.unset).toArray = ls at hl ⊢
  have hl : lv_has ls 4 [(0, .ref qO), (1, .int z1), (2, .long z2)] := hl
  refine lv_aload_n (pc := 0) hx hb dX3_trapIf_0 rfl (lv_at hl 0 rfl) ?_
  refine lv_iload_n (pc := 1) hx hb dX3_trapIf_1 rfl (lv_at hl 1 rfl) ?_
  refine va_put (D := (dC, dI)) (pc := 2) (ci := 3) (v := .int z1) (ty := .boolean) (C := "LongMachine$Operation") (T := TX3) (N := 4) hx hb hts ui_X3 tyX3 tyX3_ok nmX3 hown hK hP hD hS 0 rfl rfl 3 (by decide) (hts _ gm_65) (fun _ h9 => h9) rfl (by decide +kernel) (qa_nb hz1) rfl (Nat.le_of_ble_eq_true rfl) dX3_trapIf_2 (fun H locs hP hD hS => ?_)
  have hP : va_P (dC, dI) vwCl (wO cI cJ qO oRes oKno oGiv z1) H := hP
  have hD : va_D A (wO cI cJ qO oRes oKno oGiv z1) := hD
  refine lv_lload_n (pc := 5) hx hb dX3_trapIf_5 rfl (lv_at hl 2 rfl) ?_
  exact W.lret hx hb hr (fun t ht hW => ⟨rfl, by rw [ht]; exact hP, hS.F ht⟩) hS.2.2 dX3_trapIf_6
set_option maxRecDepth 100000 in
set_option maxHeartbeats 4000000 in
theorem c_X3_truth (l : Launch) (z0 : Int32) : Met l yX3_truth (.code yX3_truth cX3_truth 1 (some .long) :: vG) ({ frames := 0, cells := 0, slots := 0, locals := 0 }) (va_Pc [.int z0] (fun _ => True)) (qa_det (.long (if z0 = (0 : Int32) then (0 : Int64) else (1 : Int64)))) 0 0 (fun _ => False) := by
  refine Met.ofW (cc := cX3_truth) (maxL := 1) (ret := (some .long)) (by decide) rfl ?_
  intro p e s m args below meth c s₁ B hml hv
  obtain ⟨rfl, hv⟩ := hv
  have hx := B.exec
  have hb := B.bytes
  have hr := B.returns
  have hts : ∀ w ∈ vG, w.before _ s = true := fun w h => atoms_spec (ws := (.code yX3_truth cX3_truth 1 (some .long) :: vG)) B.pre w (List.mem_cons_of_mem _ h)
  have hown : s.vm.findClass "LongMachine$Operation" = some m.cls := findClass_of_methodNamed B.named
  have hlocks := B.notSynchronized
  have hl := lv_entry ([.int z0]) (n := 1) (Nat.le_of_ble_eq_true rfl)
  rw [lg_entry_eq]
  generalize (lg_sl ([.int z0]) ++ List.replicate (1 - (lg_sl ([.int z0])).length) Slot.unset).toArray = ls at hl ⊢
  have hl : lv_has ls 1 [(0, .int z0)] := hl
  refine lv_iload_n (pc := 0) hx hb dX3_truth_0 rfl (lv_at hl 0 rfl) ?_
  refine qa_joinl (J := 9) (ls2 := ls) (rest2 := []) (if z0 = (0 : Int32) then (0 : Int64) else (1 : Int64)) (fun hj9 => ?_) ?_
  · refine lv_if_eq (pc := 1) (tgt := 8) hx hb dX3_truth_1 (by decide) (fun h1_1 => ?_) (fun h1_1 => ?_)
    · refine lv_lconst (pc := 8) (v := (0 : Int64)) hx hb dX3_truth_8 (by decide) ?_
      exact hj9 _ (Eq.symm (if_pos h1_1))
    · refine lv_lconst (pc := 4) (v := (1 : Int64)) hx hb dX3_truth_4 (by decide) ?_
      refine lv_goto (pc := 5) (tgt := 9) hx hb dX3_truth_5 (by decide) ?_
      exact hj9 _ (Eq.symm (if_neg h1_1))
  exact W.lret hx hb hr (fun t ht hW => ⟨rfl, ht⟩) (fun _ h => by cases h) dX3_truth_9
set_option maxRecDepth 100000 in
set_option maxHeartbeats 4000000 in
theorem c_X3_isBelow (l : Launch) (z0 : Int64) (z2 : Int64) : Met l yX3_isBelow (.code yX3_isBelow cX3_isBelow 4 (some .boolean) :: vG) ({ frames := 0, cells := 0, slots := 0, locals := 0 }) (va_Pc [.long z0, .long z2] (fun _ => True)) (qa_det (.int (if (z2 ^^^ (-9223372036854775808 : Int64)) ≤ (z0 ^^^ (-9223372036854775808 : Int64)) then (0 : Int32) else (1 : Int32)))) 0 0 (fun _ => False) := by
  refine Met.ofW (cc := cX3_isBelow) (maxL := 4) (ret := (some .boolean)) (by decide) rfl ?_
  intro p e s m args below meth c s₁ B hml hv
  obtain ⟨rfl, hv⟩ := hv
  have hx := B.exec
  have hb := B.bytes
  have hr := B.returns
  have hts : ∀ w ∈ vG, w.before _ s = true := fun w h => atoms_spec (ws := (.code yX3_isBelow cX3_isBelow 4 (some .boolean) :: vG)) B.pre w (List.mem_cons_of_mem _ h)
  have hown : s.vm.findClass "LongMachine$Operation" = some m.cls := findClass_of_methodNamed B.named
  have hlocks := B.notSynchronized
  have hl := lv_entry ([.long z0, .long z2]) (n := 4) (Nat.le_of_ble_eq_true rfl)
  rw [lg_entry_eq]
  generalize (lg_sl ([.long z0, .long z2]) ++ List.replicate (4 - (lg_sl ([.long z0, .long z2])).length) Slot.unset).toArray = ls at hl ⊢
  have hl : lv_has ls 4 [(0, .long z0), (2, .long z2)] := hl
  refine lv_lload_n (pc := 0) hx hb dX3_isBelow_0 rfl (lv_at hl 0 rfl) ?_
  refine lv_ldc2 (pc := 1) (v := (-9223372036854775808 : Int64)) hx hb hown (hts _ gm_274) dX3_isBelow_1 ?_
  refine lv_lxor (pc := 4) hx hb dX3_isBelow_4 ?_
  refine lv_lload_n (pc := 5) hx hb dX3_isBelow_5 rfl (lv_at hl 1 rfl) ?_
  refine lv_ldc2 (pc := 6) (v := (-9223372036854775808 : Int64)) hx hb hown (hts _ gm_274) dX3_isBelow_6 ?_
  refine lv_lxor (pc := 9) hx hb dX3_isBelow_9 ?_
  refine qa_joini (J := 19) (ls2 := ls) (rest2 := []) (if (z2 ^^^ (-9223372036854775808 : Int64)) ≤ (z0 ^^^ (-9223372036854775808 : Int64)) then (0 : Int32) else (1 : Int32)) (fun hj19 => ?_) ?_
  · refine qa_lc_ge (pc := 10) (tgt := 18) hx hb dX3_isBelow_10 dX3_isBelow_11 (by decide) (fun h10_1 => ?_) (fun h10_1 => ?_)
    · refine lv_iconst (pc := 18) (v := (0 : Int32)) hx hb dX3_isBelow_18 (by decide) ?_
      exact hj19 _ (Eq.symm (if_pos h10_1))
    · refine lv_iconst (pc := 14) (v := (1 : Int32)) hx hb dX3_isBelow_14 (by decide) ?_
      refine lv_goto (pc := 15) (tgt := 19) hx hb dX3_isBelow_15 (by decide) ?_
      exact hj19 _ (Eq.symm (if_neg h10_1))
  exact W.zret hx hb hr (qa_nb (qa_bi qa_b0 qa_b1)) (fun t ht hW => ⟨rfl, ht⟩) (fun _ h => by cases h) dX3_isBelow_19
def f_X3_bytesNotLess_B6 (z0 : Int64) (z2 : Int64) : Nat → Int64 → Int32 → Int64
  | 0, k4_6, k6_6 => (0 : Int64)
  | n + 1, k4_6, k6_6 => (if (8 : Int32) ≤ k6_6 then k4_6 else (if ((jlushr z0 ((8 : Int32) * k6_6)) &&& (255 : Int64)) < ((jlushr z2 ((8 : Int32) * k6_6)) &&& (255 : Int64)) then (f_X3_bytesNotLess_B6 z0 z2 n k4_6 (k6_6 + (1 : Int32))) else (f_X3_bytesNotLess_B6 z0 z2 n (k4_6 ||| (jlshl (1 : Int64) k6_6)) (k6_6 + (1 : Int32)))))
theorem f_X3_bytesNotLess_B6_s (z0 : Int64) (z2 : Int64) (n : Nat) (k4_6 : Int64) (k6_6 : Int32) : f_X3_bytesNotLess_B6 z0 z2 (n + 1) k4_6 k6_6 = (if (8 : Int32) ≤ k6_6 then k4_6 else (if ((jlushr z0 ((8 : Int32) * k6_6)) &&& (255 : Int64)) < ((jlushr z2 ((8 : Int32) * k6_6)) &&& (255 : Int64)) then (f_X3_bytesNotLess_B6 z0 z2 n k4_6 (k6_6 + (1 : Int32))) else (f_X3_bytesNotLess_B6 z0 z2 n (k4_6 ||| (jlshl (1 : Int64) k6_6)) (k6_6 + (1 : Int32))))) := rfl
def f_X3_bytesNotLess (z0 : Int64) (z2 : Int64) : Int64 := (f_X3_bytesNotLess_B6 z0 z2 9 (0 : Int64) (0 : Int32))
set_option maxRecDepth 100000 in
set_option maxHeartbeats 4000000 in
theorem c_X3_bytesNotLess (l : Launch) (z0 : Int64) (z2 : Int64) : Met l yX3_bytesNotLess (.code yX3_bytesNotLess cX3_bytesNotLess 7 (some .long) :: vG) ({ frames := 0, cells := 0, slots := 0, locals := 0 }) (va_Pc [.long z0, .long z2] (fun _ => True)) (qa_det (.long (f_X3_bytesNotLess z0 z2))) 0 0 (fun _ => False) := by
  refine Met.ofW (cc := cX3_bytesNotLess) (maxL := 7) (ret := (some .long)) (by decide) rfl ?_
  intro p e s m args below meth c s₁ B hml hv
  obtain ⟨rfl, hv⟩ := hv
  have hx := B.exec
  have hb := B.bytes
  have hr := B.returns
  have hts : ∀ w ∈ vG, w.before _ s = true := fun w h => atoms_spec (ws := (.code yX3_bytesNotLess cX3_bytesNotLess 7 (some .long) :: vG)) B.pre w (List.mem_cons_of_mem _ h)
  have hown : s.vm.findClass "LongMachine$Operation" = some m.cls := findClass_of_methodNamed B.named
  have hlocks := B.notSynchronized
  have hl := lv_entry ([.long z0, .long z2]) (n := 7) (Nat.le_of_ble_eq_true rfl)
  rw [lg_entry_eq]
  generalize (lg_sl ([.long z0, .long z2]) ++ List.replicate (7 - (lg_sl ([.long z0, .long z2])).length) Slot.unset).toArray = ls at hl ⊢
  have hl : lv_has ls 7 [(0, .long z0), (2, .long z2)] := hl
  obtain ⟨u, hu⟩ : ∃ u, u = f_X3_bytesNotLess z0 z2 := ⟨_, rfl⟩
  rw [← hu]
  unfold f_X3_bytesNotLess at hu
  refine lv_lconst (pc := 0) (v := (0 : Int64)) hx hb dX3_bytesNotLess_0 (by decide) ?_
  refine lv_lstore (pc := 1) (lv' := [(4, .long (0 : Int64)), (0, .long z0), (2, .long z2)]) hx hb dX3_bytesNotLess_1 hl (by decide) rfl (fun ls hl => ?_)
  refine lv_iconst (pc := 3) (v := (0 : Int32)) hx hb dX3_bytesNotLess_3 (by decide) ?_
  refine lv_istore (pc := 4) (lv' := [(6, .int (0 : Int32)), (4, .long (0 : Int64)), (0, .long z0), (2, .long z2)]) hx hb dX3_bytesNotLess_4 hl (by decide) rfl (fun ls hl => ?_)
  have hB6 : ∀ (n : Nat) (k4_6 : Int64) (k6_6 : Int32) (ls : Array Slot) (hq6_fu : ((8 : Int32).toInt - (k6_6).toInt).toNat < n) (hl : lv_has ls 7 [(0, .long z0), (2, .long z2), (4, .long k4_6), (6, .int k6_6)]) (u : Int64) (hu : u = f_X3_bytesNotLess_B6 z0 z2 n k4_6 k6_6), W p l e { frames := 0, cells := 0, slots := 0, locals := 0 } s m ([.long z0, .long z2]).toArray below meth c s.heap [] 0 0 (MQ below (qa_det (.long u)) ([.long z0, .long z2]).toArray s 0 0 (fun _ => False)) (F0 m 6 ls []) := by
    intro n
    induction n with
    | zero => intro k4_6 k6_6 ls hq6_fu hl u hu; exact absurd hq6_fu (Nat.not_lt_zero _)
    | succ n ih =>
        intro k4_6 k6_6 ls hq6_fu hl u hu
        rw [f_X3_bytesNotLess_B6_s] at hu
        refine lv_iload (pc := 6) hx hb dX3_bytesNotLess_6 (lv_at hl 3 rfl) ?_
        refine lv_bipush (pc := 8) (v := (8 : Int32)) hx hb dX3_bytesNotLess_8 (by decide) ?_
        refine lv_icmp_ge (pc := 10) (tgt := 54) hx hb dX3_bytesNotLess_10 (by decide) (fun h10_1 => ?_) (fun h10_1 => ?_)
        · have hu := hu.trans (if_pos h10_1)
          refine lv_lload (pc := 54) hx hb dX3_bytesNotLess_54 (lv_at hl 2 rfl) ?_
          subst hu
          exact W.lret hx hb hr (fun t ht hW => ⟨rfl, ht⟩) (fun _ h => by cases h) dX3_bytesNotLess_56
        · have hu := hu.trans (if_neg h10_1)
          refine lv_lload_n (pc := 13) hx hb dX3_bytesNotLess_13 rfl (lv_at hl 0 rfl) ?_
          refine lv_bipush (pc := 14) (v := (8 : Int32)) hx hb dX3_bytesNotLess_14 (by decide) ?_
          refine lv_iload (pc := 16) hx hb dX3_bytesNotLess_16 (lv_at hl 3 rfl) ?_
          refine lv_imul (pc := 18) hx hb dX3_bytesNotLess_18 ?_
          refine lv_lushr (pc := 19) (v := (jlushr z0 ((8 : Int32) * k6_6))) hx hb dX3_bytesNotLess_19 rfl ?_
          refine lv_ldc2 (pc := 20) (v := (255 : Int64)) hx hb hown (hts _ gm_278) dX3_bytesNotLess_20 ?_
          refine lv_land (pc := 23) hx hb dX3_bytesNotLess_23 ?_
          refine lv_lload_n (pc := 24) hx hb dX3_bytesNotLess_24 rfl (lv_at hl 1 rfl) ?_
          refine lv_bipush (pc := 25) (v := (8 : Int32)) hx hb dX3_bytesNotLess_25 (by decide) ?_
          refine lv_iload (pc := 27) hx hb dX3_bytesNotLess_27 (lv_at hl 3 rfl) ?_
          refine lv_imul (pc := 29) hx hb dX3_bytesNotLess_29 ?_
          refine lv_lushr (pc := 30) (v := (jlushr z2 ((8 : Int32) * k6_6))) hx hb dX3_bytesNotLess_30 rfl ?_
          refine lv_ldc2 (pc := 31) (v := (255 : Int64)) hx hb hown (hts _ gm_278) dX3_bytesNotLess_31 ?_
          refine lv_land (pc := 34) hx hb dX3_bytesNotLess_34 ?_
          refine qa_lc_lt (pc := 35) (tgt := 48) hx hb dX3_bytesNotLess_35 dX3_bytesNotLess_36 (by decide) (fun h35_2 => ?_) (fun h35_2 => ?_)
          · have hu := hu.trans (if_pos h35_2)
            refine lv_iinc (pc := 48) (k := 3) (lv' := [(6, .int (k6_6 + (1 : Int32))), (0, .long z0), (2, .long z2), (4, .long k4_6)]) hx hb dX3_bytesNotLess_48 hl rfl (qa_inc (by decide) k6_6) (by decide) rfl (fun ls hl => ?_)
            refine lv_goto (pc := 51) (tgt := 6) hx hb dX3_bytesNotLess_51 (by decide) ?_
            exact ih k4_6 (k6_6 + (1 : Int32)) _ (rg_fs h10_1 hq6_fu) (lv_sub hl [1, 2, 3, 0] rfl) u hu
          · have hu := hu.trans (if_neg h35_2)
            refine lv_lload (pc := 39) hx hb dX3_bytesNotLess_39 (lv_at hl 2 rfl) ?_
            refine lv_lconst (pc := 41) (v := (1 : Int64)) hx hb dX3_bytesNotLess_41 (by decide) ?_
            refine lv_iload (pc := 42) hx hb dX3_bytesNotLess_42 (lv_at hl 3 rfl) ?_
            refine lv_lshl (pc := 44) (v := (jlshl (1 : Int64) k6_6)) hx hb dX3_bytesNotLess_44 rfl ?_
            refine lv_lor (pc := 45) hx hb dX3_bytesNotLess_45 ?_
            refine lv_lstore (pc := 46) (lv' := [(4, .long (k4_6 ||| (jlshl (1 : Int64) k6_6))), (0, .long z0), (2, .long z2), (6, .int k6_6)]) hx hb dX3_bytesNotLess_46 hl (by decide) rfl (fun ls hl => ?_)
            refine lv_iinc (pc := 48) (k := 3) (lv' := [(6, .int (k6_6 + (1 : Int32))), (4, .long (k4_6 ||| (jlshl (1 : Int64) k6_6))), (0, .long z0), (2, .long z2)]) hx hb dX3_bytesNotLess_48 hl rfl (qa_inc (by decide) k6_6) (by decide) rfl (fun ls hl => ?_)
            refine lv_goto (pc := 51) (tgt := 6) hx hb dX3_bytesNotLess_51 (by decide) ?_
            exact ih (k4_6 ||| (jlshl (1 : Int64) k6_6)) (k6_6 + (1 : Int32)) _ (rg_fs h10_1 hq6_fu) (lv_sub hl [2, 3, 1, 0] rfl) u hu
  exact hB6 9 (0 : Int64) (0 : Int32) _ (by decide) (lv_sub hl [2, 3, 1, 0] rfl) u hu
def f_X3_add (z1 : Int32) (z2 : Int64) (z4 : Int64) (oKno : Int32) (oTrp : Int32) : Int64 × Int32 × Int32 := (if z1 = (0 : Int32) then ((Int32.toInt64 (Int64.toInt32 (z2 + z4))), oKno, oTrp) else (if z1 = (2 : Int32) then ((Int32.toInt64 (Int64.toInt32 (((4 : Int64) * z2) + z4))), oKno, oTrp) else (if z1 = (9 : Int32) then ((Int32.toInt64 (Int64.toInt32 (z2 - z4))), oKno, oTrp) else (if z1 = (11 : Int32) then ((Int32.toInt64 (Int64.toInt32 (((4 : Int64) * z2) - z4))), oKno, oTrp) else (if z1 = (15 : Int32) then ((f_X3_bytesNotLess z2 z4), oKno, oTrp) else (if z1 = (18 : Int32) then ((Int32.toInt64 (Int64.toInt32 (((8 : Int64) * z2) + z4))), oKno, oTrp) else (if z1 = (29 : Int32) then ((if (if (z4 ^^^ (-9223372036854775808 : Int64)) ≤ (z2 ^^^ (-9223372036854775808 : Int64)) then (0 : Int32) else (1 : Int32)) = (0 : Int32) then (0 : Int64) else (1 : Int64)), oKno, oTrp) else (if z1 = (32 : Int32) then ((z2 + z4), oKno, oTrp) else (if z1 = (34 : Int32) then ((((4 : Int64) * z2) + z4), oKno, oTrp) else (if z1 = (41 : Int32) then ((z2 - z4), oKno, oTrp) else (if z1 = (43 : Int32) then ((((4 : Int64) * z2) - z4), oKno, oTrp) else (if z1 = (45 : Int32) then ((if (if z2 = z4 then (1 : Int32) else (0 : Int32)) = (0 : Int32) then (0 : Int64) else (1 : Int64)), oKno, oTrp) else (if z1 = (50 : Int32) then ((((8 : Int64) * z2) + z4), oKno, oTrp) else (if z1 = (61 : Int32) then ((if (if (if (z2 ^^^ (-9223372036854775808 : Int64)) ≤ (z4 ^^^ (-9223372036854775808 : Int64)) then (0 : Int32) else (1 : Int32)) = (0 : Int32) then (1 : Int32) else (0 : Int32)) = (0 : Int32) then (0 : Int64) else (1 : Int64)), oKno, oTrp) else (if z1 = (64 : Int32) then ((Int32.toInt64 (Int64.toInt32 (z2 + z4))), oKno, (if (Int32.toInt64 (Int64.toInt32 (z2 + z4))) = ((Int32.toInt64 (Int64.toInt32 z2)) + (Int32.toInt64 (Int64.toInt32 z4))) then (0 : Int32) else (1 : Int32))) else (if z1 = (73 : Int32) then ((Int32.toInt64 (Int64.toInt32 (z2 - z4))), oKno, (if (Int32.toInt64 (Int64.toInt32 (z2 - z4))) = ((Int32.toInt64 (Int64.toInt32 z2)) - (Int32.toInt64 (Int64.toInt32 z4))) then (0 : Int32) else (1 : Int32))) else (if z1 = (77 : Int32) then ((if (if z4 ≤ z2 then (0 : Int32) else (1 : Int32)) = (0 : Int32) then (0 : Int64) else (1 : Int64)), oKno, oTrp) else (if z1 = (96 : Int32) then ((z2 + z4), oKno, (if (0 : Int64) ≤ ((z2 ^^^ (z2 + z4)) &&& (z4 ^^^ (z2 + z4))) then (0 : Int32) else (1 : Int32))) else (if z1 = (105 : Int32) then ((z2 - z4), oKno, (if (0 : Int64) ≤ ((z2 ^^^ z4) &&& (z2 ^^^ (z2 - z4))) then (0 : Int32) else (1 : Int32))) else (if z1 = (109 : Int32) then ((if (if z4 < z2 then (0 : Int32) else (1 : Int32)) = (0 : Int32) then (0 : Int64) else (1 : Int64)), oKno, oTrp) else ((0 : Int64), (0 : Int32), oTrp)))))))))))))))))))))
set_option maxRecDepth 100000 in
set_option maxHeartbeats 4000000 in
theorem c_X3_add (l : Launch) (dC : Nat → ClassId) (dI : Nat → Nat → Nat) (cI cJ : ClassId) (qO : Nat) (sz : Nat) (oRes : Int64) (oKno : Int32) (oGiv : Int32) (oTrp : Int32) (z1 : Int32) (z2 : Int64) (z4 : Int64) : Met l yX3_add (.code yX3_add cX3_add 6 (some .long) :: vG) ({ frames := 1, cells := 0, slots := 0, locals := 26 }) (va_Pc [.ref qO, .int z1, .long z2, .long z4] (qa_pre (dC, dI) vwCl (wO cI cJ qO oRes oKno oGiv oTrp) [(cI, .int), (cJ, .long)] sz)) (qa_mod (some (.long ((f_X3_add z1 z2 z4 oKno oTrp).1))) (dC, dI) vwCl (wO cI cJ qO oRes ((f_X3_add z1 z2 z4 oKno oTrp).2.1) oGiv ((f_X3_add z1 z2 z4 oKno oTrp).2.2)) (va_A (wO cI cJ qO oRes oKno oGiv oTrp) sz)) 0 0 (va_A (wO cI cJ qO oRes oKno oGiv oTrp) sz) := by
  refine Met.ofW (cc := cX3_add) (maxL := 6) (ret := (some .long)) (by decide) rfl ?_
  intro p e s m args below meth c s₁ B hml hv
  obtain ⟨rfl, hsz, hP, hK, hD0⟩ := hv
  have hx := B.exec
  have hb := B.bytes
  have hr := B.returns
  have hts : ∀ w ∈ vG, w.before _ s = true := fun w h => atoms_spec (ws := (.code yX3_add cX3_add 6 (some .long) :: vG)) B.pre w (List.mem_cons_of_mem _ h)
  have hown : s.vm.findClass "LongMachine$Operation" = some m.cls := findClass_of_methodNamed B.named
  have hlocks := B.notSynchronized
  subst hsz
  have hD := hD0.self (sz := s.heap.size)
  generalize hAe : va_A (wO cI cJ qO oRes oKno oGiv oTrp) s.heap.size = A at hD ⊢
  have hA : ∀ q : Nat, s.heap.size ≤ q → A q := fun q h => by rw [← hAe]; exact Or.inr h
  have hS : va_S A s.heap s.heap [] := va_S.rf
  have hl := lv_entry ([.ref qO, .int z1, .long z2, .long z4]) (n := 6) (Nat.le_of_ble_eq_true rfl)
  rw [lg_entry_eq]
  generalize (lg_sl ([.ref qO, .int z1, .long z2, .long z4]) ++ List.replicate (6 - (lg_sl ([.ref qO, .int z1, .long z2, .long z4])).length) Slot.unset).toArray = ls at hl ⊢
  have hl : lv_has ls 6 [(0, .ref qO), (1, .int z1), (2, .long z2), (4, .long z4)] := hl
  obtain ⟨u, hu⟩ : ∃ u, u = f_X3_add z1 z2 z4 oKno oTrp := ⟨_, rfl⟩
  rw [← hu]
  unfold f_X3_add at hu
  refine lv_iload_n (pc := 0) hx hb dX3_add_0 rfl (lv_at hl 1 rfl) ?_
  rcases Decidable.em (z1 = (0 : Int32)) with h1_1 | h1_1
  · have hu := hu.trans (if_pos h1_1)
    refine lv_lookup (pc := 1) (tgt := 172) (off := 171) hx hb dX3_add_1 (by decide) (by rw [h1_1]; decide) (by decide) ?_
    refine lv_lload_n (pc := 172) hx hb dX3_add_172 rfl (lv_at hl 2 rfl) ?_
    refine lv_lload (pc := 173) hx hb dX3_add_173 (lv_at hl 3 rfl) ?_
    refine lv_ladd (pc := 175) hx hb dX3_add_175 ?_
    refine qa_calld (pc := 176) (v := .long (Int32.toInt64 (Int64.toInt32 (z2 + z4)))) (va_runS (As := [.long (z2 + z4)]) (rest := []) ⟨hx, hb, hml, hown, hts⟩ (c_X3_sx l (z2 + z4)) (va_cwS 1 hts (gd_S gm_262 gm_260 gm_261 gm_4) rfl rfl rfl (by decide +kernel) ⟨Nat.le_of_ble_eq_true rfl, Nat.le_of_ble_eq_true rfl⟩) qa_S0 rfl rfl hl.1 rfl (lv_room (Nat.le_of_ble_eq_true rfl)) dX3_add_176 ⟨Nat.zero_le _, Nat.zero_le _⟩) ?_
    subst hu
    exact W.lret hx hb hr (fun t ht hW => ⟨rfl, by rw [ht]; exact hP, hS.F ht⟩) hS.2.2 dX3_add_179
  · have hu := hu.trans (if_neg h1_1)
    have n1_0 : ¬ z1 = (0 : Int32) := h1_1
    rcases Decidable.em (z1 = (2 : Int32)) with h1_2 | h1_2
    · have hu := hu.trans (if_pos h1_2)
      refine lv_lookup (pc := 1) (tgt := 180) (off := 179) hx hb dX3_add_1 (by decide) (by rw [h1_2]; decide) (by decide) ?_
      refine lv_ldc2 (pc := 180) (v := (4 : Int64)) hx hb hown (hts _ gm_263) dX3_add_180 ?_
      refine lv_lload_n (pc := 183) hx hb dX3_add_183 rfl (lv_at hl 2 rfl) ?_
      refine lv_lmul (pc := 184) hx hb dX3_add_184 ?_
      refine lv_lload (pc := 185) hx hb dX3_add_185 (lv_at hl 3 rfl) ?_
      refine lv_ladd (pc := 187) hx hb dX3_add_187 ?_
      refine qa_calld (pc := 188) (v := .long (Int32.toInt64 (Int64.toInt32 (((4 : Int64) * z2) + z4)))) (va_runS (As := [.long (((4 : Int64) * z2) + z4)]) (rest := []) ⟨hx, hb, hml, hown, hts⟩ (c_X3_sx l (((4 : Int64) * z2) + z4)) (va_cwS 1 hts (gd_S gm_262 gm_260 gm_261 gm_4) rfl rfl rfl (by decide +kernel) ⟨Nat.le_of_ble_eq_true rfl, Nat.le_of_ble_eq_true rfl⟩) qa_S0 rfl rfl hl.1 rfl (lv_room (Nat.le_of_ble_eq_true rfl)) dX3_add_188 ⟨Nat.zero_le _, Nat.zero_le _⟩) ?_
      subst hu
      exact W.lret hx hb hr (fun t ht hW => ⟨rfl, by rw [ht]; exact hP, hS.F ht⟩) hS.2.2 dX3_add_191
    · have hu := hu.trans (if_neg h1_2)
      have n1_1 : ¬ z1 = (2 : Int32) := h1_2
      rcases Decidable.em (z1 = (9 : Int32)) with h1_3 | h1_3
      · have hu := hu.trans (if_pos h1_3)
        refine lv_lookup (pc := 1) (tgt := 204) (off := 203) hx hb dX3_add_1 (by decide) (by rw [h1_3]; decide) (by decide) ?_
        refine lv_lload_n (pc := 204) hx hb dX3_add_204 rfl (lv_at hl 2 rfl) ?_
        refine lv_lload (pc := 205) hx hb dX3_add_205 (lv_at hl 3 rfl) ?_
        refine lv_lsub (pc := 207) hx hb dX3_add_207 ?_
        refine qa_calld (pc := 208) (v := .long (Int32.toInt64 (Int64.toInt32 (z2 - z4)))) (va_runS (As := [.long (z2 - z4)]) (rest := []) ⟨hx, hb, hml, hown, hts⟩ (c_X3_sx l (z2 - z4)) (va_cwS 1 hts (gd_S gm_262 gm_260 gm_261 gm_4) rfl rfl rfl (by decide +kernel) ⟨Nat.le_of_ble_eq_true rfl, Nat.le_of_ble_eq_true rfl⟩) qa_S0 rfl rfl hl.1 rfl (lv_room (Nat.le_of_ble_eq_true rfl)) dX3_add_208 ⟨Nat.zero_le _, Nat.zero_le _⟩) ?_
        subst hu
        exact W.lret hx hb hr (fun t ht hW => ⟨rfl, by rw [ht]; exact hP, hS.F ht⟩) hS.2.2 dX3_add_211
      · have hu := hu.trans (if_neg h1_3)
        have n1_2 : ¬ z1 = (9 : Int32) := h1_3
        rcases Decidable.em (z1 = (11 : Int32)) with h1_4 | h1_4
        · have hu := hu.trans (if_pos h1_4)
          refine lv_lookup (pc := 1) (tgt := 212) (off := 211) hx hb dX3_add_1 (by decide) (by rw [h1_4]; decide) (by decide) ?_
          refine lv_ldc2 (pc := 212) (v := (4 : Int64)) hx hb hown (hts _ gm_263) dX3_add_212 ?_
          refine lv_lload_n (pc := 215) hx hb dX3_add_215 rfl (lv_at hl 2 rfl) ?_
          refine lv_lmul (pc := 216) hx hb dX3_add_216 ?_
          refine lv_lload (pc := 217) hx hb dX3_add_217 (lv_at hl 3 rfl) ?_
          refine lv_lsub (pc := 219) hx hb dX3_add_219 ?_
          refine qa_calld (pc := 220) (v := .long (Int32.toInt64 (Int64.toInt32 (((4 : Int64) * z2) - z4)))) (va_runS (As := [.long (((4 : Int64) * z2) - z4)]) (rest := []) ⟨hx, hb, hml, hown, hts⟩ (c_X3_sx l (((4 : Int64) * z2) - z4)) (va_cwS 1 hts (gd_S gm_262 gm_260 gm_261 gm_4) rfl rfl rfl (by decide +kernel) ⟨Nat.le_of_ble_eq_true rfl, Nat.le_of_ble_eq_true rfl⟩) qa_S0 rfl rfl hl.1 rfl (lv_room (Nat.le_of_ble_eq_true rfl)) dX3_add_220 ⟨Nat.zero_le _, Nat.zero_le _⟩) ?_
          subst hu
          exact W.lret hx hb hr (fun t ht hW => ⟨rfl, by rw [ht]; exact hP, hS.F ht⟩) hS.2.2 dX3_add_223
        · have hu := hu.trans (if_neg h1_4)
          have n1_3 : ¬ z1 = (11 : Int32) := h1_4
          rcases Decidable.em (z1 = (15 : Int32)) with h1_5 | h1_5
          · have hu := hu.trans (if_pos h1_5)
            refine lv_lookup (pc := 1) (tgt := 476) (off := 475) hx hb dX3_add_1 (by decide) (by rw [h1_5]; decide) (by decide) ?_
            refine lv_lload_n (pc := 476) hx hb dX3_add_476 rfl (lv_at hl 2 rfl) ?_
            refine lv_lload (pc := 477) hx hb dX3_add_477 (lv_at hl 3 rfl) ?_
            refine qa_calld (pc := 479) (v := .long (f_X3_bytesNotLess z2 z4)) (va_runS (As := [.long z2, .long z4]) (rest := []) ⟨hx, hb, hml, hown, hts⟩ (c_X3_bytesNotLess l z2 z4) (va_cwS 2 hts (gd_S gm_277 gm_275 gm_276 gm_4) rfl rfl rfl (by decide +kernel) ⟨Nat.le_of_ble_eq_true rfl, Nat.le_of_ble_eq_true rfl⟩) qa_S0 rfl rfl hl.1 rfl (lv_room (Nat.le_of_ble_eq_true rfl)) dX3_add_479 ⟨Nat.zero_le _, Nat.zero_le _⟩) ?_
            subst hu
            exact W.lret hx hb hr (fun t ht hW => ⟨rfl, by rw [ht]; exact hP, hS.F ht⟩) hS.2.2 dX3_add_482
          · have hu := hu.trans (if_neg h1_5)
            have n1_4 : ¬ z1 = (15 : Int32) := h1_5
            rcases Decidable.em (z1 = (18 : Int32)) with h1_6 | h1_6
            · have hu := hu.trans (if_pos h1_6)
              refine lv_lookup (pc := 1) (tgt := 192) (off := 191) hx hb dX3_add_1 (by decide) (by rw [h1_6]; decide) (by decide) ?_
              refine lv_ldc2 (pc := 192) (v := (8 : Int64)) hx hb hown (hts _ gm_264) dX3_add_192 ?_
              refine lv_lload_n (pc := 195) hx hb dX3_add_195 rfl (lv_at hl 2 rfl) ?_
              refine lv_lmul (pc := 196) hx hb dX3_add_196 ?_
              refine lv_lload (pc := 197) hx hb dX3_add_197 (lv_at hl 3 rfl) ?_
              refine lv_ladd (pc := 199) hx hb dX3_add_199 ?_
              refine qa_calld (pc := 200) (v := .long (Int32.toInt64 (Int64.toInt32 (((8 : Int64) * z2) + z4)))) (va_runS (As := [.long (((8 : Int64) * z2) + z4)]) (rest := []) ⟨hx, hb, hml, hown, hts⟩ (c_X3_sx l (((8 : Int64) * z2) + z4)) (va_cwS 1 hts (gd_S gm_262 gm_260 gm_261 gm_4) rfl rfl rfl (by decide +kernel) ⟨Nat.le_of_ble_eq_true rfl, Nat.le_of_ble_eq_true rfl⟩) qa_S0 rfl rfl hl.1 rfl (lv_room (Nat.le_of_ble_eq_true rfl)) dX3_add_200 ⟨Nat.zero_le _, Nat.zero_le _⟩) ?_
              subst hu
              exact W.lret hx hb hr (fun t ht hW => ⟨rfl, by rw [ht]; exact hP, hS.F ht⟩) hS.2.2 dX3_add_203
            · have hu := hu.trans (if_neg h1_6)
              have n1_5 : ¬ z1 = (18 : Int32) := h1_6
              rcases Decidable.em (z1 = (29 : Int32)) with h1_7 | h1_7
              · have hu := hu.trans (if_pos h1_7)
                refine lv_lookup (pc := 1) (tgt := 448) (off := 447) hx hb dX3_add_1 (by decide) (by rw [h1_7]; decide) (by decide) ?_
                refine lv_lload_n (pc := 448) hx hb dX3_add_448 rfl (lv_at hl 2 rfl) ?_
                refine lv_lload (pc := 449) hx hb dX3_add_449 (lv_at hl 3 rfl) ?_
                refine qa_calld (pc := 451) (v := .int (if (z4 ^^^ (-9223372036854775808 : Int64)) ≤ (z2 ^^^ (-9223372036854775808 : Int64)) then (0 : Int32) else (1 : Int32))) (va_runS (As := [.long z2, .long z4]) (rest := []) ⟨hx, hb, hml, hown, hts⟩ (c_X3_isBelow l z2 z4) (va_cwS 2 hts (gd_S gm_273 gm_271 gm_272 gm_4) rfl rfl rfl (by decide +kernel) ⟨Nat.le_of_ble_eq_true rfl, Nat.le_of_ble_eq_true rfl⟩) qa_S0 rfl rfl hl.1 rfl (lv_room (Nat.le_of_ble_eq_true rfl)) dX3_add_451 ⟨Nat.zero_le _, Nat.zero_le _⟩) ?_
                refine qa_calld (pc := 454) (v := .long (if (if (z4 ^^^ (-9223372036854775808 : Int64)) ≤ (z2 ^^^ (-9223372036854775808 : Int64)) then (0 : Int32) else (1 : Int32)) = (0 : Int32) then (0 : Int64) else (1 : Int64))) (va_runS (As := [.int (if (z4 ^^^ (-9223372036854775808 : Int64)) ≤ (z2 ^^^ (-9223372036854775808 : Int64)) then (0 : Int32) else (1 : Int32))]) (rest := []) ⟨hx, hb, hml, hown, hts⟩ (c_X3_truth l (if (z4 ^^^ (-9223372036854775808 : Int64)) ≤ (z2 ^^^ (-9223372036854775808 : Int64)) then (0 : Int32) else (1 : Int32))) (va_cwS 1 hts (gd_S gm_270 gm_268 gm_269 gm_4) rfl rfl rfl (by decide +kernel) ⟨Nat.le_of_ble_eq_true rfl, Nat.le_of_ble_eq_true rfl⟩) qa_S0 rfl rfl hl.1 rfl (lv_room (Nat.le_of_ble_eq_true rfl)) dX3_add_454 ⟨Nat.zero_le _, Nat.zero_le _⟩) ?_
                subst hu
                exact W.lret hx hb hr (fun t ht hW => ⟨rfl, by rw [ht]; exact hP, hS.F ht⟩) hS.2.2 dX3_add_457
              · have hu := hu.trans (if_neg h1_7)
                have n1_6 : ¬ z1 = (29 : Int32) := h1_7
                rcases Decidable.em (z1 = (32 : Int32)) with h1_8 | h1_8
                · have hu := hu.trans (if_pos h1_8)
                  refine lv_lookup (pc := 1) (tgt := 224) (off := 223) hx hb dX3_add_1 (by decide) (by rw [h1_8]; decide) (by decide) ?_
                  refine lv_lload_n (pc := 224) hx hb dX3_add_224 rfl (lv_at hl 2 rfl) ?_
                  refine lv_lload (pc := 225) hx hb dX3_add_225 (lv_at hl 3 rfl) ?_
                  refine lv_ladd (pc := 227) hx hb dX3_add_227 ?_
                  subst hu
                  exact W.lret hx hb hr (fun t ht hW => ⟨rfl, by rw [ht]; exact hP, hS.F ht⟩) hS.2.2 dX3_add_228
                · have hu := hu.trans (if_neg h1_8)
                  have n1_7 : ¬ z1 = (32 : Int32) := h1_8
                  rcases Decidable.em (z1 = (34 : Int32)) with h1_9 | h1_9
                  · have hu := hu.trans (if_pos h1_9)
                    refine lv_lookup (pc := 1) (tgt := 229) (off := 228) hx hb dX3_add_1 (by decide) (by rw [h1_9]; decide) (by decide) ?_
                    refine lv_ldc2 (pc := 229) (v := (4 : Int64)) hx hb hown (hts _ gm_263) dX3_add_229 ?_
                    refine lv_lload_n (pc := 232) hx hb dX3_add_232 rfl (lv_at hl 2 rfl) ?_
                    refine lv_lmul (pc := 233) hx hb dX3_add_233 ?_
                    refine lv_lload (pc := 234) hx hb dX3_add_234 (lv_at hl 3 rfl) ?_
                    refine lv_ladd (pc := 236) hx hb dX3_add_236 ?_
                    subst hu
                    exact W.lret hx hb hr (fun t ht hW => ⟨rfl, by rw [ht]; exact hP, hS.F ht⟩) hS.2.2 dX3_add_237
                  · have hu := hu.trans (if_neg h1_9)
                    have n1_8 : ¬ z1 = (34 : Int32) := h1_9
                    rcases Decidable.em (z1 = (41 : Int32)) with h1_10 | h1_10
                    · have hu := hu.trans (if_pos h1_10)
                      refine lv_lookup (pc := 1) (tgt := 247) (off := 246) hx hb dX3_add_1 (by decide) (by rw [h1_10]; decide) (by decide) ?_
                      refine lv_lload_n (pc := 247) hx hb dX3_add_247 rfl (lv_at hl 2 rfl) ?_
                      refine lv_lload (pc := 248) hx hb dX3_add_248 (lv_at hl 3 rfl) ?_
                      refine lv_lsub (pc := 250) hx hb dX3_add_250 ?_
                      subst hu
                      exact W.lret hx hb hr (fun t ht hW => ⟨rfl, by rw [ht]; exact hP, hS.F ht⟩) hS.2.2 dX3_add_251
                    · have hu := hu.trans (if_neg h1_10)
                      have n1_9 : ¬ z1 = (41 : Int32) := h1_10
                      rcases Decidable.em (z1 = (43 : Int32)) with h1_11 | h1_11
                      · have hu := hu.trans (if_pos h1_11)
                        refine lv_lookup (pc := 1) (tgt := 252) (off := 251) hx hb dX3_add_1 (by decide) (by rw [h1_11]; decide) (by decide) ?_
                        refine lv_ldc2 (pc := 252) (v := (4 : Int64)) hx hb hown (hts _ gm_263) dX3_add_252 ?_
                        refine lv_lload_n (pc := 255) hx hb dX3_add_255 rfl (lv_at hl 2 rfl) ?_
                        refine lv_lmul (pc := 256) hx hb dX3_add_256 ?_
                        refine lv_lload (pc := 257) hx hb dX3_add_257 (lv_at hl 3 rfl) ?_
                        refine lv_lsub (pc := 259) hx hb dX3_add_259 ?_
                        subst hu
                        exact W.lret hx hb hr (fun t ht hW => ⟨rfl, by rw [ht]; exact hP, hS.F ht⟩) hS.2.2 dX3_add_260
                      · have hu := hu.trans (if_neg h1_11)
                        have n1_10 : ¬ z1 = (43 : Int32) := h1_11
                        rcases Decidable.em (z1 = (45 : Int32)) with h1_12 | h1_12
                        · have hu := hu.trans (if_pos h1_12)
                          refine lv_lookup (pc := 1) (tgt := 400) (off := 399) hx hb dX3_add_1 (by decide) (by rw [h1_12]; decide) (by decide) ?_
                          refine lv_lload_n (pc := 400) hx hb dX3_add_400 rfl (lv_at hl 2 rfl) ?_
                          refine lv_lload (pc := 401) hx hb dX3_add_401 (lv_at hl 3 rfl) ?_
                          refine qa_joini (J := 412) (ls2 := ls) (rest2 := []) (if z2 = z4 then (1 : Int32) else (0 : Int32)) (fun hj412 => ?_) ?_
                          · refine qa_lc_ne (pc := 403) (tgt := 411) hx hb dX3_add_403 dX3_add_404 (by decide) (fun h403_13 => ?_) (fun h403_13 => ?_)
                            · refine lv_iconst (pc := 411) (v := (0 : Int32)) hx hb dX3_add_411 (by decide) ?_
                              exact hj412 _ (Eq.symm (if_neg h403_13))
                            · refine lv_iconst (pc := 407) (v := (1 : Int32)) hx hb dX3_add_407 (by decide) ?_
                              refine lv_goto (pc := 408) (tgt := 412) hx hb dX3_add_408 (by decide) ?_
                              exact hj412 _ (Eq.symm (if_pos h403_13))
                          refine qa_calld (pc := 412) (v := .long (if (if z2 = z4 then (1 : Int32) else (0 : Int32)) = (0 : Int32) then (0 : Int64) else (1 : Int64))) (va_runS (As := [.int (if z2 = z4 then (1 : Int32) else (0 : Int32))]) (rest := []) ⟨hx, hb, hml, hown, hts⟩ (c_X3_truth l (if z2 = z4 then (1 : Int32) else (0 : Int32))) (va_cwS 1 hts (gd_S gm_270 gm_268 gm_269 gm_4) rfl rfl rfl (by decide +kernel) ⟨Nat.le_of_ble_eq_true rfl, Nat.le_of_ble_eq_true rfl⟩) qa_S0 rfl rfl hl.1 rfl (lv_room (Nat.le_of_ble_eq_true rfl)) dX3_add_412 ⟨Nat.zero_le _, Nat.zero_le _⟩) ?_
                          subst hu
                          exact W.lret hx hb hr (fun t ht hW => ⟨rfl, by rw [ht]; exact hP, hS.F ht⟩) hS.2.2 dX3_add_415
                        · have hu := hu.trans (if_neg h1_12)
                          have n1_11 : ¬ z1 = (45 : Int32) := h1_12
                          rcases Decidable.em (z1 = (50 : Int32)) with h1_14 | h1_14
                          · have hu := hu.trans (if_pos h1_14)
                            refine lv_lookup (pc := 1) (tgt := 238) (off := 237) hx hb dX3_add_1 (by decide) (by rw [h1_14]; decide) (by decide) ?_
                            refine lv_ldc2 (pc := 238) (v := (8 : Int64)) hx hb hown (hts _ gm_264) dX3_add_238 ?_
                            refine lv_lload_n (pc := 241) hx hb dX3_add_241 rfl (lv_at hl 2 rfl) ?_
                            refine lv_lmul (pc := 242) hx hb dX3_add_242 ?_
                            refine lv_lload (pc := 243) hx hb dX3_add_243 (lv_at hl 3 rfl) ?_
                            refine lv_ladd (pc := 245) hx hb dX3_add_245 ?_
                            subst hu
                            exact W.lret hx hb hr (fun t ht hW => ⟨rfl, by rw [ht]; exact hP, hS.F ht⟩) hS.2.2 dX3_add_246
                          · have hu := hu.trans (if_neg h1_14)
                            have n1_12 : ¬ z1 = (50 : Int32) := h1_14
                            rcases Decidable.em (z1 = (61 : Int32)) with h1_15 | h1_15
                            · have hu := hu.trans (if_pos h1_15)
                              refine lv_lookup (pc := 1) (tgt := 458) (off := 457) hx hb dX3_add_1 (by decide) (by rw [h1_15]; decide) (by decide) ?_
                              refine lv_lload (pc := 458) hx hb dX3_add_458 (lv_at hl 3 rfl) ?_
                              refine lv_lload_n (pc := 460) hx hb dX3_add_460 rfl (lv_at hl 2 rfl) ?_
                              refine qa_calld (pc := 461) (v := .int (if (z2 ^^^ (-9223372036854775808 : Int64)) ≤ (z4 ^^^ (-9223372036854775808 : Int64)) then (0 : Int32) else (1 : Int32))) (va_runS (As := [.long z4, .long z2]) (rest := []) ⟨hx, hb, hml, hown, hts⟩ (c_X3_isBelow l z4 z2) (va_cwS 2 hts (gd_S gm_273 gm_271 gm_272 gm_4) rfl rfl rfl (by decide +kernel) ⟨Nat.le_of_ble_eq_true rfl, Nat.le_of_ble_eq_true rfl⟩) qa_S0 rfl rfl hl.1 rfl (lv_room (Nat.le_of_ble_eq_true rfl)) dX3_add_461 ⟨Nat.zero_le _, Nat.zero_le _⟩) ?_
                              refine qa_joini (J := 472) (ls2 := ls) (rest2 := []) (if (if (z2 ^^^ (-9223372036854775808 : Int64)) ≤ (z4 ^^^ (-9223372036854775808 : Int64)) then (0 : Int32) else (1 : Int32)) = (0 : Int32) then (1 : Int32) else (0 : Int32)) (fun hj472 => ?_) ?_
                              · refine lv_if_ne (pc := 464) (tgt := 471) hx hb dX3_add_464 (by decide) (fun h464_16 => ?_) (fun h464_16 => ?_)
                                · refine lv_iconst (pc := 471) (v := (0 : Int32)) hx hb dX3_add_471 (by decide) ?_
                                  exact hj472 _ (Eq.symm (if_neg h464_16))
                                · refine lv_iconst (pc := 467) (v := (1 : Int32)) hx hb dX3_add_467 (by decide) ?_
                                  refine lv_goto (pc := 468) (tgt := 472) hx hb dX3_add_468 (by decide) ?_
                                  exact hj472 _ (Eq.symm (if_pos h464_16))
                              refine qa_calld (pc := 472) (v := .long (if (if (if (z2 ^^^ (-9223372036854775808 : Int64)) ≤ (z4 ^^^ (-9223372036854775808 : Int64)) then (0 : Int32) else (1 : Int32)) = (0 : Int32) then (1 : Int32) else (0 : Int32)) = (0 : Int32) then (0 : Int64) else (1 : Int64))) (va_runS (As := [.int (if (if (z2 ^^^ (-9223372036854775808 : Int64)) ≤ (z4 ^^^ (-9223372036854775808 : Int64)) then (0 : Int32) else (1 : Int32)) = (0 : Int32) then (1 : Int32) else (0 : Int32))]) (rest := []) ⟨hx, hb, hml, hown, hts⟩ (c_X3_truth l (if (if (z2 ^^^ (-9223372036854775808 : Int64)) ≤ (z4 ^^^ (-9223372036854775808 : Int64)) then (0 : Int32) else (1 : Int32)) = (0 : Int32) then (1 : Int32) else (0 : Int32))) (va_cwS 1 hts (gd_S gm_270 gm_268 gm_269 gm_4) rfl rfl rfl (by decide +kernel) ⟨Nat.le_of_ble_eq_true rfl, Nat.le_of_ble_eq_true rfl⟩) qa_S0 rfl rfl hl.1 rfl (lv_room (Nat.le_of_ble_eq_true rfl)) dX3_add_472 ⟨Nat.zero_le _, Nat.zero_le _⟩) ?_
                              subst hu
                              exact W.lret hx hb hr (fun t ht hW => ⟨rfl, by rw [ht]; exact hP, hS.F ht⟩) hS.2.2 dX3_add_475
                            · have hu := hu.trans (if_neg h1_15)
                              have n1_13 : ¬ z1 = (61 : Int32) := h1_15
                              rcases Decidable.em (z1 = (64 : Int32)) with h1_17 | h1_17
                              · have hu := hu.trans (if_pos h1_17)
                                refine lv_lookup (pc := 1) (tgt := 261) (off := 260) hx hb dX3_add_1 (by decide) (by rw [h1_17]; decide) (by decide) ?_
                                refine lv_aload_n (pc := 261) hx hb dX3_add_261 rfl (lv_at hl 0 rfl) ?_
                                refine lv_lload_n (pc := 262) hx hb dX3_add_262 rfl (lv_at hl 2 rfl) ?_
                                refine lv_lload (pc := 263) hx hb dX3_add_263 (lv_at hl 3 rfl) ?_
                                refine lv_ladd (pc := 265) hx hb dX3_add_265 ?_
                                refine qa_calld (pc := 266) (v := .long (Int32.toInt64 (Int64.toInt32 (z2 + z4)))) (va_runS (As := [.long (z2 + z4)]) (rest := [.ref qO]) ⟨hx, hb, hml, hown, hts⟩ (c_X3_sx l (z2 + z4)) (va_cwS 1 hts (gd_S gm_262 gm_260 gm_261 gm_4) rfl rfl rfl (by decide +kernel) ⟨Nat.le_of_ble_eq_true rfl, Nat.le_of_ble_eq_true rfl⟩) qa_S0 rfl rfl hl.1 rfl (lv_room (Nat.le_of_ble_eq_true rfl)) dX3_add_266 ⟨Nat.zero_le _, Nat.zero_le _⟩) ?_
                                refine lv_lload_n (pc := 269) hx hb dX3_add_269 rfl (lv_at hl 2 rfl) ?_
                                refine qa_calld (pc := 270) (v := .long (Int32.toInt64 (Int64.toInt32 z2))) (va_runS (As := [.long z2]) (rest := [.long (Int32.toInt64 (Int64.toInt32 (z2 + z4))), .ref qO]) ⟨hx, hb, hml, hown, hts⟩ (c_X3_sx l z2) (va_cwS 1 hts (gd_S gm_262 gm_260 gm_261 gm_4) rfl rfl rfl (by decide +kernel) ⟨Nat.le_of_ble_eq_true rfl, Nat.le_of_ble_eq_true rfl⟩) qa_S0 rfl rfl hl.1 rfl (lv_room (Nat.le_of_ble_eq_true rfl)) dX3_add_270 ⟨Nat.zero_le _, Nat.zero_le _⟩) ?_
                                refine lv_lload (pc := 273) hx hb dX3_add_273 (lv_at hl 3 rfl) ?_
                                refine qa_calld (pc := 275) (v := .long (Int32.toInt64 (Int64.toInt32 z4))) (va_runS (As := [.long z4]) (rest := [.long (Int32.toInt64 (Int64.toInt32 z2)), .long (Int32.toInt64 (Int64.toInt32 (z2 + z4))), .ref qO]) ⟨hx, hb, hml, hown, hts⟩ (c_X3_sx l z4) (va_cwS 1 hts (gd_S gm_262 gm_260 gm_261 gm_4) rfl rfl rfl (by decide +kernel) ⟨Nat.le_of_ble_eq_true rfl, Nat.le_of_ble_eq_true rfl⟩) qa_S0 rfl rfl hl.1 rfl (lv_room (Nat.le_of_ble_eq_true rfl)) dX3_add_275 ⟨Nat.zero_le _, Nat.zero_le _⟩) ?_
                                refine lv_ladd (pc := 278) hx hb dX3_add_278 ?_
                                refine qa_joini (J := 288) (ls2 := ls) (rest2 := [.ref qO]) (if (Int32.toInt64 (Int64.toInt32 (z2 + z4))) = ((Int32.toInt64 (Int64.toInt32 z2)) + (Int32.toInt64 (Int64.toInt32 z4))) then (0 : Int32) else (1 : Int32)) (fun hj288 => ?_) ?_
                                · refine qa_lc_eq (pc := 279) (tgt := 287) hx hb dX3_add_279 dX3_add_280 (by decide) (fun h279_18 => ?_) (fun h279_18 => ?_)
                                  · refine lv_iconst (pc := 287) (v := (0 : Int32)) hx hb dX3_add_287 (by decide) ?_
                                    exact hj288 _ (Eq.symm (if_pos h279_18))
                                  · refine lv_iconst (pc := 283) (v := (1 : Int32)) hx hb dX3_add_283 (by decide) ?_
                                    refine lv_goto (pc := 284) (tgt := 288) hx hb dX3_add_284 (by decide) ?_
                                    exact hj288 _ (Eq.symm (if_neg h279_18))
                                refine lv_lload_n (pc := 288) hx hb dX3_add_288 rfl (lv_at hl 2 rfl) ?_
                                refine lv_lload (pc := 289) hx hb dX3_add_289 (lv_at hl 3 rfl) ?_
                                refine lv_ladd (pc := 291) hx hb dX3_add_291 ?_
                                refine qa_calld (pc := 292) (v := .long (Int32.toInt64 (Int64.toInt32 (z2 + z4)))) (va_runS (As := [.long (z2 + z4)]) (rest := [.int (if (Int32.toInt64 (Int64.toInt32 (z2 + z4))) = ((Int32.toInt64 (Int64.toInt32 z2)) + (Int32.toInt64 (Int64.toInt32 z4))) then (0 : Int32) else (1 : Int32)), .ref qO]) ⟨hx, hb, hml, hown, hts⟩ (c_X3_sx l (z2 + z4)) (va_cwS 1 hts (gd_S gm_262 gm_260 gm_261 gm_4) rfl rfl rfl (by decide +kernel) ⟨Nat.le_of_ble_eq_true rfl, Nat.le_of_ble_eq_true rfl⟩) qa_S0 rfl rfl hl.1 rfl (lv_room (Nat.le_of_ble_eq_true rfl)) dX3_add_292 ⟨Nat.zero_le _, Nat.zero_le _⟩) ?_
                                refine qa_calll (pc := 295) (wr := []) (wf := (wO cI cJ qO oRes oKno oGiv (if (Int32.toInt64 (Int64.toInt32 (z2 + z4))) = ((Int32.toInt64 (Int64.toInt32 z2)) + (Int32.toInt64 (Int64.toInt32 z4))) then (0 : Int32) else (1 : Int32)))) (va_runV (As := [.int (if (Int32.toInt64 (Int64.toInt32 (z2 + z4))) = ((Int32.toInt64 (Int64.toInt32 z2)) + (Int32.toInt64 (Int64.toInt32 z4))) then (0 : Int32) else (1 : Int32)), .long (Int32.toInt64 (Int64.toInt32 (z2 + z4)))]) (rest := []) ⟨hx, hb, hml, hown, hts⟩ (c_X3_trapIf l dC dI cI cJ qO s.heap.size oRes oKno oGiv oTrp (if (Int32.toInt64 (Int64.toInt32 (z2 + z4))) = ((Int32.toInt64 (Int64.toInt32 z2)) + (Int32.toInt64 (Int64.toInt32 z4))) then (0 : Int32) else (1 : Int32)) (Int32.toInt64 (Int64.toInt32 (z2 + z4))) (qa_bi qa_b0 qa_b1)) (cwV 2 hts (gd_V gm_267 gm_265 gm_266 gm_564 gm_4) rfl rfl rfl (by decide +kernel) ⟨Nat.le_of_ble_eq_true rfl, Nat.le_of_ble_eq_true rfl⟩) (qa_VM (q0 := 0) (q := ("LongMachine$Operation", TX3, 4)) hK hP rfl rfl hP hD) rfl rfl hl.1 rfl (lv_room (Nat.le_of_ble_eq_true rfl)) dX3_add_295 ⟨Nat.zero_le _, Nat.zero_le _⟩) hP hD hS hA [0] [] [0] rfl (by decide) rfl (by decide) (by decide) rfl rfl (by decide) (fun H locs hP hD hS => ?_)
                                subst hu
                                exact W.lret hx hb hr (fun t ht hW => ⟨rfl, by rw [ht]; exact hP, hS.F ht⟩) hS.2.2 dX3_add_298
                              · have hu := hu.trans (if_neg h1_17)
                                have n1_14 : ¬ z1 = (64 : Int32) := h1_17
                                rcases Decidable.em (z1 = (73 : Int32)) with h1_19 | h1_19
                                · have hu := hu.trans (if_pos h1_19)
                                  refine lv_lookup (pc := 1) (tgt := 299) (off := 298) hx hb dX3_add_1 (by decide) (by rw [h1_19]; decide) (by decide) ?_
                                  refine lv_aload_n (pc := 299) hx hb dX3_add_299 rfl (lv_at hl 0 rfl) ?_
                                  refine lv_lload_n (pc := 300) hx hb dX3_add_300 rfl (lv_at hl 2 rfl) ?_
                                  refine lv_lload (pc := 301) hx hb dX3_add_301 (lv_at hl 3 rfl) ?_
                                  refine lv_lsub (pc := 303) hx hb dX3_add_303 ?_
                                  refine qa_calld (pc := 304) (v := .long (Int32.toInt64 (Int64.toInt32 (z2 - z4)))) (va_runS (As := [.long (z2 - z4)]) (rest := [.ref qO]) ⟨hx, hb, hml, hown, hts⟩ (c_X3_sx l (z2 - z4)) (va_cwS 1 hts (gd_S gm_262 gm_260 gm_261 gm_4) rfl rfl rfl (by decide +kernel) ⟨Nat.le_of_ble_eq_true rfl, Nat.le_of_ble_eq_true rfl⟩) qa_S0 rfl rfl hl.1 rfl (lv_room (Nat.le_of_ble_eq_true rfl)) dX3_add_304 ⟨Nat.zero_le _, Nat.zero_le _⟩) ?_
                                  refine lv_lload_n (pc := 307) hx hb dX3_add_307 rfl (lv_at hl 2 rfl) ?_
                                  refine qa_calld (pc := 308) (v := .long (Int32.toInt64 (Int64.toInt32 z2))) (va_runS (As := [.long z2]) (rest := [.long (Int32.toInt64 (Int64.toInt32 (z2 - z4))), .ref qO]) ⟨hx, hb, hml, hown, hts⟩ (c_X3_sx l z2) (va_cwS 1 hts (gd_S gm_262 gm_260 gm_261 gm_4) rfl rfl rfl (by decide +kernel) ⟨Nat.le_of_ble_eq_true rfl, Nat.le_of_ble_eq_true rfl⟩) qa_S0 rfl rfl hl.1 rfl (lv_room (Nat.le_of_ble_eq_true rfl)) dX3_add_308 ⟨Nat.zero_le _, Nat.zero_le _⟩) ?_
                                  refine lv_lload (pc := 311) hx hb dX3_add_311 (lv_at hl 3 rfl) ?_
                                  refine qa_calld (pc := 313) (v := .long (Int32.toInt64 (Int64.toInt32 z4))) (va_runS (As := [.long z4]) (rest := [.long (Int32.toInt64 (Int64.toInt32 z2)), .long (Int32.toInt64 (Int64.toInt32 (z2 - z4))), .ref qO]) ⟨hx, hb, hml, hown, hts⟩ (c_X3_sx l z4) (va_cwS 1 hts (gd_S gm_262 gm_260 gm_261 gm_4) rfl rfl rfl (by decide +kernel) ⟨Nat.le_of_ble_eq_true rfl, Nat.le_of_ble_eq_true rfl⟩) qa_S0 rfl rfl hl.1 rfl (lv_room (Nat.le_of_ble_eq_true rfl)) dX3_add_313 ⟨Nat.zero_le _, Nat.zero_le _⟩) ?_
                                  refine lv_lsub (pc := 316) hx hb dX3_add_316 ?_
                                  refine qa_joini (J := 326) (ls2 := ls) (rest2 := [.ref qO]) (if (Int32.toInt64 (Int64.toInt32 (z2 - z4))) = ((Int32.toInt64 (Int64.toInt32 z2)) - (Int32.toInt64 (Int64.toInt32 z4))) then (0 : Int32) else (1 : Int32)) (fun hj326 => ?_) ?_
                                  · refine qa_lc_eq (pc := 317) (tgt := 325) hx hb dX3_add_317 dX3_add_318 (by decide) (fun h317_20 => ?_) (fun h317_20 => ?_)
                                    · refine lv_iconst (pc := 325) (v := (0 : Int32)) hx hb dX3_add_325 (by decide) ?_
                                      exact hj326 _ (Eq.symm (if_pos h317_20))
                                    · refine lv_iconst (pc := 321) (v := (1 : Int32)) hx hb dX3_add_321 (by decide) ?_
                                      refine lv_goto (pc := 322) (tgt := 326) hx hb dX3_add_322 (by decide) ?_
                                      exact hj326 _ (Eq.symm (if_neg h317_20))
                                  refine lv_lload_n (pc := 326) hx hb dX3_add_326 rfl (lv_at hl 2 rfl) ?_
                                  refine lv_lload (pc := 327) hx hb dX3_add_327 (lv_at hl 3 rfl) ?_
                                  refine lv_lsub (pc := 329) hx hb dX3_add_329 ?_
                                  refine qa_calld (pc := 330) (v := .long (Int32.toInt64 (Int64.toInt32 (z2 - z4)))) (va_runS (As := [.long (z2 - z4)]) (rest := [.int (if (Int32.toInt64 (Int64.toInt32 (z2 - z4))) = ((Int32.toInt64 (Int64.toInt32 z2)) - (Int32.toInt64 (Int64.toInt32 z4))) then (0 : Int32) else (1 : Int32)), .ref qO]) ⟨hx, hb, hml, hown, hts⟩ (c_X3_sx l (z2 - z4)) (va_cwS 1 hts (gd_S gm_262 gm_260 gm_261 gm_4) rfl rfl rfl (by decide +kernel) ⟨Nat.le_of_ble_eq_true rfl, Nat.le_of_ble_eq_true rfl⟩) qa_S0 rfl rfl hl.1 rfl (lv_room (Nat.le_of_ble_eq_true rfl)) dX3_add_330 ⟨Nat.zero_le _, Nat.zero_le _⟩) ?_
                                  refine qa_calll (pc := 333) (wr := []) (wf := (wO cI cJ qO oRes oKno oGiv (if (Int32.toInt64 (Int64.toInt32 (z2 - z4))) = ((Int32.toInt64 (Int64.toInt32 z2)) - (Int32.toInt64 (Int64.toInt32 z4))) then (0 : Int32) else (1 : Int32)))) (va_runV (As := [.int (if (Int32.toInt64 (Int64.toInt32 (z2 - z4))) = ((Int32.toInt64 (Int64.toInt32 z2)) - (Int32.toInt64 (Int64.toInt32 z4))) then (0 : Int32) else (1 : Int32)), .long (Int32.toInt64 (Int64.toInt32 (z2 - z4)))]) (rest := []) ⟨hx, hb, hml, hown, hts⟩ (c_X3_trapIf l dC dI cI cJ qO s.heap.size oRes oKno oGiv oTrp (if (Int32.toInt64 (Int64.toInt32 (z2 - z4))) = ((Int32.toInt64 (Int64.toInt32 z2)) - (Int32.toInt64 (Int64.toInt32 z4))) then (0 : Int32) else (1 : Int32)) (Int32.toInt64 (Int64.toInt32 (z2 - z4))) (qa_bi qa_b0 qa_b1)) (cwV 2 hts (gd_V gm_267 gm_265 gm_266 gm_564 gm_4) rfl rfl rfl (by decide +kernel) ⟨Nat.le_of_ble_eq_true rfl, Nat.le_of_ble_eq_true rfl⟩) (qa_VM (q0 := 0) (q := ("LongMachine$Operation", TX3, 4)) hK hP rfl rfl hP hD) rfl rfl hl.1 rfl (lv_room (Nat.le_of_ble_eq_true rfl)) dX3_add_333 ⟨Nat.zero_le _, Nat.zero_le _⟩) hP hD hS hA [0] [] [0] rfl (by decide) rfl (by decide) (by decide) rfl rfl (by decide) (fun H locs hP hD hS => ?_)
                                  subst hu
                                  exact W.lret hx hb hr (fun t ht hW => ⟨rfl, by rw [ht]; exact hP, hS.F ht⟩) hS.2.2 dX3_add_336
                                · have hu := hu.trans (if_neg h1_19)
                                  have n1_15 : ¬ z1 = (73 : Int32) := h1_19
                                  rcases Decidable.em (z1 = (77 : Int32)) with h1_21 | h1_21
                                  · have hu := hu.trans (if_pos h1_21)
                                    refine lv_lookup (pc := 1) (tgt := 416) (off := 415) hx hb dX3_add_1 (by decide) (by rw [h1_21]; decide) (by decide) ?_
                                    refine lv_lload_n (pc := 416) hx hb dX3_add_416 rfl (lv_at hl 2 rfl) ?_
                                    refine lv_lload (pc := 417) hx hb dX3_add_417 (lv_at hl 3 rfl) ?_
                                    refine qa_joini (J := 428) (ls2 := ls) (rest2 := []) (if z4 ≤ z2 then (0 : Int32) else (1 : Int32)) (fun hj428 => ?_) ?_
                                    · refine qa_lc_ge (pc := 419) (tgt := 427) hx hb dX3_add_419 dX3_add_420 (by decide) (fun h419_22 => ?_) (fun h419_22 => ?_)
                                      · refine lv_iconst (pc := 427) (v := (0 : Int32)) hx hb dX3_add_427 (by decide) ?_
                                        exact hj428 _ (Eq.symm (if_pos h419_22))
                                      · refine lv_iconst (pc := 423) (v := (1 : Int32)) hx hb dX3_add_423 (by decide) ?_
                                        refine lv_goto (pc := 424) (tgt := 428) hx hb dX3_add_424 (by decide) ?_
                                        exact hj428 _ (Eq.symm (if_neg h419_22))
                                    refine qa_calld (pc := 428) (v := .long (if (if z4 ≤ z2 then (0 : Int32) else (1 : Int32)) = (0 : Int32) then (0 : Int64) else (1 : Int64))) (va_runS (As := [.int (if z4 ≤ z2 then (0 : Int32) else (1 : Int32))]) (rest := []) ⟨hx, hb, hml, hown, hts⟩ (c_X3_truth l (if z4 ≤ z2 then (0 : Int32) else (1 : Int32))) (va_cwS 1 hts (gd_S gm_270 gm_268 gm_269 gm_4) rfl rfl rfl (by decide +kernel) ⟨Nat.le_of_ble_eq_true rfl, Nat.le_of_ble_eq_true rfl⟩) qa_S0 rfl rfl hl.1 rfl (lv_room (Nat.le_of_ble_eq_true rfl)) dX3_add_428 ⟨Nat.zero_le _, Nat.zero_le _⟩) ?_
                                    subst hu
                                    exact W.lret hx hb hr (fun t ht hW => ⟨rfl, by rw [ht]; exact hP, hS.F ht⟩) hS.2.2 dX3_add_431
                                  · have hu := hu.trans (if_neg h1_21)
                                    have n1_16 : ¬ z1 = (77 : Int32) := h1_21
                                    rcases Decidable.em (z1 = (96 : Int32)) with h1_23 | h1_23
                                    · have hu := hu.trans (if_pos h1_23)
                                      refine lv_lookup (pc := 1) (tgt := 337) (off := 336) hx hb dX3_add_1 (by decide) (by rw [h1_23]; decide) (by decide) ?_
                                      refine lv_aload_n (pc := 337) hx hb dX3_add_337 rfl (lv_at hl 0 rfl) ?_
                                      refine lv_lload_n (pc := 338) hx hb dX3_add_338 rfl (lv_at hl 2 rfl) ?_
                                      refine lv_lload_n (pc := 339) hx hb dX3_add_339 rfl (lv_at hl 2 rfl) ?_
                                      refine lv_lload (pc := 340) hx hb dX3_add_340 (lv_at hl 3 rfl) ?_
                                      refine lv_ladd (pc := 342) hx hb dX3_add_342 ?_
                                      refine lv_lxor (pc := 343) hx hb dX3_add_343 ?_
                                      refine lv_lload (pc := 344) hx hb dX3_add_344 (lv_at hl 3 rfl) ?_
                                      refine lv_lload_n (pc := 346) hx hb dX3_add_346 rfl (lv_at hl 2 rfl) ?_
                                      refine lv_lload (pc := 347) hx hb dX3_add_347 (lv_at hl 3 rfl) ?_
                                      refine lv_ladd (pc := 349) hx hb dX3_add_349 ?_
                                      refine lv_lxor (pc := 350) hx hb dX3_add_350 ?_
                                      refine lv_land (pc := 351) hx hb dX3_add_351 ?_
                                      refine lv_lconst (pc := 352) (v := (0 : Int64)) hx hb dX3_add_352 (by decide) ?_
                                      refine qa_joini (J := 362) (ls2 := ls) (rest2 := [.ref qO]) (if (0 : Int64) ≤ ((z2 ^^^ (z2 + z4)) &&& (z4 ^^^ (z2 + z4))) then (0 : Int32) else (1 : Int32)) (fun hj362 => ?_) ?_
                                      · refine qa_lc_ge (pc := 353) (tgt := 361) hx hb dX3_add_353 dX3_add_354 (by decide) (fun h353_24 => ?_) (fun h353_24 => ?_)
                                        · refine lv_iconst (pc := 361) (v := (0 : Int32)) hx hb dX3_add_361 (by decide) ?_
                                          exact hj362 _ (Eq.symm (if_pos h353_24))
                                        · refine lv_iconst (pc := 357) (v := (1 : Int32)) hx hb dX3_add_357 (by decide) ?_
                                          refine lv_goto (pc := 358) (tgt := 362) hx hb dX3_add_358 (by decide) ?_
                                          exact hj362 _ (Eq.symm (if_neg h353_24))
                                      refine lv_lload_n (pc := 362) hx hb dX3_add_362 rfl (lv_at hl 2 rfl) ?_
                                      refine lv_lload (pc := 363) hx hb dX3_add_363 (lv_at hl 3 rfl) ?_
                                      refine lv_ladd (pc := 365) hx hb dX3_add_365 ?_
                                      refine qa_calll (pc := 366) (wr := []) (wf := (wO cI cJ qO oRes oKno oGiv (if (0 : Int64) ≤ ((z2 ^^^ (z2 + z4)) &&& (z4 ^^^ (z2 + z4))) then (0 : Int32) else (1 : Int32)))) (va_runV (As := [.int (if (0 : Int64) ≤ ((z2 ^^^ (z2 + z4)) &&& (z4 ^^^ (z2 + z4))) then (0 : Int32) else (1 : Int32)), .long (z2 + z4)]) (rest := []) ⟨hx, hb, hml, hown, hts⟩ (c_X3_trapIf l dC dI cI cJ qO s.heap.size oRes oKno oGiv oTrp (if (0 : Int64) ≤ ((z2 ^^^ (z2 + z4)) &&& (z4 ^^^ (z2 + z4))) then (0 : Int32) else (1 : Int32)) (z2 + z4) (qa_bi qa_b0 qa_b1)) (cwV 2 hts (gd_V gm_267 gm_265 gm_266 gm_564 gm_4) rfl rfl rfl (by decide +kernel) ⟨Nat.le_of_ble_eq_true rfl, Nat.le_of_ble_eq_true rfl⟩) (qa_VM (q0 := 0) (q := ("LongMachine$Operation", TX3, 4)) hK hP rfl rfl hP hD) rfl rfl hl.1 rfl (lv_room (Nat.le_of_ble_eq_true rfl)) dX3_add_366 ⟨Nat.zero_le _, Nat.zero_le _⟩) hP hD hS hA [0] [] [0] rfl (by decide) rfl (by decide) (by decide) rfl rfl (by decide) (fun H locs hP hD hS => ?_)
                                      subst hu
                                      exact W.lret hx hb hr (fun t ht hW => ⟨rfl, by rw [ht]; exact hP, hS.F ht⟩) hS.2.2 dX3_add_369
                                    · have hu := hu.trans (if_neg h1_23)
                                      have n1_17 : ¬ z1 = (96 : Int32) := h1_23
                                      rcases Decidable.em (z1 = (105 : Int32)) with h1_25 | h1_25
                                      · have hu := hu.trans (if_pos h1_25)
                                        refine lv_lookup (pc := 1) (tgt := 370) (off := 369) hx hb dX3_add_1 (by decide) (by rw [h1_25]; decide) (by decide) ?_
                                        refine lv_aload_n (pc := 370) hx hb dX3_add_370 rfl (lv_at hl 0 rfl) ?_
                                        refine lv_lload_n (pc := 371) hx hb dX3_add_371 rfl (lv_at hl 2 rfl) ?_
                                        refine lv_lload (pc := 372) hx hb dX3_add_372 (lv_at hl 3 rfl) ?_
                                        refine lv_lxor (pc := 374) hx hb dX3_add_374 ?_
                                        refine lv_lload_n (pc := 375) hx hb dX3_add_375 rfl (lv_at hl 2 rfl) ?_
                                        refine lv_lload_n (pc := 376) hx hb dX3_add_376 rfl (lv_at hl 2 rfl) ?_
                                        refine lv_lload (pc := 377) hx hb dX3_add_377 (lv_at hl 3 rfl) ?_
                                        refine lv_lsub (pc := 379) hx hb dX3_add_379 ?_
                                        refine lv_lxor (pc := 380) hx hb dX3_add_380 ?_
                                        refine lv_land (pc := 381) hx hb dX3_add_381 ?_
                                        refine lv_lconst (pc := 382) (v := (0 : Int64)) hx hb dX3_add_382 (by decide) ?_
                                        refine qa_joini (J := 392) (ls2 := ls) (rest2 := [.ref qO]) (if (0 : Int64) ≤ ((z2 ^^^ z4) &&& (z2 ^^^ (z2 - z4))) then (0 : Int32) else (1 : Int32)) (fun hj392 => ?_) ?_
                                        · refine qa_lc_ge (pc := 383) (tgt := 391) hx hb dX3_add_383 dX3_add_384 (by decide) (fun h383_26 => ?_) (fun h383_26 => ?_)
                                          · refine lv_iconst (pc := 391) (v := (0 : Int32)) hx hb dX3_add_391 (by decide) ?_
                                            exact hj392 _ (Eq.symm (if_pos h383_26))
                                          · refine lv_iconst (pc := 387) (v := (1 : Int32)) hx hb dX3_add_387 (by decide) ?_
                                            refine lv_goto (pc := 388) (tgt := 392) hx hb dX3_add_388 (by decide) ?_
                                            exact hj392 _ (Eq.symm (if_neg h383_26))
                                        refine lv_lload_n (pc := 392) hx hb dX3_add_392 rfl (lv_at hl 2 rfl) ?_
                                        refine lv_lload (pc := 393) hx hb dX3_add_393 (lv_at hl 3 rfl) ?_
                                        refine lv_lsub (pc := 395) hx hb dX3_add_395 ?_
                                        refine qa_calll (pc := 396) (wr := []) (wf := (wO cI cJ qO oRes oKno oGiv (if (0 : Int64) ≤ ((z2 ^^^ z4) &&& (z2 ^^^ (z2 - z4))) then (0 : Int32) else (1 : Int32)))) (va_runV (As := [.int (if (0 : Int64) ≤ ((z2 ^^^ z4) &&& (z2 ^^^ (z2 - z4))) then (0 : Int32) else (1 : Int32)), .long (z2 - z4)]) (rest := []) ⟨hx, hb, hml, hown, hts⟩ (c_X3_trapIf l dC dI cI cJ qO s.heap.size oRes oKno oGiv oTrp (if (0 : Int64) ≤ ((z2 ^^^ z4) &&& (z2 ^^^ (z2 - z4))) then (0 : Int32) else (1 : Int32)) (z2 - z4) (qa_bi qa_b0 qa_b1)) (cwV 2 hts (gd_V gm_267 gm_265 gm_266 gm_564 gm_4) rfl rfl rfl (by decide +kernel) ⟨Nat.le_of_ble_eq_true rfl, Nat.le_of_ble_eq_true rfl⟩) (qa_VM (q0 := 0) (q := ("LongMachine$Operation", TX3, 4)) hK hP rfl rfl hP hD) rfl rfl hl.1 rfl (lv_room (Nat.le_of_ble_eq_true rfl)) dX3_add_396 ⟨Nat.zero_le _, Nat.zero_le _⟩) hP hD hS hA [0] [] [0] rfl (by decide) rfl (by decide) (by decide) rfl rfl (by decide) (fun H locs hP hD hS => ?_)
                                        subst hu
                                        exact W.lret hx hb hr (fun t ht hW => ⟨rfl, by rw [ht]; exact hP, hS.F ht⟩) hS.2.2 dX3_add_399
                                      · have hu := hu.trans (if_neg h1_25)
                                        have n1_18 : ¬ z1 = (105 : Int32) := h1_25
                                        rcases Decidable.em (z1 = (109 : Int32)) with h1_27 | h1_27
                                        · have hu := hu.trans (if_pos h1_27)
                                          refine lv_lookup (pc := 1) (tgt := 432) (off := 431) hx hb dX3_add_1 (by decide) (by rw [h1_27]; decide) (by decide) ?_
                                          refine lv_lload_n (pc := 432) hx hb dX3_add_432 rfl (lv_at hl 2 rfl) ?_
                                          refine lv_lload (pc := 433) hx hb dX3_add_433 (lv_at hl 3 rfl) ?_
                                          refine qa_joini (J := 444) (ls2 := ls) (rest2 := []) (if z4 < z2 then (0 : Int32) else (1 : Int32)) (fun hj444 => ?_) ?_
                                          · refine qa_lc_gt (pc := 435) (tgt := 443) hx hb dX3_add_435 dX3_add_436 (by decide) (fun h435_28 => ?_) (fun h435_28 => ?_)
                                            · refine lv_iconst (pc := 443) (v := (0 : Int32)) hx hb dX3_add_443 (by decide) ?_
                                              exact hj444 _ (Eq.symm (if_pos h435_28))
                                            · refine lv_iconst (pc := 439) (v := (1 : Int32)) hx hb dX3_add_439 (by decide) ?_
                                              refine lv_goto (pc := 440) (tgt := 444) hx hb dX3_add_440 (by decide) ?_
                                              exact hj444 _ (Eq.symm (if_neg h435_28))
                                          refine qa_calld (pc := 444) (v := .long (if (if z4 < z2 then (0 : Int32) else (1 : Int32)) = (0 : Int32) then (0 : Int64) else (1 : Int64))) (va_runS (As := [.int (if z4 < z2 then (0 : Int32) else (1 : Int32))]) (rest := []) ⟨hx, hb, hml, hown, hts⟩ (c_X3_truth l (if z4 < z2 then (0 : Int32) else (1 : Int32))) (va_cwS 1 hts (gd_S gm_270 gm_268 gm_269 gm_4) rfl rfl rfl (by decide +kernel) ⟨Nat.le_of_ble_eq_true rfl, Nat.le_of_ble_eq_true rfl⟩) qa_S0 rfl rfl hl.1 rfl (lv_room (Nat.le_of_ble_eq_true rfl)) dX3_add_444 ⟨Nat.zero_le _, Nat.zero_le _⟩) ?_
                                          subst hu
                                          exact W.lret hx hb hr (fun t ht hW => ⟨rfl, by rw [ht]; exact hP, hS.F ht⟩) hS.2.2 dX3_add_447
                                        · have hu := hu.trans (if_neg h1_27)
                                          have n1_19 : ¬ z1 = (109 : Int32) := h1_27
                                          refine lv_lookup (pc := 1) (tgt := 483) (off := 482) hx hb dX3_add_1 (by decide) ((lv_osw n1_0 (by decide)).trans ((lv_osw n1_1 (by decide)).trans ((lv_osw n1_2 (by decide)).trans ((lv_osw n1_3 (by decide)).trans ((lv_osw n1_4 (by decide)).trans ((lv_osw n1_5 (by decide)).trans ((lv_osw n1_6 (by decide)).trans ((lv_osw n1_7 (by decide)).trans ((lv_osw n1_8 (by decide)).trans ((lv_osw n1_9 (by decide)).trans ((lv_osw n1_10 (by decide)).trans ((lv_osw n1_11 (by decide)).trans ((lv_osw n1_12 (by decide)).trans ((lv_osw n1_13 (by decide)).trans ((lv_osw n1_14 (by decide)).trans ((lv_osw n1_15 (by decide)).trans ((lv_osw n1_16 (by decide)).trans ((lv_osw n1_17 (by decide)).trans ((lv_osw n1_18 (by decide)).trans ((lv_osw n1_19 (by decide)).trans (rfl))))))))))))))))))))) (by decide) ?_
                                          refine lv_aload_n (pc := 483) hx hb dX3_add_483 rfl (lv_at hl 0 rfl) ?_
                                          refine lv_iconst (pc := 484) (v := (0 : Int32)) hx hb dX3_add_484 (by decide) ?_
                                          refine va_put (D := (dC, dI)) (pc := 485) (ci := 3) (v := .int (0 : Int32)) (ty := .boolean) (C := "LongMachine$Operation") (T := TX3) (N := 4) hx hb hts ui_X3 tyX3 tyX3_ok nmX3 hown hK hP hD hS 0 rfl rfl 1 (by decide) (hts _ gm_61) (fun _ h9 => h9) rfl (by decide +kernel) rfl rfl (Nat.le_of_ble_eq_true rfl) dX3_add_485 (fun H locs hP hD hS => ?_)
                                          have hP : va_P (dC, dI) vwCl (wO cI cJ qO oRes (0 : Int32) oGiv oTrp) H := hP
                                          have hD : va_D A (wO cI cJ qO oRes (0 : Int32) oGiv oTrp) := hD
                                          refine lv_lconst (pc := 488) (v := (0 : Int64)) hx hb dX3_add_488 (by decide) ?_
                                          subst hu
                                          exact W.lret hx hb hr (fun t ht hW => ⟨rfl, by rw [ht]; exact hP, hS.F ht⟩) hS.2.2 dX3_add_489
set_option maxRecDepth 100000 in
set_option maxHeartbeats 4000000 in
theorem c_X3_onlyIf (l : Launch) (dC : Nat → ClassId) (dI : Nat → Nat → Nat) (cI cJ : ClassId) (qO : Nat) (sz : Nat) (oRes : Int64) (oKno : Int32) (oGiv : Int32) (oTrp : Int32) (z1 : Int32) (z2 : Int64) (hz1 : z1 = 0 ∨ z1 = 1) : Met l yX3_onlyIf (.code yX3_onlyIf cX3_onlyIf 4 (some .long) :: vG) ({ frames := 0, cells := 0, slots := 0, locals := 0 }) (va_Pc [.ref qO, .int z1, .long z2] (qa_pre (dC, dI) vwCl (wO cI cJ qO oRes oKno oGiv oTrp) [(cI, .int), (cJ, .long)] sz)) (qa_mod (some (.long z2)) (dC, dI) vwCl (wO cI cJ qO oRes oKno z1 oTrp) (va_A (wO cI cJ qO oRes oKno oGiv oTrp) sz)) 0 0 (va_A (wO cI cJ qO oRes oKno oGiv oTrp) sz) := by
  refine Met.ofW (cc := cX3_onlyIf) (maxL := 4) (ret := (some .long)) (by decide) rfl ?_
  intro p e s m args below meth c s₁ B hml hv
  obtain ⟨rfl, hsz, hP, hK, hD0⟩ := hv
  have hx := B.exec
  have hb := B.bytes
  have hr := B.returns
  have hts : ∀ w ∈ vG, w.before _ s = true := fun w h => atoms_spec (ws := (.code yX3_onlyIf cX3_onlyIf 4 (some .long) :: vG)) B.pre w (List.mem_cons_of_mem _ h)
  have hown : s.vm.findClass "LongMachine$Operation" = some m.cls := findClass_of_methodNamed B.named
  have hlocks := B.notSynchronized
  subst hsz
  have hD := hD0.self (sz := s.heap.size)
  generalize hAe : va_A (wO cI cJ qO oRes oKno oGiv oTrp) s.heap.size = A at hD ⊢
  have hA : ∀ q : Nat, s.heap.size ≤ q → A q := fun q h => by rw [← hAe]; exact Or.inr h
  have hS : va_S A s.heap s.heap [] := va_S.rf
  have hl := lv_entry ([.ref qO, .int z1, .long z2]) (n := 4) (Nat.le_of_ble_eq_true rfl)
  rw [lg_entry_eq]
  generalize (lg_sl ([.ref qO, .int z1, .long z2]) ++ List.replicate (4 - (lg_sl ([.ref qO, .int z1, .long z2])).length) Slot.unset).toArray = ls at hl ⊢
  have hl : lv_has ls 4 [(0, .ref qO), (1, .int z1), (2, .long z2)] := hl
  refine lv_aload_n (pc := 0) hx hb dX3_onlyIf_0 rfl (lv_at hl 0 rfl) ?_
  refine lv_iload_n (pc := 1) hx hb dX3_onlyIf_1 rfl (lv_at hl 1 rfl) ?_
  refine va_put (D := (dC, dI)) (pc := 2) (ci := 3) (v := .int z1) (ty := .boolean) (C := "LongMachine$Operation") (T := TX3) (N := 4) hx hb hts ui_X3 tyX3 tyX3_ok nmX3 hown hK hP hD hS 0 rfl rfl 2 (by decide) (hts _ gm_63) (fun _ h9 => h9) rfl (by decide +kernel) (qa_nb hz1) rfl (Nat.le_of_ble_eq_true rfl) dX3_onlyIf_2 (fun H locs hP hD hS => ?_)
  have hP : va_P (dC, dI) vwCl (wO cI cJ qO oRes oKno z1 oTrp) H := hP
  have hD : va_D A (wO cI cJ qO oRes oKno z1 oTrp) := hD
  refine lv_lload_n (pc := 5) hx hb dX3_onlyIf_5 rfl (lv_at hl 2 rfl) ?_
  exact W.lret hx hb hr (fun t ht hW => ⟨rfl, by rw [ht]; exact hP, hS.F ht⟩) hS.2.2 dX3_onlyIf_6
def f_X3_combine (z1 : Int32) (z2 : Int64) (z4 : Int64) (oKno : Int32) (oGiv : Int32) : Int64 × Int32 × Int32 := (if z1 = (0 : Int32) then ((z2 &&& z4), oKno, oGiv) else (if z1 = (8 : Int32) then ((z2 &&& (z4 ^^^ (-1 : Int64))), oKno, oGiv) else (if z1 = (20 : Int32) then (z4, oKno, (if (z2 &&& (1 : Int64)) = (0 : Int64) then (0 : Int32) else (1 : Int32))) else (if z1 = (22 : Int32) then (z4, oKno, (if (z2 &&& (1 : Int64)) = (0 : Int64) then (1 : Int32) else (0 : Int32))) else (if z1 = (32 : Int32) then ((z2 ||| z4), oKno, oGiv) else (if z1 = (36 : Int32) then (z4, oKno, (if z2 = (0 : Int64) then (1 : Int32) else (0 : Int32))) else (if z1 = (38 : Int32) then (z4, oKno, (if z2 = (0 : Int64) then (0 : Int32) else (1 : Int32))) else (if z1 = (40 : Int32) then ((z2 ||| (z4 ^^^ (-1 : Int64))), oKno, oGiv) else (if z1 = (64 : Int32) then ((z2 ^^^ z4), oKno, oGiv) else (if z1 = (68 : Int32) then (z4, oKno, (if (0 : Int64) ≤ z2 then (0 : Int32) else (1 : Int32))) else (if z1 = (70 : Int32) then (z4, oKno, (if z2 < (0 : Int64) then (0 : Int32) else (1 : Int32))) else (if z1 = (72 : Int32) then ((z2 ^^^ (z4 ^^^ (-1 : Int64))), oKno, oGiv) else (if z1 = (100 : Int32) then (z4, oKno, (if (0 : Int64) < z2 then (0 : Int32) else (1 : Int32))) else (if z1 = (102 : Int32) then (z4, oKno, (if z2 ≤ (0 : Int64) then (0 : Int32) else (1 : Int32))) else ((0 : Int64), (0 : Int32), oGiv)))))))))))))))
set_option maxRecDepth 100000 in
set_option maxHeartbeats 4000000 in
theorem c_X3_combine (l : Launch) (dC : Nat → ClassId) (dI : Nat → Nat → Nat) (cI cJ : ClassId) (qO : Nat) (sz : Nat) (oRes : Int64) (oKno : Int32) (oGiv : Int32) (oTrp : Int32) (z1 : Int32) (z2 : Int64) (z4 : Int64) : Met l yX3_combine (.code yX3_combine cX3_combine 6 (some .long) :: vG) ({ frames := 1, cells := 0, slots := 0, locals := 23 }) (va_Pc [.ref qO, .int z1, .long z2, .long z4] (qa_pre (dC, dI) vwCl (wO cI cJ qO oRes oKno oGiv oTrp) [(cI, .int), (cJ, .long)] sz)) (qa_mod (some (.long ((f_X3_combine z1 z2 z4 oKno oGiv).1))) (dC, dI) vwCl (wO cI cJ qO oRes ((f_X3_combine z1 z2 z4 oKno oGiv).2.1) ((f_X3_combine z1 z2 z4 oKno oGiv).2.2) oTrp) (va_A (wO cI cJ qO oRes oKno oGiv oTrp) sz)) 0 0 (va_A (wO cI cJ qO oRes oKno oGiv oTrp) sz) := by
  refine Met.ofW (cc := cX3_combine) (maxL := 6) (ret := (some .long)) (by decide) rfl ?_
  intro p e s m args below meth c s₁ B hml hv
  obtain ⟨rfl, hsz, hP, hK, hD0⟩ := hv
  have hx := B.exec
  have hb := B.bytes
  have hr := B.returns
  have hts : ∀ w ∈ vG, w.before _ s = true := fun w h => atoms_spec (ws := (.code yX3_combine cX3_combine 6 (some .long) :: vG)) B.pre w (List.mem_cons_of_mem _ h)
  have hown : s.vm.findClass "LongMachine$Operation" = some m.cls := findClass_of_methodNamed B.named
  have hlocks := B.notSynchronized
  subst hsz
  have hD := hD0.self (sz := s.heap.size)
  generalize hAe : va_A (wO cI cJ qO oRes oKno oGiv oTrp) s.heap.size = A at hD ⊢
  have hA : ∀ q : Nat, s.heap.size ≤ q → A q := fun q h => by rw [← hAe]; exact Or.inr h
  have hS : va_S A s.heap s.heap [] := va_S.rf
  have hl := lv_entry ([.ref qO, .int z1, .long z2, .long z4]) (n := 6) (Nat.le_of_ble_eq_true rfl)
  rw [lg_entry_eq]
  generalize (lg_sl ([.ref qO, .int z1, .long z2, .long z4]) ++ List.replicate (6 - (lg_sl ([.ref qO, .int z1, .long z2, .long z4])).length) Slot.unset).toArray = ls at hl ⊢
  have hl : lv_has ls 6 [(0, .ref qO), (1, .int z1), (2, .long z2), (4, .long z4)] := hl
  obtain ⟨u, hu⟩ : ∃ u, u = f_X3_combine z1 z2 z4 oKno oGiv := ⟨_, rfl⟩
  rw [← hu]
  unfold f_X3_combine at hu
  refine lv_iload_n (pc := 0) hx hb dX3_combine_0 rfl (lv_at hl 1 rfl) ?_
  rcases Decidable.em (z1 = (0 : Int32)) with h1_1 | h1_1
  · have hu := hu.trans (if_pos h1_1)
    refine lv_lookup (pc := 1) (tgt := 124) (off := 123) hx hb dX3_combine_1 (by decide) (by rw [h1_1]; decide) (by decide) ?_
    refine lv_lload_n (pc := 124) hx hb dX3_combine_124 rfl (lv_at hl 2 rfl) ?_
    refine lv_lload (pc := 125) hx hb dX3_combine_125 (lv_at hl 3 rfl) ?_
    refine lv_land (pc := 127) hx hb dX3_combine_127 ?_
    subst hu
    exact W.lret hx hb hr (fun t ht hW => ⟨rfl, by rw [ht]; exact hP, hS.F ht⟩) hS.2.2 dX3_combine_128
  · have hu := hu.trans (if_neg h1_1)
    have n1_0 : ¬ z1 = (0 : Int32) := h1_1
    rcases Decidable.em (z1 = (8 : Int32)) with h1_2 | h1_2
    · have hu := hu.trans (if_pos h1_2)
      refine lv_lookup (pc := 1) (tgt := 129) (off := 128) hx hb dX3_combine_1 (by decide) (by rw [h1_2]; decide) (by decide) ?_
      refine lv_lload_n (pc := 129) hx hb dX3_combine_129 rfl (lv_at hl 2 rfl) ?_
      refine lv_lload (pc := 130) hx hb dX3_combine_130 (lv_at hl 3 rfl) ?_
      refine lv_ldc2 (pc := 132) (v := (-1 : Int64)) hx hb hown (hts _ gm_282) dX3_combine_132 ?_
      refine lv_lxor (pc := 135) hx hb dX3_combine_135 ?_
      refine lv_land (pc := 136) hx hb dX3_combine_136 ?_
      subst hu
      exact W.lret hx hb hr (fun t ht hW => ⟨rfl, by rw [ht]; exact hP, hS.F ht⟩) hS.2.2 dX3_combine_137
    · have hu := hu.trans (if_neg h1_2)
      have n1_1 : ¬ z1 = (8 : Int32) := h1_2
      rcases Decidable.em (z1 = (20 : Int32)) with h1_3 | h1_3
      · have hu := hu.trans (if_pos h1_3)
        refine lv_lookup (pc := 1) (tgt := 166) (off := 165) hx hb dX3_combine_1 (by decide) (by rw [h1_3]; decide) (by decide) ?_
        refine lv_aload_n (pc := 166) hx hb dX3_combine_166 rfl (lv_at hl 0 rfl) ?_
        refine lv_lload_n (pc := 167) hx hb dX3_combine_167 rfl (lv_at hl 2 rfl) ?_
        refine lv_lconst (pc := 168) (v := (1 : Int64)) hx hb dX3_combine_168 (by decide) ?_
        refine lv_land (pc := 169) hx hb dX3_combine_169 ?_
        refine lv_lconst (pc := 170) (v := (0 : Int64)) hx hb dX3_combine_170 (by decide) ?_
        refine qa_joini (J := 180) (ls2 := ls) (rest2 := [.ref qO]) (if (z2 &&& (1 : Int64)) = (0 : Int64) then (0 : Int32) else (1 : Int32)) (fun hj180 => ?_) ?_
        · refine qa_lc_eq (pc := 171) (tgt := 179) hx hb dX3_combine_171 dX3_combine_172 (by decide) (fun h171_4 => ?_) (fun h171_4 => ?_)
          · refine lv_iconst (pc := 179) (v := (0 : Int32)) hx hb dX3_combine_179 (by decide) ?_
            exact hj180 _ (Eq.symm (if_pos h171_4))
          · refine lv_iconst (pc := 175) (v := (1 : Int32)) hx hb dX3_combine_175 (by decide) ?_
            refine lv_goto (pc := 176) (tgt := 180) hx hb dX3_combine_176 (by decide) ?_
            exact hj180 _ (Eq.symm (if_neg h171_4))
        refine lv_lload (pc := 180) hx hb dX3_combine_180 (lv_at hl 3 rfl) ?_
        refine qa_calll (pc := 182) (wr := []) (wf := (wO cI cJ qO oRes oKno (if (z2 &&& (1 : Int64)) = (0 : Int64) then (0 : Int32) else (1 : Int32)) oTrp)) (va_runV (As := [.int (if (z2 &&& (1 : Int64)) = (0 : Int64) then (0 : Int32) else (1 : Int32)), .long z4]) (rest := []) ⟨hx, hb, hml, hown, hts⟩ (c_X3_onlyIf l dC dI cI cJ qO s.heap.size oRes oKno oGiv oTrp (if (z2 &&& (1 : Int64)) = (0 : Int64) then (0 : Int32) else (1 : Int32)) z4 (qa_bi qa_b0 qa_b1)) (cwV 2 hts (gd_V gm_285 gm_283 gm_284 gm_566 gm_4) rfl rfl rfl (by decide +kernel) ⟨Nat.le_of_ble_eq_true rfl, Nat.le_of_ble_eq_true rfl⟩) (qa_VM (q0 := 0) (q := ("LongMachine$Operation", TX3, 4)) hK hP rfl rfl hP hD) rfl rfl hl.1 rfl (lv_room (Nat.le_of_ble_eq_true rfl)) dX3_combine_182 ⟨Nat.zero_le _, Nat.zero_le _⟩) hP hD hS hA [0] [] [0] rfl (by decide) rfl (by decide) (by decide) rfl rfl (by decide) (fun H locs hP hD hS => ?_)
        subst hu
        exact W.lret hx hb hr (fun t ht hW => ⟨rfl, by rw [ht]; exact hP, hS.F ht⟩) hS.2.2 dX3_combine_185
      · have hu := hu.trans (if_neg h1_3)
        have n1_2 : ¬ z1 = (20 : Int32) := h1_3
        rcases Decidable.em (z1 = (22 : Int32)) with h1_5 | h1_5
        · have hu := hu.trans (if_pos h1_5)
          refine lv_lookup (pc := 1) (tgt := 186) (off := 185) hx hb dX3_combine_1 (by decide) (by rw [h1_5]; decide) (by decide) ?_
          refine lv_aload_n (pc := 186) hx hb dX3_combine_186 rfl (lv_at hl 0 rfl) ?_
          refine lv_lload_n (pc := 187) hx hb dX3_combine_187 rfl (lv_at hl 2 rfl) ?_
          refine lv_lconst (pc := 188) (v := (1 : Int64)) hx hb dX3_combine_188 (by decide) ?_
          refine lv_land (pc := 189) hx hb dX3_combine_189 ?_
          refine lv_lconst (pc := 190) (v := (0 : Int64)) hx hb dX3_combine_190 (by decide) ?_
          refine qa_joini (J := 200) (ls2 := ls) (rest2 := [.ref qO]) (if (z2 &&& (1 : Int64)) = (0 : Int64) then (1 : Int32) else (0 : Int32)) (fun hj200 => ?_) ?_
          · refine qa_lc_ne (pc := 191) (tgt := 199) hx hb dX3_combine_191 dX3_combine_192 (by decide) (fun h191_6 => ?_) (fun h191_6 => ?_)
            · refine lv_iconst (pc := 199) (v := (0 : Int32)) hx hb dX3_combine_199 (by decide) ?_
              exact hj200 _ (Eq.symm (if_neg h191_6))
            · refine lv_iconst (pc := 195) (v := (1 : Int32)) hx hb dX3_combine_195 (by decide) ?_
              refine lv_goto (pc := 196) (tgt := 200) hx hb dX3_combine_196 (by decide) ?_
              exact hj200 _ (Eq.symm (if_pos h191_6))
          refine lv_lload (pc := 200) hx hb dX3_combine_200 (lv_at hl 3 rfl) ?_
          refine qa_calll (pc := 202) (wr := []) (wf := (wO cI cJ qO oRes oKno (if (z2 &&& (1 : Int64)) = (0 : Int64) then (1 : Int32) else (0 : Int32)) oTrp)) (va_runV (As := [.int (if (z2 &&& (1 : Int64)) = (0 : Int64) then (1 : Int32) else (0 : Int32)), .long z4]) (rest := []) ⟨hx, hb, hml, hown, hts⟩ (c_X3_onlyIf l dC dI cI cJ qO s.heap.size oRes oKno oGiv oTrp (if (z2 &&& (1 : Int64)) = (0 : Int64) then (1 : Int32) else (0 : Int32)) z4 (qa_bi qa_b1 qa_b0)) (cwV 2 hts (gd_V gm_285 gm_283 gm_284 gm_566 gm_4) rfl rfl rfl (by decide +kernel) ⟨Nat.le_of_ble_eq_true rfl, Nat.le_of_ble_eq_true rfl⟩) (qa_VM (q0 := 0) (q := ("LongMachine$Operation", TX3, 4)) hK hP rfl rfl hP hD) rfl rfl hl.1 rfl (lv_room (Nat.le_of_ble_eq_true rfl)) dX3_combine_202 ⟨Nat.zero_le _, Nat.zero_le _⟩) hP hD hS hA [0] [] [0] rfl (by decide) rfl (by decide) (by decide) rfl rfl (by decide) (fun H locs hP hD hS => ?_)
          subst hu
          exact W.lret hx hb hr (fun t ht hW => ⟨rfl, by rw [ht]; exact hP, hS.F ht⟩) hS.2.2 dX3_combine_205
        · have hu := hu.trans (if_neg h1_5)
          have n1_3 : ¬ z1 = (22 : Int32) := h1_5
          rcases Decidable.em (z1 = (32 : Int32)) with h1_7 | h1_7
          · have hu := hu.trans (if_pos h1_7)
            refine lv_lookup (pc := 1) (tgt := 138) (off := 137) hx hb dX3_combine_1 (by decide) (by rw [h1_7]; decide) (by decide) ?_
            refine lv_lload_n (pc := 138) hx hb dX3_combine_138 rfl (lv_at hl 2 rfl) ?_
            refine lv_lload (pc := 139) hx hb dX3_combine_139 (lv_at hl 3 rfl) ?_
            refine lv_lor (pc := 141) hx hb dX3_combine_141 ?_
            subst hu
            exact W.lret hx hb hr (fun t ht hW => ⟨rfl, by rw [ht]; exact hP, hS.F ht⟩) hS.2.2 dX3_combine_142
          · have hu := hu.trans (if_neg h1_7)
            have n1_4 : ¬ z1 = (32 : Int32) := h1_7
            rcases Decidable.em (z1 = (36 : Int32)) with h1_8 | h1_8
            · have hu := hu.trans (if_pos h1_8)
              refine lv_lookup (pc := 1) (tgt := 206) (off := 205) hx hb dX3_combine_1 (by decide) (by rw [h1_8]; decide) (by decide) ?_
              refine lv_aload_n (pc := 206) hx hb dX3_combine_206 rfl (lv_at hl 0 rfl) ?_
              refine lv_lload_n (pc := 207) hx hb dX3_combine_207 rfl (lv_at hl 2 rfl) ?_
              refine lv_lconst (pc := 208) (v := (0 : Int64)) hx hb dX3_combine_208 (by decide) ?_
              refine qa_joini (J := 218) (ls2 := ls) (rest2 := [.ref qO]) (if z2 = (0 : Int64) then (1 : Int32) else (0 : Int32)) (fun hj218 => ?_) ?_
              · refine qa_lc_ne (pc := 209) (tgt := 217) hx hb dX3_combine_209 dX3_combine_210 (by decide) (fun h209_9 => ?_) (fun h209_9 => ?_)
                · refine lv_iconst (pc := 217) (v := (0 : Int32)) hx hb dX3_combine_217 (by decide) ?_
                  exact hj218 _ (Eq.symm (if_neg h209_9))
                · refine lv_iconst (pc := 213) (v := (1 : Int32)) hx hb dX3_combine_213 (by decide) ?_
                  refine lv_goto (pc := 214) (tgt := 218) hx hb dX3_combine_214 (by decide) ?_
                  exact hj218 _ (Eq.symm (if_pos h209_9))
              refine lv_lload (pc := 218) hx hb dX3_combine_218 (lv_at hl 3 rfl) ?_
              refine qa_calll (pc := 220) (wr := []) (wf := (wO cI cJ qO oRes oKno (if z2 = (0 : Int64) then (1 : Int32) else (0 : Int32)) oTrp)) (va_runV (As := [.int (if z2 = (0 : Int64) then (1 : Int32) else (0 : Int32)), .long z4]) (rest := []) ⟨hx, hb, hml, hown, hts⟩ (c_X3_onlyIf l dC dI cI cJ qO s.heap.size oRes oKno oGiv oTrp (if z2 = (0 : Int64) then (1 : Int32) else (0 : Int32)) z4 (qa_bi qa_b1 qa_b0)) (cwV 2 hts (gd_V gm_285 gm_283 gm_284 gm_566 gm_4) rfl rfl rfl (by decide +kernel) ⟨Nat.le_of_ble_eq_true rfl, Nat.le_of_ble_eq_true rfl⟩) (qa_VM (q0 := 0) (q := ("LongMachine$Operation", TX3, 4)) hK hP rfl rfl hP hD) rfl rfl hl.1 rfl (lv_room (Nat.le_of_ble_eq_true rfl)) dX3_combine_220 ⟨Nat.zero_le _, Nat.zero_le _⟩) hP hD hS hA [0] [] [0] rfl (by decide) rfl (by decide) (by decide) rfl rfl (by decide) (fun H locs hP hD hS => ?_)
              subst hu
              exact W.lret hx hb hr (fun t ht hW => ⟨rfl, by rw [ht]; exact hP, hS.F ht⟩) hS.2.2 dX3_combine_223
            · have hu := hu.trans (if_neg h1_8)
              have n1_5 : ¬ z1 = (36 : Int32) := h1_8
              rcases Decidable.em (z1 = (38 : Int32)) with h1_10 | h1_10
              · have hu := hu.trans (if_pos h1_10)
                refine lv_lookup (pc := 1) (tgt := 224) (off := 223) hx hb dX3_combine_1 (by decide) (by rw [h1_10]; decide) (by decide) ?_
                refine lv_aload_n (pc := 224) hx hb dX3_combine_224 rfl (lv_at hl 0 rfl) ?_
                refine lv_lload_n (pc := 225) hx hb dX3_combine_225 rfl (lv_at hl 2 rfl) ?_
                refine lv_lconst (pc := 226) (v := (0 : Int64)) hx hb dX3_combine_226 (by decide) ?_
                refine qa_joini (J := 236) (ls2 := ls) (rest2 := [.ref qO]) (if z2 = (0 : Int64) then (0 : Int32) else (1 : Int32)) (fun hj236 => ?_) ?_
                · refine qa_lc_eq (pc := 227) (tgt := 235) hx hb dX3_combine_227 dX3_combine_228 (by decide) (fun h227_11 => ?_) (fun h227_11 => ?_)
                  · refine lv_iconst (pc := 235) (v := (0 : Int32)) hx hb dX3_combine_235 (by decide) ?_
                    exact hj236 _ (Eq.symm (if_pos h227_11))
                  · refine lv_iconst (pc := 231) (v := (1 : Int32)) hx hb dX3_combine_231 (by decide) ?_
                    refine lv_goto (pc := 232) (tgt := 236) hx hb dX3_combine_232 (by decide) ?_
                    exact hj236 _ (Eq.symm (if_neg h227_11))
                refine lv_lload (pc := 236) hx hb dX3_combine_236 (lv_at hl 3 rfl) ?_
                refine qa_calll (pc := 238) (wr := []) (wf := (wO cI cJ qO oRes oKno (if z2 = (0 : Int64) then (0 : Int32) else (1 : Int32)) oTrp)) (va_runV (As := [.int (if z2 = (0 : Int64) then (0 : Int32) else (1 : Int32)), .long z4]) (rest := []) ⟨hx, hb, hml, hown, hts⟩ (c_X3_onlyIf l dC dI cI cJ qO s.heap.size oRes oKno oGiv oTrp (if z2 = (0 : Int64) then (0 : Int32) else (1 : Int32)) z4 (qa_bi qa_b0 qa_b1)) (cwV 2 hts (gd_V gm_285 gm_283 gm_284 gm_566 gm_4) rfl rfl rfl (by decide +kernel) ⟨Nat.le_of_ble_eq_true rfl, Nat.le_of_ble_eq_true rfl⟩) (qa_VM (q0 := 0) (q := ("LongMachine$Operation", TX3, 4)) hK hP rfl rfl hP hD) rfl rfl hl.1 rfl (lv_room (Nat.le_of_ble_eq_true rfl)) dX3_combine_238 ⟨Nat.zero_le _, Nat.zero_le _⟩) hP hD hS hA [0] [] [0] rfl (by decide) rfl (by decide) (by decide) rfl rfl (by decide) (fun H locs hP hD hS => ?_)
                subst hu
                exact W.lret hx hb hr (fun t ht hW => ⟨rfl, by rw [ht]; exact hP, hS.F ht⟩) hS.2.2 dX3_combine_241
              · have hu := hu.trans (if_neg h1_10)
                have n1_6 : ¬ z1 = (38 : Int32) := h1_10
                rcases Decidable.em (z1 = (40 : Int32)) with h1_12 | h1_12
                · have hu := hu.trans (if_pos h1_12)
                  refine lv_lookup (pc := 1) (tgt := 143) (off := 142) hx hb dX3_combine_1 (by decide) (by rw [h1_12]; decide) (by decide) ?_
                  refine lv_lload_n (pc := 143) hx hb dX3_combine_143 rfl (lv_at hl 2 rfl) ?_
                  refine lv_lload (pc := 144) hx hb dX3_combine_144 (lv_at hl 3 rfl) ?_
                  refine lv_ldc2 (pc := 146) (v := (-1 : Int64)) hx hb hown (hts _ gm_282) dX3_combine_146 ?_
                  refine lv_lxor (pc := 149) hx hb dX3_combine_149 ?_
                  refine lv_lor (pc := 150) hx hb dX3_combine_150 ?_
                  subst hu
                  exact W.lret hx hb hr (fun t ht hW => ⟨rfl, by rw [ht]; exact hP, hS.F ht⟩) hS.2.2 dX3_combine_151
                · have hu := hu.trans (if_neg h1_12)
                  have n1_7 : ¬ z1 = (40 : Int32) := h1_12
                  rcases Decidable.em (z1 = (64 : Int32)) with h1_13 | h1_13
                  · have hu := hu.trans (if_pos h1_13)
                    refine lv_lookup (pc := 1) (tgt := 152) (off := 151) hx hb dX3_combine_1 (by decide) (by rw [h1_13]; decide) (by decide) ?_
                    refine lv_lload_n (pc := 152) hx hb dX3_combine_152 rfl (lv_at hl 2 rfl) ?_
                    refine lv_lload (pc := 153) hx hb dX3_combine_153 (lv_at hl 3 rfl) ?_
                    refine lv_lxor (pc := 155) hx hb dX3_combine_155 ?_
                    subst hu
                    exact W.lret hx hb hr (fun t ht hW => ⟨rfl, by rw [ht]; exact hP, hS.F ht⟩) hS.2.2 dX3_combine_156
                  · have hu := hu.trans (if_neg h1_13)
                    have n1_8 : ¬ z1 = (64 : Int32) := h1_13
                    rcases Decidable.em (z1 = (68 : Int32)) with h1_14 | h1_14
                    · have hu := hu.trans (if_pos h1_14)
                      refine lv_lookup (pc := 1) (tgt := 242) (off := 241) hx hb dX3_combine_1 (by decide) (by rw [h1_14]; decide) (by decide) ?_
                      refine lv_aload_n (pc := 242) hx hb dX3_combine_242 rfl (lv_at hl 0 rfl) ?_
                      refine lv_lload_n (pc := 243) hx hb dX3_combine_243 rfl (lv_at hl 2 rfl) ?_
                      refine lv_lconst (pc := 244) (v := (0 : Int64)) hx hb dX3_combine_244 (by decide) ?_
                      refine qa_joini (J := 254) (ls2 := ls) (rest2 := [.ref qO]) (if (0 : Int64) ≤ z2 then (0 : Int32) else (1 : Int32)) (fun hj254 => ?_) ?_
                      · refine qa_lc_ge (pc := 245) (tgt := 253) hx hb dX3_combine_245 dX3_combine_246 (by decide) (fun h245_15 => ?_) (fun h245_15 => ?_)
                        · refine lv_iconst (pc := 253) (v := (0 : Int32)) hx hb dX3_combine_253 (by decide) ?_
                          exact hj254 _ (Eq.symm (if_pos h245_15))
                        · refine lv_iconst (pc := 249) (v := (1 : Int32)) hx hb dX3_combine_249 (by decide) ?_
                          refine lv_goto (pc := 250) (tgt := 254) hx hb dX3_combine_250 (by decide) ?_
                          exact hj254 _ (Eq.symm (if_neg h245_15))
                      refine lv_lload (pc := 254) hx hb dX3_combine_254 (lv_at hl 3 rfl) ?_
                      refine qa_calll (pc := 256) (wr := []) (wf := (wO cI cJ qO oRes oKno (if (0 : Int64) ≤ z2 then (0 : Int32) else (1 : Int32)) oTrp)) (va_runV (As := [.int (if (0 : Int64) ≤ z2 then (0 : Int32) else (1 : Int32)), .long z4]) (rest := []) ⟨hx, hb, hml, hown, hts⟩ (c_X3_onlyIf l dC dI cI cJ qO s.heap.size oRes oKno oGiv oTrp (if (0 : Int64) ≤ z2 then (0 : Int32) else (1 : Int32)) z4 (qa_bi qa_b0 qa_b1)) (cwV 2 hts (gd_V gm_285 gm_283 gm_284 gm_566 gm_4) rfl rfl rfl (by decide +kernel) ⟨Nat.le_of_ble_eq_true rfl, Nat.le_of_ble_eq_true rfl⟩) (qa_VM (q0 := 0) (q := ("LongMachine$Operation", TX3, 4)) hK hP rfl rfl hP hD) rfl rfl hl.1 rfl (lv_room (Nat.le_of_ble_eq_true rfl)) dX3_combine_256 ⟨Nat.zero_le _, Nat.zero_le _⟩) hP hD hS hA [0] [] [0] rfl (by decide) rfl (by decide) (by decide) rfl rfl (by decide) (fun H locs hP hD hS => ?_)
                      subst hu
                      exact W.lret hx hb hr (fun t ht hW => ⟨rfl, by rw [ht]; exact hP, hS.F ht⟩) hS.2.2 dX3_combine_259
                    · have hu := hu.trans (if_neg h1_14)
                      have n1_9 : ¬ z1 = (68 : Int32) := h1_14
                      rcases Decidable.em (z1 = (70 : Int32)) with h1_16 | h1_16
                      · have hu := hu.trans (if_pos h1_16)
                        refine lv_lookup (pc := 1) (tgt := 260) (off := 259) hx hb dX3_combine_1 (by decide) (by rw [h1_16]; decide) (by decide) ?_
                        refine lv_aload_n (pc := 260) hx hb dX3_combine_260 rfl (lv_at hl 0 rfl) ?_
                        refine lv_lload_n (pc := 261) hx hb dX3_combine_261 rfl (lv_at hl 2 rfl) ?_
                        refine lv_lconst (pc := 262) (v := (0 : Int64)) hx hb dX3_combine_262 (by decide) ?_
                        refine qa_joini (J := 272) (ls2 := ls) (rest2 := [.ref qO]) (if z2 < (0 : Int64) then (0 : Int32) else (1 : Int32)) (fun hj272 => ?_) ?_
                        · refine qa_lc_lt (pc := 263) (tgt := 271) hx hb dX3_combine_263 dX3_combine_264 (by decide) (fun h263_17 => ?_) (fun h263_17 => ?_)
                          · refine lv_iconst (pc := 271) (v := (0 : Int32)) hx hb dX3_combine_271 (by decide) ?_
                            exact hj272 _ (Eq.symm (if_pos h263_17))
                          · refine lv_iconst (pc := 267) (v := (1 : Int32)) hx hb dX3_combine_267 (by decide) ?_
                            refine lv_goto (pc := 268) (tgt := 272) hx hb dX3_combine_268 (by decide) ?_
                            exact hj272 _ (Eq.symm (if_neg h263_17))
                        refine lv_lload (pc := 272) hx hb dX3_combine_272 (lv_at hl 3 rfl) ?_
                        refine qa_calll (pc := 274) (wr := []) (wf := (wO cI cJ qO oRes oKno (if z2 < (0 : Int64) then (0 : Int32) else (1 : Int32)) oTrp)) (va_runV (As := [.int (if z2 < (0 : Int64) then (0 : Int32) else (1 : Int32)), .long z4]) (rest := []) ⟨hx, hb, hml, hown, hts⟩ (c_X3_onlyIf l dC dI cI cJ qO s.heap.size oRes oKno oGiv oTrp (if z2 < (0 : Int64) then (0 : Int32) else (1 : Int32)) z4 (qa_bi qa_b0 qa_b1)) (cwV 2 hts (gd_V gm_285 gm_283 gm_284 gm_566 gm_4) rfl rfl rfl (by decide +kernel) ⟨Nat.le_of_ble_eq_true rfl, Nat.le_of_ble_eq_true rfl⟩) (qa_VM (q0 := 0) (q := ("LongMachine$Operation", TX3, 4)) hK hP rfl rfl hP hD) rfl rfl hl.1 rfl (lv_room (Nat.le_of_ble_eq_true rfl)) dX3_combine_274 ⟨Nat.zero_le _, Nat.zero_le _⟩) hP hD hS hA [0] [] [0] rfl (by decide) rfl (by decide) (by decide) rfl rfl (by decide) (fun H locs hP hD hS => ?_)
                        subst hu
                        exact W.lret hx hb hr (fun t ht hW => ⟨rfl, by rw [ht]; exact hP, hS.F ht⟩) hS.2.2 dX3_combine_277
                      · have hu := hu.trans (if_neg h1_16)
                        have n1_10 : ¬ z1 = (70 : Int32) := h1_16
                        rcases Decidable.em (z1 = (72 : Int32)) with h1_18 | h1_18
                        · have hu := hu.trans (if_pos h1_18)
                          refine lv_lookup (pc := 1) (tgt := 157) (off := 156) hx hb dX3_combine_1 (by decide) (by rw [h1_18]; decide) (by decide) ?_
                          refine lv_lload_n (pc := 157) hx hb dX3_combine_157 rfl (lv_at hl 2 rfl) ?_
                          refine lv_lload (pc := 158) hx hb dX3_combine_158 (lv_at hl 3 rfl) ?_
                          refine lv_ldc2 (pc := 160) (v := (-1 : Int64)) hx hb hown (hts _ gm_282) dX3_combine_160 ?_
                          refine lv_lxor (pc := 163) hx hb dX3_combine_163 ?_
                          refine lv_lxor (pc := 164) hx hb dX3_combine_164 ?_
                          subst hu
                          exact W.lret hx hb hr (fun t ht hW => ⟨rfl, by rw [ht]; exact hP, hS.F ht⟩) hS.2.2 dX3_combine_165
                        · have hu := hu.trans (if_neg h1_18)
                          have n1_11 : ¬ z1 = (72 : Int32) := h1_18
                          rcases Decidable.em (z1 = (100 : Int32)) with h1_19 | h1_19
                          · have hu := hu.trans (if_pos h1_19)
                            refine lv_lookup (pc := 1) (tgt := 278) (off := 277) hx hb dX3_combine_1 (by decide) (by rw [h1_19]; decide) (by decide) ?_
                            refine lv_aload_n (pc := 278) hx hb dX3_combine_278 rfl (lv_at hl 0 rfl) ?_
                            refine lv_lload_n (pc := 279) hx hb dX3_combine_279 rfl (lv_at hl 2 rfl) ?_
                            refine lv_lconst (pc := 280) (v := (0 : Int64)) hx hb dX3_combine_280 (by decide) ?_
                            refine qa_joini (J := 290) (ls2 := ls) (rest2 := [.ref qO]) (if (0 : Int64) < z2 then (0 : Int32) else (1 : Int32)) (fun hj290 => ?_) ?_
                            · refine qa_lc_gt (pc := 281) (tgt := 289) hx hb dX3_combine_281 dX3_combine_282 (by decide) (fun h281_20 => ?_) (fun h281_20 => ?_)
                              · refine lv_iconst (pc := 289) (v := (0 : Int32)) hx hb dX3_combine_289 (by decide) ?_
                                exact hj290 _ (Eq.symm (if_pos h281_20))
                              · refine lv_iconst (pc := 285) (v := (1 : Int32)) hx hb dX3_combine_285 (by decide) ?_
                                refine lv_goto (pc := 286) (tgt := 290) hx hb dX3_combine_286 (by decide) ?_
                                exact hj290 _ (Eq.symm (if_neg h281_20))
                            refine lv_lload (pc := 290) hx hb dX3_combine_290 (lv_at hl 3 rfl) ?_
                            refine qa_calll (pc := 292) (wr := []) (wf := (wO cI cJ qO oRes oKno (if (0 : Int64) < z2 then (0 : Int32) else (1 : Int32)) oTrp)) (va_runV (As := [.int (if (0 : Int64) < z2 then (0 : Int32) else (1 : Int32)), .long z4]) (rest := []) ⟨hx, hb, hml, hown, hts⟩ (c_X3_onlyIf l dC dI cI cJ qO s.heap.size oRes oKno oGiv oTrp (if (0 : Int64) < z2 then (0 : Int32) else (1 : Int32)) z4 (qa_bi qa_b0 qa_b1)) (cwV 2 hts (gd_V gm_285 gm_283 gm_284 gm_566 gm_4) rfl rfl rfl (by decide +kernel) ⟨Nat.le_of_ble_eq_true rfl, Nat.le_of_ble_eq_true rfl⟩) (qa_VM (q0 := 0) (q := ("LongMachine$Operation", TX3, 4)) hK hP rfl rfl hP hD) rfl rfl hl.1 rfl (lv_room (Nat.le_of_ble_eq_true rfl)) dX3_combine_292 ⟨Nat.zero_le _, Nat.zero_le _⟩) hP hD hS hA [0] [] [0] rfl (by decide) rfl (by decide) (by decide) rfl rfl (by decide) (fun H locs hP hD hS => ?_)
                            subst hu
                            exact W.lret hx hb hr (fun t ht hW => ⟨rfl, by rw [ht]; exact hP, hS.F ht⟩) hS.2.2 dX3_combine_295
                          · have hu := hu.trans (if_neg h1_19)
                            have n1_12 : ¬ z1 = (100 : Int32) := h1_19
                            rcases Decidable.em (z1 = (102 : Int32)) with h1_21 | h1_21
                            · have hu := hu.trans (if_pos h1_21)
                              refine lv_lookup (pc := 1) (tgt := 296) (off := 295) hx hb dX3_combine_1 (by decide) (by rw [h1_21]; decide) (by decide) ?_
                              refine lv_aload_n (pc := 296) hx hb dX3_combine_296 rfl (lv_at hl 0 rfl) ?_
                              refine lv_lload_n (pc := 297) hx hb dX3_combine_297 rfl (lv_at hl 2 rfl) ?_
                              refine lv_lconst (pc := 298) (v := (0 : Int64)) hx hb dX3_combine_298 (by decide) ?_
                              refine qa_joini (J := 308) (ls2 := ls) (rest2 := [.ref qO]) (if z2 ≤ (0 : Int64) then (0 : Int32) else (1 : Int32)) (fun hj308 => ?_) ?_
                              · refine qa_lc_le (pc := 299) (tgt := 307) hx hb dX3_combine_299 dX3_combine_300 (by decide) (fun h299_22 => ?_) (fun h299_22 => ?_)
                                · refine lv_iconst (pc := 307) (v := (0 : Int32)) hx hb dX3_combine_307 (by decide) ?_
                                  exact hj308 _ (Eq.symm (if_pos h299_22))
                                · refine lv_iconst (pc := 303) (v := (1 : Int32)) hx hb dX3_combine_303 (by decide) ?_
                                  refine lv_goto (pc := 304) (tgt := 308) hx hb dX3_combine_304 (by decide) ?_
                                  exact hj308 _ (Eq.symm (if_neg h299_22))
                              refine lv_lload (pc := 308) hx hb dX3_combine_308 (lv_at hl 3 rfl) ?_
                              refine qa_calll (pc := 310) (wr := []) (wf := (wO cI cJ qO oRes oKno (if z2 ≤ (0 : Int64) then (0 : Int32) else (1 : Int32)) oTrp)) (va_runV (As := [.int (if z2 ≤ (0 : Int64) then (0 : Int32) else (1 : Int32)), .long z4]) (rest := []) ⟨hx, hb, hml, hown, hts⟩ (c_X3_onlyIf l dC dI cI cJ qO s.heap.size oRes oKno oGiv oTrp (if z2 ≤ (0 : Int64) then (0 : Int32) else (1 : Int32)) z4 (qa_bi qa_b0 qa_b1)) (cwV 2 hts (gd_V gm_285 gm_283 gm_284 gm_566 gm_4) rfl rfl rfl (by decide +kernel) ⟨Nat.le_of_ble_eq_true rfl, Nat.le_of_ble_eq_true rfl⟩) (qa_VM (q0 := 0) (q := ("LongMachine$Operation", TX3, 4)) hK hP rfl rfl hP hD) rfl rfl hl.1 rfl (lv_room (Nat.le_of_ble_eq_true rfl)) dX3_combine_310 ⟨Nat.zero_le _, Nat.zero_le _⟩) hP hD hS hA [0] [] [0] rfl (by decide) rfl (by decide) (by decide) rfl rfl (by decide) (fun H locs hP hD hS => ?_)
                              subst hu
                              exact W.lret hx hb hr (fun t ht hW => ⟨rfl, by rw [ht]; exact hP, hS.F ht⟩) hS.2.2 dX3_combine_313
                            · have hu := hu.trans (if_neg h1_21)
                              have n1_13 : ¬ z1 = (102 : Int32) := h1_21
                              refine lv_lookup (pc := 1) (tgt := 314) (off := 313) hx hb dX3_combine_1 (by decide) ((lv_osw n1_0 (by decide)).trans ((lv_osw n1_1 (by decide)).trans ((lv_osw n1_2 (by decide)).trans ((lv_osw n1_3 (by decide)).trans ((lv_osw n1_4 (by decide)).trans ((lv_osw n1_5 (by decide)).trans ((lv_osw n1_6 (by decide)).trans ((lv_osw n1_7 (by decide)).trans ((lv_osw n1_8 (by decide)).trans ((lv_osw n1_9 (by decide)).trans ((lv_osw n1_10 (by decide)).trans ((lv_osw n1_11 (by decide)).trans ((lv_osw n1_12 (by decide)).trans ((lv_osw n1_13 (by decide)).trans (rfl))))))))))))))) (by decide) ?_
                              refine lv_aload_n (pc := 314) hx hb dX3_combine_314 rfl (lv_at hl 0 rfl) ?_
                              refine lv_iconst (pc := 315) (v := (0 : Int32)) hx hb dX3_combine_315 (by decide) ?_
                              refine va_put (D := (dC, dI)) (pc := 316) (ci := 3) (v := .int (0 : Int32)) (ty := .boolean) (C := "LongMachine$Operation") (T := TX3) (N := 4) hx hb hts ui_X3 tyX3 tyX3_ok nmX3 hown hK hP hD hS 0 rfl rfl 1 (by decide) (hts _ gm_61) (fun _ h9 => h9) rfl (by decide +kernel) rfl rfl (Nat.le_of_ble_eq_true rfl) dX3_combine_316 (fun H locs hP hD hS => ?_)
                              have hP : va_P (dC, dI) vwCl (wO cI cJ qO oRes (0 : Int32) oGiv oTrp) H := hP
                              have hD : va_D A (wO cI cJ qO oRes (0 : Int32) oGiv oTrp) := hD
                              refine lv_lconst (pc := 319) (v := (0 : Int64)) hx hb dX3_combine_319 (by decide) ?_
                              subst hu
                              exact W.lret hx hb hr (fun t ht hW => ⟨rfl, by rw [ht]; exact hP, hS.F ht⟩) hS.2.2 dX3_combine_320
def f_X3_bytesOf_B5 (z0 : Int64) : Nat → Int64 → Int32 → Int64
  | 0, k2_5, k4_5 => (0 : Int64)
  | n + 1, k2_5, k4_5 => (if (8 : Int32) ≤ k4_5 then k2_5 else (if ((jlshr z0 k4_5) &&& (1 : Int64)) = (0 : Int64) then (f_X3_bytesOf_B5 z0 n k2_5 (k4_5 + (1 : Int32))) else (f_X3_bytesOf_B5 z0 n (k2_5 ||| (jlshl (255 : Int64) ((8 : Int32) * k4_5))) (k4_5 + (1 : Int32)))))
theorem f_X3_bytesOf_B5_s (z0 : Int64) (n : Nat) (k2_5 : Int64) (k4_5 : Int32) : f_X3_bytesOf_B5 z0 (n + 1) k2_5 k4_5 = (if (8 : Int32) ≤ k4_5 then k2_5 else (if ((jlshr z0 k4_5) &&& (1 : Int64)) = (0 : Int64) then (f_X3_bytesOf_B5 z0 n k2_5 (k4_5 + (1 : Int32))) else (f_X3_bytesOf_B5 z0 n (k2_5 ||| (jlshl (255 : Int64) ((8 : Int32) * k4_5))) (k4_5 + (1 : Int32))))) := rfl
def f_X3_bytesOf (z0 : Int64) : Int64 := (f_X3_bytesOf_B5 z0 9 (0 : Int64) (0 : Int32))
set_option maxRecDepth 100000 in
set_option maxHeartbeats 4000000 in
theorem c_X3_bytesOf (l : Launch) (z0 : Int64) : Met l yX3_bytesOf (.code yX3_bytesOf cX3_bytesOf 5 (some .long) :: vG) ({ frames := 0, cells := 0, slots := 0, locals := 0 }) (va_Pc [.long z0] (fun _ => True)) (qa_det (.long (f_X3_bytesOf z0))) 0 0 (fun _ => False) := by
  refine Met.ofW (cc := cX3_bytesOf) (maxL := 5) (ret := (some .long)) (by decide) rfl ?_
  intro p e s m args below meth c s₁ B hml hv
  obtain ⟨rfl, hv⟩ := hv
  have hx := B.exec
  have hb := B.bytes
  have hr := B.returns
  have hts : ∀ w ∈ vG, w.before _ s = true := fun w h => atoms_spec (ws := (.code yX3_bytesOf cX3_bytesOf 5 (some .long) :: vG)) B.pre w (List.mem_cons_of_mem _ h)
  have hown : s.vm.findClass "LongMachine$Operation" = some m.cls := findClass_of_methodNamed B.named
  have hlocks := B.notSynchronized
  have hl := lv_entry ([.long z0]) (n := 5) (Nat.le_of_ble_eq_true rfl)
  rw [lg_entry_eq]
  generalize (lg_sl ([.long z0]) ++ List.replicate (5 - (lg_sl ([.long z0])).length) Slot.unset).toArray = ls at hl ⊢
  have hl : lv_has ls 5 [(0, .long z0)] := hl
  obtain ⟨u, hu⟩ : ∃ u, u = f_X3_bytesOf z0 := ⟨_, rfl⟩
  rw [← hu]
  unfold f_X3_bytesOf at hu
  refine lv_lconst (pc := 0) (v := (0 : Int64)) hx hb dX3_bytesOf_0 (by decide) ?_
  refine lv_lstore_n (pc := 1) (lv' := [(2, .long (0 : Int64)), (0, .long z0)]) hx hb dX3_bytesOf_1 rfl hl (by decide) rfl (fun ls hl => ?_)
  refine lv_iconst (pc := 2) (v := (0 : Int32)) hx hb dX3_bytesOf_2 (by decide) ?_
  refine lv_istore (pc := 3) (lv' := [(4, .int (0 : Int32)), (2, .long (0 : Int64)), (0, .long z0)]) hx hb dX3_bytesOf_3 hl (by decide) rfl (fun ls hl => ?_)
  have hB5 : ∀ (n : Nat) (k2_5 : Int64) (k4_5 : Int32) (ls : Array Slot) (hq5_fu : ((8 : Int32).toInt - (k4_5).toInt).toNat < n) (hl : lv_has ls 5 [(0, .long z0), (2, .long k2_5), (4, .int k4_5)]) (u : Int64) (hu : u = f_X3_bytesOf_B5 z0 n k2_5 k4_5), W p l e { frames := 0, cells := 0, slots := 0, locals := 0 } s m ([.long z0]).toArray below meth c s.heap [] 0 0 (MQ below (qa_det (.long u)) ([.long z0]).toArray s 0 0 (fun _ => False)) (F0 m 5 ls []) := by
    intro n
    induction n with
    | zero => intro k2_5 k4_5 ls hq5_fu hl u hu; exact absurd hq5_fu (Nat.not_lt_zero _)
    | succ n ih =>
        intro k2_5 k4_5 ls hq5_fu hl u hu
        rw [f_X3_bytesOf_B5_s] at hu
        refine lv_iload (pc := 5) hx hb dX3_bytesOf_5 (lv_at hl 2 rfl) ?_
        refine lv_bipush (pc := 7) (v := (8 : Int32)) hx hb dX3_bytesOf_7 (by decide) ?_
        refine lv_icmp_ge (pc := 9) (tgt := 41) hx hb dX3_bytesOf_9 (by decide) (fun h9_1 => ?_) (fun h9_1 => ?_)
        · have hu := hu.trans (if_pos h9_1)
          refine lv_lload_n (pc := 41) hx hb dX3_bytesOf_41 rfl (lv_at hl 1 rfl) ?_
          subst hu
          exact W.lret hx hb hr (fun t ht hW => ⟨rfl, ht⟩) (fun _ h => by cases h) dX3_bytesOf_42
        · have hu := hu.trans (if_neg h9_1)
          refine lv_lload_n (pc := 12) hx hb dX3_bytesOf_12 rfl (lv_at hl 0 rfl) ?_
          refine lv_iload (pc := 13) hx hb dX3_bytesOf_13 (lv_at hl 2 rfl) ?_
          refine lv_lshr (pc := 15) (v := (jlshr z0 k4_5)) hx hb dX3_bytesOf_15 rfl ?_
          refine lv_lconst (pc := 16) (v := (1 : Int64)) hx hb dX3_bytesOf_16 (by decide) ?_
          refine lv_land (pc := 17) hx hb dX3_bytesOf_17 ?_
          refine lv_lconst (pc := 18) (v := (0 : Int64)) hx hb dX3_bytesOf_18 (by decide) ?_
          refine qa_lc_eq (pc := 19) (tgt := 35) hx hb dX3_bytesOf_19 dX3_bytesOf_20 (by decide) (fun h19_2 => ?_) (fun h19_2 => ?_)
          · have hu := hu.trans (if_pos h19_2)
            refine lv_iinc (pc := 35) (k := 2) (lv' := [(4, .int (k4_5 + (1 : Int32))), (0, .long z0), (2, .long k2_5)]) hx hb dX3_bytesOf_35 hl rfl (qa_inc (by decide) k4_5) (by decide) rfl (fun ls hl => ?_)
            refine lv_goto (pc := 38) (tgt := 5) hx hb dX3_bytesOf_38 (by decide) ?_
            exact ih k2_5 (k4_5 + (1 : Int32)) _ (rg_fs h9_1 hq5_fu) (lv_sub hl [1, 2, 0] rfl) u hu
          · have hu := hu.trans (if_neg h19_2)
            refine lv_lload_n (pc := 23) hx hb dX3_bytesOf_23 rfl (lv_at hl 1 rfl) ?_
            refine lv_ldc2 (pc := 24) (v := (255 : Int64)) hx hb hown (hts _ gm_278) dX3_bytesOf_24 ?_
            refine lv_bipush (pc := 27) (v := (8 : Int32)) hx hb dX3_bytesOf_27 (by decide) ?_
            refine lv_iload (pc := 29) hx hb dX3_bytesOf_29 (lv_at hl 2 rfl) ?_
            refine lv_imul (pc := 31) hx hb dX3_bytesOf_31 ?_
            refine lv_lshl (pc := 32) (v := (jlshl (255 : Int64) ((8 : Int32) * k4_5))) hx hb dX3_bytesOf_32 rfl ?_
            refine lv_lor (pc := 33) hx hb dX3_bytesOf_33 ?_
            refine lv_lstore_n (pc := 34) (lv' := [(2, .long (k2_5 ||| (jlshl (255 : Int64) ((8 : Int32) * k4_5)))), (0, .long z0), (4, .int k4_5)]) hx hb dX3_bytesOf_34 rfl hl (by decide) rfl (fun ls hl => ?_)
            refine lv_iinc (pc := 35) (k := 2) (lv' := [(4, .int (k4_5 + (1 : Int32))), (2, .long (k2_5 ||| (jlshl (255 : Int64) ((8 : Int32) * k4_5)))), (0, .long z0)]) hx hb dX3_bytesOf_35 hl rfl (qa_inc (by decide) k4_5) (by decide) rfl (fun ls hl => ?_)
            refine lv_goto (pc := 38) (tgt := 5) hx hb dX3_bytesOf_38 (by decide) ?_
            exact ih (k2_5 ||| (jlshl (255 : Int64) ((8 : Int32) * k4_5))) (k4_5 + (1 : Int32)) _ (rg_fs h9_1 hq5_fu) (lv_sub hl [2, 1, 0] rfl) u hu
  exact hB5 9 (0 : Int64) (0 : Int32) _ (by decide) (lv_sub hl [2, 1, 0] rfl) u hu
def f_X3_lowPart (z1 : Int32) (z2 : Int64) (z4 : Int32) (z5 : Int64) (oKno : Int32) : Int64 × Int32 := (if (z1 &&& (15 : Int32)) = (2 : Int32) then ((z2 &&& ((jlshl z5 z4) ^^^ (-1 : Int64))), oKno) else (if (z1 &&& (15 : Int32)) = (6 : Int32) then (((jlushr z2 z4) &&& z5), oKno) else (if (z1 &&& (15 : Int32)) = (11 : Int32) then ((jlshl (z2 &&& z5) z4), oKno) else ((0 : Int64), (0 : Int32)))))
set_option maxRecDepth 100000 in
set_option maxHeartbeats 4000000 in
theorem c_X3_lowPart (l : Launch) (dC : Nat → ClassId) (dI : Nat → Nat → Nat) (cI cJ : ClassId) (qO : Nat) (sz : Nat) (oRes : Int64) (oKno : Int32) (oGiv : Int32) (oTrp : Int32) (z1 : Int32) (z2 : Int64) (z4 : Int32) (z5 : Int64) : Met l yX3_lowPart (.code yX3_lowPart cX3_lowPart 7 (some .long) :: vG) ({ frames := 0, cells := 0, slots := 0, locals := 0 }) (va_Pc [.ref qO, .int z1, .long z2, .int z4, .long z5] (qa_pre (dC, dI) vwCl (wO cI cJ qO oRes oKno oGiv oTrp) [(cI, .int), (cJ, .long)] sz)) (qa_mod (some (.long ((f_X3_lowPart z1 z2 z4 z5 oKno).1))) (dC, dI) vwCl (wO cI cJ qO oRes ((f_X3_lowPart z1 z2 z4 z5 oKno).2) oGiv oTrp) (va_A (wO cI cJ qO oRes oKno oGiv oTrp) sz)) 0 0 (va_A (wO cI cJ qO oRes oKno oGiv oTrp) sz) := by
  refine Met.ofW (cc := cX3_lowPart) (maxL := 7) (ret := (some .long)) (by decide) rfl ?_
  intro p e s m args below meth c s₁ B hml hv
  obtain ⟨rfl, hsz, hP, hK, hD0⟩ := hv
  have hx := B.exec
  have hb := B.bytes
  have hr := B.returns
  have hts : ∀ w ∈ vG, w.before _ s = true := fun w h => atoms_spec (ws := (.code yX3_lowPart cX3_lowPart 7 (some .long) :: vG)) B.pre w (List.mem_cons_of_mem _ h)
  have hown : s.vm.findClass "LongMachine$Operation" = some m.cls := findClass_of_methodNamed B.named
  have hlocks := B.notSynchronized
  subst hsz
  have hD := hD0.self (sz := s.heap.size)
  generalize hAe : va_A (wO cI cJ qO oRes oKno oGiv oTrp) s.heap.size = A at hD ⊢
  have hA : ∀ q : Nat, s.heap.size ≤ q → A q := fun q h => by rw [← hAe]; exact Or.inr h
  have hS : va_S A s.heap s.heap [] := va_S.rf
  have hl := lv_entry ([.ref qO, .int z1, .long z2, .int z4, .long z5]) (n := 7) (Nat.le_of_ble_eq_true rfl)
  rw [lg_entry_eq]
  generalize (lg_sl ([.ref qO, .int z1, .long z2, .int z4, .long z5]) ++ List.replicate (7 - (lg_sl ([.ref qO, .int z1, .long z2, .int z4, .long z5])).length) Slot.unset).toArray = ls at hl ⊢
  have hl : lv_has ls 7 [(0, .ref qO), (1, .int z1), (2, .long z2), (4, .int z4), (5, .long z5)] := hl
  obtain ⟨u, hu⟩ : ∃ u, u = f_X3_lowPart z1 z2 z4 z5 oKno := ⟨_, rfl⟩
  rw [← hu]
  unfold f_X3_lowPart at hu
  refine lv_iload_n (pc := 0) hx hb dX3_lowPart_0 rfl (lv_at hl 1 rfl) ?_
  refine lv_bipush (pc := 1) (v := (15 : Int32)) hx hb dX3_lowPart_1 (by decide) ?_
  refine lv_iand (pc := 3) hx hb dX3_lowPart_3 ?_
  rcases Decidable.em ((z1 &&& (15 : Int32)) = (2 : Int32)) with h4_1 | h4_1
  · have hu := hu.trans (if_pos h4_1)
    refine lv_lookup (pc := 4) (tgt := 56) (off := 52) hx hb dX3_lowPart_4 (by decide) (by rw [h4_1]; decide) (by decide) ?_
    refine lv_lload_n (pc := 56) hx hb dX3_lowPart_56 rfl (lv_at hl 2 rfl) ?_
    refine lv_lload (pc := 57) hx hb dX3_lowPart_57 (lv_at hl 4 rfl) ?_
    refine lv_iload (pc := 59) hx hb dX3_lowPart_59 (lv_at hl 3 rfl) ?_
    refine lv_lshl (pc := 61) (v := (jlshl z5 z4)) hx hb dX3_lowPart_61 rfl ?_
    refine lv_ldc2 (pc := 62) (v := (-1 : Int64)) hx hb hown (hts _ gm_282) dX3_lowPart_62 ?_
    refine lv_lxor (pc := 65) hx hb dX3_lowPart_65 ?_
    refine lv_land (pc := 66) hx hb dX3_lowPart_66 ?_
    subst hu
    exact W.lret hx hb hr (fun t ht hW => ⟨rfl, by rw [ht]; exact hP, hS.F ht⟩) hS.2.2 dX3_lowPart_67
  · have hu := hu.trans (if_neg h4_1)
    have n4_0 : ¬ (z1 &&& (15 : Int32)) = (2 : Int32) := h4_1
    rcases Decidable.em ((z1 &&& (15 : Int32)) = (6 : Int32)) with h4_2 | h4_2
    · have hu := hu.trans (if_pos h4_2)
      refine lv_lookup (pc := 4) (tgt := 40) (off := 36) hx hb dX3_lowPart_4 (by decide) (by rw [h4_2]; decide) (by decide) ?_
      refine lv_lload_n (pc := 40) hx hb dX3_lowPart_40 rfl (lv_at hl 2 rfl) ?_
      refine lv_iload (pc := 41) hx hb dX3_lowPart_41 (lv_at hl 3 rfl) ?_
      refine lv_lushr (pc := 43) (v := (jlushr z2 z4)) hx hb dX3_lowPart_43 rfl ?_
      refine lv_lload (pc := 44) hx hb dX3_lowPart_44 (lv_at hl 4 rfl) ?_
      refine lv_land (pc := 46) hx hb dX3_lowPart_46 ?_
      subst hu
      exact W.lret hx hb hr (fun t ht hW => ⟨rfl, by rw [ht]; exact hP, hS.F ht⟩) hS.2.2 dX3_lowPart_47
    · have hu := hu.trans (if_neg h4_2)
      have n4_1 : ¬ (z1 &&& (15 : Int32)) = (6 : Int32) := h4_2
      rcases Decidable.em ((z1 &&& (15 : Int32)) = (11 : Int32)) with h4_3 | h4_3
      · have hu := hu.trans (if_pos h4_3)
        refine lv_lookup (pc := 4) (tgt := 48) (off := 44) hx hb dX3_lowPart_4 (by decide) (by rw [h4_3]; decide) (by decide) ?_
        refine lv_lload_n (pc := 48) hx hb dX3_lowPart_48 rfl (lv_at hl 2 rfl) ?_
        refine lv_lload (pc := 49) hx hb dX3_lowPart_49 (lv_at hl 4 rfl) ?_
        refine lv_land (pc := 51) hx hb dX3_lowPart_51 ?_
        refine lv_iload (pc := 52) hx hb dX3_lowPart_52 (lv_at hl 3 rfl) ?_
        refine lv_lshl (pc := 54) (v := (jlshl (z2 &&& z5) z4)) hx hb dX3_lowPart_54 rfl ?_
        subst hu
        exact W.lret hx hb hr (fun t ht hW => ⟨rfl, by rw [ht]; exact hP, hS.F ht⟩) hS.2.2 dX3_lowPart_55
      · have hu := hu.trans (if_neg h4_3)
        have n4_2 : ¬ (z1 &&& (15 : Int32)) = (11 : Int32) := h4_3
        refine lv_lookup (pc := 4) (tgt := 68) (off := 64) hx hb dX3_lowPart_4 (by decide) ((lv_osw n4_0 (by decide)).trans ((lv_osw n4_1 (by decide)).trans ((lv_osw n4_2 (by decide)).trans (rfl)))) (by decide) ?_
        refine lv_aload_n (pc := 68) hx hb dX3_lowPart_68 rfl (lv_at hl 0 rfl) ?_
        refine lv_iconst (pc := 69) (v := (0 : Int32)) hx hb dX3_lowPart_69 (by decide) ?_
        refine va_put (D := (dC, dI)) (pc := 70) (ci := 3) (v := .int (0 : Int32)) (ty := .boolean) (C := "LongMachine$Operation") (T := TX3) (N := 4) hx hb hts ui_X3 tyX3 tyX3_ok nmX3 hown hK hP hD hS 0 rfl rfl 1 (by decide) (hts _ gm_61) (fun _ h9 => h9) rfl (by decide +kernel) rfl rfl (Nat.le_of_ble_eq_true rfl) dX3_lowPart_70 (fun H locs hP hD hS => ?_)
        have hP : va_P (dC, dI) vwCl (wO cI cJ qO oRes (0 : Int32) oGiv oTrp) H := hP
        have hD : va_D A (wO cI cJ qO oRes (0 : Int32) oGiv oTrp) := hD
        refine lv_lconst (pc := 73) (v := (0 : Int64)) hx hb dX3_lowPart_73 (by decide) ?_
        subst hu
        exact W.lret hx hb hr (fun t ht hW => ⟨rfl, by rw [ht]; exact hP, hS.F ht⟩) hS.2.2 dX3_lowPart_74
def f_X3_highPart (z1 : Int32) (z2 : Int64) (z4 : Int32) (z5 : Int64) (oKno : Int32) : Int64 × Int32 := (if (z1 &&& (48 : Int32)) = (0 : Int32) then ((0 : Int64), (0 : Int32)) else (if (z1 &&& (15 : Int32)) = (2 : Int32) then ((if z4 = (0 : Int32) then z2 else (z2 &&& ((jlushr z5 ((64 : Int32) - z4)) ^^^ (-1 : Int64)))), oKno) else (if (z1 &&& (15 : Int32)) = (7 : Int32) then ((if z4 = (0 : Int32) then (0 : Int64) else (jlushr (z2 &&& z5) ((64 : Int32) - z4))), oKno) else (if (z1 &&& (15 : Int32)) = (10 : Int32) then (((if z4 = (0 : Int32) then z2 else (jlshl z2 ((64 : Int32) - z4))) &&& z5), oKno) else ((0 : Int64), (0 : Int32))))))
set_option maxRecDepth 100000 in
set_option maxHeartbeats 4000000 in
theorem c_X3_highPart (l : Launch) (dC : Nat → ClassId) (dI : Nat → Nat → Nat) (cI cJ : ClassId) (qO : Nat) (sz : Nat) (oRes : Int64) (oKno : Int32) (oGiv : Int32) (oTrp : Int32) (z1 : Int32) (z2 : Int64) (z4 : Int32) (z5 : Int64) : Met l yX3_highPart (.code yX3_highPart cX3_highPart 7 (some .long) :: vG) ({ frames := 0, cells := 0, slots := 0, locals := 0 }) (va_Pc [.ref qO, .int z1, .long z2, .int z4, .long z5] (qa_pre (dC, dI) vwCl (wO cI cJ qO oRes oKno oGiv oTrp) [(cI, .int), (cJ, .long)] sz)) (qa_mod (some (.long ((f_X3_highPart z1 z2 z4 z5 oKno).1))) (dC, dI) vwCl (wO cI cJ qO oRes ((f_X3_highPart z1 z2 z4 z5 oKno).2) oGiv oTrp) (va_A (wO cI cJ qO oRes oKno oGiv oTrp) sz)) 0 0 (va_A (wO cI cJ qO oRes oKno oGiv oTrp) sz) := by
  refine Met.ofW (cc := cX3_highPart) (maxL := 7) (ret := (some .long)) (by decide) rfl ?_
  intro p e s m args below meth c s₁ B hml hv
  obtain ⟨rfl, hsz, hP, hK, hD0⟩ := hv
  have hx := B.exec
  have hb := B.bytes
  have hr := B.returns
  have hts : ∀ w ∈ vG, w.before _ s = true := fun w h => atoms_spec (ws := (.code yX3_highPart cX3_highPart 7 (some .long) :: vG)) B.pre w (List.mem_cons_of_mem _ h)
  have hown : s.vm.findClass "LongMachine$Operation" = some m.cls := findClass_of_methodNamed B.named
  have hlocks := B.notSynchronized
  subst hsz
  have hD := hD0.self (sz := s.heap.size)
  generalize hAe : va_A (wO cI cJ qO oRes oKno oGiv oTrp) s.heap.size = A at hD ⊢
  have hA : ∀ q : Nat, s.heap.size ≤ q → A q := fun q h => by rw [← hAe]; exact Or.inr h
  have hS : va_S A s.heap s.heap [] := va_S.rf
  have hl := lv_entry ([.ref qO, .int z1, .long z2, .int z4, .long z5]) (n := 7) (Nat.le_of_ble_eq_true rfl)
  rw [lg_entry_eq]
  generalize (lg_sl ([.ref qO, .int z1, .long z2, .int z4, .long z5]) ++ List.replicate (7 - (lg_sl ([.ref qO, .int z1, .long z2, .int z4, .long z5])).length) Slot.unset).toArray = ls at hl ⊢
  have hl : lv_has ls 7 [(0, .ref qO), (1, .int z1), (2, .long z2), (4, .int z4), (5, .long z5)] := hl
  obtain ⟨u, hu⟩ : ∃ u, u = f_X3_highPart z1 z2 z4 z5 oKno := ⟨_, rfl⟩
  rw [← hu]
  unfold f_X3_highPart at hu
  refine lv_iload_n (pc := 0) hx hb dX3_highPart_0 rfl (lv_at hl 1 rfl) ?_
  refine lv_bipush (pc := 1) (v := (48 : Int32)) hx hb dX3_highPart_1 (by decide) ?_
  refine lv_iand (pc := 3) hx hb dX3_highPart_3 ?_
  refine lv_if_ne (pc := 4) (tgt := 14) hx hb dX3_highPart_4 (by decide) (fun h4_1 => ?_) (fun h4_1 => ?_)
  · have hu := hu.trans (if_neg h4_1)
    refine lv_iload_n (pc := 14) hx hb dX3_highPart_14 rfl (lv_at hl 1 rfl) ?_
    refine lv_bipush (pc := 15) (v := (15 : Int32)) hx hb dX3_highPart_15 (by decide) ?_
    refine lv_iand (pc := 17) hx hb dX3_highPart_17 ?_
    rcases Decidable.em ((z1 &&& (15 : Int32)) = (2 : Int32)) with h18_2 | h18_2
    · have hu := hu.trans (if_pos h18_2)
      refine lv_lookup (pc := 18) (tgt := 92) (off := 74) hx hb dX3_highPart_18 (by decide) (by rw [h18_2]; decide) (by decide) ?_
      refine lv_iload (pc := 92) hx hb dX3_highPart_92 (lv_at hl 3 rfl) ?_
      refine qa_joinl (J := 115) (ls2 := ls) (rest2 := []) (if z4 = (0 : Int32) then z2 else (z2 &&& ((jlushr z5 ((64 : Int32) - z4)) ^^^ (-1 : Int64)))) (fun hj115 => ?_) ?_
      · refine lv_if_ne (pc := 94) (tgt := 101) hx hb dX3_highPart_94 (by decide) (fun h94_3 => ?_) (fun h94_3 => ?_)
        · refine lv_lload_n (pc := 101) hx hb dX3_highPart_101 rfl (lv_at hl 2 rfl) ?_
          refine lv_lload (pc := 102) hx hb dX3_highPart_102 (lv_at hl 4 rfl) ?_
          refine lv_bipush (pc := 104) (v := (64 : Int32)) hx hb dX3_highPart_104 (by decide) ?_
          refine lv_iload (pc := 106) hx hb dX3_highPart_106 (lv_at hl 3 rfl) ?_
          refine lv_isub (pc := 108) hx hb dX3_highPart_108 ?_
          refine lv_lushr (pc := 109) (v := (jlushr z5 ((64 : Int32) - z4))) hx hb dX3_highPart_109 rfl ?_
          refine lv_ldc2 (pc := 110) (v := (-1 : Int64)) hx hb hown (hts _ gm_282) dX3_highPart_110 ?_
          refine lv_lxor (pc := 113) hx hb dX3_highPart_113 ?_
          refine lv_land (pc := 114) hx hb dX3_highPart_114 ?_
          exact hj115 _ (Eq.symm (if_neg h94_3))
        · refine lv_lload_n (pc := 97) hx hb dX3_highPart_97 rfl (lv_at hl 2 rfl) ?_
          refine lv_goto (pc := 98) (tgt := 115) hx hb dX3_highPart_98 (by decide) ?_
          exact hj115 _ (Eq.symm (if_pos h94_3))
      subst hu
      exact W.lret hx hb hr (fun t ht hW => ⟨rfl, by rw [ht]; exact hP, hS.F ht⟩) hS.2.2 dX3_highPart_115
    · have hu := hu.trans (if_neg h18_2)
      have n18_0 : ¬ (z1 &&& (15 : Int32)) = (2 : Int32) := h18_2
      rcases Decidable.em ((z1 &&& (15 : Int32)) = (7 : Int32)) with h18_4 | h18_4
      · have hu := hu.trans (if_pos h18_4)
        refine lv_lookup (pc := 18) (tgt := 72) (off := 54) hx hb dX3_highPart_18 (by decide) (by rw [h18_4]; decide) (by decide) ?_
        refine lv_iload (pc := 72) hx hb dX3_highPart_72 (lv_at hl 3 rfl) ?_
        refine qa_joinl (J := 91) (ls2 := ls) (rest2 := []) (if z4 = (0 : Int32) then (0 : Int64) else (jlushr (z2 &&& z5) ((64 : Int32) - z4))) (fun hj91 => ?_) ?_
        · refine lv_if_ne (pc := 74) (tgt := 81) hx hb dX3_highPart_74 (by decide) (fun h74_5 => ?_) (fun h74_5 => ?_)
          · refine lv_lload_n (pc := 81) hx hb dX3_highPart_81 rfl (lv_at hl 2 rfl) ?_
            refine lv_lload (pc := 82) hx hb dX3_highPart_82 (lv_at hl 4 rfl) ?_
            refine lv_land (pc := 84) hx hb dX3_highPart_84 ?_
            refine lv_bipush (pc := 85) (v := (64 : Int32)) hx hb dX3_highPart_85 (by decide) ?_
            refine lv_iload (pc := 87) hx hb dX3_highPart_87 (lv_at hl 3 rfl) ?_
            refine lv_isub (pc := 89) hx hb dX3_highPart_89 ?_
            refine lv_lushr (pc := 90) (v := (jlushr (z2 &&& z5) ((64 : Int32) - z4))) hx hb dX3_highPart_90 rfl ?_
            exact hj91 _ (Eq.symm (if_neg h74_5))
          · refine lv_lconst (pc := 77) (v := (0 : Int64)) hx hb dX3_highPart_77 (by decide) ?_
            refine lv_goto (pc := 78) (tgt := 91) hx hb dX3_highPart_78 (by decide) ?_
            exact hj91 _ (Eq.symm (if_pos h74_5))
        subst hu
        exact W.lret hx hb hr (fun t ht hW => ⟨rfl, by rw [ht]; exact hP, hS.F ht⟩) hS.2.2 dX3_highPart_91
      · have hu := hu.trans (if_neg h18_4)
        have n18_1 : ¬ (z1 &&& (15 : Int32)) = (7 : Int32) := h18_4
        rcases Decidable.em ((z1 &&& (15 : Int32)) = (10 : Int32)) with h18_6 | h18_6
        · have hu := hu.trans (if_pos h18_6)
          refine lv_lookup (pc := 18) (tgt := 52) (off := 34) hx hb dX3_highPart_18 (by decide) (by rw [h18_6]; decide) (by decide) ?_
          refine lv_iload (pc := 52) hx hb dX3_highPart_52 (lv_at hl 3 rfl) ?_
          refine qa_joinl (J := 68) (ls2 := ls) (rest2 := []) (if z4 = (0 : Int32) then z2 else (jlshl z2 ((64 : Int32) - z4))) (fun hj68 => ?_) ?_
          · refine lv_if_ne (pc := 54) (tgt := 61) hx hb dX3_highPart_54 (by decide) (fun h54_7 => ?_) (fun h54_7 => ?_)
            · refine lv_lload_n (pc := 61) hx hb dX3_highPart_61 rfl (lv_at hl 2 rfl) ?_
              refine lv_bipush (pc := 62) (v := (64 : Int32)) hx hb dX3_highPart_62 (by decide) ?_
              refine lv_iload (pc := 64) hx hb dX3_highPart_64 (lv_at hl 3 rfl) ?_
              refine lv_isub (pc := 66) hx hb dX3_highPart_66 ?_
              refine lv_lshl (pc := 67) (v := (jlshl z2 ((64 : Int32) - z4))) hx hb dX3_highPart_67 rfl ?_
              exact hj68 _ (Eq.symm (if_neg h54_7))
            · refine lv_lload_n (pc := 57) hx hb dX3_highPart_57 rfl (lv_at hl 2 rfl) ?_
              refine lv_goto (pc := 58) (tgt := 68) hx hb dX3_highPart_58 (by decide) ?_
              exact hj68 _ (Eq.symm (if_pos h54_7))
          refine lv_lload (pc := 68) hx hb dX3_highPart_68 (lv_at hl 4 rfl) ?_
          refine lv_land (pc := 70) hx hb dX3_highPart_70 ?_
          subst hu
          exact W.lret hx hb hr (fun t ht hW => ⟨rfl, by rw [ht]; exact hP, hS.F ht⟩) hS.2.2 dX3_highPart_71
        · have hu := hu.trans (if_neg h18_6)
          have n18_2 : ¬ (z1 &&& (15 : Int32)) = (10 : Int32) := h18_6
          refine lv_lookup (pc := 18) (tgt := 116) (off := 98) hx hb dX3_highPart_18 (by decide) ((lv_osw n18_0 (by decide)).trans ((lv_osw n18_1 (by decide)).trans ((lv_osw n18_2 (by decide)).trans (rfl)))) (by decide) ?_
          refine lv_aload_n (pc := 116) hx hb dX3_highPart_116 rfl (lv_at hl 0 rfl) ?_
          refine lv_iconst (pc := 117) (v := (0 : Int32)) hx hb dX3_highPart_117 (by decide) ?_
          refine va_put (D := (dC, dI)) (pc := 118) (ci := 3) (v := .int (0 : Int32)) (ty := .boolean) (C := "LongMachine$Operation") (T := TX3) (N := 4) hx hb hts ui_X3 tyX3 tyX3_ok nmX3 hown hK hP hD hS 0 rfl rfl 1 (by decide) (hts _ gm_61) (fun _ h9 => h9) rfl (by decide +kernel) rfl rfl (Nat.le_of_ble_eq_true rfl) dX3_highPart_118 (fun H locs hP hD hS => ?_)
          have hP : va_P (dC, dI) vwCl (wO cI cJ qO oRes (0 : Int32) oGiv oTrp) H := hP
          have hD : va_D A (wO cI cJ qO oRes (0 : Int32) oGiv oTrp) := hD
          refine lv_lconst (pc := 121) (v := (0 : Int64)) hx hb dX3_highPart_121 (by decide) ?_
          subst hu
          exact W.lret hx hb hr (fun t ht hW => ⟨rfl, by rw [ht]; exact hP, hS.F ht⟩) hS.2.2 dX3_highPart_122
  · have hu := hu.trans (if_pos h4_1)
    refine lv_aload_n (pc := 7) hx hb dX3_highPart_7 rfl (lv_at hl 0 rfl) ?_
    refine lv_iconst (pc := 8) (v := (0 : Int32)) hx hb dX3_highPart_8 (by decide) ?_
    refine va_put (D := (dC, dI)) (pc := 9) (ci := 3) (v := .int (0 : Int32)) (ty := .boolean) (C := "LongMachine$Operation") (T := TX3) (N := 4) hx hb hts ui_X3 tyX3 tyX3_ok nmX3 hown hK hP hD hS 0 rfl rfl 1 (by decide) (hts _ gm_61) (fun _ h9 => h9) rfl (by decide +kernel) rfl rfl (Nat.le_of_ble_eq_true rfl) dX3_highPart_9 (fun H locs hP hD hS => ?_)
    have hP : va_P (dC, dI) vwCl (wO cI cJ qO oRes (0 : Int32) oGiv oTrp) H := hP
    have hD : va_D A (wO cI cJ qO oRes (0 : Int32) oGiv oTrp) := hD
    refine lv_lconst (pc := 12) (v := (0 : Int64)) hx hb dX3_highPart_12 (by decide) ?_
    subst hu
    exact W.lret hx hb hr (fun t ht hW => ⟨rfl, by rw [ht]; exact hP, hS.F ht⟩) hS.2.2 dX3_highPart_13
def f_X3_shift_K166_1  (r166_1 : Int64 × Int32) : Int64 × Int32 := (r166_1.1, r166_1.2)
def f_X3_shift_K153_2  (r153_2 : Int64 × Int32) : Int64 × Int32 := (r153_2.1, r153_2.2)
def f_X3_shift (z1 : Int32) (z2 : Int64) (z4 : Int64) (oKno : Int32) : Int64 × Int32 := (if z1 = (48 : Int32) then ((z2 &&& ((f_X3_bytesOf z4) ^^^ (-1 : Int64))), oKno) else (if z1 = (49 : Int32) then ((z2 &&& (f_X3_bytesOf z4)), oKno) else (if z1 = (52 : Int32) then ((jlushr z2 ((Int64.toInt32 z4) &&& (63 : Int32))), oKno) else (if z1 = (57 : Int32) then ((jlshl z2 ((Int64.toInt32 z4) &&& (63 : Int32))), oKno) else (if z1 = (60 : Int32) then ((jlshr z2 ((Int64.toInt32 z4) &&& (63 : Int32))), oKno) else (if (z1 &&& (64 : Int32)) = (0 : Int32) then (f_X3_shift_K153_2  (f_X3_lowPart z1 z2 ((8 : Int32) * ((Int64.toInt32 z4) &&& (7 : Int32))) (jlushr (-1 : Int64) ((64 : Int32) - ((8 : Int32) <<< (((z1 >>> ((4 : Int32) &&& (31 : Int32))) &&& (3 : Int32)) &&& (31 : Int32))))) oKno)) else (f_X3_shift_K166_1  (f_X3_highPart z1 z2 ((8 : Int32) * ((Int64.toInt32 z4) &&& (7 : Int32))) (jlushr (-1 : Int64) ((64 : Int32) - ((8 : Int32) <<< (((z1 >>> ((4 : Int32) &&& (31 : Int32))) &&& (3 : Int32)) &&& (31 : Int32))))) oKno))))))))
set_option maxRecDepth 100000 in
set_option maxHeartbeats 4000000 in
theorem c_X3_shift (l : Launch) (dC : Nat → ClassId) (dI : Nat → Nat → Nat) (cI cJ : ClassId) (qO : Nat) (sz : Nat) (oRes : Int64) (oKno : Int32) (oGiv : Int32) (oTrp : Int32) (z1 : Int32) (z2 : Int64) (z4 : Int64) : Met l yX3_shift (.code yX3_shift cX3_shift 10 (some .long) :: vG) ({ frames := 1, cells := 0, slots := 0, locals := 26 }) (va_Pc [.ref qO, .int z1, .long z2, .long z4] (qa_pre (dC, dI) vwCl (wO cI cJ qO oRes oKno oGiv oTrp) [(cI, .int), (cJ, .long)] sz)) (qa_mod (some (.long ((f_X3_shift z1 z2 z4 oKno).1))) (dC, dI) vwCl (wO cI cJ qO oRes ((f_X3_shift z1 z2 z4 oKno).2) oGiv oTrp) (va_A (wO cI cJ qO oRes oKno oGiv oTrp) sz)) 0 0 (va_A (wO cI cJ qO oRes oKno oGiv oTrp) sz) := by
  refine Met.ofW (cc := cX3_shift) (maxL := 10) (ret := (some .long)) (by decide) rfl ?_
  intro p e s m args below meth c s₁ B hml hv
  obtain ⟨rfl, hsz, hP, hK, hD0⟩ := hv
  have hx := B.exec
  have hb := B.bytes
  have hr := B.returns
  have hts : ∀ w ∈ vG, w.before _ s = true := fun w h => atoms_spec (ws := (.code yX3_shift cX3_shift 10 (some .long) :: vG)) B.pre w (List.mem_cons_of_mem _ h)
  have hown : s.vm.findClass "LongMachine$Operation" = some m.cls := findClass_of_methodNamed B.named
  have hlocks := B.notSynchronized
  subst hsz
  have hD := hD0.self (sz := s.heap.size)
  generalize hAe : va_A (wO cI cJ qO oRes oKno oGiv oTrp) s.heap.size = A at hD ⊢
  have hA : ∀ q : Nat, s.heap.size ≤ q → A q := fun q h => by rw [← hAe]; exact Or.inr h
  have hS : va_S A s.heap s.heap [] := va_S.rf
  have hl := lv_entry ([.ref qO, .int z1, .long z2, .long z4]) (n := 10) (Nat.le_of_ble_eq_true rfl)
  rw [lg_entry_eq]
  generalize (lg_sl ([.ref qO, .int z1, .long z2, .long z4]) ++ List.replicate (10 - (lg_sl ([.ref qO, .int z1, .long z2, .long z4])).length) Slot.unset).toArray = ls at hl ⊢
  have hl : lv_has ls 10 [(0, .ref qO), (1, .int z1), (2, .long z2), (4, .long z4)] := hl
  obtain ⟨u, hu⟩ : ∃ u, u = f_X3_shift z1 z2 z4 oKno := ⟨_, rfl⟩
  rw [← hu]
  unfold f_X3_shift at hu
  refine lv_lload (pc := 0) hx hb dX3_shift_0 (lv_at hl 3 rfl) ?_
  refine lv_l2i (pc := 2) (v := (Int64.toInt32 z4)) hx hb dX3_shift_2 rfl ?_
  refine lv_bipush (pc := 3) (v := (63 : Int32)) hx hb dX3_shift_3 (by decide) ?_
  refine lv_iand (pc := 5) hx hb dX3_shift_5 ?_
  refine lv_istore (pc := 6) (lv' := [(6, .int ((Int64.toInt32 z4) &&& (63 : Int32))), (0, .ref qO), (1, .int z1), (2, .long z2), (4, .long z4)]) hx hb dX3_shift_6 hl (by decide) rfl (fun ls hl => ?_)
  refine lv_iload_n (pc := 8) hx hb dX3_shift_8 rfl (lv_at hl 2 rfl) ?_
  rcases Decidable.em (z1 = (48 : Int32)) with h9_1 | h9_1
  · have hu := hu.trans (if_pos h9_1)
    refine qa_table (pc := 9) (tgt := 76) (off := 67) hx hb dX3_shift_9 (Or.inr (by rw [h9_1]; decide)) (by decide) ?_
    refine lv_lload_n (pc := 76) hx hb dX3_shift_76 rfl (lv_at hl 3 rfl) ?_
    refine lv_lload (pc := 77) hx hb dX3_shift_77 (lv_at hl 4 rfl) ?_
    refine qa_calld (pc := 79) (v := .long (f_X3_bytesOf z4)) (va_runS (As := [.long z4]) (rest := [.long z2]) ⟨hx, hb, hml, hown, hts⟩ (c_X3_bytesOf l z4) (va_cwS 1 hts (gd_S gm_291 gm_289 gm_290 gm_4) rfl rfl rfl (by decide +kernel) ⟨Nat.le_of_ble_eq_true rfl, Nat.le_of_ble_eq_true rfl⟩) qa_S0 rfl rfl hl.1 rfl (lv_room (Nat.le_of_ble_eq_true rfl)) dX3_shift_79 ⟨Nat.zero_le _, Nat.zero_le _⟩) ?_
    refine lv_ldc2 (pc := 82) (v := (-1 : Int64)) hx hb hown (hts _ gm_282) dX3_shift_82 ?_
    refine lv_lxor (pc := 85) hx hb dX3_shift_85 ?_
    refine lv_land (pc := 86) hx hb dX3_shift_86 ?_
    subst hu
    exact W.lret hx hb hr (fun t ht hW => ⟨rfl, by rw [ht]; exact hP, hS.F ht⟩) hS.2.2 dX3_shift_87
  · have hu := hu.trans (if_neg h9_1)
    have n9_0 : ¬ z1 = (48 : Int32) := h9_1
    rcases Decidable.em (z1 = (49 : Int32)) with h9_2 | h9_2
    · have hu := hu.trans (if_pos h9_2)
      refine qa_table (pc := 9) (tgt := 88) (off := 79) hx hb dX3_shift_9 (Or.inr (by rw [h9_2]; decide)) (by decide) ?_
      refine lv_lload_n (pc := 88) hx hb dX3_shift_88 rfl (lv_at hl 3 rfl) ?_
      refine lv_lload (pc := 89) hx hb dX3_shift_89 (lv_at hl 4 rfl) ?_
      refine qa_calld (pc := 91) (v := .long (f_X3_bytesOf z4)) (va_runS (As := [.long z4]) (rest := [.long z2]) ⟨hx, hb, hml, hown, hts⟩ (c_X3_bytesOf l z4) (va_cwS 1 hts (gd_S gm_291 gm_289 gm_290 gm_4) rfl rfl rfl (by decide +kernel) ⟨Nat.le_of_ble_eq_true rfl, Nat.le_of_ble_eq_true rfl⟩) qa_S0 rfl rfl hl.1 rfl (lv_room (Nat.le_of_ble_eq_true rfl)) dX3_shift_91 ⟨Nat.zero_le _, Nat.zero_le _⟩) ?_
      refine lv_land (pc := 94) hx hb dX3_shift_94 ?_
      subst hu
      exact W.lret hx hb hr (fun t ht hW => ⟨rfl, by rw [ht]; exact hP, hS.F ht⟩) hS.2.2 dX3_shift_95
    · have hu := hu.trans (if_neg h9_2)
      have n9_1 : ¬ z1 = (49 : Int32) := h9_2
      rcases Decidable.em (z1 = (52 : Int32)) with h9_3 | h9_3
      · have hu := hu.trans (if_pos h9_3)
        refine qa_table (pc := 9) (tgt := 96) (off := 87) hx hb dX3_shift_9 (Or.inr (by rw [h9_3]; decide)) (by decide) ?_
        refine lv_lload_n (pc := 96) hx hb dX3_shift_96 rfl (lv_at hl 3 rfl) ?_
        refine lv_iload (pc := 97) hx hb dX3_shift_97 (lv_at hl 0 rfl) ?_
        refine lv_lushr (pc := 99) (v := (jlushr z2 ((Int64.toInt32 z4) &&& (63 : Int32)))) hx hb dX3_shift_99 rfl ?_
        subst hu
        exact W.lret hx hb hr (fun t ht hW => ⟨rfl, by rw [ht]; exact hP, hS.F ht⟩) hS.2.2 dX3_shift_100
      · have hu := hu.trans (if_neg h9_3)
        have n9_2 : ¬ z1 = (52 : Int32) := h9_3
        rcases Decidable.em (z1 = (57 : Int32)) with h9_4 | h9_4
        · have hu := hu.trans (if_pos h9_4)
          refine qa_table (pc := 9) (tgt := 101) (off := 92) hx hb dX3_shift_9 (Or.inr (by rw [h9_4]; decide)) (by decide) ?_
          refine lv_lload_n (pc := 101) hx hb dX3_shift_101 rfl (lv_at hl 3 rfl) ?_
          refine lv_iload (pc := 102) hx hb dX3_shift_102 (lv_at hl 0 rfl) ?_
          refine lv_lshl (pc := 104) (v := (jlshl z2 ((Int64.toInt32 z4) &&& (63 : Int32)))) hx hb dX3_shift_104 rfl ?_
          subst hu
          exact W.lret hx hb hr (fun t ht hW => ⟨rfl, by rw [ht]; exact hP, hS.F ht⟩) hS.2.2 dX3_shift_105
        · have hu := hu.trans (if_neg h9_4)
          have n9_3 : ¬ z1 = (57 : Int32) := h9_4
          rcases Decidable.em (z1 = (60 : Int32)) with h9_5 | h9_5
          · have hu := hu.trans (if_pos h9_5)
            refine qa_table (pc := 9) (tgt := 106) (off := 97) hx hb dX3_shift_9 (Or.inr (by rw [h9_5]; decide)) (by decide) ?_
            refine lv_lload_n (pc := 106) hx hb dX3_shift_106 rfl (lv_at hl 3 rfl) ?_
            refine lv_iload (pc := 107) hx hb dX3_shift_107 (lv_at hl 0 rfl) ?_
            refine lv_lshr (pc := 109) (v := (jlshr z2 ((Int64.toInt32 z4) &&& (63 : Int32)))) hx hb dX3_shift_109 rfl ?_
            subst hu
            exact W.lret hx hb hr (fun t ht hW => ⟨rfl, by rw [ht]; exact hP, hS.F ht⟩) hS.2.2 dX3_shift_110
          · have hu := hu.trans (if_neg h9_5)
            have n9_4 : ¬ z1 = (60 : Int32) := h9_5
            refine qa_table (pc := 9) (tgt := 111) (off := 102) hx hb dX3_shift_9 (by (rcases Decidable.em ((z1).toInt < 48 ∨ 60 < (z1).toInt) with hh | hh); exact Or.inl ⟨hh, rfl⟩; refine Or.inr ?_; (have := lv_neT n9_0 (by decide : ((48 : Int32)).toInt = 48); have := lv_neT n9_1 (by decide : ((49 : Int32)).toInt = 49); have := lv_neT n9_2 (by decide : ((52 : Int32)).toInt = 52); have := lv_neT n9_3 (by decide : ((57 : Int32)).toInt = 57); have := lv_neT n9_4 (by decide : ((60 : Int32)).toInt = 60)); have hh2 : (z1).toInt = 50 ∨ (z1).toInt = 51 ∨ (z1).toInt = 53 ∨ (z1).toInt = 54 ∨ (z1).toInt = 55 ∨ (z1).toInt = 56 ∨ (z1).toInt = 58 ∨ (z1).toInt = 59 := (by omega); rcases hh2 with h | h | h | h | h | h | h | h <;> (rw [h]; decide)) (by decide) ?_
            refine lv_bipush (pc := 111) (v := (8 : Int32)) hx hb dX3_shift_111 (by decide) ?_
            refine lv_lload (pc := 113) hx hb dX3_shift_113 (lv_at hl 4 rfl) ?_
            refine lv_l2i (pc := 115) (v := (Int64.toInt32 z4)) hx hb dX3_shift_115 rfl ?_
            refine lv_bipush (pc := 116) (v := (7 : Int32)) hx hb dX3_shift_116 (by decide) ?_
            refine lv_iand (pc := 118) hx hb dX3_shift_118 ?_
            refine lv_imul (pc := 119) hx hb dX3_shift_119 ?_
            refine lv_istore (pc := 120) (lv' := [(7, .int ((8 : Int32) * ((Int64.toInt32 z4) &&& (7 : Int32)))), (6, .int ((Int64.toInt32 z4) &&& (63 : Int32))), (0, .ref qO), (1, .int z1), (2, .long z2), (4, .long z4)]) hx hb dX3_shift_120 hl (by decide) rfl (fun ls hl => ?_)
            refine lv_ldc2 (pc := 122) (v := (-1 : Int64)) hx hb hown (hts _ gm_282) dX3_shift_122 ?_
            refine lv_bipush (pc := 125) (v := (64 : Int32)) hx hb dX3_shift_125 (by decide) ?_
            refine lv_bipush (pc := 127) (v := (8 : Int32)) hx hb dX3_shift_127 (by decide) ?_
            refine lv_iload_n (pc := 129) hx hb dX3_shift_129 rfl (lv_at hl 3 rfl) ?_
            refine lv_iconst (pc := 130) (v := (4 : Int32)) hx hb dX3_shift_130 (by decide) ?_
            refine lv_ishr (pc := 131) hx hb dX3_shift_131 ?_
            refine lv_iconst (pc := 132) (v := (3 : Int32)) hx hb dX3_shift_132 (by decide) ?_
            refine lv_iand (pc := 133) hx hb dX3_shift_133 ?_
            refine lv_ishl (pc := 134) hx hb dX3_shift_134 ?_
            refine lv_isub (pc := 135) hx hb dX3_shift_135 ?_
            refine lv_lushr (pc := 136) (v := (jlushr (-1 : Int64) ((64 : Int32) - ((8 : Int32) <<< (((z1 >>> ((4 : Int32) &&& (31 : Int32))) &&& (3 : Int32)) &&& (31 : Int32)))))) hx hb dX3_shift_136 rfl ?_
            refine lv_lstore (pc := 137) (lv' := [(8, .long (jlushr (-1 : Int64) ((64 : Int32) - ((8 : Int32) <<< (((z1 >>> ((4 : Int32) &&& (31 : Int32))) &&& (3 : Int32)) &&& (31 : Int32)))))), (7, .int ((8 : Int32) * ((Int64.toInt32 z4) &&& (7 : Int32)))), (6, .int ((Int64.toInt32 z4) &&& (63 : Int32))), (0, .ref qO), (1, .int z1), (2, .long z2), (4, .long z4)]) hx hb dX3_shift_137 hl (by decide) rfl (fun ls hl => ?_)
            refine lv_iload_n (pc := 139) hx hb dX3_shift_139 rfl (lv_at hl 4 rfl) ?_
            refine lv_bipush (pc := 140) (v := (64 : Int32)) hx hb dX3_shift_140 (by decide) ?_
            refine lv_iand (pc := 142) hx hb dX3_shift_142 ?_
            refine lv_if_ne (pc := 143) (tgt := 159) hx hb dX3_shift_143 (by decide) (fun h143_6 => ?_) (fun h143_6 => ?_)
            · have hu := hu.trans (if_neg h143_6)
              refine lv_aload_n (pc := 159) hx hb dX3_shift_159 rfl (lv_at hl 3 rfl) ?_
              refine lv_iload_n (pc := 160) hx hb dX3_shift_160 rfl (lv_at hl 4 rfl) ?_
              refine lv_lload_n (pc := 161) hx hb dX3_shift_161 rfl (lv_at hl 5 rfl) ?_
              refine lv_iload (pc := 162) hx hb dX3_shift_162 (lv_at hl 1 rfl) ?_
              refine lv_lload (pc := 164) hx hb dX3_shift_164 (lv_at hl 0 rfl) ?_
              have hc := c_X3_highPart l dC dI cI cJ qO s.heap.size oRes oKno oGiv oTrp z1 z2 ((8 : Int32) * ((Int64.toInt32 z4) &&& (7 : Int32))) (jlushr (-1 : Int64) ((64 : Int32) - ((8 : Int32) <<< (((z1 >>> ((4 : Int32) &&& (31 : Int32))) &&& (3 : Int32)) &&& (31 : Int32)))))
              generalize er166_1 : f_X3_highPart z1 z2 ((8 : Int32) * ((Int64.toInt32 z4) &&& (7 : Int32))) (jlushr (-1 : Int64) ((64 : Int32) - ((8 : Int32) <<< (((z1 >>> ((4 : Int32) &&& (31 : Int32))) &&& (3 : Int32)) &&& (31 : Int32))))) oKno = r166_1 at hu hc
              unfold f_X3_shift_K166_1 at hu
              refine qa_calll (pc := 166) (wr := []) (wf := (wO cI cJ qO oRes r166_1.2 oGiv oTrp)) (va_runV (As := [.int z1, .long z2, .int ((8 : Int32) * ((Int64.toInt32 z4) &&& (7 : Int32))), .long (jlushr (-1 : Int64) ((64 : Int32) - ((8 : Int32) <<< (((z1 >>> ((4 : Int32) &&& (31 : Int32))) &&& (3 : Int32)) &&& (31 : Int32)))))]) (rest := []) ⟨hx, hb, hml, hown, hts⟩ hc (cwV 4 hts (gd_V gm_297 gm_295 gm_296 gm_569 gm_4) rfl rfl rfl (by decide +kernel) ⟨Nat.le_of_ble_eq_true rfl, Nat.le_of_ble_eq_true rfl⟩) (qa_VM (q0 := 0) (q := ("LongMachine$Operation", TX3, 4)) hK hP rfl rfl hP hD) rfl rfl hl.1 rfl (lv_room (Nat.le_of_ble_eq_true rfl)) dX3_shift_166 ⟨Nat.zero_le _, Nat.zero_le _⟩) hP hD hS hA [0] [] [0] rfl (by decide) rfl (by decide) (by decide) rfl rfl (by decide) (fun H locs hP hD hS => ?_)
              subst hu
              exact W.lret hx hb hr (fun t ht hW => ⟨rfl, by rw [ht]; exact hP, hS.F ht⟩) hS.2.2 dX3_shift_169
            · have hu := hu.trans (if_pos h143_6)
              refine lv_aload_n (pc := 146) hx hb dX3_shift_146 rfl (lv_at hl 3 rfl) ?_
              refine lv_iload_n (pc := 147) hx hb dX3_shift_147 rfl (lv_at hl 4 rfl) ?_
              refine lv_lload_n (pc := 148) hx hb dX3_shift_148 rfl (lv_at hl 5 rfl) ?_
              refine lv_iload (pc := 149) hx hb dX3_shift_149 (lv_at hl 1 rfl) ?_
              refine lv_lload (pc := 151) hx hb dX3_shift_151 (lv_at hl 0 rfl) ?_
              have hc := c_X3_lowPart l dC dI cI cJ qO s.heap.size oRes oKno oGiv oTrp z1 z2 ((8 : Int32) * ((Int64.toInt32 z4) &&& (7 : Int32))) (jlushr (-1 : Int64) ((64 : Int32) - ((8 : Int32) <<< (((z1 >>> ((4 : Int32) &&& (31 : Int32))) &&& (3 : Int32)) &&& (31 : Int32)))))
              generalize er153_2 : f_X3_lowPart z1 z2 ((8 : Int32) * ((Int64.toInt32 z4) &&& (7 : Int32))) (jlushr (-1 : Int64) ((64 : Int32) - ((8 : Int32) <<< (((z1 >>> ((4 : Int32) &&& (31 : Int32))) &&& (3 : Int32)) &&& (31 : Int32))))) oKno = r153_2 at hu hc
              unfold f_X3_shift_K153_2 at hu
              refine qa_calll (pc := 153) (wr := []) (wf := (wO cI cJ qO oRes r153_2.2 oGiv oTrp)) (va_runV (As := [.int z1, .long z2, .int ((8 : Int32) * ((Int64.toInt32 z4) &&& (7 : Int32))), .long (jlushr (-1 : Int64) ((64 : Int32) - ((8 : Int32) <<< (((z1 >>> ((4 : Int32) &&& (31 : Int32))) &&& (3 : Int32)) &&& (31 : Int32)))))]) (rest := []) ⟨hx, hb, hml, hown, hts⟩ hc (cwV 4 hts (gd_V gm_294 gm_292 gm_293 gm_568 gm_4) rfl rfl rfl (by decide +kernel) ⟨Nat.le_of_ble_eq_true rfl, Nat.le_of_ble_eq_true rfl⟩) (qa_VM (q0 := 0) (q := ("LongMachine$Operation", TX3, 4)) hK hP rfl rfl hP hD) rfl rfl hl.1 rfl (lv_room (Nat.le_of_ble_eq_true rfl)) dX3_shift_153 ⟨Nat.zero_le _, Nat.zero_le _⟩) hP hD hS hA [0] [] [0] rfl (by decide) rfl (by decide) (by decide) rfl rfl (by decide) (fun H locs hP hD hS => ?_)
              refine lv_goto (pc := 156) (tgt := 169) hx hb dX3_shift_156 (by decide) ?_
              subst hu
              exact W.lret hx hb hr (fun t ht hW => ⟨rfl, by rw [ht]; exact hP, hS.F ht⟩) hS.2.2 dX3_shift_169
set_option maxRecDepth 100000 in
set_option maxHeartbeats 4000000 in
theorem c_X3_upper (l : Launch) (z0 : Int64) (z2 : Int64) : Met l yX3_upper (.code yX3_upper cX3_upper 16 (some .long) :: vG) ({ frames := 0, cells := 0, slots := 0, locals := 0 }) (va_Pc [.long z0, .long z2] (fun _ => True)) (qa_det (.long ((((jlushr z0 (32 : Int32)) * (jlushr z2 (32 : Int32))) + (jlushr (((jlushr z0 (32 : Int32)) * (z2 &&& (4294967295 : Int64))) + (jlushr ((z0 &&& (4294967295 : Int64)) * (z2 &&& (4294967295 : Int64))) (32 : Int32))) (32 : Int32))) + (jlushr (((z0 &&& (4294967295 : Int64)) * (jlushr z2 (32 : Int32))) + ((((jlushr z0 (32 : Int32)) * (z2 &&& (4294967295 : Int64))) + (jlushr ((z0 &&& (4294967295 : Int64)) * (z2 &&& (4294967295 : Int64))) (32 : Int32))) &&& (4294967295 : Int64))) (32 : Int32))))) 0 0 (fun _ => False) := by
  refine Met.ofW (cc := cX3_upper) (maxL := 16) (ret := (some .long)) (by decide) rfl ?_
  intro p e s m args below meth c s₁ B hml hv
  obtain ⟨rfl, hv⟩ := hv
  have hx := B.exec
  have hb := B.bytes
  have hr := B.returns
  have hts : ∀ w ∈ vG, w.before _ s = true := fun w h => atoms_spec (ws := (.code yX3_upper cX3_upper 16 (some .long) :: vG)) B.pre w (List.mem_cons_of_mem _ h)
  have hown : s.vm.findClass "LongMachine$Operation" = some m.cls := findClass_of_methodNamed B.named
  have hlocks := B.notSynchronized
  have hl := lv_entry ([.long z0, .long z2]) (n := 16) (Nat.le_of_ble_eq_true rfl)
  rw [lg_entry_eq]
  generalize (lg_sl ([.long z0, .long z2]) ++ List.replicate (16 - (lg_sl ([.long z0, .long z2])).length) Slot.unset).toArray = ls at hl ⊢
  have hl : lv_has ls 16 [(0, .long z0), (2, .long z2)] := hl
  refine lv_lload_n (pc := 0) hx hb dX3_upper_0 rfl (lv_at hl 0 rfl) ?_
  refine lv_ldc2 (pc := 1) (v := (4294967295 : Int64)) hx hb hown (hts _ gm_304) dX3_upper_1 ?_
  refine lv_land (pc := 4) hx hb dX3_upper_4 ?_
  refine lv_lstore (pc := 5) (lv' := [(4, .long (z0 &&& (4294967295 : Int64))), (0, .long z0), (2, .long z2)]) hx hb dX3_upper_5 hl (by decide) rfl (fun ls hl => ?_)
  refine lv_lload_n (pc := 7) hx hb dX3_upper_7 rfl (lv_at hl 2 rfl) ?_
  refine lv_ldc2 (pc := 8) (v := (4294967295 : Int64)) hx hb hown (hts _ gm_304) dX3_upper_8 ?_
  refine lv_land (pc := 11) hx hb dX3_upper_11 ?_
  refine lv_lstore (pc := 12) (lv' := [(6, .long (z2 &&& (4294967295 : Int64))), (4, .long (z0 &&& (4294967295 : Int64))), (0, .long z0), (2, .long z2)]) hx hb dX3_upper_12 hl (by decide) rfl (fun ls hl => ?_)
  refine lv_lload_n (pc := 14) hx hb dX3_upper_14 rfl (lv_at hl 2 rfl) ?_
  refine lv_bipush (pc := 15) (v := (32 : Int32)) hx hb dX3_upper_15 (by decide) ?_
  refine lv_lushr (pc := 17) (v := (jlushr z0 (32 : Int32))) hx hb dX3_upper_17 rfl ?_
  refine lv_lstore (pc := 18) (lv' := [(8, .long (jlushr z0 (32 : Int32))), (6, .long (z2 &&& (4294967295 : Int64))), (4, .long (z0 &&& (4294967295 : Int64))), (0, .long z0), (2, .long z2)]) hx hb dX3_upper_18 hl (by decide) rfl (fun ls hl => ?_)
  refine lv_lload_n (pc := 20) hx hb dX3_upper_20 rfl (lv_at hl 4 rfl) ?_
  refine lv_bipush (pc := 21) (v := (32 : Int32)) hx hb dX3_upper_21 (by decide) ?_
  refine lv_lushr (pc := 23) (v := (jlushr z2 (32 : Int32))) hx hb dX3_upper_23 rfl ?_
  refine lv_lstore (pc := 24) (lv' := [(10, .long (jlushr z2 (32 : Int32))), (8, .long (jlushr z0 (32 : Int32))), (6, .long (z2 &&& (4294967295 : Int64))), (4, .long (z0 &&& (4294967295 : Int64))), (0, .long z0), (2, .long z2)]) hx hb dX3_upper_24 hl (by decide) rfl (fun ls hl => ?_)
  refine lv_lload (pc := 26) hx hb dX3_upper_26 (lv_at hl 1 rfl) ?_
  refine lv_lload (pc := 28) hx hb dX3_upper_28 (lv_at hl 2 rfl) ?_
  refine lv_lmul (pc := 30) hx hb dX3_upper_30 ?_
  refine lv_lload (pc := 31) hx hb dX3_upper_31 (lv_at hl 3 rfl) ?_
  refine lv_lload (pc := 33) hx hb dX3_upper_33 (lv_at hl 2 rfl) ?_
  refine lv_lmul (pc := 35) hx hb dX3_upper_35 ?_
  refine lv_bipush (pc := 36) (v := (32 : Int32)) hx hb dX3_upper_36 (by decide) ?_
  refine lv_lushr (pc := 38) (v := (jlushr ((z0 &&& (4294967295 : Int64)) * (z2 &&& (4294967295 : Int64))) (32 : Int32))) hx hb dX3_upper_38 rfl ?_
  refine lv_ladd (pc := 39) hx hb dX3_upper_39 ?_
  refine lv_lstore (pc := 40) (lv' := [(12, .long (((jlushr z0 (32 : Int32)) * (z2 &&& (4294967295 : Int64))) + (jlushr ((z0 &&& (4294967295 : Int64)) * (z2 &&& (4294967295 : Int64))) (32 : Int32)))), (10, .long (jlushr z2 (32 : Int32))), (8, .long (jlushr z0 (32 : Int32))), (6, .long (z2 &&& (4294967295 : Int64))), (4, .long (z0 &&& (4294967295 : Int64))), (0, .long z0), (2, .long z2)]) hx hb dX3_upper_40 hl (by decide) rfl (fun ls hl => ?_)
  refine lv_lload (pc := 42) hx hb dX3_upper_42 (lv_at hl 4 rfl) ?_
  refine lv_lload (pc := 44) hx hb dX3_upper_44 (lv_at hl 1 rfl) ?_
  refine lv_lmul (pc := 46) hx hb dX3_upper_46 ?_
  refine lv_lload (pc := 47) hx hb dX3_upper_47 (lv_at hl 0 rfl) ?_
  refine lv_ldc2 (pc := 49) (v := (4294967295 : Int64)) hx hb hown (hts _ gm_304) dX3_upper_49 ?_
  refine lv_land (pc := 52) hx hb dX3_upper_52 ?_
  refine lv_ladd (pc := 53) hx hb dX3_upper_53 ?_
  refine lv_lstore (pc := 54) (lv' := [(14, .long (((z0 &&& (4294967295 : Int64)) * (jlushr z2 (32 : Int32))) + ((((jlushr z0 (32 : Int32)) * (z2 &&& (4294967295 : Int64))) + (jlushr ((z0 &&& (4294967295 : Int64)) * (z2 &&& (4294967295 : Int64))) (32 : Int32))) &&& (4294967295 : Int64)))), (12, .long (((jlushr z0 (32 : Int32)) * (z2 &&& (4294967295 : Int64))) + (jlushr ((z0 &&& (4294967295 : Int64)) * (z2 &&& (4294967295 : Int64))) (32 : Int32)))), (10, .long (jlushr z2 (32 : Int32))), (8, .long (jlushr z0 (32 : Int32))), (6, .long (z2 &&& (4294967295 : Int64))), (4, .long (z0 &&& (4294967295 : Int64))), (0, .long z0), (2, .long z2)]) hx hb dX3_upper_54 hl (by decide) rfl (fun ls hl => ?_)
  refine lv_lload (pc := 56) hx hb dX3_upper_56 (lv_at hl 3 rfl) ?_
  refine lv_lload (pc := 58) hx hb dX3_upper_58 (lv_at hl 2 rfl) ?_
  refine lv_lmul (pc := 60) hx hb dX3_upper_60 ?_
  refine lv_lload (pc := 61) hx hb dX3_upper_61 (lv_at hl 1 rfl) ?_
  refine lv_bipush (pc := 63) (v := (32 : Int32)) hx hb dX3_upper_63 (by decide) ?_
  refine lv_lushr (pc := 65) (v := (jlushr (((jlushr z0 (32 : Int32)) * (z2 &&& (4294967295 : Int64))) + (jlushr ((z0 &&& (4294967295 : Int64)) * (z2 &&& (4294967295 : Int64))) (32 : Int32))) (32 : Int32))) hx hb dX3_upper_65 rfl ?_
  refine lv_ladd (pc := 66) hx hb dX3_upper_66 ?_
  refine lv_lload (pc := 67) hx hb dX3_upper_67 (lv_at hl 0 rfl) ?_
  refine lv_bipush (pc := 69) (v := (32 : Int32)) hx hb dX3_upper_69 (by decide) ?_
  refine lv_lushr (pc := 71) (v := (jlushr (((z0 &&& (4294967295 : Int64)) * (jlushr z2 (32 : Int32))) + ((((jlushr z0 (32 : Int32)) * (z2 &&& (4294967295 : Int64))) + (jlushr ((z0 &&& (4294967295 : Int64)) * (z2 &&& (4294967295 : Int64))) (32 : Int32))) &&& (4294967295 : Int64))) (32 : Int32))) hx hb dX3_upper_71 rfl ?_
  refine lv_ladd (pc := 72) hx hb dX3_upper_72 ?_
  exact W.lret hx hb hr (fun t ht hW => ⟨rfl, ht⟩) (fun _ h => by cases h) dX3_upper_73
set_option maxRecDepth 100000 in
set_option maxHeartbeats 4000000 in
theorem c_X3_signedUpper (l : Launch) (z0 : Int64) (z2 : Int64) (z4 : Int64) : Met l yX3_signedUpper (.code yX3_signedUpper cX3_signedUpper 6 (some .long) :: vG) ({ frames := 0, cells := 0, slots := 0, locals := 0 }) (va_Pc [.long z0, .long z2, .long z4] (fun _ => True)) (qa_det (.long ((z0 - (if (0 : Int64) ≤ z2 then (0 : Int64) else z4)) - (if (0 : Int64) ≤ z4 then (0 : Int64) else z2)))) 0 0 (fun _ => False) := by
  refine Met.ofW (cc := cX3_signedUpper) (maxL := 6) (ret := (some .long)) (by decide) rfl ?_
  intro p e s m args below meth c s₁ B hml hv
  obtain ⟨rfl, hv⟩ := hv
  have hx := B.exec
  have hb := B.bytes
  have hr := B.returns
  have hts : ∀ w ∈ vG, w.before _ s = true := fun w h => atoms_spec (ws := (.code yX3_signedUpper cX3_signedUpper 6 (some .long) :: vG)) B.pre w (List.mem_cons_of_mem _ h)
  have hown : s.vm.findClass "LongMachine$Operation" = some m.cls := findClass_of_methodNamed B.named
  have hlocks := B.notSynchronized
  have hl := lv_entry ([.long z0, .long z2, .long z4]) (n := 6) (Nat.le_of_ble_eq_true rfl)
  rw [lg_entry_eq]
  generalize (lg_sl ([.long z0, .long z2, .long z4]) ++ List.replicate (6 - (lg_sl ([.long z0, .long z2, .long z4])).length) Slot.unset).toArray = ls at hl ⊢
  have hl : lv_has ls 6 [(0, .long z0), (2, .long z2), (4, .long z4)] := hl
  refine lv_lload_n (pc := 0) hx hb dX3_signedUpper_0 rfl (lv_at hl 0 rfl) ?_
  refine lv_lload_n (pc := 1) hx hb dX3_signedUpper_1 rfl (lv_at hl 1 rfl) ?_
  refine lv_lconst (pc := 2) (v := (0 : Int64)) hx hb dX3_signedUpper_2 (by decide) ?_
  refine qa_joinl (J := 13) (ls2 := ls) (rest2 := [.long z0]) (if (0 : Int64) ≤ z2 then (0 : Int64) else z4) (fun hj13 => ?_) ?_
  · refine qa_lc_ge (pc := 3) (tgt := 12) hx hb dX3_signedUpper_3 dX3_signedUpper_4 (by decide) (fun h3_1 => ?_) (fun h3_1 => ?_)
    · refine lv_lconst (pc := 12) (v := (0 : Int64)) hx hb dX3_signedUpper_12 (by decide) ?_
      exact hj13 _ (Eq.symm (if_pos h3_1))
    · refine lv_lload (pc := 7) hx hb dX3_signedUpper_7 (lv_at hl 2 rfl) ?_
      refine lv_goto (pc := 9) (tgt := 13) hx hb dX3_signedUpper_9 (by decide) ?_
      exact hj13 _ (Eq.symm (if_neg h3_1))
  refine lv_lsub (pc := 13) hx hb dX3_signedUpper_13 ?_
  refine lv_lload (pc := 14) hx hb dX3_signedUpper_14 (lv_at hl 2 rfl) ?_
  refine lv_lconst (pc := 16) (v := (0 : Int64)) hx hb dX3_signedUpper_16 (by decide) ?_
  refine qa_joinl (J := 26) (ls2 := ls) (rest2 := [.long (z0 - (if (0 : Int64) ≤ z2 then (0 : Int64) else z4))]) (if (0 : Int64) ≤ z4 then (0 : Int64) else z2) (fun hj26 => ?_) ?_
  · refine qa_lc_ge (pc := 17) (tgt := 25) hx hb dX3_signedUpper_17 dX3_signedUpper_18 (by decide) (fun h17_2 => ?_) (fun h17_2 => ?_)
    · refine lv_lconst (pc := 25) (v := (0 : Int64)) hx hb dX3_signedUpper_25 (by decide) ?_
      exact hj26 _ (Eq.symm (if_pos h17_2))
    · refine lv_lload_n (pc := 21) hx hb dX3_signedUpper_21 rfl (lv_at hl 1 rfl) ?_
      refine lv_goto (pc := 22) (tgt := 26) hx hb dX3_signedUpper_22 (by decide) ?_
      exact hj26 _ (Eq.symm (if_neg h17_2))
  refine lv_lsub (pc := 26) hx hb dX3_signedUpper_26 ?_
  exact W.lret hx hb hr (fun t ht hW => ⟨rfl, ht⟩) (fun _ h => by cases h) dX3_signedUpper_27
def f_X3_multiply (z1 : Int32) (z2 : Int64) (z4 : Int64) (oKno : Int32) (oTrp : Int32) : Int64 × Int32 × Int32 := (if z1 = (0 : Int32) then ((Int32.toInt64 (Int64.toInt32 (z2 * z4))), oKno, oTrp) else (if z1 = (32 : Int32) then ((z2 * z4), oKno, oTrp) else (if z1 = (48 : Int32) then (((((jlushr z2 (32 : Int32)) * (jlushr z4 (32 : Int32))) + (jlushr (((jlushr z2 (32 : Int32)) * (z4 &&& (4294967295 : Int64))) + (jlushr ((z2 &&& (4294967295 : Int64)) * (z4 &&& (4294967295 : Int64))) (32 : Int32))) (32 : Int32))) + (jlushr (((z2 &&& (4294967295 : Int64)) * (jlushr z4 (32 : Int32))) + ((((jlushr z2 (32 : Int32)) * (z4 &&& (4294967295 : Int64))) + (jlushr ((z2 &&& (4294967295 : Int64)) * (z4 &&& (4294967295 : Int64))) (32 : Int32))) &&& (4294967295 : Int64))) (32 : Int32))), oKno, oTrp) else (if z1 = (64 : Int32) then ((Int32.toInt64 (Int64.toInt32 (z2 * z4))), oKno, (if (Int32.toInt64 (Int64.toInt32 (z2 * z4))) = ((Int32.toInt64 (Int64.toInt32 z2)) * (Int32.toInt64 (Int64.toInt32 z4))) then (0 : Int32) else (1 : Int32))) else (if z1 = (96 : Int32) then ((z2 * z4), oKno, (if ((((((jlushr z2 (32 : Int32)) * (jlushr z4 (32 : Int32))) + (jlushr (((jlushr z2 (32 : Int32)) * (z4 &&& (4294967295 : Int64))) + (jlushr ((z2 &&& (4294967295 : Int64)) * (z4 &&& (4294967295 : Int64))) (32 : Int32))) (32 : Int32))) + (jlushr (((z2 &&& (4294967295 : Int64)) * (jlushr z4 (32 : Int32))) + ((((jlushr z2 (32 : Int32)) * (z4 &&& (4294967295 : Int64))) + (jlushr ((z2 &&& (4294967295 : Int64)) * (z4 &&& (4294967295 : Int64))) (32 : Int32))) &&& (4294967295 : Int64))) (32 : Int32))) - (if (0 : Int64) ≤ z2 then (0 : Int64) else z4)) - (if (0 : Int64) ≤ z4 then (0 : Int64) else z2)) = (jlshr (z2 * z4) (63 : Int32)) then (0 : Int32) else (1 : Int32))) else ((0 : Int64), (0 : Int32), oTrp))))))
set_option maxRecDepth 100000 in
set_option maxHeartbeats 4000000 in
theorem c_X3_multiply (l : Launch) (dC : Nat → ClassId) (dI : Nat → Nat → Nat) (cI cJ : ClassId) (qO : Nat) (sz : Nat) (oRes : Int64) (oKno : Int32) (oGiv : Int32) (oTrp : Int32) (z1 : Int32) (z2 : Int64) (z4 : Int64) : Met l yX3_multiply (.code yX3_multiply cX3_multiply 6 (some .long) :: vG) ({ frames := 1, cells := 0, slots := 0, locals := 35 }) (va_Pc [.ref qO, .int z1, .long z2, .long z4] (qa_pre (dC, dI) vwCl (wO cI cJ qO oRes oKno oGiv oTrp) [(cI, .int), (cJ, .long)] sz)) (qa_mod (some (.long ((f_X3_multiply z1 z2 z4 oKno oTrp).1))) (dC, dI) vwCl (wO cI cJ qO oRes ((f_X3_multiply z1 z2 z4 oKno oTrp).2.1) oGiv ((f_X3_multiply z1 z2 z4 oKno oTrp).2.2)) (va_A (wO cI cJ qO oRes oKno oGiv oTrp) sz)) 0 0 (va_A (wO cI cJ qO oRes oKno oGiv oTrp) sz) := by
  refine Met.ofW (cc := cX3_multiply) (maxL := 6) (ret := (some .long)) (by decide) rfl ?_
  intro p e s m args below meth c s₁ B hml hv
  obtain ⟨rfl, hsz, hP, hK, hD0⟩ := hv
  have hx := B.exec
  have hb := B.bytes
  have hr := B.returns
  have hts : ∀ w ∈ vG, w.before _ s = true := fun w h => atoms_spec (ws := (.code yX3_multiply cX3_multiply 6 (some .long) :: vG)) B.pre w (List.mem_cons_of_mem _ h)
  have hown : s.vm.findClass "LongMachine$Operation" = some m.cls := findClass_of_methodNamed B.named
  have hlocks := B.notSynchronized
  subst hsz
  have hD := hD0.self (sz := s.heap.size)
  generalize hAe : va_A (wO cI cJ qO oRes oKno oGiv oTrp) s.heap.size = A at hD ⊢
  have hA : ∀ q : Nat, s.heap.size ≤ q → A q := fun q h => by rw [← hAe]; exact Or.inr h
  have hS : va_S A s.heap s.heap [] := va_S.rf
  have hl := lv_entry ([.ref qO, .int z1, .long z2, .long z4]) (n := 6) (Nat.le_of_ble_eq_true rfl)
  rw [lg_entry_eq]
  generalize (lg_sl ([.ref qO, .int z1, .long z2, .long z4]) ++ List.replicate (6 - (lg_sl ([.ref qO, .int z1, .long z2, .long z4])).length) Slot.unset).toArray = ls at hl ⊢
  have hl : lv_has ls 6 [(0, .ref qO), (1, .int z1), (2, .long z2), (4, .long z4)] := hl
  obtain ⟨u, hu⟩ : ∃ u, u = f_X3_multiply z1 z2 z4 oKno oTrp := ⟨_, rfl⟩
  rw [← hu]
  unfold f_X3_multiply at hu
  refine lv_iload_n (pc := 0) hx hb dX3_multiply_0 rfl (lv_at hl 1 rfl) ?_
  rcases Decidable.em (z1 = (0 : Int32)) with h1_1 | h1_1
  · have hu := hu.trans (if_pos h1_1)
    refine lv_lookup (pc := 1) (tgt := 52) (off := 51) hx hb dX3_multiply_1 (by decide) (by rw [h1_1]; decide) (by decide) ?_
    refine lv_lload_n (pc := 52) hx hb dX3_multiply_52 rfl (lv_at hl 2 rfl) ?_
    refine lv_lload (pc := 53) hx hb dX3_multiply_53 (lv_at hl 3 rfl) ?_
    refine lv_lmul (pc := 55) hx hb dX3_multiply_55 ?_
    refine qa_calld (pc := 56) (v := .long (Int32.toInt64 (Int64.toInt32 (z2 * z4)))) (va_runS (As := [.long (z2 * z4)]) (rest := []) ⟨hx, hb, hml, hown, hts⟩ (c_X3_sx l (z2 * z4)) (va_cwS 1 hts (gd_S gm_262 gm_260 gm_261 gm_4) rfl rfl rfl (by decide +kernel) ⟨Nat.le_of_ble_eq_true rfl, Nat.le_of_ble_eq_true rfl⟩) qa_S0 rfl rfl hl.1 rfl (lv_room (Nat.le_of_ble_eq_true rfl)) dX3_multiply_56 ⟨Nat.zero_le _, Nat.zero_le _⟩) ?_
    subst hu
    exact W.lret hx hb hr (fun t ht hW => ⟨rfl, by rw [ht]; exact hP, hS.F ht⟩) hS.2.2 dX3_multiply_59
  · have hu := hu.trans (if_neg h1_1)
    have n1_0 : ¬ z1 = (0 : Int32) := h1_1
    rcases Decidable.em (z1 = (32 : Int32)) with h1_2 | h1_2
    · have hu := hu.trans (if_pos h1_2)
      refine lv_lookup (pc := 1) (tgt := 60) (off := 59) hx hb dX3_multiply_1 (by decide) (by rw [h1_2]; decide) (by decide) ?_
      refine lv_lload_n (pc := 60) hx hb dX3_multiply_60 rfl (lv_at hl 2 rfl) ?_
      refine lv_lload (pc := 61) hx hb dX3_multiply_61 (lv_at hl 3 rfl) ?_
      refine lv_lmul (pc := 63) hx hb dX3_multiply_63 ?_
      subst hu
      exact W.lret hx hb hr (fun t ht hW => ⟨rfl, by rw [ht]; exact hP, hS.F ht⟩) hS.2.2 dX3_multiply_64
    · have hu := hu.trans (if_neg h1_2)
      have n1_1 : ¬ z1 = (32 : Int32) := h1_2
      rcases Decidable.em (z1 = (48 : Int32)) with h1_3 | h1_3
      · have hu := hu.trans (if_pos h1_3)
        refine lv_lookup (pc := 1) (tgt := 65) (off := 64) hx hb dX3_multiply_1 (by decide) (by rw [h1_3]; decide) (by decide) ?_
        refine lv_lload_n (pc := 65) hx hb dX3_multiply_65 rfl (lv_at hl 2 rfl) ?_
        refine lv_lload (pc := 66) hx hb dX3_multiply_66 (lv_at hl 3 rfl) ?_
        refine qa_calld (pc := 68) (v := .long ((((jlushr z2 (32 : Int32)) * (jlushr z4 (32 : Int32))) + (jlushr (((jlushr z2 (32 : Int32)) * (z4 &&& (4294967295 : Int64))) + (jlushr ((z2 &&& (4294967295 : Int64)) * (z4 &&& (4294967295 : Int64))) (32 : Int32))) (32 : Int32))) + (jlushr (((z2 &&& (4294967295 : Int64)) * (jlushr z4 (32 : Int32))) + ((((jlushr z2 (32 : Int32)) * (z4 &&& (4294967295 : Int64))) + (jlushr ((z2 &&& (4294967295 : Int64)) * (z4 &&& (4294967295 : Int64))) (32 : Int32))) &&& (4294967295 : Int64))) (32 : Int32)))) (va_runS (As := [.long z2, .long z4]) (rest := []) ⟨hx, hb, hml, hown, hts⟩ (c_X3_upper l z2 z4) (va_cwS 2 hts (gd_S gm_303 gm_301 gm_302 gm_4) rfl rfl rfl (by decide +kernel) ⟨Nat.le_of_ble_eq_true rfl, Nat.le_of_ble_eq_true rfl⟩) qa_S0 rfl rfl hl.1 rfl (lv_room (Nat.le_of_ble_eq_true rfl)) dX3_multiply_68 ⟨Nat.zero_le _, Nat.zero_le _⟩) ?_
        subst hu
        exact W.lret hx hb hr (fun t ht hW => ⟨rfl, by rw [ht]; exact hP, hS.F ht⟩) hS.2.2 dX3_multiply_71
      · have hu := hu.trans (if_neg h1_3)
        have n1_2 : ¬ z1 = (48 : Int32) := h1_3
        rcases Decidable.em (z1 = (64 : Int32)) with h1_4 | h1_4
        · have hu := hu.trans (if_pos h1_4)
          refine lv_lookup (pc := 1) (tgt := 72) (off := 71) hx hb dX3_multiply_1 (by decide) (by rw [h1_4]; decide) (by decide) ?_
          refine lv_aload_n (pc := 72) hx hb dX3_multiply_72 rfl (lv_at hl 0 rfl) ?_
          refine lv_lload_n (pc := 73) hx hb dX3_multiply_73 rfl (lv_at hl 2 rfl) ?_
          refine lv_lload (pc := 74) hx hb dX3_multiply_74 (lv_at hl 3 rfl) ?_
          refine lv_lmul (pc := 76) hx hb dX3_multiply_76 ?_
          refine qa_calld (pc := 77) (v := .long (Int32.toInt64 (Int64.toInt32 (z2 * z4)))) (va_runS (As := [.long (z2 * z4)]) (rest := [.ref qO]) ⟨hx, hb, hml, hown, hts⟩ (c_X3_sx l (z2 * z4)) (va_cwS 1 hts (gd_S gm_262 gm_260 gm_261 gm_4) rfl rfl rfl (by decide +kernel) ⟨Nat.le_of_ble_eq_true rfl, Nat.le_of_ble_eq_true rfl⟩) qa_S0 rfl rfl hl.1 rfl (lv_room (Nat.le_of_ble_eq_true rfl)) dX3_multiply_77 ⟨Nat.zero_le _, Nat.zero_le _⟩) ?_
          refine lv_lload_n (pc := 80) hx hb dX3_multiply_80 rfl (lv_at hl 2 rfl) ?_
          refine qa_calld (pc := 81) (v := .long (Int32.toInt64 (Int64.toInt32 z2))) (va_runS (As := [.long z2]) (rest := [.long (Int32.toInt64 (Int64.toInt32 (z2 * z4))), .ref qO]) ⟨hx, hb, hml, hown, hts⟩ (c_X3_sx l z2) (va_cwS 1 hts (gd_S gm_262 gm_260 gm_261 gm_4) rfl rfl rfl (by decide +kernel) ⟨Nat.le_of_ble_eq_true rfl, Nat.le_of_ble_eq_true rfl⟩) qa_S0 rfl rfl hl.1 rfl (lv_room (Nat.le_of_ble_eq_true rfl)) dX3_multiply_81 ⟨Nat.zero_le _, Nat.zero_le _⟩) ?_
          refine lv_lload (pc := 84) hx hb dX3_multiply_84 (lv_at hl 3 rfl) ?_
          refine qa_calld (pc := 86) (v := .long (Int32.toInt64 (Int64.toInt32 z4))) (va_runS (As := [.long z4]) (rest := [.long (Int32.toInt64 (Int64.toInt32 z2)), .long (Int32.toInt64 (Int64.toInt32 (z2 * z4))), .ref qO]) ⟨hx, hb, hml, hown, hts⟩ (c_X3_sx l z4) (va_cwS 1 hts (gd_S gm_262 gm_260 gm_261 gm_4) rfl rfl rfl (by decide +kernel) ⟨Nat.le_of_ble_eq_true rfl, Nat.le_of_ble_eq_true rfl⟩) qa_S0 rfl rfl hl.1 rfl (lv_room (Nat.le_of_ble_eq_true rfl)) dX3_multiply_86 ⟨Nat.zero_le _, Nat.zero_le _⟩) ?_
          refine lv_lmul (pc := 89) hx hb dX3_multiply_89 ?_
          refine qa_joini (J := 99) (ls2 := ls) (rest2 := [.ref qO]) (if (Int32.toInt64 (Int64.toInt32 (z2 * z4))) = ((Int32.toInt64 (Int64.toInt32 z2)) * (Int32.toInt64 (Int64.toInt32 z4))) then (0 : Int32) else (1 : Int32)) (fun hj99 => ?_) ?_
          · refine qa_lc_eq (pc := 90) (tgt := 98) hx hb dX3_multiply_90 dX3_multiply_91 (by decide) (fun h90_5 => ?_) (fun h90_5 => ?_)
            · refine lv_iconst (pc := 98) (v := (0 : Int32)) hx hb dX3_multiply_98 (by decide) ?_
              exact hj99 _ (Eq.symm (if_pos h90_5))
            · refine lv_iconst (pc := 94) (v := (1 : Int32)) hx hb dX3_multiply_94 (by decide) ?_
              refine lv_goto (pc := 95) (tgt := 99) hx hb dX3_multiply_95 (by decide) ?_
              exact hj99 _ (Eq.symm (if_neg h90_5))
          refine lv_lload_n (pc := 99) hx hb dX3_multiply_99 rfl (lv_at hl 2 rfl) ?_
          refine lv_lload (pc := 100) hx hb dX3_multiply_100 (lv_at hl 3 rfl) ?_
          refine lv_lmul (pc := 102) hx hb dX3_multiply_102 ?_
          refine qa_calld (pc := 103) (v := .long (Int32.toInt64 (Int64.toInt32 (z2 * z4)))) (va_runS (As := [.long (z2 * z4)]) (rest := [.int (if (Int32.toInt64 (Int64.toInt32 (z2 * z4))) = ((Int32.toInt64 (Int64.toInt32 z2)) * (Int32.toInt64 (Int64.toInt32 z4))) then (0 : Int32) else (1 : Int32)), .ref qO]) ⟨hx, hb, hml, hown, hts⟩ (c_X3_sx l (z2 * z4)) (va_cwS 1 hts (gd_S gm_262 gm_260 gm_261 gm_4) rfl rfl rfl (by decide +kernel) ⟨Nat.le_of_ble_eq_true rfl, Nat.le_of_ble_eq_true rfl⟩) qa_S0 rfl rfl hl.1 rfl (lv_room (Nat.le_of_ble_eq_true rfl)) dX3_multiply_103 ⟨Nat.zero_le _, Nat.zero_le _⟩) ?_
          refine qa_calll (pc := 106) (wr := []) (wf := (wO cI cJ qO oRes oKno oGiv (if (Int32.toInt64 (Int64.toInt32 (z2 * z4))) = ((Int32.toInt64 (Int64.toInt32 z2)) * (Int32.toInt64 (Int64.toInt32 z4))) then (0 : Int32) else (1 : Int32)))) (va_runV (As := [.int (if (Int32.toInt64 (Int64.toInt32 (z2 * z4))) = ((Int32.toInt64 (Int64.toInt32 z2)) * (Int32.toInt64 (Int64.toInt32 z4))) then (0 : Int32) else (1 : Int32)), .long (Int32.toInt64 (Int64.toInt32 (z2 * z4)))]) (rest := []) ⟨hx, hb, hml, hown, hts⟩ (c_X3_trapIf l dC dI cI cJ qO s.heap.size oRes oKno oGiv oTrp (if (Int32.toInt64 (Int64.toInt32 (z2 * z4))) = ((Int32.toInt64 (Int64.toInt32 z2)) * (Int32.toInt64 (Int64.toInt32 z4))) then (0 : Int32) else (1 : Int32)) (Int32.toInt64 (Int64.toInt32 (z2 * z4))) (qa_bi qa_b0 qa_b1)) (cwV 2 hts (gd_V gm_267 gm_265 gm_266 gm_564 gm_4) rfl rfl rfl (by decide +kernel) ⟨Nat.le_of_ble_eq_true rfl, Nat.le_of_ble_eq_true rfl⟩) (qa_VM (q0 := 0) (q := ("LongMachine$Operation", TX3, 4)) hK hP rfl rfl hP hD) rfl rfl hl.1 rfl (lv_room (Nat.le_of_ble_eq_true rfl)) dX3_multiply_106 ⟨Nat.zero_le _, Nat.zero_le _⟩) hP hD hS hA [0] [] [0] rfl (by decide) rfl (by decide) (by decide) rfl rfl (by decide) (fun H locs hP hD hS => ?_)
          subst hu
          exact W.lret hx hb hr (fun t ht hW => ⟨rfl, by rw [ht]; exact hP, hS.F ht⟩) hS.2.2 dX3_multiply_109
        · have hu := hu.trans (if_neg h1_4)
          have n1_3 : ¬ z1 = (64 : Int32) := h1_4
          rcases Decidable.em (z1 = (96 : Int32)) with h1_6 | h1_6
          · have hu := hu.trans (if_pos h1_6)
            refine lv_lookup (pc := 1) (tgt := 110) (off := 109) hx hb dX3_multiply_1 (by decide) (by rw [h1_6]; decide) (by decide) ?_
            refine lv_aload_n (pc := 110) hx hb dX3_multiply_110 rfl (lv_at hl 0 rfl) ?_
            refine lv_lload_n (pc := 111) hx hb dX3_multiply_111 rfl (lv_at hl 2 rfl) ?_
            refine lv_lload (pc := 112) hx hb dX3_multiply_112 (lv_at hl 3 rfl) ?_
            refine qa_calld (pc := 114) (v := .long ((((jlushr z2 (32 : Int32)) * (jlushr z4 (32 : Int32))) + (jlushr (((jlushr z2 (32 : Int32)) * (z4 &&& (4294967295 : Int64))) + (jlushr ((z2 &&& (4294967295 : Int64)) * (z4 &&& (4294967295 : Int64))) (32 : Int32))) (32 : Int32))) + (jlushr (((z2 &&& (4294967295 : Int64)) * (jlushr z4 (32 : Int32))) + ((((jlushr z2 (32 : Int32)) * (z4 &&& (4294967295 : Int64))) + (jlushr ((z2 &&& (4294967295 : Int64)) * (z4 &&& (4294967295 : Int64))) (32 : Int32))) &&& (4294967295 : Int64))) (32 : Int32)))) (va_runS (As := [.long z2, .long z4]) (rest := [.ref qO]) ⟨hx, hb, hml, hown, hts⟩ (c_X3_upper l z2 z4) (va_cwS 2 hts (gd_S gm_303 gm_301 gm_302 gm_4) rfl rfl rfl (by decide +kernel) ⟨Nat.le_of_ble_eq_true rfl, Nat.le_of_ble_eq_true rfl⟩) qa_S0 rfl rfl hl.1 rfl (lv_room (Nat.le_of_ble_eq_true rfl)) dX3_multiply_114 ⟨Nat.zero_le _, Nat.zero_le _⟩) ?_
            refine lv_lload_n (pc := 117) hx hb dX3_multiply_117 rfl (lv_at hl 2 rfl) ?_
            refine lv_lload (pc := 118) hx hb dX3_multiply_118 (lv_at hl 3 rfl) ?_
            refine qa_calld (pc := 120) (v := .long ((((((jlushr z2 (32 : Int32)) * (jlushr z4 (32 : Int32))) + (jlushr (((jlushr z2 (32 : Int32)) * (z4 &&& (4294967295 : Int64))) + (jlushr ((z2 &&& (4294967295 : Int64)) * (z4 &&& (4294967295 : Int64))) (32 : Int32))) (32 : Int32))) + (jlushr (((z2 &&& (4294967295 : Int64)) * (jlushr z4 (32 : Int32))) + ((((jlushr z2 (32 : Int32)) * (z4 &&& (4294967295 : Int64))) + (jlushr ((z2 &&& (4294967295 : Int64)) * (z4 &&& (4294967295 : Int64))) (32 : Int32))) &&& (4294967295 : Int64))) (32 : Int32))) - (if (0 : Int64) ≤ z2 then (0 : Int64) else z4)) - (if (0 : Int64) ≤ z4 then (0 : Int64) else z2))) (va_runS (As := [.long ((((jlushr z2 (32 : Int32)) * (jlushr z4 (32 : Int32))) + (jlushr (((jlushr z2 (32 : Int32)) * (z4 &&& (4294967295 : Int64))) + (jlushr ((z2 &&& (4294967295 : Int64)) * (z4 &&& (4294967295 : Int64))) (32 : Int32))) (32 : Int32))) + (jlushr (((z2 &&& (4294967295 : Int64)) * (jlushr z4 (32 : Int32))) + ((((jlushr z2 (32 : Int32)) * (z4 &&& (4294967295 : Int64))) + (jlushr ((z2 &&& (4294967295 : Int64)) * (z4 &&& (4294967295 : Int64))) (32 : Int32))) &&& (4294967295 : Int64))) (32 : Int32))), .long z2, .long z4]) (rest := [.ref qO]) ⟨hx, hb, hml, hown, hts⟩ (c_X3_signedUpper l ((((jlushr z2 (32 : Int32)) * (jlushr z4 (32 : Int32))) + (jlushr (((jlushr z2 (32 : Int32)) * (z4 &&& (4294967295 : Int64))) + (jlushr ((z2 &&& (4294967295 : Int64)) * (z4 &&& (4294967295 : Int64))) (32 : Int32))) (32 : Int32))) + (jlushr (((z2 &&& (4294967295 : Int64)) * (jlushr z4 (32 : Int32))) + ((((jlushr z2 (32 : Int32)) * (z4 &&& (4294967295 : Int64))) + (jlushr ((z2 &&& (4294967295 : Int64)) * (z4 &&& (4294967295 : Int64))) (32 : Int32))) &&& (4294967295 : Int64))) (32 : Int32))) z2 z4) (va_cwS 3 hts (gd_S gm_307 gm_305 gm_306 gm_4) rfl rfl rfl (by decide +kernel) ⟨Nat.le_of_ble_eq_true rfl, Nat.le_of_ble_eq_true rfl⟩) qa_S0 rfl rfl hl.1 rfl (lv_room (Nat.le_of_ble_eq_true rfl)) dX3_multiply_120 ⟨Nat.zero_le _, Nat.zero_le _⟩) ?_
            refine lv_lload_n (pc := 123) hx hb dX3_multiply_123 rfl (lv_at hl 2 rfl) ?_
            refine lv_lload (pc := 124) hx hb dX3_multiply_124 (lv_at hl 3 rfl) ?_
            refine lv_lmul (pc := 126) hx hb dX3_multiply_126 ?_
            refine lv_bipush (pc := 127) (v := (63 : Int32)) hx hb dX3_multiply_127 (by decide) ?_
            refine lv_lshr (pc := 129) (v := (jlshr (z2 * z4) (63 : Int32))) hx hb dX3_multiply_129 rfl ?_
            refine qa_joini (J := 139) (ls2 := ls) (rest2 := [.ref qO]) (if ((((((jlushr z2 (32 : Int32)) * (jlushr z4 (32 : Int32))) + (jlushr (((jlushr z2 (32 : Int32)) * (z4 &&& (4294967295 : Int64))) + (jlushr ((z2 &&& (4294967295 : Int64)) * (z4 &&& (4294967295 : Int64))) (32 : Int32))) (32 : Int32))) + (jlushr (((z2 &&& (4294967295 : Int64)) * (jlushr z4 (32 : Int32))) + ((((jlushr z2 (32 : Int32)) * (z4 &&& (4294967295 : Int64))) + (jlushr ((z2 &&& (4294967295 : Int64)) * (z4 &&& (4294967295 : Int64))) (32 : Int32))) &&& (4294967295 : Int64))) (32 : Int32))) - (if (0 : Int64) ≤ z2 then (0 : Int64) else z4)) - (if (0 : Int64) ≤ z4 then (0 : Int64) else z2)) = (jlshr (z2 * z4) (63 : Int32)) then (0 : Int32) else (1 : Int32)) (fun hj139 => ?_) ?_
            · refine qa_lc_eq (pc := 130) (tgt := 138) hx hb dX3_multiply_130 dX3_multiply_131 (by decide) (fun h130_7 => ?_) (fun h130_7 => ?_)
              · refine lv_iconst (pc := 138) (v := (0 : Int32)) hx hb dX3_multiply_138 (by decide) ?_
                exact hj139 _ (Eq.symm (if_pos h130_7))
              · refine lv_iconst (pc := 134) (v := (1 : Int32)) hx hb dX3_multiply_134 (by decide) ?_
                refine lv_goto (pc := 135) (tgt := 139) hx hb dX3_multiply_135 (by decide) ?_
                exact hj139 _ (Eq.symm (if_neg h130_7))
            refine lv_lload_n (pc := 139) hx hb dX3_multiply_139 rfl (lv_at hl 2 rfl) ?_
            refine lv_lload (pc := 140) hx hb dX3_multiply_140 (lv_at hl 3 rfl) ?_
            refine lv_lmul (pc := 142) hx hb dX3_multiply_142 ?_
            refine qa_calll (pc := 143) (wr := []) (wf := (wO cI cJ qO oRes oKno oGiv (if ((((((jlushr z2 (32 : Int32)) * (jlushr z4 (32 : Int32))) + (jlushr (((jlushr z2 (32 : Int32)) * (z4 &&& (4294967295 : Int64))) + (jlushr ((z2 &&& (4294967295 : Int64)) * (z4 &&& (4294967295 : Int64))) (32 : Int32))) (32 : Int32))) + (jlushr (((z2 &&& (4294967295 : Int64)) * (jlushr z4 (32 : Int32))) + ((((jlushr z2 (32 : Int32)) * (z4 &&& (4294967295 : Int64))) + (jlushr ((z2 &&& (4294967295 : Int64)) * (z4 &&& (4294967295 : Int64))) (32 : Int32))) &&& (4294967295 : Int64))) (32 : Int32))) - (if (0 : Int64) ≤ z2 then (0 : Int64) else z4)) - (if (0 : Int64) ≤ z4 then (0 : Int64) else z2)) = (jlshr (z2 * z4) (63 : Int32)) then (0 : Int32) else (1 : Int32)))) (va_runV (As := [.int (if ((((((jlushr z2 (32 : Int32)) * (jlushr z4 (32 : Int32))) + (jlushr (((jlushr z2 (32 : Int32)) * (z4 &&& (4294967295 : Int64))) + (jlushr ((z2 &&& (4294967295 : Int64)) * (z4 &&& (4294967295 : Int64))) (32 : Int32))) (32 : Int32))) + (jlushr (((z2 &&& (4294967295 : Int64)) * (jlushr z4 (32 : Int32))) + ((((jlushr z2 (32 : Int32)) * (z4 &&& (4294967295 : Int64))) + (jlushr ((z2 &&& (4294967295 : Int64)) * (z4 &&& (4294967295 : Int64))) (32 : Int32))) &&& (4294967295 : Int64))) (32 : Int32))) - (if (0 : Int64) ≤ z2 then (0 : Int64) else z4)) - (if (0 : Int64) ≤ z4 then (0 : Int64) else z2)) = (jlshr (z2 * z4) (63 : Int32)) then (0 : Int32) else (1 : Int32)), .long (z2 * z4)]) (rest := []) ⟨hx, hb, hml, hown, hts⟩ (c_X3_trapIf l dC dI cI cJ qO s.heap.size oRes oKno oGiv oTrp (if ((((((jlushr z2 (32 : Int32)) * (jlushr z4 (32 : Int32))) + (jlushr (((jlushr z2 (32 : Int32)) * (z4 &&& (4294967295 : Int64))) + (jlushr ((z2 &&& (4294967295 : Int64)) * (z4 &&& (4294967295 : Int64))) (32 : Int32))) (32 : Int32))) + (jlushr (((z2 &&& (4294967295 : Int64)) * (jlushr z4 (32 : Int32))) + ((((jlushr z2 (32 : Int32)) * (z4 &&& (4294967295 : Int64))) + (jlushr ((z2 &&& (4294967295 : Int64)) * (z4 &&& (4294967295 : Int64))) (32 : Int32))) &&& (4294967295 : Int64))) (32 : Int32))) - (if (0 : Int64) ≤ z2 then (0 : Int64) else z4)) - (if (0 : Int64) ≤ z4 then (0 : Int64) else z2)) = (jlshr (z2 * z4) (63 : Int32)) then (0 : Int32) else (1 : Int32)) (z2 * z4) (qa_bi qa_b0 qa_b1)) (cwV 2 hts (gd_V gm_267 gm_265 gm_266 gm_564 gm_4) rfl rfl rfl (by decide +kernel) ⟨Nat.le_of_ble_eq_true rfl, Nat.le_of_ble_eq_true rfl⟩) (qa_VM (q0 := 0) (q := ("LongMachine$Operation", TX3, 4)) hK hP rfl rfl hP hD) rfl rfl hl.1 rfl (lv_room (Nat.le_of_ble_eq_true rfl)) dX3_multiply_143 ⟨Nat.zero_le _, Nat.zero_le _⟩) hP hD hS hA [0] [] [0] rfl (by decide) rfl (by decide) (by decide) rfl rfl (by decide) (fun H locs hP hD hS => ?_)
            subst hu
            exact W.lret hx hb hr (fun t ht hW => ⟨rfl, by rw [ht]; exact hP, hS.F ht⟩) hS.2.2 dX3_multiply_146
          · have hu := hu.trans (if_neg h1_6)
            have n1_4 : ¬ z1 = (96 : Int32) := h1_6
            refine lv_lookup (pc := 1) (tgt := 147) (off := 146) hx hb dX3_multiply_1 (by decide) ((lv_osw n1_0 (by decide)).trans ((lv_osw n1_1 (by decide)).trans ((lv_osw n1_2 (by decide)).trans ((lv_osw n1_3 (by decide)).trans ((lv_osw n1_4 (by decide)).trans (rfl)))))) (by decide) ?_
            refine lv_aload_n (pc := 147) hx hb dX3_multiply_147 rfl (lv_at hl 0 rfl) ?_
            refine lv_iconst (pc := 148) (v := (0 : Int32)) hx hb dX3_multiply_148 (by decide) ?_
            refine va_put (D := (dC, dI)) (pc := 149) (ci := 3) (v := .int (0 : Int32)) (ty := .boolean) (C := "LongMachine$Operation") (T := TX3) (N := 4) hx hb hts ui_X3 tyX3 tyX3_ok nmX3 hown hK hP hD hS 0 rfl rfl 1 (by decide) (hts _ gm_61) (fun _ h9 => h9) rfl (by decide +kernel) rfl rfl (Nat.le_of_ble_eq_true rfl) dX3_multiply_149 (fun H locs hP hD hS => ?_)
            have hP : va_P (dC, dI) vwCl (wO cI cJ qO oRes (0 : Int32) oGiv oTrp) H := hP
            have hD : va_D A (wO cI cJ qO oRes (0 : Int32) oGiv oTrp) := hD
            refine lv_lconst (pc := 152) (v := (0 : Int64)) hx hb dX3_multiply_152 (by decide) ?_
            subst hu
            exact W.lret hx hb hr (fun t ht hW => ⟨rfl, by rw [ht]; exact hP, hS.F ht⟩) hS.2.2 dX3_multiply_153
def f_X3_compute_K54_1  (r54_1 : Int64 × Int32 × Int32) : Int64 × Int32 × Int32 × Int32 := (r54_1.1, r54_1.2.1, (1 : Int32), r54_1.2.2)
def f_X3_compute_K69_2  (r69_2 : Int64 × Int32 × Int32) : Int64 × Int32 × Int32 × Int32 := (r69_2.1, r69_2.2.1, r69_2.2.2, (0 : Int32))
def f_X3_compute_K84_3  (r84_3 : Int64 × Int32) : Int64 × Int32 × Int32 × Int32 := (r84_3.1, r84_3.2, (1 : Int32), (0 : Int32))
def f_X3_compute_K99_4  (r99_4 : Int64 × Int32 × Int32) : Int64 × Int32 × Int32 × Int32 := (r99_4.1, r99_4.2.1, (1 : Int32), r99_4.2.2)
def f_X3_compute (z1 : Int32) (z2 : Int32) (z3 : Int64) (z5 : Int64) (oRes : Int64) : Int64 × Int32 × Int32 × Int32 := (if z1 = (16 : Int32) then (f_X3_compute_K54_1  (f_X3_add z2 z3 z5 (1 : Int32) (0 : Int32))) else (if z1 = (17 : Int32) then (f_X3_compute_K69_2  (f_X3_combine z2 z3 z5 (1 : Int32) (1 : Int32))) else (if z1 = (18 : Int32) then (f_X3_compute_K84_3  (f_X3_shift z2 z3 z5 (1 : Int32))) else (if z1 = (19 : Int32) then (f_X3_compute_K99_4  (f_X3_multiply z2 z3 z5 (1 : Int32) (0 : Int32))) else (oRes, (0 : Int32), (1 : Int32), (0 : Int32))))))
set_option maxRecDepth 100000 in
set_option maxHeartbeats 4000000 in
theorem c_X3_compute (l : Launch) (dC : Nat → ClassId) (dI : Nat → Nat → Nat) (cI cJ : ClassId) (qO : Nat) (sz : Nat) (oRes : Int64) (oKno : Int32) (oGiv : Int32) (oTrp : Int32) (z1 : Int32) (z2 : Int32) (z3 : Int64) (z5 : Int64) : Met l yX3_compute (.code yX3_compute cX3_compute 7 none :: vG) ({ frames := 2, cells := 0, slots := 0, locals := 60 }) (va_Pc [.ref qO, .int z1, .int z2, .long z3, .long z5] (qa_pre (dC, dI) vwCl (wO cI cJ qO oRes oKno oGiv oTrp) [(cI, .int), (cJ, .long)] sz)) (qa_mod none (dC, dI) vwCl (wO cI cJ qO ((f_X3_compute z1 z2 z3 z5 oRes).1) ((f_X3_compute z1 z2 z3 z5 oRes).2.1) ((f_X3_compute z1 z2 z3 z5 oRes).2.2.1) ((f_X3_compute z1 z2 z3 z5 oRes).2.2.2)) (va_A (wO cI cJ qO oRes oKno oGiv oTrp) sz)) 0 0 (va_A (wO cI cJ qO oRes oKno oGiv oTrp) sz) := by
  refine Met.ofW (cc := cX3_compute) (maxL := 7) (ret := none) (by decide) rfl ?_
  intro p e s m args below meth c s₁ B hml hv
  obtain ⟨rfl, hsz, hP, hK, hD0⟩ := hv
  have hx := B.exec
  have hb := B.bytes
  have hr := B.returns
  have hts : ∀ w ∈ vG, w.before _ s = true := fun w h => atoms_spec (ws := (.code yX3_compute cX3_compute 7 none :: vG)) B.pre w (List.mem_cons_of_mem _ h)
  have hown : s.vm.findClass "LongMachine$Operation" = some m.cls := findClass_of_methodNamed B.named
  have hlocks := B.notSynchronized
  subst hsz
  have hD := hD0.self (sz := s.heap.size)
  generalize hAe : va_A (wO cI cJ qO oRes oKno oGiv oTrp) s.heap.size = A at hD ⊢
  have hA : ∀ q : Nat, s.heap.size ≤ q → A q := fun q h => by rw [← hAe]; exact Or.inr h
  have hS : va_S A s.heap s.heap [] := va_S.rf
  have hl := lv_entry ([.ref qO, .int z1, .int z2, .long z3, .long z5]) (n := 7) (Nat.le_of_ble_eq_true rfl)
  rw [lg_entry_eq]
  generalize (lg_sl ([.ref qO, .int z1, .int z2, .long z3, .long z5]) ++ List.replicate (7 - (lg_sl ([.ref qO, .int z1, .int z2, .long z3, .long z5])).length) Slot.unset).toArray = ls at hl ⊢
  have hl : lv_has ls 7 [(0, .ref qO), (1, .int z1), (2, .int z2), (3, .long z3), (5, .long z5)] := hl
  obtain ⟨u, hu⟩ : ∃ u, u = f_X3_compute z1 z2 z3 z5 oRes := ⟨_, rfl⟩
  rw [← hu]
  unfold f_X3_compute at hu
  refine lv_aload_n (pc := 0) hx hb dX3_compute_0 rfl (lv_at hl 0 rfl) ?_
  refine lv_iconst (pc := 1) (v := (1 : Int32)) hx hb dX3_compute_1 (by decide) ?_
  refine va_put (D := (dC, dI)) (pc := 2) (ci := 3) (v := .int (1 : Int32)) (ty := .boolean) (C := "LongMachine$Operation") (T := TX3) (N := 4) hx hb hts ui_X3 tyX3 tyX3_ok nmX3 hown hK hP hD hS 0 rfl rfl 1 (by decide) (hts _ gm_61) (fun _ h9 => h9) rfl (by decide +kernel) rfl rfl (Nat.le_of_ble_eq_true rfl) dX3_compute_2 (fun H locs hP hD hS => ?_)
  have hP : va_P (dC, dI) vwCl (wO cI cJ qO oRes (1 : Int32) oGiv oTrp) H := hP
  have hD : va_D A (wO cI cJ qO oRes (1 : Int32) oGiv oTrp) := hD
  refine lv_aload_n (pc := 5) hx hb dX3_compute_5 rfl (lv_at hl 0 rfl) ?_
  refine lv_iconst (pc := 6) (v := (1 : Int32)) hx hb dX3_compute_6 (by decide) ?_
  refine va_put (D := (dC, dI)) (pc := 7) (ci := 3) (v := .int (1 : Int32)) (ty := .boolean) (C := "LongMachine$Operation") (T := TX3) (N := 4) hx hb hts ui_X3 tyX3 tyX3_ok nmX3 hown hK hP hD hS 0 rfl rfl 2 (by decide) (hts _ gm_63) (fun _ h9 => h9) rfl (by decide +kernel) rfl rfl (Nat.le_of_ble_eq_true rfl) dX3_compute_7 (fun H locs hP hD hS => ?_)
  have hP : va_P (dC, dI) vwCl (wO cI cJ qO oRes (1 : Int32) (1 : Int32) oTrp) H := hP
  have hD : va_D A (wO cI cJ qO oRes (1 : Int32) (1 : Int32) oTrp) := hD
  refine lv_aload_n (pc := 10) hx hb dX3_compute_10 rfl (lv_at hl 0 rfl) ?_
  refine lv_iconst (pc := 11) (v := (0 : Int32)) hx hb dX3_compute_11 (by decide) ?_
  refine va_put (D := (dC, dI)) (pc := 12) (ci := 3) (v := .int (0 : Int32)) (ty := .boolean) (C := "LongMachine$Operation") (T := TX3) (N := 4) hx hb hts ui_X3 tyX3 tyX3_ok nmX3 hown hK hP hD hS 0 rfl rfl 3 (by decide) (hts _ gm_65) (fun _ h9 => h9) rfl (by decide +kernel) rfl rfl (Nat.le_of_ble_eq_true rfl) dX3_compute_12 (fun H locs hP hD hS => ?_)
  have hP : va_P (dC, dI) vwCl (wO cI cJ qO oRes (1 : Int32) (1 : Int32) (0 : Int32)) H := hP
  have hD : va_D A (wO cI cJ qO oRes (1 : Int32) (1 : Int32) (0 : Int32)) := hD
  refine lv_iload_n (pc := 15) hx hb dX3_compute_15 rfl (lv_at hl 1 rfl) ?_
  rcases Decidable.em (z1 = (16 : Int32)) with h16_1 | h16_1
  · have hu := hu.trans (if_pos h16_1)
    refine qa_table (pc := 16) (tgt := 48) (off := 32) hx hb dX3_compute_16 (Or.inr (by rw [h16_1]; decide)) (by decide) ?_
    refine lv_aload_n (pc := 48) hx hb dX3_compute_48 rfl (lv_at hl 0 rfl) ?_
    refine lv_aload_n (pc := 49) hx hb dX3_compute_49 rfl (lv_at hl 0 rfl) ?_
    refine lv_iload_n (pc := 50) hx hb dX3_compute_50 rfl (lv_at hl 2 rfl) ?_
    refine lv_lload_n (pc := 51) hx hb dX3_compute_51 rfl (lv_at hl 3 rfl) ?_
    refine lv_lload (pc := 52) hx hb dX3_compute_52 (lv_at hl 4 rfl) ?_
    have hc := c_X3_add l dC dI cI cJ qO H.size oRes (1 : Int32) (1 : Int32) (0 : Int32) z2 z3 z5
    generalize er54_1 : f_X3_add z2 z3 z5 (1 : Int32) (0 : Int32) = r54_1 at hu hc
    unfold f_X3_compute_K54_1 at hu
    refine qa_calll (pc := 54) (wr := []) (wf := (wO cI cJ qO oRes r54_1.2.1 (1 : Int32) r54_1.2.2)) (va_runV (As := [.int z2, .long z3, .long z5]) (rest := [.ref qO]) ⟨hx, hb, hml, hown, hts⟩ hc (cwV 3 hts (gd_V gm_259 gm_257 gm_258 gm_563 gm_4) rfl rfl rfl (by decide +kernel) ⟨Nat.le_of_ble_eq_true rfl, Nat.le_of_ble_eq_true rfl⟩) (qa_VM (q0 := 0) (q := ("LongMachine$Operation", TX3, 4)) hK hP rfl rfl hP hD) rfl rfl hl.1 rfl (lv_room (Nat.le_of_ble_eq_true rfl)) dX3_compute_54 ⟨Nat.zero_le _, Nat.zero_le _⟩) hP hD hS hA [0] [] [0] rfl (by decide) rfl (by decide) (by decide) rfl rfl (by decide) (fun H locs hP hD hS => ?_)
    refine va_put (D := (dC, dI)) (pc := 57) (ci := 3) (v := .long r54_1.1) (ty := .long) (C := "LongMachine$Operation") (T := TX3) (N := 4) hx hb hts ui_X3 tyX3 tyX3_ok nmX3 hown hK hP hD hS 0 rfl rfl 0 (by decide) (hts _ gm_59) (fun _ h9 => h9) rfl (by decide +kernel) rfl rfl (Nat.le_of_ble_eq_true rfl) dX3_compute_57 (fun H locs hP hD hS => ?_)
    have hP : va_P (dC, dI) vwCl (wO cI cJ qO r54_1.1 r54_1.2.1 (1 : Int32) r54_1.2.2) H := hP
    have hD : va_D A (wO cI cJ qO r54_1.1 r54_1.2.1 (1 : Int32) r54_1.2.2) := hD
    refine lv_goto (pc := 60) (tgt := 113) hx hb dX3_compute_60 (by decide) ?_
    subst hu
    exact W.vret hx hb hr (fun t ht hW => ⟨rfl, by rw [ht]; exact hP, hS.F ht⟩) hS.2.2 dX3_compute_113
  · have hu := hu.trans (if_neg h16_1)
    have n16_0 : ¬ z1 = (16 : Int32) := h16_1
    rcases Decidable.em (z1 = (17 : Int32)) with h16_2 | h16_2
    · have hu := hu.trans (if_pos h16_2)
      refine qa_table (pc := 16) (tgt := 63) (off := 47) hx hb dX3_compute_16 (Or.inr (by rw [h16_2]; decide)) (by decide) ?_
      refine lv_aload_n (pc := 63) hx hb dX3_compute_63 rfl (lv_at hl 0 rfl) ?_
      refine lv_aload_n (pc := 64) hx hb dX3_compute_64 rfl (lv_at hl 0 rfl) ?_
      refine lv_iload_n (pc := 65) hx hb dX3_compute_65 rfl (lv_at hl 2 rfl) ?_
      refine lv_lload_n (pc := 66) hx hb dX3_compute_66 rfl (lv_at hl 3 rfl) ?_
      refine lv_lload (pc := 67) hx hb dX3_compute_67 (lv_at hl 4 rfl) ?_
      have hc := c_X3_combine l dC dI cI cJ qO H.size oRes (1 : Int32) (1 : Int32) (0 : Int32) z2 z3 z5
      generalize er69_2 : f_X3_combine z2 z3 z5 (1 : Int32) (1 : Int32) = r69_2 at hu hc
      unfold f_X3_compute_K69_2 at hu
      refine qa_calll (pc := 69) (wr := []) (wf := (wO cI cJ qO oRes r69_2.2.1 r69_2.2.2 (0 : Int32))) (va_runV (As := [.int z2, .long z3, .long z5]) (rest := [.ref qO]) ⟨hx, hb, hml, hown, hts⟩ hc (cwV 3 hts (gd_V gm_281 gm_279 gm_280 gm_565 gm_4) rfl rfl rfl (by decide +kernel) ⟨Nat.le_of_ble_eq_true rfl, Nat.le_of_ble_eq_true rfl⟩) (qa_VM (q0 := 0) (q := ("LongMachine$Operation", TX3, 4)) hK hP rfl rfl hP hD) rfl rfl hl.1 rfl (lv_room (Nat.le_of_ble_eq_true rfl)) dX3_compute_69 ⟨Nat.zero_le _, Nat.zero_le _⟩) hP hD hS hA [0] [] [0] rfl (by decide) rfl (by decide) (by decide) rfl rfl (by decide) (fun H locs hP hD hS => ?_)
      refine va_put (D := (dC, dI)) (pc := 72) (ci := 3) (v := .long r69_2.1) (ty := .long) (C := "LongMachine$Operation") (T := TX3) (N := 4) hx hb hts ui_X3 tyX3 tyX3_ok nmX3 hown hK hP hD hS 0 rfl rfl 0 (by decide) (hts _ gm_59) (fun _ h9 => h9) rfl (by decide +kernel) rfl rfl (Nat.le_of_ble_eq_true rfl) dX3_compute_72 (fun H locs hP hD hS => ?_)
      have hP : va_P (dC, dI) vwCl (wO cI cJ qO r69_2.1 r69_2.2.1 r69_2.2.2 (0 : Int32)) H := hP
      have hD : va_D A (wO cI cJ qO r69_2.1 r69_2.2.1 r69_2.2.2 (0 : Int32)) := hD
      refine lv_goto (pc := 75) (tgt := 113) hx hb dX3_compute_75 (by decide) ?_
      subst hu
      exact W.vret hx hb hr (fun t ht hW => ⟨rfl, by rw [ht]; exact hP, hS.F ht⟩) hS.2.2 dX3_compute_113
    · have hu := hu.trans (if_neg h16_2)
      have n16_1 : ¬ z1 = (17 : Int32) := h16_2
      rcases Decidable.em (z1 = (18 : Int32)) with h16_3 | h16_3
      · have hu := hu.trans (if_pos h16_3)
        refine qa_table (pc := 16) (tgt := 78) (off := 62) hx hb dX3_compute_16 (Or.inr (by rw [h16_3]; decide)) (by decide) ?_
        refine lv_aload_n (pc := 78) hx hb dX3_compute_78 rfl (lv_at hl 0 rfl) ?_
        refine lv_aload_n (pc := 79) hx hb dX3_compute_79 rfl (lv_at hl 0 rfl) ?_
        refine lv_iload_n (pc := 80) hx hb dX3_compute_80 rfl (lv_at hl 2 rfl) ?_
        refine lv_lload_n (pc := 81) hx hb dX3_compute_81 rfl (lv_at hl 3 rfl) ?_
        refine lv_lload (pc := 82) hx hb dX3_compute_82 (lv_at hl 4 rfl) ?_
        have hc := c_X3_shift l dC dI cI cJ qO H.size oRes (1 : Int32) (1 : Int32) (0 : Int32) z2 z3 z5
        generalize er84_3 : f_X3_shift z2 z3 z5 (1 : Int32) = r84_3 at hu hc
        unfold f_X3_compute_K84_3 at hu
        refine qa_calll (pc := 84) (wr := []) (wf := (wO cI cJ qO oRes r84_3.2 (1 : Int32) (0 : Int32))) (va_runV (As := [.int z2, .long z3, .long z5]) (rest := [.ref qO]) ⟨hx, hb, hml, hown, hts⟩ hc (cwV 3 hts (gd_V gm_288 gm_286 gm_287 gm_567 gm_4) rfl rfl rfl (by decide +kernel) ⟨Nat.le_of_ble_eq_true rfl, Nat.le_of_ble_eq_true rfl⟩) (qa_VM (q0 := 0) (q := ("LongMachine$Operation", TX3, 4)) hK hP rfl rfl hP hD) rfl rfl hl.1 rfl (lv_room (Nat.le_of_ble_eq_true rfl)) dX3_compute_84 ⟨Nat.zero_le _, Nat.zero_le _⟩) hP hD hS hA [0] [] [0] rfl (by decide) rfl (by decide) (by decide) rfl rfl (by decide) (fun H locs hP hD hS => ?_)
        refine va_put (D := (dC, dI)) (pc := 87) (ci := 3) (v := .long r84_3.1) (ty := .long) (C := "LongMachine$Operation") (T := TX3) (N := 4) hx hb hts ui_X3 tyX3 tyX3_ok nmX3 hown hK hP hD hS 0 rfl rfl 0 (by decide) (hts _ gm_59) (fun _ h9 => h9) rfl (by decide +kernel) rfl rfl (Nat.le_of_ble_eq_true rfl) dX3_compute_87 (fun H locs hP hD hS => ?_)
        have hP : va_P (dC, dI) vwCl (wO cI cJ qO r84_3.1 r84_3.2 (1 : Int32) (0 : Int32)) H := hP
        have hD : va_D A (wO cI cJ qO r84_3.1 r84_3.2 (1 : Int32) (0 : Int32)) := hD
        refine lv_goto (pc := 90) (tgt := 113) hx hb dX3_compute_90 (by decide) ?_
        subst hu
        exact W.vret hx hb hr (fun t ht hW => ⟨rfl, by rw [ht]; exact hP, hS.F ht⟩) hS.2.2 dX3_compute_113
      · have hu := hu.trans (if_neg h16_3)
        have n16_2 : ¬ z1 = (18 : Int32) := h16_3
        rcases Decidable.em (z1 = (19 : Int32)) with h16_4 | h16_4
        · have hu := hu.trans (if_pos h16_4)
          refine qa_table (pc := 16) (tgt := 93) (off := 77) hx hb dX3_compute_16 (Or.inr (by rw [h16_4]; decide)) (by decide) ?_
          refine lv_aload_n (pc := 93) hx hb dX3_compute_93 rfl (lv_at hl 0 rfl) ?_
          refine lv_aload_n (pc := 94) hx hb dX3_compute_94 rfl (lv_at hl 0 rfl) ?_
          refine lv_iload_n (pc := 95) hx hb dX3_compute_95 rfl (lv_at hl 2 rfl) ?_
          refine lv_lload_n (pc := 96) hx hb dX3_compute_96 rfl (lv_at hl 3 rfl) ?_
          refine lv_lload (pc := 97) hx hb dX3_compute_97 (lv_at hl 4 rfl) ?_
          have hc := c_X3_multiply l dC dI cI cJ qO H.size oRes (1 : Int32) (1 : Int32) (0 : Int32) z2 z3 z5
          generalize er99_4 : f_X3_multiply z2 z3 z5 (1 : Int32) (0 : Int32) = r99_4 at hu hc
          unfold f_X3_compute_K99_4 at hu
          refine qa_calll (pc := 99) (wr := []) (wf := (wO cI cJ qO oRes r99_4.2.1 (1 : Int32) r99_4.2.2)) (va_runV (As := [.int z2, .long z3, .long z5]) (rest := [.ref qO]) ⟨hx, hb, hml, hown, hts⟩ hc (cwV 3 hts (gd_V gm_300 gm_298 gm_299 gm_570 gm_4) rfl rfl rfl (by decide +kernel) ⟨Nat.le_of_ble_eq_true rfl, Nat.le_of_ble_eq_true rfl⟩) (qa_VM (q0 := 0) (q := ("LongMachine$Operation", TX3, 4)) hK hP rfl rfl hP hD) rfl rfl hl.1 rfl (lv_room (Nat.le_of_ble_eq_true rfl)) dX3_compute_99 ⟨Nat.zero_le _, Nat.zero_le _⟩) hP hD hS hA [0] [] [0] rfl (by decide) rfl (by decide) (by decide) rfl rfl (by decide) (fun H locs hP hD hS => ?_)
          refine va_put (D := (dC, dI)) (pc := 102) (ci := 3) (v := .long r99_4.1) (ty := .long) (C := "LongMachine$Operation") (T := TX3) (N := 4) hx hb hts ui_X3 tyX3 tyX3_ok nmX3 hown hK hP hD hS 0 rfl rfl 0 (by decide) (hts _ gm_59) (fun _ h9 => h9) rfl (by decide +kernel) rfl rfl (Nat.le_of_ble_eq_true rfl) dX3_compute_102 (fun H locs hP hD hS => ?_)
          have hP : va_P (dC, dI) vwCl (wO cI cJ qO r99_4.1 r99_4.2.1 (1 : Int32) r99_4.2.2) H := hP
          have hD : va_D A (wO cI cJ qO r99_4.1 r99_4.2.1 (1 : Int32) r99_4.2.2) := hD
          refine lv_goto (pc := 105) (tgt := 113) hx hb dX3_compute_105 (by decide) ?_
          subst hu
          exact W.vret hx hb hr (fun t ht hW => ⟨rfl, by rw [ht]; exact hP, hS.F ht⟩) hS.2.2 dX3_compute_113
        · have hu := hu.trans (if_neg h16_4)
          have n16_3 : ¬ z1 = (19 : Int32) := h16_4
          refine qa_table (pc := 16) (tgt := 108) (off := 92) hx hb dX3_compute_16 (Or.inl ⟨by have := lv_neT n16_0 (by decide : ((16 : Int32)).toInt = 16); have := lv_neT n16_1 (by decide : ((17 : Int32)).toInt = 17); have := lv_neT n16_2 (by decide : ((18 : Int32)).toInt = 18); have := lv_neT n16_3 (by decide : ((19 : Int32)).toInt = 19); omega, rfl⟩) (by decide) ?_
          refine lv_aload_n (pc := 108) hx hb dX3_compute_108 rfl (lv_at hl 0 rfl) ?_
          refine lv_iconst (pc := 109) (v := (0 : Int32)) hx hb dX3_compute_109 (by decide) ?_
          refine va_put (D := (dC, dI)) (pc := 110) (ci := 3) (v := .int (0 : Int32)) (ty := .boolean) (C := "LongMachine$Operation") (T := TX3) (N := 4) hx hb hts ui_X3 tyX3 tyX3_ok nmX3 hown hK hP hD hS 0 rfl rfl 1 (by decide) (hts _ gm_61) (fun _ h9 => h9) rfl (by decide +kernel) rfl rfl (Nat.le_of_ble_eq_true rfl) dX3_compute_110 (fun H locs hP hD hS => ?_)
          have hP : va_P (dC, dI) vwCl (wO cI cJ qO oRes (0 : Int32) (1 : Int32) (0 : Int32)) H := hP
          have hD : va_D A (wO cI cJ qO oRes (0 : Int32) (1 : Int32) (0 : Int32)) := hD
          subst hu
          exact W.vret hx hb hr (fun t ht hW => ⟨rfl, by rw [ht]; exact hP, hS.F ht⟩) hS.2.2 dX3_compute_113
end
